-- CONTRACTS OF METHODS THAT THROW
def gQT (D : va_G) (ak : Nat → ClassId) (o n : Nat) (cls : String) (post : (Nat → va_E) → Prop) : Array Value → State → Outcome → State → Prop := fun _ st oc t =>
  ∃ (x : Addr) (ce : Cell) (sg' : Nat → va_E) (L : List Loc), oc = .threw x ∧ t.heap[x]? = some ce ∧ ce.vm = .none ∧ st.vm.findClass cls = some ce.cls ∧ post sg' ∧ va_P D classes (gw ak o n sg') t.heap ∧ va_F (gA o) st t ∧ st.WarmedH t.vm ∧ st.sameButNew ({ t with vm := st.vm } : State) L 1 6 ∧ ∀ q ∈ L, gA o q.base
def GT (l : Launch) (y : MethodName) (b : ByteArray) (maxL : Nat) (rt : Option FieldType) (fr lo o n : Nat) (sg : Nat → va_E) (As : List Value) (cls : String) (post : (Nat → va_E) → Prop) : Prop :=
  ∀ (D : va_G) (ak : Nat → ClassId), MetFree l y (headSpec (Cond.code y b maxL rt :: gtb) (gRm fr lo 1 6)) (va_Pc As (gPre D ak o n sg false)) (fun _ _ _ _ _ => True) (gQT D ak o n cls post)
def GEndT (K : GX) (o n : Nat) (cls : String) (post : (Nat → va_E) → Prop) : Prop := ∀ t, (∃ oc, t.status = .running ∧ Ended t (xb K) oc ∧ gQT (xD K) (xk K) o n cls post (xa K) (xs K) oc t) → xQ K t
theorem GT_of {l : Launch} {y : MethodName} {b : ByteArray} {maxL : Nat} {rt : Option FieldType} {fr lo o n : Nat} {sg : Nat → va_E} {As : List Value} {cls : String} {post : (Nat → va_E) → Prop} (hy : plainName y.cls = true) (hlen : (lg_sl As).length ≤ maxL)
    (body : ∀ K : GX, GOk K b maxL y.cls (gRm fr lo 1 6) o → xl K = l → (xl K).admits (xe K) → (xc K).exceptionTable.isEmpty = true → GEndT K o n cls post → G K o n sg 0 0 0 (lv_args 0 As) []) : GT l y b maxL rt fr lo o n sg As cls post := by
  intro D ak
  refine MetFree.of_bodyS (code := b) (maxLocals := maxL) (ret := rt) hy ?_ ?_
  · intro args s m h hn
    obtain ⟨meth, c, h1, h2, h3, h4, h5, h6, -, -⟩ := Cond.code_spec hn (atoms_spec (ws := Cond.code y b maxL rt :: gtb) h _ List.mem_cons_self)
    exact ⟨meth, c, h1, h2, h3, h4, h5, h6⟩
  · intro p e s m args below meth c s₁ B hml hv _
    obtain ⟨rfl, hz, ho, hP, hK, hX⟩ := hv
    have hts := atoms_spec (ws := Cond.code y b maxL rt :: gtb) B.pre
    have hown : s.vm.findClass y.cls = some m.cls := findClass_of_methodNamed B.named
    have hl := lv_entry As (n := maxL) hlen
    have hh0 : s₁.heap = s.heap := by rw [B.state]; rfl
    have W0 := body (p, l, e, _, s, m, As.toArray, below, meth, c, D, ak, fun t => ∃ oc, t.status = .running ∧ Ended t below oc ∧ gQT D ak o n cls post As.toArray s oc t) ⟨B.exec, B.bytes, hml, hown, fun w hw => hts w (List.mem_cons_of_mem _ hw), hK, ho, hX, rfl, B.notSynchronized⟩ rfl B.admits (B.noHandlers (hts _ List.mem_cons_self)) (fun _ h => h) s.heap [] _ hP va_S.rf (by rw [show c.maxLocals = maxL from hml]; exact hl)
    obtain ⟨t, a1, oc, b1, b2, b3⟩ := W0 s₁ hh0 (Stand.of_body B)
    exact ⟨t, oc, by rw [lg_entry_eq]; exact a1, b1, b2, b3⟩
theorem noH {c : Code} (h : c.exceptionTable.isEmpty = true) (pc : Nat) : ∀ x ∈ c.exceptionTable.toList, covers x pc = false := by
  intro x hx
  have : c.exceptionTable = #[] := by simpa using h
  rw [this] at hx
  simp at hx
/-- the words that a throw of cls in the class own needs: all are among the tables' (or the four of Throwable's statics) -/
def gStw : List Cond := [.laysStatic "java/lang/Throwable" "UNASSIGNED_STACK" "[Ljava/lang/StackTraceElement;", .laysStatic "java/lang/Throwable" "SUPPRESSED_SENTINEL" "Ljava/util/List;", .isRef (.static "java/lang/Throwable" "UNASSIGNED_STACK" "[Ljava/lang/StackTraceElement;"), .isRef (.static "java/lang/Throwable" "SUPPRESSED_SENTINEL" "Ljava/util/List;")]
def GTw (own cls : String) (ic : Nat) : Prop := ∀ a ∈ Bundle.ownAtoms0 own ic cls ["java/lang/RuntimeException", "java/lang/Exception"], a ∈ gtb ∨ a ∈ gnest ∨ a ∈ gStw
theorem GTw_at {K : GX} {b : ByteArray} {nL : Nat} {own own2 cls : String} {rm : Room} {o ic : Nat} (C : GOk K b nL own rm o) (h : GTw own2 cls ic) : ∀ a ∈ Bundle.ownAtoms0 own2 ic cls ["java/lang/RuntimeException", "java/lang/Exception"], a.before (xa K) (xs K) = true := fun a ha => by
  have hX := C.2.2.2.2.2.2.2.1
  rcases h a ha with h1 | h1 | h1
  · exact C.2.2.2.2.1 a h1
  · have h2 := hX.1 a h1
    have h3 := gnest_is a h1
    cases a <;> first | exact va_Nw.use rfl h2 | (simp [gIsN] at h3)
  · simp only [gStw, List.mem_cons, List.not_mem_nil, or_false] at h1
    rcases h1 with rfl | rfl | rfl | rfl
    · exact gS_lays hX.2.2.2.1
    · exact gS_lays hX.2.2.2.2
    · exact gS_ref hX.2.2.2.1
    · exact gS_ref hX.2.2.2.2
def s_le (a b : Nat) : Prop := a ≤ b
section GTR
variable {K : GX} {b : ByteArray} {nL : Nat} {own cls : String} {rm : Room} {o n : Nat} {sg : Nat → va_E} {pc : Nat} {lv : List (Nat × Value)} {rest : List Value} {post : (Nat → va_E) → Prop}
theorem g_throw (C : GOk K b nL own rm o) (ha : (xl K).admits (xe K)) (hh : (xc K).exceptionTable.isEmpty = true) (ET : GEndT K o n cls post) (htr : (xe K).platform.stackTraces = false) {ix ic : Nat} (hw : GTw own cls ic) (hcl : Cond.classLink own ix cls ∈ gtb) (hinst : Cond.instantiable cls 6 ∈ gtb) (hini : Cond.initialized cls ∈ gtb) (hfit : Bundle.fit cls = true)
    (d0 : decode b pc = .ok (.new ix, 3)) (d1 : decode b (pc + 3) = .ok (.dup, 1)) (d2 : decode b (pc + 3 + 1) = .ok (.invokespecial ic, 3)) (d3 : decode b (pc + 3 + 1 + 3) = .ok (.athrow, 1)) (hfr : 5 < rm.frames) (hlo : (rest.map fun v => v.category).sum + 81 ≤ rm.locals) (hce : 1 ≤ rm.cells) (hsl : 6 ≤ rm.slots) (hp : post sg) : G K o n sg 0 0 pc lv rest := fun H locs ls hP hS hl => by
  obtain ⟨cX, kX, hfX, hkX, -⟩ := Cond.instantiable_spec (C.2.2.2.2.1 _ hinst)
  refine W.newcK C.1 C.2.1 C.2.2.2.1 (C.2.2.2.2.1 _ hcl) (C.2.2.2.2.1 _ hinst) (C.2.2.2.2.1 _ hini) rfl d0 (by rw [C.2.2.2.2.2.2.2.2.1]; simpa using hce) (by rw [C.2.2.2.2.2.2.2.2.1]; simpa using hsl) hfX rfl (fun H1 kC hkC e1 z1 o1 => ?_)
  refine lv_dup C.1 C.2.1 d1 rfl ?_
  intro T hT X
  have hkk : kC = kX := Option.some.inj (hkC.symm.trans hkX)
  subst hkk
  obtain ⟨zv, hZ⟩ := gS_Z C.2.2.2.2.2.2.2.1.2.2.2.1
  have ho : o ≤ H.size := Nat.le_trans C.2.2.2.2.2.2.1 hS.1
  obtain ⟨vm', ce, L4, hc1, hc2, hL4, hWv, X2, st⟩ := st_ctor0 X C.1 htr C.2.2.2.1 hfit (by decide +kernel) (GTw_at C hw) hZ hS.2.2 hfX hkX (by rw [hT]; exact e1) hS.1 (g := F0 (xm K) (pc + 3 + 1) ls (.ref H.size :: .ref H.size :: rest)) rfl hl.1 rfl (by rw [C.2.1]; exact d2) (by rw [C.2.2.2.2.2.2.2.2.1]; exact hfr) (by rw [C.2.2.2.2.2.2.2.2.1]; simp [JFrame.monitorRoom, Value.category] at hlo ⊢; omega)
  obtain ⟨hs1, hs2, hs3, hs4, hs5⟩ := X2.athrowLeaves C.1 (g := F0 (xm K) (pc + 3 + 1 + 3) ls (.ref H.size :: rest)) rfl rfl rfl (noH hh _) rfl (by rw [C.2.1]; exact d3) C.2.2.2.2.2.2.2.2.2
  have hlt : H.size < (T.setVm vm').heap.size := by show H.size < T.heap.size; rw [hT, z1]; exact Nat.lt_succ_self _
  have hself : ((T.setVm vm').setCell H.size ce).heap[H.size]? = some ce := heapAt_setCell_self _ hlt
  have hoth : ∀ q, q < H.size → ((T.setVm vm').setCell H.size ce).heap[q]? = H[q]? := fun q hq => by
    rw [heapAt_setCell_ne _ (Nat.ne_of_gt hq)]
    show T.heap[q]? = _
    rw [hT]
    exact o1 q hq
  have hsz : s_le (xs K).heap.size ((T.setVm vm').setCell H.size ce).heap.size := by
    show (xs K).heap.size ≤ _
    rw [size_setCell]
    show _ ≤ T.heap.size
    rw [hT, z1]
    exact Nat.le_trans hS.1 (Nat.le_succ _)
  refine ⟨_, st _ hs1, ET _ ⟨.threw H.size, hs2, hs3, H.size, ce, sg, locs ++ L4, rfl, hself, hc2, by rw [hc1]; exact hfX, hp, ?_, ⟨hsz, fun q h1 h2 => ?_⟩, hs4, hs5, ?_⟩⟩
  · exact hP.kept (fun j q hj => hoth q.1 ((hP j q hj).lt))
  · show ((T.setVm vm').setCell H.size ce).heap[q]? = _
    rw [hoth q (Nat.lt_of_lt_of_le h1 hS.1)]
    exact hS.2.1 q h1 h2
  · intro q hq
    rcases List.mem_append.mp hq with h1 | h1
    · exact hS.2.2 q h1
    · rw [hL4 q h1]
      exact ho
end GTR
