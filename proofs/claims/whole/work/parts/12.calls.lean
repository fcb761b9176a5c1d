-- CONTRACTS AND CALLS
def gPre (D : va_G) (ak : Nat → ClassId) (o n : Nat) (sg : Nat → va_E) (zz : Bool) (U : State) : Prop := (zz = true → U.heap.size = o + n) ∧ o ≤ U.heap.size ∧ va_P D classes (gw ak o n sg) U.heap ∧ va_K D classes (gty ak) U ∧ gX o U
def gQ (D : va_G) (ak : Nat → ClassId) (o n' : Nat) (post : Option Value → (Nat → va_E) → Prop) : Array Value → State → Outcome → State → Prop := fun _ st oc t =>
  (∃ (ret : Option Value) (sg' : Nat → va_E), oc = .returned ret ∧ post ret sg' ∧ va_P D classes (gw ak o n' sg') t.heap) ∧ va_F (gA o) st t
abbrev gRm (fr lo mc ms : Nat) : Room := { frames := fr, cells := mc, slots := ms, locals := lo }
/-- the contract of a method: from the world sg with the arguments As it returns, and what it returns and the world then are as 'post' says -/
def GM (l : Launch) (y : MethodName) (b : ByteArray) (maxL : Nat) (rt : Option FieldType) (fr lo mc ms o n n' : Nat) (sg : Nat → va_E) (zz : Bool) (As : List Value) (post : Option Value → (Nat → va_E) → Prop) : Prop :=
  ∀ (D : va_G) (ak : Nat → ClassId), Met l y (Cond.code y b maxL rt :: gtb) (gRm fr lo mc ms) (va_Pc As (gPre D ak o n sg zz)) (gQ D ak o n' post) mc ms (gA o)
theorem gPre_blind {D : va_G} {ak : Nat → ClassId} {o n : Nat} {sg : Nat → va_E} {zz : Bool} {As : List Value} : FrameBlind (va_Pc As (gPre D ak o n sg zz)) := fun _ U g mk q =>
  ⟨q.1, q.2.1, q.2.2.1, q.2.2.2.1, va_K.moved (u := U) (U := U.calling g mk _) (Vm.Alike.refl U.vm) q.2.2.2.2.1, gX_calling q.2.2.2.2.2⟩
/-- how a walk's end is a contract's end -/
def GEnd (K : GX) (o n' mc ms : Nat) (post : Option Value → (Nat → va_E) → Prop) : Prop := ∀ t, MQ (xb K) (gQ (xD K) (xk K) o n' post) (xa K) (xs K) mc ms (gA o) t → xQ K t
theorem W_mono {p : Program} {l : Launch} {e : Env} {R : Room} {s : State} {m : MethodId} {args : Array Value} {below : List Frame} {meth : Method} {c : Code} {H : Heap} {locs : List Loc} {cells slots : Nat} {Q Q' : State → Prop} {g : JFrame} (h : ∀ t, Q t → Q' t) (k : W p l e R s m args below meth c H locs cells slots Q g) : W p l e R s m args below meth c H locs cells slots Q' g := fun T hT X => by
  obtain ⟨t, a, b⟩ := k T hT X
  exact ⟨t, a, h t b⟩
theorem GM_of {l : Launch} {y : MethodName} {b : ByteArray} {maxL : Nat} {rt : Option FieldType} {fr lo mc ms o n n' : Nat} {sg : Nat → va_E} {zz : Bool} {As : List Value} {post : Option Value → (Nat → va_E) → Prop} (hy : plainName y.cls = true) (hlen : (lg_sl As).length ≤ maxL)
    (body : ∀ K : GX, GOk K b maxL y.cls (gRm fr lo mc ms) o → xl K = l → (zz = true → (xs K).heap.size = o + n) → (xM K).sig.returnType = rt → (xM K).name = y.name → GEnd K o n' mc ms post → G K o n sg 0 0 0 (lv_args 0 As) []) : GM l y b maxL rt fr lo mc ms o n n' sg zz As post := by
  intro D ak
  refine Met.ofW (cc := b) (maxL := maxL) (ret := rt) hy rfl ?_
  intro p e s m args below meth c s₁ B hml hv
  obtain ⟨rfl, hz, ho, hP, hK, hX⟩ := hv
  have hts := atoms_spec (ws := Cond.code y b maxL rt :: gtb) B.pre
  have hown : s.vm.findClass y.cls = some m.cls := findClass_of_methodNamed B.named
  have hl := lv_entry As (n := maxL) hlen
  rw [lg_entry_eq]
  generalize (lg_sl As ++ List.replicate (maxL - (lg_sl As).length) Slot.unset).toArray = ls at hl ⊢
  exact body (p, l, e, _, s, m, As.toArray, below, meth, c, D, ak, _) ⟨B.exec, B.bytes, hml, hown, fun w hw => hts w (List.mem_cons_of_mem _ hw), hK, ho, hX, rfl, B.notSynchronized⟩ rfl hz B.returns (name_of_methodNamed B.named B.method).1 (fun _ h => h) s.heap [] ls hP va_S.rf (by rw [show c.maxLocals = maxL from hml]; exact hl)
abbrev gR (ret : Option Value) (sg' : Nat → va_E) : Option Value → (Nat → va_E) → Prop := fun r s => ret = r ∧ sg' = s
section GC
variable {K : GX} {b : ByteArray} {nL : Nat} {own : String} {rm : Room} {o n n' : Nat} {sg : Nat → va_E} {cells slots pc : Nat} {lv lv' : List (Nat × Value)} {st rest : List Value} {post : Option Value → (Nat → va_E) → Prop}
-- returns
theorem g_iret (C : GOk K b nL own rm o) (E : GEnd K o n cells slots post) (hr : (xM K).sig.returnType = some .int) (d : decode b pc = .ok (.ireturn, 1)) {v : Int32} (hp : post (some (.int v)) sg) : G K o n sg cells slots pc lv [.int v] := fun H locs ls hP hS hl =>
  W_mono E (W.iret C.1 C.2.1 hr (fun t ht hw => ⟨⟨_, _, rfl, hp, by rw [ht]; exact hP⟩, hS.F ht⟩) hS.2.2 d C.2.2.2.2.2.2.2.2.2)
theorem g_lret (C : GOk K b nL own rm o) (E : GEnd K o n cells slots post) (hr : (xM K).sig.returnType = some .long) (d : decode b pc = .ok (.lreturn, 1)) {v : Int64} (hp : post (some (.long v)) sg) : G K o n sg cells slots pc lv [.long v] := fun H locs ls hP hS hl =>
  W_mono E (W.lret C.1 C.2.1 hr (fun t ht hw => ⟨⟨_, _, rfl, hp, by rw [ht]; exact hP⟩, hS.F ht⟩) hS.2.2 d C.2.2.2.2.2.2.2.2.2)
theorem g_zret (C : GOk K b nL own rm o) (E : GEnd K o n cells slots post) (hr : (xM K).sig.returnType = some .boolean) (d : decode b pc = .ok (.ireturn, 1)) {v : Int32} (hn : narrow .boolean (.int v) = .int v) (hp : post (some (.int v)) sg) : G K o n sg cells slots pc lv [.int v] := fun H locs ls hP hS hl =>
  W_mono E (W.zret C.1 C.2.1 hr hn (fun t ht hw => ⟨⟨_, _, rfl, hp, by rw [ht]; exact hP⟩, hS.F ht⟩) hS.2.2 d C.2.2.2.2.2.2.2.2.2)
theorem g_vret (C : GOk K b nL own rm o) (E : GEnd K o n cells slots post) (hr : (xM K).sig.returnType = none) (d : decode b pc = .ok (.return_, 1)) (hp : post none sg) : G K o n sg cells slots pc lv [] := fun H locs ls hP hS hl =>
  W_mono E (W.vret C.1 C.2.1 hr (fun t ht hw => ⟨⟨_, _, rfl, hp, by rw [ht]; exact hP⟩, hS.F ht⟩) hS.2.2 d C.2.2.2.2.2.2.2.2.2)
theorem g_aret (C : GOk K b nL own rm o) (E : GEnd K o n cells slots post) {rt : FieldType} (hr : (xM K).sig.returnType = some rt) (hrt : (∃ n, rt = .object n) ∨ ∃ t, rt = .array t) (d : decode b pc = .ok (.areturn, 1)) {v : Value} (hv : v = .null ∨ ∃ a, v = .ref a) (hp : post (some v) sg) : G K o n sg cells slots pc lv [v] := fun H locs ls hP hS hl =>
  W_mono E (W.aret C.1 C.2.1 hr hrt hv (fun t ht hw => ⟨⟨_, _, rfl, hp, by rw [ht]; exact hP⟩, hS.F ht⟩) hS.2.2 d C.2.2.2.2.2.2.2.2.2)
-- calls
theorem g_call {mc ms : Nat} {a : Array Value} (hr : ∀ (H : Heap) (locs : List Loc) (ls : Array Slot), va_P (xD K) classes (gw (xk K) o n sg) H → va_S (gA o) (xs K).heap H locs → lv_has ls (xc K).maxLocals lv → H.size ≤ (xs K).heap.size + cells → va_Run (xp K) (xl K) (xe K) (xR K) (xs K) (xm K) (xa K) (xb K) (xM K) (xc K) H locs cells slots mc ms (F0 (xm K) pc ls st) rest (gQ (xD K) (xk K) o n' post a) (gA o)) (k : ∀ (ret : Option Value) (sg' : Nat → va_E), post ret sg' → G K o n' sg' (cells + mc) (slots + ms) (pc + 3) lv (ret.toList ++ rest)) : G K o n sg cells slots pc lv st := by
  intro H locs ls hP hS hl
  refine g_bound (fun hle => ?_)
  intro T hT X
  obtain ⟨v, st₀, t, T', L, h0, X', hL, e1, e2, ⟨⟨ret, sg', hv, hp, hP'⟩, hz, hk⟩, stp⟩ := hr H locs ls hP hS hl hle T hT X
  cases hv
  rw [h0] at hz hk
  obtain ⟨t2, a1, b1⟩ := k v sg' hp T'.heap (locs ++ L) ls (by rw [e1]; exact hP')
    ⟨Nat.le_trans hS.1 (by rw [e1]; exact hz), fun q h1 h2 => by rw [e1, hk q (Nat.lt_of_lt_of_le h1 hS.1) h2]; exact hS.2.1 q h1 h2, fun q hq => by
      rcases List.mem_append.mp hq with h | h
      · exact hS.2.2 q h
      · exact hL q h⟩ hl T' rfl X'
  exact ⟨t2, stp t2 a1, b1⟩
theorem gw_size {D : va_G} {ak : Nat → ClassId} {H : Heap} (hP : va_P D classes (gw ak o n sg) H) (ho : o ≤ H.size) : o + n ≤ H.size := by
  cases n with
  | zero => exact ho
  | succ m =>
    have h := (hP m _ (gw_at (Nat.lt_succ_self m) rfl)).lt
    have h2 : ad o m < H.size := h
    unfold ad at h2
    omega
theorem g_pre (C : GOk K b nL own rm o) {H : Heap} {locs : List Loc} {zz : Bool} (hP : va_P (xD K) classes (gw (xk K) o n sg) H) (hS : va_S (gA o) (xs K).heap H locs) (hle : H.size ≤ (xs K).heap.size + cells) (hx : zz = true → (xs K).heap.size + cells = o + n) {U : State} (hU : U.heap = H) (hW : (xs K).WarmedH U.vm) : gPre (xD K) (xk K) o n sg zz U := by
  have ho : o ≤ H.size := Nat.le_trans C.2.2.2.2.2.2.1 hS.1
  refine ⟨fun h => ?_, by rw [hU]; exact ho, by rw [hU]; exact hP, va_K.moved hW.alike C.2.2.2.2.2.1, gX_moved hW (fun a h1 h2 => by rw [hU]; exact hS.2.1 a h1 h2) C.2.2.2.2.2.2.2.1⟩
  have h1 := hx h
  have h2 := gw_size hP ho
  rw [hU]
  omega
/-- what a call needs of the callee's name -/
def GY (y : MethodName) (b : ByteArray) (maxL : Nat) (rt : Option FieldType) (N : Nat) : Prop := Cond.code y b maxL rt ∈ gtb ∧ Cond.initialized y.cls ∈ gtb ∧ (y.cls ≠ "java/lang/invoke/MethodHandle" ∧ y.cls ≠ "java/lang/invoke/VarHandle" ∧ (parseMethodDescriptor y.desc).map (fun d => d.parameters.length) = some N)
theorem gtb_in {y : MethodName} {b : ByteArray} {maxL : Nat} {rt : Option FieldType} (h : Cond.code y b maxL rt ∈ gtb) : GoodIn gtb (Cond.code y b maxL rt :: gtb) := fun w hw => by
  rcases List.mem_cons.mp hw with rfl | hw
  · exact ⟨h, good_of_word (gtb_good _ h)⟩
  · exact ⟨hw, good_of_word (gtb_good _ hw)⟩
variable {y : MethodName} {b' : ByteArray} {maxL : Nat} {rt : Option FieldType} {fr lo mc ms ix : Nat} {zz : Bool} {As : List Value}
theorem g_cb (C : GOk K b nL own rm o) {N : Nat} (Y : GY y b' maxL rt N) (hlink : Cond.methodLink own ix y ∈ gtb) (hR : fr + 1 ≤ rm.frames ∧ 8 + (maxL + 11) + lo ≤ rm.locals) : CallB (xR K) (xs K) (xa K) own ix y b' maxL rt (Cond.code y b' maxL rt :: gtb) (gRm fr lo mc ms) mc ms N :=
  callB_of N C.2.2.2.2.1 (gtb_in Y.1) rfl rfl rfl (C.2.2.2.2.1 _ Y.2.1) (C.2.2.2.2.1 _ hlink) Y.2.2 (by rw [C.2.2.2.2.2.2.2.2.1]; exact hR)
theorem g_callS (C : GOk K b nL own rm o) (hM : GM (xl K) y b' maxL rt fr lo mc ms o n n' sg zz As post) (Y : GY y b' maxL rt As.length) (hst : Cond.static y ∈ gtb) (hlink : Cond.methodLink own ix y ∈ gtb) (hR : fr + 1 ≤ rm.frames ∧ 8 + (maxL + 11) + lo ≤ rm.locals) (hf : cells + mc ≤ rm.cells ∧ slots + ms ≤ rm.slots) (hx : zz = true → (xs K).heap.size + cells = o + n) (d : decode b pc = .ok (.invokestatic ix, 3)) (hstk : st = As.reverse ++ rest) (hw : (rest.map fun v => v.category).sum ≤ 8)
    (k : ∀ (ret : Option Value) (sg' : Nat → va_E), post ret sg' → G K o n' sg' (cells + mc) (slots + ms) (pc + 3) lv (ret.toList ++ rest)) : G K o n sg cells slots pc lv st :=
  g_call (fun H locs ls hP hS hl hle => va_runS (Ts := gtb) ⟨C.1, C.2.1, rfl, C.2.2.2.1, C.2.2.2.2.1⟩ (hM (xD K) (xk K)) ⟨g_cb C Y hlink hR, C.2.2.2.2.1 _ hst⟩ ⟨gPre_blind, fun U hU hW => ⟨rfl, g_pre C hP hS hle hx hU hW⟩⟩ rfl rfl hl.1 hstk (lv_room hw) d (by rw [C.2.2.2.2.2.2.2.2.1]; exact hf)) k
theorem g_callV (C : GOk K b nL own rm o) {k0 : Nat} (hM : GM (xl K) y b' maxL rt fr lo mc ms o n n' sg zz (.ref (ad o k0) :: As) post) (Y : GY y b' maxL rt As.length) (hin : Cond.instanceMethod y ∈ gtb) (hsel : Cond.selects y.cls y y ∈ gtb) (hlink : Cond.methodLink own ix y ∈ gtb) {ci : Nat} {q : vw_C} (hc : classes[ci]? = some q) (hq : q.1 = y.cls) (hR : fr + 1 ≤ rm.frames ∧ 8 + (maxL + 11) + lo ≤ rm.locals) (hf : cells + mc ≤ rm.cells ∧ slots + ms ≤ rm.slots) (hx : zz = true → (xs K).heap.size + cells = o + n) (d : decode b pc = .ok (.invokevirtual ix, 3)) (hk0 : k0 < n) {fs : List Value} (hs : sg k0 = eO ci fs) (hstk : st = As.reverse ++ .ref (ad o k0) :: rest) (hw : (rest.map fun v => v.category).sum ≤ 8)
    (k : ∀ (ret : Option Value) (sg' : Nat → va_E), post ret sg' → G K o n' sg' (cells + mc) (slots + ms) (pc + 3) lv (ret.toList ++ rest)) : G K o n sg cells slots pc lv st :=
  g_call (fun H locs ls hP hS hl hle => va_runV (Ts := gtb) (C := y.cls) ⟨C.1, C.2.1, rfl, C.2.2.2.1, C.2.2.2.2.1⟩ (hM (xD K) (xk K)) ⟨g_cb C Y hlink hR, C.2.2.2.2.1 _ hin, C.2.2.2.2.1 _ hsel⟩ ⟨gPre_blind, by rw [← hq]; exact va_recv C.2.2.2.2.2.1 hP hc (gw_at hk0 hs), fun U hU hW => ⟨rfl, g_pre C hP hS hle hx hU hW⟩⟩ rfl rfl hl.1 hstk (lv_room hw) d (by rw [C.2.2.2.2.2.2.2.2.1]; exact hf)) k
theorem g_callI (C : GOk K b nL own rm o) {k0 : Nat} (hM : GM (xl K) y b' maxL none fr lo mc ms o n n' sg zz (.ref (ad o k0) :: As) post) (Y : GY y b' maxL none As.length) (hin : Cond.instanceMethod y ∈ gtb) (hy1 : y.name = "<init>") (hlink : Cond.methodLink own ix y ∈ gtb) (hR : fr + 1 ≤ rm.frames ∧ 8 + (maxL + 11) + lo ≤ rm.locals) (hf : cells + mc ≤ rm.cells ∧ slots + ms ≤ rm.slots) (hx : zz = true → (xs K).heap.size + cells = o + n) (d : decode b pc = .ok (.invokespecial ix, 3)) (hstk : st = As.reverse ++ .ref (ad o k0) :: rest) (hw : (rest.map fun v => v.category).sum ≤ 8)
    (k : ∀ (ret : Option Value) (sg' : Nat → va_E), post ret sg' → G K o n' sg' (cells + mc) (slots + ms) (pc + 3) lv (ret.toList ++ rest)) : G K o n sg cells slots pc lv st :=
  g_call (fun H locs ls hP hS hl hle => va_runI (Ts := gtb) ⟨C.1, C.2.1, rfl, C.2.2.2.1, C.2.2.2.2.1⟩ (hM (xD K) (xk K)) ⟨g_cb C Y hlink hR, hy1, C.2.2.2.2.1 _ hin⟩ ⟨gPre_blind, fun U hU hW => ⟨rfl, g_pre C hP hS hle hx hU hW⟩⟩ rfl rfl hl.1 hstk (lv_room hw) d (by rw [C.2.2.2.2.2.2.2.2.1]; exact hf)) k
theorem g_callIN (C : GOk K b nL own rm o) {k0 : Nat} {host : String} (hM : GM (xl K) y b' maxL none fr lo mc ms o n n' sg zz (.ref (ad o k0) :: As) post) (Y : GY y b' maxL none As.length) (hin : Cond.instanceMethod y ∈ gtb) (hy1 : y.name = "<init>") (hlink : Cond.methodLinkNest own ix y host ∈ gnest) (hR : fr + 1 ≤ rm.frames ∧ 8 + (maxL + 11) + lo ≤ rm.locals) (hf : cells + mc ≤ rm.cells ∧ slots + ms ≤ rm.slots) (hx : zz = true → (xs K).heap.size + cells = o + n) (d : decode b pc = .ok (.invokespecial ix, 3)) (hstk : st = As.reverse ++ .ref (ad o k0) :: rest) (hw : (rest.map fun v => v.category).sum ≤ 8)
    (k : ∀ (ret : Option Value) (sg' : Nat → va_E), post ret sg' → G K o n' sg' (cells + mc) (slots + ms) (pc + 3) lv (ret.toList ++ rest)) : G K o n sg cells slots pc lv st :=
  g_call (fun H locs ls hP hS hl hle => va_runIN (Ts := gtb) ⟨C.1, C.2.1, rfl, C.2.2.2.1, C.2.2.2.2.1⟩ (hM (xD K) (xk K)) ⟨va_cnB As.length C.2.2.2.2.1 (gtb_in Y.1) rfl rfl rfl (C.2.2.2.2.2.2.2.1.1 _ hlink) (C.2.2.2.2.1 _ Y.2.1) Y.2.2 (by rw [C.2.2.2.2.2.2.2.2.1]; exact hR), hy1, C.2.2.2.2.1 _ hin⟩ ⟨gPre_blind, fun U hU hW => ⟨rfl, g_pre C hP hS hle hx hU hW⟩⟩ rfl rfl hl.1 hstk (lv_room hw) d (by rw [C.2.2.2.2.2.2.2.2.1]; exact hf)) k
end GC
