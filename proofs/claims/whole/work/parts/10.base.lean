-- THE WORLD BY NUMBERS: object k of n lies at the address ad o k and holds sg k (array classes by their kind's number)
def ad (o k : Nat) : Nat := o + k
theorem ad_inj {o i j : Nat} (h : ad o i = ad o j) : i = j := by unfold ad at h; omega
theorem ad_ge (o k : Nat) : o ≤ ad o k := Nat.le_add_right o k
def gE (ak : Nat → ClassId) (x : va_E) : va_E := match x with
  | .inl a => .inl (ak a.1, a.2)
  | .inr b => .inr b
def gw (ak : Nat → ClassId) (o n : Nat) (sg : Nat → va_E) : va_W := (List.range n).map (fun k => (ad o k, gE ak (sg k)))
abbrev eJ (n : Nat) (f : Nat → Int64) : va_E := .inl (0, n, .inr (.inl f))
abbrev eI (n : Nat) (f : Nat → Int32) : va_E := .inl (1, n, .inl f)
abbrev eZ (n : Nat) (f : Nat → Int32) : va_E := .inl (2, n, .inl f)
abbrev eQ (kd n : Nat) (f : Nat → Option Nat) : va_E := .inl (kd, n, .inr (.inr (.inr (.inr f))))
abbrev eO (ci : Nat) (fs : List Value) : va_E := .inr (ci, fs)
def gty (ak : Nat → ClassId) : List (ClassId × FieldType) := [(ak 0, .long), (ak 1, .int), (ak 2, .boolean), (ak 3, .object "RangeExchange$Pool"), (ak 4, .object "RangeExchange$Position")]
theorem gw_at {ak : Nat → ClassId} {o n k : Nat} {sg : Nat → va_E} {x : va_E} (h : k < n) (hx : sg k = x) : (gw ak o n sg)[k]? = some (ad o k, gE ak x) := by
  subst hx
  simp [gw, h]
theorem gw_none {ak : Nat → ClassId} {o n k : Nat} {sg : Nat → va_E} (h : n ≤ k) : (gw ak o n sg)[k]? = none := by
  simp [gw, h]
theorem gw_inv {ak : Nat → ClassId} {o n k : Nat} {sg : Nat → va_E} {q : Nat × va_E} (h : (gw ak o n sg)[k]? = some q) : k < n ∧ q = (ad o k, gE ak (sg k)) := by
  rcases Nat.lt_or_ge k n with hk | hk
  · rw [gw_at hk rfl] at h
    exact ⟨hk, (Option.some.inj h).symm⟩
  · rw [gw_none hk] at h
    cases h
theorem gw_set {ak : Nat → ClassId} {o n k : Nat} {sg : Nat → va_E} {x : va_E} (h : k < n) : (gw ak o n sg).set k (ad o k, gE ak x) = gw ak o n (va_up sg k x) := by
  apply List.ext_getElem?
  intro i
  rw [List.getElem?_set]
  rcases Nat.lt_or_ge i n with hi | hi
  · rw [gw_at (sg := va_up sg k x) hi rfl]
    by_cases e : k = i
    · subst e
      simp [gw, hi, va_up]
    · have e2 : ¬ i = k := fun q => e q.symm
      rw [if_neg e, gw_at hi rfl]
      simp [va_up, e2]
  · rw [gw_none (sg := va_up sg k x) hi, gw_none hi]
    have : k ≠ i := by omega
    simp [this]
theorem gw_push {ak : Nat → ClassId} {o n : Nat} {sg : Nat → va_E} {x : va_E} : gw ak o n sg ++ [(ad o n, gE ak x)] = gw ak o (n + 1) (va_up sg n x) := by
  unfold gw
  rw [List.range_succ, List.map_append]
  congr 1
  · apply List.map_congr_left
    intro k hk
    have : k ≠ n := Nat.ne_of_lt (List.mem_range.mp hk)
    simp [va_up, this]
  · simp [va_up]
theorem gw_D {ak : Nat → ClassId} {o n : Nat} {sg : Nat → va_E} : va_D (gA o) (gw ak o n sg) := ⟨fun i j p q hi hj e => by
  obtain ⟨-, rfl⟩ := gw_inv hi
  obtain ⟨-, rfl⟩ := gw_inv hj
  exact ad_inj e, fun k q hk => by
  obtain ⟨-, rfl⟩ := gw_inv hk
  exact ad_ge o k⟩
theorem va_S_trans {A : Nat → Prop} {H0 H H1 : Heap} {locs locs1 : List Loc} (h : va_S A H0 H locs) (h1 : va_S A H H1 locs1) : va_S A H0 H1 locs1 :=
  ⟨Nat.le_trans h.1 h1.1, fun q hq hn => (h1.2.1 q (Nat.lt_of_lt_of_le hq h.1) hn).trans (h.2.1 q hq hn), h1.2.2⟩
theorem lk_mem {l : List (Nat × Value)} {i : Nat} {v : Value} (h : l.lookup i = some v) : (i, v) ∈ l := by
  induction l with
  | nil => simp at h
  | cons q r ih =>
    obtain ⟨a, b⟩ := q
    by_cases e : i = a
    · subst e
      simp [List.lookup] at h
      subst h
      exact List.mem_cons_self
    · have e2 : (i == a) = false := by simp [e]
      simp [List.lookup, e2] at h
      exact List.mem_cons_of_mem _ (ih h)
theorem lv_lk {ls : Array Slot} {nL : Nat} {l : List (Nat × Value)} (h : lv_has ls nL l) {i : Nat} {v : Value} (hk : l.lookup i = some v) : ls[i]? = some (.val v) := h.2.2 (i, v) (lk_mem hk)
-- THE CONTEXT OF A WALK
abbrev GX : Type := Program × Launch × Env × Room × State × MethodId × Array Value × List Frame × Method × Code × va_G × (Nat → ClassId) × (State → Prop)
abbrev xp (K : GX) : Program := K.1
abbrev xl (K : GX) : Launch := K.2.1
abbrev xe (K : GX) : Env := K.2.2.1
abbrev xR (K : GX) : Room := K.2.2.2.1
abbrev xs (K : GX) : State := K.2.2.2.2.1
abbrev xm (K : GX) : MethodId := K.2.2.2.2.2.1
abbrev xa (K : GX) : Array Value := K.2.2.2.2.2.2.1
abbrev xb (K : GX) : List Frame := K.2.2.2.2.2.2.2.1
abbrev xM (K : GX) : Method := K.2.2.2.2.2.2.2.2.1
abbrev xc (K : GX) : Code := K.2.2.2.2.2.2.2.2.2.1
abbrev xD (K : GX) : va_G := K.2.2.2.2.2.2.2.2.2.2.1
abbrev xk (K : GX) : Nat → ClassId := K.2.2.2.2.2.2.2.2.2.2.2.1
abbrev xQ (K : GX) : State → Prop := K.2.2.2.2.2.2.2.2.2.2.2.2
abbrev GW (K : GX) (H : Heap) (locs : List Loc) (cells slots : Nat) (g : JFrame) : Prop := W (xp K) (xl K) (xe K) (xR K) (xs K) (xm K) (xa K) (xb K) (xM K) (xc K) H locs cells slots (xQ K) g
/-- the machine, at pc with the locals lv and the stack st over the world sg, comes to an end of the kind that K says -/
def G (K : GX) (o n : Nat) (sg : Nat → va_E) (cells slots pc : Nat) (lv : List (Nat × Value)) (st : List Value) : Prop :=
  ∀ (H : Heap) (locs : List Loc) (ls : Array Slot), va_P (xD K) classes (gw (xk K) o n sg) H → va_S (gA o) (xs K).heap H locs → lv_has ls (xc K).maxLocals lv → GW K H locs cells slots (F0 (xm K) pc ls st)
/-- what a walk knows of its context -/
def GOk (K : GX) (b : ByteArray) (nL : Nat) (own : String) (rm : Room) (o : Nat) : Prop :=
  (xp K).tables.exec = Jvm.exec ∧ (xc K).code = b ∧ (xc K).maxLocals = nL ∧ (xs K).vm.findClass own = some (xm K).cls ∧ (∀ w ∈ gtb, w.before (xa K) (xs K) = true) ∧ va_K (xD K) classes (gty (xk K)) (xs K) ∧ o ≤ (xs K).heap.size ∧ gX o (xs K) ∧ xR K = rm ∧ (xM K).locks = false
section GR
variable {K : GX} {b : ByteArray} {nL : Nat} {own : String} {rm : Room} {o n : Nat} {sg : Nat → va_E} {cells slots pc : Nat} {lv lv' : List (Nat × Value)} {rest : List Value}
theorem g_topi {x : Int32} (k : ∀ y : Int32, y = x → G K o n sg cells slots pc lv (.int y :: rest)) : G K o n sg cells slots pc lv (.int x :: rest) := k x rfl
theorem g_topl {x : Int64} (k : ∀ y : Int64, y = x → G K o n sg cells slots pc lv (.long y :: rest)) : G K o n sg cells slots pc lv (.long x :: rest) := k x rfl
theorem g_sub {lv2 : List (Nat × Value)} (h : ∀ q ∈ lv2, q ∈ lv) (k : G K o n sg cells slots pc lv2 rest) : G K o n sg cells slots pc lv rest := fun H locs ls hP hS hl => k H locs ls hP hS ⟨hl.1, hl.2.1, fun q hq => hl.2.2 q (h q hq)⟩
theorem g_pick {lv2 : List (Nat × Value)} (ks : List Nat) (h : lv_pick lv ks = lv2) (k : G K o n sg cells slots pc lv2 rest) : G K o n sg cells slots pc lv rest := fun H locs ls hP hS hl => k H locs ls hP hS (lv_sub hl ks h)
theorem g_eq {sg2 : Nat → va_E} (h : sg = sg2) (k : G K o n sg2 cells slots pc lv rest) : G K o n sg cells slots pc lv rest := h ▸ k
theorem g_iconst (C : GOk K b nL own rm o) {m : Int} {v : Int32} (hv : Int32.ofInt m = v) (d : decode b pc = .ok (.iconst m, 1)) (k : G K o n sg cells slots (pc + 1) lv (.int v :: rest)) : G K o n sg cells slots pc lv (rest) := fun H locs ls hP hS hl => lv_iconst C.1 C.2.1 d hv (k H locs ls hP hS hl)
theorem g_bipush (C : GOk K b nL own rm o) {m : Int} {v : Int32} (hv : (Int8.ofInt m).toInt32 = v) (d : decode b pc = .ok (.bipush m, 2)) (k : G K o n sg cells slots (pc + 2) lv (.int v :: rest)) : G K o n sg cells slots pc lv (rest) := fun H locs ls hP hS hl => lv_bipush C.1 C.2.1 d hv (k H locs ls hP hS hl)
theorem g_sipush (C : GOk K b nL own rm o) {m : Int} {v : Int32} (hv : (Int16.ofInt m).toInt32 = v) (d : decode b pc = .ok (.sipush m, 3)) (k : G K o n sg cells slots (pc + 3) lv (.int v :: rest)) : G K o n sg cells slots pc lv (rest) := fun H locs ls hP hS hl => lv_sipush C.1 C.2.1 d hv (k H locs ls hP hS hl)
theorem g_lconst (C : GOk K b nL own rm o) {m : Fin 2} {v : Int64} (hv : Int64.ofNat (m : Nat) = v) (d : decode b pc = .ok (.lconst m, 1)) (k : G K o n sg cells slots (pc + 1) lv (.long v :: rest)) : G K o n sg cells slots pc lv (rest) := fun H locs ls hP hS hl => lv_lconst C.1 C.2.1 d hv (k H locs ls hP hS hl)
theorem g_ldc (C : GOk K b nL own rm o) {ix : Nat} {v : Int32} (hw : Cond.constant own ix v ∈ gtb) (d : decode b pc = .ok (.ldc ix, 2)) (k : G K o n sg cells slots (pc + 2) lv (.int v :: rest)) : G K o n sg cells slots pc lv (rest) := fun H locs ls hP hS hl => lv_ldc C.1 C.2.1 C.2.2.2.1 (C.2.2.2.2.1 _ hw) d (k H locs ls hP hS hl)
theorem g_ldcw (C : GOk K b nL own rm o) {ix : Nat} {v : Int32} (hw : Cond.constant own ix v ∈ gtb) (d : decode b pc = .ok (.ldc_w ix, 3)) (k : G K o n sg cells slots (pc + 3) lv (.int v :: rest)) : G K o n sg cells slots pc lv (rest) := fun H locs ls hP hS hl => lv_ldcw C.1 C.2.1 C.2.2.2.1 (C.2.2.2.2.1 _ hw) d (k H locs ls hP hS hl)
theorem g_ldc2 (C : GOk K b nL own rm o) {ix : Nat} {v : Int64} (hw : Cond.constantLong own ix v ∈ gtb) (d : decode b pc = .ok (.ldc2_w ix, 3)) (k : G K o n sg cells slots (pc + 3) lv (.long v :: rest)) : G K o n sg cells slots pc lv (rest) := fun H locs ls hP hS hl => lv_ldc2 C.1 C.2.1 C.2.2.2.1 (C.2.2.2.2.1 _ hw) d (k H locs ls hP hS hl)
theorem g_null (C : GOk K b nL own rm o) (d : decode b pc = .ok (.aconst_null, 1)) (k : G K o n sg cells slots (pc + 1) lv (.null :: rest)) : G K o n sg cells slots pc lv (rest) := fun H locs ls hP hS hl => lv_null C.1 C.2.1 d (k H locs ls hP hS hl)
theorem g_iload_n (C : GOk K b nL own rm o) {j : Fin 4} {i : Nat} {x : Int32} (hi : (j : Nat) = i) (h : lv.lookup i = some (.int x)) (d : decode b pc = .ok (.iload_n j, 1)) (k : G K o n sg cells slots (pc + 1) lv (.int x :: rest)) : G K o n sg cells slots pc lv (rest) := fun H locs ls hP hS hl => lv_iload_n C.1 C.2.1 d hi (lv_lk hl h) (k H locs ls hP hS hl)
theorem g_iload (C : GOk K b nL own rm o) {i : Nat} {x : Int32} (h : lv.lookup i = some (.int x)) (d : decode b pc = .ok (.iload i, 2)) (k : G K o n sg cells slots (pc + 2) lv (.int x :: rest)) : G K o n sg cells slots pc lv (rest) := fun H locs ls hP hS hl => lv_iload C.1 C.2.1 d (lv_lk hl h) (k H locs ls hP hS hl)
theorem g_lload_n (C : GOk K b nL own rm o) {j : Fin 4} {i : Nat} {x : Int64} (hi : (j : Nat) = i) (h : lv.lookup i = some (.long x)) (d : decode b pc = .ok (.lload_n j, 1)) (k : G K o n sg cells slots (pc + 1) lv (.long x :: rest)) : G K o n sg cells slots pc lv (rest) := fun H locs ls hP hS hl => lv_lload_n C.1 C.2.1 d hi (lv_lk hl h) (k H locs ls hP hS hl)
theorem g_lload (C : GOk K b nL own rm o) {i : Nat} {x : Int64} (h : lv.lookup i = some (.long x)) (d : decode b pc = .ok (.lload i, 2)) (k : G K o n sg cells slots (pc + 2) lv (.long x :: rest)) : G K o n sg cells slots pc lv (rest) := fun H locs ls hP hS hl => lv_lload C.1 C.2.1 d (lv_lk hl h) (k H locs ls hP hS hl)
theorem g_aload_n (C : GOk K b nL own rm o) {j : Fin 4} {i : Nat} {x : Nat} (hi : (j : Nat) = i) (h : lv.lookup i = some (.ref x)) (d : decode b pc = .ok (.aload_n j, 1)) (k : G K o n sg cells slots (pc + 1) lv (.ref x :: rest)) : G K o n sg cells slots pc lv (rest) := fun H locs ls hP hS hl => lv_aload_n C.1 C.2.1 d hi (lv_lk hl h) (k H locs ls hP hS hl)
theorem g_aload (C : GOk K b nL own rm o) {i : Nat} {x : Nat} (h : lv.lookup i = some (.ref x)) (d : decode b pc = .ok (.aload i, 2)) (k : G K o n sg cells slots (pc + 2) lv (.ref x :: rest)) : G K o n sg cells slots pc lv (rest) := fun H locs ls hP hS hl => lv_aload C.1 C.2.1 d (lv_lk hl h) (k H locs ls hP hS hl)
theorem g_aload_nN (C : GOk K b nL own rm o) {j : Fin 4} {i : Nat} (hi : (j : Nat) = i) (h : lv.lookup i = some .null) (d : decode b pc = .ok (.aload_n j, 1)) (k : G K o n sg cells slots (pc + 1) lv (.null :: rest)) : G K o n sg cells slots pc lv (rest) := fun H locs ls hP hS hl => lv_aload_nN C.1 C.2.1 d hi (lv_lk hl h) (k H locs ls hP hS hl)
theorem g_aloadN (C : GOk K b nL own rm o) {i : Nat} (h : lv.lookup i = some .null) (d : decode b pc = .ok (.aload i, 2)) (k : G K o n sg cells slots (pc + 2) lv (.null :: rest)) : G K o n sg cells slots pc lv (rest) := fun H locs ls hP hS hl => lv_aloadN C.1 C.2.1 d (lv_lk hl h) (k H locs ls hP hS hl)
theorem g_istore_n (C : GOk K b nL own rm o) {j : Fin 4} {i : Nat} {x : Int32} (d : decode b pc = .ok (.istore_n j, 1)) (hi : (j : Nat) = i) (hn : i < nL) (h : (i, Value.int x) :: lv.filter (fun q => !(q.1 == i) && !(q.1 + 1 == i && q.2.category == 2)) = lv') (k : G K o n sg cells slots (pc + 1) lv' rest) : G K o n sg cells slots pc lv (.int x :: rest) := fun H locs ls hP hS hl => lv_istore_n C.1 C.2.1 d hi (by rw [C.2.2.1] at hl; exact hl) hn h (fun ls2 hl2 => k H locs ls2 hP hS (by rw [C.2.2.1]; exact hl2))
theorem g_istore (C : GOk K b nL own rm o) {i : Nat} {x : Int32} (d : decode b pc = .ok (.istore i, 2)) (hn : i < nL) (h : (i, Value.int x) :: lv.filter (fun q => !(q.1 == i) && !(q.1 + 1 == i && q.2.category == 2)) = lv') (k : G K o n sg cells slots (pc + 2) lv' rest) : G K o n sg cells slots pc lv (.int x :: rest) := fun H locs ls hP hS hl => lv_istore C.1 C.2.1 d (by rw [C.2.2.1] at hl; exact hl) hn h (fun ls2 hl2 => k H locs ls2 hP hS (by rw [C.2.2.1]; exact hl2))
theorem g_lstore_n (C : GOk K b nL own rm o) {j : Fin 4} {i : Nat} {x : Int64} (d : decode b pc = .ok (.lstore_n j, 1)) (hi : (j : Nat) = i) (hn : i + 1 < nL) (h : (i, Value.long x) :: lv.filter (fun q => !(q.1 == i) && (!(q.1 == i + 1) && !(q.1 + 1 == i && q.2.category == 2))) = lv') (k : G K o n sg cells slots (pc + 1) lv' rest) : G K o n sg cells slots pc lv (.long x :: rest) := fun H locs ls hP hS hl => lv_lstore_n C.1 C.2.1 d hi (by rw [C.2.2.1] at hl; exact hl) hn h (fun ls2 hl2 => k H locs ls2 hP hS (by rw [C.2.2.1]; exact hl2))
theorem g_lstore (C : GOk K b nL own rm o) {i : Nat} {x : Int64} (d : decode b pc = .ok (.lstore i, 2)) (hn : i + 1 < nL) (h : (i, Value.long x) :: lv.filter (fun q => !(q.1 == i) && (!(q.1 == i + 1) && !(q.1 + 1 == i && q.2.category == 2))) = lv') (k : G K o n sg cells slots (pc + 2) lv' rest) : G K o n sg cells slots pc lv (.long x :: rest) := fun H locs ls hP hS hl => lv_lstore C.1 C.2.1 d (by rw [C.2.2.1] at hl; exact hl) hn h (fun ls2 hl2 => k H locs ls2 hP hS (by rw [C.2.2.1]; exact hl2))
theorem g_astore_n (C : GOk K b nL own rm o) {j : Fin 4} {i : Nat} {x : Nat} (d : decode b pc = .ok (.astore_n j, 1)) (hi : (j : Nat) = i) (hn : i < nL) (h : (i, Value.ref x) :: lv.filter (fun q => !(q.1 == i) && !(q.1 + 1 == i && q.2.category == 2)) = lv') (k : G K o n sg cells slots (pc + 1) lv' rest) : G K o n sg cells slots pc lv (.ref x :: rest) := fun H locs ls hP hS hl => lv_astore_n C.1 C.2.1 d hi (by rw [C.2.2.1] at hl; exact hl) hn h (fun ls2 hl2 => k H locs ls2 hP hS (by rw [C.2.2.1]; exact hl2))
theorem g_astore (C : GOk K b nL own rm o) {i : Nat} {x : Nat} (d : decode b pc = .ok (.astore i, 2)) (hn : i < nL) (h : (i, Value.ref x) :: lv.filter (fun q => !(q.1 == i) && !(q.1 + 1 == i && q.2.category == 2)) = lv') (k : G K o n sg cells slots (pc + 2) lv' rest) : G K o n sg cells slots pc lv (.ref x :: rest) := fun H locs ls hP hS hl => lv_astore C.1 C.2.1 d (by rw [C.2.2.1] at hl; exact hl) hn h (fun ls2 hl2 => k H locs ls2 hP hS (by rw [C.2.2.1]; exact hl2))
theorem g_astore_nN (C : GOk K b nL own rm o) {j : Fin 4} {i : Nat} (d : decode b pc = .ok (.astore_n j, 1)) (hi : (j : Nat) = i) (hn : i < nL) (h : (i, Value.null) :: lv.filter (fun q => !(q.1 == i) && !(q.1 + 1 == i && q.2.category == 2)) = lv') (k : G K o n sg cells slots (pc + 1) lv' rest) : G K o n sg cells slots pc lv (.null :: rest) := fun H locs ls hP hS hl => lv_astore_nN C.1 C.2.1 d hi (by rw [C.2.2.1] at hl; exact hl) hn h (fun ls2 hl2 => k H locs ls2 hP hS (by rw [C.2.2.1]; exact hl2))
theorem g_astoreN (C : GOk K b nL own rm o) {i : Nat} (d : decode b pc = .ok (.astore i, 2)) (hn : i < nL) (h : (i, Value.null) :: lv.filter (fun q => !(q.1 == i) && !(q.1 + 1 == i && q.2.category == 2)) = lv') (k : G K o n sg cells slots (pc + 2) lv' rest) : G K o n sg cells slots pc lv (.null :: rest) := fun H locs ls hP hS hl => lv_astoreN C.1 C.2.1 d (by rw [C.2.2.1] at hl; exact hl) hn h (fun ls2 hl2 => k H locs ls2 hP hS (by rw [C.2.2.1]; exact hl2))
theorem lk_at {l : List (Nat × Value)} {i : Nat} {v : Value} (h : l.lookup i = some v) : ∃ k : Nat, l[k]? = some (i, v) := List.mem_iff_getElem?.mp (lk_mem h)
theorem g_iinc (C : GOk K b nL own rm o) {i : Nat} {m : Int} {x v : Int32} (d : decode b pc = .ok (.iinc i m, 3)) (h0 : lv.lookup i = some (.int x)) (hv : x + Int32.ofInt m = v) (hn : i < nL) (h : (i, Value.int v) :: lv.filter (fun q => !(q.1 == i) && !(q.1 + 1 == i && q.2.category == 2)) = lv') (k : G K o n sg cells slots (pc + 3) lv' rest) : G K o n sg cells slots pc lv rest := fun H locs ls hP hS hl => by
  obtain ⟨j, hj⟩ := lk_at h0
  exact lv_iinc C.1 C.2.1 d (by rw [C.2.2.1] at hl; exact hl) hj hv hn h (fun ls2 hl2 => k H locs ls2 hP hS (by rw [C.2.2.1]; exact hl2))
theorem g_iadd (C : GOk K b nL own rm o) {x y : Int32} (d : decode b pc = .ok (.iadd, 1)) (k : G K o n sg cells slots (pc + 1) lv (.int (x + y) :: rest)) : G K o n sg cells slots pc lv (.int y :: .int x :: rest) := fun H locs ls hP hS hl => lv_iadd C.1 C.2.1 d (k H locs ls hP hS hl)
theorem g_isub (C : GOk K b nL own rm o) {x y : Int32} (d : decode b pc = .ok (.isub, 1)) (k : G K o n sg cells slots (pc + 1) lv (.int (x - y) :: rest)) : G K o n sg cells slots pc lv (.int y :: .int x :: rest) := fun H locs ls hP hS hl => lv_isub C.1 C.2.1 d (k H locs ls hP hS hl)
theorem g_imul (C : GOk K b nL own rm o) {x y : Int32} (d : decode b pc = .ok (.imul, 1)) (k : G K o n sg cells slots (pc + 1) lv (.int (x * y) :: rest)) : G K o n sg cells slots pc lv (.int y :: .int x :: rest) := fun H locs ls hP hS hl => lv_imul C.1 C.2.1 d (k H locs ls hP hS hl)
theorem g_iand (C : GOk K b nL own rm o) {x y : Int32} (d : decode b pc = .ok (.iand, 1)) (k : G K o n sg cells slots (pc + 1) lv (.int (x &&& y) :: rest)) : G K o n sg cells slots pc lv (.int y :: .int x :: rest) := fun H locs ls hP hS hl => lv_iand C.1 C.2.1 d (k H locs ls hP hS hl)
theorem g_ladd (C : GOk K b nL own rm o) {x y : Int64} (d : decode b pc = .ok (.ladd, 1)) (k : G K o n sg cells slots (pc + 1) lv (.long (x + y) :: rest)) : G K o n sg cells slots pc lv (.long y :: .long x :: rest) := fun H locs ls hP hS hl => lv_ladd C.1 C.2.1 d (k H locs ls hP hS hl)
theorem g_lsub (C : GOk K b nL own rm o) {x y : Int64} (d : decode b pc = .ok (.lsub, 1)) (k : G K o n sg cells slots (pc + 1) lv (.long (x - y) :: rest)) : G K o n sg cells slots pc lv (.long y :: .long x :: rest) := fun H locs ls hP hS hl => lv_lsub C.1 C.2.1 d (k H locs ls hP hS hl)
theorem g_lmul (C : GOk K b nL own rm o) {x y : Int64} (d : decode b pc = .ok (.lmul, 1)) (k : G K o n sg cells slots (pc + 1) lv (.long (x * y) :: rest)) : G K o n sg cells slots pc lv (.long y :: .long x :: rest) := fun H locs ls hP hS hl => lv_lmul C.1 C.2.1 d (k H locs ls hP hS hl)
theorem g_land (C : GOk K b nL own rm o) {x y : Int64} (d : decode b pc = .ok (.land, 1)) (k : G K o n sg cells slots (pc + 1) lv (.long (x &&& y) :: rest)) : G K o n sg cells slots pc lv (.long y :: .long x :: rest) := fun H locs ls hP hS hl => lv_land C.1 C.2.1 d (k H locs ls hP hS hl)
theorem g_ldiv (C : GOk K b nL own rm o) {x y : Int64} (hne : ¬ y = 0) (d : decode b pc = .ok (.ldiv, 1)) (k : G K o n sg cells slots (pc + 1) lv (.long (x / y) :: rest)) : G K o n sg cells slots pc lv (.long y :: .long x :: rest) := fun H locs ls hP hS hl => lv_ldiv C.1 C.2.1 d hne (k H locs ls hP hS hl)
theorem g_lrem (C : GOk K b nL own rm o) {x y : Int64} (hne : ¬ y = 0) (d : decode b pc = .ok (.lrem, 1)) (k : G K o n sg cells slots (pc + 1) lv (.long (x - x / y * y) :: rest)) : G K o n sg cells slots pc lv (.long y :: .long x :: rest) := fun H locs ls hP hS hl => lv_lrem C.1 C.2.1 d hne (k H locs ls hP hS hl)
theorem g_ineg (C : GOk K b nL own rm o) {x : Int32} (d : decode b pc = .ok (.ineg, 1)) (k : G K o n sg cells slots (pc + 1) lv (.int (-x) :: rest)) : G K o n sg cells slots pc lv (.int x :: rest) := fun H locs ls hP hS hl => lv_ineg C.1 C.2.1 d (k H locs ls hP hS hl)
theorem g_lneg (C : GOk K b nL own rm o) {x : Int64} (d : decode b pc = .ok (.lneg, 1)) (k : G K o n sg cells slots (pc + 1) lv (.long (-x) :: rest)) : G K o n sg cells slots pc lv (.long x :: rest) := fun H locs ls hP hS hl => lv_lneg C.1 C.2.1 d (k H locs ls hP hS hl)
theorem g_i2l (C : GOk K b nL own rm o) {x : Int32} (d : decode b pc = .ok (.i2l, 1)) (k : G K o n sg cells slots (pc + 1) lv (.long x.toInt64 :: rest)) : G K o n sg cells slots pc lv (.int x :: rest) := fun H locs ls hP hS hl => lv_i2l C.1 C.2.1 d rfl (k H locs ls hP hS hl)
theorem g_l2i (C : GOk K b nL own rm o) {x : Int64} (d : decode b pc = .ok (.l2i, 1)) (k : G K o n sg cells slots (pc + 1) lv (.int x.toInt32 :: rest)) : G K o n sg cells slots pc lv (.long x :: rest) := fun H locs ls hP hS hl => lv_l2i C.1 C.2.1 d rfl (k H locs ls hP hS hl)
def jshl (x : Int64) (y : Int32) : Int64 := x <<< (y.toInt64 &&& 63)
def jshr (x : Int64) (y : Int32) : Int64 := x >>> (y.toInt64 &&& 63)
def jushr (x : Int64) (y : Int32) : Int64 := (x.toUInt64 >>> (y.toInt64.toUInt64 &&& Int64.toUInt64 63)).toInt64
def jrem (x y : Int64) : Int64 := x - x / y * y
theorem g_lshl (C : GOk K b nL own rm o) {x : Int64} {y : Int32} (d : decode b pc = .ok (.lshl, 1)) (k : G K o n sg cells slots (pc + 1) lv (.long (jshl x y) :: rest)) : G K o n sg cells slots pc lv (.int y :: .long x :: rest) := fun H locs ls hP hS hl => lv_lshl C.1 C.2.1 d rfl (k H locs ls hP hS hl)
theorem g_lshr (C : GOk K b nL own rm o) {x : Int64} {y : Int32} (d : decode b pc = .ok (.lshr, 1)) (k : G K o n sg cells slots (pc + 1) lv (.long (jshr x y) :: rest)) : G K o n sg cells slots pc lv (.int y :: .long x :: rest) := fun H locs ls hP hS hl => lv_lshr C.1 C.2.1 d rfl (k H locs ls hP hS hl)
theorem g_lushr (C : GOk K b nL own rm o) {x : Int64} {y : Int32} (d : decode b pc = .ok (.lushr, 1)) (k : G K o n sg cells slots (pc + 1) lv (.long (jushr x y) :: rest)) : G K o n sg cells slots pc lv (.int y :: .long x :: rest) := fun H locs ls hP hS hl => lv_lushr C.1 C.2.1 d rfl (k H locs ls hP hS hl)
theorem g_dup (C : GOk K b nL own rm o) {v : Value} (hc : v.category = 1) (d : decode b pc = .ok (.dup, 1)) (k : G K o n sg cells slots (pc + 1) lv (v :: v :: rest)) : G K o n sg cells slots pc lv (v :: rest) := fun H locs ls hP hS hl => lv_dup C.1 C.2.1 d hc (k H locs ls hP hS hl)
theorem g_pop (C : GOk K b nL own rm o) {v : Value} (hc : v.category = 1) (d : decode b pc = .ok (.pop, 1)) (k : G K o n sg cells slots (pc + 1) lv (rest)) : G K o n sg cells slots pc lv (v :: rest) := fun H locs ls hP hS hl => lv_pop C.1 C.2.1 d hc (k H locs ls hP hS hl)
theorem g_pop2 (C : GOk K b nL own rm o) {v : Value} (hc : v.category = 2) (d : decode b pc = .ok (.pop2, 1)) (k : G K o n sg cells slots (pc + 1) lv (rest)) : G K o n sg cells slots pc lv (v :: rest) := fun H locs ls hP hS hl => lv_pop2_2 C.1 C.2.1 d hc (k H locs ls hP hS hl)
theorem g_dup_x1 (C : GOk K b nL own rm o) {v u : Value} (hc : v.category = 1) (hc2 : u.category = 1) (d : decode b pc = .ok (.dup_x1, 1)) (k : G K o n sg cells slots (pc + 1) lv (v :: u :: v :: rest)) : G K o n sg cells slots pc lv (v :: u :: rest) := fun H locs ls hP hS hl => lv_dup_x1 C.1 C.2.1 d hc hc2 (k H locs ls hP hS hl)
theorem g_dup_x2 (C : GOk K b nL own rm o) {v u t : Value} (hc : v.category = 1) (hc2 : u.category = 1) (hc3 : t.category = 1) (d : decode b pc = .ok (.dup_x2, 1)) (k : G K o n sg cells slots (pc + 1) lv (v :: u :: t :: v :: rest)) : G K o n sg cells slots pc lv (v :: u :: t :: rest) := fun H locs ls hP hS hl => lv_dup_x2 C.1 C.2.1 d hc hc2 hc3 (k H locs ls hP hS hl)
theorem g_dup2 (C : GOk K b nL own rm o) {v u : Value} (hc : v.category = 1) (hc2 : u.category = 1) (d : decode b pc = .ok (.dup2, 1)) (k : G K o n sg cells slots (pc + 1) lv (v :: u :: v :: u :: rest)) : G K o n sg cells slots pc lv (v :: u :: rest) := fun H locs ls hP hS hl => lv_dup2_11 C.1 C.2.1 d hc hc2 (k H locs ls hP hS hl)
theorem g_dup2L (C : GOk K b nL own rm o) {v : Value} (hc : v.category = 2) (d : decode b pc = .ok (.dup2, 1)) (k : G K o n sg cells slots (pc + 1) lv (v :: v :: rest)) : G K o n sg cells slots pc lv (v :: rest) := fun H locs ls hP hS hl => lv_dup2_2 C.1 C.2.1 d hc (k H locs ls hP hS hl)
theorem g_dup2_x1L (C : GOk K b nL own rm o) {v u : Value} (hc : v.category = 2) (hc2 : u.category = 1) (d : decode b pc = .ok (.dup2_x1, 1)) (k : G K o n sg cells slots (pc + 1) lv (v :: u :: v :: rest)) : G K o n sg cells slots pc lv (v :: u :: rest) := fun H locs ls hP hS hl => lv_dup2_x1_2 C.1 C.2.1 d hc hc2 (k H locs ls hP hS hl)
theorem g_if_eq (C : GOk K b nL own rm o) {x : Int32} {off : Int} {tgt : Nat} (d : decode b pc = .ok (.ifCond .eq off, 3)) (ht : (pc : Int) + off = (tgt : Int)) (kt : x = 0 → G K o n sg cells slots tgt lv rest) (kf : ¬ x = 0 → G K o n sg cells slots (pc + 3) lv rest) : G K o n sg cells slots pc lv (.int x :: rest) := fun H locs ls hP hS hl => lv_if_eq C.1 C.2.1 d ht (fun q => kt q H locs ls hP hS hl) (fun q => kf q H locs ls hP hS hl)
theorem g_icmp_eq (C : GOk K b nL own rm o) {x y : Int32} {off : Int} {tgt : Nat} (d : decode b pc = .ok (.if_icmp .eq off, 3)) (ht : (pc : Int) + off = (tgt : Int)) (kt : x = y → G K o n sg cells slots tgt lv rest) (kf : ¬ x = y → G K o n sg cells slots (pc + 3) lv rest) : G K o n sg cells slots pc lv (.int y :: .int x :: rest) := fun H locs ls hP hS hl => lv_icmp_eq C.1 C.2.1 d ht (fun q => kt q H locs ls hP hS hl) (fun q => kf q H locs ls hP hS hl)
theorem g_if_ne (C : GOk K b nL own rm o) {x : Int32} {off : Int} {tgt : Nat} (d : decode b pc = .ok (.ifCond .ne off, 3)) (ht : (pc : Int) + off = (tgt : Int)) (kt : ¬ x = 0 → G K o n sg cells slots tgt lv rest) (kf : x = 0 → G K o n sg cells slots (pc + 3) lv rest) : G K o n sg cells slots pc lv (.int x :: rest) := fun H locs ls hP hS hl => lv_if_ne C.1 C.2.1 d ht (fun q => kt q H locs ls hP hS hl) (fun q => kf q H locs ls hP hS hl)
theorem g_icmp_ne (C : GOk K b nL own rm o) {x y : Int32} {off : Int} {tgt : Nat} (d : decode b pc = .ok (.if_icmp .ne off, 3)) (ht : (pc : Int) + off = (tgt : Int)) (kt : ¬ x = y → G K o n sg cells slots tgt lv rest) (kf : x = y → G K o n sg cells slots (pc + 3) lv rest) : G K o n sg cells slots pc lv (.int y :: .int x :: rest) := fun H locs ls hP hS hl => lv_icmp_ne C.1 C.2.1 d ht (fun q => kt q H locs ls hP hS hl) (fun q => kf q H locs ls hP hS hl)
theorem g_if_lt (C : GOk K b nL own rm o) {x : Int32} {off : Int} {tgt : Nat} (d : decode b pc = .ok (.ifCond .lt off, 3)) (ht : (pc : Int) + off = (tgt : Int)) (kt : x < 0 → G K o n sg cells slots tgt lv rest) (kf : ¬ x < 0 → G K o n sg cells slots (pc + 3) lv rest) : G K o n sg cells slots pc lv (.int x :: rest) := fun H locs ls hP hS hl => lv_if_lt C.1 C.2.1 d ht (fun q => kt q H locs ls hP hS hl) (fun q => kf q H locs ls hP hS hl)
theorem g_icmp_lt (C : GOk K b nL own rm o) {x y : Int32} {off : Int} {tgt : Nat} (d : decode b pc = .ok (.if_icmp .lt off, 3)) (ht : (pc : Int) + off = (tgt : Int)) (kt : x < y → G K o n sg cells slots tgt lv rest) (kf : ¬ x < y → G K o n sg cells slots (pc + 3) lv rest) : G K o n sg cells slots pc lv (.int y :: .int x :: rest) := fun H locs ls hP hS hl => lv_icmp_lt C.1 C.2.1 d ht (fun q => kt q H locs ls hP hS hl) (fun q => kf q H locs ls hP hS hl)
theorem g_if_ge (C : GOk K b nL own rm o) {x : Int32} {off : Int} {tgt : Nat} (d : decode b pc = .ok (.ifCond .ge off, 3)) (ht : (pc : Int) + off = (tgt : Int)) (kt : 0 ≤ x → G K o n sg cells slots tgt lv rest) (kf : ¬ 0 ≤ x → G K o n sg cells slots (pc + 3) lv rest) : G K o n sg cells slots pc lv (.int x :: rest) := fun H locs ls hP hS hl => lv_if_ge C.1 C.2.1 d ht (fun q => kt q H locs ls hP hS hl) (fun q => kf q H locs ls hP hS hl)
theorem g_icmp_ge (C : GOk K b nL own rm o) {x y : Int32} {off : Int} {tgt : Nat} (d : decode b pc = .ok (.if_icmp .ge off, 3)) (ht : (pc : Int) + off = (tgt : Int)) (kt : y ≤ x → G K o n sg cells slots tgt lv rest) (kf : ¬ y ≤ x → G K o n sg cells slots (pc + 3) lv rest) : G K o n sg cells slots pc lv (.int y :: .int x :: rest) := fun H locs ls hP hS hl => lv_icmp_ge C.1 C.2.1 d ht (fun q => kt q H locs ls hP hS hl) (fun q => kf q H locs ls hP hS hl)
theorem g_if_gt (C : GOk K b nL own rm o) {x : Int32} {off : Int} {tgt : Nat} (d : decode b pc = .ok (.ifCond .gt off, 3)) (ht : (pc : Int) + off = (tgt : Int)) (kt : 0 < x → G K o n sg cells slots tgt lv rest) (kf : ¬ 0 < x → G K o n sg cells slots (pc + 3) lv rest) : G K o n sg cells slots pc lv (.int x :: rest) := fun H locs ls hP hS hl => lv_if_gt C.1 C.2.1 d ht (fun q => kt q H locs ls hP hS hl) (fun q => kf q H locs ls hP hS hl)
theorem g_icmp_gt (C : GOk K b nL own rm o) {x y : Int32} {off : Int} {tgt : Nat} (d : decode b pc = .ok (.if_icmp .gt off, 3)) (ht : (pc : Int) + off = (tgt : Int)) (kt : y < x → G K o n sg cells slots tgt lv rest) (kf : ¬ y < x → G K o n sg cells slots (pc + 3) lv rest) : G K o n sg cells slots pc lv (.int y :: .int x :: rest) := fun H locs ls hP hS hl => lv_icmp_gt C.1 C.2.1 d ht (fun q => kt q H locs ls hP hS hl) (fun q => kf q H locs ls hP hS hl)
theorem g_if_le (C : GOk K b nL own rm o) {x : Int32} {off : Int} {tgt : Nat} (d : decode b pc = .ok (.ifCond .le off, 3)) (ht : (pc : Int) + off = (tgt : Int)) (kt : x ≤ 0 → G K o n sg cells slots tgt lv rest) (kf : ¬ x ≤ 0 → G K o n sg cells slots (pc + 3) lv rest) : G K o n sg cells slots pc lv (.int x :: rest) := fun H locs ls hP hS hl => lv_if_le C.1 C.2.1 d ht (fun q => kt q H locs ls hP hS hl) (fun q => kf q H locs ls hP hS hl)
theorem g_icmp_le (C : GOk K b nL own rm o) {x y : Int32} {off : Int} {tgt : Nat} (d : decode b pc = .ok (.if_icmp .le off, 3)) (ht : (pc : Int) + off = (tgt : Int)) (kt : x ≤ y → G K o n sg cells slots tgt lv rest) (kf : ¬ x ≤ y → G K o n sg cells slots (pc + 3) lv rest) : G K o n sg cells slots pc lv (.int y :: .int x :: rest) := fun H locs ls hP hS hl => lv_icmp_le C.1 C.2.1 d ht (fun q => kt q H locs ls hP hS hl) (fun q => kf q H locs ls hP hS hl)
theorem g_goto (C : GOk K b nL own rm o) {off : Int} {tgt : Nat} (d : decode b pc = .ok (.goto off, 3)) (ht : (pc : Int) + off = (tgt : Int)) (k : G K o n sg cells slots tgt lv rest) : G K o n sg cells slots pc lv rest := fun H locs ls hP hS hl => lv_goto C.1 C.2.1 d ht (k H locs ls hP hS hl)
theorem g_ifnonnull (C : GOk K b nL own rm o) {x : Nat} {off : Int} {tgt : Nat} (d : decode b pc = .ok (.ifnonnull off, 3)) (ht : (pc : Int) + off = (tgt : Int)) (k : G K o n sg cells slots tgt lv rest) : G K o n sg cells slots pc lv (.ref x :: rest) := fun H locs ls hP hS hl => lv_ifnonnull C.1 C.2.1 d ht (k H locs ls hP hS hl)
theorem g_ifnull (C : GOk K b nL own rm o) {x : Nat} {off : Int} (d : decode b pc = .ok (.ifnull off, 3)) (k : G K o n sg cells slots (pc + 3) lv rest) : G K o n sg cells slots pc lv (.ref x :: rest) := fun H locs ls hP hS hl => lv_ifnull C.1 C.2.1 d (k H locs ls hP hS hl)
theorem g_ifnullN (C : GOk K b nL own rm o) {off : Int} {tgt : Nat} (d : decode b pc = .ok (.ifnull off, 3)) (ht : (pc : Int) + off = (tgt : Int)) (k : G K o n sg cells slots tgt lv rest) : G K o n sg cells slots pc lv (.null :: rest) := fun H locs ls hP hS hl => lv_ifnullN C.1 C.2.1 d ht (k H locs ls hP hS hl)
theorem g_ifnonnullN (C : GOk K b nL own rm o) {off : Int} (d : decode b pc = .ok (.ifnonnull off, 3)) (k : G K o n sg cells slots (pc + 3) lv rest) : G K o n sg cells slots pc lv (.null :: rest) := fun H locs ls hP hS hl => lv_ifnonnullN C.1 C.2.1 d (k H locs ls hP hS hl)
theorem lc_eq (x y : Int64) : lg_cmp x y = 0 ↔ x = y := by
  unfold lg_cmp
  by_cases h1 : x > y
  · have : ¬ x = y := fun e => by subst e; exact absurd h1 (by simp [Int64.lt_iff_toInt_lt])
    simp [h1, this]
  · by_cases h2 : x = y
    · simp [h2]
    · simp [h1, h2]
theorem up_eq {α : Type} (f : Nat → α) (k : Nat) (v : α) : va_up f k v k = v := va_up_self f k v
theorem up_ne {α : Type} {f : Nat → α} {k j : Nat} {v x : α} (h : j ≠ k) (hx : f j = x) : va_up f k v j = x := (va_up_ne f v h).trans hx
theorem lc_lt (x y : Int64) : lg_cmp x y < 0 ↔ x < y := by
  have h := lg_cmp_ge x y
  rw [← Int32.not_le, h, Int64.not_le]
theorem lc_gt (x y : Int64) : 0 < lg_cmp x y ↔ y < x := by
  have h := lg_cmp_le x y
  rw [← Int32.not_le, h, Int64.not_le]
theorem g_lcmp_eq (C : GOk K b nL own rm o) {x y : Int64} {off : Int} {tgt : Nat} (d0 : decode b pc = .ok (.lcmp, 1)) (d : decode b (pc + 1) = .ok (.ifCond .eq off, 3)) (ht : ((pc + 1 : Nat) : Int) + off = (tgt : Int)) (kt : x = y → G K o n sg cells slots tgt lv rest) (kf : ¬ x = y → G K o n sg cells slots (pc + 1 + 3) lv rest) : G K o n sg cells slots pc lv (.long y :: .long x :: rest) := fun H locs ls hP hS hl => W.lcmp C.1 C.2.1 d0 (lv_if_eq C.1 C.2.1 d ht (fun q => kt ((lc_eq x y).mp q) H locs ls hP hS hl) (fun q => kf (fun z => q ((lc_eq x y).mpr z)) H locs ls hP hS hl))
-- kit ne: kt ¬ x = 0 kf x = 0
theorem g_lcmp_ne (C : GOk K b nL own rm o) {x y : Int64} {off : Int} {tgt : Nat} (d0 : decode b pc = .ok (.lcmp, 1)) (d : decode b (pc + 1) = .ok (.ifCond .ne off, 3)) (ht : ((pc + 1 : Nat) : Int) + off = (tgt : Int)) (kt : ¬ x = y → G K o n sg cells slots tgt lv rest) (kf : x = y → G K o n sg cells slots (pc + 1 + 3) lv rest) : G K o n sg cells slots pc lv (.long y :: .long x :: rest) := fun H locs ls hP hS hl => W.lcmp C.1 C.2.1 d0 (lv_if_ne C.1 C.2.1 d ht (fun q => kt (fun z => q ((lc_eq x y).mpr z)) H locs ls hP hS hl) (fun q => kf ((lc_eq x y).mp q) H locs ls hP hS hl))
theorem g_lcmp_lt (C : GOk K b nL own rm o) {x y : Int64} {off : Int} {tgt : Nat} (d0 : decode b pc = .ok (.lcmp, 1)) (d : decode b (pc + 1) = .ok (.ifCond .lt off, 3)) (ht : ((pc + 1 : Nat) : Int) + off = (tgt : Int)) (kt : x < y → G K o n sg cells slots tgt lv rest) (kf : ¬ x < y → G K o n sg cells slots (pc + 1 + 3) lv rest) : G K o n sg cells slots pc lv (.long y :: .long x :: rest) := fun H locs ls hP hS hl => W.lcmp C.1 C.2.1 d0 (lv_if_lt C.1 C.2.1 d ht (fun q => kt ((lc_lt x y).mp q) H locs ls hP hS hl) (fun q => kf (fun z => q ((lc_lt x y).mpr z)) H locs ls hP hS hl))
theorem g_lcmp_ge (C : GOk K b nL own rm o) {x y : Int64} {off : Int} {tgt : Nat} (d0 : decode b pc = .ok (.lcmp, 1)) (d : decode b (pc + 1) = .ok (.ifCond .ge off, 3)) (ht : ((pc + 1 : Nat) : Int) + off = (tgt : Int)) (kt : y ≤ x → G K o n sg cells slots tgt lv rest) (kf : ¬ y ≤ x → G K o n sg cells slots (pc + 1 + 3) lv rest) : G K o n sg cells slots pc lv (.long y :: .long x :: rest) := fun H locs ls hP hS hl => W.lcmp C.1 C.2.1 d0 (lv_if_ge C.1 C.2.1 d ht (fun q => kt ((lg_cmp_ge x y).mp q) H locs ls hP hS hl) (fun q => kf (fun z => q ((lg_cmp_ge x y).mpr z)) H locs ls hP hS hl))
theorem g_lcmp_gt (C : GOk K b nL own rm o) {x y : Int64} {off : Int} {tgt : Nat} (d0 : decode b pc = .ok (.lcmp, 1)) (d : decode b (pc + 1) = .ok (.ifCond .gt off, 3)) (ht : ((pc + 1 : Nat) : Int) + off = (tgt : Int)) (kt : y < x → G K o n sg cells slots tgt lv rest) (kf : ¬ y < x → G K o n sg cells slots (pc + 1 + 3) lv rest) : G K o n sg cells slots pc lv (.long y :: .long x :: rest) := fun H locs ls hP hS hl => W.lcmp C.1 C.2.1 d0 (lv_if_gt C.1 C.2.1 d ht (fun q => kt ((lc_gt x y).mp q) H locs ls hP hS hl) (fun q => kf (fun z => q ((lc_gt x y).mpr z)) H locs ls hP hS hl))
theorem g_lcmp_le (C : GOk K b nL own rm o) {x y : Int64} {off : Int} {tgt : Nat} (d0 : decode b pc = .ok (.lcmp, 1)) (d : decode b (pc + 1) = .ok (.ifCond .le off, 3)) (ht : ((pc + 1 : Nat) : Int) + off = (tgt : Int)) (kt : x ≤ y → G K o n sg cells slots tgt lv rest) (kf : ¬ x ≤ y → G K o n sg cells slots (pc + 1 + 3) lv rest) : G K o n sg cells slots pc lv (.long y :: .long x :: rest) := fun H locs ls hP hS hl => W.lcmp C.1 C.2.1 d0 (lv_if_le C.1 C.2.1 d ht (fun q => kt ((lg_cmp_le x y).mp q) H locs ls hP hS hl) (fun q => kf (fun z => q ((lg_cmp_le x y).mpr z)) H locs ls hP hS hl))
theorem g_tableIn (C : GOk K b nL own rm o) {dflt lo hi : Int} {offs : Array Int} {len : Nat} {x : Int32} {off : Int} {tgt : Nat} (d : decode b pc = .ok (.tableswitch dflt lo hi offs, len)) (h1 : ¬ x.toInt < lo) (h2 : ¬ hi < x.toInt) (ho : offs[(x.toInt - lo).toNat]? = some off) (ht : (pc : Int) + off = (tgt : Int)) (k : G K o n sg cells slots tgt lv rest) : G K o n sg cells slots pc lv (.int x :: rest) := fun H locs ls hP hS hl => lv_tableIn C.1 C.2.1 d h1 h2 ho ht (k H locs ls hP hS hl)
theorem g_tableOut (C : GOk K b nL own rm o) {dflt lo hi : Int} {offs : Array Int} {len : Nat} {x : Int32} {tgt : Nat} (d : decode b pc = .ok (.tableswitch dflt lo hi offs, len)) (h : x.toInt < lo ∨ hi < x.toInt) (ht : (pc : Int) + dflt = (tgt : Int)) (k : G K o n sg cells slots tgt lv rest) : G K o n sg cells slots pc lv (.int x :: rest) := fun H locs ls hP hS hl => lv_tableOut C.1 C.2.1 d h ht (k H locs ls hP hS hl)
end GR
