-- THE HEAP'S RULES
section GH
variable {K : GX} {b : ByteArray} {nL : Nat} {own : String} {rm : Room} {o n : Nat} {sg : Nat → va_E} {cells slots pc : Nat} {lv lv' : List (Nat × Value)} {rest : List Value}
theorem g_get (C : GOk K b nL own rm o) {Cn : String} {T : u_T} {N ci ix : Nat} (hin : ∀ w ∈ u_ws Cn T N, w ∈ gtb) (hc : classes[ci]? = some (Cn, T, N)) (j : Nat) (hj : j < N) (hw : Cond.fieldLink own ix (T j).1 (T j).2.1 (T j).2.2.1 ∈ gtb) (d : decode b pc = .ok (.getfield ix, 3)) {k0 : Nat} (hk0 : k0 < n) {fs : List Value} (hs : sg k0 = eO ci fs) {v : Value} (hv : fs[j]? = some v) (k : G K o n sg cells slots (pc + 3) lv (v :: rest)) : G K o n sg cells slots pc lv (.ref (ad o k0) :: rest) := fun H locs ls hP hS hl =>
  va_get C.1 C.2.1 C.2.2.2.2.1 hin C.2.2.2.1 C.2.2.2.2.2.1 hP k0 (gw_at hk0 hs) hc j hj (C.2.2.2.2.1 _ hw) (fun _ h => h) hv d (k H locs ls hP hS hl)
theorem g_getN (C : GOk K b nL own rm o) {Cn host : String} {T : u_T} {N ci ix : Nat} (hin : ∀ w ∈ u_ws Cn T N, w ∈ gtb) (hc : classes[ci]? = some (Cn, T, N)) (j : Nat) (hj : j < N) (hw : Cond.fieldLinkNest own ix (T j).1 (T j).2.1 (T j).2.2.1 host ∈ gnest) (d : decode b pc = .ok (.getfield ix, 3)) {k0 : Nat} (hk0 : k0 < n) {fs : List Value} (hs : sg k0 = eO ci fs) {v : Value} (hv : fs[j]? = some v) (k : G K o n sg cells slots (pc + 3) lv (v :: rest)) : G K o n sg cells slots pc lv (.ref (ad o k0) :: rest) := fun H locs ls hP hS hl =>
  va_getN C.1 C.2.1 C.2.2.2.2.1 hin C.2.2.2.1 C.2.2.2.2.2.1 hP k0 (gw_at hk0 hs) hc j hj (va_Nw.use rfl (C.2.2.2.2.2.2.2.1.1 _ hw)) (fun _ h => h) hv d (k H locs ls hP hS hl)
theorem gw_keep {D : va_G} {ak : Nat → ClassId} {k0 : Nat} {x : va_E} {q : Nat × va_E} {H1 : Heap} (hk0 : k0 < n) (hq : q = (ad o k0, gE ak x)) (h : va_P D classes ((gw ak o n sg).set k0 q) H1) : va_P D classes (gw ak o n (va_up sg k0 x)) H1 := by
  subst hq
  rw [gw_set hk0] at h
  exact h
theorem g_put (C : GOk K b nL own rm o) {Cn : String} {T : u_T} {N ci ix : Nat} (hin : ∀ w ∈ u_ws Cn T N, w ∈ gtb) (ty0 : Nat → FieldType) (hty : ∀ k, k < N → parseFieldDescriptor (T k).2.2.1 = some (ty0 k)) (hnm : ∀ a, a < N → ∀ b, b < N → a ≠ b → (T a).2.1 ≠ (T b).2.1) (hc : classes[ci]? = some (Cn, T, N)) (j : Nat) (hj : j < N) (hw : Cond.fieldLink own ix (T j).1 (T j).2.1 (T j).2.2.1 ∈ gtb) (hfin : (T j).2.2.2 = false) {ty : FieldType} (hd : parseFieldDescriptor (T j).2.2.1 = some ty) (d : decode b pc = .ok (.putfield ix, 3)) {v : Value} (hn : narrow ty v = v) (hfit : fits ty v = true) {k0 : Nat} (hk0 : k0 < n) {fs : List Value} (hs : sg k0 = eO ci fs) (hl0 : j < fs.length) (k : G K o n (va_up sg k0 (eO ci (fs.set j v))) cells slots (pc + 3) lv rest) : G K o n sg cells slots pc lv (v :: .ref (ad o k0) :: rest) := fun H locs ls hP hS hl =>
  va_put C.1 C.2.1 C.2.2.2.2.1 hin ty0 hty hnm C.2.2.2.1 C.2.2.2.2.2.1 hP gw_D hS k0 (gw_at hk0 hs) hc j hj (C.2.2.2.2.1 _ hw) (fun _ h => h) hfin hd hn hfit hl0 d (fun H1 locs1 hP1 _ hS1 => k H1 locs1 ls (gw_keep hk0 rfl hP1) hS1 hl)
theorem g_putF (C : GOk K b nL own rm o) {Cn : String} {T : u_T} {N ci ix : Nat} (hin : ∀ w ∈ u_ws Cn T N, w ∈ gtb) (ty0 : Nat → FieldType) (hty : ∀ k, k < N → parseFieldDescriptor (T k).2.2.1 = some (ty0 k)) (hnm : ∀ a, a < N → ∀ b, b < N → a ≠ b → (T a).2.1 ≠ (T b).2.1) (hc : classes[ci]? = some (Cn, T, N)) (j : Nat) (hj : j < N) (hw : Cond.fieldLink own ix (T j).1 (T j).2.1 (T j).2.2.1 ∈ gtb) (hfin : (T j).2.2.2 = true) (hdecl : (T j).1 = own) {ty : FieldType} (hd : parseFieldDescriptor (T j).2.2.1 = some ty) (d : decode b pc = .ok (.putfield ix, 3)) (hi : (xM K).name = "<init>") {v : Value} (hn : narrow ty v = v) (hfit : fits ty v = true) {k0 : Nat} (hk0 : k0 < n) {fs : List Value} (hs : sg k0 = eO ci fs) (hl0 : j < fs.length) (k : G K o n (va_up sg k0 (eO ci (fs.set j v))) cells slots (pc + 3) lv rest) : G K o n sg cells slots pc lv (v :: .ref (ad o k0) :: rest) := fun H locs ls hP hS hl =>
  va_putF C.1 C.2.1 C.2.2.2.2.1 hin ty0 hty hnm C.2.2.2.1 C.2.2.2.2.2.1 hP gw_D hS k0 (gw_at hk0 hs) hc j hj (C.2.2.2.2.1 _ hw) (fun _ h => h) hfin hi hdecl hd hn hfit hl0 d (fun H1 locs1 hP1 _ hS1 => k H1 locs1 ls (gw_keep hk0 rfl hP1) hS1 hl)
theorem g_putN (C : GOk K b nL own rm o) {Cn host : String} {T : u_T} {N ci ix : Nat} (hin : ∀ w ∈ u_ws Cn T N, w ∈ gtb) (ty0 : Nat → FieldType) (hty : ∀ k, k < N → parseFieldDescriptor (T k).2.2.1 = some (ty0 k)) (hnm : ∀ a, a < N → ∀ b, b < N → a ≠ b → (T a).2.1 ≠ (T b).2.1) (hc : classes[ci]? = some (Cn, T, N)) (j : Nat) (hj : j < N) (hw : Cond.fieldLinkNest own ix (T j).1 (T j).2.1 (T j).2.2.1 host ∈ gnest) (hfin : (T j).2.2.2 = false) {ty : FieldType} (hd : parseFieldDescriptor (T j).2.2.1 = some ty) (d : decode b pc = .ok (.putfield ix, 3)) {v : Value} (hn : narrow ty v = v) (hfit : fits ty v = true) {k0 : Nat} (hk0 : k0 < n) {fs : List Value} (hs : sg k0 = eO ci fs) (hl0 : j < fs.length) (k : G K o n (va_up sg k0 (eO ci (fs.set j v))) cells slots (pc + 3) lv rest) : G K o n sg cells slots pc lv (v :: .ref (ad o k0) :: rest) := fun H locs ls hP hS hl =>
  va_putN C.1 C.2.1 C.2.2.2.2.1 hin ty0 hty hnm C.2.2.2.1 C.2.2.2.2.2.1 hP gw_D hS k0 (gw_at hk0 hs) hc j hj (va_Nw.use rfl (C.2.2.2.2.2.2.2.1.1 _ hw)) (fun _ h => h) hfin hd hn hfit hl0 d (fun H1 locs1 hP1 _ hS1 => k H1 locs1 ls (gw_keep hk0 rfl hP1) hS1 hl)
-- arrays
theorem g_lald (C : GOk K b nL own rm o) (d : decode b pc = .ok (.laload, 1)) {k0 N : Nat} {f : Nat → Int64} (hk0 : k0 < n) (hs : sg k0 = eJ N f) {i : Int32} (hin : vp_in i N) (k : G K o n sg cells slots (pc + 1) lv (.long (f i.toNatClampNeg) :: rest)) : G K o n sg cells slots pc lv (.int i :: .ref (ad o k0) :: rest) := fun H locs ls hP hS hl =>
  va_lald C.1 C.2.1 C.2.2.2.2.2.1 hP k0 0 (gw_at hk0 hs) rfl hin d (k H locs ls hP hS hl)
theorem g_iald (C : GOk K b nL own rm o) (d : decode b pc = .ok (.iaload, 1)) {k0 N : Nat} {f : Nat → Int32} (hk0 : k0 < n) (hs : sg k0 = eI N f) {i : Int32} (hin : vp_in i N) (k : G K o n sg cells slots (pc + 1) lv (.int (f i.toNatClampNeg) :: rest)) : G K o n sg cells slots pc lv (.int i :: .ref (ad o k0) :: rest) := fun H locs ls hP hS hl =>
  va_iald C.1 C.2.1 C.2.2.2.2.2.1 hP k0 1 (gw_at hk0 hs) rfl hin d (k H locs ls hP hS hl)
theorem g_zald (C : GOk K b nL own rm o) (d : decode b pc = .ok (.baload, 1)) {k0 N : Nat} {f : Nat → Int32} (hk0 : k0 < n) (hs : sg k0 = eZ N f) {i : Int32} (hin : vp_in i N) (k : G K o n sg cells slots (pc + 1) lv (.int (f i.toNatClampNeg) :: rest)) : G K o n sg cells slots pc lv (.int i :: .ref (ad o k0) :: rest) := fun H locs ls hP hS hl =>
  va_zald C.1 C.2.1 C.2.2.2.2.2.1 hP k0 2 (gw_at hk0 hs) rfl hin d (k H locs ls hP hS hl)
theorem g_aldq (C : GOk K b nL own rm o) (d : decode b pc = .ok (.aaload, 1)) (kd : Nat) {Cn : String} {k0 N k2 : Nat} {f : Nat → Option Nat} (ht : ∀ ak, (gty ak)[kd]? = some (ak kd, .object Cn)) (hk0 : k0 < n) (hs : sg k0 = eQ kd N f) {i : Int32} (hin : vp_in i N) (hf : f i.toNatClampNeg = some (ad o k2)) (k : G K o n sg cells slots (pc + 1) lv (.ref (ad o k2) :: rest)) : G K o n sg cells slots pc lv (.int i :: .ref (ad o k0) :: rest) := fun H locs ls hP hS hl =>
  va_aldq C.1 C.2.1 C.2.2.2.2.2.1 hP k0 kd (gw_at hk0 hs) (ht _) hin d (by rw [hf]; exact k H locs ls hP hS hl)
theorem g_last (C : GOk K b nL own rm o) (d : decode b pc = .ok (.lastore, 1)) {k0 N : Nat} {f : Nat → Int64} (hk0 : k0 < n) (hs : sg k0 = eJ N f) {i : Int32} {x : Int64} (hin : vp_in i N) (k : G K o n (va_up sg k0 (eJ N (vp_updL f i.toNatClampNeg x))) cells slots (pc + 1) lv rest) : G K o n sg cells slots pc lv (.long x :: .int i :: .ref (ad o k0) :: rest) := fun H locs ls hP hS hl =>
  va_last C.1 C.2.1 C.2.2.2.2.2.1 hP gw_D hS k0 0 (gw_at hk0 hs) rfl hin d (fun H1 locs1 hP1 _ hS1 => k H1 locs1 ls (gw_keep (x := eJ N (vp_updL f i.toNatClampNeg x)) hk0 rfl hP1) hS1 hl)
theorem g_iast (C : GOk K b nL own rm o) (d : decode b pc = .ok (.iastore, 1)) {k0 N : Nat} {f : Nat → Int32} (hk0 : k0 < n) (hs : sg k0 = eI N f) {i : Int32} {x : Int32} (hin : vp_in i N) (k : G K o n (va_up sg k0 (eI N (upd f i.toNatClampNeg x))) cells slots (pc + 1) lv rest) : G K o n sg cells slots pc lv (.int x :: .int i :: .ref (ad o k0) :: rest) := fun H locs ls hP hS hl =>
  va_iast C.1 C.2.1 C.2.2.2.2.2.1 hP gw_D hS k0 1 (gw_at hk0 hs) rfl hin d (fun H1 locs1 hP1 _ hS1 => k H1 locs1 ls (gw_keep (x := eI N (upd f i.toNatClampNeg x)) hk0 rfl hP1) hS1 hl)
theorem g_zast (C : GOk K b nL own rm o) (d : decode b pc = .ok (.bastore, 1)) {k0 N : Nat} {f : Nat → Int32} (hk0 : k0 < n) (hs : sg k0 = eZ N f) {i : Int32} {x : Int32} (hin : vp_in i N) (hx : vp_nar .boolean x = x) (k : G K o n (va_up sg k0 (eZ N (upd f i.toNatClampNeg x))) cells slots (pc + 1) lv rest) : G K o n sg cells slots pc lv (.int x :: .int i :: .ref (ad o k0) :: rest) := fun H locs ls hP hS hl =>
  va_zast C.1 C.2.1 C.2.2.2.2.2.1 hP gw_D hS k0 2 (gw_at hk0 hs) rfl hin d (fun H1 locs1 hP1 _ hS1 => k H1 locs1 ls (gw_keep (x := eZ N (upd f i.toNatClampNeg x)) hk0 (by rw [hx]; rfl) hP1) hS1 hl)
theorem g_astq (C : GOk K b nL own rm o) (d : decode b pc = .ok (.aastore, 1)) (kd : Nat) {r : vw_C} {k0 N k2 ci : Nat} {vs : List Value} {f : Nat → Option Nat} (ht : ∀ ak, (gty ak)[kd]? = some (ak kd, .object r.1)) (hk0 : k0 < n) (hs : sg k0 = eQ kd N f) (hk2 : k2 < n) (hs2 : sg k2 = eO ci vs) (hc : classes[ci]? = some r) {i : Int32} (hin : vp_in i N) (k : G K o n (va_up sg k0 (eQ kd N (va_up f i.toNatClampNeg (some (ad o k2))))) cells slots (pc + 1) lv rest) : G K o n sg cells slots pc lv (.ref (ad o k2) :: .int i :: .ref (ad o k0) :: rest) := fun H locs ls hP hS hl =>
  va_astq C.1 C.2.1 C.2.2.2.2.2.1 hP gw_D hS k0 kd k2 ci (gw_at hk0 hs) (ht _) (gw_at hk2 hs2) hc hin d (fun H1 locs1 hP1 _ hS1 => k H1 locs1 ls (gw_keep (x := eQ kd N (va_up f i.toNatClampNeg (some (ad o k2)))) hk0 rfl hP1) hS1 hl)
theorem g_alen (C : GOk K b nL own rm o) (d : decode b pc = .ok (.arraylength, 1)) (kd : Nat) {ty : FieldType} {k0 : Nat} {x : vp_A} (ht : ∀ ak, (gty ak)[kd]? = some (ak kd, ty)) (hk0 : k0 < n) (hs : sg k0 = .inl (kd, x)) (k : G K o n sg cells slots (pc + 1) lv (.int (Int32.ofNat x.1) :: rest)) : G K o n sg cells slots pc lv (.ref (ad o k0) :: rest) := fun H locs ls hP hS hl =>
  va_alen C.1 C.2.1 C.2.2.2.2.2.1 hP k0 kd (gw_at hk0 hs) (ht _) rfl d (k H locs ls hP hS hl)
theorem g_copyl (C : GOk K b nL own rm o) {ix : Nat} (hlink : Cond.methodLink own ix arraycopyName ∈ gtb) (hnat : Cond.native arraycopyName ∈ gtb) (hstat : Cond.static arraycopyName ∈ gtb) (hini : Cond.initialized "java/lang/System" ∈ gtb) (d : decode b pc = .ok (.invokestatic ix, 3)) {q0 q1 n0 n1 : Nat} {f g : Nat → Int64} (h0 : q0 < n) (hs0 : sg q0 = eJ n0 f) (h1 : q1 < n) (hs1 : sg q1 = eJ n1 g) {N : Int32} (hN : ¬ N < 0) (hb0 : N.toNatClampNeg ≤ n0) (hb1 : N.toNatClampNeg ≤ n1) (hfr : 1 ≤ rm.frames) (hlo : (rest.map fun v => v.category).sum + (nativeFrameWords "java/lang/System" "arraycopy" 5 + 11) ≤ rm.locals) (k : G K o n (va_up sg q1 (eJ n1 (va_cpy f g 0 0 N.toNatClampNeg))) cells slots (pc + 3) lv rest) : G K o n sg cells slots pc lv (.int N :: .int 0 :: .ref (ad o q1) :: .int 0 :: .ref (ad o q0) :: rest) := fun H locs ls hP hS hl => by
  have e0 : (0 : Int32).toNatClampNeg = 0 := rfl
  refine va_copyl C.1 C.2.1 hl.1.symm C.2.2.2.1 (C.2.2.2.2.1 _ hlink) (C.2.2.2.2.1 _ hnat) (C.2.2.2.2.1 _ hstat) (C.2.2.2.2.1 _ hini) C.2.2.2.2.2.1 hP gw_D hS q0 q1 0 0 (gw_at h0 hs0) (gw_at h1 hs1) rfl rfl rfl (by decide) (by decide) hN (by rw [e0, Nat.zero_add]; exact hb0) (by rw [e0, Nat.zero_add]; exact hb1) (fun _ _ => rfl) (by rw [C.2.2.2.2.2.2.2.2.1]; exact hfr) (by rw [C.2.2.2.2.2.2.2.2.1]; exact hlo) d (fun H1 locs1 hP1 _ hS1 => k H1 locs1 ls (gw_keep (x := eJ n1 (va_cpy f g 0 0 N.toNatClampNeg)) h1 rfl hP1) hS1 hl)
-- what is new
theorem g_bound {H : Heap} {locs : List Loc} {g : JFrame} (k : H.size ≤ (xs K).heap.size + cells → GW K H locs cells slots g) : GW K H locs cells slots g := fun T hT X => k (by rw [← hT]; exact X.heapSize) T hT X
theorem gw_len {ak : Nat → ClassId} : (gw ak o n sg).length = n := by simp [gw]
theorem gw_last {ak : Nat → ClassId} {q : Nat × va_E} : (gw ak o n sg ++ [q])[n]? = some q := by
  rw [List.getElem?_append_right (by rw [gw_len]; exact Nat.le_refl _), gw_len]
  simp
theorem gw_fore {ak : Nat → ClassId} {q : Nat × va_E} {k : Nat} (h : k < n) : (gw ak o n sg ++ [q])[k]? = some (ad o k, gE ak (sg k)) := by
  rw [List.getElem?_append_left (by rw [gw_len]; exact h)]
  exact gw_at h rfl
theorem g_fresh {D : va_G} {ak : Nat → ClassId} {q : Nat} {x : va_E} {H1 : Heap} (hP : va_P D classes (gw ak o n sg ++ [(q, x)]) H1) (hD : va_D (gA o) (gw ak o n sg ++ [(q, x)])) (hle : H1.size ≤ o + n + 1) : q = ad o n := by
  have h1 : q < H1.size := (hP n (q, x) gw_last).lt
  have h2 : o ≤ q := hD.2 n (q, x) gw_last
  unfold ad
  rcases Nat.lt_or_ge q (o + n) with h3 | h3
  · have h4 : q - o < n := by omega
    have h5 := hD.1 (q - o) n _ _ (gw_fore h4) gw_last (by show ad o (q - o) = q; unfold ad; omega)
    omega
  · omega
theorem gw_grow {D : va_G} {ak : Nat → ClassId} {x : va_E} {q : Nat × va_E} {H1 : Heap} (hq : q = (ad o n, gE ak x)) (h : va_P D classes (gw ak o n sg ++ [q]) H1) : va_P D classes (gw ak o (n + 1) (va_up sg n x)) H1 := by
  subst hq
  rw [gw_push] at h
  exact h
theorem g_new (C : GOk K b nL own rm o) {Cn : String} {T : u_T} {N ci ix : Nat} (hin : ∀ w ∈ u_ws Cn T N, w ∈ gtb) (ty : Nat → FieldType) (hty : ∀ k, k < N → parseFieldDescriptor (T k).2.2.1 = some (ty k)) (hcl : Cond.classLink own ix Cn ∈ gtb) (hinst : Cond.instantiable Cn N ∈ gtb) (hini : Cond.initialized Cn ∈ gtb) (hc : classes[ci]? = some (Cn, T, N)) {fs : List Value} (hfs : ∀ j, j < N → defaultValue (ty j) = vp_V fs j) (d : decode b pc = .ok (.new ix, 3)) (hx : (xs K).heap.size + cells = o + n) (hcells : cells + 1 ≤ rm.cells) (hslots : slots + N ≤ rm.slots) (k : G K o (n + 1) (va_up sg n (eO ci fs)) (cells + 1) (slots + N) (pc + 3) lv (.ref (ad o n) :: rest)) : G K o n sg cells slots pc lv rest := fun H locs ls hP hS hl => by
  refine va_new C.1 C.2.1 C.2.2.2.2.1 hin ty hty C.2.2.2.1 (C.2.2.2.2.1 _ hcl) (C.2.2.2.2.1 _ hinst) (C.2.2.2.2.1 _ hini) C.2.2.2.2.2.1 hP gw_D hS (fun q h => Nat.le_trans C.2.2.2.2.2.2.1 h) hc hfs (by rw [C.2.2.2.2.2.2.2.2.1]; exact hcells) (by rw [C.2.2.2.2.2.2.2.2.1]; exact hslots) d (fun q H1 hP1 hD1 hS1 => ?_)
  refine g_bound (fun hle => ?_)
  have hq : q = ad o n := g_fresh hP1 hD1 (by omega)
  subst hq
  exact k H1 locs ls (gw_grow (x := eO ci fs) rfl hP1) hS1 hl
theorem g_newa (C : GOk K b nL own rm o) {atype : ArrayType} (kd : Nat) {ty : FieldType} (hty : newarray.typeOf atype = ty) (hprim : refKind ty = false) (ht : ∀ ak, (gty ak)[kd]? = some (ak kd, ty)) (harr : Cond.arrayClass (newarray.typeOf atype) ∈ gtb) {N : Int32} {N' : Nat} {a0 : vp_A} (ha : ∀ cA : ClassId, vp_cell cA a0 = arrV cA N' (fun _ => defaultValue ty)) (hn : ¬ N < 0) (hN : N.toNatClampNeg = N') (hbytes : N' * componentBytes ty ≤ 536870912) (d : decode b pc = .ok (.newarray atype, 2)) (hx : (xs K).heap.size + cells = o + n) (hcells : cells + 1 ≤ rm.cells) (hslots : slots + N' ≤ rm.slots) (k : G K o (n + 1) (va_up sg n (.inl (kd, a0))) (cells + 1) (slots + N') (pc + 2) lv (.ref (ad o n) :: rest)) : G K o n sg cells slots pc lv (.int N :: rest) := fun H locs ls hP hS hl => by
  refine va_newa C.1 C.2.1 (C.2.2.2.2.1 _ harr) hty C.2.2.2.2.2.1 hP gw_D hS (fun q h => Nat.le_trans C.2.2.2.2.2.2.1 h) ha hn hN hbytes (by rw [C.2.2.2.2.2.2.2.2.1]; exact hcells) (by rw [C.2.2.2.2.2.2.2.2.1]; exact hslots) d (fun q cA H1 hK1 hP1 hD1 hS1 => ?_)
  have r1 := (C.2.2.2.2.2.1.2 kd _ (ht (xk K))).2
  have r2 := (hK1.2 (gty (xk K)).length (cA, ty) (by rw [List.getElem?_append_right (Nat.le_refl _)]; simp)).2
  have hcA : cA = xk K kd := by
    cases ty <;> first | exact absurd hprim (by decide) | exact Option.some.inj (r2.symm.trans r1) | (simp [refKind] at hprim)
  subst hcA
  refine g_bound (fun hle => ?_)
  have hq : q = ad o n := g_fresh hP1 hD1 (by omega)
  subst hq
  exact k H1 locs ls (gw_grow (x := .inl (kd, a0)) rfl hP1) hS1 hl
theorem g_newq (C : GOk K b nL own rm o) (kd : Nat) {Cn : String} {ix : Nat} (hclink : Cond.classLink own ix Cn ∈ gtb) (hover : va_AO Cn (xs K)) (ht : ∀ ak, (gty ak)[kd]? = some (ak kd, .object Cn)) {N : Int32} {N' : Nat} (hn : ¬ N < 0) (hN : N.toNatClampNeg = N') (hbytes : N' * 4 ≤ 536870912) (d : decode b pc = .ok (.anewarray ix, 3)) (hx : (xs K).heap.size + cells = o + n) (hcells : cells + 1 ≤ rm.cells) (hslots : slots + N' ≤ rm.slots) (k : G K o (n + 1) (va_up sg n (eQ kd N' (fun _ => none))) (cells + 1) (slots + N') (pc + 3) lv (.ref (ad o n) :: rest)) : G K o n sg cells slots pc lv (.int N :: rest) := fun H locs ls hP hS hl => by
  refine va_newq C.1 C.2.1 C.2.2.2.1 (C.2.2.2.2.1 _ hclink) hover C.2.2.2.2.2.1 hP gw_D hS (fun q h => Nat.le_trans C.2.2.2.2.2.2.1 h) hn hN hbytes (by rw [C.2.2.2.2.2.2.2.2.1]; exact hcells) (by rw [C.2.2.2.2.2.2.2.2.1]; exact hslots) d (fun q cA H1 hK1 hP1 hD1 hS1 => ?_)
  have r1 := (C.2.2.2.2.2.1.2 kd _ (ht (xk K))).2
  have r2 := (hK1.2 (gty (xk K)).length (cA, .object Cn) (by rw [List.getElem?_append_right (Nat.le_refl _)]; simp)).2
  have hcA : cA = xk K kd := by
    obtain ⟨_, _, -, -, -, e1⟩ := r1
    obtain ⟨_, _, -, -, -, e2⟩ := r2
    exact Option.some.inj (e2.symm.trans e1)
  subst hcA
  refine g_bound (fun hle => ?_)
  have hq : q = ad o n := g_fresh hP1 hD1 (by omega)
  subst hq
  exact k H1 locs ls (gw_grow (x := eQ kd N' (fun _ => none)) rfl hP1) hS1 hl
theorem g_objInit (C : GOk K b nL own rm o) {ix : Nat} (hlink : Cond.methodLink own ix Lib.objectInit ∈ gtb) (hinst : Cond.instanceMethod Lib.objectInit ∈ gtb) (hcode : Cond.code Lib.objectInit ⟨#[0xb1]⟩ 1 none ∈ gtb) (d : decode b pc = .ok (.invokespecial ix, 3)) {a : Nat} (hfr : 1 ≤ rm.frames) (hlo : (rest.map fun v => v.category).sum + 12 ≤ rm.locals) (k : G K o n sg cells slots (pc + 3) lv rest) : G K o n sg cells slots pc lv (.ref a :: rest) := fun H locs ls hP hS hl =>
  W.objInit C.1 C.2.1 C.2.2.2.1 (C.2.2.2.2.1 _ hlink) (C.2.2.2.2.1 _ hinst) (C.2.2.2.2.1 _ hcode) rfl hl.1 rfl d (by rw [C.2.2.2.2.2.2.2.2.1]; exact hfr) (by rw [C.2.2.2.2.2.2.2.2.1]; simpa [JFrame.monitorRoom] using hlo) (k H locs ls hP hS hl)
end GH
