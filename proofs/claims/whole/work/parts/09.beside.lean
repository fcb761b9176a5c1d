-- WHAT HOLDS BESIDE THE WORLD
def gA (o : Nat) : Nat → Prop := fun q => o ≤ q
def gIsN : Cond → Bool
  | .fieldLinkNest .. => true
  | .methodLinkNest .. => true
  | .declares .. => true
  | .castable .. => true
  | _ => false
theorem gN_warm {w : Cond} (h : gIsN w = true) {s U : State} (hW : s.WarmedH U.vm) (hz : va_Nw w s) : va_Nw w U := by
  cases w <;> first | exact va_Nw.warmF hW hz | exact va_Nw.warmM hW hz | exact va_Nw.warmD hW hz | exact va_Nw.warmC hW hz | (simp [gIsN] at h)
theorem gN_same {w : Cond} (h : gIsN w = true) {u U : State} (hv : u.vm = U.vm) (hz : va_Nw w u) : va_Nw w U := by
  cases w <;> first | exact va_Nw.same rfl hv hz | (simp [gIsN] at h)
theorem gnest_is : ∀ w ∈ gnest, gIsN w = true := List.all_eq_true.mp (by decide +kernel)
/-- what holds beside the world: the nest's words, the classes of arrays of objects, Throwable's two statics -/
def gS (nm ds : String) (o : Nat) (U : State) : Prop := ∃ (c : ClassId) (k : Class) (i : Nat) (f : Field) (a : Nat) (cell : Cell) (v : Value), U.vm.findClass "java/lang/Throwable" = some c ∧ U.fieldFound? "java/lang/Throwable" nm ds = some (c, k, i, f) ∧ f.isStatic = true ∧ k.init = .initialized ∧ k.statics = some a ∧ U.heap[a]? = some cell ∧ cell.vm.isStatics = true ∧ cell.cls = c ∧ f.slot < cell.slots.size ∧ k.staticTypes[f.slot]? = some f.type ∧ cell.slots[f.slot]? = some v ∧ (v = .null ∨ ∃ b, v = .ref b) ∧ ¬ gA o a
def gX (o : Nat) (U : State) : Prop := (∀ w ∈ gnest, va_Nw w U) ∧ va_AO "RangeExchange$Pool" U ∧ va_AO "RangeExchange$Position" U ∧ gS "UNASSIGNED_STACK" "[Ljava/lang/StackTraceElement;" o U ∧ gS "SUPPRESSED_SENTINEL" "Ljava/util/List;" o U
theorem gS_moved {nm ds : String} {o : Nat} {s U : State} (hW : s.vm.Alike U.vm) (hk : ∀ a : Nat, a < s.heap.size → ¬ gA o a → U.heap[a]? = s.heap[a]?) (h : gS nm ds o s) : gS nm ds o U := by
  obtain ⟨c, k, i, f, a, cell, v, h1, h2, h3, h4, h5, h6, h7, h8, h9, h10, h11, h12, h13⟩ := h
  obtain ⟨k', hi', he⟩ := State.fieldFound?_setVm hW h2
  exact ⟨c, k', i, f, a, cell, v, by rw [hW.findClass]; exact h1, hi', h3, by rw [he]; exact h4, by rw [he]; exact h5, by rw [hk a (Array.getElem?_eq_some_iff.mp h6).1 h13]; exact h6, h7, h8, h9, by rw [he]; exact h10, h11, h12, h13⟩
theorem gS_Z {nm ds : String} {o : Nat} {s : State} (h : gS nm ds o s) : ∃ v, va_Z "java/lang/Throwable" nm ds v (gA o) s s.heap := by
  obtain ⟨c, k, i, f, a, cell, v, h1, h2, h3, h4, h5, h6, h7, h8, h9, h10, h11, h12, h13⟩ := h
  exact ⟨v, c, k, i, f, a, cell, h2, h3, h4, h5, h6, h7, h11, h13⟩
theorem gS_lays {nm ds : String} {o : Nat} {s : State} {args : Array Value} (h : gS nm ds o s) : (Cond.laysStatic "java/lang/Throwable" nm ds).before args s = true := by
  obtain ⟨c, k, i, f, a, cell, v, h1, h2, h3, h4, h5, h6, h7, h8, h9, h10, h11, h12, h13⟩ := h
  exact Cond.laysStatic_of h1 h2 h3 h5 h6 h7 h8 h9 h10
theorem gS_ref {nm ds : String} {o : Nat} {s : State} {args : Array Value} (h : gS nm ds o s) : (Cond.isRef (.static "java/lang/Throwable" nm ds)).before args s = true := by
  obtain ⟨c, k, i, f, a, cell, v, h1, h2, h3, h4, h5, h6, h7, h8, h9, h10, h11, h12, h13⟩ := h
  have he : (Term.static "java/lang/Throwable" nm ds).eval args s none [] s = some v := by
    simp [Term.eval, State.fieldNamed?, h2, h3, h5, h6, h7, h11]
  rcases h12 with rfl | ⟨b, rfl⟩ <;> simp [Cond.before, Cond.holds, Cond.value, he]
theorem gX_moved {o : Nat} {s U : State} (hW : s.WarmedH U.vm) (hk : ∀ a : Nat, a < s.heap.size → ¬ gA o a → U.heap[a]? = s.heap[a]?) (h : gX o s) : gX o U :=
  ⟨fun w hw => gN_warm (gnest_is w hw) hW (h.1 w hw), h.2.1.moved hW.alike, h.2.2.1.moved hW.alike, gS_moved hW.alike hk h.2.2.2.1, gS_moved hW.alike hk h.2.2.2.2⟩
theorem gX_calling {o : Nat} {U : State} {g : JFrame} {mk : MethodId} {a : Array Value} (h : gX o U) : gX o (U.calling g mk a) :=
  ⟨fun w hw => gN_same (gnest_is w hw) (u := U) rfl (h.1 w hw), h.2.1.moved (u := U) (Vm.Alike.refl U.vm), h.2.2.1.moved (u := U) (Vm.Alike.refl U.vm), gS_moved (s := U) (Vm.Alike.refl U.vm) (fun _ _ _ => rfl) h.2.2.2.1, gS_moved (s := U) (Vm.Alike.refl U.vm) (fun _ _ _ => rfl) h.2.2.2.2⟩
