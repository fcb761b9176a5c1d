-- AN ARRAY'S CONTENTS COUNT ONLY WITHIN ITS LENGTH; WHAT A WORLD LEAVES AS IT WAS
theorem arrV_ext {cA : ClassId} {N : Nat} {f g : Nat → Value} (h : ∀ i, i < N → f i = g i) : arrV cA N f = arrV cA N g := by
  unfold arrV
  congr 1
  apply Array.ext
  · simp
  · intro i h1 h2
    simp only [Array.getElem_ofFn]
    exact h i (by simpa using h1)
section GX2
variable {K : GX} {o n : Nat} {sg : Nat → va_E} {cells slots pc : Nat} {lv : List (Nat × Value)} {st : List Value}
theorem g_extJ {k0 N : Nat} {f f' : Nat → Int64} (hs : sg k0 = eJ N f) (hf : ∀ i, i < N → f i = f' i) (k : G K o n (va_up sg k0 (eJ N f')) cells slots pc lv st) : G K o n sg cells slots pc lv st := fun H locs ls hP hS hl => k H locs ls (fun j q hj => by
  obtain ⟨h1, rfl⟩ := gw_inv hj
  have h2 := hP j _ (gw_at h1 rfl)
  by_cases e : j = k0
  · subst e
    rw [up_eq]
    rw [hs] at h2
    show H[_]? = some (vp_cell _ _)
    have h3 : H[ad o j]? = some (vp_cell (xk K 0) (N, .inr (.inl f))) := h2
    rw [h3, vp_cell_l, vp_cell_l]
    congr 1
    exact arrV_ext (fun i hi => congrArg Value.long (hf i hi))
  · rw [va_up_ne sg _ e]
    exact h2) hS hl
theorem g_extI {k0 N : Nat} {f f' : Nat → Int32} (hs : sg k0 = eI N f) (hf : ∀ i, i < N → f i = f' i) (k : G K o n (va_up sg k0 (eI N f')) cells slots pc lv st) : G K o n sg cells slots pc lv st := fun H locs ls hP hS hl => k H locs ls (fun j q hj => by
  obtain ⟨h1, rfl⟩ := gw_inv hj
  have h2 := hP j _ (gw_at h1 rfl)
  by_cases e : j = k0
  · subst e
    rw [up_eq]
    rw [hs] at h2
    show H[_]? = some (vp_cell _ _)
    have h3 : H[ad o j]? = some (vp_cell (xk K 1) (N, .inl f)) := h2
    rw [h3, vp_cell_i, vp_cell_i]
    congr 1
    exact arrV_ext (fun i hi => congrArg Value.int (hf i hi))
  · rw [va_up_ne sg _ e]
    exact h2) hS hl
end GX2
/-- the world s is sg but for the m numbers from c on -/
def fr (sg s : Nat → va_E) (c m : Nat) : Prop := ∀ k, (k < c ∨ c + m ≤ k) → s k = sg k
theorem fr_rf {sg : Nat → va_E} {c m : Nat} : fr sg sg c m := fun _ _ => rfl
theorem fr_trans {sg s t : Nat → va_E} {c m c1 m1 c2 m2 : Nat} (h1 : fr sg s c1 m1) (h2 : fr s t c2 m2) (a1 : c ≤ c1) (b1 : c1 + m1 ≤ c + m) (a2 : c ≤ c2) (b2 : c2 + m2 ≤ c + m) : fr sg t c m := fun k hk => (h2 k (by omega)).trans (h1 k (by omega))
def shr (d a : Int64) : Int64 := jushr d 32 * a + jushr ((d &&& 4294967295) * a) 32
theorem cpyJ {f g : Nat → Int64} {N i : Nat} (h : i < N) : va_cpy f g 0 0 N i = f i := by
  rw [pk_cpy_in (Nat.zero_le _) (by omega)]
  congr 1
  omega
