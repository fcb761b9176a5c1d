-- THE ROOTS
def rtU : Nat → Nat
  | 0 => 4294967296
  | k + 1 => rtU k + rtU k / 32
def rtD : Nat → Nat
  | 0 => 4294967296
  | k + 1 => rtD k - rtD k / 33
/-- ROOT of the tick i - 40 -/
def rt (i : Nat) : Nat := if 40 ≤ i then rtU (i - 40) else rtD (40 - i)
theorem rt_lt1 : ∀ i, i < 80 → rt i < rt (i + 1) := by decide +kernel
theorem rt_le {i j : Nat} (h : i ≤ j) (hj : j ≤ 80) : rt i ≤ rt j := by
  induction j with
  | zero => have : i = 0 := by omega
            subst this; exact Nat.le_refl _
  | succ j ih =>
    rcases Nat.lt_or_ge i (j + 1) with h1 | h1
    · exact Nat.le_of_lt (Nat.lt_of_le_of_lt (ih (by omega) (by omega)) (rt_lt1 j (by omega)))
    · have : i = j + 1 := by omega
      subst this; exact Nat.le_refl _
theorem rt_lt {i j : Nat} (h : i < j) (hj : j ≤ 80) : rt i < rt j := Nat.lt_of_lt_of_le (rt_lt1 i (by omega)) (rt_le h hj)
theorem rt_inj {i j : Nat} (hi : i ≤ 80) (hj : j ≤ 80) (h : rt i = rt j) : i = j := by
  rcases Nat.lt_trichotomy i j with q | q | q
  · have := rt_lt q hj; omega
  · exact q
  · have := rt_lt q hi; omega
theorem rt_0 : 1254000000 < rt 0 := by decide +kernel
theorem rt_80 : rt 80 < 14708000000 := by decide +kernel
-- what is taken in, what is paid out
def zNear (u : Bool) (L a b : Nat) : Nat := dv u (dv u (L * (b - a) * 4294967296) b) a
def zFar (u : Bool) (L a b : Nat) : Nat := dv u (L * (b - a)) 4294967296
def zIn (dn : Bool) (L S P : Nat) : Nat := if dn = true then zNear true L P S else zFar true L S P
def zOut (dn : Bool) (L S P : Nat) : Nat := if dn = true then zFar false L P S else zNear false L S P
/-- the new price, for an amount to be taken in (r of it without the fee), and for one to be paid out -/
def zPrIn (dn : Bool) (L S T r : Nat) : Nat := if zIn dn L S T ≤ r then T else if dn = true then dv true (L * S * 4294967296) (L * 4294967296 + r * S) else S + r * 4294967296 / L
def zPrOut (dn : Bool) (L S T r : Nat) : Nat := if zOut dn L S T ≤ r then T else if dn = true then S - dv true (r * 4294967296) L else dv true (L * S * 4294967296) (L * 4294967296 - r * S)
def zPr (dn ex : Bool) (f L S T r : Nat) : Nat := if ex = true then zPrIn dn L S T (r * (1000 - f) / 1000) else zPrOut dn L S T r
def zTaken (dn : Bool) (L S P : Nat) : Nat := zIn dn L S P
def zGot (dn ex : Bool) (L S P r : Nat) : Nat := if ex = true then zOut dn L S P else min r (zOut dn L S P)
def zFee (dn ex : Bool) (f L S T P r : Nat) : Nat := if ex = true ∧ ¬ P = T then r - zIn dn L S P else dv true (zIn dn L S P * f) (1000 - f)
def zRest (dn ex : Bool) (f L S T P r : Nat) : Nat := if ex = true then r - (zIn dn L S P + zFee dn ex f L S T P r) else r - zGot dn ex L S P r
theorem zNear_le {u : Bool} {L a b : Nat} (ha : 0 < a) (hab : a ≤ b) : dv u (L * (b - a) * 4294967296) b ≤ L * 4294967296 := by
  refine dv_mono (by omega) ?_
  have h1 : L * (b - a) * 4294967296 = (b - a) * (L * 4294967296) := by rw [Nat.mul_comm L, Nat.mul_assoc]
  rw [h1]
  exact Nat.mul_le_mul_right _ (by omega)
