-- SMALL WHOLE NUMBERS AS INTS
def iI (z : Int) : Int32 := Int32.ofInt z
theorem iI_toInt {z : Int} (h1 : -1000000000 ≤ z) (h2 : z ≤ 2000000000) : (iI z).toInt = z := Int32.toInt_ofInt_of_le (by omega) (by omega)
theorem iI_add (z w : Int) : iI z + iI w = iI (z + w) := (Int32.ofInt_add z w).symm
theorem iI_sub (z w : Int) : iI z - iI w = iI (z - w) := (Int32.ofInt_sub z w).symm
theorem iI_neg (z : Int) : -iI z = iI (-z) := (Int32.ofInt_neg z).symm
theorem iI_mul (z w : Int) : iI z * iI w = iI (z * w) := (Int32.ofInt_mul z w).symm
theorem iI_lt {z w : Int} (h1 : -1000000000 ≤ z) (h2 : z ≤ 2000000000) (h3 : -1000000000 ≤ w) (h4 : w ≤ 2000000000) : iI z < iI w ↔ z < w := by
  rw [Int32.lt_iff_toInt_lt, iI_toInt h1 h2, iI_toInt h3 h4]
theorem iI_le {z w : Int} (h1 : -1000000000 ≤ z) (h2 : z ≤ 2000000000) (h3 : -1000000000 ≤ w) (h4 : w ≤ 2000000000) : iI z ≤ iI w ↔ z ≤ w := by
  rw [Int32.le_iff_toInt_le, iI_toInt h1 h2, iI_toInt h3 h4]
theorem iI_eq {z w : Int} (h1 : -1000000000 ≤ z) (h2 : z ≤ 2000000000) (h3 : -1000000000 ≤ w) (h4 : w ≤ 2000000000) : iI z = iI w ↔ z = w := by
  rw [← Int32.toInt_inj, iI_toInt h1 h2, iI_toInt h3 h4]
theorem iI_nat (n : Nat) : iI (n : Int) = nI n := rfl
theorem iI_in {z : Int} {n : Nat} (h0 : 0 ≤ z) (h : z < n) (hn : n ≤ 1000000000) : vp_in (iI z) n := by
  rw [vp_in_iff, iI_toInt (by omega) (by omega)]
  exact ⟨h0, h⟩
theorem iI_cl {z : Int} (h0 : 0 ≤ z) (h : z ≤ 2000000000) : (iI z).toNatClampNeg = z.toNat := by
  rw [Int32.toNatClampNeg, iI_toInt (by omega) h]
theorem iI_of (x : Int32) : x = iI x.toInt := (Int32.ofInt_toInt x).symm
