-- NUMBERS: quotients, rounded down or up
def dv (u : Bool) (a b : Nat) : Nat := a / b + (if u = true ∧ ¬ a % b = 0 then 1 else 0)
def bz (u : Bool) : Int32 := if u = true then 1 else 0
theorem bz_eq0 (u : Bool) : bz u = 0 ↔ u = false := by cases u <;> decide
theorem bz_nar (u : Bool) : narrow .boolean (.int (bz u)) = .int (bz u) := by cases u <;> rfl
theorem bz_fit (u : Bool) : fits .boolean (.int (bz u)) = true := by cases u <;> rfl
theorem bz_vnar (u : Bool) : vp_nar .boolean (bz u) = bz u := by cases u <;> rfl
theorem dv_add {u : Bool} {q r d : Nat} (hd : 0 < d) : dv u (d * q + r) d = q + dv u r d := by
  unfold dv
  rw [Nat.mul_add_div hd, Nat.mul_add_mod, Nat.add_assoc]
theorem dv_0 {u : Bool} {d : Nat} : dv u 0 d = 0 := by simp [dv]
theorem dv_le {u : Bool} {a d : Nat} (hd : 0 < d) : d * dv u a d ≤ a + (d - 1) := by
  unfold dv
  have h1 := Nat.div_add_mod a d
  have h2 := Nat.mod_lt a hd
  generalize a / d = q at *
  generalize a % d = r at *
  split
  · rw [Nat.mul_add, Nat.mul_one]; omega
  · rw [Nat.add_zero]; omega
theorem dv_f {a d : Nat} : dv false a d = a / d := by simp [dv]
theorem dv_t_ge {a d : Nat} (hd : 0 < d) : a ≤ d * dv true a d := by
  unfold dv
  have h1 := Nat.div_add_mod a d
  have h2 := Nat.mod_lt a hd
  generalize a / d = q at *
  generalize a % d = r at *
  split
  · rw [Nat.mul_add, Nat.mul_one]; omega
  · rename_i h
    have : r = 0 := by
      rcases Nat.eq_zero_or_pos r with e | e
      · exact e
      · exact absurd ⟨rfl, by omega⟩ h
    rw [Nat.add_zero]; omega
theorem dv_mono {u : Bool} {a d B : Nat} (hd : 0 < d) (h : a ≤ d * B) : dv u a d ≤ B := by
  have h1 := dv_le (u := u) (a := a) hd
  have h2 : d * dv u a d < d * (B + 1) := by rw [Nat.mul_add, Nat.mul_one]; omega
  have h3 := Nat.lt_of_mul_lt_mul_left h2
  omega
theorem sh_step {N D : Nat} (hD : 0 < D) : (2 * N) / D = 2 * (N / D) + (if D ≤ 2 * (N % D) then 1 else 0) ∧ (2 * N) % D = if D ≤ 2 * (N % D) then 2 * (N % D) - D else 2 * (N % D) := by
  have h1 := Nat.div_add_mod N D
  have h2 := Nat.mod_lt N hD
  generalize N / D = q at *
  generalize N % D = r at *
  have h3 : 2 * N = D * (2 * q) + 2 * r := by rw [← h1, Nat.mul_add, Nat.mul_left_comm]
  split
  · rename_i hc
    have e : 2 * N = D * (2 * q + 1) + (2 * r - D) := by rw [h3, Nat.mul_add, Nat.mul_one]; omega
    rw [e, Nat.mul_add_div hD, Nat.mul_add_mod, Nat.div_eq_of_lt (by omega), Nat.mod_eq_of_lt (by omega)]
    exact ⟨by omega, rfl⟩
  · rename_i hc
    rw [h3, Nat.mul_add_div hD, Nat.mul_add_mod, Nat.div_eq_of_lt (by omega), Nat.mod_eq_of_lt (by omega)]
    exact ⟨rfl, rfl⟩
theorem part_eq {u : Bool} {x y d : Nat} (hd : 0 < d) : x / d * y + (x % d * (y / 131072) / d) * 131072 + dv u ((x % d * (y / 131072) % d) * 131072 + x % d * (y % 131072)) d = dv u (x * y) d := by
  have h1 := Nat.div_add_mod x d
  have h2 := Nat.div_add_mod y 131072
  generalize hq : x / d = q at *
  generalize hr : x % d = r at *
  generalize y / 131072 = yh at *
  generalize y % 131072 = yl at *
  have h3 := Nat.div_add_mod (r * yh) d
  generalize r * yh / d = more at *
  generalize r * yh % d = hm at *
  have e : x * y = d * (q * y + more * 131072) + (hm * 131072 + r * yl) := by
    have e1 : x * y = d * (q * y) + r * y := by
      rw [← h1, Nat.add_mul, Nat.mul_assoc]
    have e2 : r * y = (r * yh) * 131072 + r * yl := by
      rw [← h2, Nat.mul_add, Nat.mul_left_comm, Nat.mul_comm]
    have e3 : d * (q * y + more * 131072) = d * (q * y) + d * more * 131072 := by
      rw [Nat.mul_add, Nat.mul_assoc]
    rw [e1, e2, e3, ← h3, Nat.add_mul]
    omega
  rw [e, dv_add hd]
theorem pw32 : (2 : Nat) ^ 32 = 4294967296 := by decide
theorem pw63 : (2 : Nat) ^ 63 = 9223372036854775808 := by decide
theorem pw62 : (2 : Nat) ^ 62 = 4611686018427387904 := by decide
theorem jrem_lN {a b : Nat} (ha : a < 2 ^ 63) (h0 : 0 < b) (hb : b < 2 ^ 63) : jrem (lN a) (lN b) = lN (a % b) := pk_lRem ha h0 hb
theorem lN_0 : lN 0 = 0 := rfl
theorem lN_ne0 {a : Nat} (ha : a < 2 ^ 63) : lN a = 0 ↔ a = 0 := by
  rw [← lN_0]
  exact pk_lEQ ha (by decide)
theorem lN_pos {a : Nat} (ha : a < 2 ^ 63) : lN a ≤ 0 ↔ a = 0 := by
  rw [← lN_0, pk_lLE ha (by decide)]
  omega
