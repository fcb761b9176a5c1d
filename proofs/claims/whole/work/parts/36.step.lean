-- A STEP'S NUMBERS
theorem sub_swap {A B D : Nat} (h : D ≤ A - B) (hp : 0 < D) : B ≤ A - D := by omega
theorem m_le {a b c d : Nat} (h1 : a ≤ b) (h2 : c ≤ d) : a * c ≤ b * d := Nat.mul_le_mul h1 h2
theorem zOut_dn (L S T : Nat) : zOut true L S T = L * (S - T) / 4294967296 := by simp [zOut, zFar, dv_f]
theorem zOut_up (L S T : Nat) : zOut false L S T = L * (T - S) * 4294967296 / T / S := by simp [zOut, zNear, dv_f]
theorem zIn_0 (dn : Bool) (S T : Nat) : zIn dn 0 S T = 0 := by cases dn <;> simp [zIn, zNear, zFar, dv_0]
theorem zOut_0 (dn : Bool) (S T : Nat) : zOut dn 0 S T = 0 := by cases dn <;> simp [zOut, zNear, zFar, dv_0]
theorem zNear_b {u : Bool} {L a b : Nat} (hL : L ≤ 600000000) (ha : 1254299944 ≤ a) (hab : a ≤ b) : zNear u L a b ≤ 2100000000 := by
  unfold zNear
  refine dv_mono (by omega) (Nat.le_trans (zNear_le (by omega) hab) ?_)
  exact Nat.le_trans (m_le hL (Nat.le_refl 4294967296)) (Nat.le_trans (by decide) (m_le ha (Nat.le_refl 2100000000)))
theorem zFar_b {u : Bool} {L a b : Nat} (hL : L ≤ 600000000) (hb : b < 14706804615) : zFar u L a b ≤ 2100000000 := by
  unfold zFar
  refine dv_mono (by decide) (Nat.le_trans (m_le hL (show b - a ≤ 14706804615 by omega)) (by decide))
theorem zIn_b {dn : Bool} {L S P : Nat} (hL : L ≤ 600000000) (hS : 1254299944 ≤ S) (hP : 1254299944 ≤ P) (hS2 : S < 14706804615) (hP2 : P < 14706804615) (h : if dn = true then P ≤ S else S ≤ P) : zIn dn L S P ≤ 2100000000 := by
  cases dn
  · exact zFar_b hL hP2
  · exact zNear_b hL hP (by simpa using h)
theorem zOut_b {dn : Bool} {L S P : Nat} (hL : L ≤ 600000000) (hS : 1254299944 ≤ S) (hP : 1254299944 ≤ P) (hS2 : S < 14706804615) (hP2 : P < 14706804615) (h : if dn = true then P ≤ S else S ≤ P) : zOut dn L S P ≤ 2100000000 := by
  cases dn
  · exact zNear_b hL hS (by simpa using h)
  · exact zFar_b hL hS2
/-- less than the target asks for, so there is liquidity -/
theorem L_pos_in {dn : Bool} {L S T r : Nat} (h : r < zIn dn L S T) : 0 < L := by
  rcases Nat.eq_zero_or_pos L with e | e
  · subst e; rw [zIn_0] at h; omega
  · exact e
theorem L_pos_out {dn : Bool} {L S T r : Nat} (h : r < zOut dn L S T) : 0 < L := by
  rcases Nat.eq_zero_or_pos L with e | e
  · subst e; rw [zOut_0] at h; omega
  · exact e
theorem dn_out {L S T r : Nat} (h : r < zOut true L S T) : dv true (r * 4294967296) L ≤ S - T := by
  have hL := L_pos_out h
  rw [zOut_dn] at h
  refine dv_mono hL ?_
  have h2 : (r + 1) * 4294967296 ≤ L * (S - T) := (Nat.le_div_iff_mul_le (by decide)).mp h
  rw [Nat.add_mul] at h2
  exact Nat.le_trans (Nat.le_add_right _ _) h2
theorem up_out {L S T r : Nat} (hS : 0 < S) (hST : S ≤ T) (h : r < zOut false L S T) : r * S + S ≤ L * 4294967296 ∧ T * (r * S + S) ≤ L * (T - S) * 4294967296 := by
  rw [zOut_up] at h
  have hT : 0 < T := by omega
  have h1 : (r + 1) * S ≤ L * (T - S) * 4294967296 / T := (Nat.le_div_iff_mul_le hS).mp h
  have h2 : (r + 1) * S * T ≤ L * (T - S) * 4294967296 := (Nat.le_div_iff_mul_le hT).mp h1
  have h3 : L * (T - S) * 4294967296 ≤ T * (L * 4294967296) := by
    have e : L * (T - S) * 4294967296 = (T - S) * (L * 4294967296) := by rw [Nat.mul_comm L, Nat.mul_assoc]
    rw [e]
    exact Nat.mul_le_mul_right _ (by omega)
  have e1 : (r + 1) * S = r * S + S := by rw [Nat.add_mul, Nat.one_mul]
  rw [e1] at h2
  refine ⟨?_, by rw [Nat.mul_comm]; exact h2⟩
  have h4 : T * (r * S + S) ≤ T * (L * 4294967296) := by rw [Nat.mul_comm]; exact Nat.le_trans h2 h3
  exact Nat.le_of_mul_le_mul_left h4 hT
/-- the new price is not beyond the target, and what it takes in is not more than there is -/
theorem prIn_ok {dn : Bool} {L S T r : Nat} (hS : 0 < S) (hT : 0 < T) (hd : if dn = true then T ≤ S else S ≤ T) (h : r < zIn dn L S T) : (if dn = true then T ≤ zPrIn dn L S T r ∧ zPrIn dn L S T r ≤ S else S ≤ zPrIn dn L S T r ∧ zPrIn dn L S T r ≤ T) ∧ zIn dn L S (zPrIn dn L S T r) ≤ r := by
  have hL := L_pos_in h
  have hn : ¬ zIn dn L S T ≤ r := by omega
  unfold zPrIn
  rw [if_neg hn]
  cases dn
  · simp only [if_neg (show ¬ false = true by decide)] at hd ⊢
    have h1 : L * (r * 4294967296 / L) ≤ r * 4294967296 := Nat.mul_div_le _ _
    generalize r * 4294967296 / L = y at *
    have hin : zIn false L S (S + y) ≤ r := by
      show dv true (L * (S + y - S)) 4294967296 ≤ r
      refine dv_mono (by decide) ?_
      rw [Nat.add_sub_cancel_left, Nat.mul_comm 4294967296]
      exact h1
    refine ⟨⟨Nat.le_add_right _ _, ?_⟩, hin⟩
    rcases Nat.lt_or_ge T (S + y) with hc | hc
    · exfalso
      have h2 : zIn false L S T ≤ r := by
        show dv true (L * (T - S)) 4294967296 ≤ r
        refine dv_mono (by decide) ?_
        have h3 : L * (T - S) ≤ L * y := Nat.mul_le_mul_left _ (by omega)
        rw [Nat.mul_comm 4294967296]
        exact Nat.le_trans h3 h1
      exact hn h2
    · exact hc
  · simp only [if_true] at hd ⊢
    have hD : 0 < L * 4294967296 + r * S := Nat.lt_of_lt_of_le (Nat.mul_pos hL (by decide)) (Nat.le_add_right _ _)
    have key : ∀ P, L * S * 4294967296 ≤ (L * 4294967296 + r * S) * P → P ≤ S → 0 < P → zIn true L S P ≤ r := by
      intro P h1 hPS hP
      show dv true (dv true (L * (S - P) * 4294967296) S) P ≤ r
      refine dv_mono hP (dv_mono hS ?_)
      have e1 : L * (S - P) * 4294967296 = L * S * 4294967296 - L * P * 4294967296 := by rw [Nat.mul_sub, Nat.sub_mul]
      have e2 : (L * 4294967296 + r * S) * P = L * P * 4294967296 + S * (P * r) := by
        rw [Nat.add_mul, Nat.mul_right_comm, Nat.mul_assoc r S P, Nat.mul_comm r, Nat.mul_assoc S P r]
      rw [e1]
      omega
    have hge := dv_t_ge (a := L * S * 4294967296) hD
    have hleS : dv true (L * S * 4294967296) (L * 4294967296 + r * S) ≤ S := by
      refine dv_mono hD ?_
      have e : L * S * 4294967296 = L * 4294967296 * S := Nat.mul_right_comm _ _ _
      rw [e]
      exact Nat.mul_le_mul_right _ (Nat.le_add_right _ _)
    have hTle : T ≤ dv true (L * S * 4294967296) (L * 4294967296 + r * S) := by
      rcases Nat.lt_or_ge (dv true (L * S * 4294967296) (L * 4294967296 + r * S)) T with hc | hc
      · exfalso
        have h5 : L * S * 4294967296 ≤ (L * 4294967296 + r * S) * T := Nat.le_trans hge (Nat.mul_le_mul_left _ (Nat.le_of_lt hc))
        have := key T h5 hd hT
        omega
      · exact hc
    exact ⟨⟨hTle, hleS⟩, key _ hge hleS (by omega)⟩
theorem prOut_ok {dn : Bool} {L S T r : Nat} (hS : 0 < S) (hT : 0 < T) (hd : if dn = true then T ≤ S else S ≤ T) (h : r < zOut dn L S T) : (if dn = true then T ≤ zPrOut dn L S T r ∧ zPrOut dn L S T r ≤ S else S ≤ zPrOut dn L S T r ∧ zPrOut dn L S T r ≤ T) ∧ r ≤ zOut dn L S (zPrOut dn L S T r) := by
  have hL := L_pos_out h
  have hn : ¬ zOut dn L S T ≤ r := by omega
  unfold zPrOut
  rw [if_neg hn]
  cases dn
  · simp only [if_neg (show ¬ false = true by decide)] at hd ⊢
    obtain ⟨h1, h2⟩ := up_out hS hd h
    have hD : 0 < L * 4294967296 - r * S := by omega
    have hge := dv_t_ge (a := L * S * 4294967296) hD
    generalize hX : dv true (L * S * 4294967296) (L * 4294967296 - r * S) = P at hge ⊢
    have hSP : S ≤ P := by
      have e : L * S * 4294967296 = S * (L * 4294967296) := by rw [Nat.mul_right_comm, Nat.mul_comm]
      have h3 : S * (L * 4294967296 - r * S) ≤ P * (L * 4294967296 - r * S) := by
        rw [Nat.mul_comm P]
        refine Nat.le_trans ?_ hge
        rw [e]
        exact Nat.mul_le_mul_left _ (by omega)
      exact Nat.le_of_mul_le_mul_right h3 hD
    have hPT : P ≤ T := by
      rw [← hX]
      refine dv_mono hD ?_
      have e : L * (T - S) * 4294967296 = T * (L * 4294967296) - L * S * 4294967296 := by
        rw [Nat.mul_sub, Nat.sub_mul, Nat.mul_comm L T, Nat.mul_assoc]
      rw [e] at h2
      have e2 : T * (r * S + S) = T * (r * S) + T * S := Nat.mul_add _ _ _
      rw [Nat.sub_mul, Nat.mul_comm _ T, Nat.mul_comm _ T]
      rw [e2] at h2
      have : 0 < T * S := Nat.mul_pos hT hS
      omega
    refine ⟨⟨hSP, hPT⟩, ?_⟩
    rw [zOut_up]
    have hP0 : 0 < P := by omega
    refine (Nat.le_div_iff_mul_le hS).mpr ((Nat.le_div_iff_mul_le hP0).mpr ?_)
    have e : L * (P - S) * 4294967296 = L * 4294967296 * P - L * S * 4294967296 := by
      rw [Nat.mul_sub, Nat.sub_mul, Nat.mul_right_comm]
    rw [e]
    rw [Nat.sub_mul] at hge
    have hpos : 0 < L * S * 4294967296 := Nat.mul_pos (Nat.mul_pos hL hS) (by decide)
    exact sub_swap hge hpos
  · simp only [if_true] at hd ⊢
    have h1 := dn_out h
    refine ⟨⟨by omega, by omega⟩, ?_⟩
    rw [zOut_dn]
    have hge := dv_t_ge (a := r * 4294967296) hL
    refine (Nat.le_div_iff_mul_le (by decide)).mpr ?_
    rw [show S - (S - dv true (r * 4294967296) L) = dv true (r * 4294967296) L by omega]
    exact hge
theorem fee_ok {i f r : Nat} (hf : f ≤ 100) (h : i ≤ r * (1000 - f) / 1000) : i + dv true (i * f) (1000 - f) ≤ r := by
  have h1 : i * 1000 ≤ r * (1000 - f) := (Nat.le_div_iff_mul_le (by decide)).mp h
  have hi : i ≤ r := by
    have h3 : i * 1000 ≤ r * 1000 := Nat.le_trans h1 (Nat.mul_le_mul_left _ (by omega))
    omega
  have h2 : dv true (i * f) (1000 - f) ≤ r - i := by
    refine dv_mono (by omega) ?_
    rw [Nat.mul_sub, Nat.mul_comm (1000 - f) r, Nat.mul_comm (1000 - f) i]
    have e : i * (1000 - f) + i * f = i * 1000 := by rw [← Nat.mul_add]; congr 1; omega
    omega
  omega
