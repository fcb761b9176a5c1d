-- QUOTIENTS
theorem lN_gt0 {b : Nat} (h0 : 0 < b) (hb : b < 2 ^ 63) : (0 : Int64) < lN b := (pk_lLT (by decide) hb).mpr h0
theorem of_t {u : Bool} {a b : Nat} {w : Int64} (ha : a < 2 ^ 63) (h0 : 0 < b) (hb : b < 2 ^ 63) (e : w = lN a / lN b) (h1 : ¬ bz u = 0) (h2 : ¬ lN a - lN a / lN b * lN b = 0) : w + 1 = lN (dv u a b) := by
  have hu : u = true := by cases u; exact absurd rfl h1; rfl
  rw [pk_lRem ha h0 hb, lN_ne0 (Nat.lt_trans (Nat.mod_lt _ h0) hb)] at h2
  rw [e, pk_lDiv ha h0 hb, lN_1, dv, if_pos ⟨hu, h2⟩]
theorem of_f {u : Bool} {a b : Nat} {w : Int64} (ha : a < 2 ^ 63) (h0 : 0 < b) (hb : b < 2 ^ 63) (e : w = lN a / lN b) (h : bz u = 0 ∨ lN a - lN a / lN b * lN b = 0) : w = lN (dv u a b) := by
  rw [pk_lRem ha h0 hb, lN_ne0 (Nat.lt_trans (Nat.mod_lt _ h0) hb)] at h
  rw [e, pk_lDiv ha h0 hb, dv, if_neg, Nat.add_zero]
  rintro ⟨h1, h2⟩
  rcases h with h | h
  · rw [h1] at h; exact absurd h (by decide)
  · exact h2 h
theorem c_Q_of {l : Launch} {o n : Nat} {sg : Nat → va_E} (u : Bool) (a b : Nat) (ha : a < 2 ^ 63) (h0 : 0 < b) (hb : b < 2 ^ 63) : GM l y_Q_of b_Q_of 7 (some .long) 1 12 0 0 o n n sg false [.long (lN a), .long (lN b), .int (bz u)] (gR (some (.long (lN (dv u a b)))) sg) := by
  refine GM_of (by decide) (Nat.le_of_ble_eq_true rfl) ?_
  intro K C hl hz hr hnm E
  show G K o n sg 0 0 0 [(0, .long (lN a)), (2, .long (lN b)), (4, .int (bz u))] []
  have hb0 : ¬ lN b = 0 := fun h => by rw [lN_ne0 hb] at h; omega
  refine g_lload_n C rfl rfl d_Q_of_0 ?_
  refine g_lconst (v := 0) C rfl d_Q_of_1 ?_
  refine g_lcmp_gt (tgt := 8) C d_Q_of_2 d_Q_of_3 (by decide) (fun j2 => ?_) (fun j2 => ?_)
  rotate_left
  · exact absurd (lN_gt0 h0 hb) j2
  refine g_lload_n C rfl rfl d_Q_of_8 ?_
  refine g_lload_n C rfl rfl d_Q_of_9 ?_
  refine g_ldiv C hb0 d_Q_of_10 ?_
  refine g_topl (fun w e_w => ?_)
  refine g_lstore (lv' := [(5, .long w), (0, .long (lN a)), (2, .long (lN b)), (4, .int (bz u))]) C d_Q_of_11 (by decide) rfl ?_
  refine g_iload C rfl d_Q_of_13 ?_
  refine g_if_eq (tgt := 33) C d_Q_of_15 (by decide) (fun j15 => ?_) (fun j15 => ?_)
  · refine g_lload C rfl d_Q_of_33 ?_
    refine g_lret C E hr d_Q_of_35 ?_
    first | exact ⟨congrArg (fun z => some (Value.long z)) (of_t ha h0 hb e_w j15 j22).symm, rfl⟩ | exact ⟨congrArg (fun z => some (Value.long z)) (of_f ha h0 hb e_w (Or.inl j15)).symm, rfl⟩ | exact ⟨congrArg (fun z => some (Value.long z)) (of_f ha h0 hb e_w (Or.inr j22)).symm, rfl⟩
  · refine g_lload_n C rfl rfl d_Q_of_18 ?_
    refine g_lload_n C rfl rfl d_Q_of_19 ?_
    refine g_lrem C hb0 d_Q_of_20 ?_
    refine g_lconst (v := 0) C rfl d_Q_of_21 ?_
    refine g_lcmp_eq (tgt := 33) C d_Q_of_22 d_Q_of_23 (by decide) (fun j22 => ?_) (fun j22 => ?_)
    · refine g_lload C rfl d_Q_of_33 ?_
      refine g_lret C E hr d_Q_of_35 ?_
      first | exact ⟨congrArg (fun z => some (Value.long z)) (of_t ha h0 hb e_w j15 j22).symm, rfl⟩ | exact ⟨congrArg (fun z => some (Value.long z)) (of_f ha h0 hb e_w (Or.inl j15)).symm, rfl⟩ | exact ⟨congrArg (fun z => some (Value.long z)) (of_f ha h0 hb e_w (Or.inr j22)).symm, rfl⟩
    · refine g_lload C rfl d_Q_of_26 ?_
      refine g_lconst (v := 1) C rfl d_Q_of_28 ?_
      refine g_ladd C d_Q_of_29 ?_
      refine g_goto (tgt := 35) C d_Q_of_30 (by decide) ?_
      refine g_lret C E hr d_Q_of_35 ?_
      first | exact ⟨congrArg (fun z => some (Value.long z)) (of_t ha h0 hb e_w j15 j22).symm, rfl⟩ | exact ⟨congrArg (fun z => some (Value.long z)) (of_f ha h0 hb e_w (Or.inl j15)).symm, rfl⟩ | exact ⟨congrArg (fun z => some (Value.long z)) (of_f ha h0 hb e_w (Or.inr j22)).symm, rfl⟩
theorem sh_1 (n : Nat) : jshl (lN n) 1 = lN (2 * n) := by
  have h := wb_shl n (k := 1) (by decide)
  rw [Nat.mul_comm] at h
  exact h
theorem osh_ge {r D : Nat} {x : Int64} (hr : r < D) (hD : D ≤ 2 ^ 62) (e : x = jshl (lN r) 1) : (lN D ≤ x ↔ D ≤ 2 * r) := by
  rw [e, sh_1, pk_lLE (by omega) (by omega)]
theorem c_Q_ofShifted {l : Launch} {o n : Nat} {sg : Nat → va_E} (u : Bool) (X D : Nat) (hX : X < 2 ^ 63) (h0 : 0 < D) (hD : D ≤ 2 ^ 62) : GM l y_Q_ofShifted b_Q_ofShifted 10 (some .long) 1 12 0 0 o n n sg false [.long (lN X), .long (lN D), .int (bz u)] (gR (some (.long (lN (dv u (X * 2 ^ 32) D)))) sg) := by
  refine GM_of (by decide) (Nat.le_of_ble_eq_true rfl) ?_
  intro K C hl hz hr hnm E
  show G K o n sg 0 0 0 [(0, .long (lN X)), (2, .long (lN D)), (4, .int (bz u))] []
  have hD3 : D < 2 ^ 63 := by omega
  have hb0 : ¬ lN D = 0 := fun h => by rw [lN_ne0 hD3] at h; omega
  have loop : ∀ k j : Nat, j + k = 32 → ∀ (w r : Int64) (i : Int32), w = lN (X * 2 ^ j / D) → r = lN (X * 2 ^ j % D) → i = nI j → G K o n sg 0 0 21 [(9, .int i), (7, .long r), (5, .long w), (0, .long (lN X)), (2, .long (lN D)), (4, .int (bz u))] [] := by
    intro k
    induction k with
    | zero =>
      intro j hj w r i ew er ei
      have hj2 : j = 32 := by omega
      subst hj2
      have hlt : X * 2 ^ 32 % D < 2 ^ 63 := Nat.lt_trans (Nat.mod_lt _ h0) hD3
      refine g_iload C rfl d_Q_ofShifted_21 ?_
      refine g_bipush (v := 32) C rfl d_Q_ofShifted_23 ?_
      refine g_icmp_ge (tgt := 65) C d_Q_ofShifted_25 (by decide) (fun j25 => ?_) (fun j25 => ?_)
      rotate_left
      · exact absurd (by rw [ei]; decide) j25
      refine g_iload C rfl d_Q_ofShifted_65 ?_
      refine g_if_eq (tgt := 84) C d_Q_ofShifted_67 (by decide) (fun j67 => ?_) (fun j67 => ?_)
      · refine g_lload C rfl d_Q_ofShifted_84 ?_
        refine g_lret C E hr d_Q_ofShifted_86 ?_
        refine ⟨congrArg (fun z => some (Value.long z)) (Eq.symm ?_), rfl⟩
        first | (rw [er, lN_ne0 hlt] at j73; have hu : u = true := (by cases u; exact absurd rfl j67; rfl); rw [ew, lN_1, dv, if_pos ⟨hu, j73⟩]) | (rw [er, lN_ne0 hlt] at j73; rw [ew, dv, if_neg (fun q => q.2 j73), Nat.add_zero]) | (have hu : u = false := (bz_eq0 u).mp j67; rw [ew, dv, if_neg (fun q => by rw [hu] at q; exact absurd q.1 (by decide)), Nat.add_zero])
      · refine g_lload C rfl d_Q_ofShifted_70 ?_
        refine g_lconst (v := 0) C rfl d_Q_ofShifted_72 ?_
        refine g_lcmp_eq (tgt := 84) C d_Q_ofShifted_73 d_Q_ofShifted_74 (by decide) (fun j73 => ?_) (fun j73 => ?_)
        · refine g_lload C rfl d_Q_ofShifted_84 ?_
          refine g_lret C E hr d_Q_ofShifted_86 ?_
          refine ⟨congrArg (fun z => some (Value.long z)) (Eq.symm ?_), rfl⟩
          first | (rw [er, lN_ne0 hlt] at j73; have hu : u = true := (by cases u; exact absurd rfl j67; rfl); rw [ew, lN_1, dv, if_pos ⟨hu, j73⟩]) | (rw [er, lN_ne0 hlt] at j73; rw [ew, dv, if_neg (fun q => q.2 j73), Nat.add_zero]) | (have hu : u = false := (bz_eq0 u).mp j67; rw [ew, dv, if_neg (fun q => by rw [hu] at q; exact absurd q.1 (by decide)), Nat.add_zero])
        · refine g_lload C rfl d_Q_ofShifted_77 ?_
          refine g_lconst (v := 1) C rfl d_Q_ofShifted_79 ?_
          refine g_ladd C d_Q_ofShifted_80 ?_
          refine g_goto (tgt := 86) C d_Q_ofShifted_81 (by decide) ?_
          refine g_lret C E hr d_Q_ofShifted_86 ?_
          refine ⟨congrArg (fun z => some (Value.long z)) (Eq.symm ?_), rfl⟩
          first | (rw [er, lN_ne0 hlt] at j73; have hu : u = true := (by cases u; exact absurd rfl j67; rfl); rw [ew, lN_1, dv, if_pos ⟨hu, j73⟩]) | (rw [er, lN_ne0 hlt] at j73; rw [ew, dv, if_neg (fun q => q.2 j73), Nat.add_zero]) | (have hu : u = false := (bz_eq0 u).mp j67; rw [ew, dv, if_neg (fun q => by rw [hu] at q; exact absurd q.1 (by decide)), Nat.add_zero])
    | succ k ih =>
      intro j hj w r i ew er ei
      have hrl : X * 2 ^ j % D < D := Nat.mod_lt _ h0
      have hst := sh_step (N := X * 2 ^ j) h0
      have hp : X * 2 ^ (j + 1) = 2 * (X * 2 ^ j) := by rw [Nat.pow_succ, ← Nat.mul_assoc, Nat.mul_comm]
      refine g_iload C rfl d_Q_ofShifted_21 ?_
      refine g_bipush (v := 32) C rfl d_Q_ofShifted_23 ?_
      refine g_icmp_ge (tgt := 65) C d_Q_ofShifted_25 (by decide) (fun j25 => ?_) (fun j25 => ?_)
      · exact absurd (show (32 : Int32) ≤ i from j25) (by rw [ei]; exact nI_ge (a := j) (b := 32) (by omega) (by decide))
      refine g_lload C rfl d_Q_ofShifted_28 ?_
      refine g_iconst (v := 1) C rfl d_Q_ofShifted_30 ?_
      refine g_lshl C d_Q_ofShifted_31 ?_
      refine g_topl (fun w1 e_w1 => ?_)
      refine g_lstore (lv' := [(5, .long w1), (9, .int i), (7, .long r), (0, .long (lN X)), (2, .long (lN D)), (4, .int (bz u))]) C d_Q_ofShifted_32 (by decide) rfl ?_
      refine g_lload C rfl d_Q_ofShifted_34 ?_
      refine g_iconst (v := 1) C rfl d_Q_ofShifted_36 ?_
      refine g_lshl C d_Q_ofShifted_37 ?_
      refine g_topl (fun r1 e_r1 => ?_)
      refine g_lstore (lv' := [(7, .long r1), (5, .long w1), (9, .int i), (0, .long (lN X)), (2, .long (lN D)), (4, .int (bz u))]) C d_Q_ofShifted_38 (by decide) rfl ?_
      refine g_lload C rfl d_Q_ofShifted_40 ?_
      refine g_lload_n C rfl rfl d_Q_ofShifted_42 ?_
      refine g_lcmp_lt (tgt := 59) C d_Q_ofShifted_43 d_Q_ofShifted_44 (by decide) (fun j43 => ?_) (fun j43 => ?_)
      · obtain ⟨i1, e_i1⟩ : ∃ y : Int32, (i) + Int32.ofInt 1 = y := ⟨_, rfl⟩
        refine g_iinc (lv' := [(9, .int i1), (7, .long r1), (5, .long w1), (0, .long (lN X)), (2, .long (lN D)), (4, .int (bz u))]) C d_Q_ofShifted_59 rfl e_i1 (by decide) rfl ?_
        refine g_goto (tgt := 21) C d_Q_ofShifted_62 (by decide) ?_
        refine g_pick [0, 1, 2, 3, 4, 5] rfl ?_
        rw [er] at e_r1; rw [ew] at e_w1
        first | (have hc := mt (osh_ge hrl hD e_r1).mpr (Int64.not_le.mpr j43); exact ih (j + 1) (by omega) _ _ _ (by rw [e_w1, sh_1, hp, hst.1, if_neg hc, Nat.add_zero]) (by rw [e_r1, sh_1, hp, hst.2, if_neg hc]) (by rw [← e_i1, ei]; exact nI_1 j)) | (have hc := (osh_ge hrl hD e_r1).mp (Int64.not_lt.mp j43); exact ih (j + 1) (by omega) _ _ _ (by rw [e_w2, e_w1, sh_1, lN_1, hp, hst.1, if_pos hc]) (by rw [e_r2, e_r1, sh_1, lN_sub hc, hp, hst.2, if_pos hc]) (by rw [← e_i1, ei]; exact nI_1 j))
      · refine g_lload C rfl d_Q_ofShifted_47 ?_
        refine g_lload_n C rfl rfl d_Q_ofShifted_49 ?_
        refine g_lsub C d_Q_ofShifted_50 ?_
        refine g_topl (fun r2 e_r2 => ?_)
        refine g_lstore (lv' := [(7, .long r2), (5, .long w1), (9, .int i), (0, .long (lN X)), (2, .long (lN D)), (4, .int (bz u))]) C d_Q_ofShifted_51 (by decide) rfl ?_
        refine g_lload C rfl d_Q_ofShifted_53 ?_
        refine g_lconst (v := 1) C rfl d_Q_ofShifted_55 ?_
        refine g_ladd C d_Q_ofShifted_56 ?_
        refine g_topl (fun w2 e_w2 => ?_)
        refine g_lstore (lv' := [(5, .long w2), (7, .long r2), (9, .int i), (0, .long (lN X)), (2, .long (lN D)), (4, .int (bz u))]) C d_Q_ofShifted_57 (by decide) rfl ?_
        obtain ⟨i1, e_i1⟩ : ∃ y : Int32, (i) + Int32.ofInt 1 = y := ⟨_, rfl⟩
        refine g_iinc (lv' := [(9, .int i1), (5, .long w2), (7, .long r2), (0, .long (lN X)), (2, .long (lN D)), (4, .int (bz u))]) C d_Q_ofShifted_59 rfl e_i1 (by decide) rfl ?_
        refine g_goto (tgt := 21) C d_Q_ofShifted_62 (by decide) ?_
        refine g_pick [0, 2, 1, 3, 4, 5] rfl ?_
        rw [er] at e_r1; rw [ew] at e_w1
        first | (have hc := mt (osh_ge hrl hD e_r1).mpr (Int64.not_le.mpr j43); exact ih (j + 1) (by omega) _ _ _ (by rw [e_w1, sh_1, hp, hst.1, if_neg hc, Nat.add_zero]) (by rw [e_r1, sh_1, hp, hst.2, if_neg hc]) (by rw [← e_i1, ei]; exact nI_1 j)) | (have hc := (osh_ge hrl hD e_r1).mp (Int64.not_lt.mp j43); exact ih (j + 1) (by omega) _ _ _ (by rw [e_w2, e_w1, sh_1, lN_1, hp, hst.1, if_pos hc]) (by rw [e_r2, e_r1, sh_1, lN_sub hc, hp, hst.2, if_pos hc]) (by rw [← e_i1, ei]; exact nI_1 j))
  refine g_lload_n C rfl rfl d_Q_ofShifted_0 ?_
  refine g_lconst (v := 0) C rfl d_Q_ofShifted_1 ?_
  refine g_lcmp_gt (tgt := 8) C d_Q_ofShifted_2 d_Q_ofShifted_3 (by decide) (fun j2 => ?_) (fun j2 => ?_)
  rotate_left
  · exact absurd (lN_gt0 h0 hD3) j2
  refine g_lload_n C rfl rfl d_Q_ofShifted_8 ?_
  refine g_lload_n C rfl rfl d_Q_ofShifted_9 ?_
  refine g_ldiv C hb0 d_Q_ofShifted_10 ?_
  refine g_topl (fun w e_w => ?_)
  refine g_lstore (lv' := [(5, .long w), (0, .long (lN X)), (2, .long (lN D)), (4, .int (bz u))]) C d_Q_ofShifted_11 (by decide) rfl ?_
  refine g_lload_n C rfl rfl d_Q_ofShifted_13 ?_
  refine g_lload_n C rfl rfl d_Q_ofShifted_14 ?_
  refine g_lrem C hb0 d_Q_ofShifted_15 ?_
  refine g_topl (fun r e_r => ?_)
  refine g_lstore (lv' := [(7, .long r), (5, .long w), (0, .long (lN X)), (2, .long (lN D)), (4, .int (bz u))]) C d_Q_ofShifted_16 (by decide) rfl ?_
  refine g_iconst (v := 0) C rfl d_Q_ofShifted_18 ?_
  refine g_topi (fun i e_i => ?_)
  refine g_istore (lv' := [(9, .int i), (7, .long r), (5, .long w), (0, .long (lN X)), (2, .long (lN D)), (4, .int (bz u))]) C d_Q_ofShifted_19 (by decide) rfl ?_
  exact loop 32 0 rfl _ _ _ (by rw [e_w, pk_lDiv hX h0 hD3, Nat.pow_zero, Nat.mul_one]) (by rw [e_r, pk_lRem hX h0 hD3, Nat.pow_zero, Nat.mul_one]) e_i
theorem c_Q_near {l : Launch} {o n : Nat} {sg : Nat → va_E} (u : Bool) (a b L : Nat) (ha : 0 < a) (hab : a ≤ b) (hb : b < 14706804615) (hL : L ≤ 600000000) : GM l y_Q_near b_Q_near 7 (some .long) 2 41 0 0 o n n sg false [.long (lN a), .long (lN b), .long (lN L), .int (bz u)] (gR (some (.long (lN (zNear u L a b)))) sg) := by
  have h1 : L * (b - a) < 2 ^ 63 := Nat.lt_of_le_of_lt (Nat.mul_le_mul hL (Nat.sub_le b a)) (by omega)
  have h2 := zNear_le (u := u) (L := L) ha hab
  refine GM_of (by decide) (Nat.le_of_ble_eq_true rfl) ?_
  intro K C hl hz hr hnm E
  show G K o n sg 0 0 0 [(0, .long (lN a)), (2, .long (lN b)), (4, .long (lN L)), (6, .int (bz u))] []
  refine g_lload C rfl d_Q_near_0 ?_
  refine g_lload_n C rfl rfl d_Q_near_2 ?_
  refine g_lload_n C rfl rfl d_Q_near_3 ?_
  refine g_lsub C d_Q_near_4 ?_
  refine g_lmul C d_Q_near_5 ?_
  rw [lN_sub hab, lN_mul]
  refine g_lload_n C rfl rfl d_Q_near_6 ?_
  refine g_iload C rfl d_Q_near_7 ?_
  refine g_callS C (c_Q_ofShifted u (L * (b - a)) b h1 (by omega) (by omega)) Y_Q_ofShifted m_365 m_364 ⟨by decide, by decide⟩ ⟨by decide, by decide⟩ (fun h => nomatch h) d_Q_near_9 rfl (Nat.le_of_ble_eq_true rfl) (fun ret sg1 hq => ?_)
  obtain ⟨rfl, rfl⟩ := hq
  show G K o n sg _ _ _ _ [.long (lN (dv u (L * (b - a) * 2 ^ 32) b))]
  refine g_lload_n C rfl rfl d_Q_near_12 ?_
  refine g_iload C rfl d_Q_near_13 ?_
  refine g_callS C (c_Q_of u (dv u (L * (b - a) * 2 ^ 32) b) a (by rw [pw32]; omega) ha (by omega)) Y_Q_of m_368 m_367 ⟨by decide, by decide⟩ ⟨by decide, by decide⟩ (fun h => nomatch h) d_Q_near_15 rfl (Nat.le_of_ble_eq_true rfl) (fun ret sg1 hq => ?_)
  obtain ⟨rfl, rfl⟩ := hq
  refine g_lret C E hr d_Q_near_18 ⟨rfl, rfl⟩
theorem c_Q_far {l : Launch} {o n : Nat} {sg : Nat → va_E} (u : Bool) (a b L : Nat) (hab : a ≤ b) (hb : b < 14706804615) (hL : L ≤ 600000000) : GM l y_Q_far b_Q_far 7 (some .long) 2 38 0 0 o n n sg false [.long (lN a), .long (lN b), .long (lN L), .int (bz u)] (gR (some (.long (lN (zFar u L a b)))) sg) := by
  have h1 : L * (b - a) < 2 ^ 63 := Nat.lt_of_le_of_lt (Nat.mul_le_mul hL (Nat.sub_le b a)) (by omega)
  refine GM_of (by decide) (Nat.le_of_ble_eq_true rfl) ?_
  intro K C hl hz hr hnm E
  show G K o n sg 0 0 0 [(0, .long (lN a)), (2, .long (lN b)), (4, .long (lN L)), (6, .int (bz u))] []
  refine g_lload C rfl d_Q_far_0 ?_
  refine g_lload_n C rfl rfl d_Q_far_2 ?_
  refine g_lload_n C rfl rfl d_Q_far_3 ?_
  refine g_lsub C d_Q_far_4 ?_
  refine g_lmul C d_Q_far_5 ?_
  rw [lN_sub hab, lN_mul]
  refine g_ldc2 C m_377 d_Q_far_6 ?_
  refine g_iload C rfl d_Q_far_9 ?_
  refine g_callS C (c_Q_of u (L * (b - a)) 4294967296 h1 (by decide) (by decide)) Y_Q_of m_368 m_367 ⟨by decide, by decide⟩ ⟨by decide, by decide⟩ (fun h => nomatch h) d_Q_far_11 rfl (Nat.le_of_ble_eq_true rfl) (fun ret sg1 hq => ?_)
  obtain ⟨rfl, rfl⟩ := hq
  refine g_lret C E hr d_Q_far_14 ⟨rfl, rfl⟩

