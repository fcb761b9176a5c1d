-- THE REFERENCE'S NUMBERS
theorem c_M_quotient {l : Launch} {o n : Nat} {sg : Nat → va_E} (u : Bool) (a b : Nat) (ha : a < 2 ^ 63) (h0 : 0 < b) (hb : b < 2 ^ 63) : GM l y_M_quotient b_M_quotient 5 (some .long) 1 12 0 0 o n n sg false [.long (lN a), .long (lN b), .int (bz u)] (gR (some (.long (lN (dv u a b)))) sg) := by
  refine GM_of (by decide) (Nat.le_of_ble_eq_true rfl) ?_
  intro K C hl hz hr hnm E
  show G K o n sg 0 0 0 [(0, .long (lN a)), (2, .long (lN b)), (4, .int (bz u))] []
  have hb0 : ¬ lN b = 0 := fun h => by rw [lN_ne0 hb] at h; omega
  refine g_lload_n C rfl rfl d_M_quotient_0 ?_
  refine g_lload_n C rfl rfl d_M_quotient_1 ?_
  refine g_ldiv C hb0 d_M_quotient_2 ?_
  refine g_iload C rfl d_M_quotient_3 ?_
  refine g_if_eq (tgt := 20) C d_M_quotient_5 (by decide) (fun j5 => ?_) (fun j5 => ?_)
  · refine g_lconst (v := 0) C rfl d_M_quotient_20 ?_
    refine g_ladd C d_M_quotient_21 ?_
    refine g_lret C E hr d_M_quotient_22 ?_
    first | exact ⟨congrArg (fun z => some (Value.long z)) (of_t ha h0 hb rfl j5 j12).symm, rfl⟩ | exact ⟨congrArg (fun z => some (Value.long z)) ((Int64.add_zero _).trans (of_f ha h0 hb rfl (Or.inl j5))).symm, rfl⟩ | exact ⟨congrArg (fun z => some (Value.long z)) ((Int64.add_zero _).trans (of_f ha h0 hb rfl (Or.inr j12))).symm, rfl⟩
  · refine g_lload_n C rfl rfl d_M_quotient_8 ?_
    refine g_lload_n C rfl rfl d_M_quotient_9 ?_
    refine g_lrem C hb0 d_M_quotient_10 ?_
    refine g_lconst (v := 0) C rfl d_M_quotient_11 ?_
    refine g_lcmp_eq (tgt := 20) C d_M_quotient_12 d_M_quotient_13 (by decide) (fun j12 => ?_) (fun j12 => ?_)
    · refine g_lconst (v := 0) C rfl d_M_quotient_20 ?_
      refine g_ladd C d_M_quotient_21 ?_
      refine g_lret C E hr d_M_quotient_22 ?_
      first | exact ⟨congrArg (fun z => some (Value.long z)) (of_t ha h0 hb rfl j5 j12).symm, rfl⟩ | exact ⟨congrArg (fun z => some (Value.long z)) ((Int64.add_zero _).trans (of_f ha h0 hb rfl (Or.inl j5))).symm, rfl⟩ | exact ⟨congrArg (fun z => some (Value.long z)) ((Int64.add_zero _).trans (of_f ha h0 hb rfl (Or.inr j12))).symm, rfl⟩
    · refine g_lconst (v := 1) C rfl d_M_quotient_16 ?_
      refine g_goto (tgt := 21) C d_M_quotient_17 (by decide) ?_
      refine g_ladd C d_M_quotient_21 ?_
      refine g_lret C E hr d_M_quotient_22 ?_
      first | exact ⟨congrArg (fun z => some (Value.long z)) (of_t ha h0 hb rfl j5 j12).symm, rfl⟩ | exact ⟨congrArg (fun z => some (Value.long z)) ((Int64.add_zero _).trans (of_f ha h0 hb rfl (Or.inl j5))).symm, rfl⟩ | exact ⟨congrArg (fun z => some (Value.long z)) ((Int64.add_zero _).trans (of_f ha h0 hb rfl (Or.inr j12))).symm, rfl⟩
theorem sh_17 (n : Nat) : jshl (lN n) 17 = lN (n * 131072) := wb_shl n (k := 17) (by decide)
theorem sr_17 {n : Nat} (h : n < 2 ^ 62) : jshr (lN n) 17 = lN (n / 131072) := pf_shr (d := 17) (by decide) h
theorem and_17 {n : Nat} (h : n < 2 ^ 62) : lN n &&& 131071 = lN (n % 131072) := wb_mask (k := 17) (Nat.lt_trans h (by decide)) (by decide)
theorem c_M_part {l : Launch} {o n : Nat} {sg : Nat → va_E} (u : Bool) (x y d : Nat) (hx : x < 2 ^ 63) (hy : y < 17179869184) (h0 : 0 < d) (hd : d < 17179869184) : GM l y_M_part b_M_part 17 (some .long) 2 36 0 0 o n n sg false [.long (lN x), .long (lN y), .long (lN d), .int (bz u)] (gR (some (.long (lN (dv u (x * y) d)))) sg) := by
  have hrl : x % d < d := Nat.mod_lt _ h0
  have hyh : y / 131072 < 131072 := Nat.div_lt_of_lt_mul (by omega)
  have hyl : y % 131072 < 131072 := Nat.mod_lt _ (by decide)
  have hhi : x % d * (y / 131072) < 2 ^ 62 := Nat.lt_of_le_of_lt (m_le (show x % d ≤ 17179869184 by omega) (Nat.le_of_lt hyh)) (by decide)
  have hml : x % d * (y / 131072) % d < d := Nat.mod_lt _ h0
  have hlow : (x % d * (y / 131072) % d) * 131072 + x % d * (y % 131072) < 2 ^ 63 := Nat.lt_of_le_of_lt (Nat.add_le_add (m_le (show x % d * (y / 131072) % d ≤ 17179869184 by omega) (Nat.le_refl 131072)) (m_le (show x % d ≤ 17179869184 by omega) (Nat.le_of_lt hyl))) (by decide)
  have hd3 : d < 2 ^ 63 := by omega
  have hb0 : ¬ lN d = 0 := fun h => by rw [lN_ne0 hd3] at h; omega
  refine GM_of (by decide) (Nat.le_of_ble_eq_true rfl) ?_
  intro K C hl hz hr hnm E
  show G K o n sg 0 0 0 [(0, .long (lN x)), (2, .long (lN y)), (4, .long (lN d)), (6, .int (bz u))] []
  refine g_lload_n C rfl rfl d_M_part_0 ?_
  refine g_lload C rfl d_M_part_1 ?_
  refine g_ldiv C hb0 d_M_part_3 ?_
  refine g_lload_n C rfl rfl d_M_part_4 ?_
  refine g_lmul C d_M_part_5 ?_
  rw [pk_lDiv hx h0 hd3, lN_mul]
  refine g_lstore (lv' := [(7, .long (lN (x / d * y))), (0, .long (lN x)), (2, .long (lN y)), (4, .long (lN d)), (6, .int (bz u))]) C d_M_part_6 (by decide) rfl ?_
  refine g_lload_n C rfl rfl d_M_part_8 ?_
  refine g_lload C rfl d_M_part_9 ?_
  refine g_lrem C hb0 d_M_part_11 ?_
  rw [pk_lRem hx h0 hd3]
  refine g_lstore (lv' := [(9, .long (lN (x % d))), (7, .long (lN (x / d * y))), (0, .long (lN x)), (2, .long (lN y)), (4, .long (lN d)), (6, .int (bz u))]) C d_M_part_12 (by decide) rfl ?_
  refine g_lload C rfl d_M_part_14 ?_
  refine g_lload_n C rfl rfl d_M_part_16 ?_
  refine g_bipush (v := 17) C rfl d_M_part_17 ?_
  refine g_lshr C d_M_part_19 ?_
  refine g_lmul C d_M_part_20 ?_
  rw [sr_17 (by omega), lN_mul]
  refine g_lstore (lv' := [(11, .long (lN (x % d * (y / 131072)))), (9, .long (lN (x % d))), (7, .long (lN (x / d * y))), (0, .long (lN x)), (2, .long (lN y)), (4, .long (lN d)), (6, .int (bz u))]) C d_M_part_21 (by decide) rfl ?_
  refine g_lload C rfl d_M_part_23 ?_
  refine g_lload C rfl d_M_part_25 ?_
  refine g_ldiv C hb0 d_M_part_27 ?_
  rw [pk_lDiv (by omega) h0 hd3]
  refine g_lstore (lv' := [(13, .long (lN (x % d * (y / 131072) / d))), (11, .long (lN (x % d * (y / 131072)))), (9, .long (lN (x % d))), (7, .long (lN (x / d * y))), (0, .long (lN x)), (2, .long (lN y)), (4, .long (lN d)), (6, .int (bz u))]) C d_M_part_28 (by decide) rfl ?_
  refine g_lload C rfl d_M_part_30 ?_
  refine g_lload C rfl d_M_part_32 ?_
  refine g_lrem C hb0 d_M_part_34 ?_
  rw [pk_lRem (by omega) h0 hd3]
  refine g_bipush (v := 17) C rfl d_M_part_35 ?_
  refine g_lshl C d_M_part_37 ?_
  rw [sh_17]
  refine g_lload C rfl d_M_part_38 ?_
  refine g_lload_n C rfl rfl d_M_part_40 ?_
  refine g_ldc2 C m_769 d_M_part_41 ?_
  refine g_land C d_M_part_44 ?_
  refine g_lmul C d_M_part_45 ?_
  refine g_ladd C d_M_part_46 ?_
  rw [and_17 (by omega), lN_mul, lN_add]
  refine g_lstore (lv' := [(15, .long (lN ((x % d * (y / 131072) % d) * 131072 + x % d * (y % 131072)))), (13, .long (lN (x % d * (y / 131072) / d))), (11, .long (lN (x % d * (y / 131072)))), (9, .long (lN (x % d))), (7, .long (lN (x / d * y))), (0, .long (lN x)), (2, .long (lN y)), (4, .long (lN d)), (6, .int (bz u))]) C d_M_part_47 (by decide) rfl ?_
  refine g_lload C rfl d_M_part_49 ?_
  refine g_lload C rfl d_M_part_51 ?_
  refine g_bipush (v := 17) C rfl d_M_part_53 ?_
  refine g_lshl C d_M_part_55 ?_
  refine g_ladd C d_M_part_56 ?_
  rw [sh_17, lN_add]
  refine g_lload C rfl d_M_part_57 ?_
  refine g_lload C rfl d_M_part_59 ?_
  refine g_iload C rfl d_M_part_61 ?_
  refine g_callS C (c_M_quotient u _ d hlow h0 hd3) Y_M_quotient m_771 m_770 ⟨by decide, by decide⟩ ⟨by decide, by decide⟩ (fun h => nomatch h) d_M_part_63 rfl (Nat.le_of_ble_eq_true rfl) (fun ret sg63 hq => ?_)
  obtain ⟨rfl, rfl⟩ := hq
  refine g_ladd C d_M_part_66 ?_
  rw [lN_add, part_eq h0]
  refine g_lret C E hr d_M_part_67 ⟨rfl, rfl⟩
theorem c_M_near {l : Launch} {o n : Nat} {sg : Nat → va_E} (u : Bool) (a b L : Nat) (ha : 0 < a) (hab : a ≤ b) (hb : b < 14706804615) (hL : L ≤ 600000000) : GM l y_M_near b_M_near 9 (some .long) 3 72 0 0 o n n sg false [.long (lN a), .long (lN b), .long (lN L), .int (bz u)] (gR (some (.long (lN (zNear u L a b)))) sg) := by
  have h2 := zNear_le (u := u) (L := L) ha hab
  have h3 : L * 4294967296 < 2 ^ 63 := big_r (by omega)
  have e : L * 4294967296 * (b - a) = L * (b - a) * 4294967296 := Nat.mul_right_comm _ _ _
  refine GM_of (by decide) (Nat.le_of_ble_eq_true rfl) ?_
  intro K C hl hz hr hnm E
  show G K o n sg 0 0 0 [(0, .long (lN a)), (2, .long (lN b)), (4, .long (lN L)), (6, .int (bz u))] []
  refine g_lload C rfl d_M_near_0 ?_
  refine g_ldc2 C m_640 d_M_near_2 ?_
  refine g_lmul C d_M_near_5 ?_
  rw [show (4294967296 : Int64) = lN 4294967296 from rfl, lN_mul]
  refine g_lload_n C rfl rfl d_M_near_6 ?_
  refine g_lload_n C rfl rfl d_M_near_7 ?_
  refine g_lsub C d_M_near_8 ?_
  rw [lN_sub hab]
  refine g_lload_n C rfl rfl d_M_near_9 ?_
  refine g_iload C rfl d_M_near_10 ?_
  refine g_callS C (c_M_part u (L * 4294967296) (b - a) b h3 (by omega) (by omega) (by omega)) Y_M_part m_767 m_766 ⟨by decide, by decide⟩ ⟨by decide, by decide⟩ (fun h => nomatch h) d_M_near_12 rfl (Nat.le_of_ble_eq_true rfl) (fun ret sg12 hq => ?_)
  obtain ⟨rfl, rfl⟩ := hq
  rw [e]
  refine g_lstore (lv' := [(7, .long (lN (dv u (L * (b - a) * 4294967296) b))), (0, .long (lN a)), (2, .long (lN b)), (4, .long (lN L)), (6, .int (bz u))]) C d_M_near_15 (by decide) rfl ?_
  refine g_lload C rfl d_M_near_17 ?_
  refine g_lload_n C rfl rfl d_M_near_19 ?_
  refine g_iload C rfl d_M_near_20 ?_
  refine g_callS C (c_M_quotient u (dv u (L * (b - a) * 4294967296) b) a (Nat.lt_of_le_of_lt h2 h3) ha (by omega)) Y_M_quotient m_771 m_770 ⟨by decide, by decide⟩ ⟨by decide, by decide⟩ (fun h => nomatch h) d_M_near_22 rfl (Nat.le_of_ble_eq_true rfl) (fun ret sg22 hq => ?_)
  obtain ⟨rfl, rfl⟩ := hq
  refine g_lret C E hr d_M_near_25 ⟨rfl, rfl⟩
theorem c_M_far {l : Launch} {o n : Nat} {sg : Nat → va_E} (u : Bool) (a b L : Nat) (hab : a ≤ b) (hb : b < 14706804615) (hL : L ≤ 600000000) : GM l y_M_far b_M_far 7 (some .long) 2 36 0 0 o n n sg false [.long (lN a), .long (lN b), .long (lN L), .int (bz u)] (gR (some (.long (lN (zFar u L a b)))) sg) := by
  have h1 : L * (b - a) < 2 ^ 63 := Nat.lt_of_le_of_lt (Nat.mul_le_mul hL (Nat.sub_le b a)) (by omega)
  refine GM_of (by decide) (Nat.le_of_ble_eq_true rfl) ?_
  intro K C hl hz hr hnm E
  show G K o n sg 0 0 0 [(0, .long (lN a)), (2, .long (lN b)), (4, .long (lN L)), (6, .int (bz u))] []
  refine g_lload C rfl d_M_far_0 ?_
  refine g_lload_n C rfl rfl d_M_far_2 ?_
  refine g_lload_n C rfl rfl d_M_far_3 ?_
  refine g_lsub C d_M_far_4 ?_
  refine g_lmul C d_M_far_5 ?_
  rw [lN_sub hab, lN_mul]
  refine g_ldc2 C m_640 d_M_far_6 ?_
  refine g_iload C rfl d_M_far_9 ?_
  refine g_callS C (c_M_quotient u (L * (b - a)) 4294967296 h1 (by decide) (by decide)) Y_M_quotient m_771 m_770 ⟨by decide, by decide⟩ ⟨by decide, by decide⟩ (fun h => nomatch h) d_M_far_11 rfl (Nat.le_of_ble_eq_true rfl) (fun ret sg11 hq => ?_)
  obtain ⟨rfl, rfl⟩ := hq
  refine g_lret C E hr d_M_far_14 ⟨rfl, rfl⟩
theorem sr_k {n k : Nat} (h : n < 2 ^ 62) (hk : k < 64) : jshr (lN n) (nI k) = lN (n / 2 ^ k) := pf_shr (d := k) (by rw [wb_c k hk, wb_tb, wb_sm k hk, BitVec.toNat_ofNat, Nat.mod_eq_of_lt (by omega)]) h
theorem bit_k {y k : Nat} (hy : y < 2 ^ 62) (hk : k < 64) : jshr (lN y) (nI k) &&& 1 = lN (y / 2 ^ k % 2) := by
  rw [sr_k hy hk, wb_a1 (Nat.lt_of_le_of_lt (Nat.div_le_self _ _) (Nat.lt_trans hy (by decide)))]
theorem two_l (n : Nat) : (2 : Int64) * lN n = lN (2 * n) := lN_mul 2 n
set_option maxHeartbeats 4000000 in
theorem c_M_share {l : Launch} {o n : Nat} {sg : Nat → va_E} (u : Bool) (x y d : Nat) (hx : x < 2 ^ 62) (hy : y < 2 ^ 35) (h0 : 0 < d) (hd : d ≤ 2 ^ 62) : GM l y_M_share b_M_share 12 (some .long) 1 12 0 0 o n n sg false [.long (lN x), .long (lN y), .long (lN d), .int (bz u)] (gR (some (.long (lN (dv u (x * y) d)))) sg) := by
  have hd3 : d < 2 ^ 63 := by omega
  refine GM_of (by decide) (Nat.le_of_ble_eq_true rfl) ?_
  intro K C hl hz hr hnm E
  show G K o n sg 0 0 0 [(0, .long (lN x)), (2, .long (lN y)), (4, .long (lN d)), (6, .int (bz u))] []
  have loop : ∀ (j : Nat), j ≤ 35 → ∀ (q r : Int64) (i : Int32), q = lN (x * (y / 2 ^ j) / d) → r = lN (x * (y / 2 ^ j) % d) → i = iI ((j : Int) - 1) → G K o n sg 0 0 10 [(11, .int i), (9, .long r), (7, .long q), (0, .long (lN x)), (2, .long (lN y)), (4, .long (lN d)), (6, .int (bz u))] [] := by
    intro j
    induction j with
    | zero =>
      intro hj q r i eq er ei
      rw [Nat.pow_zero, Nat.div_one] at eq er
      have hlt : x * y % d < 2 ^ 63 := Nat.lt_trans (Nat.mod_lt _ h0) hd3
      refine g_iload C rfl d_M_share_10 ?_
      refine g_if_lt (tgt := 99) C d_M_share_12 (by decide) (fun j12 => ?_) (fun j12 => ?_)
      rotate_left
      · exact absurd (by rw [ei]; decide) j12
      refine g_iload C rfl d_M_share_99 ?_
      refine g_if_eq (tgt := 118) C d_M_share_101 (by decide) (fun j101 => ?_) (fun j101 => ?_)
      · refine g_lload C rfl d_M_share_118 ?_
        refine g_lret C E hr d_M_share_120 ?_
        refine ⟨congrArg (fun z => some (Value.long z)) (Eq.symm ?_), rfl⟩
        first | (rw [er, lN_pos hlt] at j107; have hu : u = true := (by cases u; exact absurd rfl j101; rfl); rw [eq, lN_1, dv, if_pos ⟨hu, j107⟩]) | (rw [er, lN_pos hlt] at j107; rw [eq, dv, if_neg (fun q => q.2 j107), Nat.add_zero]) | (have hu : u = false := (bz_eq0 u).mp j101; rw [eq, dv, if_neg (fun q => by rw [hu] at q; exact absurd q.1 (by decide)), Nat.add_zero])
      · refine g_lload C rfl d_M_share_104 ?_
        refine g_lconst (v := 0) C rfl d_M_share_106 ?_
        refine g_lcmp_le (tgt := 118) C d_M_share_107 d_M_share_108 (by decide) (fun j107 => ?_) (fun j107 => ?_)
        · refine g_lload C rfl d_M_share_118 ?_
          refine g_lret C E hr d_M_share_120 ?_
          refine ⟨congrArg (fun z => some (Value.long z)) (Eq.symm ?_), rfl⟩
          first | (rw [er, lN_pos hlt] at j107; have hu : u = true := (by cases u; exact absurd rfl j101; rfl); rw [eq, lN_1, dv, if_pos ⟨hu, j107⟩]) | (rw [er, lN_pos hlt] at j107; rw [eq, dv, if_neg (fun q => q.2 j107), Nat.add_zero]) | (have hu : u = false := (bz_eq0 u).mp j101; rw [eq, dv, if_neg (fun q => by rw [hu] at q; exact absurd q.1 (by decide)), Nat.add_zero])
        · refine g_lload C rfl d_M_share_111 ?_
          refine g_lconst (v := 1) C rfl d_M_share_113 ?_
          refine g_ladd C d_M_share_114 ?_
          refine g_goto (tgt := 120) C d_M_share_115 (by decide) ?_
          refine g_lret C E hr d_M_share_120 ?_
          refine ⟨congrArg (fun z => some (Value.long z)) (Eq.symm ?_), rfl⟩
          first | (rw [er, lN_pos hlt] at j107; have hu : u = true := (by cases u; exact absurd rfl j101; rfl); rw [eq, lN_1, dv, if_pos ⟨hu, j107⟩]) | (rw [er, lN_pos hlt] at j107; rw [eq, dv, if_neg (fun q => q.2 j107), Nat.add_zero]) | (have hu : u = false := (bz_eq0 u).mp j101; rw [eq, dv, if_neg (fun q => by rw [hu] at q; exact absurd q.1 (by decide)), Nat.add_zero])
    | succ j ih =>
      intro hj q r i eq er ei
      have ei2 : i = nI j := by rw [ei, ← iI_nat]; congr 1; omega
      have hY : y / 2 ^ j = 2 * (y / 2 ^ (j + 1)) + y / 2 ^ j % 2 := by
        rw [Nat.pow_succ, ← Nat.div_div_eq_div_mul]
        omega
      have hst := sh_step (N := x * (y / 2 ^ (j + 1))) h0
      have hrl : x * (y / 2 ^ (j + 1)) % d < d := Nat.mod_lt _ h0
      have h2l : 2 * (x * (y / 2 ^ (j + 1))) % d < d := Nat.mod_lt _ h0
      have hNN : ∀ bit : Nat, y / 2 ^ j % 2 = bit → x * (y / 2 ^ j) = 2 * (x * (y / 2 ^ (j + 1))) + bit * x := fun bit hb => by
        rw [hY, hb, Nat.mul_add, Nat.mul_left_comm, Nat.mul_comm x bit]
      generalize hN : x * (y / 2 ^ (j + 1)) = N at *
      -- the inner loop, from the numbers qq, rr with qq * d + rr = all
      have inner : ∀ (m qq rr : Nat), rr ≤ m → rr < 2 ^ 63 → qq * d + rr = x * (y / 2 ^ j) → ∀ (q2 r2 : Int64), q2 = lN qq → r2 = lN rr → G K o n sg 0 0 69 [(9, .long r2), (7, .long q2), (11, .int i), (0, .long (lN x)), (2, .long (lN y)), (4, .long (lN d)), (6, .int (bz u))] [] := by
        intro m
        induction m with
        | zero =>
          intro qq rr hm hr3 hs q2 r2 e1 e2
          have hrr : rr = 0 := by omega
          refine g_lload C rfl d_M_share_69 ?_
          refine g_lload C rfl d_M_share_71 ?_
          refine g_lcmp_lt (tgt := 93) C d_M_share_73 d_M_share_74 (by decide) (fun j73 => ?_) (fun j73 => ?_)
          rotate_left
          · exact absurd ((pk_lLT hr3 hd3).mpr (by omega)) (by rw [← e2]; exact j73)
          obtain ⟨i1, e_i1⟩ : ∃ y : Int32, (i) + Int32.ofInt (-1) = y := ⟨_, rfl⟩
          refine g_iinc (lv' := [(11, .int i1), (9, .long r2), (7, .long q2), (0, .long (lN x)), (2, .long (lN y)), (4, .long (lN d)), (6, .int (bz u))]) C d_M_share_93 rfl e_i1 (by decide) rfl ?_
          refine g_goto (tgt := 10) C d_M_share_96 (by decide) ?_
          refine g_pick [0, 1, 2, 3, 4, 5, 6] rfl ?_
          exact ih (by omega) _ _ _ (by rw [e1, ← hs, Nat.mul_comm, Nat.mul_add_div h0, Nat.div_eq_of_lt (by omega), Nat.add_zero]) (by rw [e2, ← hs, Nat.mul_comm, Nat.mul_add_mod, Nat.mod_eq_of_lt (by omega)]) (by rw [← e_i1, ei]; exact (iI_add _ (-1)).trans (congrArg iI (by omega)))
        | succ m ihm =>
          intro qq rr hm hr3 hs q2 r2 e1 e2
          refine g_lload C rfl d_M_share_69 ?_
          refine g_lload C rfl d_M_share_71 ?_
          refine g_lcmp_lt (tgt := 93) C d_M_share_73 d_M_share_74 (by decide) (fun j73 => ?_) (fun j73 => ?_)
          · obtain ⟨i1, e_i1⟩ : ∃ y : Int32, (i) + Int32.ofInt (-1) = y := ⟨_, rfl⟩
            refine g_iinc (lv' := [(11, .int i1), (9, .long r2), (7, .long q2), (0, .long (lN x)), (2, .long (lN y)), (4, .long (lN d)), (6, .int (bz u))]) C d_M_share_93 rfl e_i1 (by decide) rfl ?_
            refine g_goto (tgt := 10) C d_M_share_96 (by decide) ?_
            have hc : rr < d := (pk_lLT hr3 hd3).mp (by rw [← e2]; exact j73)
            refine g_pick [0, 1, 2, 3, 4, 5, 6] rfl ?_
            exact ih (by omega) _ _ _ (by rw [e1, ← hs, Nat.mul_comm, Nat.mul_add_div h0, Nat.div_eq_of_lt hc, Nat.add_zero]) (by rw [e2, ← hs, Nat.mul_comm, Nat.mul_add_mod, Nat.mod_eq_of_lt hc]) (by rw [← e_i1, ei]; exact (iI_add _ (-1)).trans (congrArg iI (by omega)))
          · refine g_lload C rfl d_M_share_77 ?_
            refine g_lload C rfl d_M_share_79 ?_
            refine g_lsub C d_M_share_81 ?_
            refine g_topl (fun r3 e_r3 => ?_)
            refine g_lstore (lv' := [(9, .long r3), (7, .long q2), (11, .int i), (0, .long (lN x)), (2, .long (lN y)), (4, .long (lN d)), (6, .int (bz u))]) C d_M_share_82 (by decide) rfl ?_
            refine g_lload C rfl d_M_share_84 ?_
            refine g_lconst (v := 1) C rfl d_M_share_86 ?_
            refine g_ladd C d_M_share_87 ?_
            refine g_topl (fun q3 e_q3 => ?_)
            refine g_lstore (lv' := [(7, .long q3), (9, .long r3), (11, .int i), (0, .long (lN x)), (2, .long (lN y)), (4, .long (lN d)), (6, .int (bz u))]) C d_M_share_88 (by decide) rfl ?_
            refine g_goto (tgt := 69) C d_M_share_90 (by decide) ?_
            have hc : d ≤ rr := Nat.not_lt.mp (fun w => j73 (by rw [e2]; exact (pk_lLT hr3 hd3).mpr w))
            refine g_pick [1, 0, 2, 3, 4, 5, 6] rfl ?_
            exact ihm (qq + 1) (rr - d) (by omega) (by omega) (by rw [Nat.add_mul, Nat.one_mul]; omega) _ _ (by rw [e_q3, e1, lN_1]) (by rw [e_r3, e2, lN_sub hc])
      have hdm := Nat.div_add_mod (2 * N) d
      -- behind the bit: from (2 * N) / d and (2 * N) % d
      have bits : ∀ (q2 r2 : Int64), q2 = lN (2 * N / d) → r2 = lN (2 * N % d) → G K o n sg 0 0 52 [(9, .long r2), (7, .long q2), (11, .int i), (0, .long (lN x)), (2, .long (lN y)), (4, .long (lN d)), (6, .int (bz u))] [] := by
        intro q2 r2 e1 e2
        have hbv := bit_k (y := y) (k := j) (Nat.lt_trans hy (by decide)) (by omega)
        have hb2 : y / 2 ^ j % 2 < 2 := Nat.mod_lt _ (by decide)
        rw [ei2]
        rw [ei2] at inner
        refine g_lload_n C rfl rfl d_M_share_52 ?_
        refine g_iload C rfl d_M_share_53 ?_
        refine g_lshr C d_M_share_55 ?_
        refine g_lconst (v := 1) C rfl d_M_share_56 ?_
        refine g_land C d_M_share_57 ?_
        rw [hbv]
        refine g_lconst (v := 1) C rfl d_M_share_58 ?_
        refine g_lcmp_ne (tgt := 69) C d_M_share_59 d_M_share_60 (by decide) (fun j59 => ?_) (fun j59 => ?_)
        · first | (have hb1 : y / 2 ^ j % 2 = 0 := Nat.eq_zero_of_not_pos (fun w => j59 (by rw [show y / 2 ^ j % 2 = 1 by omega]; rfl)); exact inner _ (2 * N / d) (2 * N % d) (Nat.le_refl _) (by omega) (by rw [hNN 0 hb1, Nat.zero_mul, Nat.mul_comm]; exact hdm) _ _ e1 e2) | (have hb1 : y / 2 ^ j % 2 = 1 := (by have h1 : lN (y / 2 ^ j % 2) = lN 1 := j59; exact (pk_lEQ (by omega) (by decide)).mp h1); refine g_pick [0, 1, 2, 3, 4, 5, 6] rfl ?_; exact inner _ (2 * N / d) (2 * N % d + x) (Nat.le_refl _) (by omega) (by rw [hNN 1 hb1, Nat.one_mul, ← Nat.add_assoc, Nat.mul_comm, hdm]) _ _ e1 (by rw [e_r3, e2, lN_add]))
        · refine g_lload C rfl d_M_share_63 ?_
          refine g_lload_n C rfl rfl d_M_share_65 ?_
          refine g_ladd C d_M_share_66 ?_
          refine g_topl (fun r3 e_r3 => ?_)
          refine g_lstore (lv' := [(9, .long r3), (7, .long q2), (11, .int (nI j)), (0, .long (lN x)), (2, .long (lN y)), (4, .long (lN d)), (6, .int (bz u))]) C d_M_share_67 (by decide) rfl ?_
          first | (have hb1 : y / 2 ^ j % 2 = 0 := Nat.eq_zero_of_not_pos (fun w => j59 (by rw [show y / 2 ^ j % 2 = 1 by omega]; rfl)); exact inner _ (2 * N / d) (2 * N % d) (Nat.le_refl _) (by omega) (by rw [hNN 0 hb1, Nat.zero_mul, Nat.mul_comm]; exact hdm) _ _ e1 e2) | (have hb1 : y / 2 ^ j % 2 = 1 := (by have h1 : lN (y / 2 ^ j % 2) = lN 1 := j59; exact (pk_lEQ (by omega) (by decide)).mp h1); refine g_pick [0, 1, 2, 3, 4, 5, 6] rfl ?_; exact inner _ (2 * N / d) (2 * N % d + x) (Nat.le_refl _) (by omega) (by rw [hNN 1 hb1, Nat.one_mul, ← Nat.add_assoc, Nat.mul_comm, hdm]) _ _ e1 (by rw [e_r3, e2, lN_add]))
      refine g_iload C rfl d_M_share_10 ?_
      refine g_if_lt (tgt := 99) C d_M_share_12 (by decide) (fun j12 => ?_) (fun j12 => ?_)
      · exact absurd j12 (by rw [ei2]; exact nI_pos (by omega))
      refine g_ldc2 C m_842 d_M_share_15 ?_
      refine g_lload C rfl d_M_share_18 ?_
      refine g_lmul C d_M_share_20 ?_
      refine g_topl (fun q1 e_q1 => ?_)
      refine g_lstore (lv' := [(7, .long q1), (11, .int i), (9, .long r), (0, .long (lN x)), (2, .long (lN y)), (4, .long (lN d)), (6, .int (bz u))]) C d_M_share_21 (by decide) rfl ?_
      refine g_ldc2 C m_842 d_M_share_23 ?_
      refine g_lload C rfl d_M_share_26 ?_
      refine g_lmul C d_M_share_28 ?_
      refine g_topl (fun r1 e_r1 => ?_)
      refine g_lstore (lv' := [(9, .long r1), (7, .long q1), (11, .int i), (0, .long (lN x)), (2, .long (lN y)), (4, .long (lN d)), (6, .int (bz u))]) C d_M_share_29 (by decide) rfl ?_
      refine g_lload C rfl d_M_share_31 ?_
      refine g_lload C rfl d_M_share_33 ?_
      refine g_lcmp_lt (tgt := 52) C d_M_share_35 d_M_share_36 (by decide) (fun j35 => ?_) (fun j35 => ?_)
      · rw [eq, two_l] at e_q1; rw [er, two_l] at e_r1
        refine g_pick [0, 1, 2, 3, 4, 5, 6] rfl ?_
        first | (have hc : ¬ d ≤ 2 * (N % d) := Nat.not_le.mpr ((pk_lLT (by omega) hd3).mp (by rw [← e_r1]; exact j35)); exact bits _ _ (by rw [e_q1, hst.1, if_neg hc, Nat.add_zero]) (by rw [e_r1, hst.2, if_neg hc])) | (have hc : d ≤ 2 * (N % d) := Nat.not_lt.mp (fun w => j35 (by rw [e_r1]; exact (pk_lLT (by omega) hd3).mpr w)); exact bits _ _ (by rw [e_q2, e_q1, lN_1, hst.1, if_pos hc]) (by rw [e_r2, e_r1, lN_sub hc, hst.2, if_pos hc]))
      · refine g_lload C rfl d_M_share_39 ?_
        refine g_lload C rfl d_M_share_41 ?_
        refine g_lsub C d_M_share_43 ?_
        refine g_topl (fun r2 e_r2 => ?_)
        refine g_lstore (lv' := [(9, .long r2), (7, .long q1), (11, .int i), (0, .long (lN x)), (2, .long (lN y)), (4, .long (lN d)), (6, .int (bz u))]) C d_M_share_44 (by decide) rfl ?_
        refine g_lload C rfl d_M_share_46 ?_
        refine g_lconst (v := 1) C rfl d_M_share_48 ?_
        refine g_ladd C d_M_share_49 ?_
        refine g_topl (fun q2 e_q2 => ?_)
        refine g_lstore (lv' := [(7, .long q2), (9, .long r2), (11, .int i), (0, .long (lN x)), (2, .long (lN y)), (4, .long (lN d)), (6, .int (bz u))]) C d_M_share_50 (by decide) rfl ?_
        rw [eq, two_l] at e_q1; rw [er, two_l] at e_r1
        refine g_pick [1, 0, 2, 3, 4, 5, 6] rfl ?_
        first | (have hc : ¬ d ≤ 2 * (N % d) := Nat.not_le.mpr ((pk_lLT (by omega) hd3).mp (by rw [← e_r1]; exact j35)); exact bits _ _ (by rw [e_q1, hst.1, if_neg hc, Nat.add_zero]) (by rw [e_r1, hst.2, if_neg hc])) | (have hc : d ≤ 2 * (N % d) := Nat.not_lt.mp (fun w => j35 (by rw [e_r1]; exact (pk_lLT (by omega) hd3).mpr w)); exact bits _ _ (by rw [e_q2, e_q1, lN_1, hst.1, if_pos hc]) (by rw [e_r2, e_r1, lN_sub hc, hst.2, if_pos hc]))
  refine g_lconst (v := 0) C rfl d_M_share_0 ?_
  refine g_topl (fun q e_q => ?_)
  refine g_lstore (lv' := [(7, .long q), (0, .long (lN x)), (2, .long (lN y)), (4, .long (lN d)), (6, .int (bz u))]) C d_M_share_1 (by decide) rfl ?_
  refine g_lconst (v := 0) C rfl d_M_share_3 ?_
  refine g_topl (fun r e_r => ?_)
  refine g_lstore (lv' := [(9, .long r), (7, .long q), (0, .long (lN x)), (2, .long (lN y)), (4, .long (lN d)), (6, .int (bz u))]) C d_M_share_4 (by decide) rfl ?_
  refine g_bipush (v := 34) C rfl d_M_share_6 ?_
  refine g_topi (fun i e_i => ?_)
  refine g_istore (lv' := [(11, .int i), (9, .long r), (7, .long q), (0, .long (lN x)), (2, .long (lN y)), (4, .long (lN d)), (6, .int (bz u))]) C d_M_share_8 (by decide) rfl ?_
  refine g_pick [0, 1, 2, 3, 4, 5, 6] rfl ?_
  exact loop 35 (Nat.le_refl _) _ _ _ (by rw [e_q, Nat.div_eq_of_lt hy, Nat.mul_zero, Nat.zero_div]; rfl) (by rw [e_r, Nat.div_eq_of_lt hy, Nat.mul_zero, Nat.zero_mod]; rfl) e_i

