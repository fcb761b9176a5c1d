-- WHAT LIQUIDITY IS WORTH
theorem rt_pos {i : Nat} (h : i ≤ 80) : 0 < rt i := Nat.lt_of_lt_of_le (Nat.lt_trans (by decide) rt_0) (rt_le (Nat.zero_le i) h)
theorem rt_top : rt 80 = 14706804614 := by decide +kernel
theorem rt_up {i : Nat} (h : i ≤ 80) : rt i < 14706804615 := Nat.lt_of_le_of_lt (rt_le h (Nat.le_refl _)) (by rw [rt_top]; decide)
theorem tx_le {z : Int} (h : z ≤ 40) : tx z ≤ 80 := by unfold tx; omega
theorem tx_lt {a b : Int} (h1 : -40 ≤ a) (h : a < b) : tx a < tx b := by unfold tx; omega
def zWN (u : Bool) (L S : Nat) (tz lo hi : Int) : Nat := if hi ≤ tz then 0 else zNear u L (if tz < lo then rt (tx lo) else S) (rt (tx hi))
def zWF (u : Bool) (L S : Nat) (tz lo hi : Int) : Nat := if tz < lo then 0 else zFar u L (rt (tx lo)) (if hi ≤ tz then rt (tx hi) else S)
theorem c_P_nearWorth {l : Launch} {o n : Nat} {sg : Nat → va_E} {p kr fee kn kt : Nat} {gr ne : Nat → Int32} {S : Nat} {tz : Int} {lq : Int32} {g ou : Nat → Int64} (u : Bool) (L : Nat) (lo hi : Int) (hp : p + 2 < n) (hc : kn + 2 < n) (hkr : kr + 1 < n) (hP : isP sg o p kr fee kn kt gr ne) (hC : isC sg o kn (lN S) tz lq g ou) (hR : isR sg o kr) (h1 : -40 ≤ lo) (hlh : lo < hi) (h4 : hi ≤ 40) (h5 : -41 ≤ tz) (h6 : tz ≤ 40) (hS0 : 0 < S) (hS1 : lo ≤ tz → tz < hi → S ≤ rt (tx hi)) (hL : L ≤ 600000000) : GM l y_P_nearWorth b_P_nearWorth 7 (some .long) 3 67 0 0 o n n sg false [.ref (ad o p), .int (iI lo), .int (iI hi), .int (nI L), .int (bz u)] (gR (some (.long (lN (zWN u L S tz lo hi)))) sg) := by
  obtain ⟨q1, q2, q3⟩ := hP
  have hc1 := hC.1
  have hr1 := hR.1
  refine GM_of (by decide) (Nat.le_of_ble_eq_true rfl) ?_
  intro K C hl hz hr hnm E
  show G K o n sg 0 0 0 [(0, .ref (ad o p)), (1, .int (iI lo)), (2, .int (iI hi)), (3, .int (nI L)), (4, .int (bz u))] []
  by_cases hA : hi ≤ tz
  · have hB : ¬ iI tz < iI hi := fun q => absurd ((iI_lt (by omega) (by omega) (by omega) (by omega)).mp q) (by omega)
    refine g_aload_n C rfl rfl d_P_nearWorth_0 ?_
    refine gf_P_21 C d_P_nearWorth_1 (by first | assumption | omega) (by repeat' first | assumption | exact up_eq _ _ _ | refine up_ne (by omega) ?_) (by rfl) ?_
    refine gf_P_57 C d_P_nearWorth_4 (by first | assumption | omega) (by repeat' first | assumption | exact up_eq _ _ _ | refine up_ne (by omega) ?_) (by rfl) ?_
    refine g_iload_n C rfl rfl d_P_nearWorth_7 ?_
    refine g_icmp_lt (tgt := 13) C d_P_nearWorth_8 (by decide) (fun j8 => ?_) (fun j8 => ?_)
    · exact absurd j8 hB
    refine g_lconst (v := 0) C rfl d_P_nearWorth_11 ?_
    refine g_lret C E hr d_P_nearWorth_12 ⟨by rw [zWN, if_pos hA]; rfl, rfl⟩
  · have hB : iI tz < iI hi := (iI_lt (by omega) (by omega) (by omega) (by omega)).mpr (by omega)
    by_cases hD : tz < lo
    · have hF : ¬ iI lo ≤ iI tz := fun q => absurd ((iI_le (by omega) (by omega) (by omega) (by omega)).mp q) (by omega)
      refine g_aload_n C rfl rfl d_P_nearWorth_0 ?_
      refine gf_P_21 C d_P_nearWorth_1 (by first | assumption | omega) (by repeat' first | assumption | exact up_eq _ _ _ | refine up_ne (by omega) ?_) (by rfl) ?_
      refine gf_P_57 C d_P_nearWorth_4 (by first | assumption | omega) (by repeat' first | assumption | exact up_eq _ _ _ | refine up_ne (by omega) ?_) (by rfl) ?_
      refine g_iload_n C rfl rfl d_P_nearWorth_7 ?_
      refine g_icmp_lt (tgt := 13) C d_P_nearWorth_8 (by decide) (fun j8 => ?_) (fun j8 => ?_)
      rotate_left
      · exact absurd hB j8
      refine g_aload_n C rfl rfl d_P_nearWorth_13 ?_
      refine gf_P_21 C d_P_nearWorth_14 (by first | assumption | omega) (by repeat' first | assumption | exact up_eq _ _ _ | refine up_ne (by omega) ?_) (by rfl) ?_
      refine gf_P_57 C d_P_nearWorth_17 (by first | assumption | omega) (by repeat' first | assumption | exact up_eq _ _ _ | refine up_ne (by omega) ?_) (by rfl) ?_
      refine g_iload_n C rfl rfl d_P_nearWorth_20 ?_
      refine g_icmp_ge (tgt := 35) C d_P_nearWorth_21 (by decide) (fun j21 => ?_) (fun j21 => ?_)
      · exact absurd j21 hF
      refine g_aload_n C rfl rfl d_P_nearWorth_24 ?_
      refine gf_P_28 C d_P_nearWorth_25 (by first | assumption | omega) (by repeat' first | assumption | exact up_eq _ _ _ | refine up_ne (by omega) ?_) (by rfl) ?_
      refine g_iload_n C rfl rfl d_P_nearWorth_28 ?_
      refine g_callV C (c_R_at lo hkr hR (by omega) (by omega)) Y_R_at m_358 m_359 m_357 rfl rfl ⟨by decide, by decide⟩ ⟨by decide, by decide⟩ (fun h => nomatch h) d_P_nearWorth_29 (by first | assumption | omega) (by repeat' first | assumption | exact up_eq _ _ _ | refine up_ne (by omega) ?_) rfl (Nat.le_of_ble_eq_true rfl) (fun ret sg1 hq => ?_)
      obtain ⟨rfl, rfl⟩ := hq
      refine g_goto (tgt := 42) C d_P_nearWorth_32 (by decide) ?_
      refine g_lstore (lv' := [(5, .long (lN (rt (tx lo)))), (0, .ref (ad o p)), (1, .int (iI lo)), (2, .int (iI hi)), (3, .int (nI L)), (4, .int (bz u))]) C d_P_nearWorth_42 (by decide) rfl ?_
      refine g_lload C rfl d_P_nearWorth_44 ?_
      refine g_aload_n C rfl rfl d_P_nearWorth_46 ?_
      refine gf_P_28 C d_P_nearWorth_47 (by first | assumption | omega) (by repeat' first | assumption | exact up_eq _ _ _ | refine up_ne (by omega) ?_) (by rfl) ?_
      refine g_iload_n C rfl rfl d_P_nearWorth_50 ?_
      refine g_callV C (c_R_at hi hkr hR (by omega) (by omega)) Y_R_at m_358 m_359 m_357 rfl rfl ⟨by decide, by decide⟩ ⟨by decide, by decide⟩ (fun h => nomatch h) d_P_nearWorth_51 (by first | assumption | omega) (by repeat' first | assumption | exact up_eq _ _ _ | refine up_ne (by omega) ?_) rfl (Nat.le_of_ble_eq_true rfl) (fun ret sg1 hq => ?_)
      obtain ⟨rfl, rfl⟩ := hq
      refine g_iload_n C rfl rfl d_P_nearWorth_54 ?_
      refine g_i2l C d_P_nearWorth_55 ?_
      rw [nI_l (by omega)]
      refine g_iload C rfl d_P_nearWorth_56 ?_
      refine g_callS C (c_Q_near u (rt (tx lo)) (rt (tx hi)) L (rt_pos (tx_le (by omega))) (Nat.le_of_lt (rt_lt (tx_lt h1 hlh) (tx_le h4))) (rt_up (tx_le h4)) hL) Y_Q_near m_362 m_361 ⟨by decide, by decide⟩ ⟨by decide, by decide⟩ (fun h => nomatch h) d_P_nearWorth_58 rfl (Nat.le_of_ble_eq_true rfl) (fun ret sg1 hq => ?_)
      obtain ⟨rfl, rfl⟩ := hq
      refine g_lret C E hr d_P_nearWorth_61 ⟨by rw [zWN, if_neg hA, if_pos hD], rfl⟩
    · have hF : iI lo ≤ iI tz := (iI_le (by omega) (by omega) (by omega) (by omega)).mpr (by omega)
      refine g_aload_n C rfl rfl d_P_nearWorth_0 ?_
      refine gf_P_21 C d_P_nearWorth_1 (by first | assumption | omega) (by repeat' first | assumption | exact up_eq _ _ _ | refine up_ne (by omega) ?_) (by rfl) ?_
      refine gf_P_57 C d_P_nearWorth_4 (by first | assumption | omega) (by repeat' first | assumption | exact up_eq _ _ _ | refine up_ne (by omega) ?_) (by rfl) ?_
      refine g_iload_n C rfl rfl d_P_nearWorth_7 ?_
      refine g_icmp_lt (tgt := 13) C d_P_nearWorth_8 (by decide) (fun j8 => ?_) (fun j8 => ?_)
      rotate_left
      · exact absurd hB j8
      refine g_aload_n C rfl rfl d_P_nearWorth_13 ?_
      refine gf_P_21 C d_P_nearWorth_14 (by first | assumption | omega) (by repeat' first | assumption | exact up_eq _ _ _ | refine up_ne (by omega) ?_) (by rfl) ?_
      refine gf_P_57 C d_P_nearWorth_17 (by first | assumption | omega) (by repeat' first | assumption | exact up_eq _ _ _ | refine up_ne (by omega) ?_) (by rfl) ?_
      refine g_iload_n C rfl rfl d_P_nearWorth_20 ?_
      refine g_icmp_ge (tgt := 35) C d_P_nearWorth_21 (by decide) (fun j21 => ?_) (fun j21 => ?_)
      rotate_left
      · exact absurd hF j21
      refine g_aload_n C rfl rfl d_P_nearWorth_35 ?_
      refine gf_P_21 C d_P_nearWorth_36 (by first | assumption | omega) (by repeat' first | assumption | exact up_eq _ _ _ | refine up_ne (by omega) ?_) (by rfl) ?_
      refine gf_P_49 C d_P_nearWorth_39 (by first | assumption | omega) (by repeat' first | assumption | exact up_eq _ _ _ | refine up_ne (by omega) ?_) (by rfl) ?_
      refine g_lstore (lv' := [(5, .long (lN S)), (0, .ref (ad o p)), (1, .int (iI lo)), (2, .int (iI hi)), (3, .int (nI L)), (4, .int (bz u))]) C d_P_nearWorth_42 (by decide) rfl ?_
      refine g_lload C rfl d_P_nearWorth_44 ?_
      refine g_aload_n C rfl rfl d_P_nearWorth_46 ?_
      refine gf_P_28 C d_P_nearWorth_47 (by first | assumption | omega) (by repeat' first | assumption | exact up_eq _ _ _ | refine up_ne (by omega) ?_) (by rfl) ?_
      refine g_iload_n C rfl rfl d_P_nearWorth_50 ?_
      refine g_callV C (c_R_at hi hkr hR (by omega) (by omega)) Y_R_at m_358 m_359 m_357 rfl rfl ⟨by decide, by decide⟩ ⟨by decide, by decide⟩ (fun h => nomatch h) d_P_nearWorth_51 (by first | assumption | omega) (by repeat' first | assumption | exact up_eq _ _ _ | refine up_ne (by omega) ?_) rfl (Nat.le_of_ble_eq_true rfl) (fun ret sg1 hq => ?_)
      obtain ⟨rfl, rfl⟩ := hq
      refine g_iload_n C rfl rfl d_P_nearWorth_54 ?_
      refine g_i2l C d_P_nearWorth_55 ?_
      rw [nI_l (by omega)]
      refine g_iload C rfl d_P_nearWorth_56 ?_
      refine g_callS C (c_Q_near u S (rt (tx hi)) L hS0 (hS1 (by omega) (by omega)) (rt_up (tx_le h4)) hL) Y_Q_near m_362 m_361 ⟨by decide, by decide⟩ ⟨by decide, by decide⟩ (fun h => nomatch h) d_P_nearWorth_58 rfl (Nat.le_of_ble_eq_true rfl) (fun ret sg1 hq => ?_)
      obtain ⟨rfl, rfl⟩ := hq
      refine g_lret C E hr d_P_nearWorth_61 ⟨by rw [zWN, if_neg hA, if_neg hD], rfl⟩
theorem c_P_farWorth {l : Launch} {o n : Nat} {sg : Nat → va_E} {p kr fee kn kt : Nat} {gr ne : Nat → Int32} {S : Nat} {tz : Int} {lq : Int32} {g ou : Nat → Int64} (u : Bool) (L : Nat) (lo hi : Int) (hp : p + 2 < n) (hc : kn + 2 < n) (hkr : kr + 1 < n) (hP : isP sg o p kr fee kn kt gr ne) (hC : isC sg o kn (lN S) tz lq g ou) (hR : isR sg o kr) (h1 : -40 ≤ lo) (hlh : lo < hi) (h4 : hi ≤ 40) (h5 : -41 ≤ tz) (h6 : tz ≤ 40) (hS0 : S < 14706804615) (hS1 : lo ≤ tz → tz < hi → rt (tx lo) ≤ S) (hL : L ≤ 600000000) : GM l y_P_farWorth b_P_farWorth 7 (some .long) 3 64 0 0 o n n sg false [.ref (ad o p), .int (iI lo), .int (iI hi), .int (nI L), .int (bz u)] (gR (some (.long (lN (zWF u L S tz lo hi)))) sg) := by
  obtain ⟨q1, q2, q3⟩ := hP
  have hc1 := hC.1
  have hr1 := hR.1
  refine GM_of (by decide) (Nat.le_of_ble_eq_true rfl) ?_
  intro K C hl hz hr hnm E
  show G K o n sg 0 0 0 [(0, .ref (ad o p)), (1, .int (iI lo)), (2, .int (iI hi)), (3, .int (nI L)), (4, .int (bz u))] []
  by_cases hA : tz < lo
  · have hB : ¬ iI lo ≤ iI tz := fun q => absurd ((iI_le (by omega) (by omega) (by omega) (by omega)).mp q) (by omega)
    refine g_aload_n C rfl rfl d_P_farWorth_0 ?_
    refine gf_P_21 C d_P_farWorth_1 (by first | assumption | omega) (by repeat' first | assumption | exact up_eq _ _ _ | refine up_ne (by omega) ?_) (by rfl) ?_
    refine gf_P_57 C d_P_farWorth_4 (by first | assumption | omega) (by repeat' first | assumption | exact up_eq _ _ _ | refine up_ne (by omega) ?_) (by rfl) ?_
    refine g_iload_n C rfl rfl d_P_farWorth_7 ?_
    refine g_icmp_ge (tgt := 13) C d_P_farWorth_8 (by decide) (fun j8 => ?_) (fun j8 => ?_)
    · exact absurd j8 hB
    refine g_lconst (v := 0) C rfl d_P_farWorth_11 ?_
    refine g_lret C E hr d_P_farWorth_12 ⟨by rw [zWF, if_pos hA]; rfl, rfl⟩
  · have hB : iI lo ≤ iI tz := (iI_le (by omega) (by omega) (by omega) (by omega)).mpr (by omega)
    by_cases hD : hi ≤ tz
    · have hF : ¬ iI tz < iI hi := fun q => absurd ((iI_lt (by omega) (by omega) (by omega) (by omega)).mp q) (by omega)
      refine g_aload_n C rfl rfl d_P_farWorth_0 ?_
      refine gf_P_21 C d_P_farWorth_1 (by first | assumption | omega) (by repeat' first | assumption | exact up_eq _ _ _ | refine up_ne (by omega) ?_) (by rfl) ?_
      refine gf_P_57 C d_P_farWorth_4 (by first | assumption | omega) (by repeat' first | assumption | exact up_eq _ _ _ | refine up_ne (by omega) ?_) (by rfl) ?_
      refine g_iload_n C rfl rfl d_P_farWorth_7 ?_
      refine g_icmp_ge (tgt := 13) C d_P_farWorth_8 (by decide) (fun j8 => ?_) (fun j8 => ?_)
      rotate_left
      · exact absurd hB j8
      refine g_aload_n C rfl rfl d_P_farWorth_13 ?_
      refine gf_P_21 C d_P_farWorth_14 (by first | assumption | omega) (by repeat' first | assumption | exact up_eq _ _ _ | refine up_ne (by omega) ?_) (by rfl) ?_
      refine gf_P_57 C d_P_farWorth_17 (by first | assumption | omega) (by repeat' first | assumption | exact up_eq _ _ _ | refine up_ne (by omega) ?_) (by rfl) ?_
      refine g_iload_n C rfl rfl d_P_farWorth_20 ?_
      refine g_icmp_lt (tgt := 35) C d_P_farWorth_21 (by decide) (fun j21 => ?_) (fun j21 => ?_)
      · exact absurd j21 hF
      refine g_aload_n C rfl rfl d_P_farWorth_24 ?_
      refine gf_P_28 C d_P_farWorth_25 (by first | assumption | omega) (by repeat' first | assumption | exact up_eq _ _ _ | refine up_ne (by omega) ?_) (by rfl) ?_
      refine g_iload_n C rfl rfl d_P_farWorth_28 ?_
      refine g_callV C (c_R_at hi hkr hR (by omega) (by omega)) Y_R_at m_358 m_359 m_357 rfl rfl ⟨by decide, by decide⟩ ⟨by decide, by decide⟩ (fun h => nomatch h) d_P_farWorth_29 (by first | assumption | omega) (by repeat' first | assumption | exact up_eq _ _ _ | refine up_ne (by omega) ?_) rfl (Nat.le_of_ble_eq_true rfl) (fun ret sg1 hq => ?_)
      obtain ⟨rfl, rfl⟩ := hq
      refine g_goto (tgt := 42) C d_P_farWorth_32 (by decide) ?_
      refine g_lstore (lv' := [(5, .long (lN (rt (tx hi)))), (0, .ref (ad o p)), (1, .int (iI lo)), (2, .int (iI hi)), (3, .int (nI L)), (4, .int (bz u))]) C d_P_farWorth_42 (by decide) rfl ?_
      refine g_aload_n C rfl rfl d_P_farWorth_44 ?_
      refine gf_P_28 C d_P_farWorth_45 (by first | assumption | omega) (by repeat' first | assumption | exact up_eq _ _ _ | refine up_ne (by omega) ?_) (by rfl) ?_
      refine g_iload_n C rfl rfl d_P_farWorth_48 ?_
      refine g_callV C (c_R_at lo hkr hR (by omega) (by omega)) Y_R_at m_358 m_359 m_357 rfl rfl ⟨by decide, by decide⟩ ⟨by decide, by decide⟩ (fun h => nomatch h) d_P_farWorth_49 (by first | assumption | omega) (by repeat' first | assumption | exact up_eq _ _ _ | refine up_ne (by omega) ?_) rfl (Nat.le_of_ble_eq_true rfl) (fun ret sg1 hq => ?_)
      obtain ⟨rfl, rfl⟩ := hq
      refine g_lload C rfl d_P_farWorth_52 ?_
      refine g_iload_n C rfl rfl d_P_farWorth_54 ?_
      refine g_i2l C d_P_farWorth_55 ?_
      rw [nI_l (by omega)]
      refine g_iload C rfl d_P_farWorth_56 ?_
      refine g_callS C (c_Q_far u (rt (tx lo)) (rt (tx hi)) L (Nat.le_of_lt (rt_lt (tx_lt h1 hlh) (tx_le h4))) (rt_up (tx_le h4)) hL) Y_Q_far m_375 m_374 ⟨by decide, by decide⟩ ⟨by decide, by decide⟩ (fun h => nomatch h) d_P_farWorth_58 rfl (Nat.le_of_ble_eq_true rfl) (fun ret sg1 hq => ?_)
      obtain ⟨rfl, rfl⟩ := hq
      refine g_lret C E hr d_P_farWorth_61 ⟨by rw [zWF, if_neg hA, if_pos hD], rfl⟩
    · have hF : iI tz < iI hi := (iI_lt (by omega) (by omega) (by omega) (by omega)).mpr (by omega)
      refine g_aload_n C rfl rfl d_P_farWorth_0 ?_
      refine gf_P_21 C d_P_farWorth_1 (by first | assumption | omega) (by repeat' first | assumption | exact up_eq _ _ _ | refine up_ne (by omega) ?_) (by rfl) ?_
      refine gf_P_57 C d_P_farWorth_4 (by first | assumption | omega) (by repeat' first | assumption | exact up_eq _ _ _ | refine up_ne (by omega) ?_) (by rfl) ?_
      refine g_iload_n C rfl rfl d_P_farWorth_7 ?_
      refine g_icmp_ge (tgt := 13) C d_P_farWorth_8 (by decide) (fun j8 => ?_) (fun j8 => ?_)
      rotate_left
      · exact absurd hB j8
      refine g_aload_n C rfl rfl d_P_farWorth_13 ?_
      refine gf_P_21 C d_P_farWorth_14 (by first | assumption | omega) (by repeat' first | assumption | exact up_eq _ _ _ | refine up_ne (by omega) ?_) (by rfl) ?_
      refine gf_P_57 C d_P_farWorth_17 (by first | assumption | omega) (by repeat' first | assumption | exact up_eq _ _ _ | refine up_ne (by omega) ?_) (by rfl) ?_
      refine g_iload_n C rfl rfl d_P_farWorth_20 ?_
      refine g_icmp_lt (tgt := 35) C d_P_farWorth_21 (by decide) (fun j21 => ?_) (fun j21 => ?_)
      rotate_left
      · exact absurd hF j21
      refine g_aload_n C rfl rfl d_P_farWorth_35 ?_
      refine gf_P_21 C d_P_farWorth_36 (by first | assumption | omega) (by repeat' first | assumption | exact up_eq _ _ _ | refine up_ne (by omega) ?_) (by rfl) ?_
      refine gf_P_49 C d_P_farWorth_39 (by first | assumption | omega) (by repeat' first | assumption | exact up_eq _ _ _ | refine up_ne (by omega) ?_) (by rfl) ?_
      refine g_lstore (lv' := [(5, .long (lN S)), (0, .ref (ad o p)), (1, .int (iI lo)), (2, .int (iI hi)), (3, .int (nI L)), (4, .int (bz u))]) C d_P_farWorth_42 (by decide) rfl ?_
      refine g_aload_n C rfl rfl d_P_farWorth_44 ?_
      refine gf_P_28 C d_P_farWorth_45 (by first | assumption | omega) (by repeat' first | assumption | exact up_eq _ _ _ | refine up_ne (by omega) ?_) (by rfl) ?_
      refine g_iload_n C rfl rfl d_P_farWorth_48 ?_
      refine g_callV C (c_R_at lo hkr hR (by omega) (by omega)) Y_R_at m_358 m_359 m_357 rfl rfl ⟨by decide, by decide⟩ ⟨by decide, by decide⟩ (fun h => nomatch h) d_P_farWorth_49 (by first | assumption | omega) (by repeat' first | assumption | exact up_eq _ _ _ | refine up_ne (by omega) ?_) rfl (Nat.le_of_ble_eq_true rfl) (fun ret sg1 hq => ?_)
      obtain ⟨rfl, rfl⟩ := hq
      refine g_lload C rfl d_P_farWorth_52 ?_
      refine g_iload_n C rfl rfl d_P_farWorth_54 ?_
      refine g_i2l C d_P_farWorth_55 ?_
      rw [nI_l (by omega)]
      refine g_iload C rfl d_P_farWorth_56 ?_
      refine g_callS C (c_Q_far u (rt (tx lo)) S L (hS1 (by omega) (by omega)) hS0 hL) Y_Q_far m_375 m_374 ⟨by decide, by decide⟩ ⟨by decide, by decide⟩ (fun h => nomatch h) d_P_farWorth_58 rfl (Nat.le_of_ble_eq_true rfl) (fun ret sg1 hq => ?_)
      obtain ⟨rfl, rfl⟩ := hq
      refine g_lret C E hr d_P_farWorth_61 ⟨by rw [zWF, if_neg hA, if_neg hD], rfl⟩
-- ADDING TO A POSITION
def oSet (gr : Nat → Int32) (tz : Int) (g ou : Nat → Int64) (z : Int) : Nat → Int64 := if gr (tx z) = 0 then ou2 ou z (cSet tz g 0 z) (cSet tz g 1 z) else ou
def oClr (gr : Nat → Int32) (ou : Nat → Int64) (z : Int) : Nat → Int64 := if gr (tx z) = 0 then ou2 ou z 0 0 else ou
def nClr (gr ne : Nat → Int32) (z : Int) : Nat → Int32 := if gr (tx z) = 0 then upd ne (tx z) 0 else ne
theorem up_id {sg : Nat → va_E} {k : Nat} {x : va_E} (h : sg k = x) : va_up sg k x = sg := by
  funext j
  by_cases e : j = k
  · subst e; rw [up_eq, h]
  · exact va_up_ne sg x e
theorem c_P_growGross {l : Launch} {o n : Nat} {sg : Nat → va_E} {p kr fee kn kt : Nat} {gr ne : Nat → Int32} {pr : Int64} {tz : Int} {lq : Int32} {g ou : Nat → Int64} (z : Int) (d : Int32) (hp : p + 2 < n) (hc : kn + 2 < n) (hpk : p + 3 ≤ kn) (hP : isP sg o p kr fee kn kt gr ne) (hC : isC sg o kn pr tz lq g ou) (h3 : -40 ≤ z) (h4 : z ≤ 40) (h5 : -41 ≤ tz) (h6 : tz ≤ 40) : GM l y_P_growGross b_P_growGross 3 none 3 55 0 0 o n n sg false [.ref (ad o p), .int (iI z), .int d] (fun r s => none = r ∧ isP s o p kr fee kn kt (upd gr (tx z) (gr (tx z) + d)) ne ∧ isC s o kn pr tz lq g (oSet gr tz g ou z) ∧ ∀ k, k ≠ p + 1 → k ≠ kn + 2 → s k = sg k) := by
  obtain ⟨q1, q2, q3⟩ := id hP
  obtain ⟨p1, p2, p3⟩ := id hC
  refine GM_of (by decide) (Nat.le_of_ble_eq_true rfl) ?_
  intro K C hl hz hr hnm E
  show G K o n sg 0 0 0 [(0, .ref (ad o p)), (1, .int (iI z)), (2, .int d)] []
  by_cases hA : gr (tx z) = 0
  · have hF : bz (decide (¬ gr (tx z) = 0)) = 0 := by rw [decide_eq_false (fun w => w hA)]; rfl
    refine g_aload_n C rfl rfl d_P_growGross_0 ?_
    refine g_iload_n C rfl rfl d_P_growGross_1 ?_
    refine g_callV C (c_P_isSet z hp hP h3 h4) Y_P_isSet m_410 m_411 m_409 rfl rfl ⟨by decide, by decide⟩ ⟨by decide, by decide⟩ (fun h => nomatch h) d_P_growGross_2 (by first | assumption | omega) (by repeat' first | assumption | exact up_eq _ _ _ | refine up_ne (by omega) ?_) rfl (Nat.le_of_ble_eq_true rfl) (fun ret sg1 hq => ?_)
    obtain ⟨rfl, rfl⟩ := hq
    refine g_if_ne (tgt := 16) C d_P_growGross_5 (by decide) (fun j5 => ?_) (fun j5 => ?_)
    · exact absurd hF j5
    refine g_aload_n C rfl rfl d_P_growGross_8 ?_
    refine gf_P_21 C d_P_growGross_9 (by first | assumption | omega) (by repeat' first | assumption | exact up_eq _ _ _ | refine up_ne (by omega) ?_) (by rfl) ?_
    refine g_iload_n C rfl rfl d_P_growGross_12 ?_
    refine g_callV C (c_C_setOutsides z hc hC h3 h4 h5 h6) Y_C_setOutsides m_414 m_415 m_413 rfl rfl ⟨by decide, by decide⟩ ⟨by decide, by decide⟩ (fun h => nomatch h) d_P_growGross_13 (by first | assumption | omega) (by repeat' first | assumption | exact up_eq _ _ _ | refine up_ne (by omega) ?_) rfl (Nat.le_of_ble_eq_true rfl) (fun ret sg1 hq => ?_)
    obtain ⟨rfl, rfl⟩ := hq
    refine g_aload_n C rfl rfl d_P_growGross_16 ?_
    refine gf_P_9 C d_P_growGross_17 (by first | assumption | omega) (by repeat' first | assumption | exact up_eq _ _ _ | refine up_ne (by omega) ?_) (by rfl) ?_
    refine g_iload_n C rfl rfl d_P_growGross_20 ?_
    refine g_bipush (v := -40) C rfl d_P_growGross_21 ?_
    refine g_isub C d_P_growGross_23 ?_
    rw [iI_m40]
    refine g_dup2 C rfl rfl d_P_growGross_24 ?_
    refine g_iald C d_P_growGross_25 (by first | assumption | omega) (by repeat' first | assumption | exact up_eq _ _ _ | refine up_ne (by omega) ?_) (tx_in h3 h4) ?_
    refine g_iload_n C rfl rfl d_P_growGross_26 ?_
    refine g_iadd C d_P_growGross_27 ?_
    refine g_iast C d_P_growGross_28 (by first | assumption | omega) (by repeat' first | assumption | exact up_eq _ _ _ | refine up_ne (by omega) ?_) (tx_in h3 h4) ?_
    rw [tx_cl h3 h4]
    refine g_vret C E hr d_P_growGross_29 ⟨rfl, ⟨(by repeat' first | assumption | exact up_eq _ _ _ | refine up_ne (by omega) ?_), (by repeat' first | assumption | exact up_eq _ _ _ | refine up_ne (by omega) ?_), (by repeat' first | assumption | exact up_eq _ _ _ | refine up_ne (by omega) ?_)⟩, ⟨(by repeat' first | assumption | exact up_eq _ _ _ | refine up_ne (by omega) ?_), (by repeat' first | assumption | exact up_eq _ _ _ | refine up_ne (by omega) ?_), by rw [oSet, if_pos hA]; exact (by repeat' first | assumption | exact up_eq _ _ _ | refine up_ne (by omega) ?_)⟩, fun k h1 h2 => by repeat' first | rfl | refine up_ne (by omega) ?_⟩
  · have hF : ¬ bz (decide (¬ gr (tx z) = 0)) = 0 := by rw [decide_eq_true hA]; decide
    refine g_aload_n C rfl rfl d_P_growGross_0 ?_
    refine g_iload_n C rfl rfl d_P_growGross_1 ?_
    refine g_callV C (c_P_isSet z hp hP h3 h4) Y_P_isSet m_410 m_411 m_409 rfl rfl ⟨by decide, by decide⟩ ⟨by decide, by decide⟩ (fun h => nomatch h) d_P_growGross_2 (by first | assumption | omega) (by repeat' first | assumption | exact up_eq _ _ _ | refine up_ne (by omega) ?_) rfl (Nat.le_of_ble_eq_true rfl) (fun ret sg1 hq => ?_)
    obtain ⟨rfl, rfl⟩ := hq
    refine g_if_ne (tgt := 16) C d_P_growGross_5 (by decide) (fun j5 => ?_) (fun j5 => ?_)
    rotate_left
    · exact absurd j5 hF
    refine g_aload_n C rfl rfl d_P_growGross_16 ?_
    refine gf_P_9 C d_P_growGross_17 (by first | assumption | omega) (by repeat' first | assumption | exact up_eq _ _ _ | refine up_ne (by omega) ?_) (by rfl) ?_
    refine g_iload_n C rfl rfl d_P_growGross_20 ?_
    refine g_bipush (v := -40) C rfl d_P_growGross_21 ?_
    refine g_isub C d_P_growGross_23 ?_
    rw [iI_m40]
    refine g_dup2 C rfl rfl d_P_growGross_24 ?_
    refine g_iald C d_P_growGross_25 (by first | assumption | omega) (by repeat' first | assumption | exact up_eq _ _ _ | refine up_ne (by omega) ?_) (tx_in h3 h4) ?_
    refine g_iload_n C rfl rfl d_P_growGross_26 ?_
    refine g_iadd C d_P_growGross_27 ?_
    refine g_iast C d_P_growGross_28 (by first | assumption | omega) (by repeat' first | assumption | exact up_eq _ _ _ | refine up_ne (by omega) ?_) (tx_in h3 h4) ?_
    rw [tx_cl h3 h4]
    refine g_vret C E hr d_P_growGross_29 ⟨rfl, ⟨(by repeat' first | assumption | exact up_eq _ _ _ | refine up_ne (by omega) ?_), (by repeat' first | assumption | exact up_eq _ _ _ | refine up_ne (by omega) ?_), (by repeat' first | assumption | exact up_eq _ _ _ | refine up_ne (by omega) ?_)⟩, ⟨(by repeat' first | assumption | exact up_eq _ _ _ | refine up_ne (by omega) ?_), (by repeat' first | assumption | exact up_eq _ _ _ | refine up_ne (by omega) ?_), by rw [oSet, if_neg hA]; exact (by repeat' first | assumption | exact up_eq _ _ _ | refine up_ne (by omega) ?_)⟩, fun k h1 h2 => by repeat' first | rfl | refine up_ne (by omega) ?_⟩
theorem c_P_clearIfUnset {l : Launch} {o n : Nat} {sg : Nat → va_E} {p kr fee kn kt : Nat} {gr ne : Nat → Int32} {pr : Int64} {tz : Int} {lq : Int32} {g ou : Nat → Int64} (z : Int) (hp : p + 2 < n) (hc : kn + 2 < n) (hpk : p + 3 ≤ kn) (hP : isP sg o p kr fee kn kt gr ne) (hC : isC sg o kn pr tz lq g ou) (h3 : -40 ≤ z) (h4 : z ≤ 40) : GM l y_P_clearIfUnset b_P_clearIfUnset 2 none 3 55 0 0 o n n sg false [.ref (ad o p), .int (iI z)] (fun r s => none = r ∧ isP s o p kr fee kn kt gr (nClr gr ne z) ∧ isC s o kn pr tz lq g (oClr gr ou z) ∧ ∀ k, k ≠ p + 2 → k ≠ kn + 2 → s k = sg k) := by
  obtain ⟨q1, q2, q3⟩ := id hP
  obtain ⟨p1, p2, p3⟩ := id hC
  refine GM_of (by decide) (Nat.le_of_ble_eq_true rfl) ?_
  intro K C hl hz hr hnm E
  show G K o n sg 0 0 0 [(0, .ref (ad o p)), (1, .int (iI z))] []
  by_cases hA : gr (tx z) = 0
  · have hF : bz (decide (¬ gr (tx z) = 0)) = 0 := by rw [decide_eq_false (fun w => w hA)]; rfl
    refine g_aload_n C rfl rfl d_P_clearIfUnset_0 ?_
    refine g_iload_n C rfl rfl d_P_clearIfUnset_1 ?_
    refine g_callV C (c_P_isSet z hp hP h3 h4) Y_P_isSet m_410 m_411 m_409 rfl rfl ⟨by decide, by decide⟩ ⟨by decide, by decide⟩ (fun h => nomatch h) d_P_clearIfUnset_2 (by first | assumption | omega) (by repeat' first | assumption | exact up_eq _ _ _ | refine up_ne (by omega) ?_) rfl (Nat.le_of_ble_eq_true rfl) (fun ret sg1 hq => ?_)
    obtain ⟨rfl, rfl⟩ := hq
    refine g_if_ne (tgt := 26) C d_P_clearIfUnset_5 (by decide) (fun j5 => ?_) (fun j5 => ?_)
    · exact absurd hF j5
    refine g_aload_n C rfl rfl d_P_clearIfUnset_8 ?_
    refine gf_P_21 C d_P_clearIfUnset_9 (by first | assumption | omega) (by repeat' first | assumption | exact up_eq _ _ _ | refine up_ne (by omega) ?_) (by rfl) ?_
    refine g_iload_n C rfl rfl d_P_clearIfUnset_12 ?_
    refine g_callV C (c_C_clearOutsides z hc hC h3 h4) Y_C_clearOutsides m_446 m_447 m_445 rfl rfl ⟨by decide, by decide⟩ ⟨by decide, by decide⟩ (fun h => nomatch h) d_P_clearIfUnset_13 (by first | assumption | omega) (by repeat' first | assumption | exact up_eq _ _ _ | refine up_ne (by omega) ?_) rfl (Nat.le_of_ble_eq_true rfl) (fun ret sg1 hq => ?_)
    obtain ⟨rfl, rfl⟩ := hq
    refine g_aload_n C rfl rfl d_P_clearIfUnset_16 ?_
    refine gf_P_15 C d_P_clearIfUnset_17 (by first | assumption | omega) (by repeat' first | assumption | exact up_eq _ _ _ | refine up_ne (by omega) ?_) (by rfl) ?_
    refine g_iload_n C rfl rfl d_P_clearIfUnset_20 ?_
    refine g_bipush (v := -40) C rfl d_P_clearIfUnset_21 ?_
    refine g_isub C d_P_clearIfUnset_23 ?_
    rw [iI_m40]
    refine g_iconst (v := 0) C rfl d_P_clearIfUnset_24 ?_
    refine g_iast C d_P_clearIfUnset_25 (by first | assumption | omega) (by repeat' first | assumption | exact up_eq _ _ _ | refine up_ne (by omega) ?_) (tx_in h3 h4) ?_
    rw [tx_cl h3 h4]
    refine g_vret C E hr d_P_clearIfUnset_26 ⟨rfl, ⟨(by repeat' first | assumption | exact up_eq _ _ _ | refine up_ne (by omega) ?_), (by repeat' first | assumption | exact up_eq _ _ _ | refine up_ne (by omega) ?_), by rw [nClr, if_pos hA]; exact (by repeat' first | assumption | exact up_eq _ _ _ | refine up_ne (by omega) ?_)⟩, ⟨(by repeat' first | assumption | exact up_eq _ _ _ | refine up_ne (by omega) ?_), (by repeat' first | assumption | exact up_eq _ _ _ | refine up_ne (by omega) ?_), by rw [oClr, if_pos hA]; exact (by repeat' first | assumption | exact up_eq _ _ _ | refine up_ne (by omega) ?_)⟩, fun k h1 h2 => by repeat' first | rfl | refine up_ne (by omega) ?_⟩
  · have hF : ¬ bz (decide (¬ gr (tx z) = 0)) = 0 := by rw [decide_eq_true hA]; decide
    refine g_aload_n C rfl rfl d_P_clearIfUnset_0 ?_
    refine g_iload_n C rfl rfl d_P_clearIfUnset_1 ?_
    refine g_callV C (c_P_isSet z hp hP h3 h4) Y_P_isSet m_410 m_411 m_409 rfl rfl ⟨by decide, by decide⟩ ⟨by decide, by decide⟩ (fun h => nomatch h) d_P_clearIfUnset_2 (by first | assumption | omega) (by repeat' first | assumption | exact up_eq _ _ _ | refine up_ne (by omega) ?_) rfl (Nat.le_of_ble_eq_true rfl) (fun ret sg1 hq => ?_)
    obtain ⟨rfl, rfl⟩ := hq
    refine g_if_ne (tgt := 26) C d_P_clearIfUnset_5 (by decide) (fun j5 => ?_) (fun j5 => ?_)
    rotate_left
    · exact absurd j5 hF
    refine g_vret C E hr d_P_clearIfUnset_26 ⟨rfl, ⟨q1, q2, by rw [nClr, if_neg hA]; exact q3⟩, ⟨p1, p2, by rw [oClr, if_neg hA]; exact p3⟩, fun k h1 h2 => rfl⟩

