-- COURSES: WHAT IS WRITTEN
def cSet (tz : Int) (g : Nat → Int64) (s : Nat) (z : Int) : Int64 := if tz < z then 0 else g s
def ou2 (ou : Nat → Int64) (z : Int) (a b : Int64) : Nat → Int64 := vp_updL (vp_updL ou (sl 0 z) a) (sl 1 z) b
theorem sl01 (z : Int) (h3 : -40 ≤ z) (h4 : z ≤ 40) : sl 1 z ≠ sl 0 z := by unfold sl; omega
theorem c_C_setOutsides {l : Launch} {o n : Nat} {sg : Nat → va_E} {c : Nat} {pr : Int64} {tz : Int} {lq : Int32} {g ou : Nat → Int64} (z : Int) (hc : c + 2 < n) (hC : isC sg o c pr tz lq g ou) (h3 : -40 ≤ z) (h4 : z ≤ 40) (h5 : -41 ≤ tz) (h6 : tz ≤ 40) : GM l y_C_setOutsides b_C_setOutsides 3 none 2 33 0 0 o n n sg false [.ref (ad o c), .int (iI z)] (gR none (va_up sg (c + 2) (eJ 162 (ou2 ou z (cSet tz g 0 z) (cSet tz g 1 z))))) := by
  obtain ⟨q1, q2, q3⟩ := hC
  refine GM_of (by decide) (Nat.le_of_ble_eq_true rfl) ?_
  intro K C hl hz hr hnm E
  show G K o n sg 0 0 0 [(0, .ref (ad o c)), (1, .int (iI z))] []
  by_cases hA : tz < z
  · have hB : iI tz < iI z := (iI_lt (by omega) (by omega) (by omega) (by omega)).mpr hA
    refine g_iconst (v := 0) C rfl d_C_setOutsides_0 ?_
    refine g_istore_n (lv' := [(2, .int 0), (0, .ref (ad o c)), (1, .int (iI z))]) C d_C_setOutsides_1 rfl (by decide) rfl ?_
    refine g_iload_n C rfl rfl d_C_setOutsides_2 ?_
    refine g_iconst (v := 2) C rfl d_C_setOutsides_3 ?_
    refine g_icmp_ge (tgt := 41) C d_C_setOutsides_4 (by decide) (fun j4 => ?_) (fun j4 => ?_)
    · exact absurd j4 (by decide)
    refine g_aload_n C rfl rfl d_C_setOutsides_7 ?_
    refine gf_C_28 C d_C_setOutsides_8 (by first | assumption | omega) (by repeat' first | assumption | exact up_eq _ _ _ | refine up_ne (by omega) ?_) (by rfl) ?_
    refine g_iload_n C rfl rfl d_C_setOutsides_11 ?_
    refine g_iload_n C rfl rfl d_C_setOutsides_12 ?_
    refine g_callS C (c_C_slot 0 z) Y_C_slot m_418 m_417 ⟨by decide, by decide⟩ ⟨by decide, by decide⟩ (fun h => nomatch h) d_C_setOutsides_13 rfl (Nat.le_of_ble_eq_true rfl) (fun ret sg1 hq => ?_)
    obtain ⟨rfl, rfl⟩ := hq
    refine g_aload_n C rfl rfl d_C_setOutsides_16 ?_
    refine gf_C_17 C d_C_setOutsides_17 (by first | assumption | omega) (by repeat' first | assumption | exact up_eq _ _ _ | refine up_ne (by omega) ?_) (by rfl) ?_
    refine g_iload_n C rfl rfl d_C_setOutsides_20 ?_
    refine g_icmp_lt (tgt := 33) C d_C_setOutsides_21 (by decide) (fun j21 => ?_) (fun j21 => ?_)
    rotate_left
    · exact absurd hB j21
    refine g_lconst (v := 0) C rfl d_C_setOutsides_33 ?_
    refine g_last C d_C_setOutsides_34 (by first | assumption | omega) (by repeat' first | assumption | exact up_eq _ _ _ | refine up_ne (by omega) ?_) (sl_in (s := 0) (by decide) h3 h4) ?_
    refine g_iinc (lv' := [(2, .int 1), (0, .ref (ad o c)), (1, .int (iI z))]) C d_C_setOutsides_35 rfl (by decide) (by decide) rfl ?_
    refine g_goto (tgt := 2) C d_C_setOutsides_38 (by decide) ?_
    refine g_iload_n C rfl rfl d_C_setOutsides_2 ?_
    refine g_iconst (v := 2) C rfl d_C_setOutsides_3 ?_
    refine g_icmp_ge (tgt := 41) C d_C_setOutsides_4 (by decide) (fun j4_2 => ?_) (fun j4_2 => ?_)
    · exact absurd j4_2 (by decide)
    refine g_aload_n C rfl rfl d_C_setOutsides_7 ?_
    refine gf_C_28 C d_C_setOutsides_8 (by first | assumption | omega) (by repeat' first | assumption | exact up_eq _ _ _ | refine up_ne (by omega) ?_) (by rfl) ?_
    refine g_iload_n C rfl rfl d_C_setOutsides_11 ?_
    refine g_iload_n C rfl rfl d_C_setOutsides_12 ?_
    refine g_callS C (c_C_slot 1 z) Y_C_slot m_418 m_417 ⟨by decide, by decide⟩ ⟨by decide, by decide⟩ (fun h => nomatch h) d_C_setOutsides_13 rfl (Nat.le_of_ble_eq_true rfl) (fun ret sg1 hq => ?_)
    obtain ⟨rfl, rfl⟩ := hq
    refine g_aload_n C rfl rfl d_C_setOutsides_16 ?_
    refine gf_C_17 C d_C_setOutsides_17 (by first | assumption | omega) (by repeat' first | assumption | exact up_eq _ _ _ | refine up_ne (by omega) ?_) (by rfl) ?_
    refine g_iload_n C rfl rfl d_C_setOutsides_20 ?_
    refine g_icmp_lt (tgt := 33) C d_C_setOutsides_21 (by decide) (fun j21_2 => ?_) (fun j21_2 => ?_)
    rotate_left
    · exact absurd hB j21_2
    refine g_lconst (v := 0) C rfl d_C_setOutsides_33 ?_
    refine g_last C d_C_setOutsides_34 (by first | assumption | omega) (by repeat' first | assumption | exact up_eq _ _ _ | refine up_ne (by omega) ?_) (sl_in (s := 1) (by decide) h3 h4) ?_
    refine g_iinc (lv' := [(2, .int 2), (0, .ref (ad o c)), (1, .int (iI z))]) C d_C_setOutsides_35 rfl (by decide) (by decide) rfl ?_
    refine g_goto (tgt := 2) C d_C_setOutsides_38 (by decide) ?_
    refine g_iload_n C rfl rfl d_C_setOutsides_2 ?_
    refine g_iconst (v := 2) C rfl d_C_setOutsides_3 ?_
    refine g_icmp_ge (tgt := 41) C d_C_setOutsides_4 (by decide) (fun j4_3 => ?_) (fun j4_3 => ?_)
    rotate_left
    · exact absurd (by decide) j4_3
    refine g_vret C E hr d_C_setOutsides_41 ?_
    refine ⟨rfl, ?_⟩
    rw [bx_uu, sl_cl (s := 0) (by decide) h3 h4, sl_cl (s := 1) (by decide) h3 h4]
    simp only [ou2, cSet, if_pos hA]
  · have hB : ¬ iI tz < iI z := fun q => hA ((iI_lt (by omega) (by omega) (by omega) (by omega)).mp q)
    refine g_iconst (v := 0) C rfl d_C_setOutsides_0 ?_
    refine g_istore_n (lv' := [(2, .int 0), (0, .ref (ad o c)), (1, .int (iI z))]) C d_C_setOutsides_1 rfl (by decide) rfl ?_
    refine g_iload_n C rfl rfl d_C_setOutsides_2 ?_
    refine g_iconst (v := 2) C rfl d_C_setOutsides_3 ?_
    refine g_icmp_ge (tgt := 41) C d_C_setOutsides_4 (by decide) (fun j4 => ?_) (fun j4 => ?_)
    · exact absurd j4 (by decide)
    refine g_aload_n C rfl rfl d_C_setOutsides_7 ?_
    refine gf_C_28 C d_C_setOutsides_8 (by first | assumption | omega) (by repeat' first | assumption | exact up_eq _ _ _ | refine up_ne (by omega) ?_) (by rfl) ?_
    refine g_iload_n C rfl rfl d_C_setOutsides_11 ?_
    refine g_iload_n C rfl rfl d_C_setOutsides_12 ?_
    refine g_callS C (c_C_slot 0 z) Y_C_slot m_418 m_417 ⟨by decide, by decide⟩ ⟨by decide, by decide⟩ (fun h => nomatch h) d_C_setOutsides_13 rfl (Nat.le_of_ble_eq_true rfl) (fun ret sg1 hq => ?_)
    obtain ⟨rfl, rfl⟩ := hq
    refine g_aload_n C rfl rfl d_C_setOutsides_16 ?_
    refine gf_C_17 C d_C_setOutsides_17 (by first | assumption | omega) (by repeat' first | assumption | exact up_eq _ _ _ | refine up_ne (by omega) ?_) (by rfl) ?_
    refine g_iload_n C rfl rfl d_C_setOutsides_20 ?_
    refine g_icmp_lt (tgt := 33) C d_C_setOutsides_21 (by decide) (fun j21 => ?_) (fun j21 => ?_)
    · exact absurd j21 hB
    refine g_aload_n C rfl rfl d_C_setOutsides_24 ?_
    refine gf_C_24 C d_C_setOutsides_25 (by first | assumption | omega) (by repeat' first | assumption | exact up_eq _ _ _ | refine up_ne (by omega) ?_) (by rfl) ?_
    refine g_iload_n C rfl rfl d_C_setOutsides_28 ?_
    refine g_lald C d_C_setOutsides_29 (by first | assumption | omega) (by repeat' first | assumption | exact up_eq _ _ _ | refine up_ne (by omega) ?_) (by first | assumption | (unfold vp_in; decide)) ?_
    refine g_goto (tgt := 34) C d_C_setOutsides_30 (by decide) ?_
    refine g_last C d_C_setOutsides_34 (by first | assumption | omega) (by repeat' first | assumption | exact up_eq _ _ _ | refine up_ne (by omega) ?_) (sl_in (s := 0) (by decide) h3 h4) ?_
    refine g_iinc (lv' := [(2, .int 1), (0, .ref (ad o c)), (1, .int (iI z))]) C d_C_setOutsides_35 rfl (by decide) (by decide) rfl ?_
    refine g_goto (tgt := 2) C d_C_setOutsides_38 (by decide) ?_
    refine g_iload_n C rfl rfl d_C_setOutsides_2 ?_
    refine g_iconst (v := 2) C rfl d_C_setOutsides_3 ?_
    refine g_icmp_ge (tgt := 41) C d_C_setOutsides_4 (by decide) (fun j4_2 => ?_) (fun j4_2 => ?_)
    · exact absurd j4_2 (by decide)
    refine g_aload_n C rfl rfl d_C_setOutsides_7 ?_
    refine gf_C_28 C d_C_setOutsides_8 (by first | assumption | omega) (by repeat' first | assumption | exact up_eq _ _ _ | refine up_ne (by omega) ?_) (by rfl) ?_
    refine g_iload_n C rfl rfl d_C_setOutsides_11 ?_
    refine g_iload_n C rfl rfl d_C_setOutsides_12 ?_
    refine g_callS C (c_C_slot 1 z) Y_C_slot m_418 m_417 ⟨by decide, by decide⟩ ⟨by decide, by decide⟩ (fun h => nomatch h) d_C_setOutsides_13 rfl (Nat.le_of_ble_eq_true rfl) (fun ret sg1 hq => ?_)
    obtain ⟨rfl, rfl⟩ := hq
    refine g_aload_n C rfl rfl d_C_setOutsides_16 ?_
    refine gf_C_17 C d_C_setOutsides_17 (by first | assumption | omega) (by repeat' first | assumption | exact up_eq _ _ _ | refine up_ne (by omega) ?_) (by rfl) ?_
    refine g_iload_n C rfl rfl d_C_setOutsides_20 ?_
    refine g_icmp_lt (tgt := 33) C d_C_setOutsides_21 (by decide) (fun j21_2 => ?_) (fun j21_2 => ?_)
    · exact absurd j21_2 hB
    refine g_aload_n C rfl rfl d_C_setOutsides_24 ?_
    refine gf_C_24 C d_C_setOutsides_25 (by first | assumption | omega) (by repeat' first | assumption | exact up_eq _ _ _ | refine up_ne (by omega) ?_) (by rfl) ?_
    refine g_iload_n C rfl rfl d_C_setOutsides_28 ?_
    refine g_lald C d_C_setOutsides_29 (by first | assumption | omega) (by repeat' first | assumption | exact up_eq _ _ _ | refine up_ne (by omega) ?_) (by first | assumption | (unfold vp_in; decide)) ?_
    refine g_goto (tgt := 34) C d_C_setOutsides_30 (by decide) ?_
    refine g_last C d_C_setOutsides_34 (by first | assumption | omega) (by repeat' first | assumption | exact up_eq _ _ _ | refine up_ne (by omega) ?_) (sl_in (s := 1) (by decide) h3 h4) ?_
    refine g_iinc (lv' := [(2, .int 2), (0, .ref (ad o c)), (1, .int (iI z))]) C d_C_setOutsides_35 rfl (by decide) (by decide) rfl ?_
    refine g_goto (tgt := 2) C d_C_setOutsides_38 (by decide) ?_
    refine g_iload_n C rfl rfl d_C_setOutsides_2 ?_
    refine g_iconst (v := 2) C rfl d_C_setOutsides_3 ?_
    refine g_icmp_ge (tgt := 41) C d_C_setOutsides_4 (by decide) (fun j4_3 => ?_) (fun j4_3 => ?_)
    rotate_left
    · exact absurd (by decide) j4_3
    refine g_vret C E hr d_C_setOutsides_41 ?_
    refine ⟨rfl, ?_⟩
    rw [bx_uu, sl_cl (s := 0) (by decide) h3 h4, sl_cl (s := 1) (by decide) h3 h4]
    simp only [ou2, cSet, if_neg hA]
    rfl
theorem c_C_clearOutsides {l : Launch} {o n : Nat} {sg : Nat → va_E} {c : Nat} {pr : Int64} {tz : Int} {lq : Int32} {g ou : Nat → Int64} (z : Int) (hc : c + 2 < n) (hC : isC sg o c pr tz lq g ou) (h3 : -40 ≤ z) (h4 : z ≤ 40) : GM l y_C_clearOutsides b_C_clearOutsides 3 none 2 33 0 0 o n n sg false [.ref (ad o c), .int (iI z)] (gR none (va_up sg (c + 2) (eJ 162 (ou2 ou z 0 0)))) := by
  obtain ⟨q1, q2, q3⟩ := hC
  refine GM_of (by decide) (Nat.le_of_ble_eq_true rfl) ?_
  intro K C hl hz hr hnm E
  show G K o n sg 0 0 0 [(0, .ref (ad o c)), (1, .int (iI z))] []
  refine g_iconst (v := 0) C rfl d_C_clearOutsides_0 ?_
  refine g_istore_n (lv' := [(2, .int 0), (0, .ref (ad o c)), (1, .int (iI z))]) C d_C_clearOutsides_1 rfl (by decide) rfl ?_
  refine g_iload_n C rfl rfl d_C_clearOutsides_2 ?_
  refine g_iconst (v := 2) C rfl d_C_clearOutsides_3 ?_
  refine g_icmp_ge (tgt := 24) C d_C_clearOutsides_4 (by decide) (fun j4 => ?_) (fun j4 => ?_)
  · exact absurd j4 (by decide)
  refine g_aload_n C rfl rfl d_C_clearOutsides_7 ?_
  refine gf_C_28 C d_C_clearOutsides_8 (by first | assumption | omega) (by repeat' first | assumption | exact up_eq _ _ _ | refine up_ne (by omega) ?_) (by rfl) ?_
  refine g_iload_n C rfl rfl d_C_clearOutsides_11 ?_
  refine g_iload_n C rfl rfl d_C_clearOutsides_12 ?_
  refine g_callS C (c_C_slot 0 z) Y_C_slot m_418 m_417 ⟨by decide, by decide⟩ ⟨by decide, by decide⟩ (fun h => nomatch h) d_C_clearOutsides_13 rfl (Nat.le_of_ble_eq_true rfl) (fun ret sg1 hq => ?_)
  obtain ⟨rfl, rfl⟩ := hq
  refine g_lconst (v := 0) C rfl d_C_clearOutsides_16 ?_
  refine g_last C d_C_clearOutsides_17 (by first | assumption | omega) (by repeat' first | assumption | exact up_eq _ _ _ | refine up_ne (by omega) ?_) (sl_in (s := 0) (by decide) h3 h4) ?_
  refine g_iinc (lv' := [(2, .int 1), (0, .ref (ad o c)), (1, .int (iI z))]) C d_C_clearOutsides_18 rfl (by decide) (by decide) rfl ?_
  refine g_goto (tgt := 2) C d_C_clearOutsides_21 (by decide) ?_
  refine g_iload_n C rfl rfl d_C_clearOutsides_2 ?_
  refine g_iconst (v := 2) C rfl d_C_clearOutsides_3 ?_
  refine g_icmp_ge (tgt := 24) C d_C_clearOutsides_4 (by decide) (fun j4_2 => ?_) (fun j4_2 => ?_)
  · exact absurd j4_2 (by decide)
  refine g_aload_n C rfl rfl d_C_clearOutsides_7 ?_
  refine gf_C_28 C d_C_clearOutsides_8 (by first | assumption | omega) (by repeat' first | assumption | exact up_eq _ _ _ | refine up_ne (by omega) ?_) (by rfl) ?_
  refine g_iload_n C rfl rfl d_C_clearOutsides_11 ?_
  refine g_iload_n C rfl rfl d_C_clearOutsides_12 ?_
  refine g_callS C (c_C_slot 1 z) Y_C_slot m_418 m_417 ⟨by decide, by decide⟩ ⟨by decide, by decide⟩ (fun h => nomatch h) d_C_clearOutsides_13 rfl (Nat.le_of_ble_eq_true rfl) (fun ret sg1 hq => ?_)
  obtain ⟨rfl, rfl⟩ := hq
  refine g_lconst (v := 0) C rfl d_C_clearOutsides_16 ?_
  refine g_last C d_C_clearOutsides_17 (by first | assumption | omega) (by repeat' first | assumption | exact up_eq _ _ _ | refine up_ne (by omega) ?_) (sl_in (s := 1) (by decide) h3 h4) ?_
  refine g_iinc (lv' := [(2, .int 2), (0, .ref (ad o c)), (1, .int (iI z))]) C d_C_clearOutsides_18 rfl (by decide) (by decide) rfl ?_
  refine g_goto (tgt := 2) C d_C_clearOutsides_21 (by decide) ?_
  refine g_iload_n C rfl rfl d_C_clearOutsides_2 ?_
  refine g_iconst (v := 2) C rfl d_C_clearOutsides_3 ?_
  refine g_icmp_ge (tgt := 24) C d_C_clearOutsides_4 (by decide) (fun j4_3 => ?_) (fun j4_3 => ?_)
  rotate_left
  · exact absurd (by decide) j4_3
  refine g_vret C E hr d_C_clearOutsides_24 ?_
  refine ⟨rfl, ?_⟩
  rw [bx_uu, sl_cl (s := 0) (by decide) h3 h4, sl_cl (s := 1) (by decide) h3 h4]
  rfl
theorem c_C_turnOutsides {l : Launch} {o n : Nat} {sg : Nat → va_E} {c : Nat} {pr : Int64} {tz : Int} {lq : Int32} {g ou : Nat → Int64} (z : Int) (hc : c + 2 < n) (hC : isC sg o c pr tz lq g ou) (h3 : -40 ≤ z) (h4 : z ≤ 40) : GM l y_C_turnOutsides b_C_turnOutsides 3 none 2 33 0 0 o n n sg false [.ref (ad o c), .int (iI z)] (gR none (va_up sg (c + 2) (eJ 162 (ou2 ou z (g 0 - ou (sl 0 z)) (g 1 - ou (sl 1 z)))))) := by
  obtain ⟨q1, q2, q3⟩ := hC
  refine GM_of (by decide) (Nat.le_of_ble_eq_true rfl) ?_
  intro K C hl hz hr hnm E
  show G K o n sg 0 0 0 [(0, .ref (ad o c)), (1, .int (iI z))] []
  refine g_iconst (v := 0) C rfl d_C_turnOutsides_0 ?_
  refine g_istore_n (lv' := [(2, .int 0), (0, .ref (ad o c)), (1, .int (iI z))]) C d_C_turnOutsides_1 rfl (by decide) rfl ?_
  refine g_iload_n C rfl rfl d_C_turnOutsides_2 ?_
  refine g_iconst (v := 2) C rfl d_C_turnOutsides_3 ?_
  refine g_icmp_ge (tgt := 40) C d_C_turnOutsides_4 (by decide) (fun j4 => ?_) (fun j4 => ?_)
  · exact absurd j4 (by decide)
  refine g_aload_n C rfl rfl d_C_turnOutsides_7 ?_
  refine gf_C_28 C d_C_turnOutsides_8 (by first | assumption | omega) (by repeat' first | assumption | exact up_eq _ _ _ | refine up_ne (by omega) ?_) (by rfl) ?_
  refine g_iload_n C rfl rfl d_C_turnOutsides_11 ?_
  refine g_iload_n C rfl rfl d_C_turnOutsides_12 ?_
  refine g_callS C (c_C_slot 0 z) Y_C_slot m_418 m_417 ⟨by decide, by decide⟩ ⟨by decide, by decide⟩ (fun h => nomatch h) d_C_turnOutsides_13 rfl (Nat.le_of_ble_eq_true rfl) (fun ret sg1 hq => ?_)
  obtain ⟨rfl, rfl⟩ := hq
  refine g_aload_n C rfl rfl d_C_turnOutsides_16 ?_
  refine gf_C_24 C d_C_turnOutsides_17 (by first | assumption | omega) (by repeat' first | assumption | exact up_eq _ _ _ | refine up_ne (by omega) ?_) (by rfl) ?_
  refine g_iload_n C rfl rfl d_C_turnOutsides_20 ?_
  refine g_lald C d_C_turnOutsides_21 (by first | assumption | omega) (by repeat' first | assumption | exact up_eq _ _ _ | refine up_ne (by omega) ?_) (by first | assumption | (unfold vp_in; decide)) ?_
  refine g_aload_n C rfl rfl d_C_turnOutsides_22 ?_
  refine gf_C_28 C d_C_turnOutsides_23 (by first | assumption | omega) (by repeat' first | assumption | exact up_eq _ _ _ | refine up_ne (by omega) ?_) (by rfl) ?_
  refine g_iload_n C rfl rfl d_C_turnOutsides_26 ?_
  refine g_iload_n C rfl rfl d_C_turnOutsides_27 ?_
  refine g_callS C (c_C_slot 0 z) Y_C_slot m_418 m_417 ⟨by decide, by decide⟩ ⟨by decide, by decide⟩ (fun h => nomatch h) d_C_turnOutsides_28 rfl (Nat.le_of_ble_eq_true rfl) (fun ret sg1 hq => ?_)
  obtain ⟨rfl, rfl⟩ := hq
  refine g_lald C d_C_turnOutsides_31 (by first | assumption | omega) (by repeat' first | assumption | exact up_eq _ _ _ | refine up_ne (by omega) ?_) (sl_in (s := 0) (by decide) h3 h4) ?_
  refine g_lsub C d_C_turnOutsides_32 ?_
  refine g_last C d_C_turnOutsides_33 (by first | assumption | omega) (by repeat' first | assumption | exact up_eq _ _ _ | refine up_ne (by omega) ?_) (sl_in (s := 0) (by decide) h3 h4) ?_
  refine g_iinc (lv' := [(2, .int 1), (0, .ref (ad o c)), (1, .int (iI z))]) C d_C_turnOutsides_34 rfl (by decide) (by decide) rfl ?_
  refine g_goto (tgt := 2) C d_C_turnOutsides_37 (by decide) ?_
  refine g_iload_n C rfl rfl d_C_turnOutsides_2 ?_
  refine g_iconst (v := 2) C rfl d_C_turnOutsides_3 ?_
  refine g_icmp_ge (tgt := 40) C d_C_turnOutsides_4 (by decide) (fun j4_2 => ?_) (fun j4_2 => ?_)
  · exact absurd j4_2 (by decide)
  refine g_aload_n C rfl rfl d_C_turnOutsides_7 ?_
  refine gf_C_28 C d_C_turnOutsides_8 (by first | assumption | omega) (by repeat' first | assumption | exact up_eq _ _ _ | refine up_ne (by omega) ?_) (by rfl) ?_
  refine g_iload_n C rfl rfl d_C_turnOutsides_11 ?_
  refine g_iload_n C rfl rfl d_C_turnOutsides_12 ?_
  refine g_callS C (c_C_slot 1 z) Y_C_slot m_418 m_417 ⟨by decide, by decide⟩ ⟨by decide, by decide⟩ (fun h => nomatch h) d_C_turnOutsides_13 rfl (Nat.le_of_ble_eq_true rfl) (fun ret sg1 hq => ?_)
  obtain ⟨rfl, rfl⟩ := hq
  refine g_aload_n C rfl rfl d_C_turnOutsides_16 ?_
  refine gf_C_24 C d_C_turnOutsides_17 (by first | assumption | omega) (by repeat' first | assumption | exact up_eq _ _ _ | refine up_ne (by omega) ?_) (by rfl) ?_
  refine g_iload_n C rfl rfl d_C_turnOutsides_20 ?_
  refine g_lald C d_C_turnOutsides_21 (by first | assumption | omega) (by repeat' first | assumption | exact up_eq _ _ _ | refine up_ne (by omega) ?_) (by first | assumption | (unfold vp_in; decide)) ?_
  refine g_aload_n C rfl rfl d_C_turnOutsides_22 ?_
  refine gf_C_28 C d_C_turnOutsides_23 (by first | assumption | omega) (by repeat' first | assumption | exact up_eq _ _ _ | refine up_ne (by omega) ?_) (by rfl) ?_
  refine g_iload_n C rfl rfl d_C_turnOutsides_26 ?_
  refine g_iload_n C rfl rfl d_C_turnOutsides_27 ?_
  refine g_callS C (c_C_slot 1 z) Y_C_slot m_418 m_417 ⟨by decide, by decide⟩ ⟨by decide, by decide⟩ (fun h => nomatch h) d_C_turnOutsides_28 rfl (Nat.le_of_ble_eq_true rfl) (fun ret sg1 hq => ?_)
  obtain ⟨rfl, rfl⟩ := hq
  refine g_lald C d_C_turnOutsides_31 (by first | assumption | omega) (by repeat' first | assumption | exact up_eq _ _ _ | refine up_ne (by omega) ?_) (sl_in (s := 1) (by decide) h3 h4) ?_
  refine g_lsub C d_C_turnOutsides_32 ?_
  refine g_last C d_C_turnOutsides_33 (by first | assumption | omega) (by repeat' first | assumption | exact up_eq _ _ _ | refine up_ne (by omega) ?_) (sl_in (s := 1) (by decide) h3 h4) ?_
  refine g_iinc (lv' := [(2, .int 2), (0, .ref (ad o c)), (1, .int (iI z))]) C d_C_turnOutsides_34 rfl (by decide) (by decide) rfl ?_
  refine g_goto (tgt := 2) C d_C_turnOutsides_37 (by decide) ?_
  refine g_iload_n C rfl rfl d_C_turnOutsides_2 ?_
  refine g_iconst (v := 2) C rfl d_C_turnOutsides_3 ?_
  refine g_icmp_ge (tgt := 40) C d_C_turnOutsides_4 (by decide) (fun j4_3 => ?_) (fun j4_3 => ?_)
  rotate_left
  · exact absurd (by decide) j4_3
  refine g_vret C E hr d_C_turnOutsides_40 ?_
  refine ⟨rfl, ?_⟩
  rw [bx_uu, sl_cl (s := 0) (by decide) h3 h4, sl_cl (s := 1) (by decide) h3 h4, pk_uLn (sl01 z h3 h4)]
  rfl
theorem c_C_copy {l : Launch} {o n : Nat} {sg : Nat → va_E} {c d : Nat} {pr pr2 : Int64} {tz tz2 : Int} {lq lq2 : Int32} {g ou g2 oo2 : Nat → Int64} (hc : c + 2 < n) (hd : d + 2 < n) (hcd : c + 3 ≤ d ∨ d + 3 ≤ c) (hC : isC sg o c pr tz lq g ou) (hD : isC sg o d pr2 tz2 lq2 g2 oo2) : GM l y_C_copy b_C_copy 2 none 2 40 0 0 o n n sg false [.ref (ad o c), .ref (ad o d)] (fun r s => none = r ∧ isC s o c pr2 tz2 lq2 g2 oo2 ∧ fr sg s c 3) := by
  obtain ⟨q1, q2, q3⟩ := hC
  obtain ⟨p1, p2, p3⟩ := hD
  refine GM_of (by decide) (Nat.le_of_ble_eq_true rfl) ?_
  intro K C hl hz hr hnm E
  show G K o n sg 0 0 0 [(0, .ref (ad o c)), (1, .ref (ad o d))] []
  refine g_aload_n C rfl rfl d_C_copy_0 ?_
  refine g_aload_n C rfl rfl d_C_copy_1 ?_
  refine gf_C_11 C d_C_copy_2 (by first | assumption | omega) (by repeat' first | assumption | exact up_eq _ _ _ | refine up_ne (by omega) ?_) (by rfl) ?_
  refine pf_C_11 C d_C_copy_5 rfl rfl (by first | assumption | omega) (by repeat' first | assumption | exact up_eq _ _ _ | refine up_ne (by omega) ?_) (by exact Nat.le_of_ble_eq_true rfl) ?_
  refine g_aload_n C rfl rfl d_C_copy_8 ?_
  refine g_aload_n C rfl rfl d_C_copy_9 ?_
  refine gf_C_17 C d_C_copy_10 (by first | assumption | omega) (by repeat' first | assumption | exact up_eq _ _ _ | refine up_ne (by omega) ?_) (by rfl) ?_
  refine pf_C_17 C d_C_copy_13 rfl rfl (by first | assumption | omega) (by repeat' first | assumption | exact up_eq _ _ _ | refine up_ne (by omega) ?_) (by exact Nat.le_of_ble_eq_true rfl) ?_
  refine g_aload_n C rfl rfl d_C_copy_16 ?_
  refine g_aload_n C rfl rfl d_C_copy_17 ?_
  refine gf_C_21 C d_C_copy_18 (by first | assumption | omega) (by repeat' first | assumption | exact up_eq _ _ _ | refine up_ne (by omega) ?_) (by rfl) ?_
  refine pf_C_21 C d_C_copy_21 rfl rfl (by first | assumption | omega) (by repeat' first | assumption | exact up_eq _ _ _ | refine up_ne (by omega) ?_) (by exact Nat.le_of_ble_eq_true rfl) ?_
  refine g_aload_n C rfl rfl d_C_copy_24 ?_
  refine gf_C_24 C d_C_copy_25 (by first | assumption | omega) (by repeat' first | assumption | exact up_eq _ _ _ | refine up_ne (by omega) ?_) (by rfl) ?_
  refine g_iconst (v := 0) C rfl d_C_copy_28 ?_
  refine g_aload_n C rfl rfl d_C_copy_29 ?_
  refine gf_C_24 C d_C_copy_30 (by first | assumption | omega) (by repeat' first | assumption | exact up_eq _ _ _ | refine up_ne (by omega) ?_) (by rfl) ?_
  refine g_iconst (v := 0) C rfl d_C_copy_33 ?_
  refine g_iconst (v := 2) C rfl d_C_copy_34 ?_
  refine g_copyl C m_514 gc_nat gc_sta gc_ini d_C_copy_35 (by first | assumption | omega) (by repeat' first | assumption | exact up_eq _ _ _ | refine up_ne (by omega) ?_) (by first | assumption | omega) (by repeat' first | assumption | exact up_eq _ _ _ | refine up_ne (by omega) ?_) (by decide) (by decide) (by decide) (by decide) (Nat.le_of_ble_eq_true rfl) ?_
  refine g_aload_n C rfl rfl d_C_copy_38 ?_
  refine gf_C_28 C d_C_copy_39 (by first | assumption | omega) (by repeat' first | assumption | exact up_eq _ _ _ | refine up_ne (by omega) ?_) (by rfl) ?_
  refine g_iconst (v := 0) C rfl d_C_copy_42 ?_
  refine g_aload_n C rfl rfl d_C_copy_43 ?_
  refine gf_C_28 C d_C_copy_44 (by first | assumption | omega) (by repeat' first | assumption | exact up_eq _ _ _ | refine up_ne (by omega) ?_) (by rfl) ?_
  refine g_iconst (v := 0) C rfl d_C_copy_47 ?_
  refine g_sipush (v := 162) C rfl d_C_copy_48 ?_
  refine g_copyl C m_514 gc_nat gc_sta gc_ini d_C_copy_51 (by first | assumption | omega) (by repeat' first | assumption | exact up_eq _ _ _ | refine up_ne (by omega) ?_) (by first | assumption | omega) (by repeat' first | assumption | exact up_eq _ _ _ | refine up_ne (by omega) ?_) (by decide) (by decide) (by decide) (by decide) (Nat.le_of_ble_eq_true rfl) ?_
  refine g_extJ (k0 := c + 1) (N := 2) (f' := g2) (by repeat' first | assumption | exact up_eq _ _ _ | refine up_ne (by omega) ?_) (fun i hi => cpyJ hi) ?_
  refine g_extJ (k0 := c + 2) (N := 162) (f' := oo2) (by repeat' first | assumption | exact up_eq _ _ _ | refine up_ne (by omega) ?_) (fun i hi => cpyJ hi) ?_
  refine g_vret C E hr d_C_copy_54 ?_
  refine ⟨rfl, ⟨?_, ?_, ?_⟩, ?_⟩
  · exact (by repeat' first | assumption | exact up_eq _ _ _ | refine up_ne (by omega) ?_)
  · exact (by repeat' first | assumption | exact up_eq _ _ _ | refine up_ne (by omega) ?_)
  · exact (by repeat' first | assumption | exact up_eq _ _ _ | refine up_ne (by omega) ?_)
  · exact (by intro k hk; repeat' first | rfl | refine up_ne (by omega) ?_)
-- POSITIONS
def isS (sg : Nat → va_E) (o q : Nat) (ow pl lo hi am : Int32) (ins owd : Nat → Int64) : Prop := sg q = eO 4 [.int ow, .int pl, .int lo, .int hi, .int am, .ref (ad o (q + 1)), .ref (ad o (q + 2))] ∧ sg (q + 1) = eJ 2 ins ∧ sg (q + 2) = eJ 2 owd
theorem c_S_isNone {l : Launch} {o n : Nat} {sg : Nat → va_E} {q : Nat} {ow pl lo hi am : Int32} {ins owd : Nat → Int64} (hq : q + 2 < n) (hS : isS sg o q ow pl lo hi am ins owd) : GM l y_S_isNone b_S_isNone 1 (some .boolean) 1 12 0 0 o n n sg false [.ref (ad o q)] (gR (some (.int (bz (decide (am = 0 ∧ owd 0 = 0 ∧ owd 1 = 0))))) sg) := by
  obtain ⟨q1, q2, q3⟩ := hS
  refine GM_of (by decide) (Nat.le_of_ble_eq_true rfl) ?_
  intro K C hl hz hr hnm E
  show G K o n sg 0 0 0 [(0, .ref (ad o q))] []
  refine g_aload_n C rfl rfl d_S_isNone_0 ?_
  refine gf_S_18 C d_S_isNone_1 (by first | assumption | omega) (by repeat' first | assumption | exact up_eq _ _ _ | refine up_ne (by omega) ?_) (by rfl) ?_
  refine g_if_ne (tgt := 33) C d_S_isNone_4 (by decide) (fun j4 => ?_) (fun j4 => ?_)
  · refine g_iconst (v := 0) C rfl d_S_isNone_33 ?_
    refine g_zret C E hr d_S_isNone_34 rfl ?_
    refine ⟨congrArg (fun z => some (Value.int z)) ?_, rfl⟩
    first | (rw [decide_eq_true ⟨j4, j14, j25⟩]; rfl) | (rw [decide_eq_false (fun z => j25 z.2.2)]; rfl) | (rw [decide_eq_false (fun z => j14 z.2.1)]; rfl) | (rw [decide_eq_false (fun z => j4 z.1)]; rfl)
  · refine g_aload_n C rfl rfl d_S_isNone_7 ?_
    refine gf_S_15 C d_S_isNone_8 (by first | assumption | omega) (by repeat' first | assumption | exact up_eq _ _ _ | refine up_ne (by omega) ?_) (by rfl) ?_
    refine g_iconst (v := 0) C rfl d_S_isNone_11 ?_
    refine g_lald C d_S_isNone_12 (by first | assumption | omega) (by repeat' first | assumption | exact up_eq _ _ _ | refine up_ne (by omega) ?_) (by first | assumption | (unfold vp_in; decide)) ?_
    refine g_lconst (v := 0) C rfl d_S_isNone_13 ?_
    refine g_lcmp_ne (tgt := 33) C d_S_isNone_14 d_S_isNone_15 (by decide) (fun j14 => ?_) (fun j14 => ?_)
    · refine g_iconst (v := 0) C rfl d_S_isNone_33 ?_
      refine g_zret C E hr d_S_isNone_34 rfl ?_
      refine ⟨congrArg (fun z => some (Value.int z)) ?_, rfl⟩
      first | (rw [decide_eq_true ⟨j4, j14, j25⟩]; rfl) | (rw [decide_eq_false (fun z => j25 z.2.2)]; rfl) | (rw [decide_eq_false (fun z => j14 z.2.1)]; rfl) | (rw [decide_eq_false (fun z => j4 z.1)]; rfl)
    · refine g_aload_n C rfl rfl d_S_isNone_18 ?_
      refine gf_S_15 C d_S_isNone_19 (by first | assumption | omega) (by repeat' first | assumption | exact up_eq _ _ _ | refine up_ne (by omega) ?_) (by rfl) ?_
      refine g_iconst (v := 1) C rfl d_S_isNone_22 ?_
      refine g_lald C d_S_isNone_23 (by first | assumption | omega) (by repeat' first | assumption | exact up_eq _ _ _ | refine up_ne (by omega) ?_) (by first | assumption | (unfold vp_in; decide)) ?_
      refine g_lconst (v := 0) C rfl d_S_isNone_24 ?_
      refine g_lcmp_ne (tgt := 33) C d_S_isNone_25 d_S_isNone_26 (by decide) (fun j25 => ?_) (fun j25 => ?_)
      · refine g_iconst (v := 0) C rfl d_S_isNone_33 ?_
        refine g_zret C E hr d_S_isNone_34 rfl ?_
        refine ⟨congrArg (fun z => some (Value.int z)) ?_, rfl⟩
        first | (rw [decide_eq_true ⟨j4, j14, j25⟩]; rfl) | (rw [decide_eq_false (fun z => j25 z.2.2)]; rfl) | (rw [decide_eq_false (fun z => j14 z.2.1)]; rfl) | (rw [decide_eq_false (fun z => j4 z.1)]; rfl)
      · refine g_iconst (v := 1) C rfl d_S_isNone_29 ?_
        refine g_goto (tgt := 34) C d_S_isNone_30 (by decide) ?_
        refine g_zret C E hr d_S_isNone_34 rfl ?_
        refine ⟨congrArg (fun z => some (Value.int z)) ?_, rfl⟩
        first | (rw [decide_eq_true ⟨j4, j14, j25⟩]; rfl) | (rw [decide_eq_false (fun z => j25 z.2.2)]; rfl) | (rw [decide_eq_false (fun z => j14 z.2.1)]; rfl) | (rw [decide_eq_false (fun z => j4 z.1)]; rfl)
theorem c_S_isOf {l : Launch} {o n : Nat} {sg : Nat → va_E} {q : Nat} {ow pl lo hi am : Int32} {ins owd : Nat → Int64} (a b c d : Int32) (hq : q + 2 < n) (hS : isS sg o q ow pl lo hi am ins owd) : GM l y_S_isOf b_S_isOf 5 (some .boolean) 1 12 0 0 o n n sg false [.ref (ad o q), .int a, .int b, .int c, .int d] (gR (some (.int (bz (decide (ow = a ∧ pl = b ∧ lo = c ∧ hi = d))))) sg) := by
  obtain ⟨q1, q2, q3⟩ := hS
  refine GM_of (by decide) (Nat.le_of_ble_eq_true rfl) ?_
  intro K C hl hz hr hnm E
  show G K o n sg 0 0 0 [(0, .ref (ad o q)), (1, .int a), (2, .int b), (3, .int c), (4, .int d)] []
  refine g_aload_n C rfl rfl d_S_isOf_0 ?_
  refine gf_S_22 C d_S_isOf_1 (by first | assumption | omega) (by repeat' first | assumption | exact up_eq _ _ _ | refine up_ne (by omega) ?_) (by rfl) ?_
  refine g_iload_n C rfl rfl d_S_isOf_4 ?_
  refine g_icmp_ne (tgt := 37) C d_S_isOf_5 (by decide) (fun j5 => ?_) (fun j5 => ?_)
  · refine g_iconst (v := 0) C rfl d_S_isOf_37 ?_
    refine g_zret C E hr d_S_isOf_38 rfl ?_
    refine ⟨congrArg (fun z => some (Value.int z)) ?_, rfl⟩
    first | (rw [decide_eq_true ⟨j5, j13, j21, j30⟩]; rfl) | (rw [decide_eq_false (fun z => j30 z.2.2.2)]; rfl) | (rw [decide_eq_false (fun z => j21 z.2.2.1)]; rfl) | (rw [decide_eq_false (fun z => j13 z.2.1)]; rfl) | (rw [decide_eq_false (fun z => j5 z.1)]; rfl)
  · refine g_aload_n C rfl rfl d_S_isOf_8 ?_
    refine gf_S_25 C d_S_isOf_9 (by first | assumption | omega) (by repeat' first | assumption | exact up_eq _ _ _ | refine up_ne (by omega) ?_) (by rfl) ?_
    refine g_iload_n C rfl rfl d_S_isOf_12 ?_
    refine g_icmp_ne (tgt := 37) C d_S_isOf_13 (by decide) (fun j13 => ?_) (fun j13 => ?_)
    · refine g_iconst (v := 0) C rfl d_S_isOf_37 ?_
      refine g_zret C E hr d_S_isOf_38 rfl ?_
      refine ⟨congrArg (fun z => some (Value.int z)) ?_, rfl⟩
      first | (rw [decide_eq_true ⟨j5, j13, j21, j30⟩]; rfl) | (rw [decide_eq_false (fun z => j30 z.2.2.2)]; rfl) | (rw [decide_eq_false (fun z => j21 z.2.2.1)]; rfl) | (rw [decide_eq_false (fun z => j13 z.2.1)]; rfl) | (rw [decide_eq_false (fun z => j5 z.1)]; rfl)
    · refine g_aload_n C rfl rfl d_S_isOf_16 ?_
      refine gf_S_28 C d_S_isOf_17 (by first | assumption | omega) (by repeat' first | assumption | exact up_eq _ _ _ | refine up_ne (by omega) ?_) (by rfl) ?_
      refine g_iload_n C rfl rfl d_S_isOf_20 ?_
      refine g_icmp_ne (tgt := 37) C d_S_isOf_21 (by decide) (fun j21 => ?_) (fun j21 => ?_)
      · refine g_iconst (v := 0) C rfl d_S_isOf_37 ?_
        refine g_zret C E hr d_S_isOf_38 rfl ?_
        refine ⟨congrArg (fun z => some (Value.int z)) ?_, rfl⟩
        first | (rw [decide_eq_true ⟨j5, j13, j21, j30⟩]; rfl) | (rw [decide_eq_false (fun z => j30 z.2.2.2)]; rfl) | (rw [decide_eq_false (fun z => j21 z.2.2.1)]; rfl) | (rw [decide_eq_false (fun z => j13 z.2.1)]; rfl) | (rw [decide_eq_false (fun z => j5 z.1)]; rfl)
      · refine g_aload_n C rfl rfl d_S_isOf_24 ?_
        refine gf_S_31 C d_S_isOf_25 (by first | assumption | omega) (by repeat' first | assumption | exact up_eq _ _ _ | refine up_ne (by omega) ?_) (by rfl) ?_
        refine g_iload C rfl d_S_isOf_28 ?_
        refine g_icmp_ne (tgt := 37) C d_S_isOf_30 (by decide) (fun j30 => ?_) (fun j30 => ?_)
        · refine g_iconst (v := 0) C rfl d_S_isOf_37 ?_
          refine g_zret C E hr d_S_isOf_38 rfl ?_
          refine ⟨congrArg (fun z => some (Value.int z)) ?_, rfl⟩
          first | (rw [decide_eq_true ⟨j5, j13, j21, j30⟩]; rfl) | (rw [decide_eq_false (fun z => j30 z.2.2.2)]; rfl) | (rw [decide_eq_false (fun z => j21 z.2.2.1)]; rfl) | (rw [decide_eq_false (fun z => j13 z.2.1)]; rfl) | (rw [decide_eq_false (fun z => j5 z.1)]; rfl)
        · refine g_iconst (v := 1) C rfl d_S_isOf_33 ?_
          refine g_goto (tgt := 38) C d_S_isOf_34 (by decide) ?_
          refine g_zret C E hr d_S_isOf_38 rfl ?_
          refine ⟨congrArg (fun z => some (Value.int z)) ?_, rfl⟩
          first | (rw [decide_eq_true ⟨j5, j13, j21, j30⟩]; rfl) | (rw [decide_eq_false (fun z => j30 z.2.2.2)]; rfl) | (rw [decide_eq_false (fun z => j21 z.2.2.1)]; rfl) | (rw [decide_eq_false (fun z => j13 z.2.1)]; rfl) | (rw [decide_eq_false (fun z => j5 z.1)]; rfl)
theorem c_S_open {l : Launch} {o n : Nat} {sg : Nat → va_E} {q : Nat} {ow pl lo hi am : Int32} {ins owd : Nat → Int64} (a b c d : Int32) (hq : q + 2 < n) (hS : isS sg o q ow pl lo hi am ins owd) : GM l y_S_open b_S_open 5 none 1 12 0 0 o n n sg false [.ref (ad o q), .int a, .int b, .int c, .int d] (fun r s => none = r ∧ isS s o q a b c d am (fun _ => 0) owd ∧ fr sg s q 2) := by
  obtain ⟨q1, q2, q3⟩ := hS
  refine GM_of (by decide) (Nat.le_of_ble_eq_true rfl) ?_
  intro K C hl hz hr hnm E
  show G K o n sg 0 0 0 [(0, .ref (ad o q)), (1, .int a), (2, .int b), (3, .int c), (4, .int d)] []
  refine g_aload_n C rfl rfl d_S_open_0 ?_
  refine g_iload_n C rfl rfl d_S_open_1 ?_
  refine pf_S_22 C d_S_open_2 rfl rfl (by first | assumption | omega) (by repeat' first | assumption | exact up_eq _ _ _ | refine up_ne (by omega) ?_) (by exact Nat.le_of_ble_eq_true rfl) ?_
  refine g_aload_n C rfl rfl d_S_open_5 ?_
  refine g_iload_n C rfl rfl d_S_open_6 ?_
  refine pf_S_25 C d_S_open_7 rfl rfl (by first | assumption | omega) (by repeat' first | assumption | exact up_eq _ _ _ | refine up_ne (by omega) ?_) (by exact Nat.le_of_ble_eq_true rfl) ?_
  refine g_aload_n C rfl rfl d_S_open_10 ?_
  refine g_iload_n C rfl rfl d_S_open_11 ?_
  refine pf_S_28 C d_S_open_12 rfl rfl (by first | assumption | omega) (by repeat' first | assumption | exact up_eq _ _ _ | refine up_ne (by omega) ?_) (by exact Nat.le_of_ble_eq_true rfl) ?_
  refine g_aload_n C rfl rfl d_S_open_15 ?_
  refine g_iload C rfl d_S_open_16 ?_
  refine pf_S_31 C d_S_open_18 rfl rfl (by first | assumption | omega) (by repeat' first | assumption | exact up_eq _ _ _ | refine up_ne (by omega) ?_) (by exact Nat.le_of_ble_eq_true rfl) ?_
  refine g_aload_n C rfl rfl d_S_open_21 ?_
  refine gf_S_9 C d_S_open_22 (by first | assumption | omega) (by repeat' first | assumption | exact up_eq _ _ _ | refine up_ne (by omega) ?_) (by rfl) ?_
  refine g_iconst (v := 0) C rfl d_S_open_25 ?_
  refine g_lconst (v := 0) C rfl d_S_open_26 ?_
  refine g_last C d_S_open_27 (by first | assumption | omega) (by repeat' first | assumption | exact up_eq _ _ _ | refine up_ne (by omega) ?_) (by first | assumption | (unfold vp_in; decide)) ?_
  refine g_aload_n C rfl rfl d_S_open_28 ?_
  refine gf_S_9 C d_S_open_29 (by first | assumption | omega) (by repeat' first | assumption | exact up_eq _ _ _ | refine up_ne (by omega) ?_) (by rfl) ?_
  refine g_iconst (v := 1) C rfl d_S_open_32 ?_
  refine g_lconst (v := 0) C rfl d_S_open_33 ?_
  refine g_last C d_S_open_34 (by first | assumption | omega) (by repeat' first | assumption | exact up_eq _ _ _ | refine up_ne (by omega) ?_) (by first | assumption | (unfold vp_in; decide)) ?_
  refine g_extJ (k0 := q + 1) (N := 2) (f' := fun _ => 0) (by repeat' first | assumption | exact up_eq _ _ _ | refine up_ne (by omega) ?_) (fun i hi => by rcases (show i = 0 ∨ i = 1 by omega) with rfl | rfl <;> rfl) ?_
  refine g_vret C E hr d_S_open_35 ?_
  refine ⟨rfl, ⟨?_, ?_, ?_⟩, ?_⟩
  · exact (by repeat' first | assumption | exact up_eq _ _ _ | refine up_ne (by omega) ?_)
  · exact (by repeat' first | assumption | exact up_eq _ _ _ | refine up_ne (by omega) ?_)
  · exact (by repeat' first | assumption | exact up_eq _ _ _ | refine up_ne (by omega) ?_)
  · exact (by intro k hk; repeat' first | rfl | refine up_ne (by omega) ?_)
theorem c_S_share {l : Launch} {o n : Nat} {sg : Nat → va_E} {q : Nat} {ow pl lo hi am : Int32} {ins owd : Nat → Int64} (d : Int64) (hq : q + 2 < n) (hS : isS sg o q ow pl lo hi am ins owd) : GM l y_S_share b_S_share 7 (some .long) 1 12 0 0 o n n sg false [.ref (ad o q), .long d] (gR (some (.long (shr d am.toInt64))) sg) := by
  obtain ⟨q1, q2, q3⟩ := hS
  refine GM_of (by decide) (Nat.le_of_ble_eq_true rfl) ?_
  intro K C hl hz hr hnm E
  show G K o n sg 0 0 0 [(0, .ref (ad o q)), (1, .long d)] []
  refine g_lload_n C rfl rfl d_S_share_0 ?_
  refine g_bipush (v := 32) C rfl d_S_share_1 ?_
  refine g_lushr C d_S_share_3 ?_
  refine g_topl (fun x e_x => ?_)
  refine g_lstore_n (lv' := [(3, .long x), (0, .ref (ad o q)), (1, .long d)]) C d_S_share_4 rfl (by decide) rfl ?_
  refine g_lload_n C rfl rfl d_S_share_5 ?_
  refine g_ldc2 C m_440 d_S_share_6 ?_
  refine g_land C d_S_share_9 ?_
  refine g_topl (fun y e_y => ?_)
  refine g_lstore (lv' := [(5, .long y), (3, .long x), (0, .ref (ad o q)), (1, .long d)]) C d_S_share_10 (by decide) rfl ?_
  refine g_lload_n C rfl rfl d_S_share_12 ?_
  refine g_aload_n C rfl rfl d_S_share_13 ?_
  refine gf_S_18 C d_S_share_14 (by first | assumption | omega) (by repeat' first | assumption | exact up_eq _ _ _ | refine up_ne (by omega) ?_) (by rfl) ?_
  refine g_i2l C d_S_share_17 ?_
  refine g_lmul C d_S_share_18 ?_
  refine g_lload C rfl d_S_share_19 ?_
  refine g_aload_n C rfl rfl d_S_share_21 ?_
  refine gf_S_18 C d_S_share_22 (by first | assumption | omega) (by repeat' first | assumption | exact up_eq _ _ _ | refine up_ne (by omega) ?_) (by rfl) ?_
  refine g_i2l C d_S_share_25 ?_
  refine g_lmul C d_S_share_26 ?_
  refine g_bipush (v := 32) C rfl d_S_share_27 ?_
  refine g_lushr C d_S_share_29 ?_
  refine g_ladd C d_S_share_30 ?_
  refine g_lret C E hr d_S_share_31 ⟨by rw [e_x, e_y]; rfl, rfl⟩
theorem c_S_settle {l : Launch} {o n : Nat} {sg : Nat → va_E} {q c : Nat} {ow pl am : Int32} {lo hi : Int} {ins owd : Nat → Int64} {pr : Int64} {tz : Int} {lq : Int32} {g ou : Nat → Int64} (hq : q + 2 < n) (hc : c + 2 < n) (hqc : q + 3 ≤ c ∨ c + 3 ≤ q) (hS : isS sg o q ow pl (iI lo) (iI hi) am ins owd) (hC : isC sg o c pr tz lq g ou) (h1 : -40 ≤ lo) (h2 : lo ≤ 40) (h3 : -40 ≤ hi) (h4 : hi ≤ 40) (h5 : -41 ≤ tz) (h6 : tz ≤ 40) : GM l y_S_settle b_S_settle 5 none 4 80 0 0 o n n sg false [.ref (ad o q), .ref (ad o c)] (fun r s => none = r ∧ isS s o q ow pl (iI lo) (iI hi) am (fun i => cIns tz g ou i lo hi) (fun i => owd i + shr (cIns tz g ou i lo hi - ins i) am.toInt64) ∧ fr sg s (q + 1) 2) := by
  obtain ⟨q1, q2, q3⟩ := id hS
  obtain ⟨p1, p2, p3⟩ := id hC
  refine GM_of (by decide) (Nat.le_of_ble_eq_true rfl) ?_
  intro K C hl hz hr hnm E
  show G K o n sg 0 0 0 [(0, .ref (ad o q)), (1, .ref (ad o c))] []
  refine g_iconst (v := 0) C rfl d_S_settle_0 ?_
  refine g_istore_n (lv' := [(2, .int 0), (0, .ref (ad o q)), (1, .ref (ad o c))]) C d_S_settle_1 rfl (by decide) rfl ?_
  refine g_iload_n C rfl rfl d_S_settle_2 ?_
  refine g_iconst (v := 2) C rfl d_S_settle_3 ?_
  refine g_icmp_ge (tgt := 55) C d_S_settle_4 (by decide) (fun j4 => ?_) (fun j4 => ?_)
  · exact absurd j4 (by decide)
  refine g_aload_n C rfl rfl d_S_settle_7 ?_
  refine g_iload_n C rfl rfl d_S_settle_8 ?_
  refine g_aload_n C rfl rfl d_S_settle_9 ?_
  refine gf_S_28 C d_S_settle_10 (by first | assumption | omega) (by repeat' first | assumption | exact up_eq _ _ _ | refine up_ne (by omega) ?_) (by rfl) ?_
  refine g_aload_n C rfl rfl d_S_settle_13 ?_
  refine gf_S_31 C d_S_settle_14 (by first | assumption | omega) (by repeat' first | assumption | exact up_eq _ _ _ | refine up_ne (by omega) ?_) (by rfl) ?_
  refine g_callV C (c_C_growthInside 0 lo hi hc hC (by decide) h1 h2 h3 h4 h5 h6) Y_C_growthInside m_425 m_426 m_424 rfl rfl ⟨by decide, by decide⟩ ⟨by decide, by decide⟩ (fun h => nomatch h) d_S_settle_17 (by first | assumption | omega) (by repeat' first | assumption | exact up_eq _ _ _ | refine up_ne (by omega) ?_) rfl (Nat.le_of_ble_eq_true rfl) (fun ret sg1 hq => ?_)
  obtain ⟨rfl, rfl⟩ := hq
  refine g_lstore_n (lv' := [(3, .long (cIns tz g ou 0 lo hi)), (2, .int 0), (0, .ref (ad o q)), (1, .ref (ad o c))]) C d_S_settle_20 rfl (by decide) rfl ?_
  refine g_aload_n C rfl rfl d_S_settle_21 ?_
  refine gf_S_15 C d_S_settle_22 (by first | assumption | omega) (by repeat' first | assumption | exact up_eq _ _ _ | refine up_ne (by omega) ?_) (by rfl) ?_
  refine g_iload_n C rfl rfl d_S_settle_25 ?_
  refine g_dup2 C rfl rfl d_S_settle_26 ?_
  refine g_lald C d_S_settle_27 (by first | assumption | omega) (by repeat' first | assumption | exact up_eq _ _ _ | refine up_ne (by omega) ?_) (by first | assumption | (unfold vp_in; decide)) ?_
  refine g_aload_n C rfl rfl d_S_settle_28 ?_
  refine g_lload_n C rfl rfl d_S_settle_29 ?_
  refine g_aload_n C rfl rfl d_S_settle_30 ?_
  refine gf_S_9 C d_S_settle_31 (by first | assumption | omega) (by repeat' first | assumption | exact up_eq _ _ _ | refine up_ne (by omega) ?_) (by rfl) ?_
  refine g_iload_n C rfl rfl d_S_settle_34 ?_
  refine g_lald C d_S_settle_35 (by first | assumption | omega) (by repeat' first | assumption | exact up_eq _ _ _ | refine up_ne (by omega) ?_) (by first | assumption | (unfold vp_in; decide)) ?_
  refine g_lsub C d_S_settle_36 ?_
  refine g_callV C (c_S_share _ hq hS) Y_S_share m_438 s_S_share m_436 rfl rfl ⟨by decide, by decide⟩ ⟨by decide, by decide⟩ (fun h => nomatch h) d_S_settle_37 (by first | assumption | omega) (by repeat' first | assumption | exact up_eq _ _ _ | refine up_ne (by omega) ?_) rfl (Nat.le_of_ble_eq_true rfl) (fun ret sg1 hq => ?_)
  obtain ⟨rfl, rfl⟩ := hq
  refine g_ladd C d_S_settle_40 ?_
  refine g_last C d_S_settle_41 (by first | assumption | omega) (by repeat' first | assumption | exact up_eq _ _ _ | refine up_ne (by omega) ?_) (by first | assumption | (unfold vp_in; decide)) ?_
  refine g_aload_n C rfl rfl d_S_settle_42 ?_
  refine gf_S_9 C d_S_settle_43 (by first | assumption | omega) (by repeat' first | assumption | exact up_eq _ _ _ | refine up_ne (by omega) ?_) (by rfl) ?_
  refine g_iload_n C rfl rfl d_S_settle_46 ?_
  refine g_lload_n C rfl rfl d_S_settle_47 ?_
  refine g_last C d_S_settle_48 (by first | assumption | omega) (by repeat' first | assumption | exact up_eq _ _ _ | refine up_ne (by omega) ?_) (by first | assumption | (unfold vp_in; decide)) ?_
  refine g_iinc (lv' := [(2, .int 1), (3, .long (cIns tz g ou 0 lo hi)), (0, .ref (ad o q)), (1, .ref (ad o c))]) C d_S_settle_49 rfl (by decide) (by decide) rfl ?_
  refine g_goto (tgt := 2) C d_S_settle_52 (by decide) ?_
  refine g_iload_n C rfl rfl d_S_settle_2 ?_
  refine g_iconst (v := 2) C rfl d_S_settle_3 ?_
  refine g_icmp_ge (tgt := 55) C d_S_settle_4 (by decide) (fun j4_2 => ?_) (fun j4_2 => ?_)
  · exact absurd j4_2 (by decide)
  refine g_aload_n C rfl rfl d_S_settle_7 ?_
  refine g_iload_n C rfl rfl d_S_settle_8 ?_
  refine g_aload_n C rfl rfl d_S_settle_9 ?_
  refine gf_S_28 C d_S_settle_10 (by first | assumption | omega) (by repeat' first | assumption | exact up_eq _ _ _ | refine up_ne (by omega) ?_) (by rfl) ?_
  refine g_aload_n C rfl rfl d_S_settle_13 ?_
  refine gf_S_31 C d_S_settle_14 (by first | assumption | omega) (by repeat' first | assumption | exact up_eq _ _ _ | refine up_ne (by omega) ?_) (by rfl) ?_
  refine g_callV C (c_C_growthInside 1 lo hi hc (pr := pr) (tz := tz) (lq := lq) (g := g) (ou := ou) ⟨(by repeat' first | assumption | exact up_eq _ _ _ | refine up_ne (by omega) ?_), (by repeat' first | assumption | exact up_eq _ _ _ | refine up_ne (by omega) ?_), (by repeat' first | assumption | exact up_eq _ _ _ | refine up_ne (by omega) ?_)⟩ (by decide) h1 h2 h3 h4 h5 h6) Y_C_growthInside m_425 m_426 m_424 rfl rfl ⟨by decide, by decide⟩ ⟨by decide, by decide⟩ (fun h => nomatch h) d_S_settle_17 (by first | assumption | omega) (by repeat' first | assumption | exact up_eq _ _ _ | refine up_ne (by omega) ?_) rfl (Nat.le_of_ble_eq_true rfl) (fun ret sg1 hq => ?_)
  obtain ⟨rfl, rfl⟩ := hq
  refine g_lstore_n (lv' := [(3, .long (cIns tz g ou 1 lo hi)), (2, .int 1), (0, .ref (ad o q)), (1, .ref (ad o c))]) C d_S_settle_20 rfl (by decide) rfl ?_
  refine g_aload_n C rfl rfl d_S_settle_21 ?_
  refine gf_S_15 C d_S_settle_22 (by first | assumption | omega) (by repeat' first | assumption | exact up_eq _ _ _ | refine up_ne (by omega) ?_) (by rfl) ?_
  refine g_iload_n C rfl rfl d_S_settle_25 ?_
  refine g_dup2 C rfl rfl d_S_settle_26 ?_
  refine g_lald C d_S_settle_27 (by first | assumption | omega) (by repeat' first | assumption | exact up_eq _ _ _ | refine up_ne (by omega) ?_) (by first | assumption | (unfold vp_in; decide)) ?_
  refine g_aload_n C rfl rfl d_S_settle_28 ?_
  refine g_lload_n C rfl rfl d_S_settle_29 ?_
  refine g_aload_n C rfl rfl d_S_settle_30 ?_
  refine gf_S_9 C d_S_settle_31 (by first | assumption | omega) (by repeat' first | assumption | exact up_eq _ _ _ | refine up_ne (by omega) ?_) (by rfl) ?_
  refine g_iload_n C rfl rfl d_S_settle_34 ?_
  refine g_lald C d_S_settle_35 (by first | assumption | omega) (by repeat' first | assumption | exact up_eq _ _ _ | refine up_ne (by omega) ?_) (by first | assumption | (unfold vp_in; decide)) ?_
  refine g_lsub C d_S_settle_36 ?_
  refine g_callV C (c_S_share _ hq (ow := ow) (pl := pl) (lo := iI lo) (hi := iI hi) (am := am) ⟨(by repeat' first | assumption | exact up_eq _ _ _ | refine up_ne (by omega) ?_), (by repeat' first | assumption | exact up_eq _ _ _ | refine up_ne (by omega) ?_), (by repeat' first | assumption | exact up_eq _ _ _ | refine up_ne (by omega) ?_)⟩) Y_S_share m_438 s_S_share m_436 rfl rfl ⟨by decide, by decide⟩ ⟨by decide, by decide⟩ (fun h => nomatch h) d_S_settle_37 (by first | assumption | omega) (by repeat' first | assumption | exact up_eq _ _ _ | refine up_ne (by omega) ?_) rfl (Nat.le_of_ble_eq_true rfl) (fun ret sg1 hq => ?_)
  obtain ⟨rfl, rfl⟩ := hq
  refine g_ladd C d_S_settle_40 ?_
  refine g_last C d_S_settle_41 (by first | assumption | omega) (by repeat' first | assumption | exact up_eq _ _ _ | refine up_ne (by omega) ?_) (by first | assumption | (unfold vp_in; decide)) ?_
  refine g_aload_n C rfl rfl d_S_settle_42 ?_
  refine gf_S_9 C d_S_settle_43 (by first | assumption | omega) (by repeat' first | assumption | exact up_eq _ _ _ | refine up_ne (by omega) ?_) (by rfl) ?_
  refine g_iload_n C rfl rfl d_S_settle_46 ?_
  refine g_lload_n C rfl rfl d_S_settle_47 ?_
  refine g_last C d_S_settle_48 (by first | assumption | omega) (by repeat' first | assumption | exact up_eq _ _ _ | refine up_ne (by omega) ?_) (by first | assumption | (unfold vp_in; decide)) ?_
  refine g_iinc (lv' := [(2, .int 2), (3, .long (cIns tz g ou 1 lo hi)), (0, .ref (ad o q)), (1, .ref (ad o c))]) C d_S_settle_49 rfl (by decide) (by decide) rfl ?_
  refine g_goto (tgt := 2) C d_S_settle_52 (by decide) ?_
  refine g_iload_n C rfl rfl d_S_settle_2 ?_
  refine g_iconst (v := 2) C rfl d_S_settle_3 ?_
  refine g_icmp_ge (tgt := 55) C d_S_settle_4 (by decide) (fun j4_3 => ?_) (fun j4_3 => ?_)
  rotate_left
  · exact absurd (by decide) j4_3
  refine g_extJ (k0 := q + 1) (N := 2) (f' := fun i => cIns tz g ou i lo hi) (by repeat' first | assumption | exact up_eq _ _ _ | refine up_ne (by omega) ?_) (fun i hi => by rcases (show i = 0 ∨ i = 1 by omega) with rfl | rfl <;> rfl) ?_
  refine g_extJ (k0 := q + 2) (N := 2) (f' := fun i => owd i + shr (cIns tz g ou i lo hi - ins i) am.toInt64) (by repeat' first | assumption | exact up_eq _ _ _ | refine up_ne (by omega) ?_) (fun i hi => by rcases (show i = 0 ∨ i = 1 by omega) with rfl | rfl <;> rfl) ?_
  refine g_vret C E hr d_S_settle_55 ?_
  exact ⟨rfl, ⟨(by repeat' first | assumption | exact up_eq _ _ _ | refine up_ne (by omega) ?_), (by repeat' first | assumption | exact up_eq _ _ _ | refine up_ne (by omega) ?_), (by repeat' first | assumption | exact up_eq _ _ _ | refine up_ne (by omega) ?_)⟩, (by intro k hk; repeat' first | rfl | refine up_ne (by omega) ?_)⟩

