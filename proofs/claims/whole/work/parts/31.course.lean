-- ROOTS
theorem m40 : (-40 : Int32) = iI (-40) := by decide
theorem iI_m40 (z : Int) : iI z - (-40) = iI (z + 40) := by
  rw [m40, iI_sub]
  congr 1
def isR (sg : Nat → va_E) (o kr : Nat) : Prop := sg kr = eO 5 [.ref (ad o (kr + 1))] ∧ ∃ f : Nat → Int64, sg (kr + 1) = eJ 81 f ∧ ∀ i, i ≤ 80 → f i = lN (rt i)
theorem c_R_at {l : Launch} {o n : Nat} {sg : Nat → va_E} {kr : Nat} (z : Int) (hk : kr + 1 < n) (hR : isR sg o kr) (h3 : -40 ≤ z) (h4 : z ≤ 40) : GM l y_R_at b_R_at 2 (some .long) 1 12 0 0 o n n sg false [.ref (ad o kr), .int (iI z)] (gR (some (.long (lN (rt (z + 40).toNat)))) sg) := by
  obtain ⟨h1, f, h2, hf⟩ := hR
  refine GM_of (by decide) (Nat.le_of_ble_eq_true rfl) ?_
  intro K C hl hz hr hnm E
  show G K o n sg 0 0 0 [(0, .ref (ad o kr)), (1, .int (iI z))] []
  refine g_aload_n C rfl rfl d_R_at_0 ?_
  refine gf_R_9 C d_R_at_1 (by first | assumption | omega) (by repeat' first | assumption | exact up_eq _ _ _ | refine up_ne (by omega) ?_) (by rfl) ?_
  refine g_iload_n C rfl rfl d_R_at_4 ?_
  refine g_bipush (v := -40) C rfl d_R_at_5 ?_
  refine g_isub C d_R_at_7 ?_
  rw [iI_m40]
  refine g_lald C d_R_at_8 (by first | assumption | omega) (by repeat' first | assumption | exact up_eq _ _ _ | refine up_ne (by omega) ?_) (iI_in (by omega) (by omega) (by decide)) ?_
  rw [iI_cl (by omega) (by omega), hf _ (by omega)]
  refine g_lret C E hr d_R_at_9 ⟨rfl, rfl⟩
/-- the greatest place with a root not above P, 0 if there is none -/
def gIb : Nat → Nat → Nat
  | 0, _ => 0
  | i + 1, P => if rt (i + 1) ≤ P then i + 1 else gIb i P
theorem c_R_greatestNotAbove {l : Launch} {o n : Nat} {sg : Nat → va_E} {kr : Nat} (P : Nat) (hP : P < 2 ^ 63) (hk : kr + 1 < n) (hR : isR sg o kr) : GM l y_R_greatestNotAbove b_R_greatestNotAbove 4 (some .int) 2 33 0 0 o n n sg false [.ref (ad o kr), .long (lN P)] (gR (some (.int (iI ((gIb 80 P : Nat) - 40)))) sg) := by
  have h1 := hR.1
  refine GM_of (by decide) (Nat.le_of_ble_eq_true rfl) ?_
  intro K C hl hz hr hnm E
  show G K o n sg 0 0 0 [(0, .ref (ad o kr)), (1, .long (lN P))] []
  have loop : ∀ i : Nat, i ≤ 80 → gIb i P = gIb 80 P → ∀ x : Int32, x = iI ((i : Int) - 40) → G K o n sg 0 0 3 [(3, .int x), (0, .ref (ad o kr)), (1, .long (lN P))] [] := by
    intro i
    induction i with
    | zero =>
      intro hi hg x ex
      refine g_iload_n C rfl rfl d_R_greatestNotAbove_3 ?_
      refine g_bipush (v := -40) C rfl d_R_greatestNotAbove_4 ?_
      refine g_icmp_le (tgt := 27) C d_R_greatestNotAbove_6 (by decide) (fun j6 => ?_) (fun j6 => ?_)
      rotate_left
      · exact absurd (by rw [ex]; decide) j6
      refine g_bipush (v := -40) C rfl d_R_greatestNotAbove_27 ?_
      refine g_iret C E hr d_R_greatestNotAbove_29 ?_
      exact ⟨by rw [← hg]; rfl, rfl⟩
    | succ i ih =>
      intro hi hg x ex
      have hroot : rt (((i + 1 : Nat) : Int) - 40 + 40).toNat = rt (i + 1) := by congr 1; omega
      have hlt : rt (i + 1) < 2 ^ 63 := Nat.lt_of_le_of_lt (rt_le (j := 80) hi (by omega)) (by decide +kernel)
      rw [ex]
      refine g_iload_n C rfl rfl d_R_greatestNotAbove_3 ?_
      refine g_bipush (v := -40) C rfl d_R_greatestNotAbove_4 ?_
      refine g_icmp_le (tgt := 27) C d_R_greatestNotAbove_6 (by decide) (fun j6 => ?_) (fun j6 => ?_)
      · exact absurd j6 (by rw [m40, iI_le (by omega) (by omega) (by omega) (by omega)]; omega)
      refine g_aload_n C rfl rfl d_R_greatestNotAbove_9 ?_
      refine g_iload_n C rfl rfl d_R_greatestNotAbove_10 ?_
      refine g_callV C (c_R_at (((i + 1 : Nat) : Int) - 40) hk hR (by omega) (by omega)) Y_R_at m_358 m_359 m_583 rfl rfl ⟨by decide, by decide⟩ ⟨by decide, by decide⟩ (fun h => nomatch h) d_R_greatestNotAbove_11 (by first | assumption | omega) (by repeat' first | assumption | exact up_eq _ _ _ | refine up_ne (by omega) ?_) rfl (Nat.le_of_ble_eq_true rfl) (fun ret sg1 hq => ?_)
      obtain ⟨rfl, rfl⟩ := hq
      rw [hroot]
      refine g_lload_n C rfl rfl d_R_greatestNotAbove_14 ?_
      refine g_lcmp_gt (tgt := 21) C d_R_greatestNotAbove_15 d_R_greatestNotAbove_16 (by decide) (fun j15 => ?_) (fun j15 => ?_)
      · obtain ⟨y, e_y⟩ : ∃ y : Int32, ((iI (((i + 1 : Nat) : Int) - 40))) + Int32.ofInt (-1) = y := ⟨_, rfl⟩
        refine g_iinc (lv' := [(3, .int y), (0, .ref (ad o kr)), (1, .long (lN P))]) C d_R_greatestNotAbove_21 rfl e_y (by decide) rfl ?_
        refine g_goto (tgt := 3) C d_R_greatestNotAbove_24 (by decide) ?_
        exact ih (by omega) (by rw [← hg, gIb, if_neg (fun q => absurd ((pk_lLT hP hlt).mp j15) (by omega))]) _ (by rw [← e_y]; exact (iI_add _ (-1)).trans (congrArg iI (by omega)))
      · refine g_iload_n C rfl rfl d_R_greatestNotAbove_19 ?_
        refine g_iret C E hr d_R_greatestNotAbove_20 ?_
        exact ⟨by rw [← hg, gIb, if_pos ((pk_lLE hlt hP).mp (Int64.not_lt.mp j15))], rfl⟩
  refine g_bipush (v := 40) C rfl d_R_greatestNotAbove_0 ?_
  refine g_topi (fun x e_x => ?_)
  refine g_istore_n (lv' := [(3, .int x), (0, .ref (ad o kr)), (1, .long (lN P))]) C d_R_greatestNotAbove_2 rfl (by decide) rfl ?_
  exact loop 80 (by omega) rfl _ e_x
-- COURSES
def isC (sg : Nat → va_E) (o c : Nat) (pr : Int64) (tz : Int) (lq : Int32) (g ou : Nat → Int64) : Prop := sg c = eO 2 [.long pr, .int (iI tz), .int lq, .ref (ad o (c + 1)), .ref (ad o (c + 2))] ∧ sg (c + 1) = eJ 2 g ∧ sg (c + 2) = eJ 162 ou
/-- place of a tick's outside -/
def sl (s : Nat) (z : Int) : Nat := 81 * s + (z + 40).toNat
theorem c_C_slot {l : Launch} {o n : Nat} {sg : Nat → va_E} (s : Nat) (z : Int) : GM l y_C_slot b_C_slot 2 (some .int) 1 12 0 0 o n n sg false [.int (nI s), .int (iI z)] (gR (some (.int (iI (81 * s + z + 40)))) sg) := by
  refine GM_of (by decide) (Nat.le_of_ble_eq_true rfl) ?_
  intro K C hl hz hr hnm E
  show G K o n sg 0 0 0 [(0, .int (nI s)), (1, .int (iI z))] []
  refine g_iload_n C rfl rfl d_C_slot_0 ?_
  refine g_bipush (v := 81) C rfl d_C_slot_1 ?_
  refine g_imul C d_C_slot_3 ?_
  refine g_iload_n C rfl rfl d_C_slot_4 ?_
  refine g_iadd C d_C_slot_5 ?_
  refine g_bipush (v := -40) C rfl d_C_slot_6 ?_
  refine g_isub C d_C_slot_8 ?_
  refine g_iret C E hr d_C_slot_9 ⟨congrArg (fun q => some (Value.int q)) (by rw [← iI_nat, show (81 : Int32) = iI 81 from rfl, iI_mul, iI_add, iI_m40]; congr 1; omega), rfl⟩
theorem sl_in {s : Nat} {z : Int} (hs : s < 2) (h3 : -40 ≤ z) (h4 : z ≤ 40) : vp_in (iI (81 * s + z + 40)) 162 := iI_in (by omega) (by omega) (by decide)
theorem sl_cl {s : Nat} {z : Int} (hs : s < 2) (h3 : -40 ≤ z) (h4 : z ≤ 40) : (iI (81 * s + z + 40)).toNatClampNeg = sl s z := by
  rw [iI_cl (by omega) (by omega)]
  unfold sl
  omega
def cBel (tz : Int) (g ou : Nat → Int64) (s : Nat) (z : Int) : Int64 := if tz < z then g s - ou (sl s z) else ou (sl s z)
def cAbv (tz : Int) (g ou : Nat → Int64) (s : Nat) (z : Int) : Int64 := if z ≤ tz then g s - ou (sl s z) else ou (sl s z)
def cIns (tz : Int) (g ou : Nat → Int64) (s : Nat) (lo hi : Int) : Int64 := g s - cBel tz g ou s lo - cAbv tz g ou s hi
theorem nI_cl2 {s : Nat} (h : s < 2) : (nI s).toNatClampNeg = s := nI_clamp (by omega)
theorem c_C_below {l : Launch} {o n : Nat} {sg : Nat → va_E} {c : Nat} {pr : Int64} {tz : Int} {lq : Int32} {g ou : Nat → Int64} (s : Nat) (z : Int) (hc : c + 2 < n) (hC : isC sg o c pr tz lq g ou) (hs : s < 2) (h3 : -40 ≤ z) (h4 : z ≤ 40) (h5 : -41 ≤ tz) (h6 : tz ≤ 40) : GM l y_C_below b_C_below 5 (some .long) 2 33 0 0 o n n sg false [.ref (ad o c), .int (nI s), .int (iI z)] (gR (some (.long (cBel tz g ou s z))) sg) := by
  obtain ⟨q1, q2, q3⟩ := hC
  refine GM_of (by decide) (Nat.le_of_ble_eq_true rfl) ?_
  intro K C hl hz hr hnm E
  show G K o n sg 0 0 0 [(0, .ref (ad o c)), (1, .int (nI s)), (2, .int (iI z))] []
  refine g_aload_n C rfl rfl d_C_below_0 ?_
  refine gf_C_28 C d_C_below_1 (by first | assumption | omega) (by repeat' first | assumption | exact up_eq _ _ _ | refine up_ne (by omega) ?_) (by rfl) ?_
  refine g_iload_n C rfl rfl d_C_below_4 ?_
  refine g_iload_n C rfl rfl d_C_below_5 ?_
  refine g_callS C (c_C_slot s z) Y_C_slot m_418 m_417 ⟨by decide, by decide⟩ ⟨by decide, by decide⟩ (fun h => nomatch h) d_C_below_6 rfl (Nat.le_of_ble_eq_true rfl) (fun ret sg1 hq => ?_)
  obtain ⟨rfl, rfl⟩ := hq
  refine g_lald C d_C_below_9 (by first | assumption | omega) (by repeat' first | assumption | exact up_eq _ _ _ | refine up_ne (by omega) ?_) (sl_in hs h3 h4) ?_
  rw [sl_cl hs h3 h4]
  refine g_topl (fun w e_w => ?_)
  refine g_lstore_n (lv' := [(3, .long w), (0, .ref (ad o c)), (1, .int (nI s)), (2, .int (iI z))]) C d_C_below_10 rfl (by decide) rfl ?_
  refine g_aload_n C rfl rfl d_C_below_11 ?_
  refine gf_C_17 C d_C_below_12 (by first | assumption | omega) (by repeat' first | assumption | exact up_eq _ _ _ | refine up_ne (by omega) ?_) (by rfl) ?_
  refine g_iload_n C rfl rfl d_C_below_15 ?_
  refine g_icmp_lt (tgt := 23) C d_C_below_16 (by decide) (fun j16 => ?_) (fun j16 => ?_)
  · refine g_aload_n C rfl rfl d_C_below_23 ?_
    refine gf_C_24 C d_C_below_24 (by first | assumption | omega) (by repeat' first | assumption | exact up_eq _ _ _ | refine up_ne (by omega) ?_) (by rfl) ?_
    refine g_iload_n C rfl rfl d_C_below_27 ?_
    refine g_lald C d_C_below_28 (by first | assumption | omega) (by repeat' first | assumption | exact up_eq _ _ _ | refine up_ne (by omega) ?_) (vp_in_nI hs (by decide)) ?_
    rw [nI_cl2 hs]
    refine g_lload_n C rfl rfl d_C_below_29 ?_
    refine g_lsub C d_C_below_30 ?_
    refine g_lret C E hr d_C_below_31 ?_
    first | exact ⟨by rw [e_w, cBel, if_pos ((iI_lt (by omega) (by omega) (by omega) (by omega)).mp j16)], rfl⟩ | exact ⟨by rw [e_w, cBel, if_neg (fun q => j16 ((iI_lt (by omega) (by omega) (by omega) (by omega)).mpr q))], rfl⟩
  · refine g_lload_n C rfl rfl d_C_below_19 ?_
    refine g_goto (tgt := 31) C d_C_below_20 (by decide) ?_
    refine g_lret C E hr d_C_below_31 ?_
    first | exact ⟨by rw [e_w, cBel, if_pos ((iI_lt (by omega) (by omega) (by omega) (by omega)).mp j16)], rfl⟩ | exact ⟨by rw [e_w, cBel, if_neg (fun q => j16 ((iI_lt (by omega) (by omega) (by omega) (by omega)).mpr q))], rfl⟩
theorem c_C_above {l : Launch} {o n : Nat} {sg : Nat → va_E} {c : Nat} {pr : Int64} {tz : Int} {lq : Int32} {g ou : Nat → Int64} (s : Nat) (z : Int) (hc : c + 2 < n) (hC : isC sg o c pr tz lq g ou) (hs : s < 2) (h3 : -40 ≤ z) (h4 : z ≤ 40) (h5 : -41 ≤ tz) (h6 : tz ≤ 40) : GM l y_C_above b_C_above 5 (some .long) 2 33 0 0 o n n sg false [.ref (ad o c), .int (nI s), .int (iI z)] (gR (some (.long (cAbv tz g ou s z))) sg) := by
  obtain ⟨q1, q2, q3⟩ := hC
  refine GM_of (by decide) (Nat.le_of_ble_eq_true rfl) ?_
  intro K C hl hz hr hnm E
  show G K o n sg 0 0 0 [(0, .ref (ad o c)), (1, .int (nI s)), (2, .int (iI z))] []
  refine g_aload_n C rfl rfl d_C_above_0 ?_
  refine gf_C_28 C d_C_above_1 (by first | assumption | omega) (by repeat' first | assumption | exact up_eq _ _ _ | refine up_ne (by omega) ?_) (by rfl) ?_
  refine g_iload_n C rfl rfl d_C_above_4 ?_
  refine g_iload_n C rfl rfl d_C_above_5 ?_
  refine g_callS C (c_C_slot s z) Y_C_slot m_418 m_417 ⟨by decide, by decide⟩ ⟨by decide, by decide⟩ (fun h => nomatch h) d_C_above_6 rfl (Nat.le_of_ble_eq_true rfl) (fun ret sg1 hq => ?_)
  obtain ⟨rfl, rfl⟩ := hq
  refine g_lald C d_C_above_9 (by first | assumption | omega) (by repeat' first | assumption | exact up_eq _ _ _ | refine up_ne (by omega) ?_) (sl_in hs h3 h4) ?_
  rw [sl_cl hs h3 h4]
  refine g_topl (fun w e_w => ?_)
  refine g_lstore_n (lv' := [(3, .long w), (0, .ref (ad o c)), (1, .int (nI s)), (2, .int (iI z))]) C d_C_above_10 rfl (by decide) rfl ?_
  refine g_aload_n C rfl rfl d_C_above_11 ?_
  refine gf_C_17 C d_C_above_12 (by first | assumption | omega) (by repeat' first | assumption | exact up_eq _ _ _ | refine up_ne (by omega) ?_) (by rfl) ?_
  refine g_iload_n C rfl rfl d_C_above_15 ?_
  refine g_icmp_ge (tgt := 23) C d_C_above_16 (by decide) (fun j16 => ?_) (fun j16 => ?_)
  · refine g_aload_n C rfl rfl d_C_above_23 ?_
    refine gf_C_24 C d_C_above_24 (by first | assumption | omega) (by repeat' first | assumption | exact up_eq _ _ _ | refine up_ne (by omega) ?_) (by rfl) ?_
    refine g_iload_n C rfl rfl d_C_above_27 ?_
    refine g_lald C d_C_above_28 (by first | assumption | omega) (by repeat' first | assumption | exact up_eq _ _ _ | refine up_ne (by omega) ?_) (vp_in_nI hs (by decide)) ?_
    rw [nI_cl2 hs]
    refine g_lload_n C rfl rfl d_C_above_29 ?_
    refine g_lsub C d_C_above_30 ?_
    refine g_lret C E hr d_C_above_31 ?_
    first | exact ⟨by rw [e_w, cAbv, if_pos ((iI_le (by omega) (by omega) (by omega) (by omega)).mp j16)], rfl⟩ | exact ⟨by rw [e_w, cAbv, if_neg (fun q => j16 ((iI_le (by omega) (by omega) (by omega) (by omega)).mpr q))], rfl⟩
  · refine g_lload_n C rfl rfl d_C_above_19 ?_
    refine g_goto (tgt := 31) C d_C_above_20 (by decide) ?_
    refine g_lret C E hr d_C_above_31 ?_
    first | exact ⟨by rw [e_w, cAbv, if_pos ((iI_le (by omega) (by omega) (by omega) (by omega)).mp j16)], rfl⟩ | exact ⟨by rw [e_w, cAbv, if_neg (fun q => j16 ((iI_le (by omega) (by omega) (by omega) (by omega)).mpr q))], rfl⟩
theorem c_C_growthInside {l : Launch} {o n : Nat} {sg : Nat → va_E} {c : Nat} {pr : Int64} {tz : Int} {lq : Int32} {g ou : Nat → Int64} (s : Nat) (lo hi : Int) (hc : c + 2 < n) (hC : isC sg o c pr tz lq g ou) (hs : s < 2) (h1 : -40 ≤ lo) (h2 : lo ≤ 40) (h3 : -40 ≤ hi) (h4 : hi ≤ 40) (h5 : -41 ≤ tz) (h6 : tz ≤ 40) : GM l y_C_growthInside b_C_growthInside 4 (some .long) 3 57 0 0 o n n sg false [.ref (ad o c), .int (nI s), .int (iI lo), .int (iI hi)] (gR (some (.long (cIns tz g ou s lo hi))) sg) := by
  obtain ⟨q1, q2, q3⟩ := id hC
  refine GM_of (by decide) (Nat.le_of_ble_eq_true rfl) ?_
  intro K C hl hz hr hnm E
  show G K o n sg 0 0 0 [(0, .ref (ad o c)), (1, .int (nI s)), (2, .int (iI lo)), (3, .int (iI hi))] []
  refine g_aload_n C rfl rfl d_C_growthInside_0 ?_
  refine gf_C_24 C d_C_growthInside_1 (by first | assumption | omega) (by repeat' first | assumption | exact up_eq _ _ _ | refine up_ne (by omega) ?_) (by rfl) ?_
  refine g_iload_n C rfl rfl d_C_growthInside_4 ?_
  refine g_lald C d_C_growthInside_5 (by first | assumption | omega) (by repeat' first | assumption | exact up_eq _ _ _ | refine up_ne (by omega) ?_) (vp_in_nI hs (by decide)) ?_
  refine g_aload_n C rfl rfl d_C_growthInside_6 ?_
  refine g_iload_n C rfl rfl d_C_growthInside_7 ?_
  refine g_iload_n C rfl rfl d_C_growthInside_8 ?_
  refine g_callV C (c_C_below s lo hc hC hs h1 h2 h5 h6) Y_C_below m_430 s_C_below m_428 rfl rfl ⟨by decide, by decide⟩ ⟨by decide, by decide⟩ (fun h => nomatch h) d_C_growthInside_9 (by first | assumption | omega) (by repeat' first | assumption | exact up_eq _ _ _ | refine up_ne (by omega) ?_) rfl (Nat.le_of_ble_eq_true rfl) (fun ret sg1 hq => ?_)
  obtain ⟨rfl, rfl⟩ := hq
  refine g_lsub C d_C_growthInside_12 ?_
  refine g_aload_n C rfl rfl d_C_growthInside_13 ?_
  refine g_iload_n C rfl rfl d_C_growthInside_14 ?_
  refine g_iload_n C rfl rfl d_C_growthInside_15 ?_
  refine g_callV C (c_C_above s hi hc hC hs h3 h4 h5 h6) Y_C_above m_434 s_C_above m_432 rfl rfl ⟨by decide, by decide⟩ ⟨by decide, by decide⟩ (fun h => nomatch h) d_C_growthInside_16 (by first | assumption | omega) (by repeat' first | assumption | exact up_eq _ _ _ | refine up_ne (by omega) ?_) rfl (Nat.le_of_ble_eq_true rfl) (fun ret sg1 hq => ?_)
  obtain ⟨rfl, rfl⟩ := hq
  refine g_lsub C d_C_growthInside_19 ?_
  rw [nI_cl2 hs]
  refine g_lret C E hr d_C_growthInside_20 ⟨rfl, rfl⟩

