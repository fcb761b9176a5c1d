-- CROSSING, MOVING
def oTurn (g ou : Nat → Int64) (z : Int) : Nat → Int64 := ou2 ou z (g 0 - ou (sl 0 z)) (g 1 - ou (sl 1 z))
def lqX (dn : Bool) (ne : Nat → Int32) (lq : Int32) (z : Int) : Int32 := lq + (if dn = true then -ne (tx z) else ne (tx z))
theorem lqX_t {ne : Nat → Int32} {lq : Int32} {z : Int} : lqX true ne lq z = lq + -ne (tx z) := rfl
theorem lqX_f {ne : Nat → Int32} {lq : Int32} {z : Int} : lqX false ne lq z = lq + ne (tx z) := rfl
theorem c_T_cross {l : Launch} {o n : Nat} {sg : Nat → va_E} {k kr kp kc f kn kt : Nat} {gr ne : Nat → Int32} {dn ex : Bool} {rest lim paid got pr : Int64} {lq : Int32} {tz : Int} {g ou : Nat → Int64} (z : Int) (hk : k < kp) (hkc : kp + 3 ≤ kc) (hc : kc + 2 < n) (hT : isT sg o k kr kp kc dn ex rest lim paid got) (hPl : isP sg o kp kr f kn kt gr ne) (hC : isC sg o kc pr tz lq g ou) (h3 : -40 ≤ z) (h4 : z ≤ 40) : GM l y_T_cross b_T_cross 2 none 3 55 0 0 o n n sg false [.ref (ad o k), .int (iI z)] (fun r0 s => none = r0 ∧ isC s o kc pr tz (lqX dn ne lq z) g (oTurn g ou z) ∧ ∀ j, j ≠ kc → j ≠ kc + 2 → s j = sg j) := by
  obtain ⟨c1, c2, c3⟩ := id hC
  obtain ⟨p1, p2, p3⟩ := id hPl
  have ht1 : sg k = _ := hT
  refine GM_of (by decide) (Nat.le_of_ble_eq_true rfl) ?_
  intro K C hl hz hr hnm E
  show G K o n sg 0 0 0 [(0, .ref (ad o k)), (1, .int (iI z))] []
  cases dn
  · refine g_aload_n C rfl rfl d_T_cross_0 ?_
    refine gf_T_28 C d_T_cross_1 (by first | assumption | omega) (by repeat' first | assumption | exact up_eq _ _ _ | refine up_ne (by omega) ?_) (by rfl) ?_
    refine g_iload_n C rfl rfl d_T_cross_4 ?_
    refine g_callV C (c_C_turnOutsides z hc hC h3 h4) Y_C_turnOutsides m_572 m_573 m_571 rfl rfl ⟨by decide, by decide⟩ ⟨by decide, by decide⟩ (fun h => nomatch h) d_T_cross_5 (by first | assumption | omega) (by repeat' first | assumption | exact up_eq _ _ _ | refine up_ne (by omega) ?_) rfl (Nat.le_of_ble_eq_true rfl) (fun ret sg5 hq => ?_)
    obtain ⟨rfl, rfl⟩ := hq
    refine g_aload_n C rfl rfl d_T_cross_8 ?_
    refine gf_T_28 C d_T_cross_9 (by first | assumption | omega) (by repeat' first | assumption | exact up_eq _ _ _ | refine up_ne (by omega) ?_) (by rfl) ?_
    refine g_dup C rfl d_T_cross_12 ?_
    refine gf_T_100 C d_T_cross_13 (by first | assumption | omega) (by repeat' first | assumption | exact up_eq _ _ _ | refine up_ne (by omega) ?_) (by rfl) ?_
    refine g_aload_n C rfl rfl d_T_cross_16 ?_
    refine gf_T_31 C d_T_cross_17 (by first | assumption | omega) (by repeat' first | assumption | exact up_eq _ _ _ | refine up_ne (by omega) ?_) (by rfl) ?_
    refine g_if_eq (tgt := 35) C d_T_cross_20 (by decide) (fun j20 => ?_) (fun j20 => ?_)
    rotate_left
    · exact absurd rfl j20
    refine g_aload_n C rfl rfl d_T_cross_35 ?_
    refine gf_T_20 C d_T_cross_36 (by first | assumption | omega) (by repeat' first | assumption | exact up_eq _ _ _ | refine up_ne (by omega) ?_) (by rfl) ?_
    refine g_iload_n C rfl rfl d_T_cross_39 ?_
    refine g_callV C (c_P_netOf z (by omega) (fee := f) (kr := kr) (kn := kn) (kt := kt) (gr := gr) (ne := ne) ⟨(by repeat' first | assumption | exact up_eq _ _ _ | refine up_ne (by omega) ?_), (by repeat' first | assumption | exact up_eq _ _ _ | refine up_ne (by omega) ?_), (by repeat' first | assumption | exact up_eq _ _ _ | refine up_ne (by omega) ?_)⟩ h3 h4) Y_P_netOf m_576 m_577 m_575 rfl rfl ⟨by decide, by decide⟩ ⟨by decide, by decide⟩ (fun h => nomatch h) d_T_cross_40 (by first | assumption | omega) (by repeat' first | assumption | exact up_eq _ _ _ | refine up_ne (by omega) ?_) rfl (Nat.le_of_ble_eq_true rfl) (fun ret sg40 hq => ?_)
    obtain ⟨rfl, rfl⟩ := hq
    refine g_iadd C d_T_cross_43 ?_
    refine pf_T_100 C d_T_cross_44 rfl rfl (by first | assumption | omega) (by repeat' first | assumption | exact up_eq _ _ _ | refine up_ne (by omega) ?_) (by exact Nat.le_of_ble_eq_true rfl) ?_
    refine g_vret C E hr d_T_cross_47 ⟨rfl, ⟨by rw [lqX_f]; exact (by repeat' first | assumption | exact up_eq _ _ _ | refine up_ne (by omega) ?_), (by repeat' first | assumption | exact up_eq _ _ _ | refine up_ne (by omega) ?_), (by repeat' first | assumption | exact up_eq _ _ _ | refine up_ne (by omega) ?_)⟩, fun j h1 h2 => by repeat' first | rfl | refine up_ne (by omega) ?_⟩
  · refine g_aload_n C rfl rfl d_T_cross_0 ?_
    refine gf_T_28 C d_T_cross_1 (by first | assumption | omega) (by repeat' first | assumption | exact up_eq _ _ _ | refine up_ne (by omega) ?_) (by rfl) ?_
    refine g_iload_n C rfl rfl d_T_cross_4 ?_
    refine g_callV C (c_C_turnOutsides z hc hC h3 h4) Y_C_turnOutsides m_572 m_573 m_571 rfl rfl ⟨by decide, by decide⟩ ⟨by decide, by decide⟩ (fun h => nomatch h) d_T_cross_5 (by first | assumption | omega) (by repeat' first | assumption | exact up_eq _ _ _ | refine up_ne (by omega) ?_) rfl (Nat.le_of_ble_eq_true rfl) (fun ret sg5 hq => ?_)
    obtain ⟨rfl, rfl⟩ := hq
    refine g_aload_n C rfl rfl d_T_cross_8 ?_
    refine gf_T_28 C d_T_cross_9 (by first | assumption | omega) (by repeat' first | assumption | exact up_eq _ _ _ | refine up_ne (by omega) ?_) (by rfl) ?_
    refine g_dup C rfl d_T_cross_12 ?_
    refine gf_T_100 C d_T_cross_13 (by first | assumption | omega) (by repeat' first | assumption | exact up_eq _ _ _ | refine up_ne (by omega) ?_) (by rfl) ?_
    refine g_aload_n C rfl rfl d_T_cross_16 ?_
    refine gf_T_31 C d_T_cross_17 (by first | assumption | omega) (by repeat' first | assumption | exact up_eq _ _ _ | refine up_ne (by omega) ?_) (by rfl) ?_
    refine g_if_eq (tgt := 35) C d_T_cross_20 (by decide) (fun j20 => ?_) (fun j20 => ?_)
    · exact absurd j20 (by decide)
    refine g_aload_n C rfl rfl d_T_cross_23 ?_
    refine gf_T_20 C d_T_cross_24 (by first | assumption | omega) (by repeat' first | assumption | exact up_eq _ _ _ | refine up_ne (by omega) ?_) (by rfl) ?_
    refine g_iload_n C rfl rfl d_T_cross_27 ?_
    refine g_callV C (c_P_netOf z (by omega) (fee := f) (kr := kr) (kn := kn) (kt := kt) (gr := gr) (ne := ne) ⟨(by repeat' first | assumption | exact up_eq _ _ _ | refine up_ne (by omega) ?_), (by repeat' first | assumption | exact up_eq _ _ _ | refine up_ne (by omega) ?_), (by repeat' first | assumption | exact up_eq _ _ _ | refine up_ne (by omega) ?_)⟩ h3 h4) Y_P_netOf m_576 m_577 m_575 rfl rfl ⟨by decide, by decide⟩ ⟨by decide, by decide⟩ (fun h => nomatch h) d_T_cross_28 (by first | assumption | omega) (by repeat' first | assumption | exact up_eq _ _ _ | refine up_ne (by omega) ?_) rfl (Nat.le_of_ble_eq_true rfl) (fun ret sg28 hq => ?_)
    obtain ⟨rfl, rfl⟩ := hq
    refine g_ineg C d_T_cross_31 ?_
    refine g_goto (tgt := 43) C d_T_cross_32 (by decide) ?_
    refine g_iadd C d_T_cross_43 ?_
    refine pf_T_100 C d_T_cross_44 rfl rfl (by first | assumption | omega) (by repeat' first | assumption | exact up_eq _ _ _ | refine up_ne (by omega) ?_) (by exact Nat.le_of_ble_eq_true rfl) ?_
    refine g_vret C E hr d_T_cross_47 ⟨rfl, ⟨by rw [lqX_t]; exact (by repeat' first | assumption | exact up_eq _ _ _ | refine up_ne (by omega) ?_), (by repeat' first | assumption | exact up_eq _ _ _ | refine up_ne (by omega) ?_), (by repeat' first | assumption | exact up_eq _ _ _ | refine up_ne (by omega) ?_)⟩, fun j h1 h2 => by repeat' first | rfl | refine up_ne (by omega) ?_⟩
def zTk (dn : Bool) (P S : Nat) (z tz : Int) : Int := if P = rt (tx z) then (if dn = true then z - 1 else z) else if P = S then tz else (gIb 80 P : Nat) - 40
def zLq (dn : Bool) (gr ne : Nat → Int32) (P : Nat) (z : Int) (lq : Int32) : Int32 := if P = rt (tx z) ∧ ¬ gr (tx z) = 0 then lqX dn ne lq z else lq
def zOu (gr : Nat → Int32) (P : Nat) (z : Int) (g ou : Nat → Int64) : Nat → Int64 := if P = rt (tx z) ∧ ¬ gr (tx z) = 0 then oTurn g ou z else ou
set_option maxHeartbeats 4000000 in
theorem c_T_moveTo {l : Launch} {o n : Nat} {sg : Nat → va_E} {k kr kp kc f kn kt : Nat} {gr ne : Nat → Int32} {dn ex : Bool} {rest lim paid got : Int64} {S : Nat} {lq : Int32} {tz : Int} {g ou : Nat → Int64} (P : Nat) (z : Int) (hkr : kr + 1 < k) (hk : k < kp) (hkc : kp + 3 ≤ kc) (hc : kc + 2 < n) (hT : isT sg o k kr kp kc dn ex rest lim paid got) (hPl : isP sg o kp kr f kn kt gr ne) (hC : isC sg o kc (lN S) tz lq g ou) (hR : isR sg o kr) (h3 : -40 ≤ z) (h4 : z ≤ 40) (hP : P < 2 ^ 63) (hS : S < 2 ^ 63) : GM l y_T_moveTo b_T_moveTo 5 none 4 76 0 0 o n n sg false [.ref (ad o k), .long (lN P), .int (iI z)] (fun r0 s => none = r0 ∧ isC s o kc (lN P) (zTk dn P S z tz) (zLq dn gr ne P z lq) g (zOu gr P z g ou) ∧ ∀ j, j ≠ kc → j ≠ kc + 2 → s j = sg j) := by
  obtain ⟨c1, c2, c3⟩ := id hC
  obtain ⟨p1, p2, p3⟩ := id hPl
  have ht1 : sg k = _ := hT
  have hr1 := hR.1
  have hrt : rt (tx z) < 2 ^ 63 := Nat.lt_trans (rt_up (tx_le h4)) (by decide)
  refine GM_of (by decide) (Nat.le_of_ble_eq_true rfl) ?_
  intro K C hl hz hr hnm E
  show G K o n sg 0 0 0 [(0, .ref (ad o k)), (1, .long (lN P)), (3, .int (iI z))] []
  have mv : ∀ e : va_E, isR (va_up sg kc e) o kr := fun e => isR_mv hR (fun j a b => va_up_ne sg e (by omega))
  by_cases hH : P = rt (tx z)
  · by_cases hG : gr (tx z) = 0
    · have hF : bz (decide (¬ gr (tx z) = 0)) = 0 := by rw [decide_eq_false (fun w => w hG)]; rfl
      cases dn
      · refine g_lload_n C rfl rfl d_T_moveTo_0 ?_
        refine g_aload_n C rfl rfl d_T_moveTo_1 ?_
        refine gf_T_28 C d_T_moveTo_2 (by first | assumption | omega) (by repeat' first | assumption | exact up_eq _ _ _ | refine up_ne (by omega) ?_) (by rfl) ?_
        refine gf_T_51 C d_T_moveTo_5 (by first | assumption | omega) (by repeat' first | assumption | exact up_eq _ _ _ | refine up_ne (by omega) ?_) (by rfl) ?_
        refine g_lcmp_eq (tgt := 16) C d_T_moveTo_8 d_T_moveTo_9 (by decide) (fun j8 => ?_) (fun j8 => ?_)
        · refine g_iconst (v := 0) C rfl d_T_moveTo_16 ?_
          refine g_topi (fun ch e_ch => ?_)
          refine g_istore (lv' := [(4, .int ch), (0, .ref (ad o k)), (1, .long (lN P)), (3, .int (iI z))]) C d_T_moveTo_17 (by decide) rfl ?_
          refine g_aload_n C rfl rfl d_T_moveTo_19 ?_
          refine gf_T_28 C d_T_moveTo_20 (by first | assumption | omega) (by repeat' first | assumption | exact up_eq _ _ _ | refine up_ne (by omega) ?_) (by rfl) ?_
          refine g_lload_n C rfl rfl d_T_moveTo_23 ?_
          refine pf_T_51 C d_T_moveTo_24 rfl rfl (by first | assumption | omega) (by repeat' first | assumption | exact up_eq _ _ _ | refine up_ne (by omega) ?_) (by exact Nat.le_of_ble_eq_true rfl) ?_
          refine g_lload_n C rfl rfl d_T_moveTo_27 ?_
          refine g_aload_n C rfl rfl d_T_moveTo_28 ?_
          refine gf_T_9 C d_T_moveTo_29 (by first | assumption | omega) (by repeat' first | assumption | exact up_eq _ _ _ | refine up_ne (by omega) ?_) (by rfl) ?_
          refine g_iload_n C rfl rfl d_T_moveTo_32 ?_
          refine g_callV C (c_R_at z (by omega) (mv _) h3 h4) Y_R_at m_358 m_359 m_529 rfl rfl ⟨by decide, by decide⟩ ⟨by decide, by decide⟩ (fun h => nomatch h) d_T_moveTo_33 (by first | assumption | omega) (by repeat' first | assumption | exact up_eq _ _ _ | refine up_ne (by omega) ?_) rfl (Nat.le_of_ble_eq_true rfl) (fun ret sg33 hq => ?_)
          obtain ⟨rfl, rfl⟩ := hq
          refine g_lcmp_ne (tgt := 80) C d_T_moveTo_36 d_T_moveTo_37 (by decide) (fun j36 => ?_) (fun j36 => ?_)
          · exact absurd (congrArg lN hH) j36
          refine g_aload_n C rfl rfl d_T_moveTo_40 ?_
          refine gf_T_20 C d_T_moveTo_41 (by first | assumption | omega) (by repeat' first | assumption | exact up_eq _ _ _ | refine up_ne (by omega) ?_) (by rfl) ?_
          refine g_iload_n C rfl rfl d_T_moveTo_44 ?_
          refine g_callV C (c_P_isSet z (by omega) (fee := f) (kr := kr) (kn := kn) (kt := kt) (gr := gr) (ne := ne) ⟨(by repeat' first | assumption | exact up_eq _ _ _ | refine up_ne (by omega) ?_), (by repeat' first | assumption | exact up_eq _ _ _ | refine up_ne (by omega) ?_), (by repeat' first | assumption | exact up_eq _ _ _ | refine up_ne (by omega) ?_)⟩ h3 h4) Y_P_isSet m_410 m_411 m_566 rfl rfl ⟨by decide, by decide⟩ ⟨by decide, by decide⟩ (fun h => nomatch h) d_T_moveTo_45 (by first | assumption | omega) (by repeat' first | assumption | exact up_eq _ _ _ | refine up_ne (by omega) ?_) rfl (Nat.le_of_ble_eq_true rfl) (fun ret sg45 hq => ?_)
          obtain ⟨rfl, rfl⟩ := hq
          refine g_if_eq (tgt := 56) C d_T_moveTo_48 (by decide) (fun j48 => ?_) (fun j48 => ?_)
          rotate_left
          · exact absurd hF j48
          refine g_aload_n C rfl rfl d_T_moveTo_56 ?_
          refine gf_T_28 C d_T_moveTo_57 (by first | assumption | omega) (by repeat' first | assumption | exact up_eq _ _ _ | refine up_ne (by omega) ?_) (by rfl) ?_
          refine g_aload_n C rfl rfl d_T_moveTo_60 ?_
          refine gf_T_31 C d_T_moveTo_61 (by first | assumption | omega) (by repeat' first | assumption | exact up_eq _ _ _ | refine up_ne (by omega) ?_) (by rfl) ?_
          refine g_if_eq (tgt := 73) C d_T_moveTo_64 (by decide) (fun j64 => ?_) (fun j64 => ?_)
          rotate_left
          · exact absurd rfl j64
          refine g_iload_n C rfl rfl d_T_moveTo_73 ?_
          refine pf_T_59 C d_T_moveTo_74 rfl rfl (by first | assumption | omega) (by repeat' first | assumption | exact up_eq _ _ _ | refine up_ne (by omega) ?_) (by exact Nat.le_of_ble_eq_true rfl) ?_
          refine g_goto (tgt := 100) C d_T_moveTo_77 (by decide) ?_
          refine g_vret C E hr d_T_moveTo_100 ⟨rfl, ⟨by rw [zTk, if_pos hH, if_neg (show ¬ false = true by decide), zLq, if_neg (fun q => q.2 hG)]; exact (by repeat' first | assumption | exact up_eq _ _ _ | refine up_ne (by omega) ?_), (by repeat' first | assumption | exact up_eq _ _ _ | refine up_ne (by omega) ?_), by rw [zOu, if_neg (fun q => q.2 hG)]; exact (by repeat' first | assumption | exact up_eq _ _ _ | refine up_ne (by omega) ?_)⟩, fun j h1 h2 => by repeat' first | rfl | refine up_ne (by omega) ?_⟩
        · refine g_iconst (v := 1) C rfl d_T_moveTo_12 ?_
          refine g_goto (tgt := 17) C d_T_moveTo_13 (by decide) ?_
          refine g_topi (fun ch e_ch => ?_)
          refine g_istore (lv' := [(4, .int ch), (0, .ref (ad o k)), (1, .long (lN P)), (3, .int (iI z))]) C d_T_moveTo_17 (by decide) rfl ?_
          refine g_aload_n C rfl rfl d_T_moveTo_19 ?_
          refine gf_T_28 C d_T_moveTo_20 (by first | assumption | omega) (by repeat' first | assumption | exact up_eq _ _ _ | refine up_ne (by omega) ?_) (by rfl) ?_
          refine g_lload_n C rfl rfl d_T_moveTo_23 ?_
          refine pf_T_51 C d_T_moveTo_24 rfl rfl (by first | assumption | omega) (by repeat' first | assumption | exact up_eq _ _ _ | refine up_ne (by omega) ?_) (by exact Nat.le_of_ble_eq_true rfl) ?_
          refine g_lload_n C rfl rfl d_T_moveTo_27 ?_
          refine g_aload_n C rfl rfl d_T_moveTo_28 ?_
          refine gf_T_9 C d_T_moveTo_29 (by first | assumption | omega) (by repeat' first | assumption | exact up_eq _ _ _ | refine up_ne (by omega) ?_) (by rfl) ?_
          refine g_iload_n C rfl rfl d_T_moveTo_32 ?_
          refine g_callV C (c_R_at z (by omega) (mv _) h3 h4) Y_R_at m_358 m_359 m_529 rfl rfl ⟨by decide, by decide⟩ ⟨by decide, by decide⟩ (fun h => nomatch h) d_T_moveTo_33 (by first | assumption | omega) (by repeat' first | assumption | exact up_eq _ _ _ | refine up_ne (by omega) ?_) rfl (Nat.le_of_ble_eq_true rfl) (fun ret sg33 hq => ?_)
          obtain ⟨rfl, rfl⟩ := hq
          refine g_lcmp_ne (tgt := 80) C d_T_moveTo_36 d_T_moveTo_37 (by decide) (fun j36 => ?_) (fun j36 => ?_)
          · exact absurd (congrArg lN hH) j36
          refine g_aload_n C rfl rfl d_T_moveTo_40 ?_
          refine gf_T_20 C d_T_moveTo_41 (by first | assumption | omega) (by repeat' first | assumption | exact up_eq _ _ _ | refine up_ne (by omega) ?_) (by rfl) ?_
          refine g_iload_n C rfl rfl d_T_moveTo_44 ?_
          refine g_callV C (c_P_isSet z (by omega) (fee := f) (kr := kr) (kn := kn) (kt := kt) (gr := gr) (ne := ne) ⟨(by repeat' first | assumption | exact up_eq _ _ _ | refine up_ne (by omega) ?_), (by repeat' first | assumption | exact up_eq _ _ _ | refine up_ne (by omega) ?_), (by repeat' first | assumption | exact up_eq _ _ _ | refine up_ne (by omega) ?_)⟩ h3 h4) Y_P_isSet m_410 m_411 m_566 rfl rfl ⟨by decide, by decide⟩ ⟨by decide, by decide⟩ (fun h => nomatch h) d_T_moveTo_45 (by first | assumption | omega) (by repeat' first | assumption | exact up_eq _ _ _ | refine up_ne (by omega) ?_) rfl (Nat.le_of_ble_eq_true rfl) (fun ret sg45 hq => ?_)
          obtain ⟨rfl, rfl⟩ := hq
          refine g_if_eq (tgt := 56) C d_T_moveTo_48 (by decide) (fun j48 => ?_) (fun j48 => ?_)
          rotate_left
          · exact absurd hF j48
          refine g_aload_n C rfl rfl d_T_moveTo_56 ?_
          refine gf_T_28 C d_T_moveTo_57 (by first | assumption | omega) (by repeat' first | assumption | exact up_eq _ _ _ | refine up_ne (by omega) ?_) (by rfl) ?_
          refine g_aload_n C rfl rfl d_T_moveTo_60 ?_
          refine gf_T_31 C d_T_moveTo_61 (by first | assumption | omega) (by repeat' first | assumption | exact up_eq _ _ _ | refine up_ne (by omega) ?_) (by rfl) ?_
          refine g_if_eq (tgt := 73) C d_T_moveTo_64 (by decide) (fun j64 => ?_) (fun j64 => ?_)
          rotate_left
          · exact absurd rfl j64
          refine g_iload_n C rfl rfl d_T_moveTo_73 ?_
          refine pf_T_59 C d_T_moveTo_74 rfl rfl (by first | assumption | omega) (by repeat' first | assumption | exact up_eq _ _ _ | refine up_ne (by omega) ?_) (by exact Nat.le_of_ble_eq_true rfl) ?_
          refine g_goto (tgt := 100) C d_T_moveTo_77 (by decide) ?_
          refine g_vret C E hr d_T_moveTo_100 ⟨rfl, ⟨by rw [zTk, if_pos hH, if_neg (show ¬ false = true by decide), zLq, if_neg (fun q => q.2 hG)]; exact (by repeat' first | assumption | exact up_eq _ _ _ | refine up_ne (by omega) ?_), (by repeat' first | assumption | exact up_eq _ _ _ | refine up_ne (by omega) ?_), by rw [zOu, if_neg (fun q => q.2 hG)]; exact (by repeat' first | assumption | exact up_eq _ _ _ | refine up_ne (by omega) ?_)⟩, fun j h1 h2 => by repeat' first | rfl | refine up_ne (by omega) ?_⟩
      · refine g_lload_n C rfl rfl d_T_moveTo_0 ?_
        refine g_aload_n C rfl rfl d_T_moveTo_1 ?_
        refine gf_T_28 C d_T_moveTo_2 (by first | assumption | omega) (by repeat' first | assumption | exact up_eq _ _ _ | refine up_ne (by omega) ?_) (by rfl) ?_
        refine gf_T_51 C d_T_moveTo_5 (by first | assumption | omega) (by repeat' first | assumption | exact up_eq _ _ _ | refine up_ne (by omega) ?_) (by rfl) ?_
        refine g_lcmp_eq (tgt := 16) C d_T_moveTo_8 d_T_moveTo_9 (by decide) (fun j8 => ?_) (fun j8 => ?_)
        · refine g_iconst (v := 0) C rfl d_T_moveTo_16 ?_
          refine g_topi (fun ch e_ch => ?_)
          refine g_istore (lv' := [(4, .int ch), (0, .ref (ad o k)), (1, .long (lN P)), (3, .int (iI z))]) C d_T_moveTo_17 (by decide) rfl ?_
          refine g_aload_n C rfl rfl d_T_moveTo_19 ?_
          refine gf_T_28 C d_T_moveTo_20 (by first | assumption | omega) (by repeat' first | assumption | exact up_eq _ _ _ | refine up_ne (by omega) ?_) (by rfl) ?_
          refine g_lload_n C rfl rfl d_T_moveTo_23 ?_
          refine pf_T_51 C d_T_moveTo_24 rfl rfl (by first | assumption | omega) (by repeat' first | assumption | exact up_eq _ _ _ | refine up_ne (by omega) ?_) (by exact Nat.le_of_ble_eq_true rfl) ?_
          refine g_lload_n C rfl rfl d_T_moveTo_27 ?_
          refine g_aload_n C rfl rfl d_T_moveTo_28 ?_
          refine gf_T_9 C d_T_moveTo_29 (by first | assumption | omega) (by repeat' first | assumption | exact up_eq _ _ _ | refine up_ne (by omega) ?_) (by rfl) ?_
          refine g_iload_n C rfl rfl d_T_moveTo_32 ?_
          refine g_callV C (c_R_at z (by omega) (mv _) h3 h4) Y_R_at m_358 m_359 m_529 rfl rfl ⟨by decide, by decide⟩ ⟨by decide, by decide⟩ (fun h => nomatch h) d_T_moveTo_33 (by first | assumption | omega) (by repeat' first | assumption | exact up_eq _ _ _ | refine up_ne (by omega) ?_) rfl (Nat.le_of_ble_eq_true rfl) (fun ret sg33 hq => ?_)
          obtain ⟨rfl, rfl⟩ := hq
          refine g_lcmp_ne (tgt := 80) C d_T_moveTo_36 d_T_moveTo_37 (by decide) (fun j36 => ?_) (fun j36 => ?_)
          · exact absurd (congrArg lN hH) j36
          refine g_aload_n C rfl rfl d_T_moveTo_40 ?_
          refine gf_T_20 C d_T_moveTo_41 (by first | assumption | omega) (by repeat' first | assumption | exact up_eq _ _ _ | refine up_ne (by omega) ?_) (by rfl) ?_
          refine g_iload_n C rfl rfl d_T_moveTo_44 ?_
          refine g_callV C (c_P_isSet z (by omega) (fee := f) (kr := kr) (kn := kn) (kt := kt) (gr := gr) (ne := ne) ⟨(by repeat' first | assumption | exact up_eq _ _ _ | refine up_ne (by omega) ?_), (by repeat' first | assumption | exact up_eq _ _ _ | refine up_ne (by omega) ?_), (by repeat' first | assumption | exact up_eq _ _ _ | refine up_ne (by omega) ?_)⟩ h3 h4) Y_P_isSet m_410 m_411 m_566 rfl rfl ⟨by decide, by decide⟩ ⟨by decide, by decide⟩ (fun h => nomatch h) d_T_moveTo_45 (by first | assumption | omega) (by repeat' first | assumption | exact up_eq _ _ _ | refine up_ne (by omega) ?_) rfl (Nat.le_of_ble_eq_true rfl) (fun ret sg45 hq => ?_)
          obtain ⟨rfl, rfl⟩ := hq
          refine g_if_eq (tgt := 56) C d_T_moveTo_48 (by decide) (fun j48 => ?_) (fun j48 => ?_)
          rotate_left
          · exact absurd hF j48
          refine g_aload_n C rfl rfl d_T_moveTo_56 ?_
          refine gf_T_28 C d_T_moveTo_57 (by first | assumption | omega) (by repeat' first | assumption | exact up_eq _ _ _ | refine up_ne (by omega) ?_) (by rfl) ?_
          refine g_aload_n C rfl rfl d_T_moveTo_60 ?_
          refine gf_T_31 C d_T_moveTo_61 (by first | assumption | omega) (by repeat' first | assumption | exact up_eq _ _ _ | refine up_ne (by omega) ?_) (by rfl) ?_
          refine g_if_eq (tgt := 73) C d_T_moveTo_64 (by decide) (fun j64 => ?_) (fun j64 => ?_)
          · exact absurd j64 (by decide)
          refine g_iload_n C rfl rfl d_T_moveTo_67 ?_
          refine g_iconst (v := 1) C rfl d_T_moveTo_68 ?_
          refine g_isub C d_T_moveTo_69 ?_
          refine g_goto (tgt := 74) C d_T_moveTo_70 (by decide) ?_
          rw [show (1 : Int32) = iI 1 from rfl, iI_sub]
          refine pf_T_59 C d_T_moveTo_74 rfl rfl (by first | assumption | omega) (by repeat' first | assumption | exact up_eq _ _ _ | refine up_ne (by omega) ?_) (by exact Nat.le_of_ble_eq_true rfl) ?_
          refine g_goto (tgt := 100) C d_T_moveTo_77 (by decide) ?_
          refine g_vret C E hr d_T_moveTo_100 ⟨rfl, ⟨by rw [zTk, if_pos hH, if_pos (show true = true from rfl), zLq, if_neg (fun q => q.2 hG)]; exact (by repeat' first | assumption | exact up_eq _ _ _ | refine up_ne (by omega) ?_), (by repeat' first | assumption | exact up_eq _ _ _ | refine up_ne (by omega) ?_), by rw [zOu, if_neg (fun q => q.2 hG)]; exact (by repeat' first | assumption | exact up_eq _ _ _ | refine up_ne (by omega) ?_)⟩, fun j h1 h2 => by repeat' first | rfl | refine up_ne (by omega) ?_⟩
        · refine g_iconst (v := 1) C rfl d_T_moveTo_12 ?_
          refine g_goto (tgt := 17) C d_T_moveTo_13 (by decide) ?_
          refine g_topi (fun ch e_ch => ?_)
          refine g_istore (lv' := [(4, .int ch), (0, .ref (ad o k)), (1, .long (lN P)), (3, .int (iI z))]) C d_T_moveTo_17 (by decide) rfl ?_
          refine g_aload_n C rfl rfl d_T_moveTo_19 ?_
          refine gf_T_28 C d_T_moveTo_20 (by first | assumption | omega) (by repeat' first | assumption | exact up_eq _ _ _ | refine up_ne (by omega) ?_) (by rfl) ?_
          refine g_lload_n C rfl rfl d_T_moveTo_23 ?_
          refine pf_T_51 C d_T_moveTo_24 rfl rfl (by first | assumption | omega) (by repeat' first | assumption | exact up_eq _ _ _ | refine up_ne (by omega) ?_) (by exact Nat.le_of_ble_eq_true rfl) ?_
          refine g_lload_n C rfl rfl d_T_moveTo_27 ?_
          refine g_aload_n C rfl rfl d_T_moveTo_28 ?_
          refine gf_T_9 C d_T_moveTo_29 (by first | assumption | omega) (by repeat' first | assumption | exact up_eq _ _ _ | refine up_ne (by omega) ?_) (by rfl) ?_
          refine g_iload_n C rfl rfl d_T_moveTo_32 ?_
          refine g_callV C (c_R_at z (by omega) (mv _) h3 h4) Y_R_at m_358 m_359 m_529 rfl rfl ⟨by decide, by decide⟩ ⟨by decide, by decide⟩ (fun h => nomatch h) d_T_moveTo_33 (by first | assumption | omega) (by repeat' first | assumption | exact up_eq _ _ _ | refine up_ne (by omega) ?_) rfl (Nat.le_of_ble_eq_true rfl) (fun ret sg33 hq => ?_)
          obtain ⟨rfl, rfl⟩ := hq
          refine g_lcmp_ne (tgt := 80) C d_T_moveTo_36 d_T_moveTo_37 (by decide) (fun j36 => ?_) (fun j36 => ?_)
          · exact absurd (congrArg lN hH) j36
          refine g_aload_n C rfl rfl d_T_moveTo_40 ?_
          refine gf_T_20 C d_T_moveTo_41 (by first | assumption | omega) (by repeat' first | assumption | exact up_eq _ _ _ | refine up_ne (by omega) ?_) (by rfl) ?_
          refine g_iload_n C rfl rfl d_T_moveTo_44 ?_
          refine g_callV C (c_P_isSet z (by omega) (fee := f) (kr := kr) (kn := kn) (kt := kt) (gr := gr) (ne := ne) ⟨(by repeat' first | assumption | exact up_eq _ _ _ | refine up_ne (by omega) ?_), (by repeat' first | assumption | exact up_eq _ _ _ | refine up_ne (by omega) ?_), (by repeat' first | assumption | exact up_eq _ _ _ | refine up_ne (by omega) ?_)⟩ h3 h4) Y_P_isSet m_410 m_411 m_566 rfl rfl ⟨by decide, by decide⟩ ⟨by decide, by decide⟩ (fun h => nomatch h) d_T_moveTo_45 (by first | assumption | omega) (by repeat' first | assumption | exact up_eq _ _ _ | refine up_ne (by omega) ?_) rfl (Nat.le_of_ble_eq_true rfl) (fun ret sg45 hq => ?_)
          obtain ⟨rfl, rfl⟩ := hq
          refine g_if_eq (tgt := 56) C d_T_moveTo_48 (by decide) (fun j48 => ?_) (fun j48 => ?_)
          rotate_left
          · exact absurd hF j48
          refine g_aload_n C rfl rfl d_T_moveTo_56 ?_
          refine gf_T_28 C d_T_moveTo_57 (by first | assumption | omega) (by repeat' first | assumption | exact up_eq _ _ _ | refine up_ne (by omega) ?_) (by rfl) ?_
          refine g_aload_n C rfl rfl d_T_moveTo_60 ?_
          refine gf_T_31 C d_T_moveTo_61 (by first | assumption | omega) (by repeat' first | assumption | exact up_eq _ _ _ | refine up_ne (by omega) ?_) (by rfl) ?_
          refine g_if_eq (tgt := 73) C d_T_moveTo_64 (by decide) (fun j64 => ?_) (fun j64 => ?_)
          · exact absurd j64 (by decide)
          refine g_iload_n C rfl rfl d_T_moveTo_67 ?_
          refine g_iconst (v := 1) C rfl d_T_moveTo_68 ?_
          refine g_isub C d_T_moveTo_69 ?_
          refine g_goto (tgt := 74) C d_T_moveTo_70 (by decide) ?_
          rw [show (1 : Int32) = iI 1 from rfl, iI_sub]
          refine pf_T_59 C d_T_moveTo_74 rfl rfl (by first | assumption | omega) (by repeat' first | assumption | exact up_eq _ _ _ | refine up_ne (by omega) ?_) (by exact Nat.le_of_ble_eq_true rfl) ?_
          refine g_goto (tgt := 100) C d_T_moveTo_77 (by decide) ?_
          refine g_vret C E hr d_T_moveTo_100 ⟨rfl, ⟨by rw [zTk, if_pos hH, if_pos (show true = true from rfl), zLq, if_neg (fun q => q.2 hG)]; exact (by repeat' first | assumption | exact up_eq _ _ _ | refine up_ne (by omega) ?_), (by repeat' first | assumption | exact up_eq _ _ _ | refine up_ne (by omega) ?_), by rw [zOu, if_neg (fun q => q.2 hG)]; exact (by repeat' first | assumption | exact up_eq _ _ _ | refine up_ne (by omega) ?_)⟩, fun j h1 h2 => by repeat' first | rfl | refine up_ne (by omega) ?_⟩
    · have hF : ¬ bz (decide (¬ gr (tx z) = 0)) = 0 := by rw [decide_eq_true hG]; decide
      cases dn
      · refine g_lload_n C rfl rfl d_T_moveTo_0 ?_
        refine g_aload_n C rfl rfl d_T_moveTo_1 ?_
        refine gf_T_28 C d_T_moveTo_2 (by first | assumption | omega) (by repeat' first | assumption | exact up_eq _ _ _ | refine up_ne (by omega) ?_) (by rfl) ?_
        refine gf_T_51 C d_T_moveTo_5 (by first | assumption | omega) (by repeat' first | assumption | exact up_eq _ _ _ | refine up_ne (by omega) ?_) (by rfl) ?_
        refine g_lcmp_eq (tgt := 16) C d_T_moveTo_8 d_T_moveTo_9 (by decide) (fun j8 => ?_) (fun j8 => ?_)
        · refine g_iconst (v := 0) C rfl d_T_moveTo_16 ?_
          refine g_topi (fun ch e_ch => ?_)
          refine g_istore (lv' := [(4, .int ch), (0, .ref (ad o k)), (1, .long (lN P)), (3, .int (iI z))]) C d_T_moveTo_17 (by decide) rfl ?_
          refine g_aload_n C rfl rfl d_T_moveTo_19 ?_
          refine gf_T_28 C d_T_moveTo_20 (by first | assumption | omega) (by repeat' first | assumption | exact up_eq _ _ _ | refine up_ne (by omega) ?_) (by rfl) ?_
          refine g_lload_n C rfl rfl d_T_moveTo_23 ?_
          refine pf_T_51 C d_T_moveTo_24 rfl rfl (by first | assumption | omega) (by repeat' first | assumption | exact up_eq _ _ _ | refine up_ne (by omega) ?_) (by exact Nat.le_of_ble_eq_true rfl) ?_
          refine g_lload_n C rfl rfl d_T_moveTo_27 ?_
          refine g_aload_n C rfl rfl d_T_moveTo_28 ?_
          refine gf_T_9 C d_T_moveTo_29 (by first | assumption | omega) (by repeat' first | assumption | exact up_eq _ _ _ | refine up_ne (by omega) ?_) (by rfl) ?_
          refine g_iload_n C rfl rfl d_T_moveTo_32 ?_
          refine g_callV C (c_R_at z (by omega) (mv _) h3 h4) Y_R_at m_358 m_359 m_529 rfl rfl ⟨by decide, by decide⟩ ⟨by decide, by decide⟩ (fun h => nomatch h) d_T_moveTo_33 (by first | assumption | omega) (by repeat' first | assumption | exact up_eq _ _ _ | refine up_ne (by omega) ?_) rfl (Nat.le_of_ble_eq_true rfl) (fun ret sg33 hq => ?_)
          obtain ⟨rfl, rfl⟩ := hq
          refine g_lcmp_ne (tgt := 80) C d_T_moveTo_36 d_T_moveTo_37 (by decide) (fun j36 => ?_) (fun j36 => ?_)
          · exact absurd (congrArg lN hH) j36
          refine g_aload_n C rfl rfl d_T_moveTo_40 ?_
          refine gf_T_20 C d_T_moveTo_41 (by first | assumption | omega) (by repeat' first | assumption | exact up_eq _ _ _ | refine up_ne (by omega) ?_) (by rfl) ?_
          refine g_iload_n C rfl rfl d_T_moveTo_44 ?_
          refine g_callV C (c_P_isSet z (by omega) (fee := f) (kr := kr) (kn := kn) (kt := kt) (gr := gr) (ne := ne) ⟨(by repeat' first | assumption | exact up_eq _ _ _ | refine up_ne (by omega) ?_), (by repeat' first | assumption | exact up_eq _ _ _ | refine up_ne (by omega) ?_), (by repeat' first | assumption | exact up_eq _ _ _ | refine up_ne (by omega) ?_)⟩ h3 h4) Y_P_isSet m_410 m_411 m_566 rfl rfl ⟨by decide, by decide⟩ ⟨by decide, by decide⟩ (fun h => nomatch h) d_T_moveTo_45 (by first | assumption | omega) (by repeat' first | assumption | exact up_eq _ _ _ | refine up_ne (by omega) ?_) rfl (Nat.le_of_ble_eq_true rfl) (fun ret sg45 hq => ?_)
          obtain ⟨rfl, rfl⟩ := hq
          refine g_if_eq (tgt := 56) C d_T_moveTo_48 (by decide) (fun j48 => ?_) (fun j48 => ?_)
          · exact absurd j48 hF
          refine g_aload_n C rfl rfl d_T_moveTo_51 ?_
          refine g_iload_n C rfl rfl d_T_moveTo_52 ?_
          refine g_callV C (c_T_cross z hk hkc hc (dn := false) (ex := ex) (kr := kr) (kp := kp) (rest := rest) (lim := lim) (paid := paid) (got := got) (pr := lN P) (tz := tz) (lq := lq) (g := g) (ou := ou) (f := f) (kn := kn) (kt := kt) (gr := gr) (ne := ne) (by unfold isT; exact (by repeat' first | assumption | exact up_eq _ _ _ | refine up_ne (by omega) ?_)) ⟨(by repeat' first | assumption | exact up_eq _ _ _ | refine up_ne (by omega) ?_), (by repeat' first | assumption | exact up_eq _ _ _ | refine up_ne (by omega) ?_), (by repeat' first | assumption | exact up_eq _ _ _ | refine up_ne (by omega) ?_)⟩ ⟨(by repeat' first | assumption | exact up_eq _ _ _ | refine up_ne (by omega) ?_), (by repeat' first | assumption | exact up_eq _ _ _ | refine up_ne (by omega) ?_), (by repeat' first | assumption | exact up_eq _ _ _ | refine up_ne (by omega) ?_)⟩ h3 h4) Y_T_cross m_569 s_T_cross m_567 rfl rfl ⟨by decide, by decide⟩ ⟨by decide, by decide⟩ (fun h => nomatch h) d_T_moveTo_53 (by first | assumption | omega) (by repeat' first | assumption | exact up_eq _ _ _ | refine up_ne (by omega) ?_) rfl (Nat.le_of_ble_eq_true rfl) (fun ret sg53 hq => ?_)
          obtain ⟨rfl, ⟨d1, d2, d3⟩, dF⟩ := hq
          have dk : sg53 k = _ := (dF k (by omega) (by omega)).trans (up_ne (by omega) ht1)
          refine g_aload_n C rfl rfl d_T_moveTo_56 ?_
          refine gf_T_28 C d_T_moveTo_57 (by first | assumption | omega) (by repeat' first | assumption | exact up_eq _ _ _ | refine up_ne (by omega) ?_) (by rfl) ?_
          refine g_aload_n C rfl rfl d_T_moveTo_60 ?_
          refine gf_T_31 C d_T_moveTo_61 (by first | assumption | omega) (by repeat' first | assumption | exact up_eq _ _ _ | refine up_ne (by omega) ?_) (by rfl) ?_
          refine g_if_eq (tgt := 73) C d_T_moveTo_64 (by decide) (fun j64 => ?_) (fun j64 => ?_)
          rotate_left
          · exact absurd rfl j64
          refine g_iload_n C rfl rfl d_T_moveTo_73 ?_
          refine pf_T_59 C d_T_moveTo_74 rfl rfl (by first | assumption | omega) (by repeat' first | assumption | exact up_eq _ _ _ | refine up_ne (by omega) ?_) (by exact Nat.le_of_ble_eq_true rfl) ?_
          refine g_goto (tgt := 100) C d_T_moveTo_77 (by decide) ?_
          refine g_vret C E hr d_T_moveTo_100 ⟨rfl, ⟨by rw [zTk, if_pos hH, if_neg (show ¬ false = true by decide), zLq, if_pos ⟨hH, hG⟩]; exact (by repeat' first | assumption | exact up_eq _ _ _ | refine up_ne (by omega) ?_), (by repeat' first | assumption | exact up_eq _ _ _ | refine up_ne (by omega) ?_), by rw [zOu, if_pos ⟨hH, hG⟩]; exact (by repeat' first | assumption | exact up_eq _ _ _ | refine up_ne (by omega) ?_)⟩, fun j h1 h2 => up_ne h1 ((dF j h1 h2).trans (up_ne h1 rfl))⟩
        · refine g_iconst (v := 1) C rfl d_T_moveTo_12 ?_
          refine g_goto (tgt := 17) C d_T_moveTo_13 (by decide) ?_
          refine g_topi (fun ch e_ch => ?_)
          refine g_istore (lv' := [(4, .int ch), (0, .ref (ad o k)), (1, .long (lN P)), (3, .int (iI z))]) C d_T_moveTo_17 (by decide) rfl ?_
          refine g_aload_n C rfl rfl d_T_moveTo_19 ?_
          refine gf_T_28 C d_T_moveTo_20 (by first | assumption | omega) (by repeat' first | assumption | exact up_eq _ _ _ | refine up_ne (by omega) ?_) (by rfl) ?_
          refine g_lload_n C rfl rfl d_T_moveTo_23 ?_
          refine pf_T_51 C d_T_moveTo_24 rfl rfl (by first | assumption | omega) (by repeat' first | assumption | exact up_eq _ _ _ | refine up_ne (by omega) ?_) (by exact Nat.le_of_ble_eq_true rfl) ?_
          refine g_lload_n C rfl rfl d_T_moveTo_27 ?_
          refine g_aload_n C rfl rfl d_T_moveTo_28 ?_
          refine gf_T_9 C d_T_moveTo_29 (by first | assumption | omega) (by repeat' first | assumption | exact up_eq _ _ _ | refine up_ne (by omega) ?_) (by rfl) ?_
          refine g_iload_n C rfl rfl d_T_moveTo_32 ?_
          refine g_callV C (c_R_at z (by omega) (mv _) h3 h4) Y_R_at m_358 m_359 m_529 rfl rfl ⟨by decide, by decide⟩ ⟨by decide, by decide⟩ (fun h => nomatch h) d_T_moveTo_33 (by first | assumption | omega) (by repeat' first | assumption | exact up_eq _ _ _ | refine up_ne (by omega) ?_) rfl (Nat.le_of_ble_eq_true rfl) (fun ret sg33 hq => ?_)
          obtain ⟨rfl, rfl⟩ := hq
          refine g_lcmp_ne (tgt := 80) C d_T_moveTo_36 d_T_moveTo_37 (by decide) (fun j36 => ?_) (fun j36 => ?_)
          · exact absurd (congrArg lN hH) j36
          refine g_aload_n C rfl rfl d_T_moveTo_40 ?_
          refine gf_T_20 C d_T_moveTo_41 (by first | assumption | omega) (by repeat' first | assumption | exact up_eq _ _ _ | refine up_ne (by omega) ?_) (by rfl) ?_
          refine g_iload_n C rfl rfl d_T_moveTo_44 ?_
          refine g_callV C (c_P_isSet z (by omega) (fee := f) (kr := kr) (kn := kn) (kt := kt) (gr := gr) (ne := ne) ⟨(by repeat' first | assumption | exact up_eq _ _ _ | refine up_ne (by omega) ?_), (by repeat' first | assumption | exact up_eq _ _ _ | refine up_ne (by omega) ?_), (by repeat' first | assumption | exact up_eq _ _ _ | refine up_ne (by omega) ?_)⟩ h3 h4) Y_P_isSet m_410 m_411 m_566 rfl rfl ⟨by decide, by decide⟩ ⟨by decide, by decide⟩ (fun h => nomatch h) d_T_moveTo_45 (by first | assumption | omega) (by repeat' first | assumption | exact up_eq _ _ _ | refine up_ne (by omega) ?_) rfl (Nat.le_of_ble_eq_true rfl) (fun ret sg45 hq => ?_)
          obtain ⟨rfl, rfl⟩ := hq
          refine g_if_eq (tgt := 56) C d_T_moveTo_48 (by decide) (fun j48 => ?_) (fun j48 => ?_)
          · exact absurd j48 hF
          refine g_aload_n C rfl rfl d_T_moveTo_51 ?_
          refine g_iload_n C rfl rfl d_T_moveTo_52 ?_
          refine g_callV C (c_T_cross z hk hkc hc (dn := false) (ex := ex) (kr := kr) (kp := kp) (rest := rest) (lim := lim) (paid := paid) (got := got) (pr := lN P) (tz := tz) (lq := lq) (g := g) (ou := ou) (f := f) (kn := kn) (kt := kt) (gr := gr) (ne := ne) (by unfold isT; exact (by repeat' first | assumption | exact up_eq _ _ _ | refine up_ne (by omega) ?_)) ⟨(by repeat' first | assumption | exact up_eq _ _ _ | refine up_ne (by omega) ?_), (by repeat' first | assumption | exact up_eq _ _ _ | refine up_ne (by omega) ?_), (by repeat' first | assumption | exact up_eq _ _ _ | refine up_ne (by omega) ?_)⟩ ⟨(by repeat' first | assumption | exact up_eq _ _ _ | refine up_ne (by omega) ?_), (by repeat' first | assumption | exact up_eq _ _ _ | refine up_ne (by omega) ?_), (by repeat' first | assumption | exact up_eq _ _ _ | refine up_ne (by omega) ?_)⟩ h3 h4) Y_T_cross m_569 s_T_cross m_567 rfl rfl ⟨by decide, by decide⟩ ⟨by decide, by decide⟩ (fun h => nomatch h) d_T_moveTo_53 (by first | assumption | omega) (by repeat' first | assumption | exact up_eq _ _ _ | refine up_ne (by omega) ?_) rfl (Nat.le_of_ble_eq_true rfl) (fun ret sg53 hq => ?_)
          obtain ⟨rfl, ⟨d1, d2, d3⟩, dF⟩ := hq
          have dk : sg53 k = _ := (dF k (by omega) (by omega)).trans (up_ne (by omega) ht1)
          refine g_aload_n C rfl rfl d_T_moveTo_56 ?_
          refine gf_T_28 C d_T_moveTo_57 (by first | assumption | omega) (by repeat' first | assumption | exact up_eq _ _ _ | refine up_ne (by omega) ?_) (by rfl) ?_
          refine g_aload_n C rfl rfl d_T_moveTo_60 ?_
          refine gf_T_31 C d_T_moveTo_61 (by first | assumption | omega) (by repeat' first | assumption | exact up_eq _ _ _ | refine up_ne (by omega) ?_) (by rfl) ?_
          refine g_if_eq (tgt := 73) C d_T_moveTo_64 (by decide) (fun j64 => ?_) (fun j64 => ?_)
          rotate_left
          · exact absurd rfl j64
          refine g_iload_n C rfl rfl d_T_moveTo_73 ?_
          refine pf_T_59 C d_T_moveTo_74 rfl rfl (by first | assumption | omega) (by repeat' first | assumption | exact up_eq _ _ _ | refine up_ne (by omega) ?_) (by exact Nat.le_of_ble_eq_true rfl) ?_
          refine g_goto (tgt := 100) C d_T_moveTo_77 (by decide) ?_
          refine g_vret C E hr d_T_moveTo_100 ⟨rfl, ⟨by rw [zTk, if_pos hH, if_neg (show ¬ false = true by decide), zLq, if_pos ⟨hH, hG⟩]; exact (by repeat' first | assumption | exact up_eq _ _ _ | refine up_ne (by omega) ?_), (by repeat' first | assumption | exact up_eq _ _ _ | refine up_ne (by omega) ?_), by rw [zOu, if_pos ⟨hH, hG⟩]; exact (by repeat' first | assumption | exact up_eq _ _ _ | refine up_ne (by omega) ?_)⟩, fun j h1 h2 => up_ne h1 ((dF j h1 h2).trans (up_ne h1 rfl))⟩
      · refine g_lload_n C rfl rfl d_T_moveTo_0 ?_
        refine g_aload_n C rfl rfl d_T_moveTo_1 ?_
        refine gf_T_28 C d_T_moveTo_2 (by first | assumption | omega) (by repeat' first | assumption | exact up_eq _ _ _ | refine up_ne (by omega) ?_) (by rfl) ?_
        refine gf_T_51 C d_T_moveTo_5 (by first | assumption | omega) (by repeat' first | assumption | exact up_eq _ _ _ | refine up_ne (by omega) ?_) (by rfl) ?_
        refine g_lcmp_eq (tgt := 16) C d_T_moveTo_8 d_T_moveTo_9 (by decide) (fun j8 => ?_) (fun j8 => ?_)
        · refine g_iconst (v := 0) C rfl d_T_moveTo_16 ?_
          refine g_topi (fun ch e_ch => ?_)
          refine g_istore (lv' := [(4, .int ch), (0, .ref (ad o k)), (1, .long (lN P)), (3, .int (iI z))]) C d_T_moveTo_17 (by decide) rfl ?_
          refine g_aload_n C rfl rfl d_T_moveTo_19 ?_
          refine gf_T_28 C d_T_moveTo_20 (by first | assumption | omega) (by repeat' first | assumption | exact up_eq _ _ _ | refine up_ne (by omega) ?_) (by rfl) ?_
          refine g_lload_n C rfl rfl d_T_moveTo_23 ?_
          refine pf_T_51 C d_T_moveTo_24 rfl rfl (by first | assumption | omega) (by repeat' first | assumption | exact up_eq _ _ _ | refine up_ne (by omega) ?_) (by exact Nat.le_of_ble_eq_true rfl) ?_
          refine g_lload_n C rfl rfl d_T_moveTo_27 ?_
          refine g_aload_n C rfl rfl d_T_moveTo_28 ?_
          refine gf_T_9 C d_T_moveTo_29 (by first | assumption | omega) (by repeat' first | assumption | exact up_eq _ _ _ | refine up_ne (by omega) ?_) (by rfl) ?_
          refine g_iload_n C rfl rfl d_T_moveTo_32 ?_
          refine g_callV C (c_R_at z (by omega) (mv _) h3 h4) Y_R_at m_358 m_359 m_529 rfl rfl ⟨by decide, by decide⟩ ⟨by decide, by decide⟩ (fun h => nomatch h) d_T_moveTo_33 (by first | assumption | omega) (by repeat' first | assumption | exact up_eq _ _ _ | refine up_ne (by omega) ?_) rfl (Nat.le_of_ble_eq_true rfl) (fun ret sg33 hq => ?_)
          obtain ⟨rfl, rfl⟩ := hq
          refine g_lcmp_ne (tgt := 80) C d_T_moveTo_36 d_T_moveTo_37 (by decide) (fun j36 => ?_) (fun j36 => ?_)
          · exact absurd (congrArg lN hH) j36
          refine g_aload_n C rfl rfl d_T_moveTo_40 ?_
          refine gf_T_20 C d_T_moveTo_41 (by first | assumption | omega) (by repeat' first | assumption | exact up_eq _ _ _ | refine up_ne (by omega) ?_) (by rfl) ?_
          refine g_iload_n C rfl rfl d_T_moveTo_44 ?_
          refine g_callV C (c_P_isSet z (by omega) (fee := f) (kr := kr) (kn := kn) (kt := kt) (gr := gr) (ne := ne) ⟨(by repeat' first | assumption | exact up_eq _ _ _ | refine up_ne (by omega) ?_), (by repeat' first | assumption | exact up_eq _ _ _ | refine up_ne (by omega) ?_), (by repeat' first | assumption | exact up_eq _ _ _ | refine up_ne (by omega) ?_)⟩ h3 h4) Y_P_isSet m_410 m_411 m_566 rfl rfl ⟨by decide, by decide⟩ ⟨by decide, by decide⟩ (fun h => nomatch h) d_T_moveTo_45 (by first | assumption | omega) (by repeat' first | assumption | exact up_eq _ _ _ | refine up_ne (by omega) ?_) rfl (Nat.le_of_ble_eq_true rfl) (fun ret sg45 hq => ?_)
          obtain ⟨rfl, rfl⟩ := hq
          refine g_if_eq (tgt := 56) C d_T_moveTo_48 (by decide) (fun j48 => ?_) (fun j48 => ?_)
          · exact absurd j48 hF
          refine g_aload_n C rfl rfl d_T_moveTo_51 ?_
          refine g_iload_n C rfl rfl d_T_moveTo_52 ?_
          refine g_callV C (c_T_cross z hk hkc hc (dn := true) (ex := ex) (kr := kr) (kp := kp) (rest := rest) (lim := lim) (paid := paid) (got := got) (pr := lN P) (tz := tz) (lq := lq) (g := g) (ou := ou) (f := f) (kn := kn) (kt := kt) (gr := gr) (ne := ne) (by unfold isT; exact (by repeat' first | assumption | exact up_eq _ _ _ | refine up_ne (by omega) ?_)) ⟨(by repeat' first | assumption | exact up_eq _ _ _ | refine up_ne (by omega) ?_), (by repeat' first | assumption | exact up_eq _ _ _ | refine up_ne (by omega) ?_), (by repeat' first | assumption | exact up_eq _ _ _ | refine up_ne (by omega) ?_)⟩ ⟨(by repeat' first | assumption | exact up_eq _ _ _ | refine up_ne (by omega) ?_), (by repeat' first | assumption | exact up_eq _ _ _ | refine up_ne (by omega) ?_), (by repeat' first | assumption | exact up_eq _ _ _ | refine up_ne (by omega) ?_)⟩ h3 h4) Y_T_cross m_569 s_T_cross m_567 rfl rfl ⟨by decide, by decide⟩ ⟨by decide, by decide⟩ (fun h => nomatch h) d_T_moveTo_53 (by first | assumption | omega) (by repeat' first | assumption | exact up_eq _ _ _ | refine up_ne (by omega) ?_) rfl (Nat.le_of_ble_eq_true rfl) (fun ret sg53 hq => ?_)
          obtain ⟨rfl, ⟨d1, d2, d3⟩, dF⟩ := hq
          have dk : sg53 k = _ := (dF k (by omega) (by omega)).trans (up_ne (by omega) ht1)
          refine g_aload_n C rfl rfl d_T_moveTo_56 ?_
          refine gf_T_28 C d_T_moveTo_57 (by first | assumption | omega) (by repeat' first | assumption | exact up_eq _ _ _ | refine up_ne (by omega) ?_) (by rfl) ?_
          refine g_aload_n C rfl rfl d_T_moveTo_60 ?_
          refine gf_T_31 C d_T_moveTo_61 (by first | assumption | omega) (by repeat' first | assumption | exact up_eq _ _ _ | refine up_ne (by omega) ?_) (by rfl) ?_
          refine g_if_eq (tgt := 73) C d_T_moveTo_64 (by decide) (fun j64 => ?_) (fun j64 => ?_)
          · exact absurd j64 (by decide)
          refine g_iload_n C rfl rfl d_T_moveTo_67 ?_
          refine g_iconst (v := 1) C rfl d_T_moveTo_68 ?_
          refine g_isub C d_T_moveTo_69 ?_
          refine g_goto (tgt := 74) C d_T_moveTo_70 (by decide) ?_
          rw [show (1 : Int32) = iI 1 from rfl, iI_sub]
          refine pf_T_59 C d_T_moveTo_74 rfl rfl (by first | assumption | omega) (by repeat' first | assumption | exact up_eq _ _ _ | refine up_ne (by omega) ?_) (by exact Nat.le_of_ble_eq_true rfl) ?_
          refine g_goto (tgt := 100) C d_T_moveTo_77 (by decide) ?_
          refine g_vret C E hr d_T_moveTo_100 ⟨rfl, ⟨by rw [zTk, if_pos hH, if_pos (show true = true from rfl), zLq, if_pos ⟨hH, hG⟩]; exact (by repeat' first | assumption | exact up_eq _ _ _ | refine up_ne (by omega) ?_), (by repeat' first | assumption | exact up_eq _ _ _ | refine up_ne (by omega) ?_), by rw [zOu, if_pos ⟨hH, hG⟩]; exact (by repeat' first | assumption | exact up_eq _ _ _ | refine up_ne (by omega) ?_)⟩, fun j h1 h2 => up_ne h1 ((dF j h1 h2).trans (up_ne h1 rfl))⟩
        · refine g_iconst (v := 1) C rfl d_T_moveTo_12 ?_
          refine g_goto (tgt := 17) C d_T_moveTo_13 (by decide) ?_
          refine g_topi (fun ch e_ch => ?_)
          refine g_istore (lv' := [(4, .int ch), (0, .ref (ad o k)), (1, .long (lN P)), (3, .int (iI z))]) C d_T_moveTo_17 (by decide) rfl ?_
          refine g_aload_n C rfl rfl d_T_moveTo_19 ?_
          refine gf_T_28 C d_T_moveTo_20 (by first | assumption | omega) (by repeat' first | assumption | exact up_eq _ _ _ | refine up_ne (by omega) ?_) (by rfl) ?_
          refine g_lload_n C rfl rfl d_T_moveTo_23 ?_
          refine pf_T_51 C d_T_moveTo_24 rfl rfl (by first | assumption | omega) (by repeat' first | assumption | exact up_eq _ _ _ | refine up_ne (by omega) ?_) (by exact Nat.le_of_ble_eq_true rfl) ?_
          refine g_lload_n C rfl rfl d_T_moveTo_27 ?_
          refine g_aload_n C rfl rfl d_T_moveTo_28 ?_
          refine gf_T_9 C d_T_moveTo_29 (by first | assumption | omega) (by repeat' first | assumption | exact up_eq _ _ _ | refine up_ne (by omega) ?_) (by rfl) ?_
          refine g_iload_n C rfl rfl d_T_moveTo_32 ?_
          refine g_callV C (c_R_at z (by omega) (mv _) h3 h4) Y_R_at m_358 m_359 m_529 rfl rfl ⟨by decide, by decide⟩ ⟨by decide, by decide⟩ (fun h => nomatch h) d_T_moveTo_33 (by first | assumption | omega) (by repeat' first | assumption | exact up_eq _ _ _ | refine up_ne (by omega) ?_) rfl (Nat.le_of_ble_eq_true rfl) (fun ret sg33 hq => ?_)
          obtain ⟨rfl, rfl⟩ := hq
          refine g_lcmp_ne (tgt := 80) C d_T_moveTo_36 d_T_moveTo_37 (by decide) (fun j36 => ?_) (fun j36 => ?_)
          · exact absurd (congrArg lN hH) j36
          refine g_aload_n C rfl rfl d_T_moveTo_40 ?_
          refine gf_T_20 C d_T_moveTo_41 (by first | assumption | omega) (by repeat' first | assumption | exact up_eq _ _ _ | refine up_ne (by omega) ?_) (by rfl) ?_
          refine g_iload_n C rfl rfl d_T_moveTo_44 ?_
          refine g_callV C (c_P_isSet z (by omega) (fee := f) (kr := kr) (kn := kn) (kt := kt) (gr := gr) (ne := ne) ⟨(by repeat' first | assumption | exact up_eq _ _ _ | refine up_ne (by omega) ?_), (by repeat' first | assumption | exact up_eq _ _ _ | refine up_ne (by omega) ?_), (by repeat' first | assumption | exact up_eq _ _ _ | refine up_ne (by omega) ?_)⟩ h3 h4) Y_P_isSet m_410 m_411 m_566 rfl rfl ⟨by decide, by decide⟩ ⟨by decide, by decide⟩ (fun h => nomatch h) d_T_moveTo_45 (by first | assumption | omega) (by repeat' first | assumption | exact up_eq _ _ _ | refine up_ne (by omega) ?_) rfl (Nat.le_of_ble_eq_true rfl) (fun ret sg45 hq => ?_)
          obtain ⟨rfl, rfl⟩ := hq
          refine g_if_eq (tgt := 56) C d_T_moveTo_48 (by decide) (fun j48 => ?_) (fun j48 => ?_)
          · exact absurd j48 hF
          refine g_aload_n C rfl rfl d_T_moveTo_51 ?_
          refine g_iload_n C rfl rfl d_T_moveTo_52 ?_
          refine g_callV C (c_T_cross z hk hkc hc (dn := true) (ex := ex) (kr := kr) (kp := kp) (rest := rest) (lim := lim) (paid := paid) (got := got) (pr := lN P) (tz := tz) (lq := lq) (g := g) (ou := ou) (f := f) (kn := kn) (kt := kt) (gr := gr) (ne := ne) (by unfold isT; exact (by repeat' first | assumption | exact up_eq _ _ _ | refine up_ne (by omega) ?_)) ⟨(by repeat' first | assumption | exact up_eq _ _ _ | refine up_ne (by omega) ?_), (by repeat' first | assumption | exact up_eq _ _ _ | refine up_ne (by omega) ?_), (by repeat' first | assumption | exact up_eq _ _ _ | refine up_ne (by omega) ?_)⟩ ⟨(by repeat' first | assumption | exact up_eq _ _ _ | refine up_ne (by omega) ?_), (by repeat' first | assumption | exact up_eq _ _ _ | refine up_ne (by omega) ?_), (by repeat' first | assumption | exact up_eq _ _ _ | refine up_ne (by omega) ?_)⟩ h3 h4) Y_T_cross m_569 s_T_cross m_567 rfl rfl ⟨by decide, by decide⟩ ⟨by decide, by decide⟩ (fun h => nomatch h) d_T_moveTo_53 (by first | assumption | omega) (by repeat' first | assumption | exact up_eq _ _ _ | refine up_ne (by omega) ?_) rfl (Nat.le_of_ble_eq_true rfl) (fun ret sg53 hq => ?_)
          obtain ⟨rfl, ⟨d1, d2, d3⟩, dF⟩ := hq
          have dk : sg53 k = _ := (dF k (by omega) (by omega)).trans (up_ne (by omega) ht1)
          refine g_aload_n C rfl rfl d_T_moveTo_56 ?_
          refine gf_T_28 C d_T_moveTo_57 (by first | assumption | omega) (by repeat' first | assumption | exact up_eq _ _ _ | refine up_ne (by omega) ?_) (by rfl) ?_
          refine g_aload_n C rfl rfl d_T_moveTo_60 ?_
          refine gf_T_31 C d_T_moveTo_61 (by first | assumption | omega) (by repeat' first | assumption | exact up_eq _ _ _ | refine up_ne (by omega) ?_) (by rfl) ?_
          refine g_if_eq (tgt := 73) C d_T_moveTo_64 (by decide) (fun j64 => ?_) (fun j64 => ?_)
          · exact absurd j64 (by decide)
          refine g_iload_n C rfl rfl d_T_moveTo_67 ?_
          refine g_iconst (v := 1) C rfl d_T_moveTo_68 ?_
          refine g_isub C d_T_moveTo_69 ?_
          refine g_goto (tgt := 74) C d_T_moveTo_70 (by decide) ?_
          rw [show (1 : Int32) = iI 1 from rfl, iI_sub]
          refine pf_T_59 C d_T_moveTo_74 rfl rfl (by first | assumption | omega) (by repeat' first | assumption | exact up_eq _ _ _ | refine up_ne (by omega) ?_) (by exact Nat.le_of_ble_eq_true rfl) ?_
          refine g_goto (tgt := 100) C d_T_moveTo_77 (by decide) ?_
          refine g_vret C E hr d_T_moveTo_100 ⟨rfl, ⟨by rw [zTk, if_pos hH, if_pos (show true = true from rfl), zLq, if_pos ⟨hH, hG⟩]; exact (by repeat' first | assumption | exact up_eq _ _ _ | refine up_ne (by omega) ?_), (by repeat' first | assumption | exact up_eq _ _ _ | refine up_ne (by omega) ?_), by rw [zOu, if_pos ⟨hH, hG⟩]; exact (by repeat' first | assumption | exact up_eq _ _ _ | refine up_ne (by omega) ?_)⟩, fun j h1 h2 => up_ne h1 ((dF j h1 h2).trans (up_ne h1 rfl))⟩
  · have hH2 : ¬ lN P = lN (rt (tx z)) := fun q => hH ((pk_lEQ hP hrt).mp q)
    by_cases hPS : P = S
    · refine g_lload_n C rfl rfl d_T_moveTo_0 ?_
      refine g_aload_n C rfl rfl d_T_moveTo_1 ?_
      refine gf_T_28 C d_T_moveTo_2 (by first | assumption | omega) (by repeat' first | assumption | exact up_eq _ _ _ | refine up_ne (by omega) ?_) (by rfl) ?_
      refine gf_T_51 C d_T_moveTo_5 (by first | assumption | omega) (by repeat' first | assumption | exact up_eq _ _ _ | refine up_ne (by omega) ?_) (by rfl) ?_
      refine g_lcmp_eq (tgt := 16) C d_T_moveTo_8 d_T_moveTo_9 (by decide) (fun j8 => ?_) (fun j8 => ?_)
      rotate_left
      · exact absurd (congrArg lN hPS) j8
      refine g_iconst (v := 0) C rfl d_T_moveTo_16 ?_
      refine g_topi (fun ch e_ch => ?_)
      refine g_istore (lv' := [(4, .int ch), (0, .ref (ad o k)), (1, .long (lN P)), (3, .int (iI z))]) C d_T_moveTo_17 (by decide) rfl ?_
      refine g_aload_n C rfl rfl d_T_moveTo_19 ?_
      refine gf_T_28 C d_T_moveTo_20 (by first | assumption | omega) (by repeat' first | assumption | exact up_eq _ _ _ | refine up_ne (by omega) ?_) (by rfl) ?_
      refine g_lload_n C rfl rfl d_T_moveTo_23 ?_
      refine pf_T_51 C d_T_moveTo_24 rfl rfl (by first | assumption | omega) (by repeat' first | assumption | exact up_eq _ _ _ | refine up_ne (by omega) ?_) (by exact Nat.le_of_ble_eq_true rfl) ?_
      refine g_lload_n C rfl rfl d_T_moveTo_27 ?_
      refine g_aload_n C rfl rfl d_T_moveTo_28 ?_
      refine gf_T_9 C d_T_moveTo_29 (by first | assumption | omega) (by repeat' first | assumption | exact up_eq _ _ _ | refine up_ne (by omega) ?_) (by rfl) ?_
      refine g_iload_n C rfl rfl d_T_moveTo_32 ?_
      refine g_callV C (c_R_at z (by omega) (mv _) h3 h4) Y_R_at m_358 m_359 m_529 rfl rfl ⟨by decide, by decide⟩ ⟨by decide, by decide⟩ (fun h => nomatch h) d_T_moveTo_33 (by first | assumption | omega) (by repeat' first | assumption | exact up_eq _ _ _ | refine up_ne (by omega) ?_) rfl (Nat.le_of_ble_eq_true rfl) (fun ret sg33 hq => ?_)
      obtain ⟨rfl, rfl⟩ := hq
      refine g_lcmp_ne (tgt := 80) C d_T_moveTo_36 d_T_moveTo_37 (by decide) (fun j36 => ?_) (fun j36 => ?_)
      rotate_left
      · exact absurd j36 hH2
      refine g_iload C rfl d_T_moveTo_80 ?_
      refine g_if_eq (tgt := 100) C d_T_moveTo_82 (by decide) (fun j82 => ?_) (fun j82 => ?_)
      rotate_left
      · exact absurd e_ch j82
      refine g_vret C E hr d_T_moveTo_100 ⟨rfl, ⟨by rw [zTk, if_neg hH, if_pos hPS, zLq, if_neg (fun q => hH q.1)]; exact (by repeat' first | assumption | exact up_eq _ _ _ | refine up_ne (by omega) ?_), (by repeat' first | assumption | exact up_eq _ _ _ | refine up_ne (by omega) ?_), by rw [zOu, if_neg (fun q => hH q.1)]; exact (by repeat' first | assumption | exact up_eq _ _ _ | refine up_ne (by omega) ?_)⟩, fun j h1 h2 => by repeat' first | rfl | refine up_ne (by omega) ?_⟩
    · refine g_lload_n C rfl rfl d_T_moveTo_0 ?_
      refine g_aload_n C rfl rfl d_T_moveTo_1 ?_
      refine gf_T_28 C d_T_moveTo_2 (by first | assumption | omega) (by repeat' first | assumption | exact up_eq _ _ _ | refine up_ne (by omega) ?_) (by rfl) ?_
      refine gf_T_51 C d_T_moveTo_5 (by first | assumption | omega) (by repeat' first | assumption | exact up_eq _ _ _ | refine up_ne (by omega) ?_) (by rfl) ?_
      refine g_lcmp_eq (tgt := 16) C d_T_moveTo_8 d_T_moveTo_9 (by decide) (fun j8 => ?_) (fun j8 => ?_)
      · exact absurd j8 (fun q => hPS ((pk_lEQ hP hS).mp q))
      refine g_iconst (v := 1) C rfl d_T_moveTo_12 ?_
      refine g_goto (tgt := 17) C d_T_moveTo_13 (by decide) ?_
      refine g_topi (fun ch e_ch => ?_)
      refine g_istore (lv' := [(4, .int ch), (0, .ref (ad o k)), (1, .long (lN P)), (3, .int (iI z))]) C d_T_moveTo_17 (by decide) rfl ?_
      refine g_aload_n C rfl rfl d_T_moveTo_19 ?_
      refine gf_T_28 C d_T_moveTo_20 (by first | assumption | omega) (by repeat' first | assumption | exact up_eq _ _ _ | refine up_ne (by omega) ?_) (by rfl) ?_
      refine g_lload_n C rfl rfl d_T_moveTo_23 ?_
      refine pf_T_51 C d_T_moveTo_24 rfl rfl (by first | assumption | omega) (by repeat' first | assumption | exact up_eq _ _ _ | refine up_ne (by omega) ?_) (by exact Nat.le_of_ble_eq_true rfl) ?_
      refine g_lload_n C rfl rfl d_T_moveTo_27 ?_
      refine g_aload_n C rfl rfl d_T_moveTo_28 ?_
      refine gf_T_9 C d_T_moveTo_29 (by first | assumption | omega) (by repeat' first | assumption | exact up_eq _ _ _ | refine up_ne (by omega) ?_) (by rfl) ?_
      refine g_iload_n C rfl rfl d_T_moveTo_32 ?_
      refine g_callV C (c_R_at z (by omega) (mv _) h3 h4) Y_R_at m_358 m_359 m_529 rfl rfl ⟨by decide, by decide⟩ ⟨by decide, by decide⟩ (fun h => nomatch h) d_T_moveTo_33 (by first | assumption | omega) (by repeat' first | assumption | exact up_eq _ _ _ | refine up_ne (by omega) ?_) rfl (Nat.le_of_ble_eq_true rfl) (fun ret sg33 hq => ?_)
      obtain ⟨rfl, rfl⟩ := hq
      refine g_lcmp_ne (tgt := 80) C d_T_moveTo_36 d_T_moveTo_37 (by decide) (fun j36 => ?_) (fun j36 => ?_)
      rotate_left
      · exact absurd j36 hH2
      refine g_iload C rfl d_T_moveTo_80 ?_
      refine g_if_eq (tgt := 100) C d_T_moveTo_82 (by decide) (fun j82 => ?_) (fun j82 => ?_)
      · exact absurd j82 (by rw [e_ch]; decide)
      refine g_aload_n C rfl rfl d_T_moveTo_85 ?_
      refine gf_T_28 C d_T_moveTo_86 (by first | assumption | omega) (by repeat' first | assumption | exact up_eq _ _ _ | refine up_ne (by omega) ?_) (by rfl) ?_
      refine g_aload_n C rfl rfl d_T_moveTo_89 ?_
      refine gf_T_9 C d_T_moveTo_90 (by first | assumption | omega) (by repeat' first | assumption | exact up_eq _ _ _ | refine up_ne (by omega) ?_) (by rfl) ?_
      refine g_lload_n C rfl rfl d_T_moveTo_93 ?_
      refine g_callV C (c_R_greatestNotAbove P hP (by omega) (mv _)) Y_R_greatestNotAbove m_580 m_581 m_579 rfl rfl ⟨by decide, by decide⟩ ⟨by decide, by decide⟩ (fun h => nomatch h) d_T_moveTo_94 (by first | assumption | omega) (by repeat' first | assumption | exact up_eq _ _ _ | refine up_ne (by omega) ?_) rfl (Nat.le_of_ble_eq_true rfl) (fun ret sg94 hq => ?_)
      obtain ⟨rfl, rfl⟩ := hq
      refine pf_T_59 C d_T_moveTo_97 rfl rfl (by first | assumption | omega) (by repeat' first | assumption | exact up_eq _ _ _ | refine up_ne (by omega) ?_) (by exact Nat.le_of_ble_eq_true rfl) ?_
      refine g_vret C E hr d_T_moveTo_100 ⟨rfl, ⟨by rw [zTk, if_neg hH, if_neg hPS, zLq, if_neg (fun q => hH q.1)]; exact (by repeat' first | assumption | exact up_eq _ _ _ | refine up_ne (by omega) ?_), (by repeat' first | assumption | exact up_eq _ _ _ | refine up_ne (by omega) ?_), by rw [zOu, if_neg (fun q => hH q.1)]; exact (by repeat' first | assumption | exact up_eq _ _ _ | refine up_ne (by omega) ?_)⟩, fun j h1 h2 => by repeat' first | rfl | refine up_ne (by omega) ?_⟩

