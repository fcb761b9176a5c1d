-- TRADES
def isT (sg : Nat → va_E) (o k kr kp kc : Nat) (dn ex : Bool) (rest lim paid got : Int64) : Prop := sg k = eO 6 [.ref (ad o kr), .ref (ad o kp), .ref (ad o kc), .int (bz dn), .int (bz ex), .long rest, .long lim, .long paid, .long got]
theorem c_T_takenUntil {l : Launch} {o n : Nat} {sg : Nat → va_E} {k kr kp kc : Nat} {dn ex : Bool} {rest lim paid got : Int64} {S L : Nat} {tz : Int} {g ou : Nat → Int64} (P : Nat) (hk : k < n) (hc : kc + 2 < n) (hT : isT sg o k kr kp kc dn ex rest lim paid got) (hC : isC sg o kc (lN S) tz (nI L) g ou) (hL : L ≤ 600000000) (hS : 0 < S) (hP : 0 < P) (hS2 : S < 14706804615) (hP2 : P < 14706804615) (hd : if dn = true then P ≤ S else S ≤ P) : GM l y_T_takenUntil b_T_takenUntil 3 (some .long) 3 67 0 0 o n n sg false [.ref (ad o k), .long (lN P)] (gR (some (.long (lN (zIn dn L S P)))) sg) := by
  have hc1 := hC.1
  have ht1 : sg k = _ := hT
  refine GM_of (by decide) (Nat.le_of_ble_eq_true rfl) ?_
  intro K C hl hz hr hnm E
  show G K o n sg 0 0 0 [(0, .ref (ad o k)), (1, .long (lN P))] []
  cases dn
  · refine g_aload_n C rfl rfl d_T_takenUntil_0 ?_
    refine gf_T_31 C d_T_takenUntil_1 (by first | assumption | omega) (by repeat' first | assumption | exact up_eq _ _ _ | refine up_ne (by omega) ?_) (by rfl) ?_
    refine g_if_eq (tgt := 30) C d_T_takenUntil_4 (by decide) (fun j4 => ?_) (fun j4 => ?_)
    rotate_left
    · exact absurd rfl j4
    refine g_aload_n C rfl rfl d_T_takenUntil_30 ?_
    refine gf_T_28 C d_T_takenUntil_31 (by first | assumption | omega) (by repeat' first | assumption | exact up_eq _ _ _ | refine up_ne (by omega) ?_) (by rfl) ?_
    refine gf_T_51 C d_T_takenUntil_34 (by first | assumption | omega) (by repeat' first | assumption | exact up_eq _ _ _ | refine up_ne (by omega) ?_) (by rfl) ?_
    refine g_lload_n C rfl rfl d_T_takenUntil_37 ?_
    refine g_aload_n C rfl rfl d_T_takenUntil_38 ?_
    refine gf_T_28 C d_T_takenUntil_39 (by first | assumption | omega) (by repeat' first | assumption | exact up_eq _ _ _ | refine up_ne (by omega) ?_) (by rfl) ?_
    refine gf_T_100 C d_T_takenUntil_42 (by first | assumption | omega) (by repeat' first | assumption | exact up_eq _ _ _ | refine up_ne (by omega) ?_) (by rfl) ?_
    refine g_i2l C d_T_takenUntil_45 ?_
    rw [nI_l (by omega)]
    refine g_iconst (v := 1) C rfl d_T_takenUntil_46 ?_
    refine g_callS C (c_Q_far true S P L (by simpa using hd) hP2 hL) Y_Q_far m_375 m_547 ⟨by decide, by decide⟩ ⟨by decide, by decide⟩ (fun h => nomatch h) d_T_takenUntil_47 rfl (Nat.le_of_ble_eq_true rfl) (fun ret sg47 hq => ?_)
    obtain ⟨rfl, rfl⟩ := hq
    refine g_lret C E hr d_T_takenUntil_50 ⟨rfl, rfl⟩
  · refine g_aload_n C rfl rfl d_T_takenUntil_0 ?_
    refine gf_T_31 C d_T_takenUntil_1 (by first | assumption | omega) (by repeat' first | assumption | exact up_eq _ _ _ | refine up_ne (by omega) ?_) (by rfl) ?_
    refine g_if_eq (tgt := 30) C d_T_takenUntil_4 (by decide) (fun j4 => ?_) (fun j4 => ?_)
    · exact absurd j4 (by decide)
    refine g_lload_n C rfl rfl d_T_takenUntil_7 ?_
    refine g_aload_n C rfl rfl d_T_takenUntil_8 ?_
    refine gf_T_28 C d_T_takenUntil_9 (by first | assumption | omega) (by repeat' first | assumption | exact up_eq _ _ _ | refine up_ne (by omega) ?_) (by rfl) ?_
    refine gf_T_51 C d_T_takenUntil_12 (by first | assumption | omega) (by repeat' first | assumption | exact up_eq _ _ _ | refine up_ne (by omega) ?_) (by rfl) ?_
    refine g_aload_n C rfl rfl d_T_takenUntil_15 ?_
    refine gf_T_28 C d_T_takenUntil_16 (by first | assumption | omega) (by repeat' first | assumption | exact up_eq _ _ _ | refine up_ne (by omega) ?_) (by rfl) ?_
    refine gf_T_100 C d_T_takenUntil_19 (by first | assumption | omega) (by repeat' first | assumption | exact up_eq _ _ _ | refine up_ne (by omega) ?_) (by rfl) ?_
    refine g_i2l C d_T_takenUntil_22 ?_
    rw [nI_l (by omega)]
    refine g_iconst (v := 1) C rfl d_T_takenUntil_23 ?_
    refine g_callS C (c_Q_near true P S L hP (by simpa using hd) hS2 hL) Y_Q_near m_362 m_546 ⟨by decide, by decide⟩ ⟨by decide, by decide⟩ (fun h => nomatch h) d_T_takenUntil_24 rfl (Nat.le_of_ble_eq_true rfl) (fun ret sg24 hq => ?_)
    obtain ⟨rfl, rfl⟩ := hq
    refine g_goto (tgt := 50) C d_T_takenUntil_27 (by decide) ?_
    refine g_lret C E hr d_T_takenUntil_50 ⟨rfl, rfl⟩
theorem c_T_paidUntil {l : Launch} {o n : Nat} {sg : Nat → va_E} {k kr kp kc : Nat} {dn ex : Bool} {rest lim paid got : Int64} {S L : Nat} {tz : Int} {g ou : Nat → Int64} (P : Nat) (hk : k < n) (hc : kc + 2 < n) (hT : isT sg o k kr kp kc dn ex rest lim paid got) (hC : isC sg o kc (lN S) tz (nI L) g ou) (hL : L ≤ 600000000) (hS : 0 < S) (hP : 0 < P) (hS2 : S < 14706804615) (hP2 : P < 14706804615) (hd : if dn = true then P ≤ S else S ≤ P) : GM l y_T_paidUntil b_T_paidUntil 3 (some .long) 3 67 0 0 o n n sg false [.ref (ad o k), .long (lN P)] (gR (some (.long (lN (zOut dn L S P)))) sg) := by
  have hc1 := hC.1
  have ht1 : sg k = _ := hT
  refine GM_of (by decide) (Nat.le_of_ble_eq_true rfl) ?_
  intro K C hl hz hr hnm E
  show G K o n sg 0 0 0 [(0, .ref (ad o k)), (1, .long (lN P))] []
  cases dn
  · refine g_aload_n C rfl rfl d_T_paidUntil_0 ?_
    refine gf_T_31 C d_T_paidUntil_1 (by first | assumption | omega) (by repeat' first | assumption | exact up_eq _ _ _ | refine up_ne (by omega) ?_) (by rfl) ?_
    refine g_if_eq (tgt := 30) C d_T_paidUntil_4 (by decide) (fun j4 => ?_) (fun j4 => ?_)
    rotate_left
    · exact absurd rfl j4
    refine g_aload_n C rfl rfl d_T_paidUntil_30 ?_
    refine gf_T_28 C d_T_paidUntil_31 (by first | assumption | omega) (by repeat' first | assumption | exact up_eq _ _ _ | refine up_ne (by omega) ?_) (by rfl) ?_
    refine gf_T_51 C d_T_paidUntil_34 (by first | assumption | omega) (by repeat' first | assumption | exact up_eq _ _ _ | refine up_ne (by omega) ?_) (by rfl) ?_
    refine g_lload_n C rfl rfl d_T_paidUntil_37 ?_
    refine g_aload_n C rfl rfl d_T_paidUntil_38 ?_
    refine gf_T_28 C d_T_paidUntil_39 (by first | assumption | omega) (by repeat' first | assumption | exact up_eq _ _ _ | refine up_ne (by omega) ?_) (by rfl) ?_
    refine gf_T_100 C d_T_paidUntil_42 (by first | assumption | omega) (by repeat' first | assumption | exact up_eq _ _ _ | refine up_ne (by omega) ?_) (by rfl) ?_
    refine g_i2l C d_T_paidUntil_45 ?_
    rw [nI_l (by omega)]
    refine g_iconst (v := 0) C rfl d_T_paidUntil_46 ?_
    refine g_callS C (c_Q_near false S P L hS (by simpa using hd) hP2 hL) Y_Q_near m_362 m_546 ⟨by decide, by decide⟩ ⟨by decide, by decide⟩ (fun h => nomatch h) d_T_paidUntil_47 rfl (Nat.le_of_ble_eq_true rfl) (fun ret sg47 hq => ?_)
    obtain ⟨rfl, rfl⟩ := hq
    refine g_lret C E hr d_T_paidUntil_50 ⟨rfl, rfl⟩
  · refine g_aload_n C rfl rfl d_T_paidUntil_0 ?_
    refine gf_T_31 C d_T_paidUntil_1 (by first | assumption | omega) (by repeat' first | assumption | exact up_eq _ _ _ | refine up_ne (by omega) ?_) (by rfl) ?_
    refine g_if_eq (tgt := 30) C d_T_paidUntil_4 (by decide) (fun j4 => ?_) (fun j4 => ?_)
    · exact absurd j4 (by decide)
    refine g_lload_n C rfl rfl d_T_paidUntil_7 ?_
    refine g_aload_n C rfl rfl d_T_paidUntil_8 ?_
    refine gf_T_28 C d_T_paidUntil_9 (by first | assumption | omega) (by repeat' first | assumption | exact up_eq _ _ _ | refine up_ne (by omega) ?_) (by rfl) ?_
    refine gf_T_51 C d_T_paidUntil_12 (by first | assumption | omega) (by repeat' first | assumption | exact up_eq _ _ _ | refine up_ne (by omega) ?_) (by rfl) ?_
    refine g_aload_n C rfl rfl d_T_paidUntil_15 ?_
    refine gf_T_28 C d_T_paidUntil_16 (by first | assumption | omega) (by repeat' first | assumption | exact up_eq _ _ _ | refine up_ne (by omega) ?_) (by rfl) ?_
    refine gf_T_100 C d_T_paidUntil_19 (by first | assumption | omega) (by repeat' first | assumption | exact up_eq _ _ _ | refine up_ne (by omega) ?_) (by rfl) ?_
    refine g_i2l C d_T_paidUntil_22 ?_
    rw [nI_l (by omega)]
    refine g_iconst (v := 0) C rfl d_T_paidUntil_23 ?_
    refine g_callS C (c_Q_far false P S L (by simpa using hd) hS2 hL) Y_Q_far m_375 m_547 ⟨by decide, by decide⟩ ⟨by decide, by decide⟩ (fun h => nomatch h) d_T_paidUntil_24 rfl (Nat.le_of_ble_eq_true rfl) (fun ret sg24 hq => ?_)
    obtain ⟨rfl, rfl⟩ := hq
    refine g_goto (tgt := 50) C d_T_paidUntil_27 (by decide) ?_
    refine g_lret C E hr d_T_paidUntil_50 ⟨rfl, rfl⟩
theorem c_Q_osh {l : Launch} {o n : Nat} {sg : Nat → va_E} (u : Bool) (X D : Nat) (hX : X < 2 ^ 63) (h0 : 0 < D) (hD : D ≤ 2 ^ 62) : GM l y_Q_ofShifted b_Q_ofShifted 10 (some .long) 1 12 0 0 o n n sg false [.long (lN X), .long (lN D), .int (bz u)] (gR (some (.long (lN (dv u (X * 4294967296) D)))) sg) := by
  have h := c_Q_ofShifted (l := l) (o := o) (n := n) (sg := sg) u X D hX h0 hD
  rw [pw32] at h
  exact h
theorem th_sub {f : Nat} (hf : f ≤ 100) : ((1000 : Int32) - nI f).toInt64 = lN (1000 - f) := by
  rw [show (1000 : Int32) = nI 1000 from rfl, pk_sub (by omega), nI_l (by omega)]
set_option maxRecDepth 4000 in
theorem big_LS {L S : Nat} (hL : L ≤ 600000000) (hS : S < 14706804615) : L * S < 2 ^ 63 := Nat.lt_of_le_of_lt (m_le hL (Nat.le_of_lt_succ hS)) (by decide)
theorem big_D {L S r : Nat} (hL : L ≤ 600000000) (hS : S < 14706804615) (hr : r ≤ 100000000) : L * 4294967296 + r * S ≤ 2 ^ 62 := Nat.le_trans (Nat.add_le_add (m_le hL (Nat.le_refl 4294967296)) (m_le hr (Nat.le_of_lt_succ hS))) (by decide)
theorem big_r {r : Nat} (hr : r ≤ 2100000000) : r * 4294967296 < 2 ^ 63 := Nat.lt_of_le_of_lt (m_le hr (Nat.le_refl 4294967296)) (by decide)
theorem c_T_priceByTaking {l : Launch} {o n : Nat} {sg : Nat → va_E} {k kr kp kc f kn kt : Nat} {gr ne : Nat → Int32} {dn ex : Bool} {lim paid got : Int64} {S L r : Nat} {tz : Int} {g ou : Nat → Int64} (T : Nat) (hk : k < n) (hc : kc + 2 < n) (hp : kp + 2 < n) (hT : isT sg o k kr kp kc dn ex (lN r) lim paid got) (hPl : isP sg o kp kr f kn kt gr ne) (hC : isC sg o kc (lN S) tz (nI L) g ou) (hf : f ≤ 100) (hr : r ≤ 100000000) (hL : L ≤ 600000000) (hS : 0 < S) (hT0 : 0 < T) (hS2 : S < 14706804615) (hT2 : T < 14706804615) (hd : if dn = true then T ≤ S else S ≤ T) : GM l y_T_priceByTaking b_T_priceByTaking 9 (some .long) 4 89 0 0 o n n sg false [.ref (ad o k), .long (lN T)] (gR (some (.long (lN (zPrIn dn L S T (r * (1000 - f) / 1000))))) sg) := by
  have hc1 := hC.1
  have hp1 := hPl.1
  have ht1 : sg k = _ := hT
  have hu : r * (1000 - f) / 1000 ≤ 100000000 := Nat.le_trans (Nat.div_le_of_le_mul (by rw [Nat.mul_comm]; exact Nat.mul_le_mul_right r (by omega))) hr
  have hrf : r * (1000 - f) < 2 ^ 63 := Nat.lt_of_le_of_lt (m_le hr (show 1000 - f ≤ 1000 by omega)) (by decide)
  have hd0 : dv false (r * (1000 - f)) 1000 = r * (1000 - f) / 1000 := dv_f
  generalize hU : r * (1000 - f) / 1000 = U at hu hd0 ⊢
  refine GM_of (by decide) (Nat.le_of_ble_eq_true rfl) ?_
  intro K C hl hz hr0 hnm E
  show G K o n sg 0 0 0 [(0, .ref (ad o k)), (1, .long (lN T))] []
  have hlt1 : U < 2 ^ 63 := Nat.lt_of_le_of_lt hu (by decide)
  have hzin : zIn dn L S T < 2 ^ 63 := by
    cases dn
    · exact Nat.lt_of_le_of_lt (zFar_b hL hT2) (by decide)
    · have h2 := zNear_le (u := true) (L := L) hT0 (show T ≤ S by simpa using hd)
      have h3 : zNear true L T S ≤ L * 4294967296 := dv_mono hT0 (Nat.le_trans h2 (Nat.le_mul_of_pos_left _ hT0))
      exact Nat.lt_of_le_of_lt h3 (big_r (by omega))
  have hr := hr0
  by_cases hge : zIn dn L S T ≤ U
  · refine g_aload_n C rfl rfl d_T_priceByTaking_0 ?_
    refine gf_T_28 C d_T_priceByTaking_1 (by first | assumption | omega) (by repeat' first | assumption | exact up_eq _ _ _ | refine up_ne (by omega) ?_) (by rfl) ?_
    refine gf_T_51 C d_T_priceByTaking_4 (by first | assumption | omega) (by repeat' first | assumption | exact up_eq _ _ _ | refine up_ne (by omega) ?_) (by rfl) ?_
    refine g_lstore_n (lv' := [(3, .long (lN S)), (0, .ref (ad o k)), (1, .long (lN T))]) C d_T_priceByTaking_7 rfl (by decide) rfl ?_
    refine g_aload_n C rfl rfl d_T_priceByTaking_8 ?_
    refine gf_T_28 C d_T_priceByTaking_9 (by first | assumption | omega) (by repeat' first | assumption | exact up_eq _ _ _ | refine up_ne (by omega) ?_) (by rfl) ?_
    refine gf_T_100 C d_T_priceByTaking_12 (by first | assumption | omega) (by repeat' first | assumption | exact up_eq _ _ _ | refine up_ne (by omega) ?_) (by rfl) ?_
    refine g_i2l C d_T_priceByTaking_15 ?_
    rw [nI_l (by omega)]
    refine g_lstore (lv' := [(5, .long (lN L)), (3, .long (lN S)), (0, .ref (ad o k)), (1, .long (lN T))]) C d_T_priceByTaking_16 (by decide) rfl ?_
    refine g_aload_n C rfl rfl d_T_priceByTaking_18 ?_
    refine gf_T_38 C d_T_priceByTaking_19 (by first | assumption | omega) (by repeat' first | assumption | exact up_eq _ _ _ | refine up_ne (by omega) ?_) (by rfl) ?_
    refine g_sipush (v := 1000) C rfl d_T_priceByTaking_22 ?_
    refine g_aload_n C rfl rfl d_T_priceByTaking_25 ?_
    refine gf_T_20 C d_T_priceByTaking_26 (by first | assumption | omega) (by repeat' first | assumption | exact up_eq _ _ _ | refine up_ne (by omega) ?_) (by rfl) ?_
    refine gf_T_103 C d_T_priceByTaking_29 (by first | assumption | omega) (by repeat' first | assumption | exact up_eq _ _ _ | refine up_ne (by omega) ?_) (by rfl) ?_
    refine g_isub C d_T_priceByTaking_32 ?_
    refine g_i2l C d_T_priceByTaking_33 ?_
    rw [th_sub hf]
    refine g_lmul C d_T_priceByTaking_34 ?_
    rw [lN_mul]
    refine g_ldc2 C m_540 d_T_priceByTaking_35 ?_
    refine g_iconst (v := 0) C rfl d_T_priceByTaking_38 ?_
    refine g_callS C (c_Q_of false (r * (1000 - f)) 1000 hrf (by decide) (by decide)) Y_Q_of m_368 m_541 ⟨by decide, by decide⟩ ⟨by decide, by decide⟩ (fun h => nomatch h) d_T_priceByTaking_39 rfl (Nat.le_of_ble_eq_true rfl) (fun ret sg39 hq => ?_)
    obtain ⟨rfl, rfl⟩ := hq
    rw [hd0]
    refine g_lstore (lv' := [(7, .long (lN U)), (5, .long (lN L)), (3, .long (lN S)), (0, .ref (ad o k)), (1, .long (lN T))]) C d_T_priceByTaking_42 (by decide) rfl ?_
    refine g_lload C rfl d_T_priceByTaking_44 ?_
    refine g_aload_n C rfl rfl d_T_priceByTaking_46 ?_
    refine g_lload_n C rfl rfl d_T_priceByTaking_47 ?_
    refine g_callV C (c_T_takenUntil T hk hc hT hC hL hS hT0 hS2 hT2 hd) Y_T_takenUntil m_544 s_T_takenUntil m_542 rfl rfl ⟨by decide, by decide⟩ ⟨by decide, by decide⟩ (fun h => nomatch h) d_T_priceByTaking_48 (by first | assumption | omega) (by repeat' first | assumption | exact up_eq _ _ _ | refine up_ne (by omega) ?_) rfl (Nat.le_of_ble_eq_true rfl) (fun ret sg48 hq => ?_)
    obtain ⟨rfl, rfl⟩ := hq
    refine g_lcmp_lt (tgt := 57) C d_T_priceByTaking_51 d_T_priceByTaking_52 (by decide) (fun j51 => ?_) (fun j51 => ?_)
    · exact absurd ((pk_lLT hlt1 hzin).mp j51) (by omega)
    refine g_lload_n C rfl rfl d_T_priceByTaking_55 ?_
    refine g_lret C E hr d_T_priceByTaking_56 ⟨by rw [zPrIn, if_pos hge], rfl⟩
  · have hL0 : 0 < L := L_pos_in (Nat.not_le.mp hge)
    cases dn
    · refine g_aload_n C rfl rfl d_T_priceByTaking_0 ?_
      refine gf_T_28 C d_T_priceByTaking_1 (by first | assumption | omega) (by repeat' first | assumption | exact up_eq _ _ _ | refine up_ne (by omega) ?_) (by rfl) ?_
      refine gf_T_51 C d_T_priceByTaking_4 (by first | assumption | omega) (by repeat' first | assumption | exact up_eq _ _ _ | refine up_ne (by omega) ?_) (by rfl) ?_
      refine g_lstore_n (lv' := [(3, .long (lN S)), (0, .ref (ad o k)), (1, .long (lN T))]) C d_T_priceByTaking_7 rfl (by decide) rfl ?_
      refine g_aload_n C rfl rfl d_T_priceByTaking_8 ?_
      refine gf_T_28 C d_T_priceByTaking_9 (by first | assumption | omega) (by repeat' first | assumption | exact up_eq _ _ _ | refine up_ne (by omega) ?_) (by rfl) ?_
      refine gf_T_100 C d_T_priceByTaking_12 (by first | assumption | omega) (by repeat' first | assumption | exact up_eq _ _ _ | refine up_ne (by omega) ?_) (by rfl) ?_
      refine g_i2l C d_T_priceByTaking_15 ?_
      rw [nI_l (by omega)]
      refine g_lstore (lv' := [(5, .long (lN L)), (3, .long (lN S)), (0, .ref (ad o k)), (1, .long (lN T))]) C d_T_priceByTaking_16 (by decide) rfl ?_
      refine g_aload_n C rfl rfl d_T_priceByTaking_18 ?_
      refine gf_T_38 C d_T_priceByTaking_19 (by first | assumption | omega) (by repeat' first | assumption | exact up_eq _ _ _ | refine up_ne (by omega) ?_) (by rfl) ?_
      refine g_sipush (v := 1000) C rfl d_T_priceByTaking_22 ?_
      refine g_aload_n C rfl rfl d_T_priceByTaking_25 ?_
      refine gf_T_20 C d_T_priceByTaking_26 (by first | assumption | omega) (by repeat' first | assumption | exact up_eq _ _ _ | refine up_ne (by omega) ?_) (by rfl) ?_
      refine gf_T_103 C d_T_priceByTaking_29 (by first | assumption | omega) (by repeat' first | assumption | exact up_eq _ _ _ | refine up_ne (by omega) ?_) (by rfl) ?_
      refine g_isub C d_T_priceByTaking_32 ?_
      refine g_i2l C d_T_priceByTaking_33 ?_
      rw [th_sub hf]
      refine g_lmul C d_T_priceByTaking_34 ?_
      rw [lN_mul]
      refine g_ldc2 C m_540 d_T_priceByTaking_35 ?_
      refine g_iconst (v := 0) C rfl d_T_priceByTaking_38 ?_
      refine g_callS C (c_Q_of false (r * (1000 - f)) 1000 hrf (by decide) (by decide)) Y_Q_of m_368 m_541 ⟨by decide, by decide⟩ ⟨by decide, by decide⟩ (fun h => nomatch h) d_T_priceByTaking_39 rfl (Nat.le_of_ble_eq_true rfl) (fun ret sg39 hq => ?_)
      obtain ⟨rfl, rfl⟩ := hq
      rw [hd0]
      refine g_lstore (lv' := [(7, .long (lN U)), (5, .long (lN L)), (3, .long (lN S)), (0, .ref (ad o k)), (1, .long (lN T))]) C d_T_priceByTaking_42 (by decide) rfl ?_
      refine g_lload C rfl d_T_priceByTaking_44 ?_
      refine g_aload_n C rfl rfl d_T_priceByTaking_46 ?_
      refine g_lload_n C rfl rfl d_T_priceByTaking_47 ?_
      refine g_callV C (c_T_takenUntil T hk hc hT hC hL hS hT0 hS2 hT2 hd) Y_T_takenUntil m_544 s_T_takenUntil m_542 rfl rfl ⟨by decide, by decide⟩ ⟨by decide, by decide⟩ (fun h => nomatch h) d_T_priceByTaking_48 (by first | assumption | omega) (by repeat' first | assumption | exact up_eq _ _ _ | refine up_ne (by omega) ?_) rfl (Nat.le_of_ble_eq_true rfl) (fun ret sg48 hq => ?_)
      obtain ⟨rfl, rfl⟩ := hq
      refine g_lcmp_lt (tgt := 57) C d_T_priceByTaking_51 d_T_priceByTaking_52 (by decide) (fun j51 => ?_) (fun j51 => ?_)
      rotate_left
      · exact absurd ((pk_lLT hlt1 hzin).mpr (by omega)) j51
      refine g_aload_n C rfl rfl d_T_priceByTaking_57 ?_
      refine gf_T_31 C d_T_priceByTaking_58 (by first | assumption | omega) (by repeat' first | assumption | exact up_eq _ _ _ | refine up_ne (by omega) ?_) (by rfl) ?_
      refine g_if_eq (tgt := 84) C d_T_priceByTaking_61 (by decide) (fun j61 => ?_) (fun j61 => ?_)
      rotate_left
      · exact absurd rfl j61
      refine g_lload_n C rfl rfl d_T_priceByTaking_84 ?_
      refine g_lload C rfl d_T_priceByTaking_85 ?_
      refine g_ldc2 C m_548 d_T_priceByTaking_87 ?_
      refine g_lmul C d_T_priceByTaking_90 ?_
      rw [show (4294967296 : Int64) = lN 4294967296 from rfl, lN_mul]
      refine g_lload C rfl d_T_priceByTaking_91 ?_
      refine g_iconst (v := 0) C rfl d_T_priceByTaking_93 ?_
      refine g_callS C (c_Q_of false (U * 4294967296) L (big_r (by omega)) hL0 (by omega)) Y_Q_of m_368 m_541 ⟨by decide, by decide⟩ ⟨by decide, by decide⟩ (fun h => nomatch h) d_T_priceByTaking_94 rfl (Nat.le_of_ble_eq_true rfl) (fun ret sg94 hq => ?_)
      obtain ⟨rfl, rfl⟩ := hq
      refine g_ladd C d_T_priceByTaking_97 ?_
      rw [lN_add]
      refine g_lret C E hr d_T_priceByTaking_98 ⟨by rw [zPrIn, if_neg hge, dv_f, if_neg (show ¬ false = true by decide)], rfl⟩
    · refine g_aload_n C rfl rfl d_T_priceByTaking_0 ?_
      refine gf_T_28 C d_T_priceByTaking_1 (by first | assumption | omega) (by repeat' first | assumption | exact up_eq _ _ _ | refine up_ne (by omega) ?_) (by rfl) ?_
      refine gf_T_51 C d_T_priceByTaking_4 (by first | assumption | omega) (by repeat' first | assumption | exact up_eq _ _ _ | refine up_ne (by omega) ?_) (by rfl) ?_
      refine g_lstore_n (lv' := [(3, .long (lN S)), (0, .ref (ad o k)), (1, .long (lN T))]) C d_T_priceByTaking_7 rfl (by decide) rfl ?_
      refine g_aload_n C rfl rfl d_T_priceByTaking_8 ?_
      refine gf_T_28 C d_T_priceByTaking_9 (by first | assumption | omega) (by repeat' first | assumption | exact up_eq _ _ _ | refine up_ne (by omega) ?_) (by rfl) ?_
      refine gf_T_100 C d_T_priceByTaking_12 (by first | assumption | omega) (by repeat' first | assumption | exact up_eq _ _ _ | refine up_ne (by omega) ?_) (by rfl) ?_
      refine g_i2l C d_T_priceByTaking_15 ?_
      rw [nI_l (by omega)]
      refine g_lstore (lv' := [(5, .long (lN L)), (3, .long (lN S)), (0, .ref (ad o k)), (1, .long (lN T))]) C d_T_priceByTaking_16 (by decide) rfl ?_
      refine g_aload_n C rfl rfl d_T_priceByTaking_18 ?_
      refine gf_T_38 C d_T_priceByTaking_19 (by first | assumption | omega) (by repeat' first | assumption | exact up_eq _ _ _ | refine up_ne (by omega) ?_) (by rfl) ?_
      refine g_sipush (v := 1000) C rfl d_T_priceByTaking_22 ?_
      refine g_aload_n C rfl rfl d_T_priceByTaking_25 ?_
      refine gf_T_20 C d_T_priceByTaking_26 (by first | assumption | omega) (by repeat' first | assumption | exact up_eq _ _ _ | refine up_ne (by omega) ?_) (by rfl) ?_
      refine gf_T_103 C d_T_priceByTaking_29 (by first | assumption | omega) (by repeat' first | assumption | exact up_eq _ _ _ | refine up_ne (by omega) ?_) (by rfl) ?_
      refine g_isub C d_T_priceByTaking_32 ?_
      refine g_i2l C d_T_priceByTaking_33 ?_
      rw [th_sub hf]
      refine g_lmul C d_T_priceByTaking_34 ?_
      rw [lN_mul]
      refine g_ldc2 C m_540 d_T_priceByTaking_35 ?_
      refine g_iconst (v := 0) C rfl d_T_priceByTaking_38 ?_
      refine g_callS C (c_Q_of false (r * (1000 - f)) 1000 hrf (by decide) (by decide)) Y_Q_of m_368 m_541 ⟨by decide, by decide⟩ ⟨by decide, by decide⟩ (fun h => nomatch h) d_T_priceByTaking_39 rfl (Nat.le_of_ble_eq_true rfl) (fun ret sg39 hq => ?_)
      obtain ⟨rfl, rfl⟩ := hq
      rw [hd0]
      refine g_lstore (lv' := [(7, .long (lN U)), (5, .long (lN L)), (3, .long (lN S)), (0, .ref (ad o k)), (1, .long (lN T))]) C d_T_priceByTaking_42 (by decide) rfl ?_
      refine g_lload C rfl d_T_priceByTaking_44 ?_
      refine g_aload_n C rfl rfl d_T_priceByTaking_46 ?_
      refine g_lload_n C rfl rfl d_T_priceByTaking_47 ?_
      refine g_callV C (c_T_takenUntil T hk hc hT hC hL hS hT0 hS2 hT2 hd) Y_T_takenUntil m_544 s_T_takenUntil m_542 rfl rfl ⟨by decide, by decide⟩ ⟨by decide, by decide⟩ (fun h => nomatch h) d_T_priceByTaking_48 (by first | assumption | omega) (by repeat' first | assumption | exact up_eq _ _ _ | refine up_ne (by omega) ?_) rfl (Nat.le_of_ble_eq_true rfl) (fun ret sg48 hq => ?_)
      obtain ⟨rfl, rfl⟩ := hq
      refine g_lcmp_lt (tgt := 57) C d_T_priceByTaking_51 d_T_priceByTaking_52 (by decide) (fun j51 => ?_) (fun j51 => ?_)
      rotate_left
      · exact absurd ((pk_lLT hlt1 hzin).mpr (by omega)) j51
      refine g_aload_n C rfl rfl d_T_priceByTaking_57 ?_
      refine gf_T_31 C d_T_priceByTaking_58 (by first | assumption | omega) (by repeat' first | assumption | exact up_eq _ _ _ | refine up_ne (by omega) ?_) (by rfl) ?_
      refine g_if_eq (tgt := 84) C d_T_priceByTaking_61 (by decide) (fun j61 => ?_) (fun j61 => ?_)
      · exact absurd j61 (by decide)
      refine g_lload C rfl d_T_priceByTaking_64 ?_
      refine g_lload_n C rfl rfl d_T_priceByTaking_66 ?_
      refine g_lmul C d_T_priceByTaking_67 ?_
      refine g_lload C rfl d_T_priceByTaking_68 ?_
      refine g_ldc2 C m_548 d_T_priceByTaking_70 ?_
      refine g_lmul C d_T_priceByTaking_73 ?_
      refine g_lload C rfl d_T_priceByTaking_74 ?_
      refine g_lload_n C rfl rfl d_T_priceByTaking_76 ?_
      refine g_lmul C d_T_priceByTaking_77 ?_
      refine g_ladd C d_T_priceByTaking_78 ?_
      rw [show (4294967296 : Int64) = lN 4294967296 from rfl, lN_mul, lN_mul, lN_mul, lN_add]
      refine g_iconst (v := 1) C rfl d_T_priceByTaking_79 ?_
      refine g_callS C (c_Q_osh true (L * S) (L * 4294967296 + U * S) (big_LS hL hS2) (Nat.lt_of_lt_of_le (Nat.mul_pos hL0 (by decide)) (Nat.le_add_right _ _)) (big_D hL hS2 hu)) Y_Q_ofShifted m_365 m_549 ⟨by decide, by decide⟩ ⟨by decide, by decide⟩ (fun h => nomatch h) d_T_priceByTaking_80 rfl (Nat.le_of_ble_eq_true rfl) (fun ret sg80 hq => ?_)
      obtain ⟨rfl, rfl⟩ := hq
      refine g_lret C E hr d_T_priceByTaking_83 ⟨by rw [zPrIn, if_neg hge, if_pos (show true = true from rfl)], rfl⟩
theorem c_T_priceByPaying {l : Launch} {o n : Nat} {sg : Nat → va_E} {k kr kp kc : Nat} {dn ex : Bool} {lim paid got : Int64} {S L r : Nat} {tz : Int} {g ou : Nat → Int64} (T : Nat) (hk : k < n) (hc : kc + 2 < n) (hT : isT sg o k kr kp kc dn ex (lN r) lim paid got) (hC : isC sg o kc (lN S) tz (nI L) g ou) (hr : r ≤ 100000000) (hL : L ≤ 600000000) (hS : 0 < S) (hT0 : 0 < T) (hS2 : S < 14706804615) (hT2 : T < 14706804615) (hd : if dn = true then T ≤ S else S ≤ T) : GM l y_T_priceByPaying b_T_priceByPaying 7 (some .long) 4 89 0 0 o n n sg false [.ref (ad o k), .long (lN T)] (gR (some (.long (lN (zPrOut dn L S T r)))) sg) := by
  have hc1 := hC.1
  have ht1 : sg k = _ := hT
  refine GM_of (by decide) (Nat.le_of_ble_eq_true rfl) ?_
  intro K C hl hz hr0 hnm E
  show G K o n sg 0 0 0 [(0, .ref (ad o k)), (1, .long (lN T))] []
  have hlt1 : r < 2 ^ 63 := Nat.lt_of_le_of_lt hr (by decide)
  have hzin : zOut dn L S T < 2 ^ 63 := by
    cases dn
    · have h2 := zNear_le (u := false) (L := L) hS (show S ≤ T by simpa using hd)
      have h3 : zNear false L S T ≤ L * 4294967296 := dv_mono hS (Nat.le_trans h2 (Nat.le_mul_of_pos_left _ hS))
      exact Nat.lt_of_le_of_lt h3 (big_r (by omega))
    · exact Nat.lt_of_le_of_lt (zFar_b hL hS2) (by decide)
  have hrr := hr
  have hr := hr0
  by_cases hge : zOut dn L S T ≤ r
  · refine g_aload_n C rfl rfl d_T_priceByPaying_0 ?_
    refine gf_T_28 C d_T_priceByPaying_1 (by first | assumption | omega) (by repeat' first | assumption | exact up_eq _ _ _ | refine up_ne (by omega) ?_) (by rfl) ?_
    refine gf_T_51 C d_T_priceByPaying_4 (by first | assumption | omega) (by repeat' first | assumption | exact up_eq _ _ _ | refine up_ne (by omega) ?_) (by rfl) ?_
    refine g_lstore_n (lv' := [(3, .long (lN S)), (0, .ref (ad o k)), (1, .long (lN T))]) C d_T_priceByPaying_7 rfl (by decide) rfl ?_
    refine g_aload_n C rfl rfl d_T_priceByPaying_8 ?_
    refine gf_T_28 C d_T_priceByPaying_9 (by first | assumption | omega) (by repeat' first | assumption | exact up_eq _ _ _ | refine up_ne (by omega) ?_) (by rfl) ?_
    refine gf_T_100 C d_T_priceByPaying_12 (by first | assumption | omega) (by repeat' first | assumption | exact up_eq _ _ _ | refine up_ne (by omega) ?_) (by rfl) ?_
    refine g_i2l C d_T_priceByPaying_15 ?_
    rw [nI_l (by omega)]
    refine g_lstore (lv' := [(5, .long (lN L)), (3, .long (lN S)), (0, .ref (ad o k)), (1, .long (lN T))]) C d_T_priceByPaying_16 (by decide) rfl ?_
    refine g_aload_n C rfl rfl d_T_priceByPaying_18 ?_
    refine gf_T_38 C d_T_priceByPaying_19 (by first | assumption | omega) (by repeat' first | assumption | exact up_eq _ _ _ | refine up_ne (by omega) ?_) (by rfl) ?_
    refine g_aload_n C rfl rfl d_T_priceByPaying_22 ?_
    refine g_lload_n C rfl rfl d_T_priceByPaying_23 ?_
    refine g_callV C (c_T_paidUntil T hk hc hT hC hL hS hT0 hS2 hT2 hd) Y_T_paidUntil m_556 s_T_paidUntil m_554 rfl rfl ⟨by decide, by decide⟩ ⟨by decide, by decide⟩ (fun h => nomatch h) d_T_priceByPaying_24 (by first | assumption | omega) (by repeat' first | assumption | exact up_eq _ _ _ | refine up_ne (by omega) ?_) rfl (Nat.le_of_ble_eq_true rfl) (fun ret sg24 hq => ?_)
    obtain ⟨rfl, rfl⟩ := hq
    refine g_lcmp_lt (tgt := 33) C d_T_priceByPaying_27 d_T_priceByPaying_28 (by decide) (fun j27 => ?_) (fun j27 => ?_)
    · exact absurd ((pk_lLT hlt1 hzin).mp j27) (by omega)
    refine g_lload_n C rfl rfl d_T_priceByPaying_31 ?_
    refine g_lret C E hr d_T_priceByPaying_32 ⟨by rw [zPrOut, if_pos hge], rfl⟩
  · have hL0 : 0 < L := L_pos_out (Nat.not_le.mp hge)
    cases dn
    · refine g_aload_n C rfl rfl d_T_priceByPaying_0 ?_
      refine gf_T_28 C d_T_priceByPaying_1 (by first | assumption | omega) (by repeat' first | assumption | exact up_eq _ _ _ | refine up_ne (by omega) ?_) (by rfl) ?_
      refine gf_T_51 C d_T_priceByPaying_4 (by first | assumption | omega) (by repeat' first | assumption | exact up_eq _ _ _ | refine up_ne (by omega) ?_) (by rfl) ?_
      refine g_lstore_n (lv' := [(3, .long (lN S)), (0, .ref (ad o k)), (1, .long (lN T))]) C d_T_priceByPaying_7 rfl (by decide) rfl ?_
      refine g_aload_n C rfl rfl d_T_priceByPaying_8 ?_
      refine gf_T_28 C d_T_priceByPaying_9 (by first | assumption | omega) (by repeat' first | assumption | exact up_eq _ _ _ | refine up_ne (by omega) ?_) (by rfl) ?_
      refine gf_T_100 C d_T_priceByPaying_12 (by first | assumption | omega) (by repeat' first | assumption | exact up_eq _ _ _ | refine up_ne (by omega) ?_) (by rfl) ?_
      refine g_i2l C d_T_priceByPaying_15 ?_
      rw [nI_l (by omega)]
      refine g_lstore (lv' := [(5, .long (lN L)), (3, .long (lN S)), (0, .ref (ad o k)), (1, .long (lN T))]) C d_T_priceByPaying_16 (by decide) rfl ?_
      refine g_aload_n C rfl rfl d_T_priceByPaying_18 ?_
      refine gf_T_38 C d_T_priceByPaying_19 (by first | assumption | omega) (by repeat' first | assumption | exact up_eq _ _ _ | refine up_ne (by omega) ?_) (by rfl) ?_
      refine g_aload_n C rfl rfl d_T_priceByPaying_22 ?_
      refine g_lload_n C rfl rfl d_T_priceByPaying_23 ?_
      refine g_callV C (c_T_paidUntil T hk hc hT hC hL hS hT0 hS2 hT2 hd) Y_T_paidUntil m_556 s_T_paidUntil m_554 rfl rfl ⟨by decide, by decide⟩ ⟨by decide, by decide⟩ (fun h => nomatch h) d_T_priceByPaying_24 (by first | assumption | omega) (by repeat' first | assumption | exact up_eq _ _ _ | refine up_ne (by omega) ?_) rfl (Nat.le_of_ble_eq_true rfl) (fun ret sg24 hq => ?_)
      obtain ⟨rfl, rfl⟩ := hq
      refine g_lcmp_lt (tgt := 33) C d_T_priceByPaying_27 d_T_priceByPaying_28 (by decide) (fun j27 => ?_) (fun j27 => ?_)
      rotate_left
      · exact absurd ((pk_lLT hlt1 hzin).mpr (by omega)) j27
      refine g_aload_n C rfl rfl d_T_priceByPaying_33 ?_
      refine gf_T_31 C d_T_priceByPaying_34 (by first | assumption | omega) (by repeat' first | assumption | exact up_eq _ _ _ | refine up_ne (by omega) ?_) (by rfl) ?_
      refine g_if_eq (tgt := 57) C d_T_priceByPaying_37 (by decide) (fun j37 => ?_) (fun j37 => ?_)
      rotate_left
      · exact absurd rfl j37
      refine g_lload C rfl d_T_priceByPaying_57 ?_
      refine g_lload_n C rfl rfl d_T_priceByPaying_59 ?_
      refine g_lmul C d_T_priceByPaying_60 ?_
      refine g_lload C rfl d_T_priceByPaying_61 ?_
      refine g_ldc2 C m_548 d_T_priceByPaying_63 ?_
      refine g_lmul C d_T_priceByPaying_66 ?_
      refine g_aload_n C rfl rfl d_T_priceByPaying_67 ?_
      refine gf_T_38 C d_T_priceByPaying_68 (by first | assumption | omega) (by repeat' first | assumption | exact up_eq _ _ _ | refine up_ne (by omega) ?_) (by rfl) ?_
      refine g_lload_n C rfl rfl d_T_priceByPaying_71 ?_
      refine g_lmul C d_T_priceByPaying_72 ?_
      refine g_lsub C d_T_priceByPaying_73 ?_
      rw [show (4294967296 : Int64) = lN 4294967296 from rfl, lN_mul, lN_mul, lN_mul, lN_sub (Nat.le_trans (Nat.le_add_right _ _) (up_out hS (show S ≤ T from hd) (Nat.not_le.mp hge)).1)]
      refine g_iconst (v := 1) C rfl d_T_priceByPaying_74 ?_
      refine g_callS C (c_Q_osh true (L * S) (L * 4294967296 - r * S) (big_LS hL hS2) (Nat.sub_pos_of_lt (Nat.lt_of_lt_of_le (Nat.lt_add_of_pos_right hS) (up_out hS (show S ≤ T from hd) (Nat.not_le.mp hge)).1)) (Nat.le_trans (Nat.sub_le _ _) (Nat.le_trans (m_le hL (Nat.le_refl 4294967296)) (by decide)))) Y_Q_ofShifted m_365 m_549 ⟨by decide, by decide⟩ ⟨by decide, by decide⟩ (fun h => nomatch h) d_T_priceByPaying_75 rfl (Nat.le_of_ble_eq_true rfl) (fun ret sg75 hq => ?_)
      obtain ⟨rfl, rfl⟩ := hq
      refine g_lret C E hr d_T_priceByPaying_78 ⟨by rw [zPrOut, if_neg hge, if_neg (show ¬ false = true by decide)], rfl⟩
    · refine g_aload_n C rfl rfl d_T_priceByPaying_0 ?_
      refine gf_T_28 C d_T_priceByPaying_1 (by first | assumption | omega) (by repeat' first | assumption | exact up_eq _ _ _ | refine up_ne (by omega) ?_) (by rfl) ?_
      refine gf_T_51 C d_T_priceByPaying_4 (by first | assumption | omega) (by repeat' first | assumption | exact up_eq _ _ _ | refine up_ne (by omega) ?_) (by rfl) ?_
      refine g_lstore_n (lv' := [(3, .long (lN S)), (0, .ref (ad o k)), (1, .long (lN T))]) C d_T_priceByPaying_7 rfl (by decide) rfl ?_
      refine g_aload_n C rfl rfl d_T_priceByPaying_8 ?_
      refine gf_T_28 C d_T_priceByPaying_9 (by first | assumption | omega) (by repeat' first | assumption | exact up_eq _ _ _ | refine up_ne (by omega) ?_) (by rfl) ?_
      refine gf_T_100 C d_T_priceByPaying_12 (by first | assumption | omega) (by repeat' first | assumption | exact up_eq _ _ _ | refine up_ne (by omega) ?_) (by rfl) ?_
      refine g_i2l C d_T_priceByPaying_15 ?_
      rw [nI_l (by omega)]
      refine g_lstore (lv' := [(5, .long (lN L)), (3, .long (lN S)), (0, .ref (ad o k)), (1, .long (lN T))]) C d_T_priceByPaying_16 (by decide) rfl ?_
      refine g_aload_n C rfl rfl d_T_priceByPaying_18 ?_
      refine gf_T_38 C d_T_priceByPaying_19 (by first | assumption | omega) (by repeat' first | assumption | exact up_eq _ _ _ | refine up_ne (by omega) ?_) (by rfl) ?_
      refine g_aload_n C rfl rfl d_T_priceByPaying_22 ?_
      refine g_lload_n C rfl rfl d_T_priceByPaying_23 ?_
      refine g_callV C (c_T_paidUntil T hk hc hT hC hL hS hT0 hS2 hT2 hd) Y_T_paidUntil m_556 s_T_paidUntil m_554 rfl rfl ⟨by decide, by decide⟩ ⟨by decide, by decide⟩ (fun h => nomatch h) d_T_priceByPaying_24 (by first | assumption | omega) (by repeat' first | assumption | exact up_eq _ _ _ | refine up_ne (by omega) ?_) rfl (Nat.le_of_ble_eq_true rfl) (fun ret sg24 hq => ?_)
      obtain ⟨rfl, rfl⟩ := hq
      refine g_lcmp_lt (tgt := 33) C d_T_priceByPaying_27 d_T_priceByPaying_28 (by decide) (fun j27 => ?_) (fun j27 => ?_)
      rotate_left
      · exact absurd ((pk_lLT hlt1 hzin).mpr (by omega)) j27
      refine g_aload_n C rfl rfl d_T_priceByPaying_33 ?_
      refine gf_T_31 C d_T_priceByPaying_34 (by first | assumption | omega) (by repeat' first | assumption | exact up_eq _ _ _ | refine up_ne (by omega) ?_) (by rfl) ?_
      refine g_if_eq (tgt := 57) C d_T_priceByPaying_37 (by decide) (fun j37 => ?_) (fun j37 => ?_)
      · exact absurd j37 (by decide)
      refine g_lload_n C rfl rfl d_T_priceByPaying_40 ?_
      refine g_aload_n C rfl rfl d_T_priceByPaying_41 ?_
      refine gf_T_38 C d_T_priceByPaying_42 (by first | assumption | omega) (by repeat' first | assumption | exact up_eq _ _ _ | refine up_ne (by omega) ?_) (by rfl) ?_
      refine g_ldc2 C m_548 d_T_priceByPaying_45 ?_
      refine g_lmul C d_T_priceByPaying_48 ?_
      rw [show (4294967296 : Int64) = lN 4294967296 from rfl, lN_mul]
      refine g_lload C rfl d_T_priceByPaying_49 ?_
      refine g_iconst (v := 1) C rfl d_T_priceByPaying_51 ?_
      refine g_callS C (c_Q_of true (r * 4294967296) L (big_r (by omega)) hL0 (by omega)) Y_Q_of m_368 m_541 ⟨by decide, by decide⟩ ⟨by decide, by decide⟩ (fun h => nomatch h) d_T_priceByPaying_52 rfl (Nat.le_of_ble_eq_true rfl) (fun ret sg52 hq => ?_)
      obtain ⟨rfl, rfl⟩ := hq
      refine g_lsub C d_T_priceByPaying_55 ?_
      rw [lN_sub (Nat.le_trans (dn_out (Nat.not_le.mp hge)) (Nat.sub_le _ _))]
      refine g_lret C E hr d_T_priceByPaying_56 ⟨by rw [zPrOut, if_neg hge, if_pos (show true = true from rfl)], rfl⟩

