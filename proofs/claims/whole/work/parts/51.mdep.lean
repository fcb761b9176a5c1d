-- DEPTHS AND SET TICKS IN THE REFERENCE
def dsum (b : Nat → Bool) (am : Nat → Nat) : Nat → Nat
  | 0 => 0
  | k + 1 => dsum b am k + (if b k = true then am k else 0)
def anyb (b : Nat → Bool) : Nat → Bool
  | 0 => false
  | k + 1 => anyb b k || b k
theorem c_M_depth {l : Launch} {o n : Nat} {sg : Nat → va_E} {m : Nat} {t0 : Int32} {la : Int64} {th : Nat → Bool} {ow pl : Nat → Nat} {lo hi : Nat → Int} {am : Nat → Nat} (p : Nat) (tz : Int) (hn : m + 22 < n) (hM : isM sg o m t0 la) (hP : isMP sg m th ow pl lo hi am) (hB : pBd pl lo hi) (hp : p < 2) (h5 : -41 ≤ tz) (h6 : tz ≤ 40) : GM l y_M_depth b_M_depth 6 (some .long) 2 35 0 0 o n n sg false [.ref (ad o m), .int (nI p), .int (iI tz)] (gR (some (.long (lN (dsum (mIn th pl lo hi p tz) am 12)))) sg) := by
  have hm1 : sg m = _ := hM
  have p6 := hP.2.2.2.2.2
  refine GM_of (by decide) (Nat.le_of_ble_eq_true rfl) ?_
  intro K C hl hz hr hnm E
  show G K o n sg 0 0 0 [(0, .ref (ad o m)), (1, .int (nI p)), (2, .int (iI tz))] []
  have loop : ∀ k i : Nat, i + k = 12 → ∀ (s : Int64) (x : Int32), s = lN (dsum (mIn th pl lo hi p tz) am i) → x = nI i → G K o n sg 0 0 5 [(5, .int x), (3, .long s), (0, .ref (ad o m)), (1, .int (nI p)), (2, .int (iI tz))] [] := by
    intro k
    induction k with
    | zero =>
      intro i hi2 s x es ex
      have hi3 : i = 12 := by omega
      subst hi3
      refine g_iload C rfl d_M_depth_5 ?_
      refine g_bipush (v := 12) C rfl d_M_depth_7 ?_
      refine g_icmp_ge (tgt := 43) C d_M_depth_9 (by decide) (fun j9 => ?_) (fun j9 => ?_)
      rotate_left
      · exact absurd (by rw [ex]; decide) j9
      refine g_lload_n C rfl rfl d_M_depth_43 ?_
      refine g_lret C E hr d_M_depth_44 ?_
      exact ⟨by rw [es], rfl⟩
    | succ k ih =>
      intro i hi2 s x es ex
      have hi3 : i < 12 := by omega
      have hcl : (nI i).toNatClampNeg = i := nI_clamp (by omega)
      rw [ex]
      refine g_iload C rfl d_M_depth_5 ?_
      refine g_bipush (v := 12) C rfl d_M_depth_7 ?_
      refine g_icmp_ge (tgt := 43) C d_M_depth_9 (by decide) (fun j9 => ?_) (fun j9 => ?_)
      · exact absurd j9 (nI_ge (a := i) (b := 12) hi3 (by decide))
      refine g_aload_n C rfl rfl d_M_depth_12 ?_
      refine g_iload C rfl d_M_depth_13 ?_
      refine g_iload_n C rfl rfl d_M_depth_15 ?_
      refine g_iload_n C rfl rfl d_M_depth_16 ?_
      refine g_callV C (c_M_inRange i p tz hn hM hP hB hi3 hp h5 h6) Y_M_inRange m_833 s_M_inRange m_831 rfl rfl ⟨by decide, by decide⟩ ⟨by decide, by decide⟩ (fun h => nomatch h) d_M_depth_17 (by first | assumption | omega) (by repeat' first | assumption | exact up_eq _ _ _ | refine up_ne (by omega) ?_) rfl (Nat.le_of_ble_eq_true rfl) (fun ret sg17 hq => ?_)
      obtain ⟨rfl, rfl⟩ := hq
      refine g_if_eq (tgt := 35) C d_M_depth_20 (by decide) (fun j20 => ?_) (fun j20 => ?_)
      · refine g_lload_n C rfl rfl d_M_depth_35 ?_
        refine g_topl (fun s1 e_s1 => ?_)
        refine g_lstore_n (lv' := [(3, .long s1), (5, .int (nI i)), (0, .ref (ad o m)), (1, .int (nI p)), (2, .int (iI tz))]) C d_M_depth_36 rfl (by decide) rfl ?_
        obtain ⟨y, e_y⟩ : ∃ y : Int32, ((nI i)) + Int32.ofInt 1 = y := ⟨_, rfl⟩
        refine g_iinc (lv' := [(5, .int y), (3, .long s1), (0, .ref (ad o m)), (1, .int (nI p)), (2, .int (iI tz))]) C d_M_depth_37 rfl e_y (by decide) rfl ?_
        refine g_goto (tgt := 5) C d_M_depth_40 (by decide) ?_
        refine g_pick [0, 1, 2, 3, 4] rfl ?_
        first | exact ih (i + 1) (by omega) _ _ (by rw [e_s1, es, lN_add, dsum, if_pos (nb0 j20)]) (by rw [← e_y]; exact nI_1 i) | exact ih (i + 1) (by omega) _ _ (by rw [e_s1, es, dsum, if_neg (by rw [(bz_eq0 _).mp j20]; decide), Nat.add_zero]) (by rw [← e_y]; exact nI_1 i)
      · refine g_lload_n C rfl rfl d_M_depth_23 ?_
        refine g_aload_n C rfl rfl d_M_depth_24 ?_
        refine gf_M_51 C d_M_depth_25 (by first | assumption | omega) (by repeat' first | assumption | exact up_eq _ _ _ | refine up_ne (by omega) ?_) (by rfl) ?_
        refine g_iload C rfl d_M_depth_28 ?_
        refine g_lald C d_M_depth_30 (by first | assumption | omega) (by repeat' first | assumption | exact up_eq _ _ _ | refine up_ne (by omega) ?_) (vp_in_nI hi3 (by decide)) ?_
        rw [hcl]
        refine g_ladd C d_M_depth_31 ?_
        refine g_goto (tgt := 36) C d_M_depth_32 (by decide) ?_
        refine g_topl (fun s1 e_s1 => ?_)
        refine g_lstore_n (lv' := [(3, .long s1), (5, .int (nI i)), (0, .ref (ad o m)), (1, .int (nI p)), (2, .int (iI tz))]) C d_M_depth_36 rfl (by decide) rfl ?_
        obtain ⟨y, e_y⟩ : ∃ y : Int32, ((nI i)) + Int32.ofInt 1 = y := ⟨_, rfl⟩
        refine g_iinc (lv' := [(5, .int y), (3, .long s1), (0, .ref (ad o m)), (1, .int (nI p)), (2, .int (iI tz))]) C d_M_depth_37 rfl e_y (by decide) rfl ?_
        refine g_goto (tgt := 5) C d_M_depth_40 (by decide) ?_
        refine g_pick [0, 1, 2, 3, 4] rfl ?_
        first | exact ih (i + 1) (by omega) _ _ (by rw [e_s1, es, lN_add, dsum, if_pos (nb0 j20)]) (by rw [← e_y]; exact nI_1 i) | exact ih (i + 1) (by omega) _ _ (by rw [e_s1, es, dsum, if_neg (by rw [(bz_eq0 _).mp j20]; decide), Nat.add_zero]) (by rw [← e_y]; exact nI_1 i)
  refine g_lconst (v := 0) C rfl d_M_depth_0 ?_
  refine g_topl (fun s e_s => ?_)
  refine g_lstore_n (lv' := [(3, .long s), (0, .ref (ad o m)), (1, .int (nI p)), (2, .int (iI tz))]) C d_M_depth_1 rfl (by decide) rfl ?_
  refine g_iconst (v := 0) C rfl d_M_depth_2 ?_
  refine g_topi (fun x e_x => ?_)
  refine g_istore (lv' := [(5, .int x), (3, .long s), (0, .ref (ad o m)), (1, .int (nI p)), (2, .int (iI tz))]) C d_M_depth_3 (by decide) rfl ?_
  exact loop 12 0 rfl _ _ e_s e_x
def mSt (th : Nat → Bool) (pl : Nat → Nat) (lo hi : Nat → Int) (am : Nat → Nat) (p : Nat) (z : Int) (i : Nat) : Bool := th i && decide (pl i = p ∧ 0 < am i ∧ (lo i = z ∨ hi i = z))
theorem c_M_isSet {l : Launch} {o n : Nat} {sg : Nat → va_E} {m : Nat} {t0 : Int32} {la : Int64} {th : Nat → Bool} {ow pl : Nat → Nat} {lo hi : Nat → Int} {am : Nat → Nat} (p : Nat) (z : Int) (hn : m + 22 < n) (hM : isM sg o m t0 la) (hP : isMP sg m th ow pl lo hi am) (hB : pBd pl lo hi) (hA : ∀ i, i < 12 → am i ≤ 50000000) (hp : p < 2) (h5 : -41 ≤ z) (h6 : z ≤ 41) : GM l y_M_isSet b_M_isSet 5 (some .boolean) 1 12 0 0 o n n sg false [.ref (ad o m), .int (nI p), .int (iI z)] (gR (some (.int (bz (anyb (mSt th pl lo hi am p z) 12)))) sg) := by
  have hm1 : sg m = _ := hM
  obtain ⟨p1, p2, p3, p4, p5, p6⟩ := hP
  refine GM_of (by decide) (Nat.le_of_ble_eq_true rfl) ?_
  intro K C hl hz hr hnm E
  show G K o n sg 0 0 0 [(0, .ref (ad o m)), (1, .int (nI p)), (2, .int (iI z))] []
  have loop : ∀ k i : Nat, i + k = 12 → ∀ (s x : Int32), s = bz (anyb (mSt th pl lo hi am p z) i) → x = nI i → G K o n sg 0 0 5 [(4, .int x), (3, .int s), (0, .ref (ad o m)), (1, .int (nI p)), (2, .int (iI z))] [] := by
    intro k
    induction k with
    | zero =>
      intro i hi2 s x es ex
      have hi3 : i = 12 := by omega
      subst hi3
      refine g_iload C rfl d_M_isSet_5 ?_
      refine g_bipush (v := 12) C rfl d_M_isSet_7 ?_
      refine g_icmp_ge (tgt := 83) C d_M_isSet_9 (by decide) (fun j9 => ?_) (fun j9 => ?_)
      rotate_left
      · exact absurd (by rw [ex]; decide) j9
      refine g_iload_n C rfl rfl d_M_isSet_83 ?_
      refine g_zret C E hr d_M_isSet_84 (by rw [es]; exact bz_nar _) ?_
      exact ⟨by rw [es], rfl⟩
    | succ k ih =>
      intro i hi2 s x es ex
      have hi3 : i < 12 := by omega
      have hcl : (nI i).toNatClampNeg = i := nI_clamp (by omega)
      have hin : vp_in (nI i) 12 := vp_in_nI hi3 (by decide)
      obtain ⟨b1, b2, b3, b4, b5⟩ := hB i hi3
      have b6 := hA i hi3
      rw [ex]
      refine g_iload C rfl d_M_isSet_5 ?_
      refine g_bipush (v := 12) C rfl d_M_isSet_7 ?_
      refine g_icmp_ge (tgt := 83) C d_M_isSet_9 (by decide) (fun j9 => ?_) (fun j9 => ?_)
      · exact absurd j9 (nI_ge (a := i) (b := 12) hi3 (by decide))
      refine g_iload_n C rfl rfl d_M_isSet_12 ?_
      refine g_if_ne (tgt := 71) C d_M_isSet_13 (by decide) (fun j13 => ?_) (fun j13 => ?_)
      · refine g_iconst (v := 1) C rfl d_M_isSet_71 ?_
        refine g_goto (tgt := 76) C d_M_isSet_72 (by decide) ?_
        refine g_topi (fun s1 e_s1 => ?_)
        refine g_istore_n (lv' := [(3, .int s1), (4, .int (nI i)), (0, .ref (ad o m)), (1, .int (nI p)), (2, .int (iI z))]) C d_M_isSet_76 rfl (by decide) rfl ?_
        obtain ⟨y, e_y⟩ : ∃ y : Int32, ((nI i)) + Int32.ofInt 1 = y := ⟨_, rfl⟩
        refine g_iinc (lv' := [(4, .int y), (3, .int s1), (0, .ref (ad o m)), (1, .int (nI p)), (2, .int (iI z))]) C d_M_isSet_77 rfl e_y (by decide) rfl ?_
        refine g_goto (tgt := 5) C d_M_isSet_80 (by decide) ?_
        refine g_pick [0, 1, 2, 3, 4] rfl ?_
        refine ih (i + 1) (by omega) _ _ ?_ (by rw [← e_y]; exact nI_1 i)
        rw [e_s1, anyb]
        first | (rw [es] at j13; rw [nb0 j13]; rfl) | (rw [es] at j13; rw [(bz_eq0 _).mp j13, mSt, (bz_eq0 _).mp j23]; rfl) | (rw [es] at j13; rw [(bz_eq0 _).mp j13, mSt, decide_eq_false (fun w => j34 (by rw [w.1])), Bool.and_false]; rfl) | (rw [es] at j13; rw [lN_pos (by omega)] at j45; rw [(bz_eq0 _).mp j13, mSt, decide_eq_false (fun w => absurd w.2.1 (by omega)), Bool.and_false]; rfl) | (have w : iI (lo i) = iI z := (by assumption); rw [es] at j13; rw [lN_pos (by omega)] at j45; rw [(bz_eq0 _).mp j13, mSt, nb0 j23, decide_eq_true ⟨(nI_eq (by omega) (by omega)).mp j34, by omega, Or.inl ((iI_eq (by omega) (by omega) (by omega) (by omega)).mp w)⟩]; rfl) | (have w : iI (hi i) = iI z := (by assumption); rw [es] at j13; rw [lN_pos (by omega)] at j45; rw [(bz_eq0 _).mp j13, mSt, nb0 j23, decide_eq_true ⟨(nI_eq (by omega) (by omega)).mp j34, by omega, Or.inr ((iI_eq (by omega) (by omega) (by omega) (by omega)).mp w)⟩]; rfl) | (rw [es] at j13; rw [(bz_eq0 _).mp j13, mSt, decide_eq_false (fun w => w.2.2.elim (fun w => j57 (by rw [w])) (fun w => j68 (by rw [w]))), Bool.and_false]; rfl)
      · refine g_aload_n C rfl rfl d_M_isSet_16 ?_
        refine gf_M_35 C d_M_isSet_17 (by first | assumption | omega) (by repeat' first | assumption | exact up_eq _ _ _ | refine up_ne (by omega) ?_) (by rfl) ?_
        refine g_iload C rfl d_M_isSet_20 ?_
        refine g_zald C d_M_isSet_22 (by first | assumption | omega) (by repeat' first | assumption | exact up_eq _ _ _ | refine up_ne (by omega) ?_) hin ?_
        rw [hcl]
        refine g_if_eq (tgt := 75) C d_M_isSet_23 (by decide) (fun j23 => ?_) (fun j23 => ?_)
        · refine g_iconst (v := 0) C rfl d_M_isSet_75 ?_
          refine g_topi (fun s1 e_s1 => ?_)
          refine g_istore_n (lv' := [(3, .int s1), (4, .int (nI i)), (0, .ref (ad o m)), (1, .int (nI p)), (2, .int (iI z))]) C d_M_isSet_76 rfl (by decide) rfl ?_
          obtain ⟨y, e_y⟩ : ∃ y : Int32, ((nI i)) + Int32.ofInt 1 = y := ⟨_, rfl⟩
          refine g_iinc (lv' := [(4, .int y), (3, .int s1), (0, .ref (ad o m)), (1, .int (nI p)), (2, .int (iI z))]) C d_M_isSet_77 rfl e_y (by decide) rfl ?_
          refine g_goto (tgt := 5) C d_M_isSet_80 (by decide) ?_
          refine g_pick [0, 1, 2, 3, 4] rfl ?_
          refine ih (i + 1) (by omega) _ _ ?_ (by rw [← e_y]; exact nI_1 i)
          rw [e_s1, anyb]
          first | (rw [es] at j13; rw [nb0 j13]; rfl) | (rw [es] at j13; rw [(bz_eq0 _).mp j13, mSt, (bz_eq0 _).mp j23]; rfl) | (rw [es] at j13; rw [(bz_eq0 _).mp j13, mSt, decide_eq_false (fun w => j34 (by rw [w.1])), Bool.and_false]; rfl) | (rw [es] at j13; rw [lN_pos (by omega)] at j45; rw [(bz_eq0 _).mp j13, mSt, decide_eq_false (fun w => absurd w.2.1 (by omega)), Bool.and_false]; rfl) | (have w : iI (lo i) = iI z := (by assumption); rw [es] at j13; rw [lN_pos (by omega)] at j45; rw [(bz_eq0 _).mp j13, mSt, nb0 j23, decide_eq_true ⟨(nI_eq (by omega) (by omega)).mp j34, by omega, Or.inl ((iI_eq (by omega) (by omega) (by omega) (by omega)).mp w)⟩]; rfl) | (have w : iI (hi i) = iI z := (by assumption); rw [es] at j13; rw [lN_pos (by omega)] at j45; rw [(bz_eq0 _).mp j13, mSt, nb0 j23, decide_eq_true ⟨(nI_eq (by omega) (by omega)).mp j34, by omega, Or.inr ((iI_eq (by omega) (by omega) (by omega) (by omega)).mp w)⟩]; rfl) | (rw [es] at j13; rw [(bz_eq0 _).mp j13, mSt, decide_eq_false (fun w => w.2.2.elim (fun w => j57 (by rw [w])) (fun w => j68 (by rw [w]))), Bool.and_false]; rfl)
        · refine g_aload_n C rfl rfl d_M_isSet_26 ?_
          refine gf_M_42 C d_M_isSet_27 (by first | assumption | omega) (by repeat' first | assumption | exact up_eq _ _ _ | refine up_ne (by omega) ?_) (by rfl) ?_
          refine g_iload C rfl d_M_isSet_30 ?_
          refine g_iald C d_M_isSet_32 (by first | assumption | omega) (by repeat' first | assumption | exact up_eq _ _ _ | refine up_ne (by omega) ?_) hin ?_
          rw [hcl]
          refine g_iload_n C rfl rfl d_M_isSet_33 ?_
          refine g_icmp_ne (tgt := 75) C d_M_isSet_34 (by decide) (fun j34 => ?_) (fun j34 => ?_)
          · refine g_iconst (v := 0) C rfl d_M_isSet_75 ?_
            refine g_topi (fun s1 e_s1 => ?_)
            refine g_istore_n (lv' := [(3, .int s1), (4, .int (nI i)), (0, .ref (ad o m)), (1, .int (nI p)), (2, .int (iI z))]) C d_M_isSet_76 rfl (by decide) rfl ?_
            obtain ⟨y, e_y⟩ : ∃ y : Int32, ((nI i)) + Int32.ofInt 1 = y := ⟨_, rfl⟩
            refine g_iinc (lv' := [(4, .int y), (3, .int s1), (0, .ref (ad o m)), (1, .int (nI p)), (2, .int (iI z))]) C d_M_isSet_77 rfl e_y (by decide) rfl ?_
            refine g_goto (tgt := 5) C d_M_isSet_80 (by decide) ?_
            refine g_pick [0, 1, 2, 3, 4] rfl ?_
            refine ih (i + 1) (by omega) _ _ ?_ (by rw [← e_y]; exact nI_1 i)
            rw [e_s1, anyb]
            first | (rw [es] at j13; rw [nb0 j13]; rfl) | (rw [es] at j13; rw [(bz_eq0 _).mp j13, mSt, (bz_eq0 _).mp j23]; rfl) | (rw [es] at j13; rw [(bz_eq0 _).mp j13, mSt, decide_eq_false (fun w => j34 (by rw [w.1])), Bool.and_false]; rfl) | (rw [es] at j13; rw [lN_pos (by omega)] at j45; rw [(bz_eq0 _).mp j13, mSt, decide_eq_false (fun w => absurd w.2.1 (by omega)), Bool.and_false]; rfl) | (have w : iI (lo i) = iI z := (by assumption); rw [es] at j13; rw [lN_pos (by omega)] at j45; rw [(bz_eq0 _).mp j13, mSt, nb0 j23, decide_eq_true ⟨(nI_eq (by omega) (by omega)).mp j34, by omega, Or.inl ((iI_eq (by omega) (by omega) (by omega) (by omega)).mp w)⟩]; rfl) | (have w : iI (hi i) = iI z := (by assumption); rw [es] at j13; rw [lN_pos (by omega)] at j45; rw [(bz_eq0 _).mp j13, mSt, nb0 j23, decide_eq_true ⟨(nI_eq (by omega) (by omega)).mp j34, by omega, Or.inr ((iI_eq (by omega) (by omega) (by omega) (by omega)).mp w)⟩]; rfl) | (rw [es] at j13; rw [(bz_eq0 _).mp j13, mSt, decide_eq_false (fun w => w.2.2.elim (fun w => j57 (by rw [w])) (fun w => j68 (by rw [w]))), Bool.and_false]; rfl)
          · refine g_aload_n C rfl rfl d_M_isSet_37 ?_
            refine gf_M_51 C d_M_isSet_38 (by first | assumption | omega) (by repeat' first | assumption | exact up_eq _ _ _ | refine up_ne (by omega) ?_) (by rfl) ?_
            refine g_iload C rfl d_M_isSet_41 ?_
            refine g_lald C d_M_isSet_43 (by first | assumption | omega) (by repeat' first | assumption | exact up_eq _ _ _ | refine up_ne (by omega) ?_) hin ?_
            rw [hcl]
            refine g_lconst (v := 0) C rfl d_M_isSet_44 ?_
            refine g_lcmp_le (tgt := 75) C d_M_isSet_45 d_M_isSet_46 (by decide) (fun j45 => ?_) (fun j45 => ?_)
            · refine g_iconst (v := 0) C rfl d_M_isSet_75 ?_
              refine g_topi (fun s1 e_s1 => ?_)
              refine g_istore_n (lv' := [(3, .int s1), (4, .int (nI i)), (0, .ref (ad o m)), (1, .int (nI p)), (2, .int (iI z))]) C d_M_isSet_76 rfl (by decide) rfl ?_
              obtain ⟨y, e_y⟩ : ∃ y : Int32, ((nI i)) + Int32.ofInt 1 = y := ⟨_, rfl⟩
              refine g_iinc (lv' := [(4, .int y), (3, .int s1), (0, .ref (ad o m)), (1, .int (nI p)), (2, .int (iI z))]) C d_M_isSet_77 rfl e_y (by decide) rfl ?_
              refine g_goto (tgt := 5) C d_M_isSet_80 (by decide) ?_
              refine g_pick [0, 1, 2, 3, 4] rfl ?_
              refine ih (i + 1) (by omega) _ _ ?_ (by rw [← e_y]; exact nI_1 i)
              rw [e_s1, anyb]
              first | (rw [es] at j13; rw [nb0 j13]; rfl) | (rw [es] at j13; rw [(bz_eq0 _).mp j13, mSt, (bz_eq0 _).mp j23]; rfl) | (rw [es] at j13; rw [(bz_eq0 _).mp j13, mSt, decide_eq_false (fun w => j34 (by rw [w.1])), Bool.and_false]; rfl) | (rw [es] at j13; rw [lN_pos (by omega)] at j45; rw [(bz_eq0 _).mp j13, mSt, decide_eq_false (fun w => absurd w.2.1 (by omega)), Bool.and_false]; rfl) | (have w : iI (lo i) = iI z := (by assumption); rw [es] at j13; rw [lN_pos (by omega)] at j45; rw [(bz_eq0 _).mp j13, mSt, nb0 j23, decide_eq_true ⟨(nI_eq (by omega) (by omega)).mp j34, by omega, Or.inl ((iI_eq (by omega) (by omega) (by omega) (by omega)).mp w)⟩]; rfl) | (have w : iI (hi i) = iI z := (by assumption); rw [es] at j13; rw [lN_pos (by omega)] at j45; rw [(bz_eq0 _).mp j13, mSt, nb0 j23, decide_eq_true ⟨(nI_eq (by omega) (by omega)).mp j34, by omega, Or.inr ((iI_eq (by omega) (by omega) (by omega) (by omega)).mp w)⟩]; rfl) | (rw [es] at j13; rw [(bz_eq0 _).mp j13, mSt, decide_eq_false (fun w => w.2.2.elim (fun w => j57 (by rw [w])) (fun w => j68 (by rw [w]))), Bool.and_false]; rfl)
            · refine g_aload_n C rfl rfl d_M_isSet_49 ?_
              refine gf_M_45 C d_M_isSet_50 (by first | assumption | omega) (by repeat' first | assumption | exact up_eq _ _ _ | refine up_ne (by omega) ?_) (by rfl) ?_
              refine g_iload C rfl d_M_isSet_53 ?_
              refine g_iald C d_M_isSet_55 (by first | assumption | omega) (by repeat' first | assumption | exact up_eq _ _ _ | refine up_ne (by omega) ?_) hin ?_
              rw [hcl]
              refine g_iload_n C rfl rfl d_M_isSet_56 ?_
              refine g_icmp_eq (tgt := 71) C d_M_isSet_57 (by decide) (fun j57 => ?_) (fun j57 => ?_)
              · refine g_iconst (v := 1) C rfl d_M_isSet_71 ?_
                refine g_goto (tgt := 76) C d_M_isSet_72 (by decide) ?_
                refine g_topi (fun s1 e_s1 => ?_)
                refine g_istore_n (lv' := [(3, .int s1), (4, .int (nI i)), (0, .ref (ad o m)), (1, .int (nI p)), (2, .int (iI z))]) C d_M_isSet_76 rfl (by decide) rfl ?_
                obtain ⟨y, e_y⟩ : ∃ y : Int32, ((nI i)) + Int32.ofInt 1 = y := ⟨_, rfl⟩
                refine g_iinc (lv' := [(4, .int y), (3, .int s1), (0, .ref (ad o m)), (1, .int (nI p)), (2, .int (iI z))]) C d_M_isSet_77 rfl e_y (by decide) rfl ?_
                refine g_goto (tgt := 5) C d_M_isSet_80 (by decide) ?_
                refine g_pick [0, 1, 2, 3, 4] rfl ?_
                refine ih (i + 1) (by omega) _ _ ?_ (by rw [← e_y]; exact nI_1 i)
                rw [e_s1, anyb]
                first | (rw [es] at j13; rw [nb0 j13]; rfl) | (rw [es] at j13; rw [(bz_eq0 _).mp j13, mSt, (bz_eq0 _).mp j23]; rfl) | (rw [es] at j13; rw [(bz_eq0 _).mp j13, mSt, decide_eq_false (fun w => j34 (by rw [w.1])), Bool.and_false]; rfl) | (rw [es] at j13; rw [lN_pos (by omega)] at j45; rw [(bz_eq0 _).mp j13, mSt, decide_eq_false (fun w => absurd w.2.1 (by omega)), Bool.and_false]; rfl) | (have w : iI (lo i) = iI z := (by assumption); rw [es] at j13; rw [lN_pos (by omega)] at j45; rw [(bz_eq0 _).mp j13, mSt, nb0 j23, decide_eq_true ⟨(nI_eq (by omega) (by omega)).mp j34, by omega, Or.inl ((iI_eq (by omega) (by omega) (by omega) (by omega)).mp w)⟩]; rfl) | (have w : iI (hi i) = iI z := (by assumption); rw [es] at j13; rw [lN_pos (by omega)] at j45; rw [(bz_eq0 _).mp j13, mSt, nb0 j23, decide_eq_true ⟨(nI_eq (by omega) (by omega)).mp j34, by omega, Or.inr ((iI_eq (by omega) (by omega) (by omega) (by omega)).mp w)⟩]; rfl) | (rw [es] at j13; rw [(bz_eq0 _).mp j13, mSt, decide_eq_false (fun w => w.2.2.elim (fun w => j57 (by rw [w])) (fun w => j68 (by rw [w]))), Bool.and_false]; rfl)
              · refine g_aload_n C rfl rfl d_M_isSet_60 ?_
                refine gf_M_48 C d_M_isSet_61 (by first | assumption | omega) (by repeat' first | assumption | exact up_eq _ _ _ | refine up_ne (by omega) ?_) (by rfl) ?_
                refine g_iload C rfl d_M_isSet_64 ?_
                refine g_iald C d_M_isSet_66 (by first | assumption | omega) (by repeat' first | assumption | exact up_eq _ _ _ | refine up_ne (by omega) ?_) hin ?_
                rw [hcl]
                refine g_iload_n C rfl rfl d_M_isSet_67 ?_
                refine g_icmp_ne (tgt := 75) C d_M_isSet_68 (by decide) (fun j68 => ?_) (fun j68 => ?_)
                · refine g_iconst (v := 0) C rfl d_M_isSet_75 ?_
                  refine g_topi (fun s1 e_s1 => ?_)
                  refine g_istore_n (lv' := [(3, .int s1), (4, .int (nI i)), (0, .ref (ad o m)), (1, .int (nI p)), (2, .int (iI z))]) C d_M_isSet_76 rfl (by decide) rfl ?_
                  obtain ⟨y, e_y⟩ : ∃ y : Int32, ((nI i)) + Int32.ofInt 1 = y := ⟨_, rfl⟩
                  refine g_iinc (lv' := [(4, .int y), (3, .int s1), (0, .ref (ad o m)), (1, .int (nI p)), (2, .int (iI z))]) C d_M_isSet_77 rfl e_y (by decide) rfl ?_
                  refine g_goto (tgt := 5) C d_M_isSet_80 (by decide) ?_
                  refine g_pick [0, 1, 2, 3, 4] rfl ?_
                  refine ih (i + 1) (by omega) _ _ ?_ (by rw [← e_y]; exact nI_1 i)
                  rw [e_s1, anyb]
                  first | (rw [es] at j13; rw [nb0 j13]; rfl) | (rw [es] at j13; rw [(bz_eq0 _).mp j13, mSt, (bz_eq0 _).mp j23]; rfl) | (rw [es] at j13; rw [(bz_eq0 _).mp j13, mSt, decide_eq_false (fun w => j34 (by rw [w.1])), Bool.and_false]; rfl) | (rw [es] at j13; rw [lN_pos (by omega)] at j45; rw [(bz_eq0 _).mp j13, mSt, decide_eq_false (fun w => absurd w.2.1 (by omega)), Bool.and_false]; rfl) | (have w : iI (lo i) = iI z := (by assumption); rw [es] at j13; rw [lN_pos (by omega)] at j45; rw [(bz_eq0 _).mp j13, mSt, nb0 j23, decide_eq_true ⟨(nI_eq (by omega) (by omega)).mp j34, by omega, Or.inl ((iI_eq (by omega) (by omega) (by omega) (by omega)).mp w)⟩]; rfl) | (have w : iI (hi i) = iI z := (by assumption); rw [es] at j13; rw [lN_pos (by omega)] at j45; rw [(bz_eq0 _).mp j13, mSt, nb0 j23, decide_eq_true ⟨(nI_eq (by omega) (by omega)).mp j34, by omega, Or.inr ((iI_eq (by omega) (by omega) (by omega) (by omega)).mp w)⟩]; rfl) | (rw [es] at j13; rw [(bz_eq0 _).mp j13, mSt, decide_eq_false (fun w => w.2.2.elim (fun w => j57 (by rw [w])) (fun w => j68 (by rw [w]))), Bool.and_false]; rfl)
                · refine g_iconst (v := 1) C rfl d_M_isSet_71 ?_
                  refine g_goto (tgt := 76) C d_M_isSet_72 (by decide) ?_
                  refine g_topi (fun s1 e_s1 => ?_)
                  refine g_istore_n (lv' := [(3, .int s1), (4, .int (nI i)), (0, .ref (ad o m)), (1, .int (nI p)), (2, .int (iI z))]) C d_M_isSet_76 rfl (by decide) rfl ?_
                  obtain ⟨y, e_y⟩ : ∃ y : Int32, ((nI i)) + Int32.ofInt 1 = y := ⟨_, rfl⟩
                  refine g_iinc (lv' := [(4, .int y), (3, .int s1), (0, .ref (ad o m)), (1, .int (nI p)), (2, .int (iI z))]) C d_M_isSet_77 rfl e_y (by decide) rfl ?_
                  refine g_goto (tgt := 5) C d_M_isSet_80 (by decide) ?_
                  refine g_pick [0, 1, 2, 3, 4] rfl ?_
                  refine ih (i + 1) (by omega) _ _ ?_ (by rw [← e_y]; exact nI_1 i)
                  rw [e_s1, anyb]
                  first | (rw [es] at j13; rw [nb0 j13]; rfl) | (rw [es] at j13; rw [(bz_eq0 _).mp j13, mSt, (bz_eq0 _).mp j23]; rfl) | (rw [es] at j13; rw [(bz_eq0 _).mp j13, mSt, decide_eq_false (fun w => j34 (by rw [w.1])), Bool.and_false]; rfl) | (rw [es] at j13; rw [lN_pos (by omega)] at j45; rw [(bz_eq0 _).mp j13, mSt, decide_eq_false (fun w => absurd w.2.1 (by omega)), Bool.and_false]; rfl) | (have w : iI (lo i) = iI z := (by assumption); rw [es] at j13; rw [lN_pos (by omega)] at j45; rw [(bz_eq0 _).mp j13, mSt, nb0 j23, decide_eq_true ⟨(nI_eq (by omega) (by omega)).mp j34, by omega, Or.inl ((iI_eq (by omega) (by omega) (by omega) (by omega)).mp w)⟩]; rfl) | (have w : iI (hi i) = iI z := (by assumption); rw [es] at j13; rw [lN_pos (by omega)] at j45; rw [(bz_eq0 _).mp j13, mSt, nb0 j23, decide_eq_true ⟨(nI_eq (by omega) (by omega)).mp j34, by omega, Or.inr ((iI_eq (by omega) (by omega) (by omega) (by omega)).mp w)⟩]; rfl) | (rw [es] at j13; rw [(bz_eq0 _).mp j13, mSt, decide_eq_false (fun w => w.2.2.elim (fun w => j57 (by rw [w])) (fun w => j68 (by rw [w]))), Bool.and_false]; rfl)
  refine g_iconst (v := 0) C rfl d_M_isSet_0 ?_
  refine g_topi (fun s e_s => ?_)
  refine g_istore_n (lv' := [(3, .int s), (0, .ref (ad o m)), (1, .int (nI p)), (2, .int (iI z))]) C d_M_isSet_1 rfl (by decide) rfl ?_
  refine g_iconst (v := 0) C rfl d_M_isSet_2 ?_
  refine g_topi (fun x e_x => ?_)
  refine g_istore (lv' := [(4, .int x), (3, .int s), (0, .ref (ad o m)), (1, .int (nI p)), (2, .int (iI z))]) C d_M_isSet_3 (by decide) rfl ?_
  exact loop 12 0 rfl _ _ e_s e_x
theorem c_M_worthNear {l : Launch} {o n : Nat} {sg : Nat → va_E} {m : Nat} {t0 : Int32} {la : Int64} {pr : Nat → Nat} {tk : Nat → Int} (u : Bool) (p L : Nat) (lo hi : Int) (hn : m + 22 < n) (hM : isM sg o m t0 la) (hR : isMR sg m) (hpr : sg (m + 6) = eJ 2 (fun i => lN (pr i))) (htk : sg (m + 7) = eI 2 (fun i => iI (tk i))) (hp : p < 2) (h1 : -40 ≤ lo) (hlh : lo < hi) (h4 : hi ≤ 40) (h5 : -41 ≤ tk p) (h6 : tk p ≤ 40) (hS0 : 0 < pr p) (hS1 : lo ≤ tk p → tk p < hi → pr p ≤ rt (tx hi)) (hL : L ≤ 600000000) : GM l y_M_worthNear b_M_worthNear 7 (some .long) 4 100 0 0 o n n sg false [.ref (ad o m), .int (nI p), .int (iI lo), .int (iI hi), .long (lN L), .int (bz u)] (gR (some (.long (lN (zWN u L (pr p) (tk p) lo hi)))) sg) := by
  have hm1 : sg m = _ := hM
  have hcl : (nI p).toNatClampNeg = p := nI_clamp (by omega)
  have hin : vp_in (nI p) 2 := vp_in_nI hp (by decide)
  refine GM_of (by decide) (Nat.le_of_ble_eq_true rfl) ?_
  intro K C hl hz hr hnm E
  show G K o n sg 0 0 0 [(0, .ref (ad o m)), (1, .int (nI p)), (2, .int (iI lo)), (3, .int (iI hi)), (4, .long (lN L)), (6, .int (bz u))] []
  by_cases hA : hi ≤ tk p
  · have hB : ¬ iI (tk p) < iI hi := fun q => absurd ((iI_lt (by omega) (by omega) (by omega) (by omega)).mp q) (by omega)
    refine g_aload_n C rfl rfl d_M_worthNear_0 ?_
    refine gf_M_29 C d_M_worthNear_1 (by first | assumption | omega) (by repeat' first | assumption | exact up_eq _ _ _ | refine up_ne (by omega) ?_) (by rfl) ?_
    refine g_iload_n C rfl rfl d_M_worthNear_4 ?_
    refine g_iald C d_M_worthNear_5 (by first | assumption | omega) (by repeat' first | assumption | exact up_eq _ _ _ | refine up_ne (by omega) ?_) hin ?_
    rw [hcl]
    refine g_iload_n C rfl rfl d_M_worthNear_6 ?_
    refine g_icmp_lt (tgt := 12) C d_M_worthNear_7 (by decide) (fun j7 => ?_) (fun j7 => ?_)
    · exact absurd j7 hB
    refine g_lconst (v := 0) C rfl d_M_worthNear_10 ?_
    refine g_lret C E hr d_M_worthNear_11 ⟨by rw [zWN, if_pos hA]; rfl, rfl⟩
  · have hB : iI (tk p) < iI hi := (iI_lt (by omega) (by omega) (by omega) (by omega)).mpr (by omega)
    by_cases hD : tk p < lo
    · have hF : ¬ iI lo ≤ iI (tk p) := fun q => absurd ((iI_le (by omega) (by omega) (by omega) (by omega)).mp q) (by omega)
      refine g_aload_n C rfl rfl d_M_worthNear_0 ?_
      refine gf_M_29 C d_M_worthNear_1 (by first | assumption | omega) (by repeat' first | assumption | exact up_eq _ _ _ | refine up_ne (by omega) ?_) (by rfl) ?_
      refine g_iload_n C rfl rfl d_M_worthNear_4 ?_
      refine g_iald C d_M_worthNear_5 (by first | assumption | omega) (by repeat' first | assumption | exact up_eq _ _ _ | refine up_ne (by omega) ?_) hin ?_
      rw [hcl]
      refine g_iload_n C rfl rfl d_M_worthNear_6 ?_
      refine g_icmp_lt (tgt := 12) C d_M_worthNear_7 (by decide) (fun j7 => ?_) (fun j7 => ?_)
      rotate_left
      · exact absurd hB j7
      refine g_aload_n C rfl rfl d_M_worthNear_12 ?_
      refine gf_M_29 C d_M_worthNear_13 (by first | assumption | omega) (by repeat' first | assumption | exact up_eq _ _ _ | refine up_ne (by omega) ?_) (by rfl) ?_
      refine g_iload_n C rfl rfl d_M_worthNear_16 ?_
      refine g_iald C d_M_worthNear_17 (by first | assumption | omega) (by repeat' first | assumption | exact up_eq _ _ _ | refine up_ne (by omega) ?_) hin ?_
      rw [hcl]
      refine g_iload_n C rfl rfl d_M_worthNear_18 ?_
      refine g_icmp_ge (tgt := 30) C d_M_worthNear_19 (by decide) (fun j19 => ?_) (fun j19 => ?_)
      · exact absurd j19 hF
      refine g_aload_n C rfl rfl d_M_worthNear_22 ?_
      refine g_iload_n C rfl rfl d_M_worthNear_23 ?_
      refine g_callV C (c_M_rootOf lo hn hM hR (by omega) (by omega)) Y_M_rootOf m_761 s_M_rootOf m_759 rfl rfl ⟨by decide, by decide⟩ ⟨by decide, by decide⟩ (fun h => nomatch h) d_M_worthNear_24 (by first | assumption | omega) (by repeat' first | assumption | exact up_eq _ _ _ | refine up_ne (by omega) ?_) rfl (Nat.le_of_ble_eq_true rfl) (fun ret sg24 hq => ?_)
      obtain ⟨rfl, rfl⟩ := hq
      refine g_goto (tgt := 36) C d_M_worthNear_27 (by decide) ?_
      refine g_aload_n C rfl rfl d_M_worthNear_36 ?_
      refine g_iload_n C rfl rfl d_M_worthNear_37 ?_
      refine g_callV C (c_M_rootOf hi hn hM hR (by omega) (by omega)) Y_M_rootOf m_761 s_M_rootOf m_759 rfl rfl ⟨by decide, by decide⟩ ⟨by decide, by decide⟩ (fun h => nomatch h) d_M_worthNear_38 (by first | assumption | omega) (by repeat' first | assumption | exact up_eq _ _ _ | refine up_ne (by omega) ?_) rfl (Nat.le_of_ble_eq_true rfl) (fun ret sg38 hq => ?_)
      obtain ⟨rfl, rfl⟩ := hq
      refine g_lload C rfl d_M_worthNear_41 ?_
      refine g_iload C rfl d_M_worthNear_43 ?_
      refine g_callS C (c_M_near u (rt (tx lo)) (rt (tx hi)) L (rt_pos (tx_le (by omega))) (Nat.le_of_lt (rt_lt (tx_lt h1 hlh) (tx_le h4))) (rt_up (tx_le h4)) hL) Y_M_near m_764 m_763 ⟨by decide, by decide⟩ ⟨by decide, by decide⟩ (fun h => nomatch h) d_M_worthNear_45 rfl (Nat.le_of_ble_eq_true rfl) (fun ret sg45 hq => ?_)
      obtain ⟨rfl, rfl⟩ := hq
      refine g_lret C E hr d_M_worthNear_48 ⟨by rw [zWN, if_neg hA, if_pos hD], rfl⟩
    · have hF : iI lo ≤ iI (tk p) := (iI_le (by omega) (by omega) (by omega) (by omega)).mpr (by omega)
      refine g_aload_n C rfl rfl d_M_worthNear_0 ?_
      refine gf_M_29 C d_M_worthNear_1 (by first | assumption | omega) (by repeat' first | assumption | exact up_eq _ _ _ | refine up_ne (by omega) ?_) (by rfl) ?_
      refine g_iload_n C rfl rfl d_M_worthNear_4 ?_
      refine g_iald C d_M_worthNear_5 (by first | assumption | omega) (by repeat' first | assumption | exact up_eq _ _ _ | refine up_ne (by omega) ?_) hin ?_
      rw [hcl]
      refine g_iload_n C rfl rfl d_M_worthNear_6 ?_
      refine g_icmp_lt (tgt := 12) C d_M_worthNear_7 (by decide) (fun j7 => ?_) (fun j7 => ?_)
      rotate_left
      · exact absurd hB j7
      refine g_aload_n C rfl rfl d_M_worthNear_12 ?_
      refine gf_M_29 C d_M_worthNear_13 (by first | assumption | omega) (by repeat' first | assumption | exact up_eq _ _ _ | refine up_ne (by omega) ?_) (by rfl) ?_
      refine g_iload_n C rfl rfl d_M_worthNear_16 ?_
      refine g_iald C d_M_worthNear_17 (by first | assumption | omega) (by repeat' first | assumption | exact up_eq _ _ _ | refine up_ne (by omega) ?_) hin ?_
      rw [hcl]
      refine g_iload_n C rfl rfl d_M_worthNear_18 ?_
      refine g_icmp_ge (tgt := 30) C d_M_worthNear_19 (by decide) (fun j19 => ?_) (fun j19 => ?_)
      rotate_left
      · exact absurd hF j19
      refine g_aload_n C rfl rfl d_M_worthNear_30 ?_
      refine gf_M_26 C d_M_worthNear_31 (by first | assumption | omega) (by repeat' first | assumption | exact up_eq _ _ _ | refine up_ne (by omega) ?_) (by rfl) ?_
      refine g_iload_n C rfl rfl d_M_worthNear_34 ?_
      refine g_lald C d_M_worthNear_35 (by first | assumption | omega) (by repeat' first | assumption | exact up_eq _ _ _ | refine up_ne (by omega) ?_) hin ?_
      rw [hcl]
      refine g_aload_n C rfl rfl d_M_worthNear_36 ?_
      refine g_iload_n C rfl rfl d_M_worthNear_37 ?_
      refine g_callV C (c_M_rootOf hi hn hM hR (by omega) (by omega)) Y_M_rootOf m_761 s_M_rootOf m_759 rfl rfl ⟨by decide, by decide⟩ ⟨by decide, by decide⟩ (fun h => nomatch h) d_M_worthNear_38 (by first | assumption | omega) (by repeat' first | assumption | exact up_eq _ _ _ | refine up_ne (by omega) ?_) rfl (Nat.le_of_ble_eq_true rfl) (fun ret sg38 hq => ?_)
      obtain ⟨rfl, rfl⟩ := hq
      refine g_lload C rfl d_M_worthNear_41 ?_
      refine g_iload C rfl d_M_worthNear_43 ?_
      refine g_callS C (c_M_near u (pr p) (rt (tx hi)) L hS0 (hS1 (by omega) (by omega)) (rt_up (tx_le h4)) hL) Y_M_near m_764 m_763 ⟨by decide, by decide⟩ ⟨by decide, by decide⟩ (fun h => nomatch h) d_M_worthNear_45 rfl (Nat.le_of_ble_eq_true rfl) (fun ret sg45 hq => ?_)
      obtain ⟨rfl, rfl⟩ := hq
      refine g_lret C E hr d_M_worthNear_48 ⟨by rw [zWN, if_neg hA, if_neg hD], rfl⟩
theorem c_M_worthFar {l : Launch} {o n : Nat} {sg : Nat → va_E} {m : Nat} {t0 : Int32} {la : Int64} {pr : Nat → Nat} {tk : Nat → Int} (u : Bool) (p L : Nat) (lo hi : Int) (hn : m + 22 < n) (hM : isM sg o m t0 la) (hR : isMR sg m) (hpr : sg (m + 6) = eJ 2 (fun i => lN (pr i))) (htk : sg (m + 7) = eI 2 (fun i => iI (tk i))) (hp : p < 2) (h1 : -40 ≤ lo) (hlh : lo < hi) (h4 : hi ≤ 40) (h5 : -41 ≤ tk p) (h6 : tk p ≤ 40) (hS0 : pr p < 14706804615) (hS1 : lo ≤ tk p → tk p < hi → rt (tx lo) ≤ pr p) (hL : L ≤ 600000000) : GM l y_M_worthFar b_M_worthFar 7 (some .long) 3 62 0 0 o n n sg false [.ref (ad o m), .int (nI p), .int (iI lo), .int (iI hi), .long (lN L), .int (bz u)] (gR (some (.long (lN (zWF u L (pr p) (tk p) lo hi)))) sg) := by
  have hm1 : sg m = _ := hM
  have hcl : (nI p).toNatClampNeg = p := nI_clamp (by omega)
  have hin : vp_in (nI p) 2 := vp_in_nI hp (by decide)
  refine GM_of (by decide) (Nat.le_of_ble_eq_true rfl) ?_
  intro K C hl hz hr hnm E
  show G K o n sg 0 0 0 [(0, .ref (ad o m)), (1, .int (nI p)), (2, .int (iI lo)), (3, .int (iI hi)), (4, .long (lN L)), (6, .int (bz u))] []
  by_cases hA : tk p < lo
  · have hB : ¬ iI lo ≤ iI (tk p) := fun q => absurd ((iI_le (by omega) (by omega) (by omega) (by omega)).mp q) (by omega)
    refine g_aload_n C rfl rfl d_M_worthFar_0 ?_
    refine gf_M_29 C d_M_worthFar_1 (by first | assumption | omega) (by repeat' first | assumption | exact up_eq _ _ _ | refine up_ne (by omega) ?_) (by rfl) ?_
    refine g_iload_n C rfl rfl d_M_worthFar_4 ?_
    refine g_iald C d_M_worthFar_5 (by first | assumption | omega) (by repeat' first | assumption | exact up_eq _ _ _ | refine up_ne (by omega) ?_) hin ?_
    rw [hcl]
    refine g_iload_n C rfl rfl d_M_worthFar_6 ?_
    refine g_icmp_ge (tgt := 12) C d_M_worthFar_7 (by decide) (fun j7 => ?_) (fun j7 => ?_)
    · exact absurd j7 hB
    refine g_lconst (v := 0) C rfl d_M_worthFar_10 ?_
    refine g_lret C E hr d_M_worthFar_11 ⟨by rw [zWF, if_pos hA]; rfl, rfl⟩
  · have hB : iI lo ≤ iI (tk p) := (iI_le (by omega) (by omega) (by omega) (by omega)).mpr (by omega)
    by_cases hD : hi ≤ tk p
    · have hF : ¬ iI (tk p) < iI hi := fun q => absurd ((iI_lt (by omega) (by omega) (by omega) (by omega)).mp q) (by omega)
      refine g_aload_n C rfl rfl d_M_worthFar_0 ?_
      refine gf_M_29 C d_M_worthFar_1 (by first | assumption | omega) (by repeat' first | assumption | exact up_eq _ _ _ | refine up_ne (by omega) ?_) (by rfl) ?_
      refine g_iload_n C rfl rfl d_M_worthFar_4 ?_
      refine g_iald C d_M_worthFar_5 (by first | assumption | omega) (by repeat' first | assumption | exact up_eq _ _ _ | refine up_ne (by omega) ?_) hin ?_
      rw [hcl]
      refine g_iload_n C rfl rfl d_M_worthFar_6 ?_
      refine g_icmp_ge (tgt := 12) C d_M_worthFar_7 (by decide) (fun j7 => ?_) (fun j7 => ?_)
      rotate_left
      · exact absurd hB j7
      refine g_aload_n C rfl rfl d_M_worthFar_12 ?_
      refine g_iload_n C rfl rfl d_M_worthFar_13 ?_
      refine g_callV C (c_M_rootOf lo hn hM hR (by omega) (by omega)) Y_M_rootOf m_761 s_M_rootOf m_759 rfl rfl ⟨by decide, by decide⟩ ⟨by decide, by decide⟩ (fun h => nomatch h) d_M_worthFar_14 (by first | assumption | omega) (by repeat' first | assumption | exact up_eq _ _ _ | refine up_ne (by omega) ?_) rfl (Nat.le_of_ble_eq_true rfl) (fun ret sg14 hq => ?_)
      obtain ⟨rfl, rfl⟩ := hq
      refine g_aload_n C rfl rfl d_M_worthFar_17 ?_
      refine gf_M_29 C d_M_worthFar_18 (by first | assumption | omega) (by repeat' first | assumption | exact up_eq _ _ _ | refine up_ne (by omega) ?_) (by rfl) ?_
      refine g_iload_n C rfl rfl d_M_worthFar_21 ?_
      refine g_iald C d_M_worthFar_22 (by first | assumption | omega) (by repeat' first | assumption | exact up_eq _ _ _ | refine up_ne (by omega) ?_) hin ?_
      rw [hcl]
      refine g_iload_n C rfl rfl d_M_worthFar_23 ?_
      refine g_icmp_lt (tgt := 35) C d_M_worthFar_24 (by decide) (fun j24 => ?_) (fun j24 => ?_)
      · exact absurd j24 hF
      refine g_aload_n C rfl rfl d_M_worthFar_27 ?_
      refine g_iload_n C rfl rfl d_M_worthFar_28 ?_
      refine g_callV C (c_M_rootOf hi hn hM hR (by omega) (by omega)) Y_M_rootOf m_761 s_M_rootOf m_759 rfl rfl ⟨by decide, by decide⟩ ⟨by decide, by decide⟩ (fun h => nomatch h) d_M_worthFar_29 (by first | assumption | omega) (by repeat' first | assumption | exact up_eq _ _ _ | refine up_ne (by omega) ?_) rfl (Nat.le_of_ble_eq_true rfl) (fun ret sg29 hq => ?_)
      obtain ⟨rfl, rfl⟩ := hq
      refine g_goto (tgt := 41) C d_M_worthFar_32 (by decide) ?_
      refine g_lload C rfl d_M_worthFar_41 ?_
      refine g_iload C rfl d_M_worthFar_43 ?_
      refine g_callS C (c_M_far u (rt (tx lo)) (rt (tx hi)) L (Nat.le_of_lt (rt_lt (tx_lt h1 hlh) (tx_le h4))) (rt_up (tx_le h4)) hL) Y_M_far m_778 m_777 ⟨by decide, by decide⟩ ⟨by decide, by decide⟩ (fun h => nomatch h) d_M_worthFar_45 rfl (Nat.le_of_ble_eq_true rfl) (fun ret sg45 hq => ?_)
      obtain ⟨rfl, rfl⟩ := hq
      refine g_lret C E hr d_M_worthFar_48 ⟨by rw [zWF, if_neg hA, if_pos hD], rfl⟩
    · have hF : iI (tk p) < iI hi := (iI_lt (by omega) (by omega) (by omega) (by omega)).mpr (by omega)
      refine g_aload_n C rfl rfl d_M_worthFar_0 ?_
      refine gf_M_29 C d_M_worthFar_1 (by first | assumption | omega) (by repeat' first | assumption | exact up_eq _ _ _ | refine up_ne (by omega) ?_) (by rfl) ?_
      refine g_iload_n C rfl rfl d_M_worthFar_4 ?_
      refine g_iald C d_M_worthFar_5 (by first | assumption | omega) (by repeat' first | assumption | exact up_eq _ _ _ | refine up_ne (by omega) ?_) hin ?_
      rw [hcl]
      refine g_iload_n C rfl rfl d_M_worthFar_6 ?_
      refine g_icmp_ge (tgt := 12) C d_M_worthFar_7 (by decide) (fun j7 => ?_) (fun j7 => ?_)
      rotate_left
      · exact absurd hB j7
      refine g_aload_n C rfl rfl d_M_worthFar_12 ?_
      refine g_iload_n C rfl rfl d_M_worthFar_13 ?_
      refine g_callV C (c_M_rootOf lo hn hM hR (by omega) (by omega)) Y_M_rootOf m_761 s_M_rootOf m_759 rfl rfl ⟨by decide, by decide⟩ ⟨by decide, by decide⟩ (fun h => nomatch h) d_M_worthFar_14 (by first | assumption | omega) (by repeat' first | assumption | exact up_eq _ _ _ | refine up_ne (by omega) ?_) rfl (Nat.le_of_ble_eq_true rfl) (fun ret sg14 hq => ?_)
      obtain ⟨rfl, rfl⟩ := hq
      refine g_aload_n C rfl rfl d_M_worthFar_17 ?_
      refine gf_M_29 C d_M_worthFar_18 (by first | assumption | omega) (by repeat' first | assumption | exact up_eq _ _ _ | refine up_ne (by omega) ?_) (by rfl) ?_
      refine g_iload_n C rfl rfl d_M_worthFar_21 ?_
      refine g_iald C d_M_worthFar_22 (by first | assumption | omega) (by repeat' first | assumption | exact up_eq _ _ _ | refine up_ne (by omega) ?_) hin ?_
      rw [hcl]
      refine g_iload_n C rfl rfl d_M_worthFar_23 ?_
      refine g_icmp_lt (tgt := 35) C d_M_worthFar_24 (by decide) (fun j24 => ?_) (fun j24 => ?_)
      rotate_left
      · exact absurd hF j24
      refine g_aload_n C rfl rfl d_M_worthFar_35 ?_
      refine gf_M_26 C d_M_worthFar_36 (by first | assumption | omega) (by repeat' first | assumption | exact up_eq _ _ _ | refine up_ne (by omega) ?_) (by rfl) ?_
      refine g_iload_n C rfl rfl d_M_worthFar_39 ?_
      refine g_lald C d_M_worthFar_40 (by first | assumption | omega) (by repeat' first | assumption | exact up_eq _ _ _ | refine up_ne (by omega) ?_) hin ?_
      rw [hcl]
      refine g_lload C rfl d_M_worthFar_41 ?_
      refine g_iload C rfl d_M_worthFar_43 ?_
      refine g_callS C (c_M_far u (rt (tx lo)) (pr p) L (hS1 (by omega) (by omega)) hS0 hL) Y_M_far m_778 m_777 ⟨by decide, by decide⟩ ⟨by decide, by decide⟩ (fun h => nomatch h) d_M_worthFar_45 rfl (Nat.le_of_ble_eq_true rfl) (fun ret sg45 hq => ?_)
      obtain ⟨rfl, rfl⟩ := hq
      refine g_lret C E hr d_M_worthFar_48 ⟨by rw [zWF, if_neg hA, if_neg hD], rfl⟩

