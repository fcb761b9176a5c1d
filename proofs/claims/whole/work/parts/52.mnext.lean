-- NEXT TICK, PRICE WITHIN
def mSet (th : Nat → Bool) (pl : Nat → Nat) (lo hi : Nat → Int) (am : Nat → Nat) (p : Nat) (i : Nat) : Bool := anyb (mSt th pl lo hi am p ((i : Int) - 40)) 12
theorem c_M_nextTick {l : Launch} {o n : Nat} {sg : Nat → va_E} {m : Nat} {t0 : Int32} {la : Int64} {th : Nat → Bool} {ow pl : Nat → Nat} {lo hi : Nat → Int} {am : Nat → Nat} {nt : Nat → Int32} (p : Nat) (tz : Int) (dn : Bool) (hn : m + 22 < n) (hM : isM sg o m t0 la) (hP : isMP sg m th ow pl lo hi am) (hB : pBd pl lo hi) (hA : ∀ i, i < 12 → am i ≤ 50000000) (hp : p < 2) (hnt : sg (m + 18) = eI 2 nt) (hnp : nt p = iI tz) (h5 : dn = true → -40 ≤ tz) (h5b : -41 ≤ tz) (h6 : tz ≤ 40) (h7 : dn = false → tz ≤ 39) : GM l y_M_nextTick b_M_nextTick 5 (some .int) 2 36 0 0 o n n sg false [.ref (ad o m), .int (nI p), .int (bz dn)] (gR (some (.int (iI ((zNx dn (mSet th pl lo hi am p) tz : Int) - 40)))) sg) := by
  have hm1 : sg m = _ := hM
  have hcl : (nI p).toNatClampNeg = p := nI_clamp (by omega)
  have hin : vp_in (nI p) 2 := vp_in_nI hp (by decide)
  refine GM_of (by decide) (Nat.le_of_ble_eq_true rfl) ?_
  intro K C hl hz hr hnm E
  show G K o n sg 0 0 0 [(0, .ref (ad o m)), (1, .int (nI p)), (2, .int (bz dn))] []
  cases dn
  · have h8 := h7 rfl
    have fin : ∀ i : Nat, i ≤ 80 → ((zNx false (mSet th pl lo hi am p) tz : Nat) = i) → G K o n sg 0 0 79 [(3, .int (iI ((i : Int) - 40))), (4, .int 40), (0, .ref (ad o m)), (1, .int (nI p)), (2, .int (bz false))] [] := by
      intro i hi2 he
      refine g_iload_n C rfl rfl d_M_nextTick_79 ?_
      refine g_bipush (v := -40) C rfl d_M_nextTick_80 ?_
      refine g_icmp_ge (tgt := 90) C d_M_nextTick_82 (by decide) (fun j82 => ?_) (fun j82 => ?_)
      rotate_left
      · exact absurd (by rw [m40, iI_le (by omega) (by omega) (by omega) (by omega)]; omega) j82
      refine g_iload_n C rfl rfl d_M_nextTick_90 ?_
      refine g_bipush (v := 40) C rfl d_M_nextTick_91 ?_
      refine g_icmp_le (tgt := 101) C d_M_nextTick_93 (by decide) (fun j93 => ?_) (fun j93 => ?_)
      rotate_left
      · exact absurd (by rw [show (40 : Int32) = iI 40 from rfl, iI_le (by omega) (by omega) (by omega) (by omega)]; omega) j93
      refine g_iload_n C rfl rfl d_M_nextTick_101 ?_
      refine g_iret C E hr d_M_nextTick_102 ⟨by rw [he], rfl⟩
    have loop : ∀ k : Nat, k ≤ 80 → nUp (mSet th pl lo hi am p) k = zNx false (mSet th pl lo hi am p) tz → ∀ x : Int32, x = iI (40 - (k : Int)) → G K o n sg 0 0 35 [(3, .int x), (4, .int 40), (0, .ref (ad o m)), (1, .int (nI p)), (2, .int (bz false))] [] := by
      intro k
      induction k with
      | zero =>
        intro hk hg x ex
        rw [ex]
        refine g_iload_n C rfl rfl d_M_nextTick_35 ?_
        refine g_iload C rfl d_M_nextTick_36 ?_
        refine g_icmp_eq (tgt := 79) C d_M_nextTick_38 (by decide) (fun j38 => ?_) (fun j38 => ?_)
        rotate_left
        · exact absurd (show iI (40 - ((0 : Nat) : Int)) = 40 from by decide) j38
        exact fin 80 (by omega) hg.symm
      | succ k ih =>
        intro hk hg x ex
        have e1 : (40 : Int) - ((k + 1 : Nat) : Int) = ((79 - k : Nat) : Int) - 40 := by omega
        rw [ex, e1]
        refine g_iload_n C rfl rfl d_M_nextTick_35 ?_
        refine g_iload C rfl d_M_nextTick_36 ?_
        refine g_icmp_eq (tgt := 79) C d_M_nextTick_38 (by decide) (fun j38 => ?_) (fun j38 => ?_)
        · exact absurd j38 (fun w => absurd ((iI_eq (w := 40) (by omega) (by omega) (by omega) (by omega)).mp w) (by omega))
        refine g_iload_n C rfl rfl d_M_nextTick_41 ?_
        refine g_bipush (v := -41) C rfl d_M_nextTick_42 ?_
        refine g_icmp_le (tgt := 79) C d_M_nextTick_44 (by decide) (fun j44 => ?_) (fun j44 => ?_)
        · exact absurd j44 (by rw [show (-41 : Int32) = iI (-41) from by decide, iI_le (by omega) (by omega) (by omega) (by omega)]; omega)
        refine g_iload_n C rfl rfl d_M_nextTick_47 ?_
        refine g_bipush (v := 41) C rfl d_M_nextTick_48 ?_
        refine g_icmp_ge (tgt := 79) C d_M_nextTick_50 (by decide) (fun j50 => ?_) (fun j50 => ?_)
        · exact absurd j50 (by rw [show (41 : Int32) = iI 41 from rfl, iI_le (by omega) (by omega) (by omega) (by omega)]; omega)
        refine g_aload_n C rfl rfl d_M_nextTick_53 ?_
        refine g_iload_n C rfl rfl d_M_nextTick_54 ?_
        refine g_iload_n C rfl rfl d_M_nextTick_55 ?_
        refine g_callV C (c_M_isSet p (((79 - k : Nat) : Int) - 40) hn hM hP hB hA hp (by omega) (by omega)) Y_M_isSet m_825 s_M_isSet m_823 rfl rfl ⟨by decide, by decide⟩ ⟨by decide, by decide⟩ (fun h => nomatch h) d_M_nextTick_56 (by first | assumption | omega) (by repeat' first | assumption | exact up_eq _ _ _ | refine up_ne (by omega) ?_) rfl (Nat.le_of_ble_eq_true rfl) (fun ret sg56 hq => ?_)
        obtain ⟨rfl, rfl⟩ := hq
        refine g_if_ne (tgt := 79) C d_M_nextTick_59 (by decide) (fun j59 => ?_) (fun j59 => ?_)
        · exact fin (79 - k) (by omega) (by rw [← hg, nUp, if_pos (show mSet th pl lo hi am p (79 - k) = true from nb0 j59)])
        · refine g_iload_n C rfl rfl d_M_nextTick_62 ?_
          refine g_if_eq (tgt := 72) C d_M_nextTick_63 (by decide) (fun j63 => ?_) (fun j63 => ?_)
          rotate_left
          · exact absurd rfl j63
          refine g_iload_n C rfl rfl d_M_nextTick_72 ?_
          refine g_iconst (v := 1) C rfl d_M_nextTick_73 ?_
          refine g_iadd C d_M_nextTick_74 ?_
          refine g_topi (fun y e_y => ?_)
          refine g_istore_n (lv' := [(3, .int y), (4, .int 40), (0, .ref (ad o m)), (1, .int (nI p)), (2, .int (bz false))]) C d_M_nextTick_75 rfl (by decide) rfl ?_
          refine g_goto (tgt := 35) C d_M_nextTick_76 (by decide) ?_
          exact ih (by omega) (by rw [← hg, nUp, if_neg (by rw [show mSet th pl lo hi am p (79 - k) = false from (bz_eq0 _).mp j59]; decide)]) _ (by rw [e_y]; exact (iI_add _ 1).trans (congrArg iI (by omega)))
    refine g_iload_n C rfl rfl d_M_nextTick_0 ?_
    refine g_if_eq (tgt := 13) C d_M_nextTick_1 (by decide) (fun j1 => ?_) (fun j1 => ?_)
    rotate_left
    · exact absurd rfl j1
    refine g_aload_n C rfl rfl d_M_nextTick_13 ?_
    refine gf_M_63 C d_M_nextTick_14 (by first | assumption | omega) (by repeat' first | assumption | exact up_eq _ _ _ | refine up_ne (by omega) ?_) (by rfl) ?_
    refine g_iload_n C rfl rfl d_M_nextTick_17 ?_
    refine g_iald C d_M_nextTick_18 (by first | assumption | omega) (by repeat' first | assumption | exact up_eq _ _ _ | refine up_ne (by omega) ?_) hin ?_
    rw [hcl, hnp]
    refine g_iconst (v := 1) C rfl d_M_nextTick_19 ?_
    refine g_iadd C d_M_nextTick_20 ?_
    refine g_topi (fun x e_x => ?_)
    refine g_istore_n (lv' := [(3, .int x), (0, .ref (ad o m)), (1, .int (nI p)), (2, .int (bz false))]) C d_M_nextTick_21 rfl (by decide) rfl ?_
    refine g_iload_n C rfl rfl d_M_nextTick_22 ?_
    refine g_if_eq (tgt := 31) C d_M_nextTick_23 (by decide) (fun j23 => ?_) (fun j23 => ?_)
    rotate_left
    · exact absurd rfl j23
    refine g_bipush (v := 40) C rfl d_M_nextTick_31 ?_
    refine g_istore (lv' := [(4, .int 40), (3, .int x), (0, .ref (ad o m)), (1, .int (nI p)), (2, .int (bz false))]) C d_M_nextTick_33 (by decide) rfl ?_
    refine g_pick [1, 0, 2, 3, 4] rfl ?_
    exact loop (39 - tz).toNat (by omega) (zNx_f _ _).symm _ (by rw [e_x]; exact (iI_add tz 1).trans (congrArg iI (by omega)))
  · have h8 := h5 rfl
    have fin : ∀ i : Nat, i ≤ 80 → ((zNx true (mSet th pl lo hi am p) tz : Nat) = i) → G K o n sg 0 0 79 [(3, .int (iI ((i : Int) - 40))), (4, .int (-40)), (0, .ref (ad o m)), (1, .int (nI p)), (2, .int (bz true))] [] := by
      intro i hi2 he
      refine g_iload_n C rfl rfl d_M_nextTick_79 ?_
      refine g_bipush (v := -40) C rfl d_M_nextTick_80 ?_
      refine g_icmp_ge (tgt := 90) C d_M_nextTick_82 (by decide) (fun j82 => ?_) (fun j82 => ?_)
      rotate_left
      · exact absurd (by rw [m40, iI_le (by omega) (by omega) (by omega) (by omega)]; omega) j82
      refine g_iload_n C rfl rfl d_M_nextTick_90 ?_
      refine g_bipush (v := 40) C rfl d_M_nextTick_91 ?_
      refine g_icmp_le (tgt := 101) C d_M_nextTick_93 (by decide) (fun j93 => ?_) (fun j93 => ?_)
      rotate_left
      · exact absurd (by rw [show (40 : Int32) = iI 40 from rfl, iI_le (by omega) (by omega) (by omega) (by omega)]; omega) j93
      refine g_iload_n C rfl rfl d_M_nextTick_101 ?_
      refine g_iret C E hr d_M_nextTick_102 ⟨by rw [he], rfl⟩
    have loop : ∀ i : Nat, i ≤ 80 → nDn (mSet th pl lo hi am p) i = zNx true (mSet th pl lo hi am p) tz → ∀ x : Int32, x = iI ((i : Int) - 40) → G K o n sg 0 0 35 [(3, .int x), (4, .int (-40)), (0, .ref (ad o m)), (1, .int (nI p)), (2, .int (bz true))] [] := by
      intro i
      induction i with
      | zero =>
        intro hk hg x ex
        rw [ex]
        refine g_iload_n C rfl rfl d_M_nextTick_35 ?_
        refine g_iload C rfl d_M_nextTick_36 ?_
        refine g_icmp_eq (tgt := 79) C d_M_nextTick_38 (by decide) (fun j38 => ?_) (fun j38 => ?_)
        rotate_left
        · exact absurd (show iI (((0 : Nat) : Int) - 40) = -40 from by decide) j38
        exact fin 0 (by omega) hg.symm
      | succ i ih =>
        intro hk hg x ex
        rw [ex]
        refine g_iload_n C rfl rfl d_M_nextTick_35 ?_
        refine g_iload C rfl d_M_nextTick_36 ?_
        refine g_icmp_eq (tgt := 79) C d_M_nextTick_38 (by decide) (fun j38 => ?_) (fun j38 => ?_)
        · exact absurd j38 (by rw [m40, iI_eq (by omega) (by omega) (by omega) (by omega)]; omega)
        refine g_iload_n C rfl rfl d_M_nextTick_41 ?_
        refine g_bipush (v := -41) C rfl d_M_nextTick_42 ?_
        refine g_icmp_le (tgt := 79) C d_M_nextTick_44 (by decide) (fun j44 => ?_) (fun j44 => ?_)
        · exact absurd j44 (by rw [show (-41 : Int32) = iI (-41) from by decide, iI_le (by omega) (by omega) (by omega) (by omega)]; omega)
        refine g_iload_n C rfl rfl d_M_nextTick_47 ?_
        refine g_bipush (v := 41) C rfl d_M_nextTick_48 ?_
        refine g_icmp_ge (tgt := 79) C d_M_nextTick_50 (by decide) (fun j50 => ?_) (fun j50 => ?_)
        · exact absurd j50 (by rw [show (41 : Int32) = iI 41 from rfl, iI_le (by omega) (by omega) (by omega) (by omega)]; omega)
        refine g_aload_n C rfl rfl d_M_nextTick_53 ?_
        refine g_iload_n C rfl rfl d_M_nextTick_54 ?_
        refine g_iload_n C rfl rfl d_M_nextTick_55 ?_
        refine g_callV C (c_M_isSet p (((i + 1 : Nat) : Int) - 40) hn hM hP hB hA hp (by omega) (by omega)) Y_M_isSet m_825 s_M_isSet m_823 rfl rfl ⟨by decide, by decide⟩ ⟨by decide, by decide⟩ (fun h => nomatch h) d_M_nextTick_56 (by first | assumption | omega) (by repeat' first | assumption | exact up_eq _ _ _ | refine up_ne (by omega) ?_) rfl (Nat.le_of_ble_eq_true rfl) (fun ret sg56 hq => ?_)
        obtain ⟨rfl, rfl⟩ := hq
        refine g_if_ne (tgt := 79) C d_M_nextTick_59 (by decide) (fun j59 => ?_) (fun j59 => ?_)
        · exact fin (i + 1) (by omega) (by rw [← hg, nDn, if_pos (show mSet th pl lo hi am p (i + 1) = true from nb0 j59)])
        · refine g_iload_n C rfl rfl d_M_nextTick_62 ?_
          refine g_if_eq (tgt := 72) C d_M_nextTick_63 (by decide) (fun j63 => ?_) (fun j63 => ?_)
          · exact absurd j63 (by decide)
          refine g_iload_n C rfl rfl d_M_nextTick_66 ?_
          refine g_iconst (v := 1) C rfl d_M_nextTick_67 ?_
          refine g_isub C d_M_nextTick_68 ?_
          refine g_goto (tgt := 75) C d_M_nextTick_69 (by decide) ?_
          refine g_topi (fun y e_y => ?_)
          refine g_istore_n (lv' := [(3, .int y), (4, .int (-40)), (0, .ref (ad o m)), (1, .int (nI p)), (2, .int (bz true))]) C d_M_nextTick_75 rfl (by decide) rfl ?_
          refine g_goto (tgt := 35) C d_M_nextTick_76 (by decide) ?_
          exact ih (by omega) (by rw [← hg, nDn, if_neg (by rw [show mSet th pl lo hi am p (i + 1) = false from (bz_eq0 _).mp j59]; decide)]) _ (by rw [e_y]; exact (iI_sub _ 1).trans (congrArg iI (by omega)))
    refine g_iload_n C rfl rfl d_M_nextTick_0 ?_
    refine g_if_eq (tgt := 13) C d_M_nextTick_1 (by decide) (fun j1 => ?_) (fun j1 => ?_)
    · exact absurd j1 (by decide)
    refine g_aload_n C rfl rfl d_M_nextTick_4 ?_
    refine gf_M_63 C d_M_nextTick_5 (by first | assumption | omega) (by repeat' first | assumption | exact up_eq _ _ _ | refine up_ne (by omega) ?_) (by rfl) ?_
    refine g_iload_n C rfl rfl d_M_nextTick_8 ?_
    refine g_iald C d_M_nextTick_9 (by first | assumption | omega) (by repeat' first | assumption | exact up_eq _ _ _ | refine up_ne (by omega) ?_) hin ?_
    rw [hcl, hnp]
    refine g_goto (tgt := 21) C d_M_nextTick_10 (by decide) ?_
    refine g_topi (fun x e_x => ?_)
    refine g_istore_n (lv' := [(3, .int x), (0, .ref (ad o m)), (1, .int (nI p)), (2, .int (bz true))]) C d_M_nextTick_21 rfl (by decide) rfl ?_
    refine g_iload_n C rfl rfl d_M_nextTick_22 ?_
    refine g_if_eq (tgt := 31) C d_M_nextTick_23 (by decide) (fun j23 => ?_) (fun j23 => ?_)
    · exact absurd j23 (by decide)
    refine g_bipush (v := -40) C rfl d_M_nextTick_26 ?_
    refine g_goto (tgt := 33) C d_M_nextTick_28 (by decide) ?_
    refine g_istore (lv' := [(4, .int (-40)), (3, .int x), (0, .ref (ad o m)), (1, .int (nI p)), (2, .int (bz true))]) C d_M_nextTick_33 (by decide) rfl ?_
    refine g_pick [1, 0, 2, 3, 4] rfl ?_
    exact loop (tx tz) (tx_le h6) (zNx_t _ _).symm _ (by rw [e_x]; congr 1; unfold tx; omega)
def zWi (dn ex : Bool) (L S r : Nat) : Nat := if ex = true then (if dn = true then dv true (L * S * 4294967296) (L * 4294967296 + r * S) else S + r * 4294967296 / L) else (if dn = true then S - dv true (r * 4294967296) L else dv true (L * S * 4294967296) (L * 4294967296 - r * S))
theorem big_35 {S : Nat} (h : S < 14706804615) : S < 2 ^ 35 := by omega
theorem big_62 {L : Nat} (h : L ≤ 600000000) : L * 4294967296 < 2 ^ 62 := Nat.lt_of_le_of_lt (m_le h (Nat.le_refl 4294967296)) (by decide)
theorem c_M_within {l : Launch} {o n : Nat} {sg : Nat → va_E} (dn ex : Bool) (S L r : Nat) (hL0 : 0 < L) (hL : L ≤ 600000000) (hS : 0 < S) (hS2 : S < 14706804615) (hr : r ≤ 100000000) (h1 : ex = false → dn = true → dv true (r * 4294967296) L ≤ S) (h2 : ex = false → dn = false → r * S < L * 4294967296) : GM l y_M_within b_M_within 8 (some .long) 2 43 0 0 o n n sg false [.int (bz dn), .int (bz ex), .long (lN S), .long (lN L), .long (lN r)] (gR (some (.long (lN (zWi dn ex L S r)))) sg) := by
  have hL3 : L < 2 ^ 63 := by omega
  have hb0 : ¬ lN L = 0 := fun h => by rw [lN_ne0 hL3] at h; omega
  have e1 : L * 4294967296 * S = L * S * 4294967296 := Nat.mul_right_comm _ _ _
  refine GM_of (by decide) (Nat.le_of_ble_eq_true rfl) ?_
  intro K C hl hz hr0 hnm E
  show G K o n sg 0 0 0 [(0, .int (bz dn)), (1, .int (bz ex)), (2, .long (lN S)), (4, .long (lN L)), (6, .long (lN r))] []
  have hrr := hr
  have hr := hr0
  cases ex
  · cases dn
    · refine g_iload_n C rfl rfl d_M_within_0 ?_
      refine g_if_eq (tgt := 45) C d_M_within_1 (by decide) (fun j1 => ?_) (fun j1 => ?_)
      rotate_left
      · exact absurd rfl j1
      refine g_iload_n C rfl rfl d_M_within_45 ?_
      refine g_if_eq (tgt := 66) C d_M_within_46 (by decide) (fun j46 => ?_) (fun j46 => ?_)
      rotate_left
      · exact absurd rfl j46
      refine g_lload C rfl d_M_within_66 ?_
      refine g_ldc2 C m_640 d_M_within_68 ?_
      refine g_lmul C d_M_within_71 ?_
      refine g_lload_n C rfl rfl d_M_within_72 ?_
      refine g_lload C rfl d_M_within_73 ?_
      refine g_ldc2 C m_640 d_M_within_75 ?_
      refine g_lmul C d_M_within_78 ?_
      refine g_lload C rfl d_M_within_79 ?_
      refine g_lload_n C rfl rfl d_M_within_81 ?_
      refine g_lmul C d_M_within_82 ?_
      refine g_lsub C d_M_within_83 ?_
      rw [show (4294967296 : Int64) = lN 4294967296 from rfl, lN_mul, lN_mul, lN_sub (Nat.le_of_lt (h2 rfl rfl))]
      refine g_iconst (v := 1) C rfl d_M_within_84 ?_
      refine g_callS C (c_M_share true (L * 4294967296) S (L * 4294967296 - r * S) (big_62 hL) (big_35 hS2) (Nat.sub_pos_of_lt (h2 rfl rfl)) (Nat.le_trans (Nat.sub_le _ _) (Nat.le_of_lt (big_62 hL)))) Y_M_share m_840 m_839 ⟨by decide, by decide⟩ ⟨by decide, by decide⟩ (fun h => nomatch h) d_M_within_85 rfl (Nat.le_of_ble_eq_true rfl) (fun ret sg85 hq => ?_)
      obtain ⟨rfl, rfl⟩ := hq
      rw [e1]
      refine g_lret C E hr d_M_within_88 ⟨by rw [zWi, if_neg (show ¬ false = true by decide), if_neg (show ¬ false = true by decide)], rfl⟩
    · refine g_iload_n C rfl rfl d_M_within_0 ?_
      refine g_if_eq (tgt := 45) C d_M_within_1 (by decide) (fun j1 => ?_) (fun j1 => ?_)
      rotate_left
      · exact absurd rfl j1
      refine g_iload_n C rfl rfl d_M_within_45 ?_
      refine g_if_eq (tgt := 66) C d_M_within_46 (by decide) (fun j46 => ?_) (fun j46 => ?_)
      · exact absurd j46 (by decide)
      refine g_lload_n C rfl rfl d_M_within_49 ?_
      refine g_lload C rfl d_M_within_50 ?_
      refine g_ldc2 C m_640 d_M_within_52 ?_
      refine g_lmul C d_M_within_55 ?_
      rw [show (4294967296 : Int64) = lN 4294967296 from rfl, lN_mul]
      refine g_lload C rfl d_M_within_56 ?_
      refine g_iconst (v := 1) C rfl d_M_within_58 ?_
      refine g_callS C (c_M_quotient true (r * 4294967296) L (big_r (by omega)) hL0 hL3) Y_M_quotient m_771 m_770 ⟨by decide, by decide⟩ ⟨by decide, by decide⟩ (fun h => nomatch h) d_M_within_59 rfl (Nat.le_of_ble_eq_true rfl) (fun ret sg59 hq => ?_)
      obtain ⟨rfl, rfl⟩ := hq
      refine g_lsub C d_M_within_62 ?_
      rw [lN_sub (h1 rfl rfl)]
      refine g_goto (tgt := 88) C d_M_within_63 (by decide) ?_
      refine g_lret C E hr d_M_within_88 ⟨by rw [zWi, if_neg (show ¬ false = true by decide), if_pos (show true = true from rfl)], rfl⟩
  · cases dn
    · refine g_iload_n C rfl rfl d_M_within_0 ?_
      refine g_if_eq (tgt := 45) C d_M_within_1 (by decide) (fun j1 => ?_) (fun j1 => ?_)
      · exact absurd j1 (by decide)
      refine g_iload_n C rfl rfl d_M_within_4 ?_
      refine g_if_eq (tgt := 33) C d_M_within_5 (by decide) (fun j5 => ?_) (fun j5 => ?_)
      rotate_left
      · exact absurd rfl j5
      refine g_lload_n C rfl rfl d_M_within_33 ?_
      refine g_lload C rfl d_M_within_34 ?_
      refine g_ldc2 C m_640 d_M_within_36 ?_
      refine g_lmul C d_M_within_39 ?_
      rw [show (4294967296 : Int64) = lN 4294967296 from rfl, lN_mul]
      refine g_lload C rfl d_M_within_40 ?_
      refine g_ldiv C hb0 d_M_within_42 ?_
      rw [pk_lDiv (big_r (by omega)) hL0 hL3]
      refine g_ladd C d_M_within_43 ?_
      rw [lN_add]
      refine g_lret C E hr d_M_within_44 ⟨by rw [zWi, if_pos (show true = true from rfl), if_neg (show ¬ false = true by decide)], rfl⟩
    · refine g_iload_n C rfl rfl d_M_within_0 ?_
      refine g_if_eq (tgt := 45) C d_M_within_1 (by decide) (fun j1 => ?_) (fun j1 => ?_)
      · exact absurd j1 (by decide)
      refine g_iload_n C rfl rfl d_M_within_4 ?_
      refine g_if_eq (tgt := 33) C d_M_within_5 (by decide) (fun j5 => ?_) (fun j5 => ?_)
      · exact absurd j5 (by decide)
      refine g_lload C rfl d_M_within_8 ?_
      refine g_ldc2 C m_640 d_M_within_10 ?_
      refine g_lmul C d_M_within_13 ?_
      refine g_lload_n C rfl rfl d_M_within_14 ?_
      refine g_lload C rfl d_M_within_15 ?_
      refine g_ldc2 C m_640 d_M_within_17 ?_
      refine g_lmul C d_M_within_20 ?_
      refine g_lload C rfl d_M_within_21 ?_
      refine g_lload_n C rfl rfl d_M_within_23 ?_
      refine g_lmul C d_M_within_24 ?_
      refine g_ladd C d_M_within_25 ?_
      rw [show (4294967296 : Int64) = lN 4294967296 from rfl, lN_mul, lN_mul, lN_add]
      refine g_iconst (v := 1) C rfl d_M_within_26 ?_
      refine g_callS C (c_M_share true (L * 4294967296) S (L * 4294967296 + r * S) (big_62 hL) (big_35 hS2) (Nat.lt_of_lt_of_le (Nat.mul_pos hL0 (by decide)) (Nat.le_add_right _ _)) (big_D hL hS2 hrr)) Y_M_share m_840 m_839 ⟨by decide, by decide⟩ ⟨by decide, by decide⟩ (fun h => nomatch h) d_M_within_27 rfl (Nat.le_of_ble_eq_true rfl) (fun ret sg27 hq => ?_)
      obtain ⟨rfl, rfl⟩ := hq
      rw [e1]
      refine g_goto (tgt := 44) C d_M_within_30 (by decide) ?_
      refine g_lret C E hr d_M_within_44 ⟨by rw [zWi, if_pos (show true = true from rfl), if_pos (show true = true from rfl)], rfl⟩

