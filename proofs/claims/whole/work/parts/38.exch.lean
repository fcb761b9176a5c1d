-- A STEP'S EXCHANGE
def zFe (dn ex at_ : Bool) (f L S P r : Nat) : Nat := if ex = true ∧ at_ = false then r - zIn dn L S P else dv true (zIn dn L S P * f) (1000 - f)
def zRs (dn ex at_ : Bool) (f L S P r : Nat) : Nat := if ex = true then r - (zIn dn L S P + zFe dn ex at_ f L S P r) else r - zGot dn ex L S P r
def gUp (dn : Bool) (L : Nat) (g : Nat → Int64) (F : Nat) : Nat → Int64 := if L = 0 then g else vp_updL g (if dn = true then 0 else 1) (g (if dn = true then 0 else 1) + lN (F * 4294967296 / L))
theorem min_lN {a b : Nat} (ha : a < 2 ^ 63) (hb : b < 2 ^ 63) : (if lN b < lN a then lN b else lN a) = lN (min a b) := by
  by_cases h : b < a
  · rw [if_pos ((pk_lLT hb ha).mpr h), Nat.min_eq_right (by omega)]
  · rw [if_neg (fun q => h ((pk_lLT hb ha).mp q)), Nat.min_eq_left (by omega)]
theorem zGot_t {dn : Bool} {L S P r : Nat} : zGot dn true L S P r = zOut dn L S P := if_pos rfl
theorem zGot_f {dn : Bool} {L S P r : Nat} : zGot dn false L S P r = min r (zOut dn L S P) := if_neg (by decide)
theorem zFe_tf (dn : Bool) (f L S P r : Nat) : zFe dn true false f L S P r = r - zIn dn L S P := if_pos ⟨rfl, rfl⟩
theorem zFe_tt (dn : Bool) (f L S P r : Nat) : zFe dn true true f L S P r = dv true (zIn dn L S P * f) (1000 - f) := if_neg (fun q => absurd q.2 (by decide))
theorem zFe_f (dn at_ : Bool) (f L S P r : Nat) : zFe dn false at_ f L S P r = dv true (zIn dn L S P * f) (1000 - f) := if_neg (fun q => absurd q.1 (by decide))
theorem zFe_b {dn ex at_ : Bool} {f L S P r : Nat} (hf : f ≤ 100) (hr : r ≤ 100000000) (hI : zIn dn L S P ≤ 2100000000) : zFe dn ex at_ f L S P r ≤ 2100000000 := by
  unfold zFe
  split
  · omega
  · refine dv_mono (by omega) ?_
    exact Nat.le_trans (m_le hI hf) (Nat.le_trans (by decide : 2100000000 * 100 ≤ 900 * 2100000000) (m_le (show 900 ≤ 1000 - f by omega) (Nat.le_refl _)))
set_option maxHeartbeats 4000000 in
theorem c_T_exchange {l : Launch} {o n : Nat} {sg : Nat → va_E} {k kr kp kc f kn kt : Nat} {gr ne : Nat → Int32} {dn ex : Bool} {lim paid got : Int64} {S L r : Nat} {tz : Int} {g ou : Nat → Int64} (P : Nat) (at_ : Bool) (hk : k < kp) (hkc : kp + 3 ≤ kc) (hc : kc + 2 < n) (hT : isT sg o k kr kp kc dn ex (lN r) lim paid got) (hPl : isP sg o kp kr f kn kt gr ne) (hC : isC sg o kc (lN S) tz (nI L) g ou) (hf : f ≤ 100) (hr : r ≤ 100000000) (hL : L ≤ 600000000) (hS : 1254299944 ≤ S) (hP0 : 1254299944 ≤ P) (hS2 : S < 14706804615) (hP2 : P < 14706804615) (hd : if dn = true then P ≤ S else S ≤ P) (hin : ex = true → zIn dn L S P ≤ r) (hle : ex = true → zIn dn L S P + zFe dn ex at_ f L S P r ≤ r) :
    GM l y_T_exchange b_T_exchange 10 none 4 89 0 0 o n n sg false [.ref (ad o k), .long (lN P), .int (bz at_)] (fun r0 s => none = r0 ∧ isT s o k kr kp kc dn ex (lN (zRs dn ex at_ f L S P r)) lim (paid + lN (zIn dn L S P + zFe dn ex at_ f L S P r)) (got + lN (zGot dn ex L S P r)) ∧ isC s o kc (lN S) tz (nI L) (gUp dn L g (zFe dn ex at_ f L S P r)) ou ∧ ∀ j, j ≠ k → j ≠ kc + 1 → s j = sg j) := by
  obtain ⟨c1, c2, c3⟩ := id hC
  have hp1 := hPl.1
  have ht1 : sg k = _ := hT
  have hI := zIn_b hL hS hP0 hS2 hP2 hd
  have hO := zOut_b hL hS hP0 hS2 hP2 hd
  have hFb := zFe_b (dn := dn) (ex := ex) (at_ := at_) (L := L) (S := S) (P := P) hf hr hI
  have hzr : zRs dn ex at_ f L S P r = if ex = true then r - (zIn dn L S P + zFe dn ex at_ f L S P r) else r - zGot dn ex L S P r := rfl
  generalize hF : zFe dn ex at_ f L S P r = F at hFb hle hzr ⊢
  refine GM_of (by decide) (Nat.le_of_ble_eq_true rfl) ?_
  intro K C hl hz hr0 hnm E
  show G K o n sg 0 0 0 [(0, .ref (ad o k)), (1, .long (lN P)), (3, .int (bz at_))] []
  have hrr := hr
  have hr := hr0
  have hO3 : zOut dn L S P < 2 ^ 63 := by omega
  have hr3 : r < 2 ^ 63 := by omega
  by_cases hL0 : L = 0
  · cases ex
    · cases dn
      · refine g_aload_n C rfl rfl d_T_exchange_0 ?_
        refine g_lload_n C rfl rfl d_T_exchange_1 ?_
        refine g_callV C (c_T_takenUntil P (by omega) hc hT hC hL (by omega) (by omega) hS2 hP2 hd) Y_T_takenUntil m_544 s_T_takenUntil m_542 rfl rfl ⟨by decide, by decide⟩ ⟨by decide, by decide⟩ (fun h => nomatch h) d_T_exchange_2 (by first | assumption | omega) (by repeat' first | assumption | exact up_eq _ _ _ | refine up_ne (by omega) ?_) rfl (Nat.le_of_ble_eq_true rfl) (fun ret sg2 hq => ?_)
        obtain ⟨rfl, rfl⟩ := hq
        refine g_lstore (lv' := [(4, .long (lN (zIn false L S P))), (0, .ref (ad o k)), (1, .long (lN P)), (3, .int (bz at_))]) C d_T_exchange_5 (by decide) rfl ?_
        refine g_aload_n C rfl rfl d_T_exchange_7 ?_
        refine gf_T_35 C d_T_exchange_8 (by first | assumption | omega) (by repeat' first | assumption | exact up_eq _ _ _ | refine up_ne (by omega) ?_) (by rfl) ?_
        refine g_if_eq (tgt := 22) C d_T_exchange_11 (by decide) (fun j11 => ?_) (fun j11 => ?_)
        rotate_left
        · exact absurd rfl j11
        refine g_aload_n C rfl rfl d_T_exchange_22 ?_
        refine gf_T_38 C d_T_exchange_23 (by first | assumption | omega) (by repeat' first | assumption | exact up_eq _ _ _ | refine up_ne (by omega) ?_) (by rfl) ?_
        refine g_aload_n C rfl rfl d_T_exchange_26 ?_
        refine g_lload_n C rfl rfl d_T_exchange_27 ?_
        refine g_callV C (c_T_paidUntil P (by omega) hc hT hC hL (by omega) (by omega) hS2 hP2 hd) Y_T_paidUntil m_556 s_T_paidUntil m_554 rfl rfl ⟨by decide, by decide⟩ ⟨by decide, by decide⟩ (fun h => nomatch h) d_T_exchange_28 (by first | assumption | omega) (by repeat' first | assumption | exact up_eq _ _ _ | refine up_ne (by omega) ?_) rfl (Nat.le_of_ble_eq_true rfl) (fun ret sg28 hq => ?_)
        obtain ⟨rfl, rfl⟩ := hq
        refine g_mminL C m_533 d_T_exchange_31 (by decide) (Nat.le_of_ble_eq_true rfl) (by decide) (by decide) ?_
        rw [min_lN hr3 hO3]
        refine g_lstore (lv' := [(6, .long (lN (min r (zOut false L S P)))), (4, .long (lN (zIn false L S P))), (0, .ref (ad o k)), (1, .long (lN P)), (3, .int (bz at_))]) C d_T_exchange_34 (by decide) rfl ?_
        refine g_aload_n C rfl rfl d_T_exchange_36 ?_
        refine gf_T_35 C d_T_exchange_37 (by first | assumption | omega) (by repeat' first | assumption | exact up_eq _ _ _ | refine up_ne (by omega) ?_) (by rfl) ?_
        refine g_if_eq (tgt := 57) C d_T_exchange_40 (by decide) (fun j40 => ?_) (fun j40 => ?_)
        rotate_left
        · exact absurd rfl j40
        refine g_lload C rfl d_T_exchange_57 ?_
        refine g_aload_n C rfl rfl d_T_exchange_59 ?_
        refine gf_T_20 C d_T_exchange_60 (by first | assumption | omega) (by repeat' first | assumption | exact up_eq _ _ _ | refine up_ne (by omega) ?_) (by rfl) ?_
        refine gf_T_103 C d_T_exchange_63 (by first | assumption | omega) (by repeat' first | assumption | exact up_eq _ _ _ | refine up_ne (by omega) ?_) (by rfl) ?_
        refine g_i2l C d_T_exchange_66 ?_
        rw [nI_l (by omega)]
        refine g_lmul C d_T_exchange_67 ?_
        rw [lN_mul]
        refine g_sipush (v := 1000) C rfl d_T_exchange_68 ?_
        refine g_aload_n C rfl rfl d_T_exchange_71 ?_
        refine gf_T_20 C d_T_exchange_72 (by first | assumption | omega) (by repeat' first | assumption | exact up_eq _ _ _ | refine up_ne (by omega) ?_) (by rfl) ?_
        refine gf_T_103 C d_T_exchange_75 (by first | assumption | omega) (by repeat' first | assumption | exact up_eq _ _ _ | refine up_ne (by omega) ?_) (by rfl) ?_
        refine g_isub C d_T_exchange_78 ?_
        refine g_i2l C d_T_exchange_79 ?_
        rw [th_sub hf]
        refine g_iconst (v := 1) C rfl d_T_exchange_80 ?_
        refine g_callS C (c_Q_of true (zIn false L S P * f) (1000 - f) (Nat.lt_of_le_of_lt (m_le hI hf) (by decide)) (by omega) (by omega)) Y_Q_of m_368 m_541 ⟨by decide, by decide⟩ ⟨by decide, by decide⟩ (fun h => nomatch h) d_T_exchange_81 rfl (Nat.le_of_ble_eq_true rfl) (fun ret sg81 hq => ?_)
        obtain ⟨rfl, rfl⟩ := hq
        rw [show dv true (zIn false L S P * f) (1000 - f) = F from (zFe_f _ _ _ _ _ _ _).symm.trans hF]
        refine g_lstore (lv' := [(8, .long (lN F)), (6, .long (lN (min r (zOut false L S P)))), (4, .long (lN (zIn false L S P))), (0, .ref (ad o k)), (1, .long (lN P)), (3, .int (bz at_))]) C d_T_exchange_84 (by decide) rfl ?_
        refine g_aload_n C rfl rfl d_T_exchange_86 ?_
        refine g_dup C rfl d_T_exchange_87 ?_
        refine gf_T_38 C d_T_exchange_88 (by first | assumption | omega) (by repeat' first | assumption | exact up_eq _ _ _ | refine up_ne (by omega) ?_) (by rfl) ?_
        refine g_aload_n C rfl rfl d_T_exchange_91 ?_
        refine gf_T_35 C d_T_exchange_92 (by first | assumption | omega) (by repeat' first | assumption | exact up_eq _ _ _ | refine up_ne (by omega) ?_) (by rfl) ?_
        refine g_if_eq (tgt := 106) C d_T_exchange_95 (by decide) (fun j95 => ?_) (fun j95 => ?_)
        rotate_left
        · exact absurd rfl j95
        refine g_lload C rfl d_T_exchange_106 ?_
        refine g_lsub C d_T_exchange_108 ?_
        rw [lN_sub (Nat.min_le_left _ _)]
        refine pf_T_38 C d_T_exchange_109 rfl rfl (by first | assumption | omega) (by repeat' first | assumption | exact up_eq _ _ _ | refine up_ne (by omega) ?_) (by exact Nat.le_of_ble_eq_true rfl) ?_
        refine g_aload_n C rfl rfl d_T_exchange_112 ?_
        refine g_dup C rfl d_T_exchange_113 ?_
        refine gf_T_45 C d_T_exchange_114 (by first | assumption | omega) (by repeat' first | assumption | exact up_eq _ _ _ | refine up_ne (by omega) ?_) (by rfl) ?_
        refine g_lload C rfl d_T_exchange_117 ?_
        refine g_lload C rfl d_T_exchange_119 ?_
        refine g_ladd C d_T_exchange_121 ?_
        rw [lN_add]
        refine g_ladd C d_T_exchange_122 ?_
        refine pf_T_45 C d_T_exchange_123 rfl rfl (by first | assumption | omega) (by repeat' first | assumption | exact up_eq _ _ _ | refine up_ne (by omega) ?_) (by exact Nat.le_of_ble_eq_true rfl) ?_
        refine g_aload_n C rfl rfl d_T_exchange_126 ?_
        refine g_dup C rfl d_T_exchange_127 ?_
        refine gf_T_48 C d_T_exchange_128 (by first | assumption | omega) (by repeat' first | assumption | exact up_eq _ _ _ | refine up_ne (by omega) ?_) (by rfl) ?_
        refine g_lload C rfl d_T_exchange_131 ?_
        refine g_ladd C d_T_exchange_133 ?_
        refine pf_T_48 C d_T_exchange_134 rfl rfl (by first | assumption | omega) (by repeat' first | assumption | exact up_eq _ _ _ | refine up_ne (by omega) ?_) (by exact Nat.le_of_ble_eq_true rfl) ?_
        refine g_aload_n C rfl rfl d_T_exchange_137 ?_
        refine gf_T_28 C d_T_exchange_138 (by first | assumption | omega) (by repeat' first | assumption | exact up_eq _ _ _ | refine up_ne (by omega) ?_) (by rfl) ?_
        refine gf_T_100 C d_T_exchange_141 (by first | assumption | omega) (by repeat' first | assumption | exact up_eq _ _ _ | refine up_ne (by omega) ?_) (by rfl) ?_
        refine g_if_eq (tgt := 188) C d_T_exchange_144 (by decide) (fun j144 => ?_) (fun j144 => ?_)
        rotate_left
        · exact absurd (by rw [hL0]; rfl) j144
        refine g_vret C E hr d_T_exchange_188 ⟨rfl, by rw [hzr, if_neg (show ¬ false = true by decide), zGot_f]; exact (by repeat' first | assumption | exact up_eq _ _ _ | refine up_ne (by omega) ?_), ⟨(by repeat' first | assumption | exact up_eq _ _ _ | refine up_ne (by omega) ?_), by rw [gUp, if_pos hL0]; exact (by repeat' first | assumption | exact up_eq _ _ _ | refine up_ne (by omega) ?_), (by repeat' first | assumption | exact up_eq _ _ _ | refine up_ne (by omega) ?_)⟩, fun j h1 h2 => by repeat' first | rfl | refine up_ne (by omega) ?_⟩
      · refine g_aload_n C rfl rfl d_T_exchange_0 ?_
        refine g_lload_n C rfl rfl d_T_exchange_1 ?_
        refine g_callV C (c_T_takenUntil P (by omega) hc hT hC hL (by omega) (by omega) hS2 hP2 hd) Y_T_takenUntil m_544 s_T_takenUntil m_542 rfl rfl ⟨by decide, by decide⟩ ⟨by decide, by decide⟩ (fun h => nomatch h) d_T_exchange_2 (by first | assumption | omega) (by repeat' first | assumption | exact up_eq _ _ _ | refine up_ne (by omega) ?_) rfl (Nat.le_of_ble_eq_true rfl) (fun ret sg2 hq => ?_)
        obtain ⟨rfl, rfl⟩ := hq
        refine g_lstore (lv' := [(4, .long (lN (zIn true L S P))), (0, .ref (ad o k)), (1, .long (lN P)), (3, .int (bz at_))]) C d_T_exchange_5 (by decide) rfl ?_
        refine g_aload_n C rfl rfl d_T_exchange_7 ?_
        refine gf_T_35 C d_T_exchange_8 (by first | assumption | omega) (by repeat' first | assumption | exact up_eq _ _ _ | refine up_ne (by omega) ?_) (by rfl) ?_
        refine g_if_eq (tgt := 22) C d_T_exchange_11 (by decide) (fun j11 => ?_) (fun j11 => ?_)
        rotate_left
        · exact absurd rfl j11
        refine g_aload_n C rfl rfl d_T_exchange_22 ?_
        refine gf_T_38 C d_T_exchange_23 (by first | assumption | omega) (by repeat' first | assumption | exact up_eq _ _ _ | refine up_ne (by omega) ?_) (by rfl) ?_
        refine g_aload_n C rfl rfl d_T_exchange_26 ?_
        refine g_lload_n C rfl rfl d_T_exchange_27 ?_
        refine g_callV C (c_T_paidUntil P (by omega) hc hT hC hL (by omega) (by omega) hS2 hP2 hd) Y_T_paidUntil m_556 s_T_paidUntil m_554 rfl rfl ⟨by decide, by decide⟩ ⟨by decide, by decide⟩ (fun h => nomatch h) d_T_exchange_28 (by first | assumption | omega) (by repeat' first | assumption | exact up_eq _ _ _ | refine up_ne (by omega) ?_) rfl (Nat.le_of_ble_eq_true rfl) (fun ret sg28 hq => ?_)
        obtain ⟨rfl, rfl⟩ := hq
        refine g_mminL C m_533 d_T_exchange_31 (by decide) (Nat.le_of_ble_eq_true rfl) (by decide) (by decide) ?_
        rw [min_lN hr3 hO3]
        refine g_lstore (lv' := [(6, .long (lN (min r (zOut true L S P)))), (4, .long (lN (zIn true L S P))), (0, .ref (ad o k)), (1, .long (lN P)), (3, .int (bz at_))]) C d_T_exchange_34 (by decide) rfl ?_
        refine g_aload_n C rfl rfl d_T_exchange_36 ?_
        refine gf_T_35 C d_T_exchange_37 (by first | assumption | omega) (by repeat' first | assumption | exact up_eq _ _ _ | refine up_ne (by omega) ?_) (by rfl) ?_
        refine g_if_eq (tgt := 57) C d_T_exchange_40 (by decide) (fun j40 => ?_) (fun j40 => ?_)
        rotate_left
        · exact absurd rfl j40
        refine g_lload C rfl d_T_exchange_57 ?_
        refine g_aload_n C rfl rfl d_T_exchange_59 ?_
        refine gf_T_20 C d_T_exchange_60 (by first | assumption | omega) (by repeat' first | assumption | exact up_eq _ _ _ | refine up_ne (by omega) ?_) (by rfl) ?_
        refine gf_T_103 C d_T_exchange_63 (by first | assumption | omega) (by repeat' first | assumption | exact up_eq _ _ _ | refine up_ne (by omega) ?_) (by rfl) ?_
        refine g_i2l C d_T_exchange_66 ?_
        rw [nI_l (by omega)]
        refine g_lmul C d_T_exchange_67 ?_
        rw [lN_mul]
        refine g_sipush (v := 1000) C rfl d_T_exchange_68 ?_
        refine g_aload_n C rfl rfl d_T_exchange_71 ?_
        refine gf_T_20 C d_T_exchange_72 (by first | assumption | omega) (by repeat' first | assumption | exact up_eq _ _ _ | refine up_ne (by omega) ?_) (by rfl) ?_
        refine gf_T_103 C d_T_exchange_75 (by first | assumption | omega) (by repeat' first | assumption | exact up_eq _ _ _ | refine up_ne (by omega) ?_) (by rfl) ?_
        refine g_isub C d_T_exchange_78 ?_
        refine g_i2l C d_T_exchange_79 ?_
        rw [th_sub hf]
        refine g_iconst (v := 1) C rfl d_T_exchange_80 ?_
        refine g_callS C (c_Q_of true (zIn true L S P * f) (1000 - f) (Nat.lt_of_le_of_lt (m_le hI hf) (by decide)) (by omega) (by omega)) Y_Q_of m_368 m_541 ⟨by decide, by decide⟩ ⟨by decide, by decide⟩ (fun h => nomatch h) d_T_exchange_81 rfl (Nat.le_of_ble_eq_true rfl) (fun ret sg81 hq => ?_)
        obtain ⟨rfl, rfl⟩ := hq
        rw [show dv true (zIn true L S P * f) (1000 - f) = F from (zFe_f _ _ _ _ _ _ _).symm.trans hF]
        refine g_lstore (lv' := [(8, .long (lN F)), (6, .long (lN (min r (zOut true L S P)))), (4, .long (lN (zIn true L S P))), (0, .ref (ad o k)), (1, .long (lN P)), (3, .int (bz at_))]) C d_T_exchange_84 (by decide) rfl ?_
        refine g_aload_n C rfl rfl d_T_exchange_86 ?_
        refine g_dup C rfl d_T_exchange_87 ?_
        refine gf_T_38 C d_T_exchange_88 (by first | assumption | omega) (by repeat' first | assumption | exact up_eq _ _ _ | refine up_ne (by omega) ?_) (by rfl) ?_
        refine g_aload_n C rfl rfl d_T_exchange_91 ?_
        refine gf_T_35 C d_T_exchange_92 (by first | assumption | omega) (by repeat' first | assumption | exact up_eq _ _ _ | refine up_ne (by omega) ?_) (by rfl) ?_
        refine g_if_eq (tgt := 106) C d_T_exchange_95 (by decide) (fun j95 => ?_) (fun j95 => ?_)
        rotate_left
        · exact absurd rfl j95
        refine g_lload C rfl d_T_exchange_106 ?_
        refine g_lsub C d_T_exchange_108 ?_
        rw [lN_sub (Nat.min_le_left _ _)]
        refine pf_T_38 C d_T_exchange_109 rfl rfl (by first | assumption | omega) (by repeat' first | assumption | exact up_eq _ _ _ | refine up_ne (by omega) ?_) (by exact Nat.le_of_ble_eq_true rfl) ?_
        refine g_aload_n C rfl rfl d_T_exchange_112 ?_
        refine g_dup C rfl d_T_exchange_113 ?_
        refine gf_T_45 C d_T_exchange_114 (by first | assumption | omega) (by repeat' first | assumption | exact up_eq _ _ _ | refine up_ne (by omega) ?_) (by rfl) ?_
        refine g_lload C rfl d_T_exchange_117 ?_
        refine g_lload C rfl d_T_exchange_119 ?_
        refine g_ladd C d_T_exchange_121 ?_
        rw [lN_add]
        refine g_ladd C d_T_exchange_122 ?_
        refine pf_T_45 C d_T_exchange_123 rfl rfl (by first | assumption | omega) (by repeat' first | assumption | exact up_eq _ _ _ | refine up_ne (by omega) ?_) (by exact Nat.le_of_ble_eq_true rfl) ?_
        refine g_aload_n C rfl rfl d_T_exchange_126 ?_
        refine g_dup C rfl d_T_exchange_127 ?_
        refine gf_T_48 C d_T_exchange_128 (by first | assumption | omega) (by repeat' first | assumption | exact up_eq _ _ _ | refine up_ne (by omega) ?_) (by rfl) ?_
        refine g_lload C rfl d_T_exchange_131 ?_
        refine g_ladd C d_T_exchange_133 ?_
        refine pf_T_48 C d_T_exchange_134 rfl rfl (by first | assumption | omega) (by repeat' first | assumption | exact up_eq _ _ _ | refine up_ne (by omega) ?_) (by exact Nat.le_of_ble_eq_true rfl) ?_
        refine g_aload_n C rfl rfl d_T_exchange_137 ?_
        refine gf_T_28 C d_T_exchange_138 (by first | assumption | omega) (by repeat' first | assumption | exact up_eq _ _ _ | refine up_ne (by omega) ?_) (by rfl) ?_
        refine gf_T_100 C d_T_exchange_141 (by first | assumption | omega) (by repeat' first | assumption | exact up_eq _ _ _ | refine up_ne (by omega) ?_) (by rfl) ?_
        refine g_if_eq (tgt := 188) C d_T_exchange_144 (by decide) (fun j144 => ?_) (fun j144 => ?_)
        rotate_left
        · exact absurd (by rw [hL0]; rfl) j144
        refine g_vret C E hr d_T_exchange_188 ⟨rfl, by rw [hzr, if_neg (show ¬ false = true by decide), zGot_f]; exact (by repeat' first | assumption | exact up_eq _ _ _ | refine up_ne (by omega) ?_), ⟨(by repeat' first | assumption | exact up_eq _ _ _ | refine up_ne (by omega) ?_), by rw [gUp, if_pos hL0]; exact (by repeat' first | assumption | exact up_eq _ _ _ | refine up_ne (by omega) ?_), (by repeat' first | assumption | exact up_eq _ _ _ | refine up_ne (by omega) ?_)⟩, fun j h1 h2 => by repeat' first | rfl | refine up_ne (by omega) ?_⟩
    · cases at_
      · cases dn
        · refine g_aload_n C rfl rfl d_T_exchange_0 ?_
          refine g_lload_n C rfl rfl d_T_exchange_1 ?_
          refine g_callV C (c_T_takenUntil P (by omega) hc hT hC hL (by omega) (by omega) hS2 hP2 hd) Y_T_takenUntil m_544 s_T_takenUntil m_542 rfl rfl ⟨by decide, by decide⟩ ⟨by decide, by decide⟩ (fun h => nomatch h) d_T_exchange_2 (by first | assumption | omega) (by repeat' first | assumption | exact up_eq _ _ _ | refine up_ne (by omega) ?_) rfl (Nat.le_of_ble_eq_true rfl) (fun ret sg2 hq => ?_)
          obtain ⟨rfl, rfl⟩ := hq
          refine g_lstore (lv' := [(4, .long (lN (zIn false L S P))), (0, .ref (ad o k)), (1, .long (lN P)), (3, .int (bz false))]) C d_T_exchange_5 (by decide) rfl ?_
          refine g_aload_n C rfl rfl d_T_exchange_7 ?_
          refine gf_T_35 C d_T_exchange_8 (by first | assumption | omega) (by repeat' first | assumption | exact up_eq _ _ _ | refine up_ne (by omega) ?_) (by rfl) ?_
          refine g_if_eq (tgt := 22) C d_T_exchange_11 (by decide) (fun j11 => ?_) (fun j11 => ?_)
          · exact absurd j11 (by decide)
          refine g_aload_n C rfl rfl d_T_exchange_14 ?_
          refine g_lload_n C rfl rfl d_T_exchange_15 ?_
          refine g_callV C (c_T_paidUntil P (by omega) hc hT hC hL (by omega) (by omega) hS2 hP2 hd) Y_T_paidUntil m_556 s_T_paidUntil m_554 rfl rfl ⟨by decide, by decide⟩ ⟨by decide, by decide⟩ (fun h => nomatch h) d_T_exchange_16 (by first | assumption | omega) (by repeat' first | assumption | exact up_eq _ _ _ | refine up_ne (by omega) ?_) rfl (Nat.le_of_ble_eq_true rfl) (fun ret sg16 hq => ?_)
          obtain ⟨rfl, rfl⟩ := hq
          refine g_goto (tgt := 34) C d_T_exchange_19 (by decide) ?_
          refine g_lstore (lv' := [(6, .long (lN (zOut false L S P))), (4, .long (lN (zIn false L S P))), (0, .ref (ad o k)), (1, .long (lN P)), (3, .int (bz false))]) C d_T_exchange_34 (by decide) rfl ?_
          refine g_aload_n C rfl rfl d_T_exchange_36 ?_
          refine gf_T_35 C d_T_exchange_37 (by first | assumption | omega) (by repeat' first | assumption | exact up_eq _ _ _ | refine up_ne (by omega) ?_) (by rfl) ?_
          refine g_if_eq (tgt := 57) C d_T_exchange_40 (by decide) (fun j40 => ?_) (fun j40 => ?_)
          · exact absurd j40 (by decide)
          refine g_iload_n C rfl rfl d_T_exchange_43 ?_
          refine g_if_ne (tgt := 57) C d_T_exchange_44 (by decide) (fun j44 => ?_) (fun j44 => ?_)
          · exact absurd j44 (fun q => absurd rfl q)
          refine g_aload_n C rfl rfl d_T_exchange_47 ?_
          refine gf_T_38 C d_T_exchange_48 (by first | assumption | omega) (by repeat' first | assumption | exact up_eq _ _ _ | refine up_ne (by omega) ?_) (by rfl) ?_
          refine g_lload C rfl d_T_exchange_51 ?_
          refine g_lsub C d_T_exchange_53 ?_
          rw [lN_sub (hin rfl), show r - zIn false L S P = F from (zFe_tf _ _ _ _ _ _).symm.trans hF]
          refine g_goto (tgt := 84) C d_T_exchange_54 (by decide) ?_
          refine g_lstore (lv' := [(8, .long (lN F)), (6, .long (lN (zOut false L S P))), (4, .long (lN (zIn false L S P))), (0, .ref (ad o k)), (1, .long (lN P)), (3, .int (bz false))]) C d_T_exchange_84 (by decide) rfl ?_
          refine g_aload_n C rfl rfl d_T_exchange_86 ?_
          refine g_dup C rfl d_T_exchange_87 ?_
          refine gf_T_38 C d_T_exchange_88 (by first | assumption | omega) (by repeat' first | assumption | exact up_eq _ _ _ | refine up_ne (by omega) ?_) (by rfl) ?_
          refine g_aload_n C rfl rfl d_T_exchange_91 ?_
          refine gf_T_35 C d_T_exchange_92 (by first | assumption | omega) (by repeat' first | assumption | exact up_eq _ _ _ | refine up_ne (by omega) ?_) (by rfl) ?_
          refine g_if_eq (tgt := 106) C d_T_exchange_95 (by decide) (fun j95 => ?_) (fun j95 => ?_)
          · exact absurd j95 (by decide)
          refine g_lload C rfl d_T_exchange_98 ?_
          refine g_lload C rfl d_T_exchange_100 ?_
          refine g_ladd C d_T_exchange_102 ?_
          refine g_goto (tgt := 108) C d_T_exchange_103 (by decide) ?_
          rw [lN_add]
          refine g_lsub C d_T_exchange_108 ?_
          rw [lN_sub (hle rfl)]
          refine pf_T_38 C d_T_exchange_109 rfl rfl (by first | assumption | omega) (by repeat' first | assumption | exact up_eq _ _ _ | refine up_ne (by omega) ?_) (by exact Nat.le_of_ble_eq_true rfl) ?_
          refine g_aload_n C rfl rfl d_T_exchange_112 ?_
          refine g_dup C rfl d_T_exchange_113 ?_
          refine gf_T_45 C d_T_exchange_114 (by first | assumption | omega) (by repeat' first | assumption | exact up_eq _ _ _ | refine up_ne (by omega) ?_) (by rfl) ?_
          refine g_lload C rfl d_T_exchange_117 ?_
          refine g_lload C rfl d_T_exchange_119 ?_
          refine g_ladd C d_T_exchange_121 ?_
          rw [lN_add]
          refine g_ladd C d_T_exchange_122 ?_
          refine pf_T_45 C d_T_exchange_123 rfl rfl (by first | assumption | omega) (by repeat' first | assumption | exact up_eq _ _ _ | refine up_ne (by omega) ?_) (by exact Nat.le_of_ble_eq_true rfl) ?_
          refine g_aload_n C rfl rfl d_T_exchange_126 ?_
          refine g_dup C rfl d_T_exchange_127 ?_
          refine gf_T_48 C d_T_exchange_128 (by first | assumption | omega) (by repeat' first | assumption | exact up_eq _ _ _ | refine up_ne (by omega) ?_) (by rfl) ?_
          refine g_lload C rfl d_T_exchange_131 ?_
          refine g_ladd C d_T_exchange_133 ?_
          refine pf_T_48 C d_T_exchange_134 rfl rfl (by first | assumption | omega) (by repeat' first | assumption | exact up_eq _ _ _ | refine up_ne (by omega) ?_) (by exact Nat.le_of_ble_eq_true rfl) ?_
          refine g_aload_n C rfl rfl d_T_exchange_137 ?_
          refine gf_T_28 C d_T_exchange_138 (by first | assumption | omega) (by repeat' first | assumption | exact up_eq _ _ _ | refine up_ne (by omega) ?_) (by rfl) ?_
          refine gf_T_100 C d_T_exchange_141 (by first | assumption | omega) (by repeat' first | assumption | exact up_eq _ _ _ | refine up_ne (by omega) ?_) (by rfl) ?_
          refine g_if_eq (tgt := 188) C d_T_exchange_144 (by decide) (fun j144 => ?_) (fun j144 => ?_)
          rotate_left
          · exact absurd (by rw [hL0]; rfl) j144
          refine g_vret C E hr d_T_exchange_188 ⟨rfl, by rw [hzr, if_pos (show true = true from rfl), zGot_t]; exact (by repeat' first | assumption | exact up_eq _ _ _ | refine up_ne (by omega) ?_), ⟨(by repeat' first | assumption | exact up_eq _ _ _ | refine up_ne (by omega) ?_), by rw [gUp, if_pos hL0]; exact (by repeat' first | assumption | exact up_eq _ _ _ | refine up_ne (by omega) ?_), (by repeat' first | assumption | exact up_eq _ _ _ | refine up_ne (by omega) ?_)⟩, fun j h1 h2 => by repeat' first | rfl | refine up_ne (by omega) ?_⟩
        · refine g_aload_n C rfl rfl d_T_exchange_0 ?_
          refine g_lload_n C rfl rfl d_T_exchange_1 ?_
          refine g_callV C (c_T_takenUntil P (by omega) hc hT hC hL (by omega) (by omega) hS2 hP2 hd) Y_T_takenUntil m_544 s_T_takenUntil m_542 rfl rfl ⟨by decide, by decide⟩ ⟨by decide, by decide⟩ (fun h => nomatch h) d_T_exchange_2 (by first | assumption | omega) (by repeat' first | assumption | exact up_eq _ _ _ | refine up_ne (by omega) ?_) rfl (Nat.le_of_ble_eq_true rfl) (fun ret sg2 hq => ?_)
          obtain ⟨rfl, rfl⟩ := hq
          refine g_lstore (lv' := [(4, .long (lN (zIn true L S P))), (0, .ref (ad o k)), (1, .long (lN P)), (3, .int (bz false))]) C d_T_exchange_5 (by decide) rfl ?_
          refine g_aload_n C rfl rfl d_T_exchange_7 ?_
          refine gf_T_35 C d_T_exchange_8 (by first | assumption | omega) (by repeat' first | assumption | exact up_eq _ _ _ | refine up_ne (by omega) ?_) (by rfl) ?_
          refine g_if_eq (tgt := 22) C d_T_exchange_11 (by decide) (fun j11 => ?_) (fun j11 => ?_)
          · exact absurd j11 (by decide)
          refine g_aload_n C rfl rfl d_T_exchange_14 ?_
          refine g_lload_n C rfl rfl d_T_exchange_15 ?_
          refine g_callV C (c_T_paidUntil P (by omega) hc hT hC hL (by omega) (by omega) hS2 hP2 hd) Y_T_paidUntil m_556 s_T_paidUntil m_554 rfl rfl ⟨by decide, by decide⟩ ⟨by decide, by decide⟩ (fun h => nomatch h) d_T_exchange_16 (by first | assumption | omega) (by repeat' first | assumption | exact up_eq _ _ _ | refine up_ne (by omega) ?_) rfl (Nat.le_of_ble_eq_true rfl) (fun ret sg16 hq => ?_)
          obtain ⟨rfl, rfl⟩ := hq
          refine g_goto (tgt := 34) C d_T_exchange_19 (by decide) ?_
          refine g_lstore (lv' := [(6, .long (lN (zOut true L S P))), (4, .long (lN (zIn true L S P))), (0, .ref (ad o k)), (1, .long (lN P)), (3, .int (bz false))]) C d_T_exchange_34 (by decide) rfl ?_
          refine g_aload_n C rfl rfl d_T_exchange_36 ?_
          refine gf_T_35 C d_T_exchange_37 (by first | assumption | omega) (by repeat' first | assumption | exact up_eq _ _ _ | refine up_ne (by omega) ?_) (by rfl) ?_
          refine g_if_eq (tgt := 57) C d_T_exchange_40 (by decide) (fun j40 => ?_) (fun j40 => ?_)
          · exact absurd j40 (by decide)
          refine g_iload_n C rfl rfl d_T_exchange_43 ?_
          refine g_if_ne (tgt := 57) C d_T_exchange_44 (by decide) (fun j44 => ?_) (fun j44 => ?_)
          · exact absurd j44 (fun q => absurd rfl q)
          refine g_aload_n C rfl rfl d_T_exchange_47 ?_
          refine gf_T_38 C d_T_exchange_48 (by first | assumption | omega) (by repeat' first | assumption | exact up_eq _ _ _ | refine up_ne (by omega) ?_) (by rfl) ?_
          refine g_lload C rfl d_T_exchange_51 ?_
          refine g_lsub C d_T_exchange_53 ?_
          rw [lN_sub (hin rfl), show r - zIn true L S P = F from (zFe_tf _ _ _ _ _ _).symm.trans hF]
          refine g_goto (tgt := 84) C d_T_exchange_54 (by decide) ?_
          refine g_lstore (lv' := [(8, .long (lN F)), (6, .long (lN (zOut true L S P))), (4, .long (lN (zIn true L S P))), (0, .ref (ad o k)), (1, .long (lN P)), (3, .int (bz false))]) C d_T_exchange_84 (by decide) rfl ?_
          refine g_aload_n C rfl rfl d_T_exchange_86 ?_
          refine g_dup C rfl d_T_exchange_87 ?_
          refine gf_T_38 C d_T_exchange_88 (by first | assumption | omega) (by repeat' first | assumption | exact up_eq _ _ _ | refine up_ne (by omega) ?_) (by rfl) ?_
          refine g_aload_n C rfl rfl d_T_exchange_91 ?_
          refine gf_T_35 C d_T_exchange_92 (by first | assumption | omega) (by repeat' first | assumption | exact up_eq _ _ _ | refine up_ne (by omega) ?_) (by rfl) ?_
          refine g_if_eq (tgt := 106) C d_T_exchange_95 (by decide) (fun j95 => ?_) (fun j95 => ?_)
          · exact absurd j95 (by decide)
          refine g_lload C rfl d_T_exchange_98 ?_
          refine g_lload C rfl d_T_exchange_100 ?_
          refine g_ladd C d_T_exchange_102 ?_
          refine g_goto (tgt := 108) C d_T_exchange_103 (by decide) ?_
          rw [lN_add]
          refine g_lsub C d_T_exchange_108 ?_
          rw [lN_sub (hle rfl)]
          refine pf_T_38 C d_T_exchange_109 rfl rfl (by first | assumption | omega) (by repeat' first | assumption | exact up_eq _ _ _ | refine up_ne (by omega) ?_) (by exact Nat.le_of_ble_eq_true rfl) ?_
          refine g_aload_n C rfl rfl d_T_exchange_112 ?_
          refine g_dup C rfl d_T_exchange_113 ?_
          refine gf_T_45 C d_T_exchange_114 (by first | assumption | omega) (by repeat' first | assumption | exact up_eq _ _ _ | refine up_ne (by omega) ?_) (by rfl) ?_
          refine g_lload C rfl d_T_exchange_117 ?_
          refine g_lload C rfl d_T_exchange_119 ?_
          refine g_ladd C d_T_exchange_121 ?_
          rw [lN_add]
          refine g_ladd C d_T_exchange_122 ?_
          refine pf_T_45 C d_T_exchange_123 rfl rfl (by first | assumption | omega) (by repeat' first | assumption | exact up_eq _ _ _ | refine up_ne (by omega) ?_) (by exact Nat.le_of_ble_eq_true rfl) ?_
          refine g_aload_n C rfl rfl d_T_exchange_126 ?_
          refine g_dup C rfl d_T_exchange_127 ?_
          refine gf_T_48 C d_T_exchange_128 (by first | assumption | omega) (by repeat' first | assumption | exact up_eq _ _ _ | refine up_ne (by omega) ?_) (by rfl) ?_
          refine g_lload C rfl d_T_exchange_131 ?_
          refine g_ladd C d_T_exchange_133 ?_
          refine pf_T_48 C d_T_exchange_134 rfl rfl (by first | assumption | omega) (by repeat' first | assumption | exact up_eq _ _ _ | refine up_ne (by omega) ?_) (by exact Nat.le_of_ble_eq_true rfl) ?_
          refine g_aload_n C rfl rfl d_T_exchange_137 ?_
          refine gf_T_28 C d_T_exchange_138 (by first | assumption | omega) (by repeat' first | assumption | exact up_eq _ _ _ | refine up_ne (by omega) ?_) (by rfl) ?_
          refine gf_T_100 C d_T_exchange_141 (by first | assumption | omega) (by repeat' first | assumption | exact up_eq _ _ _ | refine up_ne (by omega) ?_) (by rfl) ?_
          refine g_if_eq (tgt := 188) C d_T_exchange_144 (by decide) (fun j144 => ?_) (fun j144 => ?_)
          rotate_left
          · exact absurd (by rw [hL0]; rfl) j144
          refine g_vret C E hr d_T_exchange_188 ⟨rfl, by rw [hzr, if_pos (show true = true from rfl), zGot_t]; exact (by repeat' first | assumption | exact up_eq _ _ _ | refine up_ne (by omega) ?_), ⟨(by repeat' first | assumption | exact up_eq _ _ _ | refine up_ne (by omega) ?_), by rw [gUp, if_pos hL0]; exact (by repeat' first | assumption | exact up_eq _ _ _ | refine up_ne (by omega) ?_), (by repeat' first | assumption | exact up_eq _ _ _ | refine up_ne (by omega) ?_)⟩, fun j h1 h2 => by repeat' first | rfl | refine up_ne (by omega) ?_⟩
      · cases dn
        · refine g_aload_n C rfl rfl d_T_exchange_0 ?_
          refine g_lload_n C rfl rfl d_T_exchange_1 ?_
          refine g_callV C (c_T_takenUntil P (by omega) hc hT hC hL (by omega) (by omega) hS2 hP2 hd) Y_T_takenUntil m_544 s_T_takenUntil m_542 rfl rfl ⟨by decide, by decide⟩ ⟨by decide, by decide⟩ (fun h => nomatch h) d_T_exchange_2 (by first | assumption | omega) (by repeat' first | assumption | exact up_eq _ _ _ | refine up_ne (by omega) ?_) rfl (Nat.le_of_ble_eq_true rfl) (fun ret sg2 hq => ?_)
          obtain ⟨rfl, rfl⟩ := hq
          refine g_lstore (lv' := [(4, .long (lN (zIn false L S P))), (0, .ref (ad o k)), (1, .long (lN P)), (3, .int (bz true))]) C d_T_exchange_5 (by decide) rfl ?_
          refine g_aload_n C rfl rfl d_T_exchange_7 ?_
          refine gf_T_35 C d_T_exchange_8 (by first | assumption | omega) (by repeat' first | assumption | exact up_eq _ _ _ | refine up_ne (by omega) ?_) (by rfl) ?_
          refine g_if_eq (tgt := 22) C d_T_exchange_11 (by decide) (fun j11 => ?_) (fun j11 => ?_)
          · exact absurd j11 (by decide)
          refine g_aload_n C rfl rfl d_T_exchange_14 ?_
          refine g_lload_n C rfl rfl d_T_exchange_15 ?_
          refine g_callV C (c_T_paidUntil P (by omega) hc hT hC hL (by omega) (by omega) hS2 hP2 hd) Y_T_paidUntil m_556 s_T_paidUntil m_554 rfl rfl ⟨by decide, by decide⟩ ⟨by decide, by decide⟩ (fun h => nomatch h) d_T_exchange_16 (by first | assumption | omega) (by repeat' first | assumption | exact up_eq _ _ _ | refine up_ne (by omega) ?_) rfl (Nat.le_of_ble_eq_true rfl) (fun ret sg16 hq => ?_)
          obtain ⟨rfl, rfl⟩ := hq
          refine g_goto (tgt := 34) C d_T_exchange_19 (by decide) ?_
          refine g_lstore (lv' := [(6, .long (lN (zOut false L S P))), (4, .long (lN (zIn false L S P))), (0, .ref (ad o k)), (1, .long (lN P)), (3, .int (bz true))]) C d_T_exchange_34 (by decide) rfl ?_
          refine g_aload_n C rfl rfl d_T_exchange_36 ?_
          refine gf_T_35 C d_T_exchange_37 (by first | assumption | omega) (by repeat' first | assumption | exact up_eq _ _ _ | refine up_ne (by omega) ?_) (by rfl) ?_
          refine g_if_eq (tgt := 57) C d_T_exchange_40 (by decide) (fun j40 => ?_) (fun j40 => ?_)
          · exact absurd j40 (by decide)
          refine g_iload_n C rfl rfl d_T_exchange_43 ?_
          refine g_if_ne (tgt := 57) C d_T_exchange_44 (by decide) (fun j44 => ?_) (fun j44 => ?_)
          rotate_left
          · exact absurd j44 (by decide)
          refine g_lload C rfl d_T_exchange_57 ?_
          refine g_aload_n C rfl rfl d_T_exchange_59 ?_
          refine gf_T_20 C d_T_exchange_60 (by first | assumption | omega) (by repeat' first | assumption | exact up_eq _ _ _ | refine up_ne (by omega) ?_) (by rfl) ?_
          refine gf_T_103 C d_T_exchange_63 (by first | assumption | omega) (by repeat' first | assumption | exact up_eq _ _ _ | refine up_ne (by omega) ?_) (by rfl) ?_
          refine g_i2l C d_T_exchange_66 ?_
          rw [nI_l (by omega)]
          refine g_lmul C d_T_exchange_67 ?_
          rw [lN_mul]
          refine g_sipush (v := 1000) C rfl d_T_exchange_68 ?_
          refine g_aload_n C rfl rfl d_T_exchange_71 ?_
          refine gf_T_20 C d_T_exchange_72 (by first | assumption | omega) (by repeat' first | assumption | exact up_eq _ _ _ | refine up_ne (by omega) ?_) (by rfl) ?_
          refine gf_T_103 C d_T_exchange_75 (by first | assumption | omega) (by repeat' first | assumption | exact up_eq _ _ _ | refine up_ne (by omega) ?_) (by rfl) ?_
          refine g_isub C d_T_exchange_78 ?_
          refine g_i2l C d_T_exchange_79 ?_
          rw [th_sub hf]
          refine g_iconst (v := 1) C rfl d_T_exchange_80 ?_
          refine g_callS C (c_Q_of true (zIn false L S P * f) (1000 - f) (Nat.lt_of_le_of_lt (m_le hI hf) (by decide)) (by omega) (by omega)) Y_Q_of m_368 m_541 ⟨by decide, by decide⟩ ⟨by decide, by decide⟩ (fun h => nomatch h) d_T_exchange_81 rfl (Nat.le_of_ble_eq_true rfl) (fun ret sg81 hq => ?_)
          obtain ⟨rfl, rfl⟩ := hq
          rw [show dv true (zIn false L S P * f) (1000 - f) = F from (zFe_tt _ _ _ _ _ _).symm.trans hF]
          refine g_lstore (lv' := [(8, .long (lN F)), (6, .long (lN (zOut false L S P))), (4, .long (lN (zIn false L S P))), (0, .ref (ad o k)), (1, .long (lN P)), (3, .int (bz true))]) C d_T_exchange_84 (by decide) rfl ?_
          refine g_aload_n C rfl rfl d_T_exchange_86 ?_
          refine g_dup C rfl d_T_exchange_87 ?_
          refine gf_T_38 C d_T_exchange_88 (by first | assumption | omega) (by repeat' first | assumption | exact up_eq _ _ _ | refine up_ne (by omega) ?_) (by rfl) ?_
          refine g_aload_n C rfl rfl d_T_exchange_91 ?_
          refine gf_T_35 C d_T_exchange_92 (by first | assumption | omega) (by repeat' first | assumption | exact up_eq _ _ _ | refine up_ne (by omega) ?_) (by rfl) ?_
          refine g_if_eq (tgt := 106) C d_T_exchange_95 (by decide) (fun j95 => ?_) (fun j95 => ?_)
          · exact absurd j95 (by decide)
          refine g_lload C rfl d_T_exchange_98 ?_
          refine g_lload C rfl d_T_exchange_100 ?_
          refine g_ladd C d_T_exchange_102 ?_
          refine g_goto (tgt := 108) C d_T_exchange_103 (by decide) ?_
          rw [lN_add]
          refine g_lsub C d_T_exchange_108 ?_
          rw [lN_sub (hle rfl)]
          refine pf_T_38 C d_T_exchange_109 rfl rfl (by first | assumption | omega) (by repeat' first | assumption | exact up_eq _ _ _ | refine up_ne (by omega) ?_) (by exact Nat.le_of_ble_eq_true rfl) ?_
          refine g_aload_n C rfl rfl d_T_exchange_112 ?_
          refine g_dup C rfl d_T_exchange_113 ?_
          refine gf_T_45 C d_T_exchange_114 (by first | assumption | omega) (by repeat' first | assumption | exact up_eq _ _ _ | refine up_ne (by omega) ?_) (by rfl) ?_
          refine g_lload C rfl d_T_exchange_117 ?_
          refine g_lload C rfl d_T_exchange_119 ?_
          refine g_ladd C d_T_exchange_121 ?_
          rw [lN_add]
          refine g_ladd C d_T_exchange_122 ?_
          refine pf_T_45 C d_T_exchange_123 rfl rfl (by first | assumption | omega) (by repeat' first | assumption | exact up_eq _ _ _ | refine up_ne (by omega) ?_) (by exact Nat.le_of_ble_eq_true rfl) ?_
          refine g_aload_n C rfl rfl d_T_exchange_126 ?_
          refine g_dup C rfl d_T_exchange_127 ?_
          refine gf_T_48 C d_T_exchange_128 (by first | assumption | omega) (by repeat' first | assumption | exact up_eq _ _ _ | refine up_ne (by omega) ?_) (by rfl) ?_
          refine g_lload C rfl d_T_exchange_131 ?_
          refine g_ladd C d_T_exchange_133 ?_
          refine pf_T_48 C d_T_exchange_134 rfl rfl (by first | assumption | omega) (by repeat' first | assumption | exact up_eq _ _ _ | refine up_ne (by omega) ?_) (by exact Nat.le_of_ble_eq_true rfl) ?_
          refine g_aload_n C rfl rfl d_T_exchange_137 ?_
          refine gf_T_28 C d_T_exchange_138 (by first | assumption | omega) (by repeat' first | assumption | exact up_eq _ _ _ | refine up_ne (by omega) ?_) (by rfl) ?_
          refine gf_T_100 C d_T_exchange_141 (by first | assumption | omega) (by repeat' first | assumption | exact up_eq _ _ _ | refine up_ne (by omega) ?_) (by rfl) ?_
          refine g_if_eq (tgt := 188) C d_T_exchange_144 (by decide) (fun j144 => ?_) (fun j144 => ?_)
          rotate_left
          · exact absurd (by rw [hL0]; rfl) j144
          refine g_vret C E hr d_T_exchange_188 ⟨rfl, by rw [hzr, if_pos (show true = true from rfl), zGot_t]; exact (by repeat' first | assumption | exact up_eq _ _ _ | refine up_ne (by omega) ?_), ⟨(by repeat' first | assumption | exact up_eq _ _ _ | refine up_ne (by omega) ?_), by rw [gUp, if_pos hL0]; exact (by repeat' first | assumption | exact up_eq _ _ _ | refine up_ne (by omega) ?_), (by repeat' first | assumption | exact up_eq _ _ _ | refine up_ne (by omega) ?_)⟩, fun j h1 h2 => by repeat' first | rfl | refine up_ne (by omega) ?_⟩
        · refine g_aload_n C rfl rfl d_T_exchange_0 ?_
          refine g_lload_n C rfl rfl d_T_exchange_1 ?_
          refine g_callV C (c_T_takenUntil P (by omega) hc hT hC hL (by omega) (by omega) hS2 hP2 hd) Y_T_takenUntil m_544 s_T_takenUntil m_542 rfl rfl ⟨by decide, by decide⟩ ⟨by decide, by decide⟩ (fun h => nomatch h) d_T_exchange_2 (by first | assumption | omega) (by repeat' first | assumption | exact up_eq _ _ _ | refine up_ne (by omega) ?_) rfl (Nat.le_of_ble_eq_true rfl) (fun ret sg2 hq => ?_)
          obtain ⟨rfl, rfl⟩ := hq
          refine g_lstore (lv' := [(4, .long (lN (zIn true L S P))), (0, .ref (ad o k)), (1, .long (lN P)), (3, .int (bz true))]) C d_T_exchange_5 (by decide) rfl ?_
          refine g_aload_n C rfl rfl d_T_exchange_7 ?_
          refine gf_T_35 C d_T_exchange_8 (by first | assumption | omega) (by repeat' first | assumption | exact up_eq _ _ _ | refine up_ne (by omega) ?_) (by rfl) ?_
          refine g_if_eq (tgt := 22) C d_T_exchange_11 (by decide) (fun j11 => ?_) (fun j11 => ?_)
          · exact absurd j11 (by decide)
          refine g_aload_n C rfl rfl d_T_exchange_14 ?_
          refine g_lload_n C rfl rfl d_T_exchange_15 ?_
          refine g_callV C (c_T_paidUntil P (by omega) hc hT hC hL (by omega) (by omega) hS2 hP2 hd) Y_T_paidUntil m_556 s_T_paidUntil m_554 rfl rfl ⟨by decide, by decide⟩ ⟨by decide, by decide⟩ (fun h => nomatch h) d_T_exchange_16 (by first | assumption | omega) (by repeat' first | assumption | exact up_eq _ _ _ | refine up_ne (by omega) ?_) rfl (Nat.le_of_ble_eq_true rfl) (fun ret sg16 hq => ?_)
          obtain ⟨rfl, rfl⟩ := hq
          refine g_goto (tgt := 34) C d_T_exchange_19 (by decide) ?_
          refine g_lstore (lv' := [(6, .long (lN (zOut true L S P))), (4, .long (lN (zIn true L S P))), (0, .ref (ad o k)), (1, .long (lN P)), (3, .int (bz true))]) C d_T_exchange_34 (by decide) rfl ?_
          refine g_aload_n C rfl rfl d_T_exchange_36 ?_
          refine gf_T_35 C d_T_exchange_37 (by first | assumption | omega) (by repeat' first | assumption | exact up_eq _ _ _ | refine up_ne (by omega) ?_) (by rfl) ?_
          refine g_if_eq (tgt := 57) C d_T_exchange_40 (by decide) (fun j40 => ?_) (fun j40 => ?_)
          · exact absurd j40 (by decide)
          refine g_iload_n C rfl rfl d_T_exchange_43 ?_
          refine g_if_ne (tgt := 57) C d_T_exchange_44 (by decide) (fun j44 => ?_) (fun j44 => ?_)
          rotate_left
          · exact absurd j44 (by decide)
          refine g_lload C rfl d_T_exchange_57 ?_
          refine g_aload_n C rfl rfl d_T_exchange_59 ?_
          refine gf_T_20 C d_T_exchange_60 (by first | assumption | omega) (by repeat' first | assumption | exact up_eq _ _ _ | refine up_ne (by omega) ?_) (by rfl) ?_
          refine gf_T_103 C d_T_exchange_63 (by first | assumption | omega) (by repeat' first | assumption | exact up_eq _ _ _ | refine up_ne (by omega) ?_) (by rfl) ?_
          refine g_i2l C d_T_exchange_66 ?_
          rw [nI_l (by omega)]
          refine g_lmul C d_T_exchange_67 ?_
          rw [lN_mul]
          refine g_sipush (v := 1000) C rfl d_T_exchange_68 ?_
          refine g_aload_n C rfl rfl d_T_exchange_71 ?_
          refine gf_T_20 C d_T_exchange_72 (by first | assumption | omega) (by repeat' first | assumption | exact up_eq _ _ _ | refine up_ne (by omega) ?_) (by rfl) ?_
          refine gf_T_103 C d_T_exchange_75 (by first | assumption | omega) (by repeat' first | assumption | exact up_eq _ _ _ | refine up_ne (by omega) ?_) (by rfl) ?_
          refine g_isub C d_T_exchange_78 ?_
          refine g_i2l C d_T_exchange_79 ?_
          rw [th_sub hf]
          refine g_iconst (v := 1) C rfl d_T_exchange_80 ?_
          refine g_callS C (c_Q_of true (zIn true L S P * f) (1000 - f) (Nat.lt_of_le_of_lt (m_le hI hf) (by decide)) (by omega) (by omega)) Y_Q_of m_368 m_541 ⟨by decide, by decide⟩ ⟨by decide, by decide⟩ (fun h => nomatch h) d_T_exchange_81 rfl (Nat.le_of_ble_eq_true rfl) (fun ret sg81 hq => ?_)
          obtain ⟨rfl, rfl⟩ := hq
          rw [show dv true (zIn true L S P * f) (1000 - f) = F from (zFe_tt _ _ _ _ _ _).symm.trans hF]
          refine g_lstore (lv' := [(8, .long (lN F)), (6, .long (lN (zOut true L S P))), (4, .long (lN (zIn true L S P))), (0, .ref (ad o k)), (1, .long (lN P)), (3, .int (bz true))]) C d_T_exchange_84 (by decide) rfl ?_
          refine g_aload_n C rfl rfl d_T_exchange_86 ?_
          refine g_dup C rfl d_T_exchange_87 ?_
          refine gf_T_38 C d_T_exchange_88 (by first | assumption | omega) (by repeat' first | assumption | exact up_eq _ _ _ | refine up_ne (by omega) ?_) (by rfl) ?_
          refine g_aload_n C rfl rfl d_T_exchange_91 ?_
          refine gf_T_35 C d_T_exchange_92 (by first | assumption | omega) (by repeat' first | assumption | exact up_eq _ _ _ | refine up_ne (by omega) ?_) (by rfl) ?_
          refine g_if_eq (tgt := 106) C d_T_exchange_95 (by decide) (fun j95 => ?_) (fun j95 => ?_)
          · exact absurd j95 (by decide)
          refine g_lload C rfl d_T_exchange_98 ?_
          refine g_lload C rfl d_T_exchange_100 ?_
          refine g_ladd C d_T_exchange_102 ?_
          refine g_goto (tgt := 108) C d_T_exchange_103 (by decide) ?_
          rw [lN_add]
          refine g_lsub C d_T_exchange_108 ?_
          rw [lN_sub (hle rfl)]
          refine pf_T_38 C d_T_exchange_109 rfl rfl (by first | assumption | omega) (by repeat' first | assumption | exact up_eq _ _ _ | refine up_ne (by omega) ?_) (by exact Nat.le_of_ble_eq_true rfl) ?_
          refine g_aload_n C rfl rfl d_T_exchange_112 ?_
          refine g_dup C rfl d_T_exchange_113 ?_
          refine gf_T_45 C d_T_exchange_114 (by first | assumption | omega) (by repeat' first | assumption | exact up_eq _ _ _ | refine up_ne (by omega) ?_) (by rfl) ?_
          refine g_lload C rfl d_T_exchange_117 ?_
          refine g_lload C rfl d_T_exchange_119 ?_
          refine g_ladd C d_T_exchange_121 ?_
          rw [lN_add]
          refine g_ladd C d_T_exchange_122 ?_
          refine pf_T_45 C d_T_exchange_123 rfl rfl (by first | assumption | omega) (by repeat' first | assumption | exact up_eq _ _ _ | refine up_ne (by omega) ?_) (by exact Nat.le_of_ble_eq_true rfl) ?_
          refine g_aload_n C rfl rfl d_T_exchange_126 ?_
          refine g_dup C rfl d_T_exchange_127 ?_
          refine gf_T_48 C d_T_exchange_128 (by first | assumption | omega) (by repeat' first | assumption | exact up_eq _ _ _ | refine up_ne (by omega) ?_) (by rfl) ?_
          refine g_lload C rfl d_T_exchange_131 ?_
          refine g_ladd C d_T_exchange_133 ?_
          refine pf_T_48 C d_T_exchange_134 rfl rfl (by first | assumption | omega) (by repeat' first | assumption | exact up_eq _ _ _ | refine up_ne (by omega) ?_) (by exact Nat.le_of_ble_eq_true rfl) ?_
          refine g_aload_n C rfl rfl d_T_exchange_137 ?_
          refine gf_T_28 C d_T_exchange_138 (by first | assumption | omega) (by repeat' first | assumption | exact up_eq _ _ _ | refine up_ne (by omega) ?_) (by rfl) ?_
          refine gf_T_100 C d_T_exchange_141 (by first | assumption | omega) (by repeat' first | assumption | exact up_eq _ _ _ | refine up_ne (by omega) ?_) (by rfl) ?_
          refine g_if_eq (tgt := 188) C d_T_exchange_144 (by decide) (fun j144 => ?_) (fun j144 => ?_)
          rotate_left
          · exact absurd (by rw [hL0]; rfl) j144
          refine g_vret C E hr d_T_exchange_188 ⟨rfl, by rw [hzr, if_pos (show true = true from rfl), zGot_t]; exact (by repeat' first | assumption | exact up_eq _ _ _ | refine up_ne (by omega) ?_), ⟨(by repeat' first | assumption | exact up_eq _ _ _ | refine up_ne (by omega) ?_), by rw [gUp, if_pos hL0]; exact (by repeat' first | assumption | exact up_eq _ _ _ | refine up_ne (by omega) ?_), (by repeat' first | assumption | exact up_eq _ _ _ | refine up_ne (by omega) ?_)⟩, fun j h1 h2 => by repeat' first | rfl | refine up_ne (by omega) ?_⟩
  · cases ex
    · cases dn
      · refine g_aload_n C rfl rfl d_T_exchange_0 ?_
        refine g_lload_n C rfl rfl d_T_exchange_1 ?_
        refine g_callV C (c_T_takenUntil P (by omega) hc hT hC hL (by omega) (by omega) hS2 hP2 hd) Y_T_takenUntil m_544 s_T_takenUntil m_542 rfl rfl ⟨by decide, by decide⟩ ⟨by decide, by decide⟩ (fun h => nomatch h) d_T_exchange_2 (by first | assumption | omega) (by repeat' first | assumption | exact up_eq _ _ _ | refine up_ne (by omega) ?_) rfl (Nat.le_of_ble_eq_true rfl) (fun ret sg2 hq => ?_)
        obtain ⟨rfl, rfl⟩ := hq
        refine g_lstore (lv' := [(4, .long (lN (zIn false L S P))), (0, .ref (ad o k)), (1, .long (lN P)), (3, .int (bz at_))]) C d_T_exchange_5 (by decide) rfl ?_
        refine g_aload_n C rfl rfl d_T_exchange_7 ?_
        refine gf_T_35 C d_T_exchange_8 (by first | assumption | omega) (by repeat' first | assumption | exact up_eq _ _ _ | refine up_ne (by omega) ?_) (by rfl) ?_
        refine g_if_eq (tgt := 22) C d_T_exchange_11 (by decide) (fun j11 => ?_) (fun j11 => ?_)
        rotate_left
        · exact absurd rfl j11
        refine g_aload_n C rfl rfl d_T_exchange_22 ?_
        refine gf_T_38 C d_T_exchange_23 (by first | assumption | omega) (by repeat' first | assumption | exact up_eq _ _ _ | refine up_ne (by omega) ?_) (by rfl) ?_
        refine g_aload_n C rfl rfl d_T_exchange_26 ?_
        refine g_lload_n C rfl rfl d_T_exchange_27 ?_
        refine g_callV C (c_T_paidUntil P (by omega) hc hT hC hL (by omega) (by omega) hS2 hP2 hd) Y_T_paidUntil m_556 s_T_paidUntil m_554 rfl rfl ⟨by decide, by decide⟩ ⟨by decide, by decide⟩ (fun h => nomatch h) d_T_exchange_28 (by first | assumption | omega) (by repeat' first | assumption | exact up_eq _ _ _ | refine up_ne (by omega) ?_) rfl (Nat.le_of_ble_eq_true rfl) (fun ret sg28 hq => ?_)
        obtain ⟨rfl, rfl⟩ := hq
        refine g_mminL C m_533 d_T_exchange_31 (by decide) (Nat.le_of_ble_eq_true rfl) (by decide) (by decide) ?_
        rw [min_lN hr3 hO3]
        refine g_lstore (lv' := [(6, .long (lN (min r (zOut false L S P)))), (4, .long (lN (zIn false L S P))), (0, .ref (ad o k)), (1, .long (lN P)), (3, .int (bz at_))]) C d_T_exchange_34 (by decide) rfl ?_
        refine g_aload_n C rfl rfl d_T_exchange_36 ?_
        refine gf_T_35 C d_T_exchange_37 (by first | assumption | omega) (by repeat' first | assumption | exact up_eq _ _ _ | refine up_ne (by omega) ?_) (by rfl) ?_
        refine g_if_eq (tgt := 57) C d_T_exchange_40 (by decide) (fun j40 => ?_) (fun j40 => ?_)
        rotate_left
        · exact absurd rfl j40
        refine g_lload C rfl d_T_exchange_57 ?_
        refine g_aload_n C rfl rfl d_T_exchange_59 ?_
        refine gf_T_20 C d_T_exchange_60 (by first | assumption | omega) (by repeat' first | assumption | exact up_eq _ _ _ | refine up_ne (by omega) ?_) (by rfl) ?_
        refine gf_T_103 C d_T_exchange_63 (by first | assumption | omega) (by repeat' first | assumption | exact up_eq _ _ _ | refine up_ne (by omega) ?_) (by rfl) ?_
        refine g_i2l C d_T_exchange_66 ?_
        rw [nI_l (by omega)]
        refine g_lmul C d_T_exchange_67 ?_
        rw [lN_mul]
        refine g_sipush (v := 1000) C rfl d_T_exchange_68 ?_
        refine g_aload_n C rfl rfl d_T_exchange_71 ?_
        refine gf_T_20 C d_T_exchange_72 (by first | assumption | omega) (by repeat' first | assumption | exact up_eq _ _ _ | refine up_ne (by omega) ?_) (by rfl) ?_
        refine gf_T_103 C d_T_exchange_75 (by first | assumption | omega) (by repeat' first | assumption | exact up_eq _ _ _ | refine up_ne (by omega) ?_) (by rfl) ?_
        refine g_isub C d_T_exchange_78 ?_
        refine g_i2l C d_T_exchange_79 ?_
        rw [th_sub hf]
        refine g_iconst (v := 1) C rfl d_T_exchange_80 ?_
        refine g_callS C (c_Q_of true (zIn false L S P * f) (1000 - f) (Nat.lt_of_le_of_lt (m_le hI hf) (by decide)) (by omega) (by omega)) Y_Q_of m_368 m_541 ⟨by decide, by decide⟩ ⟨by decide, by decide⟩ (fun h => nomatch h) d_T_exchange_81 rfl (Nat.le_of_ble_eq_true rfl) (fun ret sg81 hq => ?_)
        obtain ⟨rfl, rfl⟩ := hq
        rw [show dv true (zIn false L S P * f) (1000 - f) = F from (zFe_f _ _ _ _ _ _ _).symm.trans hF]
        refine g_lstore (lv' := [(8, .long (lN F)), (6, .long (lN (min r (zOut false L S P)))), (4, .long (lN (zIn false L S P))), (0, .ref (ad o k)), (1, .long (lN P)), (3, .int (bz at_))]) C d_T_exchange_84 (by decide) rfl ?_
        refine g_aload_n C rfl rfl d_T_exchange_86 ?_
        refine g_dup C rfl d_T_exchange_87 ?_
        refine gf_T_38 C d_T_exchange_88 (by first | assumption | omega) (by repeat' first | assumption | exact up_eq _ _ _ | refine up_ne (by omega) ?_) (by rfl) ?_
        refine g_aload_n C rfl rfl d_T_exchange_91 ?_
        refine gf_T_35 C d_T_exchange_92 (by first | assumption | omega) (by repeat' first | assumption | exact up_eq _ _ _ | refine up_ne (by omega) ?_) (by rfl) ?_
        refine g_if_eq (tgt := 106) C d_T_exchange_95 (by decide) (fun j95 => ?_) (fun j95 => ?_)
        rotate_left
        · exact absurd rfl j95
        refine g_lload C rfl d_T_exchange_106 ?_
        refine g_lsub C d_T_exchange_108 ?_
        rw [lN_sub (Nat.min_le_left _ _)]
        refine pf_T_38 C d_T_exchange_109 rfl rfl (by first | assumption | omega) (by repeat' first | assumption | exact up_eq _ _ _ | refine up_ne (by omega) ?_) (by exact Nat.le_of_ble_eq_true rfl) ?_
        refine g_aload_n C rfl rfl d_T_exchange_112 ?_
        refine g_dup C rfl d_T_exchange_113 ?_
        refine gf_T_45 C d_T_exchange_114 (by first | assumption | omega) (by repeat' first | assumption | exact up_eq _ _ _ | refine up_ne (by omega) ?_) (by rfl) ?_
        refine g_lload C rfl d_T_exchange_117 ?_
        refine g_lload C rfl d_T_exchange_119 ?_
        refine g_ladd C d_T_exchange_121 ?_
        rw [lN_add]
        refine g_ladd C d_T_exchange_122 ?_
        refine pf_T_45 C d_T_exchange_123 rfl rfl (by first | assumption | omega) (by repeat' first | assumption | exact up_eq _ _ _ | refine up_ne (by omega) ?_) (by exact Nat.le_of_ble_eq_true rfl) ?_
        refine g_aload_n C rfl rfl d_T_exchange_126 ?_
        refine g_dup C rfl d_T_exchange_127 ?_
        refine gf_T_48 C d_T_exchange_128 (by first | assumption | omega) (by repeat' first | assumption | exact up_eq _ _ _ | refine up_ne (by omega) ?_) (by rfl) ?_
        refine g_lload C rfl d_T_exchange_131 ?_
        refine g_ladd C d_T_exchange_133 ?_
        refine pf_T_48 C d_T_exchange_134 rfl rfl (by first | assumption | omega) (by repeat' first | assumption | exact up_eq _ _ _ | refine up_ne (by omega) ?_) (by exact Nat.le_of_ble_eq_true rfl) ?_
        refine g_aload_n C rfl rfl d_T_exchange_137 ?_
        refine gf_T_28 C d_T_exchange_138 (by first | assumption | omega) (by repeat' first | assumption | exact up_eq _ _ _ | refine up_ne (by omega) ?_) (by rfl) ?_
        refine gf_T_100 C d_T_exchange_141 (by first | assumption | omega) (by repeat' first | assumption | exact up_eq _ _ _ | refine up_ne (by omega) ?_) (by rfl) ?_
        refine g_if_eq (tgt := 188) C d_T_exchange_144 (by decide) (fun j144 => ?_) (fun j144 => ?_)
        · exact absurd j144 (nI_ne0 (by omega) (by omega))
        refine g_aload_n C rfl rfl d_T_exchange_147 ?_
        refine gf_T_28 C d_T_exchange_148 (by first | assumption | omega) (by repeat' first | assumption | exact up_eq _ _ _ | refine up_ne (by omega) ?_) (by rfl) ?_
        refine gf_T_132 C d_T_exchange_151 (by first | assumption | omega) (by repeat' first | assumption | exact up_eq _ _ _ | refine up_ne (by omega) ?_) (by rfl) ?_
        refine g_aload_n C rfl rfl d_T_exchange_154 ?_
        refine gf_T_31 C d_T_exchange_155 (by first | assumption | omega) (by repeat' first | assumption | exact up_eq _ _ _ | refine up_ne (by omega) ?_) (by rfl) ?_
        refine g_if_eq (tgt := 165) C d_T_exchange_158 (by decide) (fun j158 => ?_) (fun j158 => ?_)
        rotate_left
        · exact absurd rfl j158
        refine g_iconst (v := 1) C rfl d_T_exchange_165 ?_
        refine g_dup2 C rfl rfl d_T_exchange_166 ?_
        refine g_lald C d_T_exchange_167 (by first | assumption | omega) (by repeat' first | assumption | exact up_eq _ _ _ | refine up_ne (by omega) ?_) (by first | assumption | (unfold vp_in; decide)) ?_
        refine g_lload C rfl d_T_exchange_168 ?_
        refine g_ldc2 C m_548 d_T_exchange_170 ?_
        refine g_lmul C d_T_exchange_173 ?_
        rw [show (4294967296 : Int64) = lN 4294967296 from rfl, lN_mul]
        refine g_aload_n C rfl rfl d_T_exchange_174 ?_
        refine gf_T_28 C d_T_exchange_175 (by first | assumption | omega) (by repeat' first | assumption | exact up_eq _ _ _ | refine up_ne (by omega) ?_) (by rfl) ?_
        refine gf_T_100 C d_T_exchange_178 (by first | assumption | omega) (by repeat' first | assumption | exact up_eq _ _ _ | refine up_ne (by omega) ?_) (by rfl) ?_
        refine g_i2l C d_T_exchange_181 ?_
        rw [nI_l (by omega)]
        refine g_iconst (v := 0) C rfl d_T_exchange_182 ?_
        refine g_callS C (c_Q_of false (F * 4294967296) L (big_r hFb) (by omega) (by omega)) Y_Q_of m_368 m_541 ⟨by decide, by decide⟩ ⟨by decide, by decide⟩ (fun h => nomatch h) d_T_exchange_183 rfl (Nat.le_of_ble_eq_true rfl) (fun ret sg183 hq => ?_)
        obtain ⟨rfl, rfl⟩ := hq
        rw [dv_f]
        refine g_ladd C d_T_exchange_186 ?_
        refine g_last C d_T_exchange_187 (by first | assumption | omega) (by repeat' first | assumption | exact up_eq _ _ _ | refine up_ne (by omega) ?_) (by first | assumption | (unfold vp_in; decide)) ?_
        refine g_vret C E hr d_T_exchange_188 ⟨rfl, by rw [hzr, if_neg (show ¬ false = true by decide), zGot_f]; exact (by repeat' first | assumption | exact up_eq _ _ _ | refine up_ne (by omega) ?_), ⟨(by repeat' first | assumption | exact up_eq _ _ _ | refine up_ne (by omega) ?_), by rw [gUp, if_neg hL0, if_neg (show ¬ false = true by decide)]; exact (by repeat' first | assumption | exact up_eq _ _ _ | refine up_ne (by omega) ?_), (by repeat' first | assumption | exact up_eq _ _ _ | refine up_ne (by omega) ?_)⟩, fun j h1 h2 => by repeat' first | rfl | refine up_ne (by omega) ?_⟩
      · refine g_aload_n C rfl rfl d_T_exchange_0 ?_
        refine g_lload_n C rfl rfl d_T_exchange_1 ?_
        refine g_callV C (c_T_takenUntil P (by omega) hc hT hC hL (by omega) (by omega) hS2 hP2 hd) Y_T_takenUntil m_544 s_T_takenUntil m_542 rfl rfl ⟨by decide, by decide⟩ ⟨by decide, by decide⟩ (fun h => nomatch h) d_T_exchange_2 (by first | assumption | omega) (by repeat' first | assumption | exact up_eq _ _ _ | refine up_ne (by omega) ?_) rfl (Nat.le_of_ble_eq_true rfl) (fun ret sg2 hq => ?_)
        obtain ⟨rfl, rfl⟩ := hq
        refine g_lstore (lv' := [(4, .long (lN (zIn true L S P))), (0, .ref (ad o k)), (1, .long (lN P)), (3, .int (bz at_))]) C d_T_exchange_5 (by decide) rfl ?_
        refine g_aload_n C rfl rfl d_T_exchange_7 ?_
        refine gf_T_35 C d_T_exchange_8 (by first | assumption | omega) (by repeat' first | assumption | exact up_eq _ _ _ | refine up_ne (by omega) ?_) (by rfl) ?_
        refine g_if_eq (tgt := 22) C d_T_exchange_11 (by decide) (fun j11 => ?_) (fun j11 => ?_)
        rotate_left
        · exact absurd rfl j11
        refine g_aload_n C rfl rfl d_T_exchange_22 ?_
        refine gf_T_38 C d_T_exchange_23 (by first | assumption | omega) (by repeat' first | assumption | exact up_eq _ _ _ | refine up_ne (by omega) ?_) (by rfl) ?_
        refine g_aload_n C rfl rfl d_T_exchange_26 ?_
        refine g_lload_n C rfl rfl d_T_exchange_27 ?_
        refine g_callV C (c_T_paidUntil P (by omega) hc hT hC hL (by omega) (by omega) hS2 hP2 hd) Y_T_paidUntil m_556 s_T_paidUntil m_554 rfl rfl ⟨by decide, by decide⟩ ⟨by decide, by decide⟩ (fun h => nomatch h) d_T_exchange_28 (by first | assumption | omega) (by repeat' first | assumption | exact up_eq _ _ _ | refine up_ne (by omega) ?_) rfl (Nat.le_of_ble_eq_true rfl) (fun ret sg28 hq => ?_)
        obtain ⟨rfl, rfl⟩ := hq
        refine g_mminL C m_533 d_T_exchange_31 (by decide) (Nat.le_of_ble_eq_true rfl) (by decide) (by decide) ?_
        rw [min_lN hr3 hO3]
        refine g_lstore (lv' := [(6, .long (lN (min r (zOut true L S P)))), (4, .long (lN (zIn true L S P))), (0, .ref (ad o k)), (1, .long (lN P)), (3, .int (bz at_))]) C d_T_exchange_34 (by decide) rfl ?_
        refine g_aload_n C rfl rfl d_T_exchange_36 ?_
        refine gf_T_35 C d_T_exchange_37 (by first | assumption | omega) (by repeat' first | assumption | exact up_eq _ _ _ | refine up_ne (by omega) ?_) (by rfl) ?_
        refine g_if_eq (tgt := 57) C d_T_exchange_40 (by decide) (fun j40 => ?_) (fun j40 => ?_)
        rotate_left
        · exact absurd rfl j40
        refine g_lload C rfl d_T_exchange_57 ?_
        refine g_aload_n C rfl rfl d_T_exchange_59 ?_
        refine gf_T_20 C d_T_exchange_60 (by first | assumption | omega) (by repeat' first | assumption | exact up_eq _ _ _ | refine up_ne (by omega) ?_) (by rfl) ?_
        refine gf_T_103 C d_T_exchange_63 (by first | assumption | omega) (by repeat' first | assumption | exact up_eq _ _ _ | refine up_ne (by omega) ?_) (by rfl) ?_
        refine g_i2l C d_T_exchange_66 ?_
        rw [nI_l (by omega)]
        refine g_lmul C d_T_exchange_67 ?_
        rw [lN_mul]
        refine g_sipush (v := 1000) C rfl d_T_exchange_68 ?_
        refine g_aload_n C rfl rfl d_T_exchange_71 ?_
        refine gf_T_20 C d_T_exchange_72 (by first | assumption | omega) (by repeat' first | assumption | exact up_eq _ _ _ | refine up_ne (by omega) ?_) (by rfl) ?_
        refine gf_T_103 C d_T_exchange_75 (by first | assumption | omega) (by repeat' first | assumption | exact up_eq _ _ _ | refine up_ne (by omega) ?_) (by rfl) ?_
        refine g_isub C d_T_exchange_78 ?_
        refine g_i2l C d_T_exchange_79 ?_
        rw [th_sub hf]
        refine g_iconst (v := 1) C rfl d_T_exchange_80 ?_
        refine g_callS C (c_Q_of true (zIn true L S P * f) (1000 - f) (Nat.lt_of_le_of_lt (m_le hI hf) (by decide)) (by omega) (by omega)) Y_Q_of m_368 m_541 ⟨by decide, by decide⟩ ⟨by decide, by decide⟩ (fun h => nomatch h) d_T_exchange_81 rfl (Nat.le_of_ble_eq_true rfl) (fun ret sg81 hq => ?_)
        obtain ⟨rfl, rfl⟩ := hq
        rw [show dv true (zIn true L S P * f) (1000 - f) = F from (zFe_f _ _ _ _ _ _ _).symm.trans hF]
        refine g_lstore (lv' := [(8, .long (lN F)), (6, .long (lN (min r (zOut true L S P)))), (4, .long (lN (zIn true L S P))), (0, .ref (ad o k)), (1, .long (lN P)), (3, .int (bz at_))]) C d_T_exchange_84 (by decide) rfl ?_
        refine g_aload_n C rfl rfl d_T_exchange_86 ?_
        refine g_dup C rfl d_T_exchange_87 ?_
        refine gf_T_38 C d_T_exchange_88 (by first | assumption | omega) (by repeat' first | assumption | exact up_eq _ _ _ | refine up_ne (by omega) ?_) (by rfl) ?_
        refine g_aload_n C rfl rfl d_T_exchange_91 ?_
        refine gf_T_35 C d_T_exchange_92 (by first | assumption | omega) (by repeat' first | assumption | exact up_eq _ _ _ | refine up_ne (by omega) ?_) (by rfl) ?_
        refine g_if_eq (tgt := 106) C d_T_exchange_95 (by decide) (fun j95 => ?_) (fun j95 => ?_)
        rotate_left
        · exact absurd rfl j95
        refine g_lload C rfl d_T_exchange_106 ?_
        refine g_lsub C d_T_exchange_108 ?_
        rw [lN_sub (Nat.min_le_left _ _)]
        refine pf_T_38 C d_T_exchange_109 rfl rfl (by first | assumption | omega) (by repeat' first | assumption | exact up_eq _ _ _ | refine up_ne (by omega) ?_) (by exact Nat.le_of_ble_eq_true rfl) ?_
        refine g_aload_n C rfl rfl d_T_exchange_112 ?_
        refine g_dup C rfl d_T_exchange_113 ?_
        refine gf_T_45 C d_T_exchange_114 (by first | assumption | omega) (by repeat' first | assumption | exact up_eq _ _ _ | refine up_ne (by omega) ?_) (by rfl) ?_
        refine g_lload C rfl d_T_exchange_117 ?_
        refine g_lload C rfl d_T_exchange_119 ?_
        refine g_ladd C d_T_exchange_121 ?_
        rw [lN_add]
        refine g_ladd C d_T_exchange_122 ?_
        refine pf_T_45 C d_T_exchange_123 rfl rfl (by first | assumption | omega) (by repeat' first | assumption | exact up_eq _ _ _ | refine up_ne (by omega) ?_) (by exact Nat.le_of_ble_eq_true rfl) ?_
        refine g_aload_n C rfl rfl d_T_exchange_126 ?_
        refine g_dup C rfl d_T_exchange_127 ?_
        refine gf_T_48 C d_T_exchange_128 (by first | assumption | omega) (by repeat' first | assumption | exact up_eq _ _ _ | refine up_ne (by omega) ?_) (by rfl) ?_
        refine g_lload C rfl d_T_exchange_131 ?_
        refine g_ladd C d_T_exchange_133 ?_
        refine pf_T_48 C d_T_exchange_134 rfl rfl (by first | assumption | omega) (by repeat' first | assumption | exact up_eq _ _ _ | refine up_ne (by omega) ?_) (by exact Nat.le_of_ble_eq_true rfl) ?_
        refine g_aload_n C rfl rfl d_T_exchange_137 ?_
        refine gf_T_28 C d_T_exchange_138 (by first | assumption | omega) (by repeat' first | assumption | exact up_eq _ _ _ | refine up_ne (by omega) ?_) (by rfl) ?_
        refine gf_T_100 C d_T_exchange_141 (by first | assumption | omega) (by repeat' first | assumption | exact up_eq _ _ _ | refine up_ne (by omega) ?_) (by rfl) ?_
        refine g_if_eq (tgt := 188) C d_T_exchange_144 (by decide) (fun j144 => ?_) (fun j144 => ?_)
        · exact absurd j144 (nI_ne0 (by omega) (by omega))
        refine g_aload_n C rfl rfl d_T_exchange_147 ?_
        refine gf_T_28 C d_T_exchange_148 (by first | assumption | omega) (by repeat' first | assumption | exact up_eq _ _ _ | refine up_ne (by omega) ?_) (by rfl) ?_
        refine gf_T_132 C d_T_exchange_151 (by first | assumption | omega) (by repeat' first | assumption | exact up_eq _ _ _ | refine up_ne (by omega) ?_) (by rfl) ?_
        refine g_aload_n C rfl rfl d_T_exchange_154 ?_
        refine gf_T_31 C d_T_exchange_155 (by first | assumption | omega) (by repeat' first | assumption | exact up_eq _ _ _ | refine up_ne (by omega) ?_) (by rfl) ?_
        refine g_if_eq (tgt := 165) C d_T_exchange_158 (by decide) (fun j158 => ?_) (fun j158 => ?_)
        · exact absurd j158 (by decide)
        refine g_iconst (v := 0) C rfl d_T_exchange_161 ?_
        refine g_goto (tgt := 166) C d_T_exchange_162 (by decide) ?_
        refine g_dup2 C rfl rfl d_T_exchange_166 ?_
        refine g_lald C d_T_exchange_167 (by first | assumption | omega) (by repeat' first | assumption | exact up_eq _ _ _ | refine up_ne (by omega) ?_) (by first | assumption | (unfold vp_in; decide)) ?_
        refine g_lload C rfl d_T_exchange_168 ?_
        refine g_ldc2 C m_548 d_T_exchange_170 ?_
        refine g_lmul C d_T_exchange_173 ?_
        rw [show (4294967296 : Int64) = lN 4294967296 from rfl, lN_mul]
        refine g_aload_n C rfl rfl d_T_exchange_174 ?_
        refine gf_T_28 C d_T_exchange_175 (by first | assumption | omega) (by repeat' first | assumption | exact up_eq _ _ _ | refine up_ne (by omega) ?_) (by rfl) ?_
        refine gf_T_100 C d_T_exchange_178 (by first | assumption | omega) (by repeat' first | assumption | exact up_eq _ _ _ | refine up_ne (by omega) ?_) (by rfl) ?_
        refine g_i2l C d_T_exchange_181 ?_
        rw [nI_l (by omega)]
        refine g_iconst (v := 0) C rfl d_T_exchange_182 ?_
        refine g_callS C (c_Q_of false (F * 4294967296) L (big_r hFb) (by omega) (by omega)) Y_Q_of m_368 m_541 ⟨by decide, by decide⟩ ⟨by decide, by decide⟩ (fun h => nomatch h) d_T_exchange_183 rfl (Nat.le_of_ble_eq_true rfl) (fun ret sg183 hq => ?_)
        obtain ⟨rfl, rfl⟩ := hq
        rw [dv_f]
        refine g_ladd C d_T_exchange_186 ?_
        refine g_last C d_T_exchange_187 (by first | assumption | omega) (by repeat' first | assumption | exact up_eq _ _ _ | refine up_ne (by omega) ?_) (by first | assumption | (unfold vp_in; decide)) ?_
        refine g_vret C E hr d_T_exchange_188 ⟨rfl, by rw [hzr, if_neg (show ¬ false = true by decide), zGot_f]; exact (by repeat' first | assumption | exact up_eq _ _ _ | refine up_ne (by omega) ?_), ⟨(by repeat' first | assumption | exact up_eq _ _ _ | refine up_ne (by omega) ?_), by rw [gUp, if_neg hL0, if_pos (show true = true from rfl)]; exact (by repeat' first | assumption | exact up_eq _ _ _ | refine up_ne (by omega) ?_), (by repeat' first | assumption | exact up_eq _ _ _ | refine up_ne (by omega) ?_)⟩, fun j h1 h2 => by repeat' first | rfl | refine up_ne (by omega) ?_⟩
    · cases at_
      · cases dn
        · refine g_aload_n C rfl rfl d_T_exchange_0 ?_
          refine g_lload_n C rfl rfl d_T_exchange_1 ?_
          refine g_callV C (c_T_takenUntil P (by omega) hc hT hC hL (by omega) (by omega) hS2 hP2 hd) Y_T_takenUntil m_544 s_T_takenUntil m_542 rfl rfl ⟨by decide, by decide⟩ ⟨by decide, by decide⟩ (fun h => nomatch h) d_T_exchange_2 (by first | assumption | omega) (by repeat' first | assumption | exact up_eq _ _ _ | refine up_ne (by omega) ?_) rfl (Nat.le_of_ble_eq_true rfl) (fun ret sg2 hq => ?_)
          obtain ⟨rfl, rfl⟩ := hq
          refine g_lstore (lv' := [(4, .long (lN (zIn false L S P))), (0, .ref (ad o k)), (1, .long (lN P)), (3, .int (bz false))]) C d_T_exchange_5 (by decide) rfl ?_
          refine g_aload_n C rfl rfl d_T_exchange_7 ?_
          refine gf_T_35 C d_T_exchange_8 (by first | assumption | omega) (by repeat' first | assumption | exact up_eq _ _ _ | refine up_ne (by omega) ?_) (by rfl) ?_
          refine g_if_eq (tgt := 22) C d_T_exchange_11 (by decide) (fun j11 => ?_) (fun j11 => ?_)
          · exact absurd j11 (by decide)
          refine g_aload_n C rfl rfl d_T_exchange_14 ?_
          refine g_lload_n C rfl rfl d_T_exchange_15 ?_
          refine g_callV C (c_T_paidUntil P (by omega) hc hT hC hL (by omega) (by omega) hS2 hP2 hd) Y_T_paidUntil m_556 s_T_paidUntil m_554 rfl rfl ⟨by decide, by decide⟩ ⟨by decide, by decide⟩ (fun h => nomatch h) d_T_exchange_16 (by first | assumption | omega) (by repeat' first | assumption | exact up_eq _ _ _ | refine up_ne (by omega) ?_) rfl (Nat.le_of_ble_eq_true rfl) (fun ret sg16 hq => ?_)
          obtain ⟨rfl, rfl⟩ := hq
          refine g_goto (tgt := 34) C d_T_exchange_19 (by decide) ?_
          refine g_lstore (lv' := [(6, .long (lN (zOut false L S P))), (4, .long (lN (zIn false L S P))), (0, .ref (ad o k)), (1, .long (lN P)), (3, .int (bz false))]) C d_T_exchange_34 (by decide) rfl ?_
          refine g_aload_n C rfl rfl d_T_exchange_36 ?_
          refine gf_T_35 C d_T_exchange_37 (by first | assumption | omega) (by repeat' first | assumption | exact up_eq _ _ _ | refine up_ne (by omega) ?_) (by rfl) ?_
          refine g_if_eq (tgt := 57) C d_T_exchange_40 (by decide) (fun j40 => ?_) (fun j40 => ?_)
          · exact absurd j40 (by decide)
          refine g_iload_n C rfl rfl d_T_exchange_43 ?_
          refine g_if_ne (tgt := 57) C d_T_exchange_44 (by decide) (fun j44 => ?_) (fun j44 => ?_)
          · exact absurd j44 (fun q => absurd rfl q)
          refine g_aload_n C rfl rfl d_T_exchange_47 ?_
          refine gf_T_38 C d_T_exchange_48 (by first | assumption | omega) (by repeat' first | assumption | exact up_eq _ _ _ | refine up_ne (by omega) ?_) (by rfl) ?_
          refine g_lload C rfl d_T_exchange_51 ?_
          refine g_lsub C d_T_exchange_53 ?_
          rw [lN_sub (hin rfl), show r - zIn false L S P = F from (zFe_tf _ _ _ _ _ _).symm.trans hF]
          refine g_goto (tgt := 84) C d_T_exchange_54 (by decide) ?_
          refine g_lstore (lv' := [(8, .long (lN F)), (6, .long (lN (zOut false L S P))), (4, .long (lN (zIn false L S P))), (0, .ref (ad o k)), (1, .long (lN P)), (3, .int (bz false))]) C d_T_exchange_84 (by decide) rfl ?_
          refine g_aload_n C rfl rfl d_T_exchange_86 ?_
          refine g_dup C rfl d_T_exchange_87 ?_
          refine gf_T_38 C d_T_exchange_88 (by first | assumption | omega) (by repeat' first | assumption | exact up_eq _ _ _ | refine up_ne (by omega) ?_) (by rfl) ?_
          refine g_aload_n C rfl rfl d_T_exchange_91 ?_
          refine gf_T_35 C d_T_exchange_92 (by first | assumption | omega) (by repeat' first | assumption | exact up_eq _ _ _ | refine up_ne (by omega) ?_) (by rfl) ?_
          refine g_if_eq (tgt := 106) C d_T_exchange_95 (by decide) (fun j95 => ?_) (fun j95 => ?_)
          · exact absurd j95 (by decide)
          refine g_lload C rfl d_T_exchange_98 ?_
          refine g_lload C rfl d_T_exchange_100 ?_
          refine g_ladd C d_T_exchange_102 ?_
          refine g_goto (tgt := 108) C d_T_exchange_103 (by decide) ?_
          rw [lN_add]
          refine g_lsub C d_T_exchange_108 ?_
          rw [lN_sub (hle rfl)]
          refine pf_T_38 C d_T_exchange_109 rfl rfl (by first | assumption | omega) (by repeat' first | assumption | exact up_eq _ _ _ | refine up_ne (by omega) ?_) (by exact Nat.le_of_ble_eq_true rfl) ?_
          refine g_aload_n C rfl rfl d_T_exchange_112 ?_
          refine g_dup C rfl d_T_exchange_113 ?_
          refine gf_T_45 C d_T_exchange_114 (by first | assumption | omega) (by repeat' first | assumption | exact up_eq _ _ _ | refine up_ne (by omega) ?_) (by rfl) ?_
          refine g_lload C rfl d_T_exchange_117 ?_
          refine g_lload C rfl d_T_exchange_119 ?_
          refine g_ladd C d_T_exchange_121 ?_
          rw [lN_add]
          refine g_ladd C d_T_exchange_122 ?_
          refine pf_T_45 C d_T_exchange_123 rfl rfl (by first | assumption | omega) (by repeat' first | assumption | exact up_eq _ _ _ | refine up_ne (by omega) ?_) (by exact Nat.le_of_ble_eq_true rfl) ?_
          refine g_aload_n C rfl rfl d_T_exchange_126 ?_
          refine g_dup C rfl d_T_exchange_127 ?_
          refine gf_T_48 C d_T_exchange_128 (by first | assumption | omega) (by repeat' first | assumption | exact up_eq _ _ _ | refine up_ne (by omega) ?_) (by rfl) ?_
          refine g_lload C rfl d_T_exchange_131 ?_
          refine g_ladd C d_T_exchange_133 ?_
          refine pf_T_48 C d_T_exchange_134 rfl rfl (by first | assumption | omega) (by repeat' first | assumption | exact up_eq _ _ _ | refine up_ne (by omega) ?_) (by exact Nat.le_of_ble_eq_true rfl) ?_
          refine g_aload_n C rfl rfl d_T_exchange_137 ?_
          refine gf_T_28 C d_T_exchange_138 (by first | assumption | omega) (by repeat' first | assumption | exact up_eq _ _ _ | refine up_ne (by omega) ?_) (by rfl) ?_
          refine gf_T_100 C d_T_exchange_141 (by first | assumption | omega) (by repeat' first | assumption | exact up_eq _ _ _ | refine up_ne (by omega) ?_) (by rfl) ?_
          refine g_if_eq (tgt := 188) C d_T_exchange_144 (by decide) (fun j144 => ?_) (fun j144 => ?_)
          · exact absurd j144 (nI_ne0 (by omega) (by omega))
          refine g_aload_n C rfl rfl d_T_exchange_147 ?_
          refine gf_T_28 C d_T_exchange_148 (by first | assumption | omega) (by repeat' first | assumption | exact up_eq _ _ _ | refine up_ne (by omega) ?_) (by rfl) ?_
          refine gf_T_132 C d_T_exchange_151 (by first | assumption | omega) (by repeat' first | assumption | exact up_eq _ _ _ | refine up_ne (by omega) ?_) (by rfl) ?_
          refine g_aload_n C rfl rfl d_T_exchange_154 ?_
          refine gf_T_31 C d_T_exchange_155 (by first | assumption | omega) (by repeat' first | assumption | exact up_eq _ _ _ | refine up_ne (by omega) ?_) (by rfl) ?_
          refine g_if_eq (tgt := 165) C d_T_exchange_158 (by decide) (fun j158 => ?_) (fun j158 => ?_)
          rotate_left
          · exact absurd rfl j158
          refine g_iconst (v := 1) C rfl d_T_exchange_165 ?_
          refine g_dup2 C rfl rfl d_T_exchange_166 ?_
          refine g_lald C d_T_exchange_167 (by first | assumption | omega) (by repeat' first | assumption | exact up_eq _ _ _ | refine up_ne (by omega) ?_) (by first | assumption | (unfold vp_in; decide)) ?_
          refine g_lload C rfl d_T_exchange_168 ?_
          refine g_ldc2 C m_548 d_T_exchange_170 ?_
          refine g_lmul C d_T_exchange_173 ?_
          rw [show (4294967296 : Int64) = lN 4294967296 from rfl, lN_mul]
          refine g_aload_n C rfl rfl d_T_exchange_174 ?_
          refine gf_T_28 C d_T_exchange_175 (by first | assumption | omega) (by repeat' first | assumption | exact up_eq _ _ _ | refine up_ne (by omega) ?_) (by rfl) ?_
          refine gf_T_100 C d_T_exchange_178 (by first | assumption | omega) (by repeat' first | assumption | exact up_eq _ _ _ | refine up_ne (by omega) ?_) (by rfl) ?_
          refine g_i2l C d_T_exchange_181 ?_
          rw [nI_l (by omega)]
          refine g_iconst (v := 0) C rfl d_T_exchange_182 ?_
          refine g_callS C (c_Q_of false (F * 4294967296) L (big_r hFb) (by omega) (by omega)) Y_Q_of m_368 m_541 ⟨by decide, by decide⟩ ⟨by decide, by decide⟩ (fun h => nomatch h) d_T_exchange_183 rfl (Nat.le_of_ble_eq_true rfl) (fun ret sg183 hq => ?_)
          obtain ⟨rfl, rfl⟩ := hq
          rw [dv_f]
          refine g_ladd C d_T_exchange_186 ?_
          refine g_last C d_T_exchange_187 (by first | assumption | omega) (by repeat' first | assumption | exact up_eq _ _ _ | refine up_ne (by omega) ?_) (by first | assumption | (unfold vp_in; decide)) ?_
          refine g_vret C E hr d_T_exchange_188 ⟨rfl, by rw [hzr, if_pos (show true = true from rfl), zGot_t]; exact (by repeat' first | assumption | exact up_eq _ _ _ | refine up_ne (by omega) ?_), ⟨(by repeat' first | assumption | exact up_eq _ _ _ | refine up_ne (by omega) ?_), by rw [gUp, if_neg hL0, if_neg (show ¬ false = true by decide)]; exact (by repeat' first | assumption | exact up_eq _ _ _ | refine up_ne (by omega) ?_), (by repeat' first | assumption | exact up_eq _ _ _ | refine up_ne (by omega) ?_)⟩, fun j h1 h2 => by repeat' first | rfl | refine up_ne (by omega) ?_⟩
        · refine g_aload_n C rfl rfl d_T_exchange_0 ?_
          refine g_lload_n C rfl rfl d_T_exchange_1 ?_
          refine g_callV C (c_T_takenUntil P (by omega) hc hT hC hL (by omega) (by omega) hS2 hP2 hd) Y_T_takenUntil m_544 s_T_takenUntil m_542 rfl rfl ⟨by decide, by decide⟩ ⟨by decide, by decide⟩ (fun h => nomatch h) d_T_exchange_2 (by first | assumption | omega) (by repeat' first | assumption | exact up_eq _ _ _ | refine up_ne (by omega) ?_) rfl (Nat.le_of_ble_eq_true rfl) (fun ret sg2 hq => ?_)
          obtain ⟨rfl, rfl⟩ := hq
          refine g_lstore (lv' := [(4, .long (lN (zIn true L S P))), (0, .ref (ad o k)), (1, .long (lN P)), (3, .int (bz false))]) C d_T_exchange_5 (by decide) rfl ?_
          refine g_aload_n C rfl rfl d_T_exchange_7 ?_
          refine gf_T_35 C d_T_exchange_8 (by first | assumption | omega) (by repeat' first | assumption | exact up_eq _ _ _ | refine up_ne (by omega) ?_) (by rfl) ?_
          refine g_if_eq (tgt := 22) C d_T_exchange_11 (by decide) (fun j11 => ?_) (fun j11 => ?_)
          · exact absurd j11 (by decide)
          refine g_aload_n C rfl rfl d_T_exchange_14 ?_
          refine g_lload_n C rfl rfl d_T_exchange_15 ?_
          refine g_callV C (c_T_paidUntil P (by omega) hc hT hC hL (by omega) (by omega) hS2 hP2 hd) Y_T_paidUntil m_556 s_T_paidUntil m_554 rfl rfl ⟨by decide, by decide⟩ ⟨by decide, by decide⟩ (fun h => nomatch h) d_T_exchange_16 (by first | assumption | omega) (by repeat' first | assumption | exact up_eq _ _ _ | refine up_ne (by omega) ?_) rfl (Nat.le_of_ble_eq_true rfl) (fun ret sg16 hq => ?_)
          obtain ⟨rfl, rfl⟩ := hq
          refine g_goto (tgt := 34) C d_T_exchange_19 (by decide) ?_
          refine g_lstore (lv' := [(6, .long (lN (zOut true L S P))), (4, .long (lN (zIn true L S P))), (0, .ref (ad o k)), (1, .long (lN P)), (3, .int (bz false))]) C d_T_exchange_34 (by decide) rfl ?_
          refine g_aload_n C rfl rfl d_T_exchange_36 ?_
          refine gf_T_35 C d_T_exchange_37 (by first | assumption | omega) (by repeat' first | assumption | exact up_eq _ _ _ | refine up_ne (by omega) ?_) (by rfl) ?_
          refine g_if_eq (tgt := 57) C d_T_exchange_40 (by decide) (fun j40 => ?_) (fun j40 => ?_)
          · exact absurd j40 (by decide)
          refine g_iload_n C rfl rfl d_T_exchange_43 ?_
          refine g_if_ne (tgt := 57) C d_T_exchange_44 (by decide) (fun j44 => ?_) (fun j44 => ?_)
          · exact absurd j44 (fun q => absurd rfl q)
          refine g_aload_n C rfl rfl d_T_exchange_47 ?_
          refine gf_T_38 C d_T_exchange_48 (by first | assumption | omega) (by repeat' first | assumption | exact up_eq _ _ _ | refine up_ne (by omega) ?_) (by rfl) ?_
          refine g_lload C rfl d_T_exchange_51 ?_
          refine g_lsub C d_T_exchange_53 ?_
          rw [lN_sub (hin rfl), show r - zIn true L S P = F from (zFe_tf _ _ _ _ _ _).symm.trans hF]
          refine g_goto (tgt := 84) C d_T_exchange_54 (by decide) ?_
          refine g_lstore (lv' := [(8, .long (lN F)), (6, .long (lN (zOut true L S P))), (4, .long (lN (zIn true L S P))), (0, .ref (ad o k)), (1, .long (lN P)), (3, .int (bz false))]) C d_T_exchange_84 (by decide) rfl ?_
          refine g_aload_n C rfl rfl d_T_exchange_86 ?_
          refine g_dup C rfl d_T_exchange_87 ?_
          refine gf_T_38 C d_T_exchange_88 (by first | assumption | omega) (by repeat' first | assumption | exact up_eq _ _ _ | refine up_ne (by omega) ?_) (by rfl) ?_
          refine g_aload_n C rfl rfl d_T_exchange_91 ?_
          refine gf_T_35 C d_T_exchange_92 (by first | assumption | omega) (by repeat' first | assumption | exact up_eq _ _ _ | refine up_ne (by omega) ?_) (by rfl) ?_
          refine g_if_eq (tgt := 106) C d_T_exchange_95 (by decide) (fun j95 => ?_) (fun j95 => ?_)
          · exact absurd j95 (by decide)
          refine g_lload C rfl d_T_exchange_98 ?_
          refine g_lload C rfl d_T_exchange_100 ?_
          refine g_ladd C d_T_exchange_102 ?_
          refine g_goto (tgt := 108) C d_T_exchange_103 (by decide) ?_
          rw [lN_add]
          refine g_lsub C d_T_exchange_108 ?_
          rw [lN_sub (hle rfl)]
          refine pf_T_38 C d_T_exchange_109 rfl rfl (by first | assumption | omega) (by repeat' first | assumption | exact up_eq _ _ _ | refine up_ne (by omega) ?_) (by exact Nat.le_of_ble_eq_true rfl) ?_
          refine g_aload_n C rfl rfl d_T_exchange_112 ?_
          refine g_dup C rfl d_T_exchange_113 ?_
          refine gf_T_45 C d_T_exchange_114 (by first | assumption | omega) (by repeat' first | assumption | exact up_eq _ _ _ | refine up_ne (by omega) ?_) (by rfl) ?_
          refine g_lload C rfl d_T_exchange_117 ?_
          refine g_lload C rfl d_T_exchange_119 ?_
          refine g_ladd C d_T_exchange_121 ?_
          rw [lN_add]
          refine g_ladd C d_T_exchange_122 ?_
          refine pf_T_45 C d_T_exchange_123 rfl rfl (by first | assumption | omega) (by repeat' first | assumption | exact up_eq _ _ _ | refine up_ne (by omega) ?_) (by exact Nat.le_of_ble_eq_true rfl) ?_
          refine g_aload_n C rfl rfl d_T_exchange_126 ?_
          refine g_dup C rfl d_T_exchange_127 ?_
          refine gf_T_48 C d_T_exchange_128 (by first | assumption | omega) (by repeat' first | assumption | exact up_eq _ _ _ | refine up_ne (by omega) ?_) (by rfl) ?_
          refine g_lload C rfl d_T_exchange_131 ?_
          refine g_ladd C d_T_exchange_133 ?_
          refine pf_T_48 C d_T_exchange_134 rfl rfl (by first | assumption | omega) (by repeat' first | assumption | exact up_eq _ _ _ | refine up_ne (by omega) ?_) (by exact Nat.le_of_ble_eq_true rfl) ?_
          refine g_aload_n C rfl rfl d_T_exchange_137 ?_
          refine gf_T_28 C d_T_exchange_138 (by first | assumption | omega) (by repeat' first | assumption | exact up_eq _ _ _ | refine up_ne (by omega) ?_) (by rfl) ?_
          refine gf_T_100 C d_T_exchange_141 (by first | assumption | omega) (by repeat' first | assumption | exact up_eq _ _ _ | refine up_ne (by omega) ?_) (by rfl) ?_
          refine g_if_eq (tgt := 188) C d_T_exchange_144 (by decide) (fun j144 => ?_) (fun j144 => ?_)
          · exact absurd j144 (nI_ne0 (by omega) (by omega))
          refine g_aload_n C rfl rfl d_T_exchange_147 ?_
          refine gf_T_28 C d_T_exchange_148 (by first | assumption | omega) (by repeat' first | assumption | exact up_eq _ _ _ | refine up_ne (by omega) ?_) (by rfl) ?_
          refine gf_T_132 C d_T_exchange_151 (by first | assumption | omega) (by repeat' first | assumption | exact up_eq _ _ _ | refine up_ne (by omega) ?_) (by rfl) ?_
          refine g_aload_n C rfl rfl d_T_exchange_154 ?_
          refine gf_T_31 C d_T_exchange_155 (by first | assumption | omega) (by repeat' first | assumption | exact up_eq _ _ _ | refine up_ne (by omega) ?_) (by rfl) ?_
          refine g_if_eq (tgt := 165) C d_T_exchange_158 (by decide) (fun j158 => ?_) (fun j158 => ?_)
          · exact absurd j158 (by decide)
          refine g_iconst (v := 0) C rfl d_T_exchange_161 ?_
          refine g_goto (tgt := 166) C d_T_exchange_162 (by decide) ?_
          refine g_dup2 C rfl rfl d_T_exchange_166 ?_
          refine g_lald C d_T_exchange_167 (by first | assumption | omega) (by repeat' first | assumption | exact up_eq _ _ _ | refine up_ne (by omega) ?_) (by first | assumption | (unfold vp_in; decide)) ?_
          refine g_lload C rfl d_T_exchange_168 ?_
          refine g_ldc2 C m_548 d_T_exchange_170 ?_
          refine g_lmul C d_T_exchange_173 ?_
          rw [show (4294967296 : Int64) = lN 4294967296 from rfl, lN_mul]
          refine g_aload_n C rfl rfl d_T_exchange_174 ?_
          refine gf_T_28 C d_T_exchange_175 (by first | assumption | omega) (by repeat' first | assumption | exact up_eq _ _ _ | refine up_ne (by omega) ?_) (by rfl) ?_
          refine gf_T_100 C d_T_exchange_178 (by first | assumption | omega) (by repeat' first | assumption | exact up_eq _ _ _ | refine up_ne (by omega) ?_) (by rfl) ?_
          refine g_i2l C d_T_exchange_181 ?_
          rw [nI_l (by omega)]
          refine g_iconst (v := 0) C rfl d_T_exchange_182 ?_
          refine g_callS C (c_Q_of false (F * 4294967296) L (big_r hFb) (by omega) (by omega)) Y_Q_of m_368 m_541 ⟨by decide, by decide⟩ ⟨by decide, by decide⟩ (fun h => nomatch h) d_T_exchange_183 rfl (Nat.le_of_ble_eq_true rfl) (fun ret sg183 hq => ?_)
          obtain ⟨rfl, rfl⟩ := hq
          rw [dv_f]
          refine g_ladd C d_T_exchange_186 ?_
          refine g_last C d_T_exchange_187 (by first | assumption | omega) (by repeat' first | assumption | exact up_eq _ _ _ | refine up_ne (by omega) ?_) (by first | assumption | (unfold vp_in; decide)) ?_
          refine g_vret C E hr d_T_exchange_188 ⟨rfl, by rw [hzr, if_pos (show true = true from rfl), zGot_t]; exact (by repeat' first | assumption | exact up_eq _ _ _ | refine up_ne (by omega) ?_), ⟨(by repeat' first | assumption | exact up_eq _ _ _ | refine up_ne (by omega) ?_), by rw [gUp, if_neg hL0, if_pos (show true = true from rfl)]; exact (by repeat' first | assumption | exact up_eq _ _ _ | refine up_ne (by omega) ?_), (by repeat' first | assumption | exact up_eq _ _ _ | refine up_ne (by omega) ?_)⟩, fun j h1 h2 => by repeat' first | rfl | refine up_ne (by omega) ?_⟩
      · cases dn
        · refine g_aload_n C rfl rfl d_T_exchange_0 ?_
          refine g_lload_n C rfl rfl d_T_exchange_1 ?_
          refine g_callV C (c_T_takenUntil P (by omega) hc hT hC hL (by omega) (by omega) hS2 hP2 hd) Y_T_takenUntil m_544 s_T_takenUntil m_542 rfl rfl ⟨by decide, by decide⟩ ⟨by decide, by decide⟩ (fun h => nomatch h) d_T_exchange_2 (by first | assumption | omega) (by repeat' first | assumption | exact up_eq _ _ _ | refine up_ne (by omega) ?_) rfl (Nat.le_of_ble_eq_true rfl) (fun ret sg2 hq => ?_)
          obtain ⟨rfl, rfl⟩ := hq
          refine g_lstore (lv' := [(4, .long (lN (zIn false L S P))), (0, .ref (ad o k)), (1, .long (lN P)), (3, .int (bz true))]) C d_T_exchange_5 (by decide) rfl ?_
          refine g_aload_n C rfl rfl d_T_exchange_7 ?_
          refine gf_T_35 C d_T_exchange_8 (by first | assumption | omega) (by repeat' first | assumption | exact up_eq _ _ _ | refine up_ne (by omega) ?_) (by rfl) ?_
          refine g_if_eq (tgt := 22) C d_T_exchange_11 (by decide) (fun j11 => ?_) (fun j11 => ?_)
          · exact absurd j11 (by decide)
          refine g_aload_n C rfl rfl d_T_exchange_14 ?_
          refine g_lload_n C rfl rfl d_T_exchange_15 ?_
          refine g_callV C (c_T_paidUntil P (by omega) hc hT hC hL (by omega) (by omega) hS2 hP2 hd) Y_T_paidUntil m_556 s_T_paidUntil m_554 rfl rfl ⟨by decide, by decide⟩ ⟨by decide, by decide⟩ (fun h => nomatch h) d_T_exchange_16 (by first | assumption | omega) (by repeat' first | assumption | exact up_eq _ _ _ | refine up_ne (by omega) ?_) rfl (Nat.le_of_ble_eq_true rfl) (fun ret sg16 hq => ?_)
          obtain ⟨rfl, rfl⟩ := hq
          refine g_goto (tgt := 34) C d_T_exchange_19 (by decide) ?_
          refine g_lstore (lv' := [(6, .long (lN (zOut false L S P))), (4, .long (lN (zIn false L S P))), (0, .ref (ad o k)), (1, .long (lN P)), (3, .int (bz true))]) C d_T_exchange_34 (by decide) rfl ?_
          refine g_aload_n C rfl rfl d_T_exchange_36 ?_
          refine gf_T_35 C d_T_exchange_37 (by first | assumption | omega) (by repeat' first | assumption | exact up_eq _ _ _ | refine up_ne (by omega) ?_) (by rfl) ?_
          refine g_if_eq (tgt := 57) C d_T_exchange_40 (by decide) (fun j40 => ?_) (fun j40 => ?_)
          · exact absurd j40 (by decide)
          refine g_iload_n C rfl rfl d_T_exchange_43 ?_
          refine g_if_ne (tgt := 57) C d_T_exchange_44 (by decide) (fun j44 => ?_) (fun j44 => ?_)
          rotate_left
          · exact absurd j44 (by decide)
          refine g_lload C rfl d_T_exchange_57 ?_
          refine g_aload_n C rfl rfl d_T_exchange_59 ?_
          refine gf_T_20 C d_T_exchange_60 (by first | assumption | omega) (by repeat' first | assumption | exact up_eq _ _ _ | refine up_ne (by omega) ?_) (by rfl) ?_
          refine gf_T_103 C d_T_exchange_63 (by first | assumption | omega) (by repeat' first | assumption | exact up_eq _ _ _ | refine up_ne (by omega) ?_) (by rfl) ?_
          refine g_i2l C d_T_exchange_66 ?_
          rw [nI_l (by omega)]
          refine g_lmul C d_T_exchange_67 ?_
          rw [lN_mul]
          refine g_sipush (v := 1000) C rfl d_T_exchange_68 ?_
          refine g_aload_n C rfl rfl d_T_exchange_71 ?_
          refine gf_T_20 C d_T_exchange_72 (by first | assumption | omega) (by repeat' first | assumption | exact up_eq _ _ _ | refine up_ne (by omega) ?_) (by rfl) ?_
          refine gf_T_103 C d_T_exchange_75 (by first | assumption | omega) (by repeat' first | assumption | exact up_eq _ _ _ | refine up_ne (by omega) ?_) (by rfl) ?_
          refine g_isub C d_T_exchange_78 ?_
          refine g_i2l C d_T_exchange_79 ?_
          rw [th_sub hf]
          refine g_iconst (v := 1) C rfl d_T_exchange_80 ?_
          refine g_callS C (c_Q_of true (zIn false L S P * f) (1000 - f) (Nat.lt_of_le_of_lt (m_le hI hf) (by decide)) (by omega) (by omega)) Y_Q_of m_368 m_541 ⟨by decide, by decide⟩ ⟨by decide, by decide⟩ (fun h => nomatch h) d_T_exchange_81 rfl (Nat.le_of_ble_eq_true rfl) (fun ret sg81 hq => ?_)
          obtain ⟨rfl, rfl⟩ := hq
          rw [show dv true (zIn false L S P * f) (1000 - f) = F from (zFe_tt _ _ _ _ _ _).symm.trans hF]
          refine g_lstore (lv' := [(8, .long (lN F)), (6, .long (lN (zOut false L S P))), (4, .long (lN (zIn false L S P))), (0, .ref (ad o k)), (1, .long (lN P)), (3, .int (bz true))]) C d_T_exchange_84 (by decide) rfl ?_
          refine g_aload_n C rfl rfl d_T_exchange_86 ?_
          refine g_dup C rfl d_T_exchange_87 ?_
          refine gf_T_38 C d_T_exchange_88 (by first | assumption | omega) (by repeat' first | assumption | exact up_eq _ _ _ | refine up_ne (by omega) ?_) (by rfl) ?_
          refine g_aload_n C rfl rfl d_T_exchange_91 ?_
          refine gf_T_35 C d_T_exchange_92 (by first | assumption | omega) (by repeat' first | assumption | exact up_eq _ _ _ | refine up_ne (by omega) ?_) (by rfl) ?_
          refine g_if_eq (tgt := 106) C d_T_exchange_95 (by decide) (fun j95 => ?_) (fun j95 => ?_)
          · exact absurd j95 (by decide)
          refine g_lload C rfl d_T_exchange_98 ?_
          refine g_lload C rfl d_T_exchange_100 ?_
          refine g_ladd C d_T_exchange_102 ?_
          refine g_goto (tgt := 108) C d_T_exchange_103 (by decide) ?_
          rw [lN_add]
          refine g_lsub C d_T_exchange_108 ?_
          rw [lN_sub (hle rfl)]
          refine pf_T_38 C d_T_exchange_109 rfl rfl (by first | assumption | omega) (by repeat' first | assumption | exact up_eq _ _ _ | refine up_ne (by omega) ?_) (by exact Nat.le_of_ble_eq_true rfl) ?_
          refine g_aload_n C rfl rfl d_T_exchange_112 ?_
          refine g_dup C rfl d_T_exchange_113 ?_
          refine gf_T_45 C d_T_exchange_114 (by first | assumption | omega) (by repeat' first | assumption | exact up_eq _ _ _ | refine up_ne (by omega) ?_) (by rfl) ?_
          refine g_lload C rfl d_T_exchange_117 ?_
          refine g_lload C rfl d_T_exchange_119 ?_
          refine g_ladd C d_T_exchange_121 ?_
          rw [lN_add]
          refine g_ladd C d_T_exchange_122 ?_
          refine pf_T_45 C d_T_exchange_123 rfl rfl (by first | assumption | omega) (by repeat' first | assumption | exact up_eq _ _ _ | refine up_ne (by omega) ?_) (by exact Nat.le_of_ble_eq_true rfl) ?_
          refine g_aload_n C rfl rfl d_T_exchange_126 ?_
          refine g_dup C rfl d_T_exchange_127 ?_
          refine gf_T_48 C d_T_exchange_128 (by first | assumption | omega) (by repeat' first | assumption | exact up_eq _ _ _ | refine up_ne (by omega) ?_) (by rfl) ?_
          refine g_lload C rfl d_T_exchange_131 ?_
          refine g_ladd C d_T_exchange_133 ?_
          refine pf_T_48 C d_T_exchange_134 rfl rfl (by first | assumption | omega) (by repeat' first | assumption | exact up_eq _ _ _ | refine up_ne (by omega) ?_) (by exact Nat.le_of_ble_eq_true rfl) ?_
          refine g_aload_n C rfl rfl d_T_exchange_137 ?_
          refine gf_T_28 C d_T_exchange_138 (by first | assumption | omega) (by repeat' first | assumption | exact up_eq _ _ _ | refine up_ne (by omega) ?_) (by rfl) ?_
          refine gf_T_100 C d_T_exchange_141 (by first | assumption | omega) (by repeat' first | assumption | exact up_eq _ _ _ | refine up_ne (by omega) ?_) (by rfl) ?_
          refine g_if_eq (tgt := 188) C d_T_exchange_144 (by decide) (fun j144 => ?_) (fun j144 => ?_)
          · exact absurd j144 (nI_ne0 (by omega) (by omega))
          refine g_aload_n C rfl rfl d_T_exchange_147 ?_
          refine gf_T_28 C d_T_exchange_148 (by first | assumption | omega) (by repeat' first | assumption | exact up_eq _ _ _ | refine up_ne (by omega) ?_) (by rfl) ?_
          refine gf_T_132 C d_T_exchange_151 (by first | assumption | omega) (by repeat' first | assumption | exact up_eq _ _ _ | refine up_ne (by omega) ?_) (by rfl) ?_
          refine g_aload_n C rfl rfl d_T_exchange_154 ?_
          refine gf_T_31 C d_T_exchange_155 (by first | assumption | omega) (by repeat' first | assumption | exact up_eq _ _ _ | refine up_ne (by omega) ?_) (by rfl) ?_
          refine g_if_eq (tgt := 165) C d_T_exchange_158 (by decide) (fun j158 => ?_) (fun j158 => ?_)
          rotate_left
          · exact absurd rfl j158
          refine g_iconst (v := 1) C rfl d_T_exchange_165 ?_
          refine g_dup2 C rfl rfl d_T_exchange_166 ?_
          refine g_lald C d_T_exchange_167 (by first | assumption | omega) (by repeat' first | assumption | exact up_eq _ _ _ | refine up_ne (by omega) ?_) (by first | assumption | (unfold vp_in; decide)) ?_
          refine g_lload C rfl d_T_exchange_168 ?_
          refine g_ldc2 C m_548 d_T_exchange_170 ?_
          refine g_lmul C d_T_exchange_173 ?_
          rw [show (4294967296 : Int64) = lN 4294967296 from rfl, lN_mul]
          refine g_aload_n C rfl rfl d_T_exchange_174 ?_
          refine gf_T_28 C d_T_exchange_175 (by first | assumption | omega) (by repeat' first | assumption | exact up_eq _ _ _ | refine up_ne (by omega) ?_) (by rfl) ?_
          refine gf_T_100 C d_T_exchange_178 (by first | assumption | omega) (by repeat' first | assumption | exact up_eq _ _ _ | refine up_ne (by omega) ?_) (by rfl) ?_
          refine g_i2l C d_T_exchange_181 ?_
          rw [nI_l (by omega)]
          refine g_iconst (v := 0) C rfl d_T_exchange_182 ?_
          refine g_callS C (c_Q_of false (F * 4294967296) L (big_r hFb) (by omega) (by omega)) Y_Q_of m_368 m_541 ⟨by decide, by decide⟩ ⟨by decide, by decide⟩ (fun h => nomatch h) d_T_exchange_183 rfl (Nat.le_of_ble_eq_true rfl) (fun ret sg183 hq => ?_)
          obtain ⟨rfl, rfl⟩ := hq
          rw [dv_f]
          refine g_ladd C d_T_exchange_186 ?_
          refine g_last C d_T_exchange_187 (by first | assumption | omega) (by repeat' first | assumption | exact up_eq _ _ _ | refine up_ne (by omega) ?_) (by first | assumption | (unfold vp_in; decide)) ?_
          refine g_vret C E hr d_T_exchange_188 ⟨rfl, by rw [hzr, if_pos (show true = true from rfl), zGot_t]; exact (by repeat' first | assumption | exact up_eq _ _ _ | refine up_ne (by omega) ?_), ⟨(by repeat' first | assumption | exact up_eq _ _ _ | refine up_ne (by omega) ?_), by rw [gUp, if_neg hL0, if_neg (show ¬ false = true by decide)]; exact (by repeat' first | assumption | exact up_eq _ _ _ | refine up_ne (by omega) ?_), (by repeat' first | assumption | exact up_eq _ _ _ | refine up_ne (by omega) ?_)⟩, fun j h1 h2 => by repeat' first | rfl | refine up_ne (by omega) ?_⟩
        · refine g_aload_n C rfl rfl d_T_exchange_0 ?_
          refine g_lload_n C rfl rfl d_T_exchange_1 ?_
          refine g_callV C (c_T_takenUntil P (by omega) hc hT hC hL (by omega) (by omega) hS2 hP2 hd) Y_T_takenUntil m_544 s_T_takenUntil m_542 rfl rfl ⟨by decide, by decide⟩ ⟨by decide, by decide⟩ (fun h => nomatch h) d_T_exchange_2 (by first | assumption | omega) (by repeat' first | assumption | exact up_eq _ _ _ | refine up_ne (by omega) ?_) rfl (Nat.le_of_ble_eq_true rfl) (fun ret sg2 hq => ?_)
          obtain ⟨rfl, rfl⟩ := hq
          refine g_lstore (lv' := [(4, .long (lN (zIn true L S P))), (0, .ref (ad o k)), (1, .long (lN P)), (3, .int (bz true))]) C d_T_exchange_5 (by decide) rfl ?_
          refine g_aload_n C rfl rfl d_T_exchange_7 ?_
          refine gf_T_35 C d_T_exchange_8 (by first | assumption | omega) (by repeat' first | assumption | exact up_eq _ _ _ | refine up_ne (by omega) ?_) (by rfl) ?_
          refine g_if_eq (tgt := 22) C d_T_exchange_11 (by decide) (fun j11 => ?_) (fun j11 => ?_)
          · exact absurd j11 (by decide)
          refine g_aload_n C rfl rfl d_T_exchange_14 ?_
          refine g_lload_n C rfl rfl d_T_exchange_15 ?_
          refine g_callV C (c_T_paidUntil P (by omega) hc hT hC hL (by omega) (by omega) hS2 hP2 hd) Y_T_paidUntil m_556 s_T_paidUntil m_554 rfl rfl ⟨by decide, by decide⟩ ⟨by decide, by decide⟩ (fun h => nomatch h) d_T_exchange_16 (by first | assumption | omega) (by repeat' first | assumption | exact up_eq _ _ _ | refine up_ne (by omega) ?_) rfl (Nat.le_of_ble_eq_true rfl) (fun ret sg16 hq => ?_)
          obtain ⟨rfl, rfl⟩ := hq
          refine g_goto (tgt := 34) C d_T_exchange_19 (by decide) ?_
          refine g_lstore (lv' := [(6, .long (lN (zOut true L S P))), (4, .long (lN (zIn true L S P))), (0, .ref (ad o k)), (1, .long (lN P)), (3, .int (bz true))]) C d_T_exchange_34 (by decide) rfl ?_
          refine g_aload_n C rfl rfl d_T_exchange_36 ?_
          refine gf_T_35 C d_T_exchange_37 (by first | assumption | omega) (by repeat' first | assumption | exact up_eq _ _ _ | refine up_ne (by omega) ?_) (by rfl) ?_
          refine g_if_eq (tgt := 57) C d_T_exchange_40 (by decide) (fun j40 => ?_) (fun j40 => ?_)
          · exact absurd j40 (by decide)
          refine g_iload_n C rfl rfl d_T_exchange_43 ?_
          refine g_if_ne (tgt := 57) C d_T_exchange_44 (by decide) (fun j44 => ?_) (fun j44 => ?_)
          rotate_left
          · exact absurd j44 (by decide)
          refine g_lload C rfl d_T_exchange_57 ?_
          refine g_aload_n C rfl rfl d_T_exchange_59 ?_
          refine gf_T_20 C d_T_exchange_60 (by first | assumption | omega) (by repeat' first | assumption | exact up_eq _ _ _ | refine up_ne (by omega) ?_) (by rfl) ?_
          refine gf_T_103 C d_T_exchange_63 (by first | assumption | omega) (by repeat' first | assumption | exact up_eq _ _ _ | refine up_ne (by omega) ?_) (by rfl) ?_
          refine g_i2l C d_T_exchange_66 ?_
          rw [nI_l (by omega)]
          refine g_lmul C d_T_exchange_67 ?_
          rw [lN_mul]
          refine g_sipush (v := 1000) C rfl d_T_exchange_68 ?_
          refine g_aload_n C rfl rfl d_T_exchange_71 ?_
          refine gf_T_20 C d_T_exchange_72 (by first | assumption | omega) (by repeat' first | assumption | exact up_eq _ _ _ | refine up_ne (by omega) ?_) (by rfl) ?_
          refine gf_T_103 C d_T_exchange_75 (by first | assumption | omega) (by repeat' first | assumption | exact up_eq _ _ _ | refine up_ne (by omega) ?_) (by rfl) ?_
          refine g_isub C d_T_exchange_78 ?_
          refine g_i2l C d_T_exchange_79 ?_
          rw [th_sub hf]
          refine g_iconst (v := 1) C rfl d_T_exchange_80 ?_
          refine g_callS C (c_Q_of true (zIn true L S P * f) (1000 - f) (Nat.lt_of_le_of_lt (m_le hI hf) (by decide)) (by omega) (by omega)) Y_Q_of m_368 m_541 ⟨by decide, by decide⟩ ⟨by decide, by decide⟩ (fun h => nomatch h) d_T_exchange_81 rfl (Nat.le_of_ble_eq_true rfl) (fun ret sg81 hq => ?_)
          obtain ⟨rfl, rfl⟩ := hq
          rw [show dv true (zIn true L S P * f) (1000 - f) = F from (zFe_tt _ _ _ _ _ _).symm.trans hF]
          refine g_lstore (lv' := [(8, .long (lN F)), (6, .long (lN (zOut true L S P))), (4, .long (lN (zIn true L S P))), (0, .ref (ad o k)), (1, .long (lN P)), (3, .int (bz true))]) C d_T_exchange_84 (by decide) rfl ?_
          refine g_aload_n C rfl rfl d_T_exchange_86 ?_
          refine g_dup C rfl d_T_exchange_87 ?_
          refine gf_T_38 C d_T_exchange_88 (by first | assumption | omega) (by repeat' first | assumption | exact up_eq _ _ _ | refine up_ne (by omega) ?_) (by rfl) ?_
          refine g_aload_n C rfl rfl d_T_exchange_91 ?_
          refine gf_T_35 C d_T_exchange_92 (by first | assumption | omega) (by repeat' first | assumption | exact up_eq _ _ _ | refine up_ne (by omega) ?_) (by rfl) ?_
          refine g_if_eq (tgt := 106) C d_T_exchange_95 (by decide) (fun j95 => ?_) (fun j95 => ?_)
          · exact absurd j95 (by decide)
          refine g_lload C rfl d_T_exchange_98 ?_
          refine g_lload C rfl d_T_exchange_100 ?_
          refine g_ladd C d_T_exchange_102 ?_
          refine g_goto (tgt := 108) C d_T_exchange_103 (by decide) ?_
          rw [lN_add]
          refine g_lsub C d_T_exchange_108 ?_
          rw [lN_sub (hle rfl)]
          refine pf_T_38 C d_T_exchange_109 rfl rfl (by first | assumption | omega) (by repeat' first | assumption | exact up_eq _ _ _ | refine up_ne (by omega) ?_) (by exact Nat.le_of_ble_eq_true rfl) ?_
          refine g_aload_n C rfl rfl d_T_exchange_112 ?_
          refine g_dup C rfl d_T_exchange_113 ?_
          refine gf_T_45 C d_T_exchange_114 (by first | assumption | omega) (by repeat' first | assumption | exact up_eq _ _ _ | refine up_ne (by omega) ?_) (by rfl) ?_
          refine g_lload C rfl d_T_exchange_117 ?_
          refine g_lload C rfl d_T_exchange_119 ?_
          refine g_ladd C d_T_exchange_121 ?_
          rw [lN_add]
          refine g_ladd C d_T_exchange_122 ?_
          refine pf_T_45 C d_T_exchange_123 rfl rfl (by first | assumption | omega) (by repeat' first | assumption | exact up_eq _ _ _ | refine up_ne (by omega) ?_) (by exact Nat.le_of_ble_eq_true rfl) ?_
          refine g_aload_n C rfl rfl d_T_exchange_126 ?_
          refine g_dup C rfl d_T_exchange_127 ?_
          refine gf_T_48 C d_T_exchange_128 (by first | assumption | omega) (by repeat' first | assumption | exact up_eq _ _ _ | refine up_ne (by omega) ?_) (by rfl) ?_
          refine g_lload C rfl d_T_exchange_131 ?_
          refine g_ladd C d_T_exchange_133 ?_
          refine pf_T_48 C d_T_exchange_134 rfl rfl (by first | assumption | omega) (by repeat' first | assumption | exact up_eq _ _ _ | refine up_ne (by omega) ?_) (by exact Nat.le_of_ble_eq_true rfl) ?_
          refine g_aload_n C rfl rfl d_T_exchange_137 ?_
          refine gf_T_28 C d_T_exchange_138 (by first | assumption | omega) (by repeat' first | assumption | exact up_eq _ _ _ | refine up_ne (by omega) ?_) (by rfl) ?_
          refine gf_T_100 C d_T_exchange_141 (by first | assumption | omega) (by repeat' first | assumption | exact up_eq _ _ _ | refine up_ne (by omega) ?_) (by rfl) ?_
          refine g_if_eq (tgt := 188) C d_T_exchange_144 (by decide) (fun j144 => ?_) (fun j144 => ?_)
          · exact absurd j144 (nI_ne0 (by omega) (by omega))
          refine g_aload_n C rfl rfl d_T_exchange_147 ?_
          refine gf_T_28 C d_T_exchange_148 (by first | assumption | omega) (by repeat' first | assumption | exact up_eq _ _ _ | refine up_ne (by omega) ?_) (by rfl) ?_
          refine gf_T_132 C d_T_exchange_151 (by first | assumption | omega) (by repeat' first | assumption | exact up_eq _ _ _ | refine up_ne (by omega) ?_) (by rfl) ?_
          refine g_aload_n C rfl rfl d_T_exchange_154 ?_
          refine gf_T_31 C d_T_exchange_155 (by first | assumption | omega) (by repeat' first | assumption | exact up_eq _ _ _ | refine up_ne (by omega) ?_) (by rfl) ?_
          refine g_if_eq (tgt := 165) C d_T_exchange_158 (by decide) (fun j158 => ?_) (fun j158 => ?_)
          · exact absurd j158 (by decide)
          refine g_iconst (v := 0) C rfl d_T_exchange_161 ?_
          refine g_goto (tgt := 166) C d_T_exchange_162 (by decide) ?_
          refine g_dup2 C rfl rfl d_T_exchange_166 ?_
          refine g_lald C d_T_exchange_167 (by first | assumption | omega) (by repeat' first | assumption | exact up_eq _ _ _ | refine up_ne (by omega) ?_) (by first | assumption | (unfold vp_in; decide)) ?_
          refine g_lload C rfl d_T_exchange_168 ?_
          refine g_ldc2 C m_548 d_T_exchange_170 ?_
          refine g_lmul C d_T_exchange_173 ?_
          rw [show (4294967296 : Int64) = lN 4294967296 from rfl, lN_mul]
          refine g_aload_n C rfl rfl d_T_exchange_174 ?_
          refine gf_T_28 C d_T_exchange_175 (by first | assumption | omega) (by repeat' first | assumption | exact up_eq _ _ _ | refine up_ne (by omega) ?_) (by rfl) ?_
          refine gf_T_100 C d_T_exchange_178 (by first | assumption | omega) (by repeat' first | assumption | exact up_eq _ _ _ | refine up_ne (by omega) ?_) (by rfl) ?_
          refine g_i2l C d_T_exchange_181 ?_
          rw [nI_l (by omega)]
          refine g_iconst (v := 0) C rfl d_T_exchange_182 ?_
          refine g_callS C (c_Q_of false (F * 4294967296) L (big_r hFb) (by omega) (by omega)) Y_Q_of m_368 m_541 ⟨by decide, by decide⟩ ⟨by decide, by decide⟩ (fun h => nomatch h) d_T_exchange_183 rfl (Nat.le_of_ble_eq_true rfl) (fun ret sg183 hq => ?_)
          obtain ⟨rfl, rfl⟩ := hq
          rw [dv_f]
          refine g_ladd C d_T_exchange_186 ?_
          refine g_last C d_T_exchange_187 (by first | assumption | omega) (by repeat' first | assumption | exact up_eq _ _ _ | refine up_ne (by omega) ?_) (by first | assumption | (unfold vp_in; decide)) ?_
          refine g_vret C E hr d_T_exchange_188 ⟨rfl, by rw [hzr, if_pos (show true = true from rfl), zGot_t]; exact (by repeat' first | assumption | exact up_eq _ _ _ | refine up_ne (by omega) ?_), ⟨(by repeat' first | assumption | exact up_eq _ _ _ | refine up_ne (by omega) ?_), by rw [gUp, if_neg hL0, if_pos (show true = true from rfl)]; exact (by repeat' first | assumption | exact up_eq _ _ _ | refine up_ne (by omega) ?_), (by repeat' first | assumption | exact up_eq _ _ _ | refine up_ne (by omega) ?_)⟩, fun j h1 h2 => by repeat' first | rfl | refine up_ne (by omega) ?_⟩

