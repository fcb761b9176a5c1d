-- SWAP IN THE REFERENCE, TRIED
theorem ng_i (r : Nat) : -nI r = iI (-(r : Int)) := by rw [← iI_nat, iI_neg]
theorem ng_facts {r : Nat} (h0 : 0 < r) (h1 : r ≤ 100000000) : ¬ -nI r = 0 ∧ ¬ -nI r < -100000000 ∧ ¬ 100000000 < -nI r ∧ -nI r ≤ 0 := by
  rw [ng_i, show (0 : Int32) = iI 0 from by decide, show (-100000000 : Int32) = iI (-100000000) from by decide, show (100000000 : Int32) = iI 100000000 from by decide, iI_eq (by omega) (by omega) (by omega) (by omega), iI_lt (by omega) (by omega) (by omega) (by omega), iI_lt (by omega) (by omega) (by omega) (by omega), iI_le (by omega) (by omega) (by omega) (by omega)]
  omega
theorem ps_facts {r : Nat} (h0 : 0 < r) (h1 : r ≤ 100000000) : ¬ nI r = 0 ∧ ¬ nI r < -100000000 ∧ ¬ 100000000 < nI r ∧ ¬ nI r ≤ 0 := by
  rw [← iI_nat, show (0 : Int32) = iI 0 from by decide, show (-100000000 : Int32) = iI (-100000000) from by decide, show (100000000 : Int32) = iI 100000000 from by decide, iI_eq (by omega) (by omega) (by omega) (by omega), iI_lt (by omega) (by omega) (by omega) (by omega), iI_lt (by omega) (by omega) (by omega) (by omega), iI_le (by omega) (by omega) (by omega) (by omega)]
  omega
def zAmt (ex : Bool) (r : Nat) : Int32 := if ex = true then nI r else -nI r
theorem rt_hi {z : Int} (h : z ≤ 40) : rt (tx z) ≤ rt 80 := rt_le (tx_le h) (Nat.le_refl 80)
theorem rt_lo {z : Int} (h : z ≤ 40) : rt 0 ≤ rt (tx z) := rt_le (Nat.zero_le _) (tx_le h)
set_option maxHeartbeats 8000000 in
theorem e_M_swap3 {l : Launch} {o n : Nat} {sg : Nat → va_E} {m : Nat} {t0 : Int32} {Z : ZS} (a p : Nat) (dn ex : Bool) (r : Nat) (z : Int) (hn : m + 22 < n) (hW : MW sg o m t0 Z) (hB : pBd (zpl Z) (zlo Z) (zhi Z)) (hA : ∀ i, i < 12 → zam Z i ≤ 50000000) (hf : zfee Z p ≤ 100) (ha : a < 4) (hp : p < 2) (h1 : -40 ≤ z) (h2 : z ≤ 40) (hT : TkOk (zpr Z p) (ztk Z p)) (hr0 : 0 < r) (hr1 : r ≤ 100000000) (hMS : if dn = true then rt (tx z) < zpr Z p else zpr Z p < rt (tx z)) (h3 : zbal Z (a * 3 + (p + sdN dn)) < (zWork Z p dn ex r (rt (tx z))).1.2.2.2.1) : GM l y_M_swap b_M_swap 10 (some .long) 6 184 0 0 o n n sg false [.ref (ad o m), .int (nI a), .int (nI p), .int (bz dn), .int (zAmt ex r), .int (iI z)] (fun r0 s => some (.long 0) = r0 ∧ MW s o m 3 Z ∧ mfr sg s m) := by
  have hm1 : sg m = _ := hW.1
  obtain ⟨a1, a2, a3, a4, a5, a6, a7, a8, a9, a10, a11⟩ := hW.2.1
  have hcl : (nI p).toNatClampNeg = p := nI_clamp (by omega)
  have hin : vp_in (nI p) 2 := vp_in_nI hp (by decide)
  have hS3 : zpr Z p < 2 ^ 63 := by have := hT.2.2.2.1; omega
  have hM3 : rt (tx z) < 2 ^ 63 := Nat.lt_trans (rt_up (tx_le h2)) (by decide)
  obtain ⟨np, nt, ng, tk, gt, ri, x1, x2, x3, x4, x5, x6⟩ := hW.2.2
  have hI : QI dn (rt (tx z)) (zpr Z p, ztk Z p, r, 0, 0) := ⟨hT, hr1, by cases dn; exact Nat.le_of_lt hMS; exact Nat.le_of_lt hMS⟩
  have hrl : (nI r).toInt64 = lN r := nI_l (by omega)
  obtain ⟨g1, g2, g3, g4⟩ := ps_facts hr0 hr1
  obtain ⟨f1, f2, f3, f4⟩ := ng_facts hr0 hr1
  refine GM_of (by decide) (Nat.le_of_ble_eq_true rfl) ?_
  intro K C hl hz hr hnm E
  show G K o n sg 0 0 0 [(0, .ref (ad o m)), (1, .int (nI a)), (2, .int (nI p)), (3, .int (bz dn)), (4, .int (zAmt ex r)), (5, .int (iI z))] []
  obtain ⟨xf, hxf⟩ : ∃ xf, xf = mRun dn ex (zfee Z p) (rt (tx z)) (mSet (zth Z) (zpl Z) (zlo Z) (zhi Z) (zam Z) p) (mIn (zth Z) (zpl Z) (zlo Z) (zhi Z) p) (mDep (zth Z) (zpl Z) (zlo Z) (zhi Z) (zam Z) p) 100 ((zpr Z p, ztk Z p, r, 0, 0), 0, riZ (zpl Z) p ri 12) := ⟨_, rfl⟩
  obtain ⟨y1, y2, y3⟩ := zWork_eq Z p dn ex r (rt (tx z)) ri hxf
  generalize hwe : (zWork Z p dn ex r (rt (tx z))) = wk at *
  have tail : ∀ s : Nat → va_E, isM s o m 0 (zla Z) → s (m + 17) = eJ 2 (vp_updL np p (lN xf.1.1)) → s (m + 18) = eI 2 (upd nt p (iI xf.1.2.1)) → s (m + 19) = eJ 2 (vp_updL ng p xf.2.1) → s (m + 20) = eJ 2 (vp_updL tk p xf.1.2.2.2.1) → s (m + 21) = eJ 2 (vp_updL gt p xf.1.2.2.2.2) → s (m + 22) = eJ 12 xf.2.2 → (∀ j, j < m ∨ (m < j ∧ j < m + 17) ∨ m + 22 < j → s j = sg j) → G K o n s 0 0 155 [(0, .ref (ad o m)), (1, .int (nI a)), (2, .int (nI p)), (3, .int (bz dn))] [] := by
    intro s s0 s17 s18 s19 s20 s21 s22 sF
    have s01 : s m = _ := s0
    have s1 : isMR s m := isMR_mv a1 (sF _ (by omega))
    have s2 := (sF (m + 2) (by omega)).trans a2
    have s3 := (sF (m + 3) (by omega)).trans a3
    have s4 := (sF (m + 4) (by omega)).trans a4
    have s5 := (sF (m + 5) (by omega)).trans a5
    have s6 := (sF (m + 6) (by omega)).trans a6
    have s7 := (sF (m + 7) (by omega)).trans a7
    have s8 := (sF (m + 8) (by omega)).trans a8
    have s9 : isMP s m (zth Z) (zow Z) (zpl Z) (zlo Z) (zhi Z) (zam Z) := isMP_mv a9 (fun j q1 q2 => sF j (by omega))
    have s15 := (sF (m + 15) (by omega)).trans a10
    have s16 := (sF (m + 16) (by omega)).trans a11
    have main : G K o n s 0 0 166 [(9, .int (nI (sdN dn))), (0, .ref (ad o m)), (1, .int (nI a)), (2, .int (nI p)), (3, .int (bz dn))] [] := by
      have hsd : sdN dn < 2 := by cases dn <;> decide
      refine g_aload_n C rfl rfl d_M_swap_166 ?_
      refine gf_M_13 C d_M_swap_167 (by first | assumption | omega) (by repeat' first | assumption | exact up_eq _ _ _ | refine up_ne (by omega) ?_) (by rfl) ?_
      refine g_iconst (v := 3) C rfl d_M_swap_170 ?_
      refine g_iload_n C rfl rfl d_M_swap_171 ?_
      refine g_imul C d_M_swap_172 ?_
      refine g_iload_n C rfl rfl d_M_swap_173 ?_
      refine g_iadd C d_M_swap_174 ?_
      refine g_iload C rfl d_M_swap_175 ?_
      refine g_iadd C d_M_swap_177 ?_
      rw [show (3 : Int32) = nI 3 from rfl, pk_mul, nI_add, nI_add, Nat.mul_comm 3 a, Nat.add_assoc (a * 3) p (sdN dn)]
      refine g_lald C d_M_swap_178 (by first | assumption | omega) (by repeat' first | assumption | exact up_eq _ _ _ | refine up_ne (by omega) ?_) (vp_in_nI (by omega) (by decide)) ?_
      rw [nI_clamp (n := a * 3 + (p + sdN dn)) (by omega)]
      refine g_aload_n C rfl rfl d_M_swap_179 ?_
      refine gf_M_69 C d_M_swap_180 (by first | assumption | omega) (by repeat' first | assumption | exact up_eq _ _ _ | refine up_ne (by omega) ?_) (by rfl) ?_
      refine g_iload_n C rfl rfl d_M_swap_183 ?_
      refine g_lald C d_M_swap_184 (by first | assumption | omega) (by repeat' first | assumption | exact up_eq _ _ _ | refine up_ne (by omega) ?_) hin ?_
      rw [hcl, pk_usL, y1]
      refine g_lcmp_ge (tgt := 196) C d_M_swap_185 d_M_swap_186 (by decide) (fun j185 => ?_) (fun j185 => ?_)
      · exact absurd h3 (Int64.not_lt.mpr j185)
      refine g_aload_n C rfl rfl d_M_swap_189 ?_
      refine g_iconst (v := 3) C rfl d_M_swap_190 ?_
      refine pf_M_84 C d_M_swap_191 rfl rfl (by first | assumption | omega) (by repeat' first | assumption | exact up_eq _ _ _ | refine up_ne (by omega) ?_) (by exact Nat.le_of_ble_eq_true rfl) ?_
      refine g_lconst (v := 0) C rfl d_M_swap_194 ?_
      refine g_lret C E hr d_M_swap_195 ?_
      exact ⟨rfl, ⟨by unfold isM; exact (by repeat' first | assumption | exact up_eq _ _ _ | refine up_ne (by omega) ?_), MA_mv hW.2.1 (fun j q1 q2 => by repeat' first | exact sF j (by omega) | refine up_ne (by omega) ?_), ⟨_, _, _, _, _, _, up_ne (by omega) s17, up_ne (by omega) s18, up_ne (by omega) s19, up_ne (by omega) s20, up_ne (by omega) s21, up_ne (by omega) s22⟩⟩, fun j q1 => by repeat' first | exact sF j (by omega) | refine up_ne (by omega) ?_⟩
    cases dn
    · refine g_iload_n C rfl rfl d_M_swap_155 ?_
      refine g_if_eq (tgt := 163) C d_M_swap_156 (by decide) (fun j156 => ?_) (fun j156 => ?_)
      rotate_left
      · exact absurd rfl j156
      refine g_iconst (v := 1) C rfl d_M_swap_163 ?_
      refine g_istore (lv' := [(9, .int (nI (sdN false))), (0, .ref (ad o m)), (1, .int (nI a)), (2, .int (nI p)), (3, .int (bz false))]) C d_M_swap_164 (by decide) rfl ?_
      exact main
    · refine g_iload_n C rfl rfl d_M_swap_155 ?_
      refine g_if_eq (tgt := 163) C d_M_swap_156 (by decide) (fun j156 => ?_) (fun j156 => ?_)
      · exact absurd j156 (by decide)
      refine g_iconst (v := 0) C rfl d_M_swap_159 ?_
      refine g_goto (tgt := 164) C d_M_swap_160 (by decide) ?_
      refine g_istore (lv' := [(9, .int (nI (sdN true))), (0, .ref (ad o m)), (1, .int (nI a)), (2, .int (nI p)), (3, .int (bz true))]) C d_M_swap_164 (by decide) rfl ?_
      exact main
  cases ex
  · cases dn
    · refine g_aload_n C rfl rfl d_M_swap_0 ?_
      refine g_iload_n C rfl rfl d_M_swap_1 ?_
      refine g_callS C (c_M_isOwner (nI a)) Y_M_isOwner m_726 m_725 ⟨by decide, by decide⟩ ⟨by decide, by decide⟩ (fun h => nomatch h) d_M_swap_2 rfl (Nat.le_of_ble_eq_true rfl) (fun ret sg2 hq => ?_)
      obtain ⟨rfl, rfl⟩ := hq
      refine g_if_eq (tgt := 23) C d_M_swap_5 (by decide) (fun j5 => ?_) (fun j5 => ?_)
      · exact absurd (j5.symm.trans (bzd (ok4 ha))) (by decide)
      refine g_iload_n C rfl rfl d_M_swap_8 ?_
      refine g_callS C (c_M_isPool (nI p)) Y_M_isPool m_744 m_743 ⟨by decide, by decide⟩ ⟨by decide, by decide⟩ (fun h => nomatch h) d_M_swap_9 rfl (Nat.le_of_ble_eq_true rfl) (fun ret sg9 hq => ?_)
      obtain ⟨rfl, rfl⟩ := hq
      refine g_if_eq (tgt := 23) C d_M_swap_12 (by decide) (fun j12 => ?_) (fun j12 => ?_)
      · exact absurd (j12.symm.trans (bzd (ok2 hp))) (by decide)
      refine g_iload C rfl d_M_swap_15 ?_
      refine g_callS C (c_M_isTick (iI z)) Y_M_isTick m_747 m_746 ⟨by decide, by decide⟩ ⟨by decide, by decide⟩ (fun h => nomatch h) d_M_swap_17 rfl (Nat.le_of_ble_eq_true rfl) (fun ret sg17 hq => ?_)
      obtain ⟨rfl, rfl⟩ := hq
      refine g_if_ne (tgt := 27) C d_M_swap_20 (by decide) (fun j20 => ?_) (fun j20 => ?_)
      rotate_left
      · exact absurd (j20.symm.trans (bzd (okT_i h1 h2))) (by decide)
      refine g_iconst (v := 0) C rfl d_M_swap_27 ?_
      refine pf_M_84 C d_M_swap_28 rfl rfl (by first | assumption | omega) (by repeat' first | assumption | exact up_eq _ _ _ | refine up_ne (by omega) ?_) (by exact Nat.le_of_ble_eq_true rfl) ?_
      refine g_aload_n C rfl rfl d_M_swap_31 ?_
      refine gf_M_84 C d_M_swap_32 (by first | assumption | omega) (by repeat' first | assumption | exact up_eq _ _ _ | refine up_ne (by omega) ?_) (by rfl) ?_
      refine g_if_le (tgt := 40) C d_M_swap_35 (by decide) (fun j35 => ?_) (fun j35 => ?_)
      rotate_left
      · exact absurd (by decide) j35
      refine g_aload_n C rfl rfl d_M_swap_40 ?_
      refine g_iload C rfl d_M_swap_41 ?_
      refine g_callV C (c_M_rootOf (th := 0) (la := zla Z) z hn (by unfold isM; exact (by repeat' first | assumption | exact up_eq _ _ _ | refine up_ne (by omega) ?_)) (isMR_mv a1 (by repeat' first | exact rfl | refine up_ne (by omega) ?_)) h1 h2) Y_M_rootOf m_761 s_M_rootOf m_759 rfl rfl ⟨by decide, by decide⟩ ⟨by decide, by decide⟩ (fun h => nomatch h) d_M_swap_43 (by first | assumption | omega) (by repeat' first | assumption | exact up_eq _ _ _ | refine up_ne (by omega) ?_) rfl (Nat.le_of_ble_eq_true rfl) (fun ret sg43 hq => ?_)
      obtain ⟨rfl, rfl⟩ := hq
      refine g_lstore (lv' := [(6, .long (lN (rt (tx z)))), (0, .ref (ad o m)), (1, .int (nI a)), (2, .int (nI p)), (3, .int (bz false)), (4, .int (-nI r)), (5, .int (iI z))]) C d_M_swap_46 (by decide) rfl ?_
      refine g_iload_n C rfl rfl d_M_swap_48 ?_
      refine g_if_eq (tgt := 72) C d_M_swap_49 (by decide) (fun j49 => ?_) (fun j49 => ?_)
      rotate_left
      · exact absurd rfl j49
      refine g_lload C rfl d_M_swap_72 ?_
      refine g_aload_n C rfl rfl d_M_swap_74 ?_
      refine gf_M_26 C d_M_swap_75 (by first | assumption | omega) (by repeat' first | assumption | exact up_eq _ _ _ | refine up_ne (by omega) ?_) (by rfl) ?_
      refine g_iload_n C rfl rfl d_M_swap_78 ?_
      refine g_lald C d_M_swap_79 (by first | assumption | omega) (by repeat' first | assumption | exact up_eq _ _ _ | refine up_ne (by omega) ?_) hin ?_
      rw [hcl]
      refine g_lcmp_gt (tgt := 88) C d_M_swap_80 d_M_swap_81 (by decide) (fun j80 => ?_) (fun j80 => ?_)
      rotate_left
      · exact absurd ((pk_lLT hS3 hM3).mpr hMS) j80
      refine g_iconst (v := 0) C rfl d_M_swap_88 ?_
      refine g_istore (lv' := [(8, .int 0), (6, .long (lN (rt (tx z)))), (0, .ref (ad o m)), (1, .int (nI a)), (2, .int (nI p)), (3, .int (bz false)), (4, .int (-nI r)), (5, .int (iI z))]) C d_M_swap_89 (by decide) rfl ?_
      refine g_iload C rfl d_M_swap_91 ?_
      refine g_if_eq (tgt := 115) C d_M_swap_93 (by decide) (fun j93 => ?_) (fun j93 => ?_)
      · exact absurd j93 f1
      refine g_iload C rfl d_M_swap_96 ?_
      refine g_ldc C m_809 d_M_swap_98 ?_
      refine g_icmp_lt (tgt := 115) C d_M_swap_100 (by decide) (fun j100 => ?_) (fun j100 => ?_)
      · exact absurd j100 f2
      refine g_iload C rfl d_M_swap_103 ?_
      refine g_ldc C m_810 d_M_swap_105 ?_
      refine g_icmp_gt (tgt := 115) C d_M_swap_107 (by decide) (fun j107 => ?_) (fun j107 => ?_)
      · exact absurd j107 f3
      refine g_iload C rfl d_M_swap_110 ?_
      refine g_if_eq (tgt := 122) C d_M_swap_112 (by decide) (fun j112 => ?_) (fun j112 => ?_)
      rotate_left
      · exact absurd rfl j112
      refine g_aload_n C rfl rfl d_M_swap_122 ?_
      refine g_iload_n C rfl rfl d_M_swap_123 ?_
      refine g_iload_n C rfl rfl d_M_swap_124 ?_
      refine g_iload C rfl d_M_swap_125 ?_
      refine g_if_le (tgt := 134) C d_M_swap_127 (by decide) (fun j127 => ?_) (fun j127 => ?_)
      rotate_left
      · exact absurd f4 j127
      refine g_iconst (v := 0) C rfl d_M_swap_134 ?_
      refine g_iload C rfl d_M_swap_135 ?_
      refine g_if_le (tgt := 146) C d_M_swap_137 (by decide) (fun j137 => ?_) (fun j137 => ?_)
      rotate_left
      · exact absurd f4 j137
      refine g_iload C rfl d_M_swap_146 ?_
      refine g_ineg C d_M_swap_148 ?_
      refine g_i2l C d_M_swap_149 ?_
      rw [Int32.neg_neg, hrl]
      refine g_lload C rfl d_M_swap_150 ?_
      refine g_callV C (c_M_work (t0 := 0) (la := zla Z) (th := zth Z) (ow := zow Z) (pl := zpl Z) (lo := zlo Z) (hi := zhi Z) (am := zam Z) (np := np) (ng := ng) (tk := tk) (gt := gt) (ri := ri) (pr := fun i => lN (zpr Z i)) (nt := nt) (tc := fun i => iI (ztk Z i)) (fee := zfee Z) (dn := false) (ex := false) (p := p) (r := r) (M := rt (tx z)) (S := zpr Z p) (f := zfee Z p) (tz := ztk Z p) hn (by unfold isM; exact (by repeat' first | assumption | exact up_eq _ _ _ | refine up_ne (by omega) ?_)) (isMR_mv a1 (by repeat' first | exact rfl | refine up_ne (by omega) ?_)) (isMP_mv a9 (fun j a b => by repeat' first | exact rfl | refine up_ne (by omega) ?_)) hB hA (by repeat' first | assumption | exact up_eq _ _ _ | refine up_ne (by omega) ?_) (by repeat' first | assumption | exact up_eq _ _ _ | refine up_ne (by omega) ?_) (by repeat' first | assumption | exact up_eq _ _ _ | refine up_ne (by omega) ?_) (by repeat' first | assumption | exact up_eq _ _ _ | refine up_ne (by omega) ?_) (by repeat' first | assumption | exact up_eq _ _ _ | refine up_ne (by omega) ?_) (by repeat' first | assumption | exact up_eq _ _ _ | refine up_ne (by omega) ?_) (by repeat' first | assumption | exact up_eq _ _ _ | refine up_ne (by omega) ?_) (by repeat' first | assumption | exact up_eq _ _ _ | refine up_ne (by omega) ?_) (by repeat' first | assumption | exact up_eq _ _ _ | refine up_ne (by omega) ?_) hp rfl hf rfl rfl (rt_lo h2) (rt_hi h2) hI hxf) Y_M_work m_813 s_M_work m_811 rfl rfl ⟨by decide, by decide⟩ ⟨by decide, by decide⟩ (fun h => nomatch h) d_M_swap_152 (by first | assumption | omega) (by repeat' first | assumption | exact up_eq _ _ _ | refine up_ne (by omega) ?_) rfl (Nat.le_of_ble_eq_true rfl) (fun ret sg152 hq => ?_)
      obtain ⟨rfl, e17, e18, e19, e20, e21, e22, eF⟩ := hq
      refine g_pick [2, 3, 4, 5] rfl ?_
      exact tail sg152 ((eF m (by omega)).trans (by repeat' first | assumption | exact up_eq _ _ _ | refine up_ne (by omega) ?_)) e17 e18 e19 e20 e21 e22 (fun j q => (eF j (by omega)).trans (by repeat' first | exact rfl | refine up_ne (by omega) ?_))
    · refine g_aload_n C rfl rfl d_M_swap_0 ?_
      refine g_iload_n C rfl rfl d_M_swap_1 ?_
      refine g_callS C (c_M_isOwner (nI a)) Y_M_isOwner m_726 m_725 ⟨by decide, by decide⟩ ⟨by decide, by decide⟩ (fun h => nomatch h) d_M_swap_2 rfl (Nat.le_of_ble_eq_true rfl) (fun ret sg2 hq => ?_)
      obtain ⟨rfl, rfl⟩ := hq
      refine g_if_eq (tgt := 23) C d_M_swap_5 (by decide) (fun j5 => ?_) (fun j5 => ?_)
      · exact absurd (j5.symm.trans (bzd (ok4 ha))) (by decide)
      refine g_iload_n C rfl rfl d_M_swap_8 ?_
      refine g_callS C (c_M_isPool (nI p)) Y_M_isPool m_744 m_743 ⟨by decide, by decide⟩ ⟨by decide, by decide⟩ (fun h => nomatch h) d_M_swap_9 rfl (Nat.le_of_ble_eq_true rfl) (fun ret sg9 hq => ?_)
      obtain ⟨rfl, rfl⟩ := hq
      refine g_if_eq (tgt := 23) C d_M_swap_12 (by decide) (fun j12 => ?_) (fun j12 => ?_)
      · exact absurd (j12.symm.trans (bzd (ok2 hp))) (by decide)
      refine g_iload C rfl d_M_swap_15 ?_
      refine g_callS C (c_M_isTick (iI z)) Y_M_isTick m_747 m_746 ⟨by decide, by decide⟩ ⟨by decide, by decide⟩ (fun h => nomatch h) d_M_swap_17 rfl (Nat.le_of_ble_eq_true rfl) (fun ret sg17 hq => ?_)
      obtain ⟨rfl, rfl⟩ := hq
      refine g_if_ne (tgt := 27) C d_M_swap_20 (by decide) (fun j20 => ?_) (fun j20 => ?_)
      rotate_left
      · exact absurd (j20.symm.trans (bzd (okT_i h1 h2))) (by decide)
      refine g_iconst (v := 0) C rfl d_M_swap_27 ?_
      refine pf_M_84 C d_M_swap_28 rfl rfl (by first | assumption | omega) (by repeat' first | assumption | exact up_eq _ _ _ | refine up_ne (by omega) ?_) (by exact Nat.le_of_ble_eq_true rfl) ?_
      refine g_aload_n C rfl rfl d_M_swap_31 ?_
      refine gf_M_84 C d_M_swap_32 (by first | assumption | omega) (by repeat' first | assumption | exact up_eq _ _ _ | refine up_ne (by omega) ?_) (by rfl) ?_
      refine g_if_le (tgt := 40) C d_M_swap_35 (by decide) (fun j35 => ?_) (fun j35 => ?_)
      rotate_left
      · exact absurd (by decide) j35
      refine g_aload_n C rfl rfl d_M_swap_40 ?_
      refine g_iload C rfl d_M_swap_41 ?_
      refine g_callV C (c_M_rootOf (th := 0) (la := zla Z) z hn (by unfold isM; exact (by repeat' first | assumption | exact up_eq _ _ _ | refine up_ne (by omega) ?_)) (isMR_mv a1 (by repeat' first | exact rfl | refine up_ne (by omega) ?_)) h1 h2) Y_M_rootOf m_761 s_M_rootOf m_759 rfl rfl ⟨by decide, by decide⟩ ⟨by decide, by decide⟩ (fun h => nomatch h) d_M_swap_43 (by first | assumption | omega) (by repeat' first | assumption | exact up_eq _ _ _ | refine up_ne (by omega) ?_) rfl (Nat.le_of_ble_eq_true rfl) (fun ret sg43 hq => ?_)
      obtain ⟨rfl, rfl⟩ := hq
      refine g_lstore (lv' := [(6, .long (lN (rt (tx z)))), (0, .ref (ad o m)), (1, .int (nI a)), (2, .int (nI p)), (3, .int (bz true)), (4, .int (-nI r)), (5, .int (iI z))]) C d_M_swap_46 (by decide) rfl ?_
      refine g_iload_n C rfl rfl d_M_swap_48 ?_
      refine g_if_eq (tgt := 72) C d_M_swap_49 (by decide) (fun j49 => ?_) (fun j49 => ?_)
      · exact absurd j49 (by decide)
      refine g_lload C rfl d_M_swap_52 ?_
      refine g_aload_n C rfl rfl d_M_swap_54 ?_
      refine gf_M_26 C d_M_swap_55 (by first | assumption | omega) (by repeat' first | assumption | exact up_eq _ _ _ | refine up_ne (by omega) ?_) (by rfl) ?_
      refine g_iload_n C rfl rfl d_M_swap_58 ?_
      refine g_lald C d_M_swap_59 (by first | assumption | omega) (by repeat' first | assumption | exact up_eq _ _ _ | refine up_ne (by omega) ?_) hin ?_
      rw [hcl]
      refine g_lcmp_lt (tgt := 68) C d_M_swap_60 d_M_swap_61 (by decide) (fun j60 => ?_) (fun j60 => ?_)
      rotate_left
      · exact absurd ((pk_lLT hM3 hS3).mpr hMS) j60
      refine g_iconst (v := 0) C rfl d_M_swap_68 ?_
      refine g_goto (tgt := 89) C d_M_swap_69 (by decide) ?_
      refine g_istore (lv' := [(8, .int 0), (6, .long (lN (rt (tx z)))), (0, .ref (ad o m)), (1, .int (nI a)), (2, .int (nI p)), (3, .int (bz true)), (4, .int (-nI r)), (5, .int (iI z))]) C d_M_swap_89 (by decide) rfl ?_
      refine g_iload C rfl d_M_swap_91 ?_
      refine g_if_eq (tgt := 115) C d_M_swap_93 (by decide) (fun j93 => ?_) (fun j93 => ?_)
      · exact absurd j93 f1
      refine g_iload C rfl d_M_swap_96 ?_
      refine g_ldc C m_809 d_M_swap_98 ?_
      refine g_icmp_lt (tgt := 115) C d_M_swap_100 (by decide) (fun j100 => ?_) (fun j100 => ?_)
      · exact absurd j100 f2
      refine g_iload C rfl d_M_swap_103 ?_
      refine g_ldc C m_810 d_M_swap_105 ?_
      refine g_icmp_gt (tgt := 115) C d_M_swap_107 (by decide) (fun j107 => ?_) (fun j107 => ?_)
      · exact absurd j107 f3
      refine g_iload C rfl d_M_swap_110 ?_
      refine g_if_eq (tgt := 122) C d_M_swap_112 (by decide) (fun j112 => ?_) (fun j112 => ?_)
      rotate_left
      · exact absurd rfl j112
      refine g_aload_n C rfl rfl d_M_swap_122 ?_
      refine g_iload_n C rfl rfl d_M_swap_123 ?_
      refine g_iload_n C rfl rfl d_M_swap_124 ?_
      refine g_iload C rfl d_M_swap_125 ?_
      refine g_if_le (tgt := 134) C d_M_swap_127 (by decide) (fun j127 => ?_) (fun j127 => ?_)
      rotate_left
      · exact absurd f4 j127
      refine g_iconst (v := 0) C rfl d_M_swap_134 ?_
      refine g_iload C rfl d_M_swap_135 ?_
      refine g_if_le (tgt := 146) C d_M_swap_137 (by decide) (fun j137 => ?_) (fun j137 => ?_)
      rotate_left
      · exact absurd f4 j137
      refine g_iload C rfl d_M_swap_146 ?_
      refine g_ineg C d_M_swap_148 ?_
      refine g_i2l C d_M_swap_149 ?_
      rw [Int32.neg_neg, hrl]
      refine g_lload C rfl d_M_swap_150 ?_
      refine g_callV C (c_M_work (t0 := 0) (la := zla Z) (th := zth Z) (ow := zow Z) (pl := zpl Z) (lo := zlo Z) (hi := zhi Z) (am := zam Z) (np := np) (ng := ng) (tk := tk) (gt := gt) (ri := ri) (pr := fun i => lN (zpr Z i)) (nt := nt) (tc := fun i => iI (ztk Z i)) (fee := zfee Z) (dn := true) (ex := false) (p := p) (r := r) (M := rt (tx z)) (S := zpr Z p) (f := zfee Z p) (tz := ztk Z p) hn (by unfold isM; exact (by repeat' first | assumption | exact up_eq _ _ _ | refine up_ne (by omega) ?_)) (isMR_mv a1 (by repeat' first | exact rfl | refine up_ne (by omega) ?_)) (isMP_mv a9 (fun j a b => by repeat' first | exact rfl | refine up_ne (by omega) ?_)) hB hA (by repeat' first | assumption | exact up_eq _ _ _ | refine up_ne (by omega) ?_) (by repeat' first | assumption | exact up_eq _ _ _ | refine up_ne (by omega) ?_) (by repeat' first | assumption | exact up_eq _ _ _ | refine up_ne (by omega) ?_) (by repeat' first | assumption | exact up_eq _ _ _ | refine up_ne (by omega) ?_) (by repeat' first | assumption | exact up_eq _ _ _ | refine up_ne (by omega) ?_) (by repeat' first | assumption | exact up_eq _ _ _ | refine up_ne (by omega) ?_) (by repeat' first | assumption | exact up_eq _ _ _ | refine up_ne (by omega) ?_) (by repeat' first | assumption | exact up_eq _ _ _ | refine up_ne (by omega) ?_) (by repeat' first | assumption | exact up_eq _ _ _ | refine up_ne (by omega) ?_) hp rfl hf rfl rfl (rt_lo h2) (rt_hi h2) hI hxf) Y_M_work m_813 s_M_work m_811 rfl rfl ⟨by decide, by decide⟩ ⟨by decide, by decide⟩ (fun h => nomatch h) d_M_swap_152 (by first | assumption | omega) (by repeat' first | assumption | exact up_eq _ _ _ | refine up_ne (by omega) ?_) rfl (Nat.le_of_ble_eq_true rfl) (fun ret sg152 hq => ?_)
      obtain ⟨rfl, e17, e18, e19, e20, e21, e22, eF⟩ := hq
      refine g_pick [2, 3, 4, 5] rfl ?_
      exact tail sg152 ((eF m (by omega)).trans (by repeat' first | assumption | exact up_eq _ _ _ | refine up_ne (by omega) ?_)) e17 e18 e19 e20 e21 e22 (fun j q => (eF j (by omega)).trans (by repeat' first | exact rfl | refine up_ne (by omega) ?_))
  · cases dn
    · refine g_aload_n C rfl rfl d_M_swap_0 ?_
      refine g_iload_n C rfl rfl d_M_swap_1 ?_
      refine g_callS C (c_M_isOwner (nI a)) Y_M_isOwner m_726 m_725 ⟨by decide, by decide⟩ ⟨by decide, by decide⟩ (fun h => nomatch h) d_M_swap_2 rfl (Nat.le_of_ble_eq_true rfl) (fun ret sg2 hq => ?_)
      obtain ⟨rfl, rfl⟩ := hq
      refine g_if_eq (tgt := 23) C d_M_swap_5 (by decide) (fun j5 => ?_) (fun j5 => ?_)
      · exact absurd (j5.symm.trans (bzd (ok4 ha))) (by decide)
      refine g_iload_n C rfl rfl d_M_swap_8 ?_
      refine g_callS C (c_M_isPool (nI p)) Y_M_isPool m_744 m_743 ⟨by decide, by decide⟩ ⟨by decide, by decide⟩ (fun h => nomatch h) d_M_swap_9 rfl (Nat.le_of_ble_eq_true rfl) (fun ret sg9 hq => ?_)
      obtain ⟨rfl, rfl⟩ := hq
      refine g_if_eq (tgt := 23) C d_M_swap_12 (by decide) (fun j12 => ?_) (fun j12 => ?_)
      · exact absurd (j12.symm.trans (bzd (ok2 hp))) (by decide)
      refine g_iload C rfl d_M_swap_15 ?_
      refine g_callS C (c_M_isTick (iI z)) Y_M_isTick m_747 m_746 ⟨by decide, by decide⟩ ⟨by decide, by decide⟩ (fun h => nomatch h) d_M_swap_17 rfl (Nat.le_of_ble_eq_true rfl) (fun ret sg17 hq => ?_)
      obtain ⟨rfl, rfl⟩ := hq
      refine g_if_ne (tgt := 27) C d_M_swap_20 (by decide) (fun j20 => ?_) (fun j20 => ?_)
      rotate_left
      · exact absurd (j20.symm.trans (bzd (okT_i h1 h2))) (by decide)
      refine g_iconst (v := 0) C rfl d_M_swap_27 ?_
      refine pf_M_84 C d_M_swap_28 rfl rfl (by first | assumption | omega) (by repeat' first | assumption | exact up_eq _ _ _ | refine up_ne (by omega) ?_) (by exact Nat.le_of_ble_eq_true rfl) ?_
      refine g_aload_n C rfl rfl d_M_swap_31 ?_
      refine gf_M_84 C d_M_swap_32 (by first | assumption | omega) (by repeat' first | assumption | exact up_eq _ _ _ | refine up_ne (by omega) ?_) (by rfl) ?_
      refine g_if_le (tgt := 40) C d_M_swap_35 (by decide) (fun j35 => ?_) (fun j35 => ?_)
      rotate_left
      · exact absurd (by decide) j35
      refine g_aload_n C rfl rfl d_M_swap_40 ?_
      refine g_iload C rfl d_M_swap_41 ?_
      refine g_callV C (c_M_rootOf (th := 0) (la := zla Z) z hn (by unfold isM; exact (by repeat' first | assumption | exact up_eq _ _ _ | refine up_ne (by omega) ?_)) (isMR_mv a1 (by repeat' first | exact rfl | refine up_ne (by omega) ?_)) h1 h2) Y_M_rootOf m_761 s_M_rootOf m_759 rfl rfl ⟨by decide, by decide⟩ ⟨by decide, by decide⟩ (fun h => nomatch h) d_M_swap_43 (by first | assumption | omega) (by repeat' first | assumption | exact up_eq _ _ _ | refine up_ne (by omega) ?_) rfl (Nat.le_of_ble_eq_true rfl) (fun ret sg43 hq => ?_)
      obtain ⟨rfl, rfl⟩ := hq
      refine g_lstore (lv' := [(6, .long (lN (rt (tx z)))), (0, .ref (ad o m)), (1, .int (nI a)), (2, .int (nI p)), (3, .int (bz false)), (4, .int (nI r)), (5, .int (iI z))]) C d_M_swap_46 (by decide) rfl ?_
      refine g_iload_n C rfl rfl d_M_swap_48 ?_
      refine g_if_eq (tgt := 72) C d_M_swap_49 (by decide) (fun j49 => ?_) (fun j49 => ?_)
      rotate_left
      · exact absurd rfl j49
      refine g_lload C rfl d_M_swap_72 ?_
      refine g_aload_n C rfl rfl d_M_swap_74 ?_
      refine gf_M_26 C d_M_swap_75 (by first | assumption | omega) (by repeat' first | assumption | exact up_eq _ _ _ | refine up_ne (by omega) ?_) (by rfl) ?_
      refine g_iload_n C rfl rfl d_M_swap_78 ?_
      refine g_lald C d_M_swap_79 (by first | assumption | omega) (by repeat' first | assumption | exact up_eq _ _ _ | refine up_ne (by omega) ?_) hin ?_
      rw [hcl]
      refine g_lcmp_gt (tgt := 88) C d_M_swap_80 d_M_swap_81 (by decide) (fun j80 => ?_) (fun j80 => ?_)
      rotate_left
      · exact absurd ((pk_lLT hS3 hM3).mpr hMS) j80
      refine g_iconst (v := 0) C rfl d_M_swap_88 ?_
      refine g_istore (lv' := [(8, .int 0), (6, .long (lN (rt (tx z)))), (0, .ref (ad o m)), (1, .int (nI a)), (2, .int (nI p)), (3, .int (bz false)), (4, .int (nI r)), (5, .int (iI z))]) C d_M_swap_89 (by decide) rfl ?_
      refine g_iload C rfl d_M_swap_91 ?_
      refine g_if_eq (tgt := 115) C d_M_swap_93 (by decide) (fun j93 => ?_) (fun j93 => ?_)
      · exact absurd j93 g1
      refine g_iload C rfl d_M_swap_96 ?_
      refine g_ldc C m_809 d_M_swap_98 ?_
      refine g_icmp_lt (tgt := 115) C d_M_swap_100 (by decide) (fun j100 => ?_) (fun j100 => ?_)
      · exact absurd j100 g2
      refine g_iload C rfl d_M_swap_103 ?_
      refine g_ldc C m_810 d_M_swap_105 ?_
      refine g_icmp_gt (tgt := 115) C d_M_swap_107 (by decide) (fun j107 => ?_) (fun j107 => ?_)
      · exact absurd j107 g3
      refine g_iload C rfl d_M_swap_110 ?_
      refine g_if_eq (tgt := 122) C d_M_swap_112 (by decide) (fun j112 => ?_) (fun j112 => ?_)
      rotate_left
      · exact absurd rfl j112
      refine g_aload_n C rfl rfl d_M_swap_122 ?_
      refine g_iload_n C rfl rfl d_M_swap_123 ?_
      refine g_iload_n C rfl rfl d_M_swap_124 ?_
      refine g_iload C rfl d_M_swap_125 ?_
      refine g_if_le (tgt := 134) C d_M_swap_127 (by decide) (fun j127 => ?_) (fun j127 => ?_)
      · exact absurd j127 g4
      refine g_iconst (v := 1) C rfl d_M_swap_130 ?_
      refine g_goto (tgt := 135) C d_M_swap_131 (by decide) ?_
      refine g_iload C rfl d_M_swap_135 ?_
      refine g_if_le (tgt := 146) C d_M_swap_137 (by decide) (fun j137 => ?_) (fun j137 => ?_)
      · exact absurd j137 g4
      refine g_iload C rfl d_M_swap_140 ?_
      refine g_i2l C d_M_swap_142 ?_
      rw [hrl]
      refine g_goto (tgt := 150) C d_M_swap_143 (by decide) ?_
      refine g_lload C rfl d_M_swap_150 ?_
      refine g_callV C (c_M_work (t0 := 0) (la := zla Z) (th := zth Z) (ow := zow Z) (pl := zpl Z) (lo := zlo Z) (hi := zhi Z) (am := zam Z) (np := np) (ng := ng) (tk := tk) (gt := gt) (ri := ri) (pr := fun i => lN (zpr Z i)) (nt := nt) (tc := fun i => iI (ztk Z i)) (fee := zfee Z) (dn := false) (ex := true) (p := p) (r := r) (M := rt (tx z)) (S := zpr Z p) (f := zfee Z p) (tz := ztk Z p) hn (by unfold isM; exact (by repeat' first | assumption | exact up_eq _ _ _ | refine up_ne (by omega) ?_)) (isMR_mv a1 (by repeat' first | exact rfl | refine up_ne (by omega) ?_)) (isMP_mv a9 (fun j a b => by repeat' first | exact rfl | refine up_ne (by omega) ?_)) hB hA (by repeat' first | assumption | exact up_eq _ _ _ | refine up_ne (by omega) ?_) (by repeat' first | assumption | exact up_eq _ _ _ | refine up_ne (by omega) ?_) (by repeat' first | assumption | exact up_eq _ _ _ | refine up_ne (by omega) ?_) (by repeat' first | assumption | exact up_eq _ _ _ | refine up_ne (by omega) ?_) (by repeat' first | assumption | exact up_eq _ _ _ | refine up_ne (by omega) ?_) (by repeat' first | assumption | exact up_eq _ _ _ | refine up_ne (by omega) ?_) (by repeat' first | assumption | exact up_eq _ _ _ | refine up_ne (by omega) ?_) (by repeat' first | assumption | exact up_eq _ _ _ | refine up_ne (by omega) ?_) (by repeat' first | assumption | exact up_eq _ _ _ | refine up_ne (by omega) ?_) hp rfl hf rfl rfl (rt_lo h2) (rt_hi h2) hI hxf) Y_M_work m_813 s_M_work m_811 rfl rfl ⟨by decide, by decide⟩ ⟨by decide, by decide⟩ (fun h => nomatch h) d_M_swap_152 (by first | assumption | omega) (by repeat' first | assumption | exact up_eq _ _ _ | refine up_ne (by omega) ?_) rfl (Nat.le_of_ble_eq_true rfl) (fun ret sg152 hq => ?_)
      obtain ⟨rfl, e17, e18, e19, e20, e21, e22, eF⟩ := hq
      refine g_pick [2, 3, 4, 5] rfl ?_
      exact tail sg152 ((eF m (by omega)).trans (by repeat' first | assumption | exact up_eq _ _ _ | refine up_ne (by omega) ?_)) e17 e18 e19 e20 e21 e22 (fun j q => (eF j (by omega)).trans (by repeat' first | exact rfl | refine up_ne (by omega) ?_))
    · refine g_aload_n C rfl rfl d_M_swap_0 ?_
      refine g_iload_n C rfl rfl d_M_swap_1 ?_
      refine g_callS C (c_M_isOwner (nI a)) Y_M_isOwner m_726 m_725 ⟨by decide, by decide⟩ ⟨by decide, by decide⟩ (fun h => nomatch h) d_M_swap_2 rfl (Nat.le_of_ble_eq_true rfl) (fun ret sg2 hq => ?_)
      obtain ⟨rfl, rfl⟩ := hq
      refine g_if_eq (tgt := 23) C d_M_swap_5 (by decide) (fun j5 => ?_) (fun j5 => ?_)
      · exact absurd (j5.symm.trans (bzd (ok4 ha))) (by decide)
      refine g_iload_n C rfl rfl d_M_swap_8 ?_
      refine g_callS C (c_M_isPool (nI p)) Y_M_isPool m_744 m_743 ⟨by decide, by decide⟩ ⟨by decide, by decide⟩ (fun h => nomatch h) d_M_swap_9 rfl (Nat.le_of_ble_eq_true rfl) (fun ret sg9 hq => ?_)
      obtain ⟨rfl, rfl⟩ := hq
      refine g_if_eq (tgt := 23) C d_M_swap_12 (by decide) (fun j12 => ?_) (fun j12 => ?_)
      · exact absurd (j12.symm.trans (bzd (ok2 hp))) (by decide)
      refine g_iload C rfl d_M_swap_15 ?_
      refine g_callS C (c_M_isTick (iI z)) Y_M_isTick m_747 m_746 ⟨by decide, by decide⟩ ⟨by decide, by decide⟩ (fun h => nomatch h) d_M_swap_17 rfl (Nat.le_of_ble_eq_true rfl) (fun ret sg17 hq => ?_)
      obtain ⟨rfl, rfl⟩ := hq
      refine g_if_ne (tgt := 27) C d_M_swap_20 (by decide) (fun j20 => ?_) (fun j20 => ?_)
      rotate_left
      · exact absurd (j20.symm.trans (bzd (okT_i h1 h2))) (by decide)
      refine g_iconst (v := 0) C rfl d_M_swap_27 ?_
      refine pf_M_84 C d_M_swap_28 rfl rfl (by first | assumption | omega) (by repeat' first | assumption | exact up_eq _ _ _ | refine up_ne (by omega) ?_) (by exact Nat.le_of_ble_eq_true rfl) ?_
      refine g_aload_n C rfl rfl d_M_swap_31 ?_
      refine gf_M_84 C d_M_swap_32 (by first | assumption | omega) (by repeat' first | assumption | exact up_eq _ _ _ | refine up_ne (by omega) ?_) (by rfl) ?_
      refine g_if_le (tgt := 40) C d_M_swap_35 (by decide) (fun j35 => ?_) (fun j35 => ?_)
      rotate_left
      · exact absurd (by decide) j35
      refine g_aload_n C rfl rfl d_M_swap_40 ?_
      refine g_iload C rfl d_M_swap_41 ?_
      refine g_callV C (c_M_rootOf (th := 0) (la := zla Z) z hn (by unfold isM; exact (by repeat' first | assumption | exact up_eq _ _ _ | refine up_ne (by omega) ?_)) (isMR_mv a1 (by repeat' first | exact rfl | refine up_ne (by omega) ?_)) h1 h2) Y_M_rootOf m_761 s_M_rootOf m_759 rfl rfl ⟨by decide, by decide⟩ ⟨by decide, by decide⟩ (fun h => nomatch h) d_M_swap_43 (by first | assumption | omega) (by repeat' first | assumption | exact up_eq _ _ _ | refine up_ne (by omega) ?_) rfl (Nat.le_of_ble_eq_true rfl) (fun ret sg43 hq => ?_)
      obtain ⟨rfl, rfl⟩ := hq
      refine g_lstore (lv' := [(6, .long (lN (rt (tx z)))), (0, .ref (ad o m)), (1, .int (nI a)), (2, .int (nI p)), (3, .int (bz true)), (4, .int (nI r)), (5, .int (iI z))]) C d_M_swap_46 (by decide) rfl ?_
      refine g_iload_n C rfl rfl d_M_swap_48 ?_
      refine g_if_eq (tgt := 72) C d_M_swap_49 (by decide) (fun j49 => ?_) (fun j49 => ?_)
      · exact absurd j49 (by decide)
      refine g_lload C rfl d_M_swap_52 ?_
      refine g_aload_n C rfl rfl d_M_swap_54 ?_
      refine gf_M_26 C d_M_swap_55 (by first | assumption | omega) (by repeat' first | assumption | exact up_eq _ _ _ | refine up_ne (by omega) ?_) (by rfl) ?_
      refine g_iload_n C rfl rfl d_M_swap_58 ?_
      refine g_lald C d_M_swap_59 (by first | assumption | omega) (by repeat' first | assumption | exact up_eq _ _ _ | refine up_ne (by omega) ?_) hin ?_
      rw [hcl]
      refine g_lcmp_lt (tgt := 68) C d_M_swap_60 d_M_swap_61 (by decide) (fun j60 => ?_) (fun j60 => ?_)
      rotate_left
      · exact absurd ((pk_lLT hM3 hS3).mpr hMS) j60
      refine g_iconst (v := 0) C rfl d_M_swap_68 ?_
      refine g_goto (tgt := 89) C d_M_swap_69 (by decide) ?_
      refine g_istore (lv' := [(8, .int 0), (6, .long (lN (rt (tx z)))), (0, .ref (ad o m)), (1, .int (nI a)), (2, .int (nI p)), (3, .int (bz true)), (4, .int (nI r)), (5, .int (iI z))]) C d_M_swap_89 (by decide) rfl ?_
      refine g_iload C rfl d_M_swap_91 ?_
      refine g_if_eq (tgt := 115) C d_M_swap_93 (by decide) (fun j93 => ?_) (fun j93 => ?_)
      · exact absurd j93 g1
      refine g_iload C rfl d_M_swap_96 ?_
      refine g_ldc C m_809 d_M_swap_98 ?_
      refine g_icmp_lt (tgt := 115) C d_M_swap_100 (by decide) (fun j100 => ?_) (fun j100 => ?_)
      · exact absurd j100 g2
      refine g_iload C rfl d_M_swap_103 ?_
      refine g_ldc C m_810 d_M_swap_105 ?_
      refine g_icmp_gt (tgt := 115) C d_M_swap_107 (by decide) (fun j107 => ?_) (fun j107 => ?_)
      · exact absurd j107 g3
      refine g_iload C rfl d_M_swap_110 ?_
      refine g_if_eq (tgt := 122) C d_M_swap_112 (by decide) (fun j112 => ?_) (fun j112 => ?_)
      rotate_left
      · exact absurd rfl j112
      refine g_aload_n C rfl rfl d_M_swap_122 ?_
      refine g_iload_n C rfl rfl d_M_swap_123 ?_
      refine g_iload_n C rfl rfl d_M_swap_124 ?_
      refine g_iload C rfl d_M_swap_125 ?_
      refine g_if_le (tgt := 134) C d_M_swap_127 (by decide) (fun j127 => ?_) (fun j127 => ?_)
      · exact absurd j127 g4
      refine g_iconst (v := 1) C rfl d_M_swap_130 ?_
      refine g_goto (tgt := 135) C d_M_swap_131 (by decide) ?_
      refine g_iload C rfl d_M_swap_135 ?_
      refine g_if_le (tgt := 146) C d_M_swap_137 (by decide) (fun j137 => ?_) (fun j137 => ?_)
      · exact absurd j137 g4
      refine g_iload C rfl d_M_swap_140 ?_
      refine g_i2l C d_M_swap_142 ?_
      rw [hrl]
      refine g_goto (tgt := 150) C d_M_swap_143 (by decide) ?_
      refine g_lload C rfl d_M_swap_150 ?_
      refine g_callV C (c_M_work (t0 := 0) (la := zla Z) (th := zth Z) (ow := zow Z) (pl := zpl Z) (lo := zlo Z) (hi := zhi Z) (am := zam Z) (np := np) (ng := ng) (tk := tk) (gt := gt) (ri := ri) (pr := fun i => lN (zpr Z i)) (nt := nt) (tc := fun i => iI (ztk Z i)) (fee := zfee Z) (dn := true) (ex := true) (p := p) (r := r) (M := rt (tx z)) (S := zpr Z p) (f := zfee Z p) (tz := ztk Z p) hn (by unfold isM; exact (by repeat' first | assumption | exact up_eq _ _ _ | refine up_ne (by omega) ?_)) (isMR_mv a1 (by repeat' first | exact rfl | refine up_ne (by omega) ?_)) (isMP_mv a9 (fun j a b => by repeat' first | exact rfl | refine up_ne (by omega) ?_)) hB hA (by repeat' first | assumption | exact up_eq _ _ _ | refine up_ne (by omega) ?_) (by repeat' first | assumption | exact up_eq _ _ _ | refine up_ne (by omega) ?_) (by repeat' first | assumption | exact up_eq _ _ _ | refine up_ne (by omega) ?_) (by repeat' first | assumption | exact up_eq _ _ _ | refine up_ne (by omega) ?_) (by repeat' first | assumption | exact up_eq _ _ _ | refine up_ne (by omega) ?_) (by repeat' first | assumption | exact up_eq _ _ _ | refine up_ne (by omega) ?_) (by repeat' first | assumption | exact up_eq _ _ _ | refine up_ne (by omega) ?_) (by repeat' first | assumption | exact up_eq _ _ _ | refine up_ne (by omega) ?_) (by repeat' first | assumption | exact up_eq _ _ _ | refine up_ne (by omega) ?_) hp rfl hf rfl rfl (rt_lo h2) (rt_hi h2) hI hxf) Y_M_work m_813 s_M_work m_811 rfl rfl ⟨by decide, by decide⟩ ⟨by decide, by decide⟩ (fun h => nomatch h) d_M_swap_152 (by first | assumption | omega) (by repeat' first | assumption | exact up_eq _ _ _ | refine up_ne (by omega) ?_) rfl (Nat.le_of_ble_eq_true rfl) (fun ret sg152 hq => ?_)
      obtain ⟨rfl, e17, e18, e19, e20, e21, e22, eF⟩ := hq
      refine g_pick [2, 3, 4, 5] rfl ?_
      exact tail sg152 ((eF m (by omega)).trans (by repeat' first | assumption | exact up_eq _ _ _ | refine up_ne (by omega) ?_)) e17 e18 e19 e20 e21 e22 (fun j q => (eF j (by omega)).trans (by repeat' first | exact rfl | refine up_ne (by omega) ?_))
set_option maxHeartbeats 8000000 in
theorem c_M_swap {l : Launch} {o n : Nat} {sg : Nat → va_E} {m : Nat} {t0 : Int32} {Z : ZS} (a p : Nat) (dn ex : Bool) (r : Nat) (z : Int) (hn : m + 22 < n) (hW : MW sg o m t0 Z) (hB : pBd (zpl Z) (zlo Z) (zhi Z)) (hA : ∀ i, i < 12 → zam Z i ≤ 50000000) (hf : zfee Z p ≤ 100) (ha : a < 4) (hp : p < 2) (h1 : -40 ≤ z) (h2 : z ≤ 40) (hT : TkOk (zpr Z p) (ztk Z p)) (hr0 : 0 < r) (hr1 : r ≤ 100000000) (hMS : if dn = true then rt (tx z) < zpr Z p else zpr Z p < rt (tx z)) (h3 : ¬ zbal Z (a * 3 + (p + sdN dn)) < (zWork Z p dn ex r (rt (tx z))).1.2.2.2.1) : GM l y_M_swap b_M_swap 10 (some .long) 6 184 0 0 o n n sg false [.ref (ad o m), .int (nI a), .int (nI p), .int (bz dn), .int (zAmt ex r), .int (iI z)] (fun r0 s => some (.long (zWork Z p dn ex r (rt (tx z))).1.2.2.2.2) = r0 ∧ MW s o m 0 (zLa (zCarry Z a p dn (zWork Z p dn ex r (rt (tx z)))) (zWork Z p dn ex r (rt (tx z))).1.2.2.2.1) ∧ mfr sg s m) := by
  have hm1 : sg m = _ := hW.1
  obtain ⟨a1, a2, a3, a4, a5, a6, a7, a8, a9, a10, a11⟩ := hW.2.1
  have hcl : (nI p).toNatClampNeg = p := nI_clamp (by omega)
  have hin : vp_in (nI p) 2 := vp_in_nI hp (by decide)
  have hS3 : zpr Z p < 2 ^ 63 := by have := hT.2.2.2.1; omega
  have hM3 : rt (tx z) < 2 ^ 63 := Nat.lt_trans (rt_up (tx_le h2)) (by decide)
  obtain ⟨np, nt, ng, tk, gt, ri, x1, x2, x3, x4, x5, x6⟩ := hW.2.2
  have hI : QI dn (rt (tx z)) (zpr Z p, ztk Z p, r, 0, 0) := ⟨hT, hr1, by cases dn; exact Nat.le_of_lt hMS; exact Nat.le_of_lt hMS⟩
  have hrl : (nI r).toInt64 = lN r := nI_l (by omega)
  obtain ⟨g1, g2, g3, g4⟩ := ps_facts hr0 hr1
  obtain ⟨f1, f2, f3, f4⟩ := ng_facts hr0 hr1
  refine GM_of (by decide) (Nat.le_of_ble_eq_true rfl) ?_
  intro K C hl hz hr hnm E
  show G K o n sg 0 0 0 [(0, .ref (ad o m)), (1, .int (nI a)), (2, .int (nI p)), (3, .int (bz dn)), (4, .int (zAmt ex r)), (5, .int (iI z))] []
  obtain ⟨xf, hxf⟩ : ∃ xf, xf = mRun dn ex (zfee Z p) (rt (tx z)) (mSet (zth Z) (zpl Z) (zlo Z) (zhi Z) (zam Z) p) (mIn (zth Z) (zpl Z) (zlo Z) (zhi Z) p) (mDep (zth Z) (zpl Z) (zlo Z) (zhi Z) (zam Z) p) 100 ((zpr Z p, ztk Z p, r, 0, 0), 0, riZ (zpl Z) p ri 12) := ⟨_, rfl⟩
  obtain ⟨y1, y2, y3⟩ := zWork_eq Z p dn ex r (rt (tx z)) ri hxf
  generalize hwe : (zWork Z p dn ex r (rt (tx z))) = wk at *
  have tail : ∀ s : Nat → va_E, isM s o m 0 (zla Z) → s (m + 17) = eJ 2 (vp_updL np p (lN xf.1.1)) → s (m + 18) = eI 2 (upd nt p (iI xf.1.2.1)) → s (m + 19) = eJ 2 (vp_updL ng p xf.2.1) → s (m + 20) = eJ 2 (vp_updL tk p xf.1.2.2.2.1) → s (m + 21) = eJ 2 (vp_updL gt p xf.1.2.2.2.2) → s (m + 22) = eJ 12 xf.2.2 → (∀ j, j < m ∨ (m < j ∧ j < m + 17) ∨ m + 22 < j → s j = sg j) → G K o n s 0 0 155 [(0, .ref (ad o m)), (1, .int (nI a)), (2, .int (nI p)), (3, .int (bz dn))] [] := by
    intro s s0 s17 s18 s19 s20 s21 s22 sF
    have s01 : s m = _ := s0
    have s1 : isMR s m := isMR_mv a1 (sF _ (by omega))
    have s2 := (sF (m + 2) (by omega)).trans a2
    have s3 := (sF (m + 3) (by omega)).trans a3
    have s4 := (sF (m + 4) (by omega)).trans a4
    have s5 := (sF (m + 5) (by omega)).trans a5
    have s6 := (sF (m + 6) (by omega)).trans a6
    have s7 := (sF (m + 7) (by omega)).trans a7
    have s8 := (sF (m + 8) (by omega)).trans a8
    have s9 : isMP s m (zth Z) (zow Z) (zpl Z) (zlo Z) (zhi Z) (zam Z) := isMP_mv a9 (fun j q1 q2 => sF j (by omega))
    have s15 := (sF (m + 15) (by omega)).trans a10
    have s16 := (sF (m + 16) (by omega)).trans a11
    have main : G K o n s 0 0 166 [(9, .int (nI (sdN dn))), (0, .ref (ad o m)), (1, .int (nI a)), (2, .int (nI p)), (3, .int (bz dn))] [] := by
      have hsd : sdN dn < 2 := by cases dn <;> decide
      refine g_aload_n C rfl rfl d_M_swap_166 ?_
      refine gf_M_13 C d_M_swap_167 (by first | assumption | omega) (by repeat' first | assumption | exact up_eq _ _ _ | refine up_ne (by omega) ?_) (by rfl) ?_
      refine g_iconst (v := 3) C rfl d_M_swap_170 ?_
      refine g_iload_n C rfl rfl d_M_swap_171 ?_
      refine g_imul C d_M_swap_172 ?_
      refine g_iload_n C rfl rfl d_M_swap_173 ?_
      refine g_iadd C d_M_swap_174 ?_
      refine g_iload C rfl d_M_swap_175 ?_
      refine g_iadd C d_M_swap_177 ?_
      rw [show (3 : Int32) = nI 3 from rfl, pk_mul, nI_add, nI_add, Nat.mul_comm 3 a, Nat.add_assoc (a * 3) p (sdN dn)]
      refine g_lald C d_M_swap_178 (by first | assumption | omega) (by repeat' first | assumption | exact up_eq _ _ _ | refine up_ne (by omega) ?_) (vp_in_nI (by omega) (by decide)) ?_
      rw [nI_clamp (n := a * 3 + (p + sdN dn)) (by omega)]
      refine g_aload_n C rfl rfl d_M_swap_179 ?_
      refine gf_M_69 C d_M_swap_180 (by first | assumption | omega) (by repeat' first | assumption | exact up_eq _ _ _ | refine up_ne (by omega) ?_) (by rfl) ?_
      refine g_iload_n C rfl rfl d_M_swap_183 ?_
      refine g_lald C d_M_swap_184 (by first | assumption | omega) (by repeat' first | assumption | exact up_eq _ _ _ | refine up_ne (by omega) ?_) hin ?_
      rw [hcl, pk_usL, y1]
      refine g_lcmp_ge (tgt := 196) C d_M_swap_185 d_M_swap_186 (by decide) (fun j185 => ?_) (fun j185 => ?_)
      rotate_left
      · exact absurd (Int64.not_lt.mp h3) j185
      refine g_aload_n C rfl rfl d_M_swap_196 ?_
      refine g_iload_n C rfl rfl d_M_swap_197 ?_
      refine g_iload_n C rfl rfl d_M_swap_198 ?_
      refine g_iload_n C rfl rfl d_M_swap_199 ?_
      refine g_callV C (c_M_carryOut a p dn hn s0 s9 hB s2 s4 s6 s7 s8 s15 s17 s18 s19 s20 s21 s22 ha hp) Y_M_carryOut m_845 s_M_carryOut m_843 rfl rfl ⟨by decide, by decide⟩ ⟨by decide, by decide⟩ (fun h => nomatch h) d_M_swap_200 (by first | assumption | omega) (by repeat' first | assumption | exact up_eq _ _ _ | refine up_ne (by omega) ?_) rfl (Nat.le_of_ble_eq_true rfl) (fun ret sg200 hq => ?_)
      obtain ⟨rfl, e2, e4, e6, e7, e8, e15, eF⟩ := hq
      rw [pk_usL, pk_usL, y1] at e2
      rw [pk_usL, pk_usL, y1] at e4
      rw [pk_usL, y1, updN_l] at e6
      rw [pk_us, y1, updZ_i] at e7
      rw [pk_usL, y2] at e8
      rw [faC_eq (b := bThP (zth Z) (zpl Z) p) (r2 := wk.2.2) (fun i q1 q2 => y3 i q1 (of_decide_eq_true (Bool.and_eq_true_iff.mp q2).2))] at e15
      have em1 : sg200 m = _ := (eF m (by omega) (by omega) (by omega) (by omega) (by omega) (by omega)).trans s0
      have e20 := (eF (m + 20) (by omega) (by omega) (by omega) (by omega) (by omega) (by omega)).trans s20
      have e21 := (eF (m + 21) (by omega) (by omega) (by omega) (by omega) (by omega) (by omega)).trans s21
      refine g_aload_n C rfl rfl d_M_swap_203 ?_
      refine g_aload_n C rfl rfl d_M_swap_204 ?_
      refine gf_M_69 C d_M_swap_205 (by first | assumption | omega) (by repeat' first | assumption | exact up_eq _ _ _ | refine up_ne (by omega) ?_) (by rfl) ?_
      refine g_iload_n C rfl rfl d_M_swap_208 ?_
      refine g_lald C d_M_swap_209 (by first | assumption | omega) (by repeat' first | assumption | exact up_eq _ _ _ | refine up_ne (by omega) ?_) hin ?_
      rw [hcl, pk_usL, y1]
      refine pf_M_199 C d_M_swap_210 rfl rfl (by first | assumption | omega) (by repeat' first | assumption | exact up_eq _ _ _ | refine up_ne (by omega) ?_) (by exact Nat.le_of_ble_eq_true rfl) ?_
      refine g_aload_n C rfl rfl d_M_swap_213 ?_
      refine gf_M_72 C d_M_swap_214 (by first | assumption | omega) (by repeat' first | assumption | exact up_eq _ _ _ | refine up_ne (by omega) ?_) (by rfl) ?_
      refine g_iload_n C rfl rfl d_M_swap_217 ?_
      refine g_lald C d_M_swap_218 (by first | assumption | omega) (by repeat' first | assumption | exact up_eq _ _ _ | refine up_ne (by omega) ?_) hin ?_
      rw [hcl, pk_usL, y1]
      refine g_lret C E hr d_M_swap_219 ?_
      exact ⟨rfl, ⟨by unfold isM; exact (by repeat' first | assumption | exact up_eq _ _ _ | refine up_ne (by omega) ?_), ⟨isMR_mv s1 (up_ne (by omega) (eF _ (by omega) (by omega) (by omega) (by omega) (by omega) (by omega))), (by repeat' first | assumption | exact up_eq _ _ _ | refine up_ne (by omega) ?_), up_ne (by omega) ((eF _ (by omega) (by omega) (by omega) (by omega) (by omega) (by omega)).trans s3), (by repeat' first | assumption | exact up_eq _ _ _ | refine up_ne (by omega) ?_), up_ne (by omega) ((eF _ (by omega) (by omega) (by omega) (by omega) (by omega) (by omega)).trans s5), (by repeat' first | assumption | exact up_eq _ _ _ | refine up_ne (by omega) ?_), (by repeat' first | assumption | exact up_eq _ _ _ | refine up_ne (by omega) ?_), (by repeat' first | assumption | exact up_eq _ _ _ | refine up_ne (by omega) ?_), isMP_mv s9 (fun j q1 q2 => up_ne (by omega) (eF _ (by omega) (by omega) (by omega) (by omega) (by omega) (by omega))), (by repeat' first | assumption | exact up_eq _ _ _ | refine up_ne (by omega) ?_), up_ne (by omega) ((eF _ (by omega) (by omega) (by omega) (by omega) (by omega) (by omega)).trans s16)⟩, MX_mv ⟨_, _, _, _, _, _, s17, s18, s19, s20, s21, s22⟩ (fun j q1 q2 => up_ne (by omega) (eF _ (by omega) (by omega) (by omega) (by omega) (by omega) (by omega)))⟩, fun j q1 => by repeat' first | exact (eF _ (by omega) (by omega) (by omega) (by omega) (by omega) (by omega)).trans (sF j (by omega)) | refine up_ne (by omega) ?_⟩
    cases dn
    · refine g_iload_n C rfl rfl d_M_swap_155 ?_
      refine g_if_eq (tgt := 163) C d_M_swap_156 (by decide) (fun j156 => ?_) (fun j156 => ?_)
      rotate_left
      · exact absurd rfl j156
      refine g_iconst (v := 1) C rfl d_M_swap_163 ?_
      refine g_istore (lv' := [(9, .int (nI (sdN false))), (0, .ref (ad o m)), (1, .int (nI a)), (2, .int (nI p)), (3, .int (bz false))]) C d_M_swap_164 (by decide) rfl ?_
      exact main
    · refine g_iload_n C rfl rfl d_M_swap_155 ?_
      refine g_if_eq (tgt := 163) C d_M_swap_156 (by decide) (fun j156 => ?_) (fun j156 => ?_)
      · exact absurd j156 (by decide)
      refine g_iconst (v := 0) C rfl d_M_swap_159 ?_
      refine g_goto (tgt := 164) C d_M_swap_160 (by decide) ?_
      refine g_istore (lv' := [(9, .int (nI (sdN true))), (0, .ref (ad o m)), (1, .int (nI a)), (2, .int (nI p)), (3, .int (bz true))]) C d_M_swap_164 (by decide) rfl ?_
      exact main
  cases ex
  · cases dn
    · refine g_aload_n C rfl rfl d_M_swap_0 ?_
      refine g_iload_n C rfl rfl d_M_swap_1 ?_
      refine g_callS C (c_M_isOwner (nI a)) Y_M_isOwner m_726 m_725 ⟨by decide, by decide⟩ ⟨by decide, by decide⟩ (fun h => nomatch h) d_M_swap_2 rfl (Nat.le_of_ble_eq_true rfl) (fun ret sg2 hq => ?_)
      obtain ⟨rfl, rfl⟩ := hq
      refine g_if_eq (tgt := 23) C d_M_swap_5 (by decide) (fun j5 => ?_) (fun j5 => ?_)
      · exact absurd (j5.symm.trans (bzd (ok4 ha))) (by decide)
      refine g_iload_n C rfl rfl d_M_swap_8 ?_
      refine g_callS C (c_M_isPool (nI p)) Y_M_isPool m_744 m_743 ⟨by decide, by decide⟩ ⟨by decide, by decide⟩ (fun h => nomatch h) d_M_swap_9 rfl (Nat.le_of_ble_eq_true rfl) (fun ret sg9 hq => ?_)
      obtain ⟨rfl, rfl⟩ := hq
      refine g_if_eq (tgt := 23) C d_M_swap_12 (by decide) (fun j12 => ?_) (fun j12 => ?_)
      · exact absurd (j12.symm.trans (bzd (ok2 hp))) (by decide)
      refine g_iload C rfl d_M_swap_15 ?_
      refine g_callS C (c_M_isTick (iI z)) Y_M_isTick m_747 m_746 ⟨by decide, by decide⟩ ⟨by decide, by decide⟩ (fun h => nomatch h) d_M_swap_17 rfl (Nat.le_of_ble_eq_true rfl) (fun ret sg17 hq => ?_)
      obtain ⟨rfl, rfl⟩ := hq
      refine g_if_ne (tgt := 27) C d_M_swap_20 (by decide) (fun j20 => ?_) (fun j20 => ?_)
      rotate_left
      · exact absurd (j20.symm.trans (bzd (okT_i h1 h2))) (by decide)
      refine g_iconst (v := 0) C rfl d_M_swap_27 ?_
      refine pf_M_84 C d_M_swap_28 rfl rfl (by first | assumption | omega) (by repeat' first | assumption | exact up_eq _ _ _ | refine up_ne (by omega) ?_) (by exact Nat.le_of_ble_eq_true rfl) ?_
      refine g_aload_n C rfl rfl d_M_swap_31 ?_
      refine gf_M_84 C d_M_swap_32 (by first | assumption | omega) (by repeat' first | assumption | exact up_eq _ _ _ | refine up_ne (by omega) ?_) (by rfl) ?_
      refine g_if_le (tgt := 40) C d_M_swap_35 (by decide) (fun j35 => ?_) (fun j35 => ?_)
      rotate_left
      · exact absurd (by decide) j35
      refine g_aload_n C rfl rfl d_M_swap_40 ?_
      refine g_iload C rfl d_M_swap_41 ?_
      refine g_callV C (c_M_rootOf (th := 0) (la := zla Z) z hn (by unfold isM; exact (by repeat' first | assumption | exact up_eq _ _ _ | refine up_ne (by omega) ?_)) (isMR_mv a1 (by repeat' first | exact rfl | refine up_ne (by omega) ?_)) h1 h2) Y_M_rootOf m_761 s_M_rootOf m_759 rfl rfl ⟨by decide, by decide⟩ ⟨by decide, by decide⟩ (fun h => nomatch h) d_M_swap_43 (by first | assumption | omega) (by repeat' first | assumption | exact up_eq _ _ _ | refine up_ne (by omega) ?_) rfl (Nat.le_of_ble_eq_true rfl) (fun ret sg43 hq => ?_)
      obtain ⟨rfl, rfl⟩ := hq
      refine g_lstore (lv' := [(6, .long (lN (rt (tx z)))), (0, .ref (ad o m)), (1, .int (nI a)), (2, .int (nI p)), (3, .int (bz false)), (4, .int (-nI r)), (5, .int (iI z))]) C d_M_swap_46 (by decide) rfl ?_
      refine g_iload_n C rfl rfl d_M_swap_48 ?_
      refine g_if_eq (tgt := 72) C d_M_swap_49 (by decide) (fun j49 => ?_) (fun j49 => ?_)
      rotate_left
      · exact absurd rfl j49
      refine g_lload C rfl d_M_swap_72 ?_
      refine g_aload_n C rfl rfl d_M_swap_74 ?_
      refine gf_M_26 C d_M_swap_75 (by first | assumption | omega) (by repeat' first | assumption | exact up_eq _ _ _ | refine up_ne (by omega) ?_) (by rfl) ?_
      refine g_iload_n C rfl rfl d_M_swap_78 ?_
      refine g_lald C d_M_swap_79 (by first | assumption | omega) (by repeat' first | assumption | exact up_eq _ _ _ | refine up_ne (by omega) ?_) hin ?_
      rw [hcl]
      refine g_lcmp_gt (tgt := 88) C d_M_swap_80 d_M_swap_81 (by decide) (fun j80 => ?_) (fun j80 => ?_)
      rotate_left
      · exact absurd ((pk_lLT hS3 hM3).mpr hMS) j80
      refine g_iconst (v := 0) C rfl d_M_swap_88 ?_
      refine g_istore (lv' := [(8, .int 0), (6, .long (lN (rt (tx z)))), (0, .ref (ad o m)), (1, .int (nI a)), (2, .int (nI p)), (3, .int (bz false)), (4, .int (-nI r)), (5, .int (iI z))]) C d_M_swap_89 (by decide) rfl ?_
      refine g_iload C rfl d_M_swap_91 ?_
      refine g_if_eq (tgt := 115) C d_M_swap_93 (by decide) (fun j93 => ?_) (fun j93 => ?_)
      · exact absurd j93 f1
      refine g_iload C rfl d_M_swap_96 ?_
      refine g_ldc C m_809 d_M_swap_98 ?_
      refine g_icmp_lt (tgt := 115) C d_M_swap_100 (by decide) (fun j100 => ?_) (fun j100 => ?_)
      · exact absurd j100 f2
      refine g_iload C rfl d_M_swap_103 ?_
      refine g_ldc C m_810 d_M_swap_105 ?_
      refine g_icmp_gt (tgt := 115) C d_M_swap_107 (by decide) (fun j107 => ?_) (fun j107 => ?_)
      · exact absurd j107 f3
      refine g_iload C rfl d_M_swap_110 ?_
      refine g_if_eq (tgt := 122) C d_M_swap_112 (by decide) (fun j112 => ?_) (fun j112 => ?_)
      rotate_left
      · exact absurd rfl j112
      refine g_aload_n C rfl rfl d_M_swap_122 ?_
      refine g_iload_n C rfl rfl d_M_swap_123 ?_
      refine g_iload_n C rfl rfl d_M_swap_124 ?_
      refine g_iload C rfl d_M_swap_125 ?_
      refine g_if_le (tgt := 134) C d_M_swap_127 (by decide) (fun j127 => ?_) (fun j127 => ?_)
      rotate_left
      · exact absurd f4 j127
      refine g_iconst (v := 0) C rfl d_M_swap_134 ?_
      refine g_iload C rfl d_M_swap_135 ?_
      refine g_if_le (tgt := 146) C d_M_swap_137 (by decide) (fun j137 => ?_) (fun j137 => ?_)
      rotate_left
      · exact absurd f4 j137
      refine g_iload C rfl d_M_swap_146 ?_
      refine g_ineg C d_M_swap_148 ?_
      refine g_i2l C d_M_swap_149 ?_
      rw [Int32.neg_neg, hrl]
      refine g_lload C rfl d_M_swap_150 ?_
      refine g_callV C (c_M_work (t0 := 0) (la := zla Z) (th := zth Z) (ow := zow Z) (pl := zpl Z) (lo := zlo Z) (hi := zhi Z) (am := zam Z) (np := np) (ng := ng) (tk := tk) (gt := gt) (ri := ri) (pr := fun i => lN (zpr Z i)) (nt := nt) (tc := fun i => iI (ztk Z i)) (fee := zfee Z) (dn := false) (ex := false) (p := p) (r := r) (M := rt (tx z)) (S := zpr Z p) (f := zfee Z p) (tz := ztk Z p) hn (by unfold isM; exact (by repeat' first | assumption | exact up_eq _ _ _ | refine up_ne (by omega) ?_)) (isMR_mv a1 (by repeat' first | exact rfl | refine up_ne (by omega) ?_)) (isMP_mv a9 (fun j a b => by repeat' first | exact rfl | refine up_ne (by omega) ?_)) hB hA (by repeat' first | assumption | exact up_eq _ _ _ | refine up_ne (by omega) ?_) (by repeat' first | assumption | exact up_eq _ _ _ | refine up_ne (by omega) ?_) (by repeat' first | assumption | exact up_eq _ _ _ | refine up_ne (by omega) ?_) (by repeat' first | assumption | exact up_eq _ _ _ | refine up_ne (by omega) ?_) (by repeat' first | assumption | exact up_eq _ _ _ | refine up_ne (by omega) ?_) (by repeat' first | assumption | exact up_eq _ _ _ | refine up_ne (by omega) ?_) (by repeat' first | assumption | exact up_eq _ _ _ | refine up_ne (by omega) ?_) (by repeat' first | assumption | exact up_eq _ _ _ | refine up_ne (by omega) ?_) (by repeat' first | assumption | exact up_eq _ _ _ | refine up_ne (by omega) ?_) hp rfl hf rfl rfl (rt_lo h2) (rt_hi h2) hI hxf) Y_M_work m_813 s_M_work m_811 rfl rfl ⟨by decide, by decide⟩ ⟨by decide, by decide⟩ (fun h => nomatch h) d_M_swap_152 (by first | assumption | omega) (by repeat' first | assumption | exact up_eq _ _ _ | refine up_ne (by omega) ?_) rfl (Nat.le_of_ble_eq_true rfl) (fun ret sg152 hq => ?_)
      obtain ⟨rfl, e17, e18, e19, e20, e21, e22, eF⟩ := hq
      refine g_pick [2, 3, 4, 5] rfl ?_
      exact tail sg152 ((eF m (by omega)).trans (by repeat' first | assumption | exact up_eq _ _ _ | refine up_ne (by omega) ?_)) e17 e18 e19 e20 e21 e22 (fun j q => (eF j (by omega)).trans (by repeat' first | exact rfl | refine up_ne (by omega) ?_))
    · refine g_aload_n C rfl rfl d_M_swap_0 ?_
      refine g_iload_n C rfl rfl d_M_swap_1 ?_
      refine g_callS C (c_M_isOwner (nI a)) Y_M_isOwner m_726 m_725 ⟨by decide, by decide⟩ ⟨by decide, by decide⟩ (fun h => nomatch h) d_M_swap_2 rfl (Nat.le_of_ble_eq_true rfl) (fun ret sg2 hq => ?_)
      obtain ⟨rfl, rfl⟩ := hq
      refine g_if_eq (tgt := 23) C d_M_swap_5 (by decide) (fun j5 => ?_) (fun j5 => ?_)
      · exact absurd (j5.symm.trans (bzd (ok4 ha))) (by decide)
      refine g_iload_n C rfl rfl d_M_swap_8 ?_
      refine g_callS C (c_M_isPool (nI p)) Y_M_isPool m_744 m_743 ⟨by decide, by decide⟩ ⟨by decide, by decide⟩ (fun h => nomatch h) d_M_swap_9 rfl (Nat.le_of_ble_eq_true rfl) (fun ret sg9 hq => ?_)
      obtain ⟨rfl, rfl⟩ := hq
      refine g_if_eq (tgt := 23) C d_M_swap_12 (by decide) (fun j12 => ?_) (fun j12 => ?_)
      · exact absurd (j12.symm.trans (bzd (ok2 hp))) (by decide)
      refine g_iload C rfl d_M_swap_15 ?_
      refine g_callS C (c_M_isTick (iI z)) Y_M_isTick m_747 m_746 ⟨by decide, by decide⟩ ⟨by decide, by decide⟩ (fun h => nomatch h) d_M_swap_17 rfl (Nat.le_of_ble_eq_true rfl) (fun ret sg17 hq => ?_)
      obtain ⟨rfl, rfl⟩ := hq
      refine g_if_ne (tgt := 27) C d_M_swap_20 (by decide) (fun j20 => ?_) (fun j20 => ?_)
      rotate_left
      · exact absurd (j20.symm.trans (bzd (okT_i h1 h2))) (by decide)
      refine g_iconst (v := 0) C rfl d_M_swap_27 ?_
      refine pf_M_84 C d_M_swap_28 rfl rfl (by first | assumption | omega) (by repeat' first | assumption | exact up_eq _ _ _ | refine up_ne (by omega) ?_) (by exact Nat.le_of_ble_eq_true rfl) ?_
      refine g_aload_n C rfl rfl d_M_swap_31 ?_
      refine gf_M_84 C d_M_swap_32 (by first | assumption | omega) (by repeat' first | assumption | exact up_eq _ _ _ | refine up_ne (by omega) ?_) (by rfl) ?_
      refine g_if_le (tgt := 40) C d_M_swap_35 (by decide) (fun j35 => ?_) (fun j35 => ?_)
      rotate_left
      · exact absurd (by decide) j35
      refine g_aload_n C rfl rfl d_M_swap_40 ?_
      refine g_iload C rfl d_M_swap_41 ?_
      refine g_callV C (c_M_rootOf (th := 0) (la := zla Z) z hn (by unfold isM; exact (by repeat' first | assumption | exact up_eq _ _ _ | refine up_ne (by omega) ?_)) (isMR_mv a1 (by repeat' first | exact rfl | refine up_ne (by omega) ?_)) h1 h2) Y_M_rootOf m_761 s_M_rootOf m_759 rfl rfl ⟨by decide, by decide⟩ ⟨by decide, by decide⟩ (fun h => nomatch h) d_M_swap_43 (by first | assumption | omega) (by repeat' first | assumption | exact up_eq _ _ _ | refine up_ne (by omega) ?_) rfl (Nat.le_of_ble_eq_true rfl) (fun ret sg43 hq => ?_)
      obtain ⟨rfl, rfl⟩ := hq
      refine g_lstore (lv' := [(6, .long (lN (rt (tx z)))), (0, .ref (ad o m)), (1, .int (nI a)), (2, .int (nI p)), (3, .int (bz true)), (4, .int (-nI r)), (5, .int (iI z))]) C d_M_swap_46 (by decide) rfl ?_
      refine g_iload_n C rfl rfl d_M_swap_48 ?_
      refine g_if_eq (tgt := 72) C d_M_swap_49 (by decide) (fun j49 => ?_) (fun j49 => ?_)
      · exact absurd j49 (by decide)
      refine g_lload C rfl d_M_swap_52 ?_
      refine g_aload_n C rfl rfl d_M_swap_54 ?_
      refine gf_M_26 C d_M_swap_55 (by first | assumption | omega) (by repeat' first | assumption | exact up_eq _ _ _ | refine up_ne (by omega) ?_) (by rfl) ?_
      refine g_iload_n C rfl rfl d_M_swap_58 ?_
      refine g_lald C d_M_swap_59 (by first | assumption | omega) (by repeat' first | assumption | exact up_eq _ _ _ | refine up_ne (by omega) ?_) hin ?_
      rw [hcl]
      refine g_lcmp_lt (tgt := 68) C d_M_swap_60 d_M_swap_61 (by decide) (fun j60 => ?_) (fun j60 => ?_)
      rotate_left
      · exact absurd ((pk_lLT hM3 hS3).mpr hMS) j60
      refine g_iconst (v := 0) C rfl d_M_swap_68 ?_
      refine g_goto (tgt := 89) C d_M_swap_69 (by decide) ?_
      refine g_istore (lv' := [(8, .int 0), (6, .long (lN (rt (tx z)))), (0, .ref (ad o m)), (1, .int (nI a)), (2, .int (nI p)), (3, .int (bz true)), (4, .int (-nI r)), (5, .int (iI z))]) C d_M_swap_89 (by decide) rfl ?_
      refine g_iload C rfl d_M_swap_91 ?_
      refine g_if_eq (tgt := 115) C d_M_swap_93 (by decide) (fun j93 => ?_) (fun j93 => ?_)
      · exact absurd j93 f1
      refine g_iload C rfl d_M_swap_96 ?_
      refine g_ldc C m_809 d_M_swap_98 ?_
      refine g_icmp_lt (tgt := 115) C d_M_swap_100 (by decide) (fun j100 => ?_) (fun j100 => ?_)
      · exact absurd j100 f2
      refine g_iload C rfl d_M_swap_103 ?_
      refine g_ldc C m_810 d_M_swap_105 ?_
      refine g_icmp_gt (tgt := 115) C d_M_swap_107 (by decide) (fun j107 => ?_) (fun j107 => ?_)
      · exact absurd j107 f3
      refine g_iload C rfl d_M_swap_110 ?_
      refine g_if_eq (tgt := 122) C d_M_swap_112 (by decide) (fun j112 => ?_) (fun j112 => ?_)
      rotate_left
      · exact absurd rfl j112
      refine g_aload_n C rfl rfl d_M_swap_122 ?_
      refine g_iload_n C rfl rfl d_M_swap_123 ?_
      refine g_iload_n C rfl rfl d_M_swap_124 ?_
      refine g_iload C rfl d_M_swap_125 ?_
      refine g_if_le (tgt := 134) C d_M_swap_127 (by decide) (fun j127 => ?_) (fun j127 => ?_)
      rotate_left
      · exact absurd f4 j127
      refine g_iconst (v := 0) C rfl d_M_swap_134 ?_
      refine g_iload C rfl d_M_swap_135 ?_
      refine g_if_le (tgt := 146) C d_M_swap_137 (by decide) (fun j137 => ?_) (fun j137 => ?_)
      rotate_left
      · exact absurd f4 j137
      refine g_iload C rfl d_M_swap_146 ?_
      refine g_ineg C d_M_swap_148 ?_
      refine g_i2l C d_M_swap_149 ?_
      rw [Int32.neg_neg, hrl]
      refine g_lload C rfl d_M_swap_150 ?_
      refine g_callV C (c_M_work (t0 := 0) (la := zla Z) (th := zth Z) (ow := zow Z) (pl := zpl Z) (lo := zlo Z) (hi := zhi Z) (am := zam Z) (np := np) (ng := ng) (tk := tk) (gt := gt) (ri := ri) (pr := fun i => lN (zpr Z i)) (nt := nt) (tc := fun i => iI (ztk Z i)) (fee := zfee Z) (dn := true) (ex := false) (p := p) (r := r) (M := rt (tx z)) (S := zpr Z p) (f := zfee Z p) (tz := ztk Z p) hn (by unfold isM; exact (by repeat' first | assumption | exact up_eq _ _ _ | refine up_ne (by omega) ?_)) (isMR_mv a1 (by repeat' first | exact rfl | refine up_ne (by omega) ?_)) (isMP_mv a9 (fun j a b => by repeat' first | exact rfl | refine up_ne (by omega) ?_)) hB hA (by repeat' first | assumption | exact up_eq _ _ _ | refine up_ne (by omega) ?_) (by repeat' first | assumption | exact up_eq _ _ _ | refine up_ne (by omega) ?_) (by repeat' first | assumption | exact up_eq _ _ _ | refine up_ne (by omega) ?_) (by repeat' first | assumption | exact up_eq _ _ _ | refine up_ne (by omega) ?_) (by repeat' first | assumption | exact up_eq _ _ _ | refine up_ne (by omega) ?_) (by repeat' first | assumption | exact up_eq _ _ _ | refine up_ne (by omega) ?_) (by repeat' first | assumption | exact up_eq _ _ _ | refine up_ne (by omega) ?_) (by repeat' first | assumption | exact up_eq _ _ _ | refine up_ne (by omega) ?_) (by repeat' first | assumption | exact up_eq _ _ _ | refine up_ne (by omega) ?_) hp rfl hf rfl rfl (rt_lo h2) (rt_hi h2) hI hxf) Y_M_work m_813 s_M_work m_811 rfl rfl ⟨by decide, by decide⟩ ⟨by decide, by decide⟩ (fun h => nomatch h) d_M_swap_152 (by first | assumption | omega) (by repeat' first | assumption | exact up_eq _ _ _ | refine up_ne (by omega) ?_) rfl (Nat.le_of_ble_eq_true rfl) (fun ret sg152 hq => ?_)
      obtain ⟨rfl, e17, e18, e19, e20, e21, e22, eF⟩ := hq
      refine g_pick [2, 3, 4, 5] rfl ?_
      exact tail sg152 ((eF m (by omega)).trans (by repeat' first | assumption | exact up_eq _ _ _ | refine up_ne (by omega) ?_)) e17 e18 e19 e20 e21 e22 (fun j q => (eF j (by omega)).trans (by repeat' first | exact rfl | refine up_ne (by omega) ?_))
  · cases dn
    · refine g_aload_n C rfl rfl d_M_swap_0 ?_
      refine g_iload_n C rfl rfl d_M_swap_1 ?_
      refine g_callS C (c_M_isOwner (nI a)) Y_M_isOwner m_726 m_725 ⟨by decide, by decide⟩ ⟨by decide, by decide⟩ (fun h => nomatch h) d_M_swap_2 rfl (Nat.le_of_ble_eq_true rfl) (fun ret sg2 hq => ?_)
      obtain ⟨rfl, rfl⟩ := hq
      refine g_if_eq (tgt := 23) C d_M_swap_5 (by decide) (fun j5 => ?_) (fun j5 => ?_)
      · exact absurd (j5.symm.trans (bzd (ok4 ha))) (by decide)
      refine g_iload_n C rfl rfl d_M_swap_8 ?_
      refine g_callS C (c_M_isPool (nI p)) Y_M_isPool m_744 m_743 ⟨by decide, by decide⟩ ⟨by decide, by decide⟩ (fun h => nomatch h) d_M_swap_9 rfl (Nat.le_of_ble_eq_true rfl) (fun ret sg9 hq => ?_)
      obtain ⟨rfl, rfl⟩ := hq
      refine g_if_eq (tgt := 23) C d_M_swap_12 (by decide) (fun j12 => ?_) (fun j12 => ?_)
      · exact absurd (j12.symm.trans (bzd (ok2 hp))) (by decide)
      refine g_iload C rfl d_M_swap_15 ?_
      refine g_callS C (c_M_isTick (iI z)) Y_M_isTick m_747 m_746 ⟨by decide, by decide⟩ ⟨by decide, by decide⟩ (fun h => nomatch h) d_M_swap_17 rfl (Nat.le_of_ble_eq_true rfl) (fun ret sg17 hq => ?_)
      obtain ⟨rfl, rfl⟩ := hq
      refine g_if_ne (tgt := 27) C d_M_swap_20 (by decide) (fun j20 => ?_) (fun j20 => ?_)
      rotate_left
      · exact absurd (j20.symm.trans (bzd (okT_i h1 h2))) (by decide)
      refine g_iconst (v := 0) C rfl d_M_swap_27 ?_
      refine pf_M_84 C d_M_swap_28 rfl rfl (by first | assumption | omega) (by repeat' first | assumption | exact up_eq _ _ _ | refine up_ne (by omega) ?_) (by exact Nat.le_of_ble_eq_true rfl) ?_
      refine g_aload_n C rfl rfl d_M_swap_31 ?_
      refine gf_M_84 C d_M_swap_32 (by first | assumption | omega) (by repeat' first | assumption | exact up_eq _ _ _ | refine up_ne (by omega) ?_) (by rfl) ?_
      refine g_if_le (tgt := 40) C d_M_swap_35 (by decide) (fun j35 => ?_) (fun j35 => ?_)
      rotate_left
      · exact absurd (by decide) j35
      refine g_aload_n C rfl rfl d_M_swap_40 ?_
      refine g_iload C rfl d_M_swap_41 ?_
      refine g_callV C (c_M_rootOf (th := 0) (la := zla Z) z hn (by unfold isM; exact (by repeat' first | assumption | exact up_eq _ _ _ | refine up_ne (by omega) ?_)) (isMR_mv a1 (by repeat' first | exact rfl | refine up_ne (by omega) ?_)) h1 h2) Y_M_rootOf m_761 s_M_rootOf m_759 rfl rfl ⟨by decide, by decide⟩ ⟨by decide, by decide⟩ (fun h => nomatch h) d_M_swap_43 (by first | assumption | omega) (by repeat' first | assumption | exact up_eq _ _ _ | refine up_ne (by omega) ?_) rfl (Nat.le_of_ble_eq_true rfl) (fun ret sg43 hq => ?_)
      obtain ⟨rfl, rfl⟩ := hq
      refine g_lstore (lv' := [(6, .long (lN (rt (tx z)))), (0, .ref (ad o m)), (1, .int (nI a)), (2, .int (nI p)), (3, .int (bz false)), (4, .int (nI r)), (5, .int (iI z))]) C d_M_swap_46 (by decide) rfl ?_
      refine g_iload_n C rfl rfl d_M_swap_48 ?_
      refine g_if_eq (tgt := 72) C d_M_swap_49 (by decide) (fun j49 => ?_) (fun j49 => ?_)
      rotate_left
      · exact absurd rfl j49
      refine g_lload C rfl d_M_swap_72 ?_
      refine g_aload_n C rfl rfl d_M_swap_74 ?_
      refine gf_M_26 C d_M_swap_75 (by first | assumption | omega) (by repeat' first | assumption | exact up_eq _ _ _ | refine up_ne (by omega) ?_) (by rfl) ?_
      refine g_iload_n C rfl rfl d_M_swap_78 ?_
      refine g_lald C d_M_swap_79 (by first | assumption | omega) (by repeat' first | assumption | exact up_eq _ _ _ | refine up_ne (by omega) ?_) hin ?_
      rw [hcl]
      refine g_lcmp_gt (tgt := 88) C d_M_swap_80 d_M_swap_81 (by decide) (fun j80 => ?_) (fun j80 => ?_)
      rotate_left
      · exact absurd ((pk_lLT hS3 hM3).mpr hMS) j80
      refine g_iconst (v := 0) C rfl d_M_swap_88 ?_
      refine g_istore (lv' := [(8, .int 0), (6, .long (lN (rt (tx z)))), (0, .ref (ad o m)), (1, .int (nI a)), (2, .int (nI p)), (3, .int (bz false)), (4, .int (nI r)), (5, .int (iI z))]) C d_M_swap_89 (by decide) rfl ?_
      refine g_iload C rfl d_M_swap_91 ?_
      refine g_if_eq (tgt := 115) C d_M_swap_93 (by decide) (fun j93 => ?_) (fun j93 => ?_)
      · exact absurd j93 g1
      refine g_iload C rfl d_M_swap_96 ?_
      refine g_ldc C m_809 d_M_swap_98 ?_
      refine g_icmp_lt (tgt := 115) C d_M_swap_100 (by decide) (fun j100 => ?_) (fun j100 => ?_)
      · exact absurd j100 g2
      refine g_iload C rfl d_M_swap_103 ?_
      refine g_ldc C m_810 d_M_swap_105 ?_
      refine g_icmp_gt (tgt := 115) C d_M_swap_107 (by decide) (fun j107 => ?_) (fun j107 => ?_)
      · exact absurd j107 g3
      refine g_iload C rfl d_M_swap_110 ?_
      refine g_if_eq (tgt := 122) C d_M_swap_112 (by decide) (fun j112 => ?_) (fun j112 => ?_)
      rotate_left
      · exact absurd rfl j112
      refine g_aload_n C rfl rfl d_M_swap_122 ?_
      refine g_iload_n C rfl rfl d_M_swap_123 ?_
      refine g_iload_n C rfl rfl d_M_swap_124 ?_
      refine g_iload C rfl d_M_swap_125 ?_
      refine g_if_le (tgt := 134) C d_M_swap_127 (by decide) (fun j127 => ?_) (fun j127 => ?_)
      · exact absurd j127 g4
      refine g_iconst (v := 1) C rfl d_M_swap_130 ?_
      refine g_goto (tgt := 135) C d_M_swap_131 (by decide) ?_
      refine g_iload C rfl d_M_swap_135 ?_
      refine g_if_le (tgt := 146) C d_M_swap_137 (by decide) (fun j137 => ?_) (fun j137 => ?_)
      · exact absurd j137 g4
      refine g_iload C rfl d_M_swap_140 ?_
      refine g_i2l C d_M_swap_142 ?_
      rw [hrl]
      refine g_goto (tgt := 150) C d_M_swap_143 (by decide) ?_
      refine g_lload C rfl d_M_swap_150 ?_
      refine g_callV C (c_M_work (t0 := 0) (la := zla Z) (th := zth Z) (ow := zow Z) (pl := zpl Z) (lo := zlo Z) (hi := zhi Z) (am := zam Z) (np := np) (ng := ng) (tk := tk) (gt := gt) (ri := ri) (pr := fun i => lN (zpr Z i)) (nt := nt) (tc := fun i => iI (ztk Z i)) (fee := zfee Z) (dn := false) (ex := true) (p := p) (r := r) (M := rt (tx z)) (S := zpr Z p) (f := zfee Z p) (tz := ztk Z p) hn (by unfold isM; exact (by repeat' first | assumption | exact up_eq _ _ _ | refine up_ne (by omega) ?_)) (isMR_mv a1 (by repeat' first | exact rfl | refine up_ne (by omega) ?_)) (isMP_mv a9 (fun j a b => by repeat' first | exact rfl | refine up_ne (by omega) ?_)) hB hA (by repeat' first | assumption | exact up_eq _ _ _ | refine up_ne (by omega) ?_) (by repeat' first | assumption | exact up_eq _ _ _ | refine up_ne (by omega) ?_) (by repeat' first | assumption | exact up_eq _ _ _ | refine up_ne (by omega) ?_) (by repeat' first | assumption | exact up_eq _ _ _ | refine up_ne (by omega) ?_) (by repeat' first | assumption | exact up_eq _ _ _ | refine up_ne (by omega) ?_) (by repeat' first | assumption | exact up_eq _ _ _ | refine up_ne (by omega) ?_) (by repeat' first | assumption | exact up_eq _ _ _ | refine up_ne (by omega) ?_) (by repeat' first | assumption | exact up_eq _ _ _ | refine up_ne (by omega) ?_) (by repeat' first | assumption | exact up_eq _ _ _ | refine up_ne (by omega) ?_) hp rfl hf rfl rfl (rt_lo h2) (rt_hi h2) hI hxf) Y_M_work m_813 s_M_work m_811 rfl rfl ⟨by decide, by decide⟩ ⟨by decide, by decide⟩ (fun h => nomatch h) d_M_swap_152 (by first | assumption | omega) (by repeat' first | assumption | exact up_eq _ _ _ | refine up_ne (by omega) ?_) rfl (Nat.le_of_ble_eq_true rfl) (fun ret sg152 hq => ?_)
      obtain ⟨rfl, e17, e18, e19, e20, e21, e22, eF⟩ := hq
      refine g_pick [2, 3, 4, 5] rfl ?_
      exact tail sg152 ((eF m (by omega)).trans (by repeat' first | assumption | exact up_eq _ _ _ | refine up_ne (by omega) ?_)) e17 e18 e19 e20 e21 e22 (fun j q => (eF j (by omega)).trans (by repeat' first | exact rfl | refine up_ne (by omega) ?_))
    · refine g_aload_n C rfl rfl d_M_swap_0 ?_
      refine g_iload_n C rfl rfl d_M_swap_1 ?_
      refine g_callS C (c_M_isOwner (nI a)) Y_M_isOwner m_726 m_725 ⟨by decide, by decide⟩ ⟨by decide, by decide⟩ (fun h => nomatch h) d_M_swap_2 rfl (Nat.le_of_ble_eq_true rfl) (fun ret sg2 hq => ?_)
      obtain ⟨rfl, rfl⟩ := hq
      refine g_if_eq (tgt := 23) C d_M_swap_5 (by decide) (fun j5 => ?_) (fun j5 => ?_)
      · exact absurd (j5.symm.trans (bzd (ok4 ha))) (by decide)
      refine g_iload_n C rfl rfl d_M_swap_8 ?_
      refine g_callS C (c_M_isPool (nI p)) Y_M_isPool m_744 m_743 ⟨by decide, by decide⟩ ⟨by decide, by decide⟩ (fun h => nomatch h) d_M_swap_9 rfl (Nat.le_of_ble_eq_true rfl) (fun ret sg9 hq => ?_)
      obtain ⟨rfl, rfl⟩ := hq
      refine g_if_eq (tgt := 23) C d_M_swap_12 (by decide) (fun j12 => ?_) (fun j12 => ?_)
      · exact absurd (j12.symm.trans (bzd (ok2 hp))) (by decide)
      refine g_iload C rfl d_M_swap_15 ?_
      refine g_callS C (c_M_isTick (iI z)) Y_M_isTick m_747 m_746 ⟨by decide, by decide⟩ ⟨by decide, by decide⟩ (fun h => nomatch h) d_M_swap_17 rfl (Nat.le_of_ble_eq_true rfl) (fun ret sg17 hq => ?_)
      obtain ⟨rfl, rfl⟩ := hq
      refine g_if_ne (tgt := 27) C d_M_swap_20 (by decide) (fun j20 => ?_) (fun j20 => ?_)
      rotate_left
      · exact absurd (j20.symm.trans (bzd (okT_i h1 h2))) (by decide)
      refine g_iconst (v := 0) C rfl d_M_swap_27 ?_
      refine pf_M_84 C d_M_swap_28 rfl rfl (by first | assumption | omega) (by repeat' first | assumption | exact up_eq _ _ _ | refine up_ne (by omega) ?_) (by exact Nat.le_of_ble_eq_true rfl) ?_
      refine g_aload_n C rfl rfl d_M_swap_31 ?_
      refine gf_M_84 C d_M_swap_32 (by first | assumption | omega) (by repeat' first | assumption | exact up_eq _ _ _ | refine up_ne (by omega) ?_) (by rfl) ?_
      refine g_if_le (tgt := 40) C d_M_swap_35 (by decide) (fun j35 => ?_) (fun j35 => ?_)
      rotate_left
      · exact absurd (by decide) j35
      refine g_aload_n C rfl rfl d_M_swap_40 ?_
      refine g_iload C rfl d_M_swap_41 ?_
      refine g_callV C (c_M_rootOf (th := 0) (la := zla Z) z hn (by unfold isM; exact (by repeat' first | assumption | exact up_eq _ _ _ | refine up_ne (by omega) ?_)) (isMR_mv a1 (by repeat' first | exact rfl | refine up_ne (by omega) ?_)) h1 h2) Y_M_rootOf m_761 s_M_rootOf m_759 rfl rfl ⟨by decide, by decide⟩ ⟨by decide, by decide⟩ (fun h => nomatch h) d_M_swap_43 (by first | assumption | omega) (by repeat' first | assumption | exact up_eq _ _ _ | refine up_ne (by omega) ?_) rfl (Nat.le_of_ble_eq_true rfl) (fun ret sg43 hq => ?_)
      obtain ⟨rfl, rfl⟩ := hq
      refine g_lstore (lv' := [(6, .long (lN (rt (tx z)))), (0, .ref (ad o m)), (1, .int (nI a)), (2, .int (nI p)), (3, .int (bz true)), (4, .int (nI r)), (5, .int (iI z))]) C d_M_swap_46 (by decide) rfl ?_
      refine g_iload_n C rfl rfl d_M_swap_48 ?_
      refine g_if_eq (tgt := 72) C d_M_swap_49 (by decide) (fun j49 => ?_) (fun j49 => ?_)
      · exact absurd j49 (by decide)
      refine g_lload C rfl d_M_swap_52 ?_
      refine g_aload_n C rfl rfl d_M_swap_54 ?_
      refine gf_M_26 C d_M_swap_55 (by first | assumption | omega) (by repeat' first | assumption | exact up_eq _ _ _ | refine up_ne (by omega) ?_) (by rfl) ?_
      refine g_iload_n C rfl rfl d_M_swap_58 ?_
      refine g_lald C d_M_swap_59 (by first | assumption | omega) (by repeat' first | assumption | exact up_eq _ _ _ | refine up_ne (by omega) ?_) hin ?_
      rw [hcl]
      refine g_lcmp_lt (tgt := 68) C d_M_swap_60 d_M_swap_61 (by decide) (fun j60 => ?_) (fun j60 => ?_)
      rotate_left
      · exact absurd ((pk_lLT hM3 hS3).mpr hMS) j60
      refine g_iconst (v := 0) C rfl d_M_swap_68 ?_
      refine g_goto (tgt := 89) C d_M_swap_69 (by decide) ?_
      refine g_istore (lv' := [(8, .int 0), (6, .long (lN (rt (tx z)))), (0, .ref (ad o m)), (1, .int (nI a)), (2, .int (nI p)), (3, .int (bz true)), (4, .int (nI r)), (5, .int (iI z))]) C d_M_swap_89 (by decide) rfl ?_
      refine g_iload C rfl d_M_swap_91 ?_
      refine g_if_eq (tgt := 115) C d_M_swap_93 (by decide) (fun j93 => ?_) (fun j93 => ?_)
      · exact absurd j93 g1
      refine g_iload C rfl d_M_swap_96 ?_
      refine g_ldc C m_809 d_M_swap_98 ?_
      refine g_icmp_lt (tgt := 115) C d_M_swap_100 (by decide) (fun j100 => ?_) (fun j100 => ?_)
      · exact absurd j100 g2
      refine g_iload C rfl d_M_swap_103 ?_
      refine g_ldc C m_810 d_M_swap_105 ?_
      refine g_icmp_gt (tgt := 115) C d_M_swap_107 (by decide) (fun j107 => ?_) (fun j107 => ?_)
      · exact absurd j107 g3
      refine g_iload C rfl d_M_swap_110 ?_
      refine g_if_eq (tgt := 122) C d_M_swap_112 (by decide) (fun j112 => ?_) (fun j112 => ?_)
      rotate_left
      · exact absurd rfl j112
      refine g_aload_n C rfl rfl d_M_swap_122 ?_
      refine g_iload_n C rfl rfl d_M_swap_123 ?_
      refine g_iload_n C rfl rfl d_M_swap_124 ?_
      refine g_iload C rfl d_M_swap_125 ?_
      refine g_if_le (tgt := 134) C d_M_swap_127 (by decide) (fun j127 => ?_) (fun j127 => ?_)
      · exact absurd j127 g4
      refine g_iconst (v := 1) C rfl d_M_swap_130 ?_
      refine g_goto (tgt := 135) C d_M_swap_131 (by decide) ?_
      refine g_iload C rfl d_M_swap_135 ?_
      refine g_if_le (tgt := 146) C d_M_swap_137 (by decide) (fun j137 => ?_) (fun j137 => ?_)
      · exact absurd j137 g4
      refine g_iload C rfl d_M_swap_140 ?_
      refine g_i2l C d_M_swap_142 ?_
      rw [hrl]
      refine g_goto (tgt := 150) C d_M_swap_143 (by decide) ?_
      refine g_lload C rfl d_M_swap_150 ?_
      refine g_callV C (c_M_work (t0 := 0) (la := zla Z) (th := zth Z) (ow := zow Z) (pl := zpl Z) (lo := zlo Z) (hi := zhi Z) (am := zam Z) (np := np) (ng := ng) (tk := tk) (gt := gt) (ri := ri) (pr := fun i => lN (zpr Z i)) (nt := nt) (tc := fun i => iI (ztk Z i)) (fee := zfee Z) (dn := true) (ex := true) (p := p) (r := r) (M := rt (tx z)) (S := zpr Z p) (f := zfee Z p) (tz := ztk Z p) hn (by unfold isM; exact (by repeat' first | assumption | exact up_eq _ _ _ | refine up_ne (by omega) ?_)) (isMR_mv a1 (by repeat' first | exact rfl | refine up_ne (by omega) ?_)) (isMP_mv a9 (fun j a b => by repeat' first | exact rfl | refine up_ne (by omega) ?_)) hB hA (by repeat' first | assumption | exact up_eq _ _ _ | refine up_ne (by omega) ?_) (by repeat' first | assumption | exact up_eq _ _ _ | refine up_ne (by omega) ?_) (by repeat' first | assumption | exact up_eq _ _ _ | refine up_ne (by omega) ?_) (by repeat' first | assumption | exact up_eq _ _ _ | refine up_ne (by omega) ?_) (by repeat' first | assumption | exact up_eq _ _ _ | refine up_ne (by omega) ?_) (by repeat' first | assumption | exact up_eq _ _ _ | refine up_ne (by omega) ?_) (by repeat' first | assumption | exact up_eq _ _ _ | refine up_ne (by omega) ?_) (by repeat' first | assumption | exact up_eq _ _ _ | refine up_ne (by omega) ?_) (by repeat' first | assumption | exact up_eq _ _ _ | refine up_ne (by omega) ?_) hp rfl hf rfl rfl (rt_lo h2) (rt_hi h2) hI hxf) Y_M_work m_813 s_M_work m_811 rfl rfl ⟨by decide, by decide⟩ ⟨by decide, by decide⟩ (fun h => nomatch h) d_M_swap_152 (by first | assumption | omega) (by repeat' first | assumption | exact up_eq _ _ _ | refine up_ne (by omega) ?_) rfl (Nat.le_of_ble_eq_true rfl) (fun ret sg152 hq => ?_)
      obtain ⟨rfl, e17, e18, e19, e20, e21, e22, eF⟩ := hq
      refine g_pick [2, 3, 4, 5] rfl ?_
      exact tail sg152 ((eF m (by omega)).trans (by repeat' first | assumption | exact up_eq _ _ _ | refine up_ne (by omega) ?_)) e17 e18 e19 e20 e21 e22 (fun j q => (eF j (by omega)).trans (by repeat' first | exact rfl | refine up_ne (by omega) ?_))

