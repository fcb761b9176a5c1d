-- MINT IN THE REFERENCE, GRANTED
set_option maxHeartbeats 8000000 in
theorem c_M_mint {l : Launch} {o n : Nat} {sg : Nat → va_E} {m : Nat} {t0 : Int32} {Z : ZS} (a p L : Nat) (lo hi : Int) (hn : m + 22 < n) (hW : MW sg o m t0 Z) (ha : a < 4) (hp : p < 2) (h1 : -40 ≤ lo) (hlh : lo < hi) (h2 : hi ≤ 40) (hL1 : 1 ≤ L) (hL : zHad Z (zFind Z (nI a) (nI p) (iI lo) (iI hi)) + L ≤ 50000000) (hT : TkOk (zpr Z p) (ztk Z p)) (q : Nat) (h3 : zPlace Z (zFind Z (nI a) (nI p) (iI lo) (iI hi)) = some q) (h4 : ¬ zbal Z (a * 3 + p) < lN (zWN true L (zpr Z p) (ztk Z p) lo hi)) (h5 : ¬ zbal Z (a * 3 + (p + 1)) < lN (zWF true L (zpr Z p) (ztk Z p) lo hi)) : GM l y_M_mint b_M_mint 15 (some .int) 5 126 0 0 o n n sg false [.ref (ad o m), .int (nI a), .int (nI p), .int (iI lo), .int (iI hi), .int (nI L)] (fun r0 s => some (.int (nI (zam Z q + L))) = r0 ∧ MW s o m 0 (zMint Z a p q L (zWN true L (zpr Z p) (ztk Z p) lo hi) (zWF true L (zpr Z p) (ztk Z p) lo hi) lo hi) ∧ mfr sg s m) := by
  have hm1 : sg m = _ := hW.1
  obtain ⟨a1, a2, a3, a4, a5, a6, a7, a8, a9, a10, a11⟩ := hW.2.1
  have a9x := a9.2.2.2.2.2
  have b1 := a9.1
  have b2 := a9.2.1
  have b3 := a9.2.2.1
  have b4 := a9.2.2.2.1
  have b5 := a9.2.2.2.2.1
  have hall : bPl (nI a) (nI p) (iI lo) (iI hi) = true := okPl_b ⟨ok4 ha, ok2 hp, okT_i h1 (by omega), okT_i (by omega) h2⟩
  have hLl : (nI L).toInt64 = lN L := nI_l (by omega)
  refine GM_of (by decide) (Nat.le_of_ble_eq_true rfl) ?_
  intro K C hl hz hr hnm E
  show G K o n sg 0 0 0 [(0, .ref (ad o m)), (1, .int (nI a)), (2, .int (nI p)), (3, .int (iI lo)), (4, .int (iI hi)), (5, .int (nI L))] []
  generalize hAe : (zWN true L (zpr Z p) (ztk Z p) lo hi) = A at *
  generalize hBe : (zWF true L (zpr Z p) (ztk Z p) lo hi) = B at *
  have tail : q < 12 → ∀ (s : Nat → va_E) (fa od : Nat → Int64), isM s o m 0 (zla Z) → s (m + 9) = eZ 12 (fun i => bz (zth (zMint Z a p q L A B lo hi) i)) → s (m + 10) = eI 12 (fun i => nI (updN (zow Z) q a i)) → s (m + 11) = eI 12 (fun i => nI (updN (zpl Z) q p i)) → s (m + 12) = eI 12 (fun i => iI (updZ (zlo Z) q lo i)) → s (m + 13) = eI 12 (fun i => iI (updZ (zhi Z) q hi i)) → s (m + 14) = eJ 12 (fun i => lN (zam Z i)) → s (m + 15) = eJ 24 fa → s (m + 16) = eJ 24 od → sFa fa q = sFa (zfa Z) q → sOd od fa (lN (zam Z q)) q = sOd (zod Z) (zfa Z) (lN (zam Z q)) q → (∀ j, j < m ∨ (m < j ∧ j < m + 9) ∨ m + 16 < j → s j = sg j) → G K o n s 0 0 274 [(0, .ref (ad o m)), (1, .int (nI a)), (2, .int (nI p)), (5, .int (nI L)), (9, .long (lN A)), (11, .long (lN B)), (13, .int (nI q))] [] := by
    intro hq s fa od s0 s9 s10 s11 s12 s13 s14 s15 s16 ef eo sF
    have cq : (nI q).toNatClampNeg = q := nI_clamp (by omega)
    have iq : vp_in (nI q) 12 := vp_in_nI hq (by decide)
    have s01 : s m = _ := s0
    refine g_aload_n C rfl rfl d_M_mint_274 ?_
    refine g_iload C rfl d_M_mint_275 ?_
    refine g_callV C (c_M_settle (t0 := 0) (la := zla Z) (am := fun i => lN (zam Z i)) q hn s0 s14 s15 s16 hq) Y_M_settle m_786 s_M_settle m_784 rfl rfl ⟨by decide, by decide⟩ ⟨by decide, by decide⟩ (fun h => nomatch h) d_M_mint_277 (by first | assumption | omega) (by repeat' first | assumption | exact up_eq _ _ _ | refine up_ne (by omega) ?_) rfl (Nat.le_of_ble_eq_true rfl) (fun ret sg277 hq => ?_)
    obtain ⟨rfl, e15, e16, eF⟩ := hq
    rw [ef] at e15
    rw [eo] at e16
    have em1 : sg277 m = _ := (eF m (by omega) (by omega)).trans s0
    have e2 := ((eF (m + 2) (by omega) (by omega)).trans (sF _ (by omega))).trans a2
    have e3 := ((eF (m + 3) (by omega) (by omega)).trans (sF _ (by omega))).trans a3
    have e4 := ((eF (m + 4) (by omega) (by omega)).trans (sF _ (by omega))).trans a4
    have e5 := ((eF (m + 5) (by omega) (by omega)).trans (sF _ (by omega))).trans a5
    have e6 := ((eF (m + 6) (by omega) (by omega)).trans (sF _ (by omega))).trans a6
    have e7 := ((eF (m + 7) (by omega) (by omega)).trans (sF _ (by omega))).trans a7
    have e8 := ((eF (m + 8) (by omega) (by omega)).trans (sF _ (by omega))).trans a8
    have e1 : isMR sg277 m := isMR_mv a1 ((eF (m + 1) (by omega) (by omega)).trans (sF _ (by omega)))
    have e9 := (eF (m + 9) (by omega) (by omega)).trans s9
    have e10 := (eF (m + 10) (by omega) (by omega)).trans s10
    have e11 := (eF (m + 11) (by omega) (by omega)).trans s11
    have e12 := (eF (m + 12) (by omega) (by omega)).trans s12
    have e13 := (eF (m + 13) (by omega) (by omega)).trans s13
    have e14 := (eF (m + 14) (by omega) (by omega)).trans s14
    refine g_aload_n C rfl rfl d_M_mint_280 ?_
    refine gf_M_51 C d_M_mint_281 (by first | assumption | omega) (by repeat' first | assumption | exact up_eq _ _ _ | refine up_ne (by omega) ?_) (by rfl) ?_
    refine g_iload C rfl d_M_mint_284 ?_
    refine g_dup2 C rfl rfl d_M_mint_286 ?_
    refine g_lald C d_M_mint_287 (by first | assumption | omega) (by repeat' first | assumption | exact up_eq _ _ _ | refine up_ne (by omega) ?_) iq ?_
    refine g_iload C rfl d_M_mint_288 ?_
    refine g_i2l C d_M_mint_290 ?_
    rw [hLl]
    refine g_ladd C d_M_mint_291 ?_
    refine g_last C d_M_mint_292 (by first | assumption | omega) (by repeat' first | assumption | exact up_eq _ _ _ | refine up_ne (by omega) ?_) iq ?_
    rw [cq, lN_add, updN_l]
    refine g_aload_n C rfl rfl d_M_mint_293 ?_
    refine g_iload_n C rfl rfl d_M_mint_294 ?_
    refine g_iload_n C rfl rfl d_M_mint_295 ?_
    refine g_lload C rfl d_M_mint_296 ?_
    refine g_callV C (c_M_pay (th := 0) (la := zla Z) (bal := zbal Z) (hol := zhol Z) a p (lN A) hn (by unfold isM; exact (by repeat' first | assumption | exact up_eq _ _ _ | refine up_ne (by omega) ?_)) (by repeat' first | assumption | exact up_eq _ _ _ | refine up_ne (by omega) ?_) (by repeat' first | assumption | exact up_eq _ _ _ | refine up_ne (by omega) ?_) ha (by omega)) Y_M_pay m_791 s_M_pay m_789 rfl rfl ⟨by decide, by decide⟩ ⟨by decide, by decide⟩ (fun h => nomatch h) d_M_mint_298 (by first | assumption | omega) (by repeat' first | assumption | exact up_eq _ _ _ | refine up_ne (by omega) ?_) rfl (Nat.le_of_ble_eq_true rfl) (fun ret sg298 hq => ?_)
    obtain ⟨rfl, rfl⟩ := hq
    refine g_aload_n C rfl rfl d_M_mint_301 ?_
    refine g_iload_n C rfl rfl d_M_mint_302 ?_
    refine g_iload_n C rfl rfl d_M_mint_303 ?_
    refine g_iconst (v := 1) C rfl d_M_mint_304 ?_
    refine g_iadd C d_M_mint_305 ?_
    rw [nI_1]
    refine g_lload C rfl d_M_mint_306 ?_
    refine g_callV C (c_M_pay (th := 0) (la := zla Z) (bal := vp_updL (zbal Z) (a * 3 + p) (zbal Z (a * 3 + p) - lN A)) (hol := vp_updL (zhol Z) p (zhol Z p + lN A)) a (p + 1) (lN B) hn (by unfold isM; exact (by repeat' first | assumption | exact up_eq _ _ _ | refine up_ne (by omega) ?_)) (by repeat' first | assumption | exact up_eq _ _ _ | refine up_ne (by omega) ?_) (by repeat' first | assumption | exact up_eq _ _ _ | refine up_ne (by omega) ?_) ha (by omega)) Y_M_pay m_791 s_M_pay m_789 rfl rfl ⟨by decide, by decide⟩ ⟨by decide, by decide⟩ (fun h => nomatch h) d_M_mint_308 (by first | assumption | omega) (by repeat' first | assumption | exact up_eq _ _ _ | refine up_ne (by omega) ?_) rfl (Nat.le_of_ble_eq_true rfl) (fun ret sg308 hq => ?_)
    obtain ⟨rfl, rfl⟩ := hq
    refine g_aload_n C rfl rfl d_M_mint_311 ?_
    refine gf_M_51 C d_M_mint_312 (by first | assumption | omega) (by repeat' first | assumption | exact up_eq _ _ _ | refine up_ne (by omega) ?_) (by rfl) ?_
    refine g_iload C rfl d_M_mint_315 ?_
    refine g_lald C d_M_mint_317 (by first | assumption | omega) (by repeat' first | assumption | exact up_eq _ _ _ | refine up_ne (by omega) ?_) iq ?_
    rw [cq, updN_s]
    refine g_l2i C d_M_mint_318 ?_
    rw [lN_i]
    refine g_iret C E hr d_M_mint_319 ?_
    exact ⟨rfl, ⟨by unfold isM; exact (by repeat' first | assumption | exact up_eq _ _ _ | refine up_ne (by omega) ?_), ⟨isMR_mv e1 (by repeat' first | exact rfl | refine up_ne (by omega) ?_), (by repeat' first | assumption | exact up_eq _ _ _ | refine up_ne (by omega) ?_), (by repeat' first | assumption | exact up_eq _ _ _ | refine up_ne (by omega) ?_), (by repeat' first | assumption | exact up_eq _ _ _ | refine up_ne (by omega) ?_), (by repeat' first | assumption | exact up_eq _ _ _ | refine up_ne (by omega) ?_), (by repeat' first | assumption | exact up_eq _ _ _ | refine up_ne (by omega) ?_), (by repeat' first | assumption | exact up_eq _ _ _ | refine up_ne (by omega) ?_), (by repeat' first | assumption | exact up_eq _ _ _ | refine up_ne (by omega) ?_), ⟨(by repeat' first | assumption | exact up_eq _ _ _ | refine up_ne (by omega) ?_), (by repeat' first | assumption | exact up_eq _ _ _ | refine up_ne (by omega) ?_), (by repeat' first | assumption | exact up_eq _ _ _ | refine up_ne (by omega) ?_), (by repeat' first | assumption | exact up_eq _ _ _ | refine up_ne (by omega) ?_), (by repeat' first | assumption | exact up_eq _ _ _ | refine up_ne (by omega) ?_), (by repeat' first | assumption | exact up_eq _ _ _ | refine up_ne (by omega) ?_)⟩, (by repeat' first | assumption | exact up_eq _ _ _ | refine up_ne (by omega) ?_), (by repeat' first | assumption | exact up_eq _ _ _ | refine up_ne (by omega) ?_)⟩, MX_mv hW.2.2 (fun j a b => by repeat' first | exact (eF j (by omega) (by omega)).trans (sF j (by omega)) | refine up_ne (by omega) ?_)⟩, fun j a => by repeat' first | exact (eF j (by omega) (by omega)).trans (sF j (by omega)) | refine up_ne (by omega) ?_⟩
  rcases opt_or (zFind Z (nI a) (nI p) (iI lo) (iI hi)) with e | ⟨k, e⟩
  · rw [e] at hL h3
    have hL : 0 + L ≤ 50000000 := hL
    have e2 : fnd (fun i => !zth Z i) 12 = some q := h3
    have hq := (fnd_some e2).1
    have hnt : zth Z q = false := by have z := (fnd_some e2).2; exact (Bool.not_eq_true' _).mp z
    obtain ⟨z1, z2, z3⟩ := swB_f hnt
    have cq : (nI q).toNatClampNeg = q := nI_clamp (by omega)
    have iq : vp_in (nI q) 12 := vp_in_nI hq (by decide)
    have c0 : (nI (2 * q)).toNatClampNeg = 2 * q := nI_clamp (by omega)
    have c1 : (nI (2 * q + 1)).toNatClampNeg = 2 * q + 1 := nI_clamp (by omega)
    have i0 : vp_in (nI (2 * q)) 24 := vp_in_nI (by omega) (by decide)
    have i1 : vp_in (nI (2 * q + 1)) 24 := vp_in_nI (by omega) (by decide)
    have q2 : nI (2 * q) + 2 = nI (2 * q + 2) := nI_add _ 2
    refine g_aload_n C rfl rfl d_M_mint_0 ?_
    refine g_iconst (v := 0) C rfl d_M_mint_1 ?_
    refine pf_M_84 C d_M_mint_2 rfl rfl (by first | assumption | omega) (by repeat' first | assumption | exact up_eq _ _ _ | refine up_ne (by omega) ?_) (by exact Nat.le_of_ble_eq_true rfl) ?_
    refine g_iload_n C rfl rfl d_M_mint_5 ?_
    refine g_iload_n C rfl rfl d_M_mint_6 ?_
    refine g_iload_n C rfl rfl d_M_mint_7 ?_
    refine g_iload C rfl d_M_mint_8 ?_
    refine g_callS C (c_M_all (nI a) (nI p) (iI lo) (iI hi)) Y_M_all m_741 m_740 ⟨by decide, by decide⟩ ⟨by decide, by decide⟩ (fun h => nomatch h) d_M_mint_10 rfl (Nat.le_of_ble_eq_true rfl) (fun ret sg10 hq => ?_)
    obtain ⟨rfl, rfl⟩ := hq
    refine g_if_ne (tgt := 23) C d_M_mint_13 (by decide) (fun j13 => ?_) (fun j13 => ?_)
    rotate_left
    · exact absurd (j13.symm.trans (by rw [hall]; rfl)) (show ¬ (0 : Int32) = 1 by decide)
    refine g_aload_n C rfl rfl d_M_mint_23 ?_
    refine g_iload_n C rfl rfl d_M_mint_24 ?_
    refine g_iload_n C rfl rfl d_M_mint_25 ?_
    refine g_iload_n C rfl rfl d_M_mint_26 ?_
    refine g_iload C rfl d_M_mint_27 ?_
    refine g_callV C (c_M_find (t0 := 0) (la := zla Z) (th := zth Z) (ow := zow Z) (pl := zpl Z) (lo := zlo Z) (hi := zhi Z) (am := zam Z) (nI a) (nI p) (iI lo) (iI hi) hn (by unfold isM; exact (by repeat' first | assumption | exact up_eq _ _ _ | refine up_ne (by omega) ?_)) (isMP_mv a9 (fun j a b => by repeat' first | exact rfl | refine up_ne (by omega) ?_))) Y_M_find m_751 s_M_find m_749 rfl rfl ⟨by decide, by decide⟩ ⟨by decide, by decide⟩ (fun h => nomatch h) d_M_mint_29 (by first | assumption | omega) (by repeat' first | assumption | exact up_eq _ _ _ | refine up_ne (by omega) ?_) rfl (Nat.le_of_ble_eq_true rfl) (fun ret sg29 hq => ?_)
    obtain ⟨rfl, rfl⟩ := hq
    rw [show fnd (mIs (zth Z) (zow Z) (zpl Z) (zlo Z) (zhi Z) (nI a) (nI p) (iI lo) (iI hi)) 12 = none from e]
    refine g_istore (lv' := [(6, .int (-1)), (0, .ref (ad o m)), (1, .int (nI a)), (2, .int (nI p)), (3, .int (iI lo)), (4, .int (iI hi)), (5, .int (nI L))]) C d_M_mint_32 (by decide) rfl ?_
    refine g_iload C rfl d_M_mint_34 ?_
    refine g_if_ge (tgt := 43) C d_M_mint_36 (by decide) (fun j36 => ?_) (fun j36 => ?_)
    · exact absurd j36 (by decide)
    refine g_lconst (v := 0) C rfl d_M_mint_39 ?_
    refine g_goto (tgt := 50) C d_M_mint_40 (by decide) ?_
    refine g_lstore (lv' := [(7, .long (lN 0)), (6, .int (-1)), (0, .ref (ad o m)), (1, .int (nI a)), (2, .int (nI p)), (3, .int (iI lo)), (4, .int (iI hi)), (5, .int (nI L))]) C d_M_mint_50 (by decide) rfl ?_
    refine g_iload_n C rfl rfl d_M_mint_52 ?_
    refine g_iload C rfl d_M_mint_53 ?_
    refine g_icmp_ge (tgt := 84) C d_M_mint_55 (by decide) (fun j55 => ?_) (fun j55 => ?_)
    · exact absurd ((iI_le (by omega) (by omega) (by omega) (by omega)).mp j55) (by omega)
    refine g_iload C rfl d_M_mint_58 ?_
    refine g_iconst (v := 1) C rfl d_M_mint_60 ?_
    refine g_icmp_lt (tgt := 84) C d_M_mint_61 (by decide) (fun j61 => ?_) (fun j61 => ?_)
    · exact absurd j61 (nI_nlt (b := 1) hL1 (by omega))
    refine g_iload C rfl d_M_mint_64 ?_
    refine g_ldc C m_753 d_M_mint_66 ?_
    refine g_icmp_gt (tgt := 84) C d_M_mint_68 (by decide) (fun j68 => ?_) (fun j68 => ?_)
    · exact absurd j68 (nI_nlt (a := 50000000) (by omega) (by decide))
    refine g_lload C rfl d_M_mint_71 ?_
    refine g_iload C rfl d_M_mint_73 ?_
    refine g_i2l C d_M_mint_75 ?_
    rw [hLl]
    refine g_ladd C d_M_mint_76 ?_
    refine g_ldc2 C m_754 d_M_mint_77 ?_
    rw [lN_add]
    refine g_lcmp_le (tgt := 91) C d_M_mint_80 d_M_mint_81 (by decide) (fun j80 => ?_) (fun j80 => ?_)
    rotate_left
    · exact absurd ((pk_lLE (b := 50000000) (by omega) (by decide)).mpr hL) j80
    refine g_aload_n C rfl rfl d_M_mint_91 ?_
    refine g_iload_n C rfl rfl d_M_mint_92 ?_
    refine g_iload_n C rfl rfl d_M_mint_93 ?_
    refine g_iload C rfl d_M_mint_94 ?_
    refine g_iload C rfl d_M_mint_96 ?_
    refine g_i2l C d_M_mint_98 ?_
    rw [hLl]
    refine g_iconst (v := 1) C rfl d_M_mint_99 ?_
    refine g_callV C (c_M_worthNear (t0 := 0) (la := zla Z) (pr := zpr Z) (tk := ztk Z) true p L lo hi hn (by unfold isM; exact (by repeat' first | assumption | exact up_eq _ _ _ | refine up_ne (by omega) ?_)) (isMR_mv a1 (by repeat' first | exact rfl | refine up_ne (by omega) ?_)) (by repeat' first | assumption | exact up_eq _ _ _ | refine up_ne (by omega) ?_) (by repeat' first | assumption | exact up_eq _ _ _ | refine up_ne (by omega) ?_) hp h1 hlh h2 hT.1 hT.2.1 (by have := hT.2.2.1; omega) (fun q1 q2 => tk_hi hT q1 q2 h2) (by omega)) Y_M_worthNear m_757 s_M_worthNear m_755 rfl rfl ⟨by decide, by decide⟩ ⟨by decide, by decide⟩ (fun h => nomatch h) d_M_mint_100 (by first | assumption | omega) (by repeat' first | assumption | exact up_eq _ _ _ | refine up_ne (by omega) ?_) rfl (Nat.le_of_ble_eq_true rfl) (fun ret sg100 hq => ?_)
    obtain ⟨rfl, rfl⟩ := hq
    rw [hAe]
    refine g_lstore (lv' := [(9, .long (lN A)), (7, .long (lN 0)), (6, .int (-1)), (0, .ref (ad o m)), (1, .int (nI a)), (2, .int (nI p)), (3, .int (iI lo)), (4, .int (iI hi)), (5, .int (nI L))]) C d_M_mint_103 (by decide) rfl ?_
    refine g_aload_n C rfl rfl d_M_mint_105 ?_
    refine g_iload_n C rfl rfl d_M_mint_106 ?_
    refine g_iload_n C rfl rfl d_M_mint_107 ?_
    refine g_iload C rfl d_M_mint_108 ?_
    refine g_iload C rfl d_M_mint_110 ?_
    refine g_i2l C d_M_mint_112 ?_
    rw [hLl]
    refine g_iconst (v := 1) C rfl d_M_mint_113 ?_
    refine g_callV C (c_M_worthFar (t0 := 0) (la := zla Z) (pr := zpr Z) (tk := ztk Z) true p L lo hi hn (by unfold isM; exact (by repeat' first | assumption | exact up_eq _ _ _ | refine up_ne (by omega) ?_)) (isMR_mv a1 (by repeat' first | exact rfl | refine up_ne (by omega) ?_)) (by repeat' first | assumption | exact up_eq _ _ _ | refine up_ne (by omega) ?_) (by repeat' first | assumption | exact up_eq _ _ _ | refine up_ne (by omega) ?_) hp h1 hlh h2 hT.1 hT.2.1 (by have := hT.2.2.2.1; omega) (fun q1 q2 => tk_lo hT h1 q1) (by omega)) Y_M_worthFar m_775 s_M_worthFar m_773 rfl rfl ⟨by decide, by decide⟩ ⟨by decide, by decide⟩ (fun h => nomatch h) d_M_mint_114 (by first | assumption | omega) (by repeat' first | assumption | exact up_eq _ _ _ | refine up_ne (by omega) ?_) rfl (Nat.le_of_ble_eq_true rfl) (fun ret sg114 hq => ?_)
    obtain ⟨rfl, rfl⟩ := hq
    rw [hBe]
    refine g_lstore (lv' := [(11, .long (lN B)), (9, .long (lN A)), (7, .long (lN 0)), (6, .int (-1)), (0, .ref (ad o m)), (1, .int (nI a)), (2, .int (nI p)), (3, .int (iI lo)), (4, .int (iI hi)), (5, .int (nI L))]) C d_M_mint_117 (by decide) rfl ?_
    refine g_iload C rfl d_M_mint_119 ?_
    refine g_if_ge (tgt := 131) C d_M_mint_121 (by decide) (fun j121 => ?_) (fun j121 => ?_)
    · exact absurd j121 (by decide)
    refine g_aload_n C rfl rfl d_M_mint_124 ?_
    refine g_callV C (c_M_free (t0 := 0) (la := zla Z) (th := zth Z) (ow := zow Z) (pl := zpl Z) (lo := zlo Z) (hi := zhi Z) (am := zam Z) hn (by unfold isM; exact (by repeat' first | assumption | exact up_eq _ _ _ | refine up_ne (by omega) ?_)) (isMP_mv a9 (fun j a b => by repeat' first | exact rfl | refine up_ne (by omega) ?_))) Y_M_free m_782 s_M_free m_780 rfl rfl ⟨by decide, by decide⟩ ⟨by decide, by decide⟩ (fun h => nomatch h) d_M_mint_125 (by first | assumption | omega) (by repeat' first | assumption | exact up_eq _ _ _ | refine up_ne (by omega) ?_) rfl (Nat.le_of_ble_eq_true rfl) (fun ret sg125 hq => ?_)
    obtain ⟨rfl, rfl⟩ := hq
    rw [show fnd (fun i => !zth Z i) 12 = some q from e2]
    refine g_goto (tgt := 133) C d_M_mint_128 (by decide) ?_
    refine g_istore (lv' := [(13, .int (nI q)), (11, .long (lN B)), (9, .long (lN A)), (7, .long (lN 0)), (6, .int (-1)), (0, .ref (ad o m)), (1, .int (nI a)), (2, .int (nI p)), (3, .int (iI lo)), (4, .int (iI hi)), (5, .int (nI L))]) C d_M_mint_133 (by decide) rfl ?_
    refine g_iload C rfl d_M_mint_135 ?_
    refine g_if_lt (tgt := 174) C d_M_mint_137 (by decide) (fun j137 => ?_) (fun j137 => ?_)
    · exact absurd j137 (nI_pos (by omega))
    refine g_aload_n C rfl rfl d_M_mint_140 ?_
    refine gf_M_13 C d_M_mint_141 (by first | assumption | omega) (by repeat' first | assumption | exact up_eq _ _ _ | refine up_ne (by omega) ?_) (by rfl) ?_
    refine g_iconst (v := 3) C rfl d_M_mint_144 ?_
    refine g_iload_n C rfl rfl d_M_mint_145 ?_
    refine g_imul C d_M_mint_146 ?_
    refine g_iload_n C rfl rfl d_M_mint_147 ?_
    refine g_iadd C d_M_mint_148 ?_
    rw [show (3 : Int32) = nI 3 from rfl, pk_mul, nI_add, Nat.mul_comm 3 a]
    refine g_lald C d_M_mint_149 (by first | assumption | omega) (by repeat' first | assumption | exact up_eq _ _ _ | refine up_ne (by omega) ?_) (vp_in_nI (by omega) (by decide)) ?_
    rw [nI_clamp (n := a * 3 + p) (by omega)]
    refine g_lload C rfl d_M_mint_150 ?_
    refine g_lcmp_lt (tgt := 174) C d_M_mint_152 d_M_mint_153 (by decide) (fun j152 => ?_) (fun j152 => ?_)
    · exact absurd j152 h4
    refine g_aload_n C rfl rfl d_M_mint_156 ?_
    refine gf_M_13 C d_M_mint_157 (by first | assumption | omega) (by repeat' first | assumption | exact up_eq _ _ _ | refine up_ne (by omega) ?_) (by rfl) ?_
    refine g_iconst (v := 3) C rfl d_M_mint_160 ?_
    refine g_iload_n C rfl rfl d_M_mint_161 ?_
    refine g_imul C d_M_mint_162 ?_
    refine g_iload_n C rfl rfl d_M_mint_163 ?_
    refine g_iadd C d_M_mint_164 ?_
    refine g_iconst (v := 1) C rfl d_M_mint_165 ?_
    refine g_iadd C d_M_mint_166 ?_
    rw [show (3 : Int32) = nI 3 from rfl, pk_mul, nI_add, nI_1, Nat.mul_comm 3 a]
    refine g_lald C d_M_mint_167 (by first | assumption | omega) (by repeat' first | assumption | exact up_eq _ _ _ | refine up_ne (by omega) ?_) (vp_in_nI (by omega) (by decide)) ?_
    rw [nI_clamp (n := a * 3 + p + 1) (by omega)]
    refine g_lload C rfl d_M_mint_168 ?_
    refine g_lcmp_ge (tgt := 181) C d_M_mint_170 d_M_mint_171 (by decide) (fun j170 => ?_) (fun j170 => ?_)
    rotate_left
    · exact absurd (Int64.not_lt.mp h5) j170
    refine g_iload C rfl d_M_mint_181 ?_
    refine g_if_ge (tgt := 274) C d_M_mint_183 (by decide) (fun j183 => ?_) (fun j183 => ?_)
    · exact absurd j183 (by decide)
    refine g_aload_n C rfl rfl d_M_mint_186 ?_
    refine gf_M_35 C d_M_mint_187 (by first | assumption | omega) (by repeat' first | assumption | exact up_eq _ _ _ | refine up_ne (by omega) ?_) (by rfl) ?_
    refine g_iload C rfl d_M_mint_190 ?_
    refine g_iconst (v := 1) C rfl d_M_mint_192 ?_
    refine g_zast C d_M_mint_193 (by first | assumption | omega) (by repeat' first | assumption | exact up_eq _ _ _ | refine up_ne (by omega) ?_) iq rfl ?_
    rw [cq, show (1 : Int32) = bz true from rfl, updB_z]
    refine g_aload_n C rfl rfl d_M_mint_194 ?_
    refine gf_M_39 C d_M_mint_195 (by first | assumption | omega) (by repeat' first | assumption | exact up_eq _ _ _ | refine up_ne (by omega) ?_) (by rfl) ?_
    refine g_iload C rfl d_M_mint_198 ?_
    refine g_iload_n C rfl rfl d_M_mint_200 ?_
    refine g_iast C d_M_mint_201 (by first | assumption | omega) (by repeat' first | assumption | exact up_eq _ _ _ | refine up_ne (by omega) ?_) iq ?_
    rw [cq, updN_i]
    refine g_aload_n C rfl rfl d_M_mint_202 ?_
    refine gf_M_42 C d_M_mint_203 (by first | assumption | omega) (by repeat' first | assumption | exact up_eq _ _ _ | refine up_ne (by omega) ?_) (by rfl) ?_
    refine g_iload C rfl d_M_mint_206 ?_
    refine g_iload_n C rfl rfl d_M_mint_208 ?_
    refine g_iast C d_M_mint_209 (by first | assumption | omega) (by repeat' first | assumption | exact up_eq _ _ _ | refine up_ne (by omega) ?_) iq ?_
    rw [cq, updN_i]
    refine g_aload_n C rfl rfl d_M_mint_210 ?_
    refine gf_M_45 C d_M_mint_211 (by first | assumption | omega) (by repeat' first | assumption | exact up_eq _ _ _ | refine up_ne (by omega) ?_) (by rfl) ?_
    refine g_iload C rfl d_M_mint_214 ?_
    refine g_iload_n C rfl rfl d_M_mint_216 ?_
    refine g_iast C d_M_mint_217 (by first | assumption | omega) (by repeat' first | assumption | exact up_eq _ _ _ | refine up_ne (by omega) ?_) iq ?_
    rw [cq, updZ_i]
    refine g_aload_n C rfl rfl d_M_mint_218 ?_
    refine gf_M_48 C d_M_mint_219 (by first | assumption | omega) (by repeat' first | assumption | exact up_eq _ _ _ | refine up_ne (by omega) ?_) (by rfl) ?_
    refine g_iload C rfl d_M_mint_222 ?_
    refine g_iload C rfl d_M_mint_224 ?_
    refine g_iast C d_M_mint_226 (by first | assumption | omega) (by repeat' first | assumption | exact up_eq _ _ _ | refine up_ne (by omega) ?_) iq ?_
    rw [cq, updZ_i]
    refine g_aload_n C rfl rfl d_M_mint_227 ?_
    refine gf_M_51 C d_M_mint_228 (by first | assumption | omega) (by repeat' first | assumption | exact up_eq _ _ _ | refine up_ne (by omega) ?_) (by rfl) ?_
    refine g_iload C rfl d_M_mint_231 ?_
    refine g_lconst (v := 0) C rfl d_M_mint_233 ?_
    refine g_last C d_M_mint_234 (by first | assumption | omega) (by repeat' first | assumption | exact up_eq _ _ _ | refine up_ne (by omega) ?_) iq ?_
    rw [cq, show (0 : Int64) = lN (zam Z q) from by rw [z1]; rfl, updN_l, show updN (zam Z) q (zam Z q) = zam Z from by (funext j; by_cases g : j = q; subst g; exact updN_s; exact updN_n g)]
    refine g_iconst (v := 2) C rfl d_M_mint_235 ?_
    refine g_iload C rfl d_M_mint_236 ?_
    refine g_imul C d_M_mint_238 ?_
    rw [two_k]
    refine g_istore (lv' := [(14, .int (nI (2 * q))), (13, .int (nI q)), (11, .long (lN B)), (9, .long (lN A)), (7, .long (lN 0)), (6, .int (-1)), (0, .ref (ad o m)), (1, .int (nI a)), (2, .int (nI p)), (3, .int (iI lo)), (4, .int (iI hi)), (5, .int (nI L))]) C d_M_mint_239 (by decide) rfl ?_
    refine g_iload C rfl d_M_mint_241 ?_
    refine g_iconst (v := 2) C rfl d_M_mint_243 ?_
    refine g_iload C rfl d_M_mint_244 ?_
    refine g_imul C d_M_mint_246 ?_
    refine g_iconst (v := 2) C rfl d_M_mint_247 ?_
    refine g_iadd C d_M_mint_248 ?_
    rw [two_k, q2]
    refine g_icmp_ge (tgt := 274) C d_M_mint_249 (by decide) (fun j249 => ?_) (fun j249 => ?_)
    · exact absurd j249 (nI_ge (by omega) (by omega))
    refine g_aload_n C rfl rfl d_M_mint_252 ?_
    refine gf_M_54 C d_M_mint_253 (by first | assumption | omega) (by repeat' first | assumption | exact up_eq _ _ _ | refine up_ne (by omega) ?_) (by rfl) ?_
    refine g_iload C rfl d_M_mint_256 ?_
    refine g_lconst (v := 0) C rfl d_M_mint_258 ?_
    refine g_last C d_M_mint_259 (by first | assumption | omega) (by repeat' first | assumption | exact up_eq _ _ _ | refine up_ne (by omega) ?_) i0 ?_
    refine g_aload_n C rfl rfl d_M_mint_260 ?_
    refine gf_M_57 C d_M_mint_261 (by first | assumption | omega) (by repeat' first | assumption | exact up_eq _ _ _ | refine up_ne (by omega) ?_) (by rfl) ?_
    refine g_iload C rfl d_M_mint_264 ?_
    refine g_lconst (v := 0) C rfl d_M_mint_266 ?_
    refine g_last C d_M_mint_267 (by first | assumption | omega) (by repeat' first | assumption | exact up_eq _ _ _ | refine up_ne (by omega) ?_) i0 ?_
    obtain ⟨y1, e_y1⟩ : ∃ y : Int32, ((nI (2 * q))) + Int32.ofInt 1 = y := ⟨_, rfl⟩
    refine g_iinc (lv' := [(14, .int y1), (13, .int (nI q)), (11, .long (lN B)), (9, .long (lN A)), (7, .long (lN 0)), (6, .int (-1)), (0, .ref (ad o m)), (1, .int (nI a)), (2, .int (nI p)), (3, .int (iI lo)), (4, .int (iI hi)), (5, .int (nI L))]) C d_M_mint_268 rfl e_y1 (by decide) rfl ?_
    refine g_goto (tgt := 241) C d_M_mint_271 (by decide) ?_
    have hy1 : y1 = nI (2 * q + 1) := by rw [← e_y1]; exact nI_1 _
    have j1 : vp_in y1 24 := hy1 ▸ i1
    refine g_iload C rfl d_M_mint_241 ?_
    refine g_iconst (v := 2) C rfl d_M_mint_243 ?_
    refine g_iload C rfl d_M_mint_244 ?_
    refine g_imul C d_M_mint_246 ?_
    refine g_iconst (v := 2) C rfl d_M_mint_247 ?_
    refine g_iadd C d_M_mint_248 ?_
    rw [two_k, q2]
    refine g_icmp_ge (tgt := 274) C d_M_mint_249 (by decide) (fun j249_2 => ?_) (fun j249_2 => ?_)
    · exact absurd j249_2 (by rw [hy1]; exact nI_ge (by omega) (by omega))
    refine g_aload_n C rfl rfl d_M_mint_252 ?_
    refine gf_M_54 C d_M_mint_253 (by first | assumption | omega) (by repeat' first | assumption | exact up_eq _ _ _ | refine up_ne (by omega) ?_) (by rfl) ?_
    refine g_iload C rfl d_M_mint_256 ?_
    refine g_lconst (v := 0) C rfl d_M_mint_258 ?_
    refine g_last C d_M_mint_259 (by first | assumption | omega) (by repeat' first | assumption | exact up_eq _ _ _ | refine up_ne (by omega) ?_) j1 ?_
    refine g_aload_n C rfl rfl d_M_mint_260 ?_
    refine gf_M_57 C d_M_mint_261 (by first | assumption | omega) (by repeat' first | assumption | exact up_eq _ _ _ | refine up_ne (by omega) ?_) (by rfl) ?_
    refine g_iload C rfl d_M_mint_264 ?_
    refine g_lconst (v := 0) C rfl d_M_mint_266 ?_
    refine g_last C d_M_mint_267 (by first | assumption | omega) (by repeat' first | assumption | exact up_eq _ _ _ | refine up_ne (by omega) ?_) j1 ?_
    obtain ⟨y2, e_y2⟩ : ∃ y : Int32, (y1) + Int32.ofInt 1 = y := ⟨_, rfl⟩
    refine g_iinc (lv' := [(14, .int y2), (13, .int (nI q)), (11, .long (lN B)), (9, .long (lN A)), (7, .long (lN 0)), (6, .int (-1)), (0, .ref (ad o m)), (1, .int (nI a)), (2, .int (nI p)), (3, .int (iI lo)), (4, .int (iI hi)), (5, .int (nI L))]) C d_M_mint_268 rfl e_y2 (by decide) rfl ?_
    refine g_goto (tgt := 241) C d_M_mint_271 (by decide) ?_
    have hy2 : y2 = nI (2 * q + 2) := by rw [← e_y2, hy1]; exact nI_1 _
    refine g_iload C rfl d_M_mint_241 ?_
    refine g_iconst (v := 2) C rfl d_M_mint_243 ?_
    refine g_iload C rfl d_M_mint_244 ?_
    refine g_imul C d_M_mint_246 ?_
    refine g_iconst (v := 2) C rfl d_M_mint_247 ?_
    refine g_iadd C d_M_mint_248 ?_
    rw [two_k, q2]
    refine g_icmp_ge (tgt := 274) C d_M_mint_249 (by decide) (fun j249_3 => ?_) (fun j249_3 => ?_)
    rotate_left
    · exact absurd (by rw [hy2]; exact nI_le (by omega) (by omega)) j249_3
    refine g_pick [6, 7, 8, 11, 3, 2, 1] rfl ?_
    refine tail hq _ _ _ (by unfold isM; exact (by repeat' first | assumption | exact up_eq _ _ _ | refine up_ne (by omega) ?_)) ?_ (by repeat' first | assumption | exact up_eq _ _ _ | refine up_ne (by omega) ?_) (by repeat' first | assumption | exact up_eq _ _ _ | refine up_ne (by omega) ?_) (by repeat' first | assumption | exact up_eq _ _ _ | refine up_ne (by omega) ?_) (by repeat' first | assumption | exact up_eq _ _ _ | refine up_ne (by omega) ?_) (by repeat' first | assumption | exact up_eq _ _ _ | refine up_ne (by omega) ?_) (by repeat' first | assumption | exact up_eq _ _ _ | refine up_ne (by omega) ?_) (by repeat' first | assumption | exact up_eq _ _ _ | refine up_ne (by omega) ?_) ?_ ?_ (fun j a => by repeat' first | exact rfl | refine up_ne (by omega) ?_)
    · rw [← th_mint hL1]; exact (by repeat' first | assumption | exact up_eq _ _ _ | refine up_ne (by omega) ?_)
    · refine sFa_sFa (fun i g1 g2 => ?_)
      rw [hy1, c1, c0, pk_unL g2, pk_unL g1]
    · rw [show lN (zam Z q) = 0 from by rw [z1]; rfl]
      refine sOd_0 (fun i g1 g2 => ?_) ?_ ?_
      · rw [hy1, c1, c0, pk_unL g2, pk_unL g1]
      · rw [hy1, c1, c0, pk_unL (show 2 * q ≠ 2 * q + 1 by omega), pk_usL, z2]
      · rw [hy1, c1, pk_usL, z3]
  · rw [e] at hL h3
    have hL : zam Z k + L ≤ 50000000 := hL
    have hkq : k = q := Option.some.inj h3
    subst hkq
    have hk := (fnd_some e).1
    have hmi := (fnd_some e).2
    obtain ⟨g1, g2⟩ := Bool.and_eq_true_iff.mp (show (zth Z k && _) = true from hmi)
    obtain ⟨g3, g4, g5, g6⟩ := of_decide_eq_true g2
    have ck : (nI k).toNatClampNeg = k := nI_clamp (by omega)
    have ik : vp_in (nI k) 12 := vp_in_nI hk (by decide)
    refine g_aload_n C rfl rfl d_M_mint_0 ?_
    refine g_iconst (v := 0) C rfl d_M_mint_1 ?_
    refine pf_M_84 C d_M_mint_2 rfl rfl (by first | assumption | omega) (by repeat' first | assumption | exact up_eq _ _ _ | refine up_ne (by omega) ?_) (by exact Nat.le_of_ble_eq_true rfl) ?_
    refine g_iload_n C rfl rfl d_M_mint_5 ?_
    refine g_iload_n C rfl rfl d_M_mint_6 ?_
    refine g_iload_n C rfl rfl d_M_mint_7 ?_
    refine g_iload C rfl d_M_mint_8 ?_
    refine g_callS C (c_M_all (nI a) (nI p) (iI lo) (iI hi)) Y_M_all m_741 m_740 ⟨by decide, by decide⟩ ⟨by decide, by decide⟩ (fun h => nomatch h) d_M_mint_10 rfl (Nat.le_of_ble_eq_true rfl) (fun ret sg10 hq => ?_)
    obtain ⟨rfl, rfl⟩ := hq
    refine g_if_ne (tgt := 23) C d_M_mint_13 (by decide) (fun j13 => ?_) (fun j13 => ?_)
    rotate_left
    · exact absurd (j13.symm.trans (by rw [hall]; rfl)) (show ¬ (0 : Int32) = 1 by decide)
    refine g_aload_n C rfl rfl d_M_mint_23 ?_
    refine g_iload_n C rfl rfl d_M_mint_24 ?_
    refine g_iload_n C rfl rfl d_M_mint_25 ?_
    refine g_iload_n C rfl rfl d_M_mint_26 ?_
    refine g_iload C rfl d_M_mint_27 ?_
    refine g_callV C (c_M_find (t0 := 0) (la := zla Z) (th := zth Z) (ow := zow Z) (pl := zpl Z) (lo := zlo Z) (hi := zhi Z) (am := zam Z) (nI a) (nI p) (iI lo) (iI hi) hn (by unfold isM; exact (by repeat' first | assumption | exact up_eq _ _ _ | refine up_ne (by omega) ?_)) (isMP_mv a9 (fun j a b => by repeat' first | exact rfl | refine up_ne (by omega) ?_))) Y_M_find m_751 s_M_find m_749 rfl rfl ⟨by decide, by decide⟩ ⟨by decide, by decide⟩ (fun h => nomatch h) d_M_mint_29 (by first | assumption | omega) (by repeat' first | assumption | exact up_eq _ _ _ | refine up_ne (by omega) ?_) rfl (Nat.le_of_ble_eq_true rfl) (fun ret sg29 hq => ?_)
    obtain ⟨rfl, rfl⟩ := hq
    rw [show fnd (mIs (zth Z) (zow Z) (zpl Z) (zlo Z) (zhi Z) (nI a) (nI p) (iI lo) (iI hi)) 12 = some k from e]
    refine g_istore (lv' := [(6, .int (nI k)), (0, .ref (ad o m)), (1, .int (nI a)), (2, .int (nI p)), (3, .int (iI lo)), (4, .int (iI hi)), (5, .int (nI L))]) C d_M_mint_32 (by decide) rfl ?_
    refine g_iload C rfl d_M_mint_34 ?_
    refine g_if_ge (tgt := 43) C d_M_mint_36 (by decide) (fun j36 => ?_) (fun j36 => ?_)
    rotate_left
    · exact absurd (nI_pos' (by omega)) j36
    refine g_aload_n C rfl rfl d_M_mint_43 ?_
    refine gf_M_51 C d_M_mint_44 (by first | assumption | omega) (by repeat' first | assumption | exact up_eq _ _ _ | refine up_ne (by omega) ?_) (by rfl) ?_
    refine g_iload C rfl d_M_mint_47 ?_
    refine g_lald C d_M_mint_49 (by first | assumption | omega) (by repeat' first | assumption | exact up_eq _ _ _ | refine up_ne (by omega) ?_) ik ?_
    rw [ck]
    refine g_lstore (lv' := [(7, .long (lN (zam Z k))), (6, .int (nI k)), (0, .ref (ad o m)), (1, .int (nI a)), (2, .int (nI p)), (3, .int (iI lo)), (4, .int (iI hi)), (5, .int (nI L))]) C d_M_mint_50 (by decide) rfl ?_
    refine g_iload_n C rfl rfl d_M_mint_52 ?_
    refine g_iload C rfl d_M_mint_53 ?_
    refine g_icmp_ge (tgt := 84) C d_M_mint_55 (by decide) (fun j55 => ?_) (fun j55 => ?_)
    · exact absurd ((iI_le (by omega) (by omega) (by omega) (by omega)).mp j55) (by omega)
    refine g_iload C rfl d_M_mint_58 ?_
    refine g_iconst (v := 1) C rfl d_M_mint_60 ?_
    refine g_icmp_lt (tgt := 84) C d_M_mint_61 (by decide) (fun j61 => ?_) (fun j61 => ?_)
    · exact absurd j61 (nI_nlt (b := 1) hL1 (by omega))
    refine g_iload C rfl d_M_mint_64 ?_
    refine g_ldc C m_753 d_M_mint_66 ?_
    refine g_icmp_gt (tgt := 84) C d_M_mint_68 (by decide) (fun j68 => ?_) (fun j68 => ?_)
    · exact absurd j68 (nI_nlt (a := 50000000) (by omega) (by decide))
    refine g_lload C rfl d_M_mint_71 ?_
    refine g_iload C rfl d_M_mint_73 ?_
    refine g_i2l C d_M_mint_75 ?_
    rw [hLl]
    refine g_ladd C d_M_mint_76 ?_
    refine g_ldc2 C m_754 d_M_mint_77 ?_
    rw [lN_add]
    refine g_lcmp_le (tgt := 91) C d_M_mint_80 d_M_mint_81 (by decide) (fun j80 => ?_) (fun j80 => ?_)
    rotate_left
    · exact absurd ((pk_lLE (b := 50000000) (by omega) (by decide)).mpr hL) j80
    refine g_aload_n C rfl rfl d_M_mint_91 ?_
    refine g_iload_n C rfl rfl d_M_mint_92 ?_
    refine g_iload_n C rfl rfl d_M_mint_93 ?_
    refine g_iload C rfl d_M_mint_94 ?_
    refine g_iload C rfl d_M_mint_96 ?_
    refine g_i2l C d_M_mint_98 ?_
    rw [hLl]
    refine g_iconst (v := 1) C rfl d_M_mint_99 ?_
    refine g_callV C (c_M_worthNear (t0 := 0) (la := zla Z) (pr := zpr Z) (tk := ztk Z) true p L lo hi hn (by unfold isM; exact (by repeat' first | assumption | exact up_eq _ _ _ | refine up_ne (by omega) ?_)) (isMR_mv a1 (by repeat' first | exact rfl | refine up_ne (by omega) ?_)) (by repeat' first | assumption | exact up_eq _ _ _ | refine up_ne (by omega) ?_) (by repeat' first | assumption | exact up_eq _ _ _ | refine up_ne (by omega) ?_) hp h1 hlh h2 hT.1 hT.2.1 (by have := hT.2.2.1; omega) (fun q1 q2 => tk_hi hT q1 q2 h2) (by omega)) Y_M_worthNear m_757 s_M_worthNear m_755 rfl rfl ⟨by decide, by decide⟩ ⟨by decide, by decide⟩ (fun h => nomatch h) d_M_mint_100 (by first | assumption | omega) (by repeat' first | assumption | exact up_eq _ _ _ | refine up_ne (by omega) ?_) rfl (Nat.le_of_ble_eq_true rfl) (fun ret sg100 hq => ?_)
    obtain ⟨rfl, rfl⟩ := hq
    rw [hAe]
    refine g_lstore (lv' := [(9, .long (lN A)), (7, .long (lN (zam Z k))), (6, .int (nI k)), (0, .ref (ad o m)), (1, .int (nI a)), (2, .int (nI p)), (3, .int (iI lo)), (4, .int (iI hi)), (5, .int (nI L))]) C d_M_mint_103 (by decide) rfl ?_
    refine g_aload_n C rfl rfl d_M_mint_105 ?_
    refine g_iload_n C rfl rfl d_M_mint_106 ?_
    refine g_iload_n C rfl rfl d_M_mint_107 ?_
    refine g_iload C rfl d_M_mint_108 ?_
    refine g_iload C rfl d_M_mint_110 ?_
    refine g_i2l C d_M_mint_112 ?_
    rw [hLl]
    refine g_iconst (v := 1) C rfl d_M_mint_113 ?_
    refine g_callV C (c_M_worthFar (t0 := 0) (la := zla Z) (pr := zpr Z) (tk := ztk Z) true p L lo hi hn (by unfold isM; exact (by repeat' first | assumption | exact up_eq _ _ _ | refine up_ne (by omega) ?_)) (isMR_mv a1 (by repeat' first | exact rfl | refine up_ne (by omega) ?_)) (by repeat' first | assumption | exact up_eq _ _ _ | refine up_ne (by omega) ?_) (by repeat' first | assumption | exact up_eq _ _ _ | refine up_ne (by omega) ?_) hp h1 hlh h2 hT.1 hT.2.1 (by have := hT.2.2.2.1; omega) (fun q1 q2 => tk_lo hT h1 q1) (by omega)) Y_M_worthFar m_775 s_M_worthFar m_773 rfl rfl ⟨by decide, by decide⟩ ⟨by decide, by decide⟩ (fun h => nomatch h) d_M_mint_114 (by first | assumption | omega) (by repeat' first | assumption | exact up_eq _ _ _ | refine up_ne (by omega) ?_) rfl (Nat.le_of_ble_eq_true rfl) (fun ret sg114 hq => ?_)
    obtain ⟨rfl, rfl⟩ := hq
    rw [hBe]
    refine g_lstore (lv' := [(11, .long (lN B)), (9, .long (lN A)), (7, .long (lN (zam Z k))), (6, .int (nI k)), (0, .ref (ad o m)), (1, .int (nI a)), (2, .int (nI p)), (3, .int (iI lo)), (4, .int (iI hi)), (5, .int (nI L))]) C d_M_mint_117 (by decide) rfl ?_
    refine g_iload C rfl d_M_mint_119 ?_
    refine g_if_ge (tgt := 131) C d_M_mint_121 (by decide) (fun j121 => ?_) (fun j121 => ?_)
    rotate_left
    · exact absurd (nI_pos' (by omega)) j121
    refine g_iload C rfl d_M_mint_131 ?_
    refine g_istore (lv' := [(13, .int (nI k)), (11, .long (lN B)), (9, .long (lN A)), (7, .long (lN (zam Z k))), (6, .int (nI k)), (0, .ref (ad o m)), (1, .int (nI a)), (2, .int (nI p)), (3, .int (iI lo)), (4, .int (iI hi)), (5, .int (nI L))]) C d_M_mint_133 (by decide) rfl ?_
    refine g_iload C rfl d_M_mint_135 ?_
    refine g_if_lt (tgt := 174) C d_M_mint_137 (by decide) (fun j137 => ?_) (fun j137 => ?_)
    · exact absurd j137 (nI_pos (by omega))
    refine g_aload_n C rfl rfl d_M_mint_140 ?_
    refine gf_M_13 C d_M_mint_141 (by first | assumption | omega) (by repeat' first | assumption | exact up_eq _ _ _ | refine up_ne (by omega) ?_) (by rfl) ?_
    refine g_iconst (v := 3) C rfl d_M_mint_144 ?_
    refine g_iload_n C rfl rfl d_M_mint_145 ?_
    refine g_imul C d_M_mint_146 ?_
    refine g_iload_n C rfl rfl d_M_mint_147 ?_
    refine g_iadd C d_M_mint_148 ?_
    rw [show (3 : Int32) = nI 3 from rfl, pk_mul, nI_add, Nat.mul_comm 3 a]
    refine g_lald C d_M_mint_149 (by first | assumption | omega) (by repeat' first | assumption | exact up_eq _ _ _ | refine up_ne (by omega) ?_) (vp_in_nI (by omega) (by decide)) ?_
    rw [nI_clamp (n := a * 3 + p) (by omega)]
    refine g_lload C rfl d_M_mint_150 ?_
    refine g_lcmp_lt (tgt := 174) C d_M_mint_152 d_M_mint_153 (by decide) (fun j152 => ?_) (fun j152 => ?_)
    · exact absurd j152 h4
    refine g_aload_n C rfl rfl d_M_mint_156 ?_
    refine gf_M_13 C d_M_mint_157 (by first | assumption | omega) (by repeat' first | assumption | exact up_eq _ _ _ | refine up_ne (by omega) ?_) (by rfl) ?_
    refine g_iconst (v := 3) C rfl d_M_mint_160 ?_
    refine g_iload_n C rfl rfl d_M_mint_161 ?_
    refine g_imul C d_M_mint_162 ?_
    refine g_iload_n C rfl rfl d_M_mint_163 ?_
    refine g_iadd C d_M_mint_164 ?_
    refine g_iconst (v := 1) C rfl d_M_mint_165 ?_
    refine g_iadd C d_M_mint_166 ?_
    rw [show (3 : Int32) = nI 3 from rfl, pk_mul, nI_add, nI_1, Nat.mul_comm 3 a]
    refine g_lald C d_M_mint_167 (by first | assumption | omega) (by repeat' first | assumption | exact up_eq _ _ _ | refine up_ne (by omega) ?_) (vp_in_nI (by omega) (by decide)) ?_
    rw [nI_clamp (n := a * 3 + p + 1) (by omega)]
    refine g_lload C rfl d_M_mint_168 ?_
    refine g_lcmp_ge (tgt := 181) C d_M_mint_170 d_M_mint_171 (by decide) (fun j170 => ?_) (fun j170 => ?_)
    rotate_left
    · exact absurd (Int64.not_lt.mp h5) j170
    refine g_iload C rfl d_M_mint_181 ?_
    refine g_if_ge (tgt := 274) C d_M_mint_183 (by decide) (fun j183 => ?_) (fun j183 => ?_)
    rotate_left
    · exact absurd (nI_pos' (by omega)) j183
    refine g_pick [5, 6, 7, 10, 2, 1, 0] rfl ?_
    exact tail hk _ _ _ (by unfold isM; exact (by repeat' first | assumption | exact up_eq _ _ _ | refine up_ne (by omega) ?_)) (by rw [← th_mint hL1, ← updB_same g1]; exact (by repeat' first | assumption | exact up_eq _ _ _ | refine up_ne (by omega) ?_)) (by rw [← updN_same g3]; exact (by repeat' first | assumption | exact up_eq _ _ _ | refine up_ne (by omega) ?_)) (by rw [← updN_same g4]; exact (by repeat' first | assumption | exact up_eq _ _ _ | refine up_ne (by omega) ?_)) (by rw [← updZ_same g5]; exact (by repeat' first | assumption | exact up_eq _ _ _ | refine up_ne (by omega) ?_)) (by rw [← updZ_same g6]; exact (by repeat' first | assumption | exact up_eq _ _ _ | refine up_ne (by omega) ?_)) (by repeat' first | assumption | exact up_eq _ _ _ | refine up_ne (by omega) ?_) (by repeat' first | assumption | exact up_eq _ _ _ | refine up_ne (by omega) ?_) (by repeat' first | assumption | exact up_eq _ _ _ | refine up_ne (by omega) ?_) rfl rfl (fun j a => by repeat' first | exact rfl | refine up_ne (by omega) ?_)

