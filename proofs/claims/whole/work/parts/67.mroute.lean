-- ROUTE IN THE REFERENCE
theorem mRun_keep {dn ex : Bool} {f M : Nat} {st : Nat → Bool} {b : Int → Nat → Bool} {dep : Int → Nat} {i : Nat} (hb : ∀ tz, b tz i = false) (n : Nat) : ∀ x : Y7, (mRun dn ex f M st b dep n x).2.2 i = x.2.2 i := by
  induction n with
  | zero => intro x; rfl
  | succ n ih =>
    intro x
    by_cases hd : zDn M x.1
    · rw [mRun_done hd]
    · rw [mRun_go hd, ih]
      unfold mQ
      show riU _ _ _ 12 i = _
      unfold riU
      exact if_neg (fun q => by rw [hb] at q; exact absurd q.2 (by decide))
theorem rt_pos0 {S : Nat} {tz : Int} (h : TkOk S tz) : rt 0 ≤ S := by have := h.2.2.1; have := rt_z; omega
theorem e_M_route1 {l : Launch} {o n : Nat} {sg : Nat → va_E} {m : Nat} {t0 : Int32} {Z : ZS} (a x y : Int32) (hn : m + 22 < n) (hW : MW sg o m t0 Z) (h : ¬ okI a 4) : GM l y_M_route b_M_route 6 (some .long) 6 184 0 0 o n n sg false [.ref (ad o m), .int a, .int x, .int y] (fun r0 s => some (.long 0) = r0 ∧ MW s o m 1 Z ∧ mfr sg s m) := by
  have hm1 : sg m = _ := hW.1
  obtain ⟨a1, a2, a3, a4, a5, a6, a7, a8, a9, a10, a11⟩ := hW.2.1
  refine GM_of (by decide) (Nat.le_of_ble_eq_true rfl) ?_
  intro K C hl hz hr hnm E
  show G K o n sg 0 0 0 [(0, .ref (ad o m)), (1, .int a), (2, .int x), (3, .int y)] []
  refine g_aload_n C rfl rfl d_M_route_0 ?_
  refine g_iload_n C rfl rfl d_M_route_1 ?_
  refine g_callS C (c_M_isOwner a) Y_M_isOwner m_726 m_725 ⟨by decide, by decide⟩ ⟨by decide, by decide⟩ (fun h => nomatch h) d_M_route_2 rfl (Nat.le_of_ble_eq_true rfl) (fun ret sg2 hq => ?_)
  obtain ⟨rfl, rfl⟩ := hq
  refine g_if_ne (tgt := 12) C d_M_route_5 (by decide) (fun j5 => ?_) (fun j5 => ?_)
  · exact absurd (okd j5 : okI a 4) h
  refine g_iconst (v := 1) C rfl d_M_route_8 ?_
  refine g_goto (tgt := 28) C d_M_route_9 (by decide) ?_
  refine pf_M_84 C d_M_route_28 rfl rfl (by first | assumption | omega) (by repeat' first | assumption | exact up_eq _ _ _ | refine up_ne (by omega) ?_) (by exact Nat.le_of_ble_eq_true rfl) ?_
  refine g_aload_n C rfl rfl d_M_route_31 ?_
  refine gf_M_84 C d_M_route_32 (by first | assumption | omega) (by repeat' first | assumption | exact up_eq _ _ _ | refine up_ne (by omega) ?_) (by rfl) ?_
  refine g_if_le (tgt := 40) C d_M_route_35 (by decide) (fun j35 => ?_) (fun j35 => ?_)
  · exact absurd j35 (by decide)
  refine g_lconst (v := 0) C rfl d_M_route_38 ?_
  refine g_lret C E hr d_M_route_39 ?_
  exact ⟨rfl, MW_up hW (by unfold isM; exact (by repeat' first | assumption | exact up_eq _ _ _ | refine up_ne (by omega) ?_)) (fun j a b => by repeat' first | exact rfl | refine up_ne (by omega) ?_), (fun j a => by repeat' first | exact rfl | refine up_ne (by omega) ?_)⟩
theorem e_M_route2 {l : Launch} {o n : Nat} {sg : Nat → va_E} {m : Nat} {t0 : Int32} {Z : ZS} (a : Nat) (x y : Int32) (hn : m + 22 < n) (hW : MW sg o m t0 Z) (ha : a < 4) (h : x < 1 ∨ ¬ x ≤ 100000000) : GM l y_M_route b_M_route 6 (some .long) 6 184 0 0 o n n sg false [.ref (ad o m), .int (nI a), .int x, .int y] (fun r0 s => some (.long 0) = r0 ∧ MW s o m 2 Z ∧ mfr sg s m) := by
  have hm1 : sg m = _ := hW.1
  obtain ⟨a1, a2, a3, a4, a5, a6, a7, a8, a9, a10, a11⟩ := hW.2.1
  refine GM_of (by decide) (Nat.le_of_ble_eq_true rfl) ?_
  intro K C hl hz hr hnm E
  show G K o n sg 0 0 0 [(0, .ref (ad o m)), (1, .int (nI a)), (2, .int x), (3, .int y)] []
  refine g_aload_n C rfl rfl d_M_route_0 ?_
  refine g_iload_n C rfl rfl d_M_route_1 ?_
  refine g_callS C (c_M_isOwner (nI a)) Y_M_isOwner m_726 m_725 ⟨by decide, by decide⟩ ⟨by decide, by decide⟩ (fun h => nomatch h) d_M_route_2 rfl (Nat.le_of_ble_eq_true rfl) (fun ret sg2 hq => ?_)
  obtain ⟨rfl, rfl⟩ := hq
  refine g_if_ne (tgt := 12) C d_M_route_5 (by decide) (fun j5 => ?_) (fun j5 => ?_)
  rotate_left
  · exact absurd (j5.symm.trans (bzd (ok4 ha))) (by decide)
  refine g_iload_n C rfl rfl d_M_route_12 ?_
  refine g_iconst (v := 1) C rfl d_M_route_13 ?_
  refine g_icmp_lt (tgt := 23) C d_M_route_14 (by decide) (fun j14 => ?_) (fun j14 => ?_)
  · refine g_iconst (v := 2) C rfl d_M_route_23 ?_
    refine g_goto (tgt := 28) C d_M_route_24 (by decide) ?_
    refine pf_M_84 C d_M_route_28 rfl rfl (by first | assumption | omega) (by repeat' first | assumption | exact up_eq _ _ _ | refine up_ne (by omega) ?_) (by exact Nat.le_of_ble_eq_true rfl) ?_
    refine g_aload_n C rfl rfl d_M_route_31 ?_
    refine gf_M_84 C d_M_route_32 (by first | assumption | omega) (by repeat' first | assumption | exact up_eq _ _ _ | refine up_ne (by omega) ?_) (by rfl) ?_
    refine g_if_le (tgt := 40) C d_M_route_35 (by decide) (fun j35 => ?_) (fun j35 => ?_)
    · exact absurd j35 (by decide)
    refine g_lconst (v := 0) C rfl d_M_route_38 ?_
    refine g_lret C E hr d_M_route_39 ?_
    exact ⟨rfl, MW_up hW (by unfold isM; exact (by repeat' first | assumption | exact up_eq _ _ _ | refine up_ne (by omega) ?_)) (fun j a b => by repeat' first | exact rfl | refine up_ne (by omega) ?_), (fun j a => by repeat' first | exact rfl | refine up_ne (by omega) ?_)⟩
  · refine g_iload_n C rfl rfl d_M_route_17 ?_
    refine g_ldc C m_810 d_M_route_18 ?_
    refine g_icmp_le (tgt := 27) C d_M_route_20 (by decide) (fun j20 => ?_) (fun j20 => ?_)
    · exact h.elim (fun q => absurd q j14) (fun q => absurd j20 q)
    refine g_iconst (v := 2) C rfl d_M_route_23 ?_
    refine g_goto (tgt := 28) C d_M_route_24 (by decide) ?_
    refine pf_M_84 C d_M_route_28 rfl rfl (by first | assumption | omega) (by repeat' first | assumption | exact up_eq _ _ _ | refine up_ne (by omega) ?_) (by exact Nat.le_of_ble_eq_true rfl) ?_
    refine g_aload_n C rfl rfl d_M_route_31 ?_
    refine gf_M_84 C d_M_route_32 (by first | assumption | omega) (by repeat' first | assumption | exact up_eq _ _ _ | refine up_ne (by omega) ?_) (by rfl) ?_
    refine g_if_le (tgt := 40) C d_M_route_35 (by decide) (fun j35 => ?_) (fun j35 => ?_)
    · exact absurd j35 (by decide)
    refine g_lconst (v := 0) C rfl d_M_route_38 ?_
    refine g_lret C E hr d_M_route_39 ?_
    exact ⟨rfl, MW_up hW (by unfold isM; exact (by repeat' first | assumption | exact up_eq _ _ _ | refine up_ne (by omega) ?_)) (fun j a b => by repeat' first | exact rfl | refine up_ne (by omega) ?_), (fun j a => by repeat' first | exact rfl | refine up_ne (by omega) ?_)⟩
theorem e_M_route3a {l : Launch} {o n : Nat} {sg : Nat → va_E} {m : Nat} {t0 : Int32} {Z : ZS} (a r : Nat) (y : Int32) (hn : m + 22 < n) (hW : MW sg o m t0 Z) (ha : a < 4) (hr0 : 0 < r) (hr1 : r ≤ 100000000) (h3 : zpr Z 0 = rt 0 ∨ zpr Z 1 = rt 0) : GM l y_M_route b_M_route 6 (some .long) 6 184 0 0 o n n sg false [.ref (ad o m), .int (nI a), .int (nI r), .int y] (fun r0 s => some (.long 0) = r0 ∧ MW s o m 3 Z ∧ mfr sg s m) := by
  have hm1 : sg m = _ := hW.1
  obtain ⟨a1, a2, a3, a4, a5, a6, a7, a8, a9, a10, a11⟩ := hW.2.1
  have i0 : vp_in (0 : Int32) 2 := vp_in_nI (n := 0) (by decide) (by decide)
  have i1 : vp_in (1 : Int32) 2 := vp_in_nI (n := 1) (by decide) (by decide)
  have hR3 : rt 0 < 2 ^ 63 := Nat.lt_trans (rt_up (by decide)) (by decide)
  refine GM_of (by decide) (Nat.le_of_ble_eq_true rfl) ?_
  intro K C hl hz hr hnm E
  show G K o n sg 0 0 0 [(0, .ref (ad o m)), (1, .int (nI a)), (2, .int (nI r)), (3, .int y)] []
  refine g_aload_n C rfl rfl d_M_route_0 ?_
  refine g_iload_n C rfl rfl d_M_route_1 ?_
  refine g_callS C (c_M_isOwner (nI a)) Y_M_isOwner m_726 m_725 ⟨by decide, by decide⟩ ⟨by decide, by decide⟩ (fun h => nomatch h) d_M_route_2 rfl (Nat.le_of_ble_eq_true rfl) (fun ret sg2 hq => ?_)
  obtain ⟨rfl, rfl⟩ := hq
  refine g_if_ne (tgt := 12) C d_M_route_5 (by decide) (fun j5 => ?_) (fun j5 => ?_)
  rotate_left
  · exact absurd (j5.symm.trans (bzd (ok4 ha))) (by decide)
  refine g_iload_n C rfl rfl d_M_route_12 ?_
  refine g_iconst (v := 1) C rfl d_M_route_13 ?_
  refine g_icmp_lt (tgt := 23) C d_M_route_14 (by decide) (fun j14 => ?_) (fun j14 => ?_)
  · exact absurd j14 (nI_nlt (b := 1) hr0 (by omega))
  refine g_iload_n C rfl rfl d_M_route_17 ?_
  refine g_ldc C m_810 d_M_route_18 ?_
  refine g_icmp_le (tgt := 27) C d_M_route_20 (by decide) (fun j20 => ?_) (fun j20 => ?_)
  rotate_left
  · exact absurd (nI_le (b := 100000000) hr1 (by decide)) j20
  refine g_iconst (v := 0) C rfl d_M_route_27 ?_
  refine pf_M_84 C d_M_route_28 rfl rfl (by first | assumption | omega) (by repeat' first | assumption | exact up_eq _ _ _ | refine up_ne (by omega) ?_) (by exact Nat.le_of_ble_eq_true rfl) ?_
  refine g_aload_n C rfl rfl d_M_route_31 ?_
  refine gf_M_84 C d_M_route_32 (by first | assumption | omega) (by repeat' first | assumption | exact up_eq _ _ _ | refine up_ne (by omega) ?_) (by rfl) ?_
  refine g_if_le (tgt := 40) C d_M_route_35 (by decide) (fun j35 => ?_) (fun j35 => ?_)
  rotate_left
  · exact absurd (by decide) j35
  refine g_aload_n C rfl rfl d_M_route_40 ?_
  refine g_bipush (v := -40) C rfl d_M_route_41 ?_
  rw [show (-40 : Int32) = iI (-40) from by decide]
  refine g_callV C (c_M_rootOf (th := 0) (la := zla Z) (-40) hn (by unfold isM; exact (by repeat' first | assumption | exact up_eq _ _ _ | refine up_ne (by omega) ?_)) (isMR_mv a1 (by repeat' first | exact rfl | refine up_ne (by omega) ?_)) (by decide) (by decide)) Y_M_rootOf m_761 s_M_rootOf m_759 rfl rfl ⟨by decide, by decide⟩ ⟨by decide, by decide⟩ (fun h => nomatch h) d_M_route_43 (by first | assumption | omega) (by repeat' first | assumption | exact up_eq _ _ _ | refine up_ne (by omega) ?_) rfl (Nat.le_of_ble_eq_true rfl) (fun ret sg43 hq => ?_)
  obtain ⟨rfl, rfl⟩ := hq
  rw [show tx (-40) = 0 from rfl]
  refine g_lstore (lv' := [(4, .long (lN (rt 0))), (0, .ref (ad o m)), (1, .int (nI a)), (2, .int (nI r)), (3, .int y)]) C d_M_route_46 (by decide) rfl ?_
  refine g_aload_n C rfl rfl d_M_route_48 ?_
  refine g_iconst (v := 3) C rfl d_M_route_49 ?_
  refine pf_M_84 C d_M_route_50 rfl rfl (by first | assumption | omega) (by repeat' first | assumption | exact up_eq _ _ _ | refine up_ne (by omega) ?_) (by exact Nat.le_of_ble_eq_true rfl) ?_
  refine g_aload_n C rfl rfl d_M_route_53 ?_
  refine gf_M_26 C d_M_route_54 (by first | assumption | omega) (by repeat' first | assumption | exact up_eq _ _ _ | refine up_ne (by omega) ?_) (by rfl) ?_
  refine g_iconst (v := 0) C rfl d_M_route_57 ?_
  refine g_lald C d_M_route_58 (by first | assumption | omega) (by repeat' first | assumption | exact up_eq _ _ _ | refine up_ne (by omega) ?_) i0 ?_
  rw [show (0 : Int32).toNatClampNeg = 0 from rfl]
  refine g_lload C rfl d_M_route_59 ?_
  refine g_lcmp_eq (tgt := 77) C d_M_route_61 d_M_route_62 (by decide) (fun j61 => ?_) (fun j61 => ?_)
  · refine g_lconst (v := 0) C rfl d_M_route_77 ?_
    refine g_lret C E hr d_M_route_78 ?_
    exact ⟨rfl, MW_up hW (by unfold isM; exact (by repeat' first | assumption | exact up_eq _ _ _ | refine up_ne (by omega) ?_)) (fun j a b => by repeat' first | exact rfl | refine up_ne (by omega) ?_), (fun j a => by repeat' first | exact rfl | refine up_ne (by omega) ?_)⟩
  · refine g_aload_n C rfl rfl d_M_route_65 ?_
    refine gf_M_26 C d_M_route_66 (by first | assumption | omega) (by repeat' first | assumption | exact up_eq _ _ _ | refine up_ne (by omega) ?_) (by rfl) ?_
    refine g_iconst (v := 1) C rfl d_M_route_69 ?_
    refine g_lald C d_M_route_70 (by first | assumption | omega) (by repeat' first | assumption | exact up_eq _ _ _ | refine up_ne (by omega) ?_) i1 ?_
    rw [show (1 : Int32).toNatClampNeg = 1 from rfl]
    refine g_lload C rfl d_M_route_71 ?_
    refine g_lcmp_ne (tgt := 79) C d_M_route_73 d_M_route_74 (by decide) (fun j73 => ?_) (fun j73 => ?_)
    · exact h3.elim (fun q => absurd (congrArg lN q) j61) (fun q => absurd (congrArg lN q) j73)
    refine g_lconst (v := 0) C rfl d_M_route_77 ?_
    refine g_lret C E hr d_M_route_78 ?_
    exact ⟨rfl, MW_up hW (by unfold isM; exact (by repeat' first | assumption | exact up_eq _ _ _ | refine up_ne (by omega) ?_)) (fun j a b => by repeat' first | exact rfl | refine up_ne (by omega) ?_), (fun j a => by repeat' first | exact rfl | refine up_ne (by omega) ?_)⟩
set_option maxHeartbeats 8000000 in
theorem e_M_route3b {l : Launch} {o n : Nat} {sg : Nat → va_E} {m : Nat} {t0 : Int32} {Z : ZS} (a r : Nat) (y : Int32) (hn : m + 22 < n) (hW : MW sg o m t0 Z) (ha : a < 4) (hr0 : 0 < r) (hr1 : r ≤ 100000000) (hB : pBd (zpl Z) (zlo Z) (zhi Z)) (hA : ∀ i, i < 12 → zam Z i ≤ 50000000) (hf : ∀ p, p < 2 → zfee Z p ≤ 100) (hT : ∀ p, p < 2 → TkOk (zpr Z p) (ztk Z p)) (h3 : ¬ zpr Z 0 = rt 0) (h4 : ¬ zpr Z 1 = rt 0) (h5 : zbal Z (a * 3) < (zWork Z 0 true true r (rt 0)).1.2.2.2.1 ∨ (zWork Z 0 true true r (rt 0)).1.2.2.2.2 = 0) : GM l y_M_route b_M_route 6 (some .long) 6 184 0 0 o n n sg false [.ref (ad o m), .int (nI a), .int (nI r), .int y] (fun r0 s => some (.long 0) = r0 ∧ MW s o m 3 Z ∧ mfr sg s m) := by
  have hm1 : sg m = _ := hW.1
  obtain ⟨a1, a2, a3, a4, a5, a6, a7, a8, a9, a10, a11⟩ := hW.2.1
  have i0 : vp_in (0 : Int32) 2 := vp_in_nI (n := 0) (by decide) (by decide)
  have i1 : vp_in (1 : Int32) 2 := vp_in_nI (n := 1) (by decide) (by decide)
  have hR3 : rt 0 < 2 ^ 63 := Nat.lt_trans (rt_up (by decide)) (by decide)
  obtain ⟨np, nt, ng, tk, gt, ri, x1, x2, x3, x4, x5, x6⟩ := hW.2.2
  have hrl : (nI r).toInt64 = lN r := nI_l (by omega)
  have hT0 := hT 0 (by decide)
  have hT1 := hT 1 (by decide)
  have l0 := rt_pos0 hT0
  have l1 := rt_pos0 hT1
  have b0 : zpr Z 0 < 2 ^ 63 := by have := hT0.2.2.2.1; omega
  have b1 : zpr Z 1 < 2 ^ 63 := by have := hT1.2.2.2.1; omega
  have hI : QI true (rt 0) (zpr Z 0, ztk Z 0, r, 0, 0) := ⟨hT0, hr1, l0⟩
  refine GM_of (by decide) (Nat.le_of_ble_eq_true rfl) ?_
  intro K C hl hz hr hnm E
  show G K o n sg 0 0 0 [(0, .ref (ad o m)), (1, .int (nI a)), (2, .int (nI r)), (3, .int y)] []
  obtain ⟨xf, hxf⟩ : ∃ xf, xf = mRun true true (zfee Z 0) (rt 0) (mSet (zth Z) (zpl Z) (zlo Z) (zhi Z) (zam Z) 0) (mIn (zth Z) (zpl Z) (zlo Z) (zhi Z) 0) (mDep (zth Z) (zpl Z) (zlo Z) (zhi Z) (zam Z) 0) 100 ((zpr Z 0, ztk Z 0, r, 0, 0), 0, riZ (zpl Z) 0 ri 12) := ⟨_, rfl⟩
  obtain ⟨y1, y2, y3⟩ := zWork_eq Z 0 true true r (rt 0) ri hxf
  generalize hwe : (zWork Z 0 true true r (rt 0)) = wk at *
  refine g_aload_n C rfl rfl d_M_route_0 ?_
  refine g_iload_n C rfl rfl d_M_route_1 ?_
  refine g_callS C (c_M_isOwner (nI a)) Y_M_isOwner m_726 m_725 ⟨by decide, by decide⟩ ⟨by decide, by decide⟩ (fun h => nomatch h) d_M_route_2 rfl (Nat.le_of_ble_eq_true rfl) (fun ret sg2 hq => ?_)
  obtain ⟨rfl, rfl⟩ := hq
  refine g_if_ne (tgt := 12) C d_M_route_5 (by decide) (fun j5 => ?_) (fun j5 => ?_)
  rotate_left
  · exact absurd (j5.symm.trans (bzd (ok4 ha))) (by decide)
  refine g_iload_n C rfl rfl d_M_route_12 ?_
  refine g_iconst (v := 1) C rfl d_M_route_13 ?_
  refine g_icmp_lt (tgt := 23) C d_M_route_14 (by decide) (fun j14 => ?_) (fun j14 => ?_)
  · exact absurd j14 (nI_nlt (b := 1) hr0 (by omega))
  refine g_iload_n C rfl rfl d_M_route_17 ?_
  refine g_ldc C m_810 d_M_route_18 ?_
  refine g_icmp_le (tgt := 27) C d_M_route_20 (by decide) (fun j20 => ?_) (fun j20 => ?_)
  rotate_left
  · exact absurd (nI_le (b := 100000000) hr1 (by decide)) j20
  refine g_iconst (v := 0) C rfl d_M_route_27 ?_
  refine pf_M_84 C d_M_route_28 rfl rfl (by first | assumption | omega) (by repeat' first | assumption | exact up_eq _ _ _ | refine up_ne (by omega) ?_) (by exact Nat.le_of_ble_eq_true rfl) ?_
  refine g_aload_n C rfl rfl d_M_route_31 ?_
  refine gf_M_84 C d_M_route_32 (by first | assumption | omega) (by repeat' first | assumption | exact up_eq _ _ _ | refine up_ne (by omega) ?_) (by rfl) ?_
  refine g_if_le (tgt := 40) C d_M_route_35 (by decide) (fun j35 => ?_) (fun j35 => ?_)
  rotate_left
  · exact absurd (by decide) j35
  refine g_aload_n C rfl rfl d_M_route_40 ?_
  refine g_bipush (v := -40) C rfl d_M_route_41 ?_
  rw [show (-40 : Int32) = iI (-40) from by decide]
  refine g_callV C (c_M_rootOf (th := 0) (la := zla Z) (-40) hn (by unfold isM; exact (by repeat' first | assumption | exact up_eq _ _ _ | refine up_ne (by omega) ?_)) (isMR_mv a1 (by repeat' first | exact rfl | refine up_ne (by omega) ?_)) (by decide) (by decide)) Y_M_rootOf m_761 s_M_rootOf m_759 rfl rfl ⟨by decide, by decide⟩ ⟨by decide, by decide⟩ (fun h => nomatch h) d_M_route_43 (by first | assumption | omega) (by repeat' first | assumption | exact up_eq _ _ _ | refine up_ne (by omega) ?_) rfl (Nat.le_of_ble_eq_true rfl) (fun ret sg43 hq => ?_)
  obtain ⟨rfl, rfl⟩ := hq
  rw [show tx (-40) = 0 from rfl]
  refine g_lstore (lv' := [(4, .long (lN (rt 0))), (0, .ref (ad o m)), (1, .int (nI a)), (2, .int (nI r)), (3, .int y)]) C d_M_route_46 (by decide) rfl ?_
  refine g_aload_n C rfl rfl d_M_route_48 ?_
  refine g_iconst (v := 3) C rfl d_M_route_49 ?_
  refine pf_M_84 C d_M_route_50 rfl rfl (by first | assumption | omega) (by repeat' first | assumption | exact up_eq _ _ _ | refine up_ne (by omega) ?_) (by exact Nat.le_of_ble_eq_true rfl) ?_
  refine g_aload_n C rfl rfl d_M_route_53 ?_
  refine gf_M_26 C d_M_route_54 (by first | assumption | omega) (by repeat' first | assumption | exact up_eq _ _ _ | refine up_ne (by omega) ?_) (by rfl) ?_
  refine g_iconst (v := 0) C rfl d_M_route_57 ?_
  refine g_lald C d_M_route_58 (by first | assumption | omega) (by repeat' first | assumption | exact up_eq _ _ _ | refine up_ne (by omega) ?_) i0 ?_
  rw [show (0 : Int32).toNatClampNeg = 0 from rfl]
  refine g_lload C rfl d_M_route_59 ?_
  refine g_lcmp_eq (tgt := 77) C d_M_route_61 d_M_route_62 (by decide) (fun j61 => ?_) (fun j61 => ?_)
  · exact absurd ((pk_lEQ b0 hR3).mp j61) h3
  refine g_aload_n C rfl rfl d_M_route_65 ?_
  refine gf_M_26 C d_M_route_66 (by first | assumption | omega) (by repeat' first | assumption | exact up_eq _ _ _ | refine up_ne (by omega) ?_) (by rfl) ?_
  refine g_iconst (v := 1) C rfl d_M_route_69 ?_
  refine g_lald C d_M_route_70 (by first | assumption | omega) (by repeat' first | assumption | exact up_eq _ _ _ | refine up_ne (by omega) ?_) i1 ?_
  rw [show (1 : Int32).toNatClampNeg = 1 from rfl]
  refine g_lload C rfl d_M_route_71 ?_
  refine g_lcmp_ne (tgt := 79) C d_M_route_73 d_M_route_74 (by decide) (fun j73 => ?_) (fun j73 => ?_)
  rotate_left
  · exact absurd ((pk_lEQ b1 hR3).mp j73) h4
  refine g_aload_n C rfl rfl d_M_route_79 ?_
  refine g_iconst (v := 0) C rfl d_M_route_80 ?_
  refine g_iconst (v := 1) C rfl d_M_route_81 ?_
  refine g_iconst (v := 1) C rfl d_M_route_82 ?_
  refine g_iload_n C rfl rfl d_M_route_83 ?_
  refine g_i2l C d_M_route_84 ?_
  rw [hrl]
  refine g_lload C rfl d_M_route_85 ?_
  refine g_callV C (c_M_work (t0 := 3) (la := zla Z) (th := zth Z) (ow := zow Z) (pl := zpl Z) (lo := zlo Z) (hi := zhi Z) (am := zam Z) (pr := fun i => lN (zpr Z i)) (tc := fun i => iI (ztk Z i)) (fee := zfee Z) (dn := true) (ex := true) (np := np) (ng := ng) (tk := tk) (gt := gt) (ri := ri) (nt := nt) (p := 0) (r := r) (M := rt 0) (S := zpr Z 0) (f := zfee Z 0) (tz := ztk Z 0) hn (by unfold isM; exact (by repeat' first | assumption | exact up_eq _ _ _ | refine up_ne (by omega) ?_)) (isMR_mv a1 (by repeat' first | exact rfl | refine up_ne (by omega) ?_)) (isMP_mv a9 (fun j a b => by repeat' first | exact rfl | refine up_ne (by omega) ?_)) hB hA (by repeat' first | assumption | exact up_eq _ _ _ | refine up_ne (by omega) ?_) (by repeat' first | assumption | exact up_eq _ _ _ | refine up_ne (by omega) ?_) (by repeat' first | assumption | exact up_eq _ _ _ | refine up_ne (by omega) ?_) (by repeat' first | assumption | exact up_eq _ _ _ | refine up_ne (by omega) ?_) (by repeat' first | assumption | exact up_eq _ _ _ | refine up_ne (by omega) ?_) (by repeat' first | assumption | exact up_eq _ _ _ | refine up_ne (by omega) ?_) (by repeat' first | assumption | exact up_eq _ _ _ | refine up_ne (by omega) ?_) (by repeat' first | assumption | exact up_eq _ _ _ | refine up_ne (by omega) ?_) (by repeat' first | assumption | exact up_eq _ _ _ | refine up_ne (by omega) ?_) (by decide) rfl (hf 0 (by decide)) rfl rfl (Nat.le_refl _) (rt_le (by decide) (by decide)) hI hxf) Y_M_work m_813 s_M_work m_811 rfl rfl ⟨by decide, by decide⟩ ⟨by decide, by decide⟩ (fun h => nomatch h) d_M_route_87 (by first | assumption | omega) (by repeat' first | assumption | exact up_eq _ _ _ | refine up_ne (by omega) ?_) rfl (Nat.le_of_ble_eq_true rfl) (fun ret sg87 hq => ?_)
  obtain ⟨rfl, e17, e18, e19, e20, e21, e22, eF⟩ := hq
  have em : isM sg87 o m 3 (zla Z) := (eF m (by omega)).trans (by repeat' first | assumption | exact up_eq _ _ _ | refine up_ne (by omega) ?_)
  have em1 : sg87 m = _ := em
  have ew : ∀ j, j < m ∨ (m < j ∧ j < m + 17) ∨ m + 22 < j → sg87 j = sg j := fun j q => (eF j (by omega)).trans (by repeat' first | exact rfl | refine up_ne (by omega) ?_)
  have f1 : isMR sg87 m := isMR_mv a1 (ew _ (by omega))
  have f2 := (ew (m + 2) (by omega)).trans a2
  have f3 := (ew (m + 3) (by omega)).trans a3
  have f4 := (ew (m + 4) (by omega)).trans a4
  have f5 := (ew (m + 5) (by omega)).trans a5
  have f6 := (ew (m + 6) (by omega)).trans a6
  have f7 := (ew (m + 7) (by omega)).trans a7
  have f8 := (ew (m + 8) (by omega)).trans a8
  have f9 : isMP sg87 m (zth Z) (zow Z) (zpl Z) (zlo Z) (zhi Z) (zam Z) := isMP_mv a9 (fun j q1 q2 => ew j (by omega))
  have f15 := (ew (m + 15) (by omega)).trans a10
  have f16 := (ew (m + 16) (by omega)).trans a11
  refine g_aload_n C rfl rfl d_M_route_90 ?_
  refine gf_M_13 C d_M_route_91 (by first | assumption | omega) (by repeat' first | assumption | exact up_eq _ _ _ | refine up_ne (by omega) ?_) (by rfl) ?_
  refine g_iconst (v := 3) C rfl d_M_route_94 ?_
  refine g_iload_n C rfl rfl d_M_route_95 ?_
  refine g_imul C d_M_route_96 ?_
  rw [show (3 : Int32) = nI 3 from rfl, pk_mul, Nat.mul_comm 3 a]
  refine g_lald C d_M_route_97 (by first | assumption | omega) (by repeat' first | assumption | exact up_eq _ _ _ | refine up_ne (by omega) ?_) (vp_in_nI (by omega) (by decide)) ?_
  rw [nI_clamp (n := a * 3) (by omega)]
  refine g_aload_n C rfl rfl d_M_route_98 ?_
  refine gf_M_69 C d_M_route_99 (by first | assumption | omega) (by repeat' first | assumption | exact up_eq _ _ _ | refine up_ne (by omega) ?_) (by rfl) ?_
  refine g_iconst (v := 0) C rfl d_M_route_102 ?_
  refine g_lald C d_M_route_103 (by first | assumption | omega) (by repeat' first | assumption | exact up_eq _ _ _ | refine up_ne (by omega) ?_) i0 ?_
  rw [show (0 : Int32).toNatClampNeg = 0 from rfl, pk_usL, y1]
  refine g_lcmp_lt (tgt := 119) C d_M_route_104 d_M_route_105 (by decide) (fun j104 => ?_) (fun j104 => ?_)
  · refine g_lconst (v := 0) C rfl d_M_route_119 ?_
    refine g_lret C E hr d_M_route_120 ?_
    exact ⟨rfl, ⟨em, MA_mv hW.2.1 (fun j q1 q2 => ew j (by omega)), ⟨_, _, _, _, _, _, e17, e18, e19, e20, e21, e22⟩⟩, fun j q => ew j (by omega)⟩
  · refine g_aload_n C rfl rfl d_M_route_108 ?_
    refine gf_M_72 C d_M_route_109 (by first | assumption | omega) (by repeat' first | assumption | exact up_eq _ _ _ | refine up_ne (by omega) ?_) (by rfl) ?_
    refine g_iconst (v := 0) C rfl d_M_route_112 ?_
    refine g_lald C d_M_route_113 (by first | assumption | omega) (by repeat' first | assumption | exact up_eq _ _ _ | refine up_ne (by omega) ?_) i0 ?_
    rw [show (0 : Int32).toNatClampNeg = 0 from rfl, pk_usL, y1]
    refine g_lconst (v := 0) C rfl d_M_route_114 ?_
    refine g_lcmp_ne (tgt := 121) C d_M_route_115 d_M_route_116 (by decide) (fun j115 => ?_) (fun j115 => ?_)
    · exact h5.elim (fun q => absurd q j104) (fun q => absurd q j115)
    refine g_lconst (v := 0) C rfl d_M_route_119 ?_
    refine g_lret C E hr d_M_route_120 ?_
    exact ⟨rfl, ⟨em, MA_mv hW.2.1 (fun j q1 q2 => ew j (by omega)), ⟨_, _, _, _, _, _, e17, e18, e19, e20, e21, e22⟩⟩, fun j q => ew j (by omega)⟩
set_option maxHeartbeats 8000000 in
theorem e_M_route3c {l : Launch} {o n : Nat} {sg : Nat → va_E} {m : Nat} {t0 : Int32} {Z : ZS} (a r : Nat) (y : Int32) (hn : m + 22 < n) (hW : MW sg o m t0 Z) (ha : a < 4) (hr0 : 0 < r) (hr1 : r ≤ 100000000) (hB : pBd (zpl Z) (zlo Z) (zhi Z)) (hA : ∀ i, i < 12 → zam Z i ≤ 50000000) (hf : ∀ p, p < 2 → zfee Z p ≤ 100) (hT : ∀ p, p < 2 → TkOk (zpr Z p) (ztk Z p)) (h3 : ¬ zpr Z 0 = rt 0) (h4 : ¬ zpr Z 1 = rt 0) (g0 : Nat) (hg : (zWork Z 0 true true r (rt 0)).1.2.2.2.2 = lN g0) (hg0 : g0 ≤ 100000000) (h5 : ¬ zbal Z (a * 3) < (zWork Z 0 true true r (rt 0)).1.2.2.2.1) (h6 : ¬ (zWork Z 0 true true r (rt 0)).1.2.2.2.2 = 0) (h7 : (zWork Z 1 true true g0 (rt 0)).1.2.2.2.2 < y.toInt64) : GM l y_M_route b_M_route 6 (some .long) 6 184 0 0 o n n sg false [.ref (ad o m), .int (nI a), .int (nI r), .int y] (fun r0 s => some (.long 0) = r0 ∧ MW s o m 3 Z ∧ mfr sg s m) := by
  have hm1 : sg m = _ := hW.1
  obtain ⟨a1, a2, a3, a4, a5, a6, a7, a8, a9, a10, a11⟩ := hW.2.1
  have i0 : vp_in (0 : Int32) 2 := vp_in_nI (n := 0) (by decide) (by decide)
  have i1 : vp_in (1 : Int32) 2 := vp_in_nI (n := 1) (by decide) (by decide)
  have hR3 : rt 0 < 2 ^ 63 := Nat.lt_trans (rt_up (by decide)) (by decide)
  obtain ⟨np, nt, ng, tk, gt, ri, x1, x2, x3, x4, x5, x6⟩ := hW.2.2
  have hrl : (nI r).toInt64 = lN r := nI_l (by omega)
  have hT0 := hT 0 (by decide)
  have hT1 := hT 1 (by decide)
  have l0 := rt_pos0 hT0
  have l1 := rt_pos0 hT1
  have b0 : zpr Z 0 < 2 ^ 63 := by have := hT0.2.2.2.1; omega
  have b1 : zpr Z 1 < 2 ^ 63 := by have := hT1.2.2.2.1; omega
  have hI : QI true (rt 0) (zpr Z 0, ztk Z 0, r, 0, 0) := ⟨hT0, hr1, l0⟩
  refine GM_of (by decide) (Nat.le_of_ble_eq_true rfl) ?_
  intro K C hl hz hr hnm E
  show G K o n sg 0 0 0 [(0, .ref (ad o m)), (1, .int (nI a)), (2, .int (nI r)), (3, .int y)] []
  obtain ⟨xf, hxf⟩ : ∃ xf, xf = mRun true true (zfee Z 0) (rt 0) (mSet (zth Z) (zpl Z) (zlo Z) (zhi Z) (zam Z) 0) (mIn (zth Z) (zpl Z) (zlo Z) (zhi Z) 0) (mDep (zth Z) (zpl Z) (zlo Z) (zhi Z) (zam Z) 0) 100 ((zpr Z 0, ztk Z 0, r, 0, 0), 0, riZ (zpl Z) 0 ri 12) := ⟨_, rfl⟩
  obtain ⟨y1, y2, y3⟩ := zWork_eq Z 0 true true r (rt 0) ri hxf
  generalize hwe : (zWork Z 0 true true r (rt 0)) = wk at *
  have hI1 : QI true (rt 0) (zpr Z 1, ztk Z 1, g0, 0, 0) := ⟨hT1, hg0, l1⟩
  obtain ⟨xg, hxg⟩ : ∃ xg, xg = mRun true true (zfee Z 1) (rt 0) (mSet (zth Z) (zpl Z) (zlo Z) (zhi Z) (zam Z) 1) (mIn (zth Z) (zpl Z) (zlo Z) (zhi Z) 1) (mDep (zth Z) (zpl Z) (zlo Z) (zhi Z) (zam Z) 1) 100 ((zpr Z 1, ztk Z 1, g0, 0, 0), 0, riZ (zpl Z) 1 xf.2.2 12) := ⟨_, rfl⟩
  obtain ⟨z1, z2, z3⟩ := zWork_eq Z 1 true true g0 (rt 0) xf.2.2 hxg
  have z4 : ∀ i, i < 12 → zpl Z i = 0 → xg.2.2 i = wk.2.2 i := fun i q1 q2 => by
    rw [hxg, mRun_keep (fun tz => by unfold mIn; rw [decide_eq_false (fun q => by omega), Bool.and_false])]
    show riZ (zpl Z) 1 xf.2.2 12 i = _
    unfold riZ
    rw [if_neg (fun q => by omega)]
    exact y3 i q1 q2
  generalize hwf : (zWork Z 1 true true g0 (rt 0)) = wl at *
  refine g_aload_n C rfl rfl d_M_route_0 ?_
  refine g_iload_n C rfl rfl d_M_route_1 ?_
  refine g_callS C (c_M_isOwner (nI a)) Y_M_isOwner m_726 m_725 ⟨by decide, by decide⟩ ⟨by decide, by decide⟩ (fun h => nomatch h) d_M_route_2 rfl (Nat.le_of_ble_eq_true rfl) (fun ret sg2 hq => ?_)
  obtain ⟨rfl, rfl⟩ := hq
  refine g_if_ne (tgt := 12) C d_M_route_5 (by decide) (fun j5 => ?_) (fun j5 => ?_)
  rotate_left
  · exact absurd (j5.symm.trans (bzd (ok4 ha))) (by decide)
  refine g_iload_n C rfl rfl d_M_route_12 ?_
  refine g_iconst (v := 1) C rfl d_M_route_13 ?_
  refine g_icmp_lt (tgt := 23) C d_M_route_14 (by decide) (fun j14 => ?_) (fun j14 => ?_)
  · exact absurd j14 (nI_nlt (b := 1) hr0 (by omega))
  refine g_iload_n C rfl rfl d_M_route_17 ?_
  refine g_ldc C m_810 d_M_route_18 ?_
  refine g_icmp_le (tgt := 27) C d_M_route_20 (by decide) (fun j20 => ?_) (fun j20 => ?_)
  rotate_left
  · exact absurd (nI_le (b := 100000000) hr1 (by decide)) j20
  refine g_iconst (v := 0) C rfl d_M_route_27 ?_
  refine pf_M_84 C d_M_route_28 rfl rfl (by first | assumption | omega) (by repeat' first | assumption | exact up_eq _ _ _ | refine up_ne (by omega) ?_) (by exact Nat.le_of_ble_eq_true rfl) ?_
  refine g_aload_n C rfl rfl d_M_route_31 ?_
  refine gf_M_84 C d_M_route_32 (by first | assumption | omega) (by repeat' first | assumption | exact up_eq _ _ _ | refine up_ne (by omega) ?_) (by rfl) ?_
  refine g_if_le (tgt := 40) C d_M_route_35 (by decide) (fun j35 => ?_) (fun j35 => ?_)
  rotate_left
  · exact absurd (by decide) j35
  refine g_aload_n C rfl rfl d_M_route_40 ?_
  refine g_bipush (v := -40) C rfl d_M_route_41 ?_
  rw [show (-40 : Int32) = iI (-40) from by decide]
  refine g_callV C (c_M_rootOf (th := 0) (la := zla Z) (-40) hn (by unfold isM; exact (by repeat' first | assumption | exact up_eq _ _ _ | refine up_ne (by omega) ?_)) (isMR_mv a1 (by repeat' first | exact rfl | refine up_ne (by omega) ?_)) (by decide) (by decide)) Y_M_rootOf m_761 s_M_rootOf m_759 rfl rfl ⟨by decide, by decide⟩ ⟨by decide, by decide⟩ (fun h => nomatch h) d_M_route_43 (by first | assumption | omega) (by repeat' first | assumption | exact up_eq _ _ _ | refine up_ne (by omega) ?_) rfl (Nat.le_of_ble_eq_true rfl) (fun ret sg43 hq => ?_)
  obtain ⟨rfl, rfl⟩ := hq
  rw [show tx (-40) = 0 from rfl]
  refine g_lstore (lv' := [(4, .long (lN (rt 0))), (0, .ref (ad o m)), (1, .int (nI a)), (2, .int (nI r)), (3, .int y)]) C d_M_route_46 (by decide) rfl ?_
  refine g_aload_n C rfl rfl d_M_route_48 ?_
  refine g_iconst (v := 3) C rfl d_M_route_49 ?_
  refine pf_M_84 C d_M_route_50 rfl rfl (by first | assumption | omega) (by repeat' first | assumption | exact up_eq _ _ _ | refine up_ne (by omega) ?_) (by exact Nat.le_of_ble_eq_true rfl) ?_
  refine g_aload_n C rfl rfl d_M_route_53 ?_
  refine gf_M_26 C d_M_route_54 (by first | assumption | omega) (by repeat' first | assumption | exact up_eq _ _ _ | refine up_ne (by omega) ?_) (by rfl) ?_
  refine g_iconst (v := 0) C rfl d_M_route_57 ?_
  refine g_lald C d_M_route_58 (by first | assumption | omega) (by repeat' first | assumption | exact up_eq _ _ _ | refine up_ne (by omega) ?_) i0 ?_
  rw [show (0 : Int32).toNatClampNeg = 0 from rfl]
  refine g_lload C rfl d_M_route_59 ?_
  refine g_lcmp_eq (tgt := 77) C d_M_route_61 d_M_route_62 (by decide) (fun j61 => ?_) (fun j61 => ?_)
  · exact absurd ((pk_lEQ b0 hR3).mp j61) h3
  refine g_aload_n C rfl rfl d_M_route_65 ?_
  refine gf_M_26 C d_M_route_66 (by first | assumption | omega) (by repeat' first | assumption | exact up_eq _ _ _ | refine up_ne (by omega) ?_) (by rfl) ?_
  refine g_iconst (v := 1) C rfl d_M_route_69 ?_
  refine g_lald C d_M_route_70 (by first | assumption | omega) (by repeat' first | assumption | exact up_eq _ _ _ | refine up_ne (by omega) ?_) i1 ?_
  rw [show (1 : Int32).toNatClampNeg = 1 from rfl]
  refine g_lload C rfl d_M_route_71 ?_
  refine g_lcmp_ne (tgt := 79) C d_M_route_73 d_M_route_74 (by decide) (fun j73 => ?_) (fun j73 => ?_)
  rotate_left
  · exact absurd ((pk_lEQ b1 hR3).mp j73) h4
  refine g_aload_n C rfl rfl d_M_route_79 ?_
  refine g_iconst (v := 0) C rfl d_M_route_80 ?_
  refine g_iconst (v := 1) C rfl d_M_route_81 ?_
  refine g_iconst (v := 1) C rfl d_M_route_82 ?_
  refine g_iload_n C rfl rfl d_M_route_83 ?_
  refine g_i2l C d_M_route_84 ?_
  rw [hrl]
  refine g_lload C rfl d_M_route_85 ?_
  refine g_callV C (c_M_work (t0 := 3) (la := zla Z) (th := zth Z) (ow := zow Z) (pl := zpl Z) (lo := zlo Z) (hi := zhi Z) (am := zam Z) (pr := fun i => lN (zpr Z i)) (tc := fun i => iI (ztk Z i)) (fee := zfee Z) (dn := true) (ex := true) (np := np) (ng := ng) (tk := tk) (gt := gt) (ri := ri) (nt := nt) (p := 0) (r := r) (M := rt 0) (S := zpr Z 0) (f := zfee Z 0) (tz := ztk Z 0) hn (by unfold isM; exact (by repeat' first | assumption | exact up_eq _ _ _ | refine up_ne (by omega) ?_)) (isMR_mv a1 (by repeat' first | exact rfl | refine up_ne (by omega) ?_)) (isMP_mv a9 (fun j a b => by repeat' first | exact rfl | refine up_ne (by omega) ?_)) hB hA (by repeat' first | assumption | exact up_eq _ _ _ | refine up_ne (by omega) ?_) (by repeat' first | assumption | exact up_eq _ _ _ | refine up_ne (by omega) ?_) (by repeat' first | assumption | exact up_eq _ _ _ | refine up_ne (by omega) ?_) (by repeat' first | assumption | exact up_eq _ _ _ | refine up_ne (by omega) ?_) (by repeat' first | assumption | exact up_eq _ _ _ | refine up_ne (by omega) ?_) (by repeat' first | assumption | exact up_eq _ _ _ | refine up_ne (by omega) ?_) (by repeat' first | assumption | exact up_eq _ _ _ | refine up_ne (by omega) ?_) (by repeat' first | assumption | exact up_eq _ _ _ | refine up_ne (by omega) ?_) (by repeat' first | assumption | exact up_eq _ _ _ | refine up_ne (by omega) ?_) (by decide) rfl (hf 0 (by decide)) rfl rfl (Nat.le_refl _) (rt_le (by decide) (by decide)) hI hxf) Y_M_work m_813 s_M_work m_811 rfl rfl ⟨by decide, by decide⟩ ⟨by decide, by decide⟩ (fun h => nomatch h) d_M_route_87 (by first | assumption | omega) (by repeat' first | assumption | exact up_eq _ _ _ | refine up_ne (by omega) ?_) rfl (Nat.le_of_ble_eq_true rfl) (fun ret sg87 hq => ?_)
  obtain ⟨rfl, e17, e18, e19, e20, e21, e22, eF⟩ := hq
  have em : isM sg87 o m 3 (zla Z) := (eF m (by omega)).trans (by repeat' first | assumption | exact up_eq _ _ _ | refine up_ne (by omega) ?_)
  have em1 : sg87 m = _ := em
  have ew : ∀ j, j < m ∨ (m < j ∧ j < m + 17) ∨ m + 22 < j → sg87 j = sg j := fun j q => (eF j (by omega)).trans (by repeat' first | exact rfl | refine up_ne (by omega) ?_)
  have f1 : isMR sg87 m := isMR_mv a1 (ew _ (by omega))
  have f2 := (ew (m + 2) (by omega)).trans a2
  have f3 := (ew (m + 3) (by omega)).trans a3
  have f4 := (ew (m + 4) (by omega)).trans a4
  have f5 := (ew (m + 5) (by omega)).trans a5
  have f6 := (ew (m + 6) (by omega)).trans a6
  have f7 := (ew (m + 7) (by omega)).trans a7
  have f8 := (ew (m + 8) (by omega)).trans a8
  have f9 : isMP sg87 m (zth Z) (zow Z) (zpl Z) (zlo Z) (zhi Z) (zam Z) := isMP_mv a9 (fun j q1 q2 => ew j (by omega))
  have f15 := (ew (m + 15) (by omega)).trans a10
  have f16 := (ew (m + 16) (by omega)).trans a11
  refine g_aload_n C rfl rfl d_M_route_90 ?_
  refine gf_M_13 C d_M_route_91 (by first | assumption | omega) (by repeat' first | assumption | exact up_eq _ _ _ | refine up_ne (by omega) ?_) (by rfl) ?_
  refine g_iconst (v := 3) C rfl d_M_route_94 ?_
  refine g_iload_n C rfl rfl d_M_route_95 ?_
  refine g_imul C d_M_route_96 ?_
  rw [show (3 : Int32) = nI 3 from rfl, pk_mul, Nat.mul_comm 3 a]
  refine g_lald C d_M_route_97 (by first | assumption | omega) (by repeat' first | assumption | exact up_eq _ _ _ | refine up_ne (by omega) ?_) (vp_in_nI (by omega) (by decide)) ?_
  rw [nI_clamp (n := a * 3) (by omega)]
  refine g_aload_n C rfl rfl d_M_route_98 ?_
  refine gf_M_69 C d_M_route_99 (by first | assumption | omega) (by repeat' first | assumption | exact up_eq _ _ _ | refine up_ne (by omega) ?_) (by rfl) ?_
  refine g_iconst (v := 0) C rfl d_M_route_102 ?_
  refine g_lald C d_M_route_103 (by first | assumption | omega) (by repeat' first | assumption | exact up_eq _ _ _ | refine up_ne (by omega) ?_) i0 ?_
  rw [show (0 : Int32).toNatClampNeg = 0 from rfl, pk_usL, y1]
  refine g_lcmp_lt (tgt := 119) C d_M_route_104 d_M_route_105 (by decide) (fun j104 => ?_) (fun j104 => ?_)
  · exact absurd j104 h5
  refine g_aload_n C rfl rfl d_M_route_108 ?_
  refine gf_M_72 C d_M_route_109 (by first | assumption | omega) (by repeat' first | assumption | exact up_eq _ _ _ | refine up_ne (by omega) ?_) (by rfl) ?_
  refine g_iconst (v := 0) C rfl d_M_route_112 ?_
  refine g_lald C d_M_route_113 (by first | assumption | omega) (by repeat' first | assumption | exact up_eq _ _ _ | refine up_ne (by omega) ?_) i0 ?_
  rw [show (0 : Int32).toNatClampNeg = 0 from rfl, pk_usL, y1]
  refine g_lconst (v := 0) C rfl d_M_route_114 ?_
  refine g_lcmp_ne (tgt := 121) C d_M_route_115 d_M_route_116 (by decide) (fun j115 => ?_) (fun j115 => ?_)
  rotate_left
  · exact absurd j115 h6
  refine g_aload_n C rfl rfl d_M_route_121 ?_
  refine g_iconst (v := 1) C rfl d_M_route_122 ?_
  refine g_iconst (v := 1) C rfl d_M_route_123 ?_
  refine g_iconst (v := 1) C rfl d_M_route_124 ?_
  refine g_aload_n C rfl rfl d_M_route_125 ?_
  refine gf_M_72 C d_M_route_126 (by first | assumption | omega) (by repeat' first | assumption | exact up_eq _ _ _ | refine up_ne (by omega) ?_) (by rfl) ?_
  refine g_iconst (v := 0) C rfl d_M_route_129 ?_
  refine g_lald C d_M_route_130 (by first | assumption | omega) (by repeat' first | assumption | exact up_eq _ _ _ | refine up_ne (by omega) ?_) i0 ?_
  rw [show (0 : Int32).toNatClampNeg = 0 from rfl, pk_usL, y1, hg]
  refine g_lload C rfl d_M_route_131 ?_
  refine g_callV C (c_M_work (t0 := 3) (la := zla Z) (th := zth Z) (ow := zow Z) (pl := zpl Z) (lo := zlo Z) (hi := zhi Z) (am := zam Z) (pr := fun i => lN (zpr Z i)) (tc := fun i => iI (ztk Z i)) (fee := zfee Z) (dn := true) (ex := true) (p := 1) (r := g0) (M := rt 0) (S := zpr Z 1) (f := zfee Z 1) (tz := ztk Z 1) hn em f1 f9 hB hA f5 f6 f7 e17 e18 e19 e20 e21 e22 (by decide) rfl (hf 1 (by decide)) rfl rfl (Nat.le_refl _) (rt_le (by decide) (by decide)) hI1 hxg) Y_M_work m_813 s_M_work m_811 rfl rfl ⟨by decide, by decide⟩ ⟨by decide, by decide⟩ (fun h => nomatch h) d_M_route_133 (by first | assumption | omega) (by repeat' first | assumption | exact up_eq _ _ _ | refine up_ne (by omega) ?_) rfl (Nat.le_of_ble_eq_true rfl) (fun ret sg133 hq => ?_)
  obtain ⟨rfl, k17, k18, k19, k20, k21, k22, kF⟩ := hq
  have km : isM sg133 o m 3 (zla Z) := (kF m (by omega)).trans em
  have km1 : sg133 m = _ := km
  have kw : ∀ j, j < m ∨ (m < j ∧ j < m + 17) ∨ m + 22 < j → sg133 j = sg j := fun j q => (kF j (by omega)).trans (ew j q)
  refine g_aload_n C rfl rfl d_M_route_136 ?_
  refine gf_M_72 C d_M_route_137 (by first | assumption | omega) (by repeat' first | assumption | exact up_eq _ _ _ | refine up_ne (by omega) ?_) (by rfl) ?_
  refine g_iconst (v := 1) C rfl d_M_route_140 ?_
  refine g_lald C d_M_route_141 (by first | assumption | omega) (by repeat' first | assumption | exact up_eq _ _ _ | refine up_ne (by omega) ?_) i1 ?_
  rw [show (1 : Int32).toNatClampNeg = 1 from rfl, pk_usL, z1]
  refine g_iload_n C rfl rfl d_M_route_142 ?_
  refine g_i2l C d_M_route_143 ?_
  refine g_lcmp_ge (tgt := 150) C d_M_route_144 d_M_route_145 (by decide) (fun j144 => ?_) (fun j144 => ?_)
  · exact absurd h7 (Int64.not_lt.mpr j144)
  refine g_lconst (v := 0) C rfl d_M_route_148 ?_
  refine g_lret C E hr d_M_route_149 ?_
  exact ⟨rfl, ⟨km, MA_mv hW.2.1 (fun j q1 q2 => kw j (by omega)), ⟨_, _, _, _, _, _, k17, k18, k19, k20, k21, k22⟩⟩, fun j q => kw j (by omega)⟩
set_option maxHeartbeats 8000000 in
theorem c_M_route {l : Launch} {o n : Nat} {sg : Nat → va_E} {m : Nat} {t0 : Int32} {Z : ZS} (a r : Nat) (y : Int32) (hn : m + 22 < n) (hW : MW sg o m t0 Z) (ha : a < 4) (hr0 : 0 < r) (hr1 : r ≤ 100000000) (hB : pBd (zpl Z) (zlo Z) (zhi Z)) (hA : ∀ i, i < 12 → zam Z i ≤ 50000000) (hf : ∀ p, p < 2 → zfee Z p ≤ 100) (hT : ∀ p, p < 2 → TkOk (zpr Z p) (ztk Z p)) (h3 : ¬ zpr Z 0 = rt 0) (h4 : ¬ zpr Z 1 = rt 0) (g0 : Nat) (hg : (zWork Z 0 true true r (rt 0)).1.2.2.2.2 = lN g0) (hg0 : g0 ≤ 100000000) (h5 : ¬ zbal Z (a * 3) < (zWork Z 0 true true r (rt 0)).1.2.2.2.1) (h6 : ¬ (zWork Z 0 true true r (rt 0)).1.2.2.2.2 = 0) (h7 : ¬ (zWork Z 1 true true g0 (rt 0)).1.2.2.2.2 < y.toInt64) : GM l y_M_route b_M_route 6 (some .long) 6 184 0 0 o n n sg false [.ref (ad o m), .int (nI a), .int (nI r), .int y] (fun r0 s => some (.long (zWork Z 1 true true g0 (rt 0)).1.2.2.2.2) = r0 ∧ MW s o m 0 (zLa (zCarry (zCarry Z a 0 true (zWork Z 0 true true r (rt 0))) a 1 true (zWork Z 1 true true g0 (rt 0))) (zWork Z 0 true true r (rt 0)).1.2.2.2.1) ∧ mfr sg s m) := by
  have hm1 : sg m = _ := hW.1
  obtain ⟨a1, a2, a3, a4, a5, a6, a7, a8, a9, a10, a11⟩ := hW.2.1
  have i0 : vp_in (0 : Int32) 2 := vp_in_nI (n := 0) (by decide) (by decide)
  have i1 : vp_in (1 : Int32) 2 := vp_in_nI (n := 1) (by decide) (by decide)
  have hR3 : rt 0 < 2 ^ 63 := Nat.lt_trans (rt_up (by decide)) (by decide)
  obtain ⟨np, nt, ng, tk, gt, ri, x1, x2, x3, x4, x5, x6⟩ := hW.2.2
  have hrl : (nI r).toInt64 = lN r := nI_l (by omega)
  have hT0 := hT 0 (by decide)
  have hT1 := hT 1 (by decide)
  have l0 := rt_pos0 hT0
  have l1 := rt_pos0 hT1
  have b0 : zpr Z 0 < 2 ^ 63 := by have := hT0.2.2.2.1; omega
  have b1 : zpr Z 1 < 2 ^ 63 := by have := hT1.2.2.2.1; omega
  have hI : QI true (rt 0) (zpr Z 0, ztk Z 0, r, 0, 0) := ⟨hT0, hr1, l0⟩
  refine GM_of (by decide) (Nat.le_of_ble_eq_true rfl) ?_
  intro K C hl hz hr hnm E
  show G K o n sg 0 0 0 [(0, .ref (ad o m)), (1, .int (nI a)), (2, .int (nI r)), (3, .int y)] []
  obtain ⟨xf, hxf⟩ : ∃ xf, xf = mRun true true (zfee Z 0) (rt 0) (mSet (zth Z) (zpl Z) (zlo Z) (zhi Z) (zam Z) 0) (mIn (zth Z) (zpl Z) (zlo Z) (zhi Z) 0) (mDep (zth Z) (zpl Z) (zlo Z) (zhi Z) (zam Z) 0) 100 ((zpr Z 0, ztk Z 0, r, 0, 0), 0, riZ (zpl Z) 0 ri 12) := ⟨_, rfl⟩
  obtain ⟨y1, y2, y3⟩ := zWork_eq Z 0 true true r (rt 0) ri hxf
  generalize hwe : (zWork Z 0 true true r (rt 0)) = wk at *
  have hI1 : QI true (rt 0) (zpr Z 1, ztk Z 1, g0, 0, 0) := ⟨hT1, hg0, l1⟩
  obtain ⟨xg, hxg⟩ : ∃ xg, xg = mRun true true (zfee Z 1) (rt 0) (mSet (zth Z) (zpl Z) (zlo Z) (zhi Z) (zam Z) 1) (mIn (zth Z) (zpl Z) (zlo Z) (zhi Z) 1) (mDep (zth Z) (zpl Z) (zlo Z) (zhi Z) (zam Z) 1) 100 ((zpr Z 1, ztk Z 1, g0, 0, 0), 0, riZ (zpl Z) 1 xf.2.2 12) := ⟨_, rfl⟩
  obtain ⟨z1, z2, z3⟩ := zWork_eq Z 1 true true g0 (rt 0) xf.2.2 hxg
  have z4 : ∀ i, i < 12 → zpl Z i = 0 → xg.2.2 i = wk.2.2 i := fun i q1 q2 => by
    rw [hxg, mRun_keep (fun tz => by unfold mIn; rw [decide_eq_false (fun q => by omega), Bool.and_false])]
    show riZ (zpl Z) 1 xf.2.2 12 i = _
    unfold riZ
    rw [if_neg (fun q => by omega)]
    exact y3 i q1 q2
  generalize hwf : (zWork Z 1 true true g0 (rt 0)) = wl at *
  refine g_aload_n C rfl rfl d_M_route_0 ?_
  refine g_iload_n C rfl rfl d_M_route_1 ?_
  refine g_callS C (c_M_isOwner (nI a)) Y_M_isOwner m_726 m_725 ⟨by decide, by decide⟩ ⟨by decide, by decide⟩ (fun h => nomatch h) d_M_route_2 rfl (Nat.le_of_ble_eq_true rfl) (fun ret sg2 hq => ?_)
  obtain ⟨rfl, rfl⟩ := hq
  refine g_if_ne (tgt := 12) C d_M_route_5 (by decide) (fun j5 => ?_) (fun j5 => ?_)
  rotate_left
  · exact absurd (j5.symm.trans (bzd (ok4 ha))) (by decide)
  refine g_iload_n C rfl rfl d_M_route_12 ?_
  refine g_iconst (v := 1) C rfl d_M_route_13 ?_
  refine g_icmp_lt (tgt := 23) C d_M_route_14 (by decide) (fun j14 => ?_) (fun j14 => ?_)
  · exact absurd j14 (nI_nlt (b := 1) hr0 (by omega))
  refine g_iload_n C rfl rfl d_M_route_17 ?_
  refine g_ldc C m_810 d_M_route_18 ?_
  refine g_icmp_le (tgt := 27) C d_M_route_20 (by decide) (fun j20 => ?_) (fun j20 => ?_)
  rotate_left
  · exact absurd (nI_le (b := 100000000) hr1 (by decide)) j20
  refine g_iconst (v := 0) C rfl d_M_route_27 ?_
  refine pf_M_84 C d_M_route_28 rfl rfl (by first | assumption | omega) (by repeat' first | assumption | exact up_eq _ _ _ | refine up_ne (by omega) ?_) (by exact Nat.le_of_ble_eq_true rfl) ?_
  refine g_aload_n C rfl rfl d_M_route_31 ?_
  refine gf_M_84 C d_M_route_32 (by first | assumption | omega) (by repeat' first | assumption | exact up_eq _ _ _ | refine up_ne (by omega) ?_) (by rfl) ?_
  refine g_if_le (tgt := 40) C d_M_route_35 (by decide) (fun j35 => ?_) (fun j35 => ?_)
  rotate_left
  · exact absurd (by decide) j35
  refine g_aload_n C rfl rfl d_M_route_40 ?_
  refine g_bipush (v := -40) C rfl d_M_route_41 ?_
  rw [show (-40 : Int32) = iI (-40) from by decide]
  refine g_callV C (c_M_rootOf (th := 0) (la := zla Z) (-40) hn (by unfold isM; exact (by repeat' first | assumption | exact up_eq _ _ _ | refine up_ne (by omega) ?_)) (isMR_mv a1 (by repeat' first | exact rfl | refine up_ne (by omega) ?_)) (by decide) (by decide)) Y_M_rootOf m_761 s_M_rootOf m_759 rfl rfl ⟨by decide, by decide⟩ ⟨by decide, by decide⟩ (fun h => nomatch h) d_M_route_43 (by first | assumption | omega) (by repeat' first | assumption | exact up_eq _ _ _ | refine up_ne (by omega) ?_) rfl (Nat.le_of_ble_eq_true rfl) (fun ret sg43 hq => ?_)
  obtain ⟨rfl, rfl⟩ := hq
  rw [show tx (-40) = 0 from rfl]
  refine g_lstore (lv' := [(4, .long (lN (rt 0))), (0, .ref (ad o m)), (1, .int (nI a)), (2, .int (nI r)), (3, .int y)]) C d_M_route_46 (by decide) rfl ?_
  refine g_aload_n C rfl rfl d_M_route_48 ?_
  refine g_iconst (v := 3) C rfl d_M_route_49 ?_
  refine pf_M_84 C d_M_route_50 rfl rfl (by first | assumption | omega) (by repeat' first | assumption | exact up_eq _ _ _ | refine up_ne (by omega) ?_) (by exact Nat.le_of_ble_eq_true rfl) ?_
  refine g_aload_n C rfl rfl d_M_route_53 ?_
  refine gf_M_26 C d_M_route_54 (by first | assumption | omega) (by repeat' first | assumption | exact up_eq _ _ _ | refine up_ne (by omega) ?_) (by rfl) ?_
  refine g_iconst (v := 0) C rfl d_M_route_57 ?_
  refine g_lald C d_M_route_58 (by first | assumption | omega) (by repeat' first | assumption | exact up_eq _ _ _ | refine up_ne (by omega) ?_) i0 ?_
  rw [show (0 : Int32).toNatClampNeg = 0 from rfl]
  refine g_lload C rfl d_M_route_59 ?_
  refine g_lcmp_eq (tgt := 77) C d_M_route_61 d_M_route_62 (by decide) (fun j61 => ?_) (fun j61 => ?_)
  · exact absurd ((pk_lEQ b0 hR3).mp j61) h3
  refine g_aload_n C rfl rfl d_M_route_65 ?_
  refine gf_M_26 C d_M_route_66 (by first | assumption | omega) (by repeat' first | assumption | exact up_eq _ _ _ | refine up_ne (by omega) ?_) (by rfl) ?_
  refine g_iconst (v := 1) C rfl d_M_route_69 ?_
  refine g_lald C d_M_route_70 (by first | assumption | omega) (by repeat' first | assumption | exact up_eq _ _ _ | refine up_ne (by omega) ?_) i1 ?_
  rw [show (1 : Int32).toNatClampNeg = 1 from rfl]
  refine g_lload C rfl d_M_route_71 ?_
  refine g_lcmp_ne (tgt := 79) C d_M_route_73 d_M_route_74 (by decide) (fun j73 => ?_) (fun j73 => ?_)
  rotate_left
  · exact absurd ((pk_lEQ b1 hR3).mp j73) h4
  refine g_aload_n C rfl rfl d_M_route_79 ?_
  refine g_iconst (v := 0) C rfl d_M_route_80 ?_
  refine g_iconst (v := 1) C rfl d_M_route_81 ?_
  refine g_iconst (v := 1) C rfl d_M_route_82 ?_
  refine g_iload_n C rfl rfl d_M_route_83 ?_
  refine g_i2l C d_M_route_84 ?_
  rw [hrl]
  refine g_lload C rfl d_M_route_85 ?_
  refine g_callV C (c_M_work (t0 := 3) (la := zla Z) (th := zth Z) (ow := zow Z) (pl := zpl Z) (lo := zlo Z) (hi := zhi Z) (am := zam Z) (pr := fun i => lN (zpr Z i)) (tc := fun i => iI (ztk Z i)) (fee := zfee Z) (dn := true) (ex := true) (np := np) (ng := ng) (tk := tk) (gt := gt) (ri := ri) (nt := nt) (p := 0) (r := r) (M := rt 0) (S := zpr Z 0) (f := zfee Z 0) (tz := ztk Z 0) hn (by unfold isM; exact (by repeat' first | assumption | exact up_eq _ _ _ | refine up_ne (by omega) ?_)) (isMR_mv a1 (by repeat' first | exact rfl | refine up_ne (by omega) ?_)) (isMP_mv a9 (fun j a b => by repeat' first | exact rfl | refine up_ne (by omega) ?_)) hB hA (by repeat' first | assumption | exact up_eq _ _ _ | refine up_ne (by omega) ?_) (by repeat' first | assumption | exact up_eq _ _ _ | refine up_ne (by omega) ?_) (by repeat' first | assumption | exact up_eq _ _ _ | refine up_ne (by omega) ?_) (by repeat' first | assumption | exact up_eq _ _ _ | refine up_ne (by omega) ?_) (by repeat' first | assumption | exact up_eq _ _ _ | refine up_ne (by omega) ?_) (by repeat' first | assumption | exact up_eq _ _ _ | refine up_ne (by omega) ?_) (by repeat' first | assumption | exact up_eq _ _ _ | refine up_ne (by omega) ?_) (by repeat' first | assumption | exact up_eq _ _ _ | refine up_ne (by omega) ?_) (by repeat' first | assumption | exact up_eq _ _ _ | refine up_ne (by omega) ?_) (by decide) rfl (hf 0 (by decide)) rfl rfl (Nat.le_refl _) (rt_le (by decide) (by decide)) hI hxf) Y_M_work m_813 s_M_work m_811 rfl rfl ⟨by decide, by decide⟩ ⟨by decide, by decide⟩ (fun h => nomatch h) d_M_route_87 (by first | assumption | omega) (by repeat' first | assumption | exact up_eq _ _ _ | refine up_ne (by omega) ?_) rfl (Nat.le_of_ble_eq_true rfl) (fun ret sg87 hq => ?_)
  obtain ⟨rfl, e17, e18, e19, e20, e21, e22, eF⟩ := hq
  have em : isM sg87 o m 3 (zla Z) := (eF m (by omega)).trans (by repeat' first | assumption | exact up_eq _ _ _ | refine up_ne (by omega) ?_)
  have em1 : sg87 m = _ := em
  have ew : ∀ j, j < m ∨ (m < j ∧ j < m + 17) ∨ m + 22 < j → sg87 j = sg j := fun j q => (eF j (by omega)).trans (by repeat' first | exact rfl | refine up_ne (by omega) ?_)
  have f1 : isMR sg87 m := isMR_mv a1 (ew _ (by omega))
  have f2 := (ew (m + 2) (by omega)).trans a2
  have f3 := (ew (m + 3) (by omega)).trans a3
  have f4 := (ew (m + 4) (by omega)).trans a4
  have f5 := (ew (m + 5) (by omega)).trans a5
  have f6 := (ew (m + 6) (by omega)).trans a6
  have f7 := (ew (m + 7) (by omega)).trans a7
  have f8 := (ew (m + 8) (by omega)).trans a8
  have f9 : isMP sg87 m (zth Z) (zow Z) (zpl Z) (zlo Z) (zhi Z) (zam Z) := isMP_mv a9 (fun j q1 q2 => ew j (by omega))
  have f15 := (ew (m + 15) (by omega)).trans a10
  have f16 := (ew (m + 16) (by omega)).trans a11
  refine g_aload_n C rfl rfl d_M_route_90 ?_
  refine gf_M_13 C d_M_route_91 (by first | assumption | omega) (by repeat' first | assumption | exact up_eq _ _ _ | refine up_ne (by omega) ?_) (by rfl) ?_
  refine g_iconst (v := 3) C rfl d_M_route_94 ?_
  refine g_iload_n C rfl rfl d_M_route_95 ?_
  refine g_imul C d_M_route_96 ?_
  rw [show (3 : Int32) = nI 3 from rfl, pk_mul, Nat.mul_comm 3 a]
  refine g_lald C d_M_route_97 (by first | assumption | omega) (by repeat' first | assumption | exact up_eq _ _ _ | refine up_ne (by omega) ?_) (vp_in_nI (by omega) (by decide)) ?_
  rw [nI_clamp (n := a * 3) (by omega)]
  refine g_aload_n C rfl rfl d_M_route_98 ?_
  refine gf_M_69 C d_M_route_99 (by first | assumption | omega) (by repeat' first | assumption | exact up_eq _ _ _ | refine up_ne (by omega) ?_) (by rfl) ?_
  refine g_iconst (v := 0) C rfl d_M_route_102 ?_
  refine g_lald C d_M_route_103 (by first | assumption | omega) (by repeat' first | assumption | exact up_eq _ _ _ | refine up_ne (by omega) ?_) i0 ?_
  rw [show (0 : Int32).toNatClampNeg = 0 from rfl, pk_usL, y1]
  refine g_lcmp_lt (tgt := 119) C d_M_route_104 d_M_route_105 (by decide) (fun j104 => ?_) (fun j104 => ?_)
  · exact absurd j104 h5
  refine g_aload_n C rfl rfl d_M_route_108 ?_
  refine gf_M_72 C d_M_route_109 (by first | assumption | omega) (by repeat' first | assumption | exact up_eq _ _ _ | refine up_ne (by omega) ?_) (by rfl) ?_
  refine g_iconst (v := 0) C rfl d_M_route_112 ?_
  refine g_lald C d_M_route_113 (by first | assumption | omega) (by repeat' first | assumption | exact up_eq _ _ _ | refine up_ne (by omega) ?_) i0 ?_
  rw [show (0 : Int32).toNatClampNeg = 0 from rfl, pk_usL, y1]
  refine g_lconst (v := 0) C rfl d_M_route_114 ?_
  refine g_lcmp_ne (tgt := 121) C d_M_route_115 d_M_route_116 (by decide) (fun j115 => ?_) (fun j115 => ?_)
  rotate_left
  · exact absurd j115 h6
  refine g_aload_n C rfl rfl d_M_route_121 ?_
  refine g_iconst (v := 1) C rfl d_M_route_122 ?_
  refine g_iconst (v := 1) C rfl d_M_route_123 ?_
  refine g_iconst (v := 1) C rfl d_M_route_124 ?_
  refine g_aload_n C rfl rfl d_M_route_125 ?_
  refine gf_M_72 C d_M_route_126 (by first | assumption | omega) (by repeat' first | assumption | exact up_eq _ _ _ | refine up_ne (by omega) ?_) (by rfl) ?_
  refine g_iconst (v := 0) C rfl d_M_route_129 ?_
  refine g_lald C d_M_route_130 (by first | assumption | omega) (by repeat' first | assumption | exact up_eq _ _ _ | refine up_ne (by omega) ?_) i0 ?_
  rw [show (0 : Int32).toNatClampNeg = 0 from rfl, pk_usL, y1, hg]
  refine g_lload C rfl d_M_route_131 ?_
  refine g_callV C (c_M_work (t0 := 3) (la := zla Z) (th := zth Z) (ow := zow Z) (pl := zpl Z) (lo := zlo Z) (hi := zhi Z) (am := zam Z) (pr := fun i => lN (zpr Z i)) (tc := fun i => iI (ztk Z i)) (fee := zfee Z) (dn := true) (ex := true) (p := 1) (r := g0) (M := rt 0) (S := zpr Z 1) (f := zfee Z 1) (tz := ztk Z 1) hn em f1 f9 hB hA f5 f6 f7 e17 e18 e19 e20 e21 e22 (by decide) rfl (hf 1 (by decide)) rfl rfl (Nat.le_refl _) (rt_le (by decide) (by decide)) hI1 hxg) Y_M_work m_813 s_M_work m_811 rfl rfl ⟨by decide, by decide⟩ ⟨by decide, by decide⟩ (fun h => nomatch h) d_M_route_133 (by first | assumption | omega) (by repeat' first | assumption | exact up_eq _ _ _ | refine up_ne (by omega) ?_) rfl (Nat.le_of_ble_eq_true rfl) (fun ret sg133 hq => ?_)
  obtain ⟨rfl, k17, k18, k19, k20, k21, k22, kF⟩ := hq
  have km : isM sg133 o m 3 (zla Z) := (kF m (by omega)).trans em
  have km1 : sg133 m = _ := km
  have kw : ∀ j, j < m ∨ (m < j ∧ j < m + 17) ∨ m + 22 < j → sg133 j = sg j := fun j q => (kF j (by omega)).trans (ew j q)
  refine g_aload_n C rfl rfl d_M_route_136 ?_
  refine gf_M_72 C d_M_route_137 (by first | assumption | omega) (by repeat' first | assumption | exact up_eq _ _ _ | refine up_ne (by omega) ?_) (by rfl) ?_
  refine g_iconst (v := 1) C rfl d_M_route_140 ?_
  refine g_lald C d_M_route_141 (by first | assumption | omega) (by repeat' first | assumption | exact up_eq _ _ _ | refine up_ne (by omega) ?_) i1 ?_
  rw [show (1 : Int32).toNatClampNeg = 1 from rfl, pk_usL, z1]
  refine g_iload_n C rfl rfl d_M_route_142 ?_
  refine g_i2l C d_M_route_143 ?_
  refine g_lcmp_ge (tgt := 150) C d_M_route_144 d_M_route_145 (by decide) (fun j144 => ?_) (fun j144 => ?_)
  rotate_left
  · exact absurd (Int64.not_lt.mp h7) j144
  refine g_aload_n C rfl rfl d_M_route_150 ?_
  refine g_iconst (v := 0) C rfl d_M_route_151 ?_
  refine pf_M_84 C d_M_route_152 rfl rfl (by first | assumption | omega) (by repeat' first | assumption | exact up_eq _ _ _ | refine up_ne (by omega) ?_) (by exact Nat.le_of_ble_eq_true rfl) ?_
  refine g_aload_n C rfl rfl d_M_route_155 ?_
  refine g_iload_n C rfl rfl d_M_route_156 ?_
  refine g_iconst (v := 0) C rfl d_M_route_157 ?_
  refine g_iconst (v := 1) C rfl d_M_route_158 ?_
  refine g_callV C (c_M_carryOut (t0 := 0) (la := zla Z) (th := zth Z) (ow := zow Z) (pl := zpl Z) (lo := zlo Z) (hi := zhi Z) (am := zam Z) (np := vp_updL (vp_updL np 0 (lN xf.1.1)) 1 (lN xg.1.1)) (ng := vp_updL (vp_updL ng 0 xf.2.1) 1 xg.2.1) (tk := vp_updL (vp_updL tk 0 xf.1.2.2.2.1) 1 xg.1.2.2.2.1) (gt := vp_updL (vp_updL gt 0 xf.1.2.2.2.2) 1 xg.1.2.2.2.2) (ri := xg.2.2) (pr := fun i => lN (zpr Z i)) (bal := zbal Z) (hol := zhol Z) (gw := zgw Z) (fa := zfa Z) (nt := upd (upd nt 0 (iI xf.1.2.1)) 1 (iI xg.1.2.1)) (tc := fun i => iI (ztk Z i)) a 0 true hn (by unfold isM; exact (by repeat' first | assumption | exact up_eq _ _ _ | refine up_ne (by omega) ?_)) (isMP_mv a9 (fun j q1 q2 => up_ne (by omega) (kw j (by omega)))) hB (up_ne (by omega) ((kw _ (by omega)).trans a2)) (up_ne (by omega) ((kw _ (by omega)).trans a4)) (up_ne (by omega) ((kw _ (by omega)).trans a6)) (up_ne (by omega) ((kw _ (by omega)).trans a7)) (up_ne (by omega) ((kw _ (by omega)).trans a8)) (up_ne (by omega) ((kw _ (by omega)).trans a10)) (by repeat' first | assumption | exact up_eq _ _ _ | refine up_ne (by omega) ?_) (by repeat' first | assumption | exact up_eq _ _ _ | refine up_ne (by omega) ?_) (by repeat' first | assumption | exact up_eq _ _ _ | refine up_ne (by omega) ?_) (by repeat' first | assumption | exact up_eq _ _ _ | refine up_ne (by omega) ?_) (by repeat' first | assumption | exact up_eq _ _ _ | refine up_ne (by omega) ?_) (by repeat' first | assumption | exact up_eq _ _ _ | refine up_ne (by omega) ?_) ha (by decide)) Y_M_carryOut m_845 s_M_carryOut m_843 rfl rfl ⟨by decide, by decide⟩ ⟨by decide, by decide⟩ (fun h => nomatch h) d_M_route_159 (by first | assumption | omega) (by repeat' first | assumption | exact up_eq _ _ _ | refine up_ne (by omega) ?_) rfl (Nat.le_of_ble_eq_true rfl) (fun ret sg159 hq => ?_)
  obtain ⟨rfl, u2, u4, u6, u7, u8, u15, uF⟩ := hq
  rw [pk_unL (show 0 ≠ 1 by decide), pk_usL, pk_unL (show 0 ≠ 1 by decide), pk_usL, y1] at u2
  rw [pk_unL (show 0 ≠ 1 by decide), pk_usL, pk_unL (show 0 ≠ 1 by decide), pk_usL, y1] at u4
  rw [pk_unL (show 0 ≠ 1 by decide), pk_usL, y1, updN_l] at u6
  rw [pk_un (show 0 ≠ 1 by decide), pk_us, y1, updZ_i] at u7
  rw [pk_unL (show 0 ≠ 1 by decide), pk_usL, y2] at u8
  rw [faC_eq (b := bThP (zth Z) (zpl Z) 0) (r2 := wk.2.2) (fun i q1 q2 => z4 i q1 (of_decide_eq_true (Bool.and_eq_true_iff.mp q2).2))] at u15
  have um : isM sg159 o m 0 (zla Z) := (uF m (by omega) (by omega) (by omega) (by omega) (by omega) (by omega)).trans (by repeat' first | assumption | exact up_eq _ _ _ | refine up_ne (by omega) ?_)
  have um1 : sg159 m = _ := um
  have uw : ∀ j, j ≠ m → j ≠ m + 2 → j ≠ m + 4 → j ≠ m + 6 → j ≠ m + 7 → j ≠ m + 8 → j ≠ m + 15 → sg159 j = sg133 j := fun j q1 q2 q3 q4 q5 q6 q7 => (uF j q2 q3 q4 q5 q6 q7).trans (up_ne q1 rfl)
  have u17 := (uw (m + 17) (by omega) (by omega) (by omega) (by omega) (by omega) (by omega) (by omega)).trans k17
  have u18 := (uw (m + 18) (by omega) (by omega) (by omega) (by omega) (by omega) (by omega) (by omega)).trans k18
  have u19 := (uw (m + 19) (by omega) (by omega) (by omega) (by omega) (by omega) (by omega) (by omega)).trans k19
  have u20 := (uw (m + 20) (by omega) (by omega) (by omega) (by omega) (by omega) (by omega) (by omega)).trans k20
  have u21 := (uw (m + 21) (by omega) (by omega) (by omega) (by omega) (by omega) (by omega) (by omega)).trans k21
  have u22 := (uw (m + 22) (by omega) (by omega) (by omega) (by omega) (by omega) (by omega) (by omega)).trans k22
  refine g_aload_n C rfl rfl d_M_route_162 ?_
  refine g_iload_n C rfl rfl d_M_route_163 ?_
  refine g_iconst (v := 1) C rfl d_M_route_164 ?_
  refine g_iconst (v := 1) C rfl d_M_route_165 ?_
  refine g_callV C (c_M_carryOut (th := zth Z) (ow := zow Z) (pl := zpl Z) (lo := zlo Z) (hi := zhi Z) (am := zam Z) a 1 true hn um (isMP_mv a9 (fun j q1 q2 => (uw j (by omega) (by omega) (by omega) (by omega) (by omega) (by omega) (by omega)).trans (kw j (by omega)))) hB u2 u4 u6 u7 u8 u15 u17 u18 u19 u20 u21 u22 ha (by decide)) Y_M_carryOut m_845 s_M_carryOut m_843 rfl rfl ⟨by decide, by decide⟩ ⟨by decide, by decide⟩ (fun h => nomatch h) d_M_route_166 (by first | assumption | omega) (by repeat' first | assumption | exact up_eq _ _ _ | refine up_ne (by omega) ?_) rfl (Nat.le_of_ble_eq_true rfl) (fun ret sg166 hq => ?_)
  obtain ⟨rfl, v2, v4, v6, v7, v8, v15, vF⟩ := hq
  rw [pk_usL, pk_usL, z1] at v2
  rw [pk_usL, pk_usL, z1] at v4
  rw [pk_usL, z1, updN_l] at v6
  rw [pk_us, z1, updZ_i] at v7
  rw [pk_usL, z2] at v8
  rw [faC_eq (b := bThP (zth Z) (zpl Z) 1) (r2 := wl.2.2) (fun i q1 q2 => z3 i q1 (of_decide_eq_true (Bool.and_eq_true_iff.mp q2).2))] at v15
  have vm1 : sg166 m = _ := (vF m (by omega) (by omega) (by omega) (by omega) (by omega) (by omega)).trans um
  have vw : ∀ j, j ≠ m → j ≠ m + 2 → j ≠ m + 4 → j ≠ m + 6 → j ≠ m + 7 → j ≠ m + 8 → j ≠ m + 15 → sg166 j = sg133 j := fun j q1 q2 q3 q4 q5 q6 q7 => (vF j q2 q3 q4 q5 q6 q7).trans (uw j q1 q2 q3 q4 q5 q6 q7)
  have v20 := (vw (m + 20) (by omega) (by omega) (by omega) (by omega) (by omega) (by omega) (by omega)).trans k20
  have v21 := (vw (m + 21) (by omega) (by omega) (by omega) (by omega) (by omega) (by omega) (by omega)).trans k21
  refine g_aload_n C rfl rfl d_M_route_169 ?_
  refine g_aload_n C rfl rfl d_M_route_170 ?_
  refine gf_M_69 C d_M_route_171 (by first | assumption | omega) (by repeat' first | assumption | exact up_eq _ _ _ | refine up_ne (by omega) ?_) (by rfl) ?_
  refine g_iconst (v := 0) C rfl d_M_route_174 ?_
  refine g_lald C d_M_route_175 (by first | assumption | omega) (by repeat' first | assumption | exact up_eq _ _ _ | refine up_ne (by omega) ?_) i0 ?_
  rw [show (0 : Int32).toNatClampNeg = 0 from rfl, pk_unL (show 0 ≠ 1 by decide), pk_usL, y1]
  refine pf_M_199 C d_M_route_176 rfl rfl (by first | assumption | omega) (by repeat' first | assumption | exact up_eq _ _ _ | refine up_ne (by omega) ?_) (by exact Nat.le_of_ble_eq_true rfl) ?_
  refine g_aload_n C rfl rfl d_M_route_179 ?_
  refine gf_M_72 C d_M_route_180 (by first | assumption | omega) (by repeat' first | assumption | exact up_eq _ _ _ | refine up_ne (by omega) ?_) (by rfl) ?_
  refine g_iconst (v := 1) C rfl d_M_route_183 ?_
  refine g_lald C d_M_route_184 (by first | assumption | omega) (by repeat' first | assumption | exact up_eq _ _ _ | refine up_ne (by omega) ?_) i1 ?_
  rw [show (1 : Int32).toNatClampNeg = 1 from rfl, pk_usL, z1]
  refine g_lret C E hr d_M_route_185 ?_
  exact ⟨rfl, ⟨by unfold isM; exact (by repeat' first | assumption | exact up_eq _ _ _ | refine up_ne (by omega) ?_), ⟨isMR_mv a1 (up_ne (by omega) ((vw _ (by omega) (by omega) (by omega) (by omega) (by omega) (by omega) (by omega)).trans (kw _ (by omega)))), (by repeat' first | assumption | exact up_eq _ _ _ | refine up_ne (by omega) ?_), up_ne (by omega) (((vw _ (by omega) (by omega) (by omega) (by omega) (by omega) (by omega) (by omega)).trans (kw _ (by omega))).trans a3), (by repeat' first | assumption | exact up_eq _ _ _ | refine up_ne (by omega) ?_), up_ne (by omega) (((vw _ (by omega) (by omega) (by omega) (by omega) (by omega) (by omega) (by omega)).trans (kw _ (by omega))).trans a5), (by repeat' first | assumption | exact up_eq _ _ _ | refine up_ne (by omega) ?_), (by repeat' first | assumption | exact up_eq _ _ _ | refine up_ne (by omega) ?_), (by repeat' first | assumption | exact up_eq _ _ _ | refine up_ne (by omega) ?_), isMP_mv a9 (fun j q1 q2 => up_ne (by omega) ((vw _ (by omega) (by omega) (by omega) (by omega) (by omega) (by omega) (by omega)).trans (kw _ (by omega)))), (by repeat' first | assumption | exact up_eq _ _ _ | refine up_ne (by omega) ?_), up_ne (by omega) (((vw _ (by omega) (by omega) (by omega) (by omega) (by omega) (by omega) (by omega)).trans (kw _ (by omega))).trans a11)⟩, MX_mv ⟨_, _, _, _, _, _, k17, k18, k19, k20, k21, k22⟩ (fun j q1 q2 => up_ne (by omega) (vw _ (by omega) (by omega) (by omega) (by omega) (by omega) (by omega) (by omega)))⟩, fun j q => by repeat' first | exact (vw _ (by omega) (by omega) (by omega) (by omega) (by omega) (by omega) (by omega)).trans (kw j (by omega)) | refine up_ne (by omega) ?_⟩

