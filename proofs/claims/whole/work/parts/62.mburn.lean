-- BURN IN THE REFERENCE
theorem okT_i {z : Int} (h1 : -40 ≤ z) (h2 : z ≤ 40) : okT (iI z) := by
  unfold okT
  rw [show (-40 : Int32) = iI (-40) from by decide, show (40 : Int32) = iI 40 from by decide, iI_le (by omega) (by omega) (by omega) (by omega), iI_le (by omega) (by omega) (by omega) (by omega)]
  exact ⟨h1, h2⟩
def updN (f : Nat → Nat) (k x : Nat) : Nat → Nat := fun j => if j = k then x else f j
theorem updN_s {f : Nat → Nat} {k x : Nat} : updN f k x k = x := if_pos rfl
theorem updN_n {f : Nat → Nat} {k x j : Nat} (h : j ≠ k) : updN f k x j = f j := if_neg h
theorem updN_l {f : Nat → Nat} {k x : Nat} : vp_updL (fun i => lN (f i)) k (lN x) = fun i => lN (updN f k x i) := by
  funext j
  by_cases e : j = k
  · subst e; rw [pk_usL, updN_s]
  · rw [pk_unL e, updN_n e]
theorem tk_hi {S : Nat} {tz lo hi : Int} (h : TkOk S tz) (h1 : lo ≤ tz) (h2 : tz < hi) (h3 : hi ≤ 40) : S ≤ rt (tx hi) := Nat.le_trans (h.2.2.2.2.2 (by omega)) (rt_le (by unfold tx; omega) (tx_le h3))
theorem tk_lo {S : Nat} {tz lo : Int} (h : TkOk S tz) (h0 : -40 ≤ lo) (h1 : lo ≤ tz) : rt (tx lo) ≤ S := Nat.le_trans (rt_le (by unfold tx; omega) (tx_le h.2.1)) (h.2.2.2.2.1 (by omega))
def zAdd2 (od : Nat → Int64) (k : Nat) (x y : Int64) : Nat → Int64 := vp_updL (vp_updL od (2 * k) (od (2 * k) + x)) (2 * k + 1) (od (2 * k + 1) + y)
def zBurn (Z : ZS) (p k L : Nat) (lo hi : Int) : ZS := (Z.1, Z.2.1, zow Z, zpl Z, zlo Z, zhi Z, updN (zam Z) k (zam Z k - L), sFa (zfa Z) k, zAdd2 (sOd (zod Z) (zfa Z) (lN (zam Z k)) k) k (lN (zWN false L (zpr Z p) (ztk Z p) lo hi)) (lN (zWF false L (zpr Z p) (ztk Z p) lo hi)))
theorem sOd_n {od fa : Nat → Int64} {a : Int64} {k i : Nat} (h1 : i ≠ 2 * k) (h2 : i ≠ 2 * k + 1) : sOd od fa a k i = od i := by
  unfold sOd
  rw [pk_unL h2, pk_unL h1]
theorem zAdd2_n {od : Nat → Int64} {x y : Int64} {k i : Nat} (h1 : i ≠ 2 * k) (h2 : i ≠ 2 * k + 1) : zAdd2 od k x y i = od i := by
  unfold zAdd2
  rw [pk_unL h2, pk_unL h1]
theorem e_M_burn1 {l : Launch} {o n : Nat} {sg : Nat → va_E} {m : Nat} {t0 : Int32} {Z : ZS} (a b c d x : Int32) (hn : m + 22 < n) (hW : MW sg o m t0 Z) (h : ¬ okPl a b c d) : GM l y_M_burn b_M_burn 7 (some .int) 5 126 0 0 o n n sg false [.ref (ad o m), .int a, .int b, .int c, .int d, .int x] (fun r0 s => some (.int 0) = r0 ∧ MW s o m 1 Z ∧ mfr sg s m) := by
  have hm1 : sg m = _ := hW.1
  obtain ⟨a1, a2, a3, a4, a5, a6, a7, a8, a9, a10, a11⟩ := hW.2.1
  refine GM_of (by decide) (Nat.le_of_ble_eq_true rfl) ?_
  intro K C hl hz hr hnm E
  show G K o n sg 0 0 0 [(0, .ref (ad o m)), (1, .int a), (2, .int b), (3, .int c), (4, .int d), (5, .int x)] []
  refine g_aload_n C rfl rfl d_M_burn_0 ?_
  refine g_iload_n C rfl rfl d_M_burn_1 ?_
  refine g_iload_n C rfl rfl d_M_burn_2 ?_
  refine g_iload_n C rfl rfl d_M_burn_3 ?_
  refine g_iload C rfl d_M_burn_4 ?_
  refine g_callS C (c_M_all a b c d) Y_M_all m_741 m_740 ⟨by decide, by decide⟩ ⟨by decide, by decide⟩ (fun h => nomatch h) d_M_burn_6 rfl (Nat.le_of_ble_eq_true rfl) (fun ret sg6 hq => ?_)
  obtain ⟨rfl, rfl⟩ := hq
  refine g_if_ne (tgt := 16) C d_M_burn_9 (by decide) (fun j9 => ?_) (fun j9 => ?_)
  · exact absurd (b_okPl (nb0 j9)) h
  refine g_iconst (v := 1) C rfl d_M_burn_12 ?_
  refine g_goto (tgt := 32) C d_M_burn_13 (by decide) ?_
  refine pf_M_84 C d_M_burn_32 rfl rfl (by first | assumption | omega) (by repeat' first | assumption | exact up_eq _ _ _ | refine up_ne (by omega) ?_) (by exact Nat.le_of_ble_eq_true rfl) ?_
  refine g_aload_n C rfl rfl d_M_burn_35 ?_
  refine gf_M_84 C d_M_burn_36 (by first | assumption | omega) (by repeat' first | assumption | exact up_eq _ _ _ | refine up_ne (by omega) ?_) (by rfl) ?_
  refine g_if_le (tgt := 44) C d_M_burn_39 (by decide) (fun j39 => ?_) (fun j39 => ?_)
  · exact absurd j39 (by decide)
  refine g_iconst (v := 0) C rfl d_M_burn_42 ?_
  refine g_iret C E hr d_M_burn_43 ?_
  exact ⟨rfl, MW_up hW (by unfold isM; exact (by repeat' first | assumption | exact up_eq _ _ _ | refine up_ne (by omega) ?_)) (fun j a b => by repeat' first | exact rfl | refine up_ne (by omega) ?_), (fun j a => by repeat' first | exact rfl | refine up_ne (by omega) ?_)⟩
theorem e_M_burn2 {l : Launch} {o n : Nat} {sg : Nat → va_E} {m : Nat} {t0 : Int32} {Z : ZS} (a b c d x : Int32) (hn : m + 22 < n) (hW : MW sg o m t0 Z) (h : okPl a b c d) (h2 : d ≤ c ∨ x < 0) : GM l y_M_burn b_M_burn 7 (some .int) 5 126 0 0 o n n sg false [.ref (ad o m), .int a, .int b, .int c, .int d, .int x] (fun r0 s => some (.int 0) = r0 ∧ MW s o m 2 Z ∧ mfr sg s m) := by
  have hm1 : sg m = _ := hW.1
  obtain ⟨a1, a2, a3, a4, a5, a6, a7, a8, a9, a10, a11⟩ := hW.2.1
  refine GM_of (by decide) (Nat.le_of_ble_eq_true rfl) ?_
  intro K C hl hz hr hnm E
  show G K o n sg 0 0 0 [(0, .ref (ad o m)), (1, .int a), (2, .int b), (3, .int c), (4, .int d), (5, .int x)] []
  refine g_aload_n C rfl rfl d_M_burn_0 ?_
  refine g_iload_n C rfl rfl d_M_burn_1 ?_
  refine g_iload_n C rfl rfl d_M_burn_2 ?_
  refine g_iload_n C rfl rfl d_M_burn_3 ?_
  refine g_iload C rfl d_M_burn_4 ?_
  refine g_callS C (c_M_all a b c d) Y_M_all m_741 m_740 ⟨by decide, by decide⟩ ⟨by decide, by decide⟩ (fun h => nomatch h) d_M_burn_6 rfl (Nat.le_of_ble_eq_true rfl) (fun ret sg6 hq => ?_)
  obtain ⟨rfl, rfl⟩ := hq
  refine g_if_ne (tgt := 16) C d_M_burn_9 (by decide) (fun j9 => ?_) (fun j9 => ?_)
  rotate_left
  · exact absurd (j9.symm.trans (by rw [okPl_b h]; rfl)) (show ¬ (0 : Int32) = 1 by decide)
  refine g_iload_n C rfl rfl d_M_burn_16 ?_
  refine g_iload C rfl d_M_burn_17 ?_
  refine g_icmp_ge (tgt := 27) C d_M_burn_19 (by decide) (fun j19 => ?_) (fun j19 => ?_)
  · refine g_iconst (v := 2) C rfl d_M_burn_27 ?_
    refine g_goto (tgt := 32) C d_M_burn_28 (by decide) ?_
    refine pf_M_84 C d_M_burn_32 rfl rfl (by first | assumption | omega) (by repeat' first | assumption | exact up_eq _ _ _ | refine up_ne (by omega) ?_) (by exact Nat.le_of_ble_eq_true rfl) ?_
    refine g_aload_n C rfl rfl d_M_burn_35 ?_
    refine gf_M_84 C d_M_burn_36 (by first | assumption | omega) (by repeat' first | assumption | exact up_eq _ _ _ | refine up_ne (by omega) ?_) (by rfl) ?_
    refine g_if_le (tgt := 44) C d_M_burn_39 (by decide) (fun j39 => ?_) (fun j39 => ?_)
    · exact absurd j39 (by decide)
    refine g_iconst (v := 0) C rfl d_M_burn_42 ?_
    refine g_iret C E hr d_M_burn_43 ?_
    exact ⟨rfl, MW_up hW (by unfold isM; exact (by repeat' first | assumption | exact up_eq _ _ _ | refine up_ne (by omega) ?_)) (fun j a b => by repeat' first | exact rfl | refine up_ne (by omega) ?_), (fun j a => by repeat' first | exact rfl | refine up_ne (by omega) ?_)⟩
  · refine g_iload C rfl d_M_burn_22 ?_
    refine g_if_ge (tgt := 31) C d_M_burn_24 (by decide) (fun j24 => ?_) (fun j24 => ?_)
    · exact h2.elim (fun q => absurd q j19) (fun q => absurd j24 (Int32.not_le.mpr q))
    refine g_iconst (v := 2) C rfl d_M_burn_27 ?_
    refine g_goto (tgt := 32) C d_M_burn_28 (by decide) ?_
    refine pf_M_84 C d_M_burn_32 rfl rfl (by first | assumption | omega) (by repeat' first | assumption | exact up_eq _ _ _ | refine up_ne (by omega) ?_) (by exact Nat.le_of_ble_eq_true rfl) ?_
    refine g_aload_n C rfl rfl d_M_burn_35 ?_
    refine gf_M_84 C d_M_burn_36 (by first | assumption | omega) (by repeat' first | assumption | exact up_eq _ _ _ | refine up_ne (by omega) ?_) (by rfl) ?_
    refine g_if_le (tgt := 44) C d_M_burn_39 (by decide) (fun j39 => ?_) (fun j39 => ?_)
    · exact absurd j39 (by decide)
    refine g_iconst (v := 0) C rfl d_M_burn_42 ?_
    refine g_iret C E hr d_M_burn_43 ?_
    exact ⟨rfl, MW_up hW (by unfold isM; exact (by repeat' first | assumption | exact up_eq _ _ _ | refine up_ne (by omega) ?_)) (fun j a b => by repeat' first | exact rfl | refine up_ne (by omega) ?_), (fun j a => by repeat' first | exact rfl | refine up_ne (by omega) ?_)⟩
theorem e_M_burn3 {l : Launch} {o n : Nat} {sg : Nat → va_E} {m : Nat} {t0 : Int32} {Z : ZS} (a b c d x : Int32) (hn : m + 22 < n) (hW : MW sg o m t0 Z) (h : okPl a b c d) (h2 : ¬ d ≤ c) (h3 : ¬ x < 0) (hf : zFind Z a b c d = none) : GM l y_M_burn b_M_burn 7 (some .int) 5 126 0 0 o n n sg false [.ref (ad o m), .int a, .int b, .int c, .int d, .int x] (fun r0 s => some (.int 0) = r0 ∧ MW s o m 3 Z ∧ mfr sg s m) := by
  have hm1 : sg m = _ := hW.1
  obtain ⟨a1, a2, a3, a4, a5, a6, a7, a8, a9, a10, a11⟩ := hW.2.1
  refine GM_of (by decide) (Nat.le_of_ble_eq_true rfl) ?_
  intro K C hl hz hr hnm E
  show G K o n sg 0 0 0 [(0, .ref (ad o m)), (1, .int a), (2, .int b), (3, .int c), (4, .int d), (5, .int x)] []
  refine g_aload_n C rfl rfl d_M_burn_0 ?_
  refine g_iload_n C rfl rfl d_M_burn_1 ?_
  refine g_iload_n C rfl rfl d_M_burn_2 ?_
  refine g_iload_n C rfl rfl d_M_burn_3 ?_
  refine g_iload C rfl d_M_burn_4 ?_
  refine g_callS C (c_M_all a b c d) Y_M_all m_741 m_740 ⟨by decide, by decide⟩ ⟨by decide, by decide⟩ (fun h => nomatch h) d_M_burn_6 rfl (Nat.le_of_ble_eq_true rfl) (fun ret sg6 hq => ?_)
  obtain ⟨rfl, rfl⟩ := hq
  refine g_if_ne (tgt := 16) C d_M_burn_9 (by decide) (fun j9 => ?_) (fun j9 => ?_)
  rotate_left
  · exact absurd (j9.symm.trans (by rw [okPl_b h]; rfl)) (show ¬ (0 : Int32) = 1 by decide)
  refine g_iload_n C rfl rfl d_M_burn_16 ?_
  refine g_iload C rfl d_M_burn_17 ?_
  refine g_icmp_ge (tgt := 27) C d_M_burn_19 (by decide) (fun j19 => ?_) (fun j19 => ?_)
  · exact absurd j19 h2
  refine g_iload C rfl d_M_burn_22 ?_
  refine g_if_ge (tgt := 31) C d_M_burn_24 (by decide) (fun j24 => ?_) (fun j24 => ?_)
  rotate_left
  · exact absurd (Int32.not_lt.mp h3) j24
  refine g_iconst (v := 0) C rfl d_M_burn_31 ?_
  refine pf_M_84 C d_M_burn_32 rfl rfl (by first | assumption | omega) (by repeat' first | assumption | exact up_eq _ _ _ | refine up_ne (by omega) ?_) (by exact Nat.le_of_ble_eq_true rfl) ?_
  refine g_aload_n C rfl rfl d_M_burn_35 ?_
  refine gf_M_84 C d_M_burn_36 (by first | assumption | omega) (by repeat' first | assumption | exact up_eq _ _ _ | refine up_ne (by omega) ?_) (by rfl) ?_
  refine g_if_le (tgt := 44) C d_M_burn_39 (by decide) (fun j39 => ?_) (fun j39 => ?_)
  rotate_left
  · exact absurd (by decide) j39
  refine g_aload_n C rfl rfl d_M_burn_44 ?_
  refine g_iload_n C rfl rfl d_M_burn_45 ?_
  refine g_iload_n C rfl rfl d_M_burn_46 ?_
  refine g_iload_n C rfl rfl d_M_burn_47 ?_
  refine g_iload C rfl d_M_burn_48 ?_
  refine g_callV C (c_M_find (t0 := 0) (la := zla Z) (th := zth Z) (ow := zow Z) (pl := zpl Z) (lo := zlo Z) (hi := zhi Z) (am := zam Z) a b c d hn (by unfold isM; exact (by repeat' first | assumption | exact up_eq _ _ _ | refine up_ne (by omega) ?_)) (isMP_mv a9 (fun j a b => by repeat' first | exact rfl | refine up_ne (by omega) ?_))) Y_M_find m_751 s_M_find m_749 rfl rfl ⟨by decide, by decide⟩ ⟨by decide, by decide⟩ (fun h => nomatch h) d_M_burn_50 (by first | assumption | omega) (by repeat' first | assumption | exact up_eq _ _ _ | refine up_ne (by omega) ?_) rfl (Nat.le_of_ble_eq_true rfl) (fun ret sg50 hq => ?_)
  obtain ⟨rfl, rfl⟩ := hq
  rw [show fnd (mIs (zth Z) (zow Z) (zpl Z) (zlo Z) (zhi Z) a b c d) 12 = none from hf]
  refine g_istore (lv' := [(6, .int (-1)), (0, .ref (ad o m)), (1, .int a), (2, .int b), (3, .int c), (4, .int d), (5, .int x)]) C d_M_burn_53 (by decide) rfl ?_
  refine g_aload_n C rfl rfl d_M_burn_55 ?_
  refine g_iload C rfl d_M_burn_56 ?_
  refine g_if_ge (tgt := 65) C d_M_burn_58 (by decide) (fun j58 => ?_) (fun j58 => ?_)
  · exact absurd j58 (by decide)
  refine g_iconst (v := 3) C rfl d_M_burn_61 ?_
  refine g_goto (tgt := 84) C d_M_burn_62 (by decide) ?_
  refine pf_M_84 C d_M_burn_84 rfl rfl (by first | assumption | omega) (by repeat' first | assumption | exact up_eq _ _ _ | refine up_ne (by omega) ?_) (by exact Nat.le_of_ble_eq_true rfl) ?_
  refine g_aload_n C rfl rfl d_M_burn_87 ?_
  refine gf_M_84 C d_M_burn_88 (by first | assumption | omega) (by repeat' first | assumption | exact up_eq _ _ _ | refine up_ne (by omega) ?_) (by rfl) ?_
  refine g_if_le (tgt := 96) C d_M_burn_91 (by decide) (fun j91 => ?_) (fun j91 => ?_)
  · exact absurd j91 (by decide)
  refine g_iconst (v := 0) C rfl d_M_burn_94 ?_
  refine g_iret C E hr d_M_burn_95 ?_
  exact ⟨rfl, MW_up hW (by unfold isM; exact (by repeat' first | assumption | exact up_eq _ _ _ | refine up_ne (by omega) ?_)) (fun j a b => by repeat' first | exact rfl | refine up_ne (by omega) ?_), (fun j a => by repeat' first | exact rfl | refine up_ne (by omega) ?_)⟩
theorem e_M_burn4 {l : Launch} {o n : Nat} {sg : Nat → va_E} {m : Nat} {t0 : Int32} {Z : ZS} (a b c d x : Int32) (k : Nat) (hn : m + 22 < n) (hW : MW sg o m t0 Z) (h : okPl a b c d) (h2 : ¬ d ≤ c) (h3 : ¬ x < 0) (hf : zFind Z a b c d = some k) (h4 : ¬ x.toInt64 ≤ lN (zam Z k)) : GM l y_M_burn b_M_burn 7 (some .int) 5 126 0 0 o n n sg false [.ref (ad o m), .int a, .int b, .int c, .int d, .int x] (fun r0 s => some (.int 0) = r0 ∧ MW s o m 4 Z ∧ mfr sg s m) := by
  have hm1 : sg m = _ := hW.1
  obtain ⟨a1, a2, a3, a4, a5, a6, a7, a8, a9, a10, a11⟩ := hW.2.1
  have a9x := a9.2.2.2.2.2
  have hk := (fnd_some hf).1
  have ck : (nI k).toNatClampNeg = k := nI_clamp (by omega)
  refine GM_of (by decide) (Nat.le_of_ble_eq_true rfl) ?_
  intro K C hl hz hr hnm E
  show G K o n sg 0 0 0 [(0, .ref (ad o m)), (1, .int a), (2, .int b), (3, .int c), (4, .int d), (5, .int x)] []
  refine g_aload_n C rfl rfl d_M_burn_0 ?_
  refine g_iload_n C rfl rfl d_M_burn_1 ?_
  refine g_iload_n C rfl rfl d_M_burn_2 ?_
  refine g_iload_n C rfl rfl d_M_burn_3 ?_
  refine g_iload C rfl d_M_burn_4 ?_
  refine g_callS C (c_M_all a b c d) Y_M_all m_741 m_740 ⟨by decide, by decide⟩ ⟨by decide, by decide⟩ (fun h => nomatch h) d_M_burn_6 rfl (Nat.le_of_ble_eq_true rfl) (fun ret sg6 hq => ?_)
  obtain ⟨rfl, rfl⟩ := hq
  refine g_if_ne (tgt := 16) C d_M_burn_9 (by decide) (fun j9 => ?_) (fun j9 => ?_)
  rotate_left
  · exact absurd (j9.symm.trans (by rw [okPl_b h]; rfl)) (show ¬ (0 : Int32) = 1 by decide)
  refine g_iload_n C rfl rfl d_M_burn_16 ?_
  refine g_iload C rfl d_M_burn_17 ?_
  refine g_icmp_ge (tgt := 27) C d_M_burn_19 (by decide) (fun j19 => ?_) (fun j19 => ?_)
  · exact absurd j19 h2
  refine g_iload C rfl d_M_burn_22 ?_
  refine g_if_ge (tgt := 31) C d_M_burn_24 (by decide) (fun j24 => ?_) (fun j24 => ?_)
  rotate_left
  · exact absurd (Int32.not_lt.mp h3) j24
  refine g_iconst (v := 0) C rfl d_M_burn_31 ?_
  refine pf_M_84 C d_M_burn_32 rfl rfl (by first | assumption | omega) (by repeat' first | assumption | exact up_eq _ _ _ | refine up_ne (by omega) ?_) (by exact Nat.le_of_ble_eq_true rfl) ?_
  refine g_aload_n C rfl rfl d_M_burn_35 ?_
  refine gf_M_84 C d_M_burn_36 (by first | assumption | omega) (by repeat' first | assumption | exact up_eq _ _ _ | refine up_ne (by omega) ?_) (by rfl) ?_
  refine g_if_le (tgt := 44) C d_M_burn_39 (by decide) (fun j39 => ?_) (fun j39 => ?_)
  rotate_left
  · exact absurd (by decide) j39
  refine g_aload_n C rfl rfl d_M_burn_44 ?_
  refine g_iload_n C rfl rfl d_M_burn_45 ?_
  refine g_iload_n C rfl rfl d_M_burn_46 ?_
  refine g_iload_n C rfl rfl d_M_burn_47 ?_
  refine g_iload C rfl d_M_burn_48 ?_
  refine g_callV C (c_M_find (t0 := 0) (la := zla Z) (th := zth Z) (ow := zow Z) (pl := zpl Z) (lo := zlo Z) (hi := zhi Z) (am := zam Z) a b c d hn (by unfold isM; exact (by repeat' first | assumption | exact up_eq _ _ _ | refine up_ne (by omega) ?_)) (isMP_mv a9 (fun j a b => by repeat' first | exact rfl | refine up_ne (by omega) ?_))) Y_M_find m_751 s_M_find m_749 rfl rfl ⟨by decide, by decide⟩ ⟨by decide, by decide⟩ (fun h => nomatch h) d_M_burn_50 (by first | assumption | omega) (by repeat' first | assumption | exact up_eq _ _ _ | refine up_ne (by omega) ?_) rfl (Nat.le_of_ble_eq_true rfl) (fun ret sg50 hq => ?_)
  obtain ⟨rfl, rfl⟩ := hq
  rw [show fnd (mIs (zth Z) (zow Z) (zpl Z) (zlo Z) (zhi Z) a b c d) 12 = some k from hf]
  refine g_istore (lv' := [(6, .int (nI k)), (0, .ref (ad o m)), (1, .int a), (2, .int b), (3, .int c), (4, .int d), (5, .int x)]) C d_M_burn_53 (by decide) rfl ?_
  refine g_aload_n C rfl rfl d_M_burn_55 ?_
  refine g_iload C rfl d_M_burn_56 ?_
  refine g_if_ge (tgt := 65) C d_M_burn_58 (by decide) (fun j58 => ?_) (fun j58 => ?_)
  rotate_left
  · exact absurd (nI_pos' (by omega)) j58
  refine g_iload C rfl d_M_burn_65 ?_
  refine g_i2l C d_M_burn_67 ?_
  refine g_aload_n C rfl rfl d_M_burn_68 ?_
  refine gf_M_51 C d_M_burn_69 (by first | assumption | omega) (by repeat' first | assumption | exact up_eq _ _ _ | refine up_ne (by omega) ?_) (by rfl) ?_
  refine g_iload C rfl d_M_burn_72 ?_
  refine g_lald C d_M_burn_74 (by first | assumption | omega) (by repeat' first | assumption | exact up_eq _ _ _ | refine up_ne (by omega) ?_) (vp_in_nI hk (by decide)) ?_
  rw [ck]
  refine g_lcmp_le (tgt := 83) C d_M_burn_75 d_M_burn_76 (by decide) (fun j75 => ?_) (fun j75 => ?_)
  · exact absurd j75 h4
  refine g_iconst (v := 4) C rfl d_M_burn_79 ?_
  refine g_goto (tgt := 84) C d_M_burn_80 (by decide) ?_
  refine pf_M_84 C d_M_burn_84 rfl rfl (by first | assumption | omega) (by repeat' first | assumption | exact up_eq _ _ _ | refine up_ne (by omega) ?_) (by exact Nat.le_of_ble_eq_true rfl) ?_
  refine g_aload_n C rfl rfl d_M_burn_87 ?_
  refine gf_M_84 C d_M_burn_88 (by first | assumption | omega) (by repeat' first | assumption | exact up_eq _ _ _ | refine up_ne (by omega) ?_) (by rfl) ?_
  refine g_if_le (tgt := 96) C d_M_burn_91 (by decide) (fun j91 => ?_) (fun j91 => ?_)
  · exact absurd j91 (by decide)
  refine g_iconst (v := 0) C rfl d_M_burn_94 ?_
  refine g_iret C E hr d_M_burn_95 ?_
  exact ⟨rfl, MW_up hW (by unfold isM; exact (by repeat' first | assumption | exact up_eq _ _ _ | refine up_ne (by omega) ?_)) (fun j a b => by repeat' first | exact rfl | refine up_ne (by omega) ?_), (fun j a => by repeat' first | exact rfl | refine up_ne (by omega) ?_)⟩
set_option maxHeartbeats 4000000 in
theorem c_M_burn {l : Launch} {o n : Nat} {sg : Nat → va_E} {m : Nat} {t0 : Int32} {Z : ZS} (a p k L : Nat) (lo hi : Int) (hn : m + 22 < n) (hW : MW sg o m t0 Z) (ha : a < 4) (hp : p < 2) (h1 : -40 ≤ lo) (hlh : lo < hi) (h2 : hi ≤ 40) (hf : zFind Z (nI a) (nI p) (iI lo) (iI hi) = some k) (hL : L ≤ zam Z k) (hA : zam Z k ≤ 50000000) (hT : TkOk (zpr Z p) (ztk Z p)) : GM l y_M_burn b_M_burn 7 (some .int) 5 126 0 0 o n n sg false [.ref (ad o m), .int (nI a), .int (nI p), .int (iI lo), .int (iI hi), .int (nI L)] (fun r0 s => some (.int (nI (zam Z k - L))) = r0 ∧ MW s o m 0 (zBurn Z p k L lo hi) ∧ mfr sg s m) := by
  have hm1 : sg m = _ := hW.1
  obtain ⟨a1, a2, a3, a4, a5, a6, a7, a8, a9, a10, a11⟩ := hW.2.1
  have a9x := a9.2.2.2.2.2
  have hk := (fnd_some hf).1
  have ck : (nI k).toNatClampNeg = k := nI_clamp (by omega)
  have ik : vp_in (nI k) 12 := vp_in_nI hk (by decide)
  have c0 : (nI (2 * k)).toNatClampNeg = 2 * k := nI_clamp (by omega)
  have c1 : (nI (2 * k + 1)).toNatClampNeg = 2 * k + 1 := nI_clamp (by omega)
  have i0 : vp_in (nI (2 * k)) 24 := vp_in_nI (by omega) (by decide)
  have i1 : vp_in (nI (2 * k + 1)) 24 := vp_in_nI (by omega) (by decide)
  have hall : bPl (nI a) (nI p) (iI lo) (iI hi) = true := okPl_b ⟨ok4 ha, ok2 hp, okT_i h1 (by omega), okT_i (by omega) h2⟩
  have hLl : (nI L).toInt64 = lN L := nI_l (by omega)
  refine GM_of (by decide) (Nat.le_of_ble_eq_true rfl) ?_
  intro K C hl hz hr hnm E
  show G K o n sg 0 0 0 [(0, .ref (ad o m)), (1, .int (nI a)), (2, .int (nI p)), (3, .int (iI lo)), (4, .int (iI hi)), (5, .int (nI L))] []
  refine g_aload_n C rfl rfl d_M_burn_0 ?_
  refine g_iload_n C rfl rfl d_M_burn_1 ?_
  refine g_iload_n C rfl rfl d_M_burn_2 ?_
  refine g_iload_n C rfl rfl d_M_burn_3 ?_
  refine g_iload C rfl d_M_burn_4 ?_
  refine g_callS C (c_M_all (nI a) (nI p) (iI lo) (iI hi)) Y_M_all m_741 m_740 ⟨by decide, by decide⟩ ⟨by decide, by decide⟩ (fun h => nomatch h) d_M_burn_6 rfl (Nat.le_of_ble_eq_true rfl) (fun ret sg6 hq => ?_)
  obtain ⟨rfl, rfl⟩ := hq
  refine g_if_ne (tgt := 16) C d_M_burn_9 (by decide) (fun j9 => ?_) (fun j9 => ?_)
  rotate_left
  · exact absurd (j9.symm.trans (by rw [hall]; rfl)) (show ¬ (0 : Int32) = 1 by decide)
  refine g_iload_n C rfl rfl d_M_burn_16 ?_
  refine g_iload C rfl d_M_burn_17 ?_
  refine g_icmp_ge (tgt := 27) C d_M_burn_19 (by decide) (fun j19 => ?_) (fun j19 => ?_)
  · exact absurd ((iI_le (by omega) (by omega) (by omega) (by omega)).mp j19) (by omega)
  refine g_iload C rfl d_M_burn_22 ?_
  refine g_if_ge (tgt := 31) C d_M_burn_24 (by decide) (fun j24 => ?_) (fun j24 => ?_)
  rotate_left
  · exact absurd (nI_pos' (by omega)) j24
  refine g_iconst (v := 0) C rfl d_M_burn_31 ?_
  refine pf_M_84 C d_M_burn_32 rfl rfl (by first | assumption | omega) (by repeat' first | assumption | exact up_eq _ _ _ | refine up_ne (by omega) ?_) (by exact Nat.le_of_ble_eq_true rfl) ?_
  refine g_aload_n C rfl rfl d_M_burn_35 ?_
  refine gf_M_84 C d_M_burn_36 (by first | assumption | omega) (by repeat' first | assumption | exact up_eq _ _ _ | refine up_ne (by omega) ?_) (by rfl) ?_
  refine g_if_le (tgt := 44) C d_M_burn_39 (by decide) (fun j39 => ?_) (fun j39 => ?_)
  rotate_left
  · exact absurd (by decide) j39
  refine g_aload_n C rfl rfl d_M_burn_44 ?_
  refine g_iload_n C rfl rfl d_M_burn_45 ?_
  refine g_iload_n C rfl rfl d_M_burn_46 ?_
  refine g_iload_n C rfl rfl d_M_burn_47 ?_
  refine g_iload C rfl d_M_burn_48 ?_
  refine g_callV C (c_M_find (t0 := 0) (la := zla Z) (th := zth Z) (ow := zow Z) (pl := zpl Z) (lo := zlo Z) (hi := zhi Z) (am := zam Z) (nI a) (nI p) (iI lo) (iI hi) hn (by unfold isM; exact (by repeat' first | assumption | exact up_eq _ _ _ | refine up_ne (by omega) ?_)) (isMP_mv a9 (fun j a b => by repeat' first | exact rfl | refine up_ne (by omega) ?_))) Y_M_find m_751 s_M_find m_749 rfl rfl ⟨by decide, by decide⟩ ⟨by decide, by decide⟩ (fun h => nomatch h) d_M_burn_50 (by first | assumption | omega) (by repeat' first | assumption | exact up_eq _ _ _ | refine up_ne (by omega) ?_) rfl (Nat.le_of_ble_eq_true rfl) (fun ret sg50 hq => ?_)
  obtain ⟨rfl, rfl⟩ := hq
  rw [show fnd (mIs (zth Z) (zow Z) (zpl Z) (zlo Z) (zhi Z) (nI a) (nI p) (iI lo) (iI hi)) 12 = some k from hf]
  refine g_istore (lv' := [(6, .int (nI k)), (0, .ref (ad o m)), (1, .int (nI a)), (2, .int (nI p)), (3, .int (iI lo)), (4, .int (iI hi)), (5, .int (nI L))]) C d_M_burn_53 (by decide) rfl ?_
  refine g_aload_n C rfl rfl d_M_burn_55 ?_
  refine g_iload C rfl d_M_burn_56 ?_
  refine g_if_ge (tgt := 65) C d_M_burn_58 (by decide) (fun j58 => ?_) (fun j58 => ?_)
  rotate_left
  · exact absurd (nI_pos' (by omega)) j58
  refine g_iload C rfl d_M_burn_65 ?_
  refine g_i2l C d_M_burn_67 ?_
  rw [hLl]
  refine g_aload_n C rfl rfl d_M_burn_68 ?_
  refine gf_M_51 C d_M_burn_69 (by first | assumption | omega) (by repeat' first | assumption | exact up_eq _ _ _ | refine up_ne (by omega) ?_) (by rfl) ?_
  refine g_iload C rfl d_M_burn_72 ?_
  refine g_lald C d_M_burn_74 (by first | assumption | omega) (by repeat' first | assumption | exact up_eq _ _ _ | refine up_ne (by omega) ?_) ik ?_
  rw [ck]
  refine g_lcmp_le (tgt := 83) C d_M_burn_75 d_M_burn_76 (by decide) (fun j75 => ?_) (fun j75 => ?_)
  rotate_left
  · exact absurd ((pk_lLE (by omega) (by omega)).mpr hL) j75
  refine g_iconst (v := 0) C rfl d_M_burn_83 ?_
  refine pf_M_84 C d_M_burn_84 rfl rfl (by first | assumption | omega) (by repeat' first | assumption | exact up_eq _ _ _ | refine up_ne (by omega) ?_) (by exact Nat.le_of_ble_eq_true rfl) ?_
  refine g_aload_n C rfl rfl d_M_burn_87 ?_
  refine gf_M_84 C d_M_burn_88 (by first | assumption | omega) (by repeat' first | assumption | exact up_eq _ _ _ | refine up_ne (by omega) ?_) (by rfl) ?_
  refine g_if_le (tgt := 96) C d_M_burn_91 (by decide) (fun j91 => ?_) (fun j91 => ?_)
  rotate_left
  · exact absurd (by decide) j91
  refine g_aload_n C rfl rfl d_M_burn_96 ?_
  refine g_iload C rfl d_M_burn_97 ?_
  refine g_callV C (c_M_settle (t0 := 0) (la := zla Z) (am := fun i => lN (zam Z i)) (fa := zfa Z) (od := zod Z) k hn (by unfold isM; exact (by repeat' first | assumption | exact up_eq _ _ _ | refine up_ne (by omega) ?_)) (by repeat' first | assumption | exact up_eq _ _ _ | refine up_ne (by omega) ?_) (by repeat' first | assumption | exact up_eq _ _ _ | refine up_ne (by omega) ?_) (by repeat' first | assumption | exact up_eq _ _ _ | refine up_ne (by omega) ?_) hk) Y_M_settle m_786 s_M_settle m_784 rfl rfl ⟨by decide, by decide⟩ ⟨by decide, by decide⟩ (fun h => nomatch h) d_M_burn_99 (by first | assumption | omega) (by repeat' first | assumption | exact up_eq _ _ _ | refine up_ne (by omega) ?_) rfl (Nat.le_of_ble_eq_true rfl) (fun ret sg99 hq => ?_)
  obtain ⟨rfl, e15, e16, eF⟩ := hq
  have ew : ∀ j, m < j → j ≠ m + 15 → j ≠ m + 16 → sg99 j = sg j := fun j a c d => (eF j c d).trans (by repeat' first | exact rfl | refine up_ne (by omega) ?_)
  have eo : ∀ j, j < m → sg99 j = sg j := fun j a => (eF j (by omega) (by omega)).trans (by repeat' first | exact rfl | refine up_ne (by omega) ?_)
  have em : isM sg99 o m 0 (zla Z) := (eF m (by omega) (by omega)).trans (by repeat' first | assumption | exact up_eq _ _ _ | refine up_ne (by omega) ?_)
  have em1 : sg99 m = _ := em
  have e6 := (ew (m + 6) (by omega) (by omega) (by omega)).trans a6
  have e7 := (ew (m + 7) (by omega) (by omega) (by omega)).trans a7
  have e14 := (ew (m + 14) (by omega) (by omega) (by omega)).trans a9x
  have e2 := (ew (m + 2) (by omega) (by omega) (by omega)).trans a2
  have e3 := (ew (m + 3) (by omega) (by omega) (by omega)).trans a3
  have e4 := (ew (m + 4) (by omega) (by omega) (by omega)).trans a4
  have e5 := (ew (m + 5) (by omega) (by omega) (by omega)).trans a5
  have e8 := (ew (m + 8) (by omega) (by omega) (by omega)).trans a8
  have e9 := (ew (m + 9) (by omega) (by omega) (by omega)).trans a9.1
  have e1 : isMR sg99 m := isMR_mv a1 (ew (m + 1) (by omega) (by omega) (by omega))
  refine g_aload_n C rfl rfl d_M_burn_102 ?_
  refine gf_M_51 C d_M_burn_103 (by first | assumption | omega) (by repeat' first | assumption | exact up_eq _ _ _ | refine up_ne (by omega) ?_) (by rfl) ?_
  refine g_iload C rfl d_M_burn_106 ?_
  refine g_dup2 C rfl rfl d_M_burn_108 ?_
  refine g_lald C d_M_burn_109 (by first | assumption | omega) (by repeat' first | assumption | exact up_eq _ _ _ | refine up_ne (by omega) ?_) ik ?_
  refine g_iload C rfl d_M_burn_110 ?_
  refine g_i2l C d_M_burn_112 ?_
  rw [hLl]
  refine g_lsub C d_M_burn_113 ?_
  refine g_last C d_M_burn_114 (by first | assumption | omega) (by repeat' first | assumption | exact up_eq _ _ _ | refine up_ne (by omega) ?_) ik ?_
  rw [ck, lN_sub hL, updN_l]
  refine g_aload_n C rfl rfl d_M_burn_115 ?_
  refine gf_M_57 C d_M_burn_116 (by first | assumption | omega) (by repeat' first | assumption | exact up_eq _ _ _ | refine up_ne (by omega) ?_) (by rfl) ?_
  refine g_iconst (v := 2) C rfl d_M_burn_119 ?_
  refine g_iload C rfl d_M_burn_120 ?_
  refine g_imul C d_M_burn_122 ?_
  rw [two_k]
  refine g_dup2 C rfl rfl d_M_burn_123 ?_
  refine g_lald C d_M_burn_124 (by first | assumption | omega) (by repeat' first | assumption | exact up_eq _ _ _ | refine up_ne (by omega) ?_) i0 ?_
  refine g_aload_n C rfl rfl d_M_burn_125 ?_
  refine g_iload_n C rfl rfl d_M_burn_126 ?_
  refine g_iload_n C rfl rfl d_M_burn_127 ?_
  refine g_iload C rfl d_M_burn_128 ?_
  refine g_iload C rfl d_M_burn_130 ?_
  refine g_i2l C d_M_burn_132 ?_
  rw [hLl]
  refine g_iconst (v := 0) C rfl d_M_burn_133 ?_
  refine g_callV C (c_M_worthNear (t0 := 0) (la := zla Z) (pr := zpr Z) (tk := ztk Z) false p L lo hi hn (by unfold isM; exact (by repeat' first | assumption | exact up_eq _ _ _ | refine up_ne (by omega) ?_)) (isMR_mv e1 (up_ne (by omega) rfl)) (by repeat' first | assumption | exact up_eq _ _ _ | refine up_ne (by omega) ?_) (by repeat' first | assumption | exact up_eq _ _ _ | refine up_ne (by omega) ?_) hp h1 hlh h2 hT.1 hT.2.1 (by have := hT.2.2.1; omega) (fun q1 q2 => tk_hi hT q1 q2 h2) (by omega)) Y_M_worthNear m_757 s_M_worthNear m_755 rfl rfl ⟨by decide, by decide⟩ ⟨by decide, by decide⟩ (fun h => nomatch h) d_M_burn_134 (by first | assumption | omega) (by repeat' first | assumption | exact up_eq _ _ _ | refine up_ne (by omega) ?_) rfl (Nat.le_of_ble_eq_true rfl) (fun ret sg134 hq => ?_)
  obtain ⟨rfl, rfl⟩ := hq
  refine g_ladd C d_M_burn_137 ?_
  refine g_last C d_M_burn_138 (by first | assumption | omega) (by repeat' first | assumption | exact up_eq _ _ _ | refine up_ne (by omega) ?_) i0 ?_
  rw [c0]
  refine g_aload_n C rfl rfl d_M_burn_139 ?_
  refine gf_M_57 C d_M_burn_140 (by first | assumption | omega) (by repeat' first | assumption | exact up_eq _ _ _ | refine up_ne (by omega) ?_) (by rfl) ?_
  refine g_iconst (v := 2) C rfl d_M_burn_143 ?_
  refine g_iload C rfl d_M_burn_144 ?_
  refine g_imul C d_M_burn_146 ?_
  refine g_iconst (v := 1) C rfl d_M_burn_147 ?_
  refine g_iadd C d_M_burn_148 ?_
  rw [two_k, nI_1]
  refine g_dup2 C rfl rfl d_M_burn_149 ?_
  refine g_lald C d_M_burn_150 (by first | assumption | omega) (by repeat' first | assumption | exact up_eq _ _ _ | refine up_ne (by omega) ?_) i1 ?_
  refine g_aload_n C rfl rfl d_M_burn_151 ?_
  refine g_iload_n C rfl rfl d_M_burn_152 ?_
  refine g_iload_n C rfl rfl d_M_burn_153 ?_
  refine g_iload C rfl d_M_burn_154 ?_
  refine g_iload C rfl d_M_burn_156 ?_
  refine g_i2l C d_M_burn_158 ?_
  rw [hLl]
  refine g_iconst (v := 0) C rfl d_M_burn_159 ?_
  refine g_callV C (c_M_worthFar (t0 := 0) (la := zla Z) (pr := zpr Z) (tk := ztk Z) false p L lo hi hn (by unfold isM; exact (by repeat' first | assumption | exact up_eq _ _ _ | refine up_ne (by omega) ?_)) (isMR_mv e1 (by repeat' first | exact rfl | refine up_ne (by omega) ?_)) (by repeat' first | assumption | exact up_eq _ _ _ | refine up_ne (by omega) ?_) (by repeat' first | assumption | exact up_eq _ _ _ | refine up_ne (by omega) ?_) hp h1 hlh h2 hT.1 hT.2.1 (by have := hT.2.2.2.1; omega) (fun q1 q2 => tk_lo hT h1 q1) (by omega)) Y_M_worthFar m_775 s_M_worthFar m_773 rfl rfl ⟨by decide, by decide⟩ ⟨by decide, by decide⟩ (fun h => nomatch h) d_M_burn_160 (by first | assumption | omega) (by repeat' first | assumption | exact up_eq _ _ _ | refine up_ne (by omega) ?_) rfl (Nat.le_of_ble_eq_true rfl) (fun ret sg160 hq => ?_)
  obtain ⟨rfl, rfl⟩ := hq
  refine g_ladd C d_M_burn_163 ?_
  refine g_last C d_M_burn_164 (by first | assumption | omega) (by repeat' first | assumption | exact up_eq _ _ _ | refine up_ne (by omega) ?_) i1 ?_
  rw [c1, pk_unL (show 2 * k + 1 ≠ 2 * k by omega)]
  refine g_aload_n C rfl rfl d_M_burn_165 ?_
  refine g_iload C rfl d_M_burn_166 ?_
  refine g_callV C (c_M_sweep (t0 := 0) (la := zla Z) (th := zth Z) (am := updN (zam Z) k (zam Z k - L)) (od := zAdd2 (sOd (zod Z) (zfa Z) (lN (zam Z k)) k) k (lN (zWN false L (zpr Z p) (ztk Z p) lo hi)) (lN (zWF false L (zpr Z p) (ztk Z p) lo hi))) k hn (by unfold isM; exact (by repeat' first | assumption | exact up_eq _ _ _ | refine up_ne (by omega) ?_)) (by repeat' first | assumption | exact up_eq _ _ _ | refine up_ne (by omega) ?_) (by repeat' first | assumption | exact up_eq _ _ _ | refine up_ne (by omega) ?_) (by repeat' first | assumption | exact up_eq _ _ _ | refine up_ne (by omega) ?_) hk (by rw [updN_s]; omega)) Y_M_sweep m_799 s_M_sweep m_797 rfl rfl ⟨by decide, by decide⟩ ⟨by decide, by decide⟩ (fun h => nomatch h) d_M_burn_168 (by first | assumption | omega) (by repeat' first | assumption | exact up_eq _ _ _ | refine up_ne (by omega) ?_) rfl (Nat.le_of_ble_eq_true rfl) (fun ret sg168 hq => ?_)
  obtain ⟨rfl, rfl⟩ := hq
  refine g_aload_n C rfl rfl d_M_burn_171 ?_
  refine gf_M_51 C d_M_burn_172 (by first | assumption | omega) (by repeat' first | assumption | exact up_eq _ _ _ | refine up_ne (by omega) ?_) (by rfl) ?_
  refine g_iload C rfl d_M_burn_175 ?_
  refine g_lald C d_M_burn_177 (by first | assumption | omega) (by repeat' first | assumption | exact up_eq _ _ _ | refine up_ne (by omega) ?_) ik ?_
  rw [ck, updN_s]
  refine g_l2i C d_M_burn_178 ?_
  rw [lN_i]
  refine g_iret C E hr d_M_burn_179 ?_
  exact ⟨rfl, ⟨by unfold isM; exact (by repeat' first | assumption | exact up_eq _ _ _ | refine up_ne (by omega) ?_), ⟨isMR_mv e1 (by repeat' first | exact rfl | refine up_ne (by omega) ?_), (by repeat' first | assumption | exact up_eq _ _ _ | refine up_ne (by omega) ?_), (by repeat' first | assumption | exact up_eq _ _ _ | refine up_ne (by omega) ?_), (by repeat' first | assumption | exact up_eq _ _ _ | refine up_ne (by omega) ?_), (by repeat' first | assumption | exact up_eq _ _ _ | refine up_ne (by omega) ?_), (by repeat' first | assumption | exact up_eq _ _ _ | refine up_ne (by omega) ?_), (by repeat' first | assumption | exact up_eq _ _ _ | refine up_ne (by omega) ?_), (by repeat' first | assumption | exact up_eq _ _ _ | refine up_ne (by omega) ?_), ⟨(up_eq _ _ _).trans (congrArg (eZ 12) (by have q := zth_other (Z := Z) (Z' := zBurn Z p k L lo hi) (k := k) (fun i h => updN_n h) (fun i h1 h2 => (zAdd2_n h1 h2).trans (sOd_n h1 h2)); rw [show zam (zBurn Z p k L lo hi) k = zam Z k - L from updN_s] at q; exact q)), (by repeat' first | exact ((ew _ (by omega) (by omega) (by omega)).trans a9.2.1) | refine up_ne (by omega) ?_), (by repeat' first | exact ((ew _ (by omega) (by omega) (by omega)).trans a9.2.2.1) | refine up_ne (by omega) ?_), (by repeat' first | exact ((ew _ (by omega) (by omega) (by omega)).trans a9.2.2.2.1) | refine up_ne (by omega) ?_), (by repeat' first | exact ((ew _ (by omega) (by omega) (by omega)).trans a9.2.2.2.2.1) | refine up_ne (by omega) ?_), (by repeat' first | assumption | exact up_eq _ _ _ | refine up_ne (by omega) ?_)⟩, (by repeat' first | assumption | exact up_eq _ _ _ | refine up_ne (by omega) ?_), (by repeat' first | assumption | exact up_eq _ _ _ | refine up_ne (by omega) ?_)⟩, MX_mv hW.2.2 (fun j a b => by repeat' first | exact ew _ (by omega) (by omega) (by omega) | refine up_ne (by omega) ?_)⟩, (fun j a => by repeat' first | exact (eF j (by omega) (by omega)).trans (by repeat' first | exact rfl | refine up_ne (by omega) ?_) | refine up_ne (by omega) ?_)⟩

