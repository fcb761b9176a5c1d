-- MINT IN THE REFERENCE
def zHad (Z : ZS) (r : Option Nat) : Nat := match r with
  | none => 0
  | some k => zam Z k
def zPlace (Z : ZS) (r : Option Nat) : Option Nat := match r with
  | none => fnd (fun i => !zth Z i) 12
  | some k => some k
theorem opt_or {α : Type} (x : Option α) : x = none ∨ ∃ k, x = some k := by
  cases x with
  | none => exact Or.inl rfl
  | some k => exact Or.inr ⟨k, rfl⟩
theorem e_M_mint1 {l : Launch} {o n : Nat} {sg : Nat → va_E} {m : Nat} {t0 : Int32} {Z : ZS} (a b c d x : Int32) (hn : m + 22 < n) (hW : MW sg o m t0 Z) (h : ¬ okPl a b c d) : GM l y_M_mint b_M_mint 15 (some .int) 5 126 0 0 o n n sg false [.ref (ad o m), .int a, .int b, .int c, .int d, .int x] (fun r0 s => some (.int 0) = r0 ∧ MW s o m 1 Z ∧ mfr sg s m) := by
  have hm1 : sg m = _ := hW.1
  obtain ⟨a1, a2, a3, a4, a5, a6, a7, a8, a9, a10, a11⟩ := hW.2.1
  refine GM_of (by decide) (Nat.le_of_ble_eq_true rfl) ?_
  intro K C hl hz hr hnm E
  show G K o n sg 0 0 0 [(0, .ref (ad o m)), (1, .int a), (2, .int b), (3, .int c), (4, .int d), (5, .int x)] []
  refine g_aload_n C rfl rfl d_M_mint_0 ?_
  refine g_iconst (v := 0) C rfl d_M_mint_1 ?_
  refine pf_M_84 C d_M_mint_2 rfl rfl (by first | assumption | omega) (by repeat' first | assumption | exact up_eq _ _ _ | refine up_ne (by omega) ?_) (by exact Nat.le_of_ble_eq_true rfl) ?_
  refine g_iload_n C rfl rfl d_M_mint_5 ?_
  refine g_iload_n C rfl rfl d_M_mint_6 ?_
  refine g_iload_n C rfl rfl d_M_mint_7 ?_
  refine g_iload C rfl d_M_mint_8 ?_
  refine g_callS C (c_M_all a b c d) Y_M_all m_741 m_740 ⟨by decide, by decide⟩ ⟨by decide, by decide⟩ (fun h => nomatch h) d_M_mint_10 rfl (Nat.le_of_ble_eq_true rfl) (fun ret sg10 hq => ?_)
  obtain ⟨rfl, rfl⟩ := hq
  refine g_if_ne (tgt := 23) C d_M_mint_13 (by decide) (fun j13 => ?_) (fun j13 => ?_)
  · exact absurd (b_okPl (nb0 j13)) h
  refine g_aload_n C rfl rfl d_M_mint_16 ?_
  refine g_iconst (v := 1) C rfl d_M_mint_17 ?_
  refine pf_M_84 C d_M_mint_18 rfl rfl (by first | assumption | omega) (by repeat' first | assumption | exact up_eq _ _ _ | refine up_ne (by omega) ?_) (by exact Nat.le_of_ble_eq_true rfl) ?_
  refine g_iconst (v := 0) C rfl d_M_mint_21 ?_
  refine g_iret C E hr d_M_mint_22 ?_
  exact ⟨rfl, MW_up hW (by unfold isM; exact (by repeat' first | assumption | exact up_eq _ _ _ | refine up_ne (by omega) ?_)) (fun j a b => by repeat' first | exact rfl | refine up_ne (by omega) ?_), (fun j a => by repeat' first | exact rfl | refine up_ne (by omega) ?_)⟩
theorem e_M_mint2 {l : Launch} {o n : Nat} {sg : Nat → va_E} {m : Nat} {t0 : Int32} {Z : ZS} (a b c d x : Int32) (hn : m + 22 < n) (hW : MW sg o m t0 Z) (h : okPl a b c d) (h2 : d ≤ c ∨ x < 1 ∨ 50000000 < x ∨ ¬ lN (zHad Z (zFind Z a b c d)) + x.toInt64 ≤ 50000000) : GM l y_M_mint b_M_mint 15 (some .int) 5 126 0 0 o n n sg false [.ref (ad o m), .int a, .int b, .int c, .int d, .int x] (fun r0 s => some (.int 0) = r0 ∧ MW s o m 2 Z ∧ mfr sg s m) := by
  have hm1 : sg m = _ := hW.1
  obtain ⟨a1, a2, a3, a4, a5, a6, a7, a8, a9, a10, a11⟩ := hW.2.1
  have a9x := a9.2.2.2.2.2
  refine GM_of (by decide) (Nat.le_of_ble_eq_true rfl) ?_
  intro K C hl hz hr hnm E
  show G K o n sg 0 0 0 [(0, .ref (ad o m)), (1, .int a), (2, .int b), (3, .int c), (4, .int d), (5, .int x)] []
  rcases opt_or (zFind Z a b c d) with e | ⟨k, e⟩
  · rw [e] at h2
    refine g_aload_n C rfl rfl d_M_mint_0 ?_
    refine g_iconst (v := 0) C rfl d_M_mint_1 ?_
    refine pf_M_84 C d_M_mint_2 rfl rfl (by first | assumption | omega) (by repeat' first | assumption | exact up_eq _ _ _ | refine up_ne (by omega) ?_) (by exact Nat.le_of_ble_eq_true rfl) ?_
    refine g_iload_n C rfl rfl d_M_mint_5 ?_
    refine g_iload_n C rfl rfl d_M_mint_6 ?_
    refine g_iload_n C rfl rfl d_M_mint_7 ?_
    refine g_iload C rfl d_M_mint_8 ?_
    refine g_callS C (c_M_all a b c d) Y_M_all m_741 m_740 ⟨by decide, by decide⟩ ⟨by decide, by decide⟩ (fun h => nomatch h) d_M_mint_10 rfl (Nat.le_of_ble_eq_true rfl) (fun ret sg10 hq => ?_)
    obtain ⟨rfl, rfl⟩ := hq
    refine g_if_ne (tgt := 23) C d_M_mint_13 (by decide) (fun j13 => ?_) (fun j13 => ?_)
    rotate_left
    · exact absurd (j13.symm.trans (by rw [okPl_b h]; rfl)) (show ¬ (0 : Int32) = 1 by decide)
    refine g_aload_n C rfl rfl d_M_mint_23 ?_
    refine g_iload_n C rfl rfl d_M_mint_24 ?_
    refine g_iload_n C rfl rfl d_M_mint_25 ?_
    refine g_iload_n C rfl rfl d_M_mint_26 ?_
    refine g_iload C rfl d_M_mint_27 ?_
    refine g_callV C (c_M_find (t0 := 0) (la := zla Z) (th := zth Z) (ow := zow Z) (pl := zpl Z) (lo := zlo Z) (hi := zhi Z) (am := zam Z) a b c d hn (by unfold isM; exact (by repeat' first | assumption | exact up_eq _ _ _ | refine up_ne (by omega) ?_)) (isMP_mv a9 (fun j a b => by repeat' first | exact rfl | refine up_ne (by omega) ?_))) Y_M_find m_751 s_M_find m_749 rfl rfl ⟨by decide, by decide⟩ ⟨by decide, by decide⟩ (fun h => nomatch h) d_M_mint_29 (by first | assumption | omega) (by repeat' first | assumption | exact up_eq _ _ _ | refine up_ne (by omega) ?_) rfl (Nat.le_of_ble_eq_true rfl) (fun ret sg29 hq => ?_)
    obtain ⟨rfl, rfl⟩ := hq
    rw [show fnd (mIs (zth Z) (zow Z) (zpl Z) (zlo Z) (zhi Z) a b c d) 12 = none from e]
    refine g_istore (lv' := [(6, .int (-1)), (0, .ref (ad o m)), (1, .int a), (2, .int b), (3, .int c), (4, .int d), (5, .int x)]) C d_M_mint_32 (by decide) rfl ?_
    refine g_iload C rfl d_M_mint_34 ?_
    refine g_if_ge (tgt := 43) C d_M_mint_36 (by decide) (fun j36 => ?_) (fun j36 => ?_)
    · exact absurd j36 (by decide)
    refine g_lconst (v := 0) C rfl d_M_mint_39 ?_
    refine g_goto (tgt := 50) C d_M_mint_40 (by decide) ?_
    refine g_lstore (lv' := [(7, .long (lN 0)), (6, .int (-1)), (0, .ref (ad o m)), (1, .int a), (2, .int b), (3, .int c), (4, .int d), (5, .int x)]) C d_M_mint_50 (by decide) rfl ?_
    refine g_iload_n C rfl rfl d_M_mint_52 ?_
    refine g_iload C rfl d_M_mint_53 ?_
    refine g_icmp_ge (tgt := 84) C d_M_mint_55 (by decide) (fun j55 => ?_) (fun j55 => ?_)
    · refine g_aload_n C rfl rfl d_M_mint_84 ?_
      refine g_iconst (v := 2) C rfl d_M_mint_85 ?_
      refine pf_M_84 C d_M_mint_86 rfl rfl (by first | assumption | omega) (by repeat' first | assumption | exact up_eq _ _ _ | refine up_ne (by omega) ?_) (by exact Nat.le_of_ble_eq_true rfl) ?_
      refine g_iconst (v := 0) C rfl d_M_mint_89 ?_
      refine g_iret C E hr d_M_mint_90 ?_
      exact ⟨rfl, MW_up hW (by unfold isM; exact (by repeat' first | assumption | exact up_eq _ _ _ | refine up_ne (by omega) ?_)) (fun j a b => by repeat' first | exact rfl | refine up_ne (by omega) ?_), (fun j a => by repeat' first | exact rfl | refine up_ne (by omega) ?_)⟩
    · refine g_iload C rfl d_M_mint_58 ?_
      refine g_iconst (v := 1) C rfl d_M_mint_60 ?_
      refine g_icmp_lt (tgt := 84) C d_M_mint_61 (by decide) (fun j61 => ?_) (fun j61 => ?_)
      · refine g_aload_n C rfl rfl d_M_mint_84 ?_
        refine g_iconst (v := 2) C rfl d_M_mint_85 ?_
        refine pf_M_84 C d_M_mint_86 rfl rfl (by first | assumption | omega) (by repeat' first | assumption | exact up_eq _ _ _ | refine up_ne (by omega) ?_) (by exact Nat.le_of_ble_eq_true rfl) ?_
        refine g_iconst (v := 0) C rfl d_M_mint_89 ?_
        refine g_iret C E hr d_M_mint_90 ?_
        exact ⟨rfl, MW_up hW (by unfold isM; exact (by repeat' first | assumption | exact up_eq _ _ _ | refine up_ne (by omega) ?_)) (fun j a b => by repeat' first | exact rfl | refine up_ne (by omega) ?_), (fun j a => by repeat' first | exact rfl | refine up_ne (by omega) ?_)⟩
      · refine g_iload C rfl d_M_mint_64 ?_
        refine g_ldc C m_753 d_M_mint_66 ?_
        refine g_icmp_gt (tgt := 84) C d_M_mint_68 (by decide) (fun j68 => ?_) (fun j68 => ?_)
        · refine g_aload_n C rfl rfl d_M_mint_84 ?_
          refine g_iconst (v := 2) C rfl d_M_mint_85 ?_
          refine pf_M_84 C d_M_mint_86 rfl rfl (by first | assumption | omega) (by repeat' first | assumption | exact up_eq _ _ _ | refine up_ne (by omega) ?_) (by exact Nat.le_of_ble_eq_true rfl) ?_
          refine g_iconst (v := 0) C rfl d_M_mint_89 ?_
          refine g_iret C E hr d_M_mint_90 ?_
          exact ⟨rfl, MW_up hW (by unfold isM; exact (by repeat' first | assumption | exact up_eq _ _ _ | refine up_ne (by omega) ?_)) (fun j a b => by repeat' first | exact rfl | refine up_ne (by omega) ?_), (fun j a => by repeat' first | exact rfl | refine up_ne (by omega) ?_)⟩
        · refine g_lload C rfl d_M_mint_71 ?_
          refine g_iload C rfl d_M_mint_73 ?_
          refine g_i2l C d_M_mint_75 ?_
          refine g_ladd C d_M_mint_76 ?_
          refine g_ldc2 C m_754 d_M_mint_77 ?_
          refine g_lcmp_le (tgt := 91) C d_M_mint_80 d_M_mint_81 (by decide) (fun j80 => ?_) (fun j80 => ?_)
          · exact h2.elim (fun q => absurd q j55) (fun q => q.elim (fun q => absurd q j61) (fun q => q.elim (fun q => absurd q j68) (fun q => absurd j80 q)))
          refine g_aload_n C rfl rfl d_M_mint_84 ?_
          refine g_iconst (v := 2) C rfl d_M_mint_85 ?_
          refine pf_M_84 C d_M_mint_86 rfl rfl (by first | assumption | omega) (by repeat' first | assumption | exact up_eq _ _ _ | refine up_ne (by omega) ?_) (by exact Nat.le_of_ble_eq_true rfl) ?_
          refine g_iconst (v := 0) C rfl d_M_mint_89 ?_
          refine g_iret C E hr d_M_mint_90 ?_
          exact ⟨rfl, MW_up hW (by unfold isM; exact (by repeat' first | assumption | exact up_eq _ _ _ | refine up_ne (by omega) ?_)) (fun j a b => by repeat' first | exact rfl | refine up_ne (by omega) ?_), (fun j a => by repeat' first | exact rfl | refine up_ne (by omega) ?_)⟩
  · rw [e] at h2
    have hk := (fnd_some e).1
    have ck : (nI k).toNatClampNeg = k := nI_clamp (by omega)
    refine g_aload_n C rfl rfl d_M_mint_0 ?_
    refine g_iconst (v := 0) C rfl d_M_mint_1 ?_
    refine pf_M_84 C d_M_mint_2 rfl rfl (by first | assumption | omega) (by repeat' first | assumption | exact up_eq _ _ _ | refine up_ne (by omega) ?_) (by exact Nat.le_of_ble_eq_true rfl) ?_
    refine g_iload_n C rfl rfl d_M_mint_5 ?_
    refine g_iload_n C rfl rfl d_M_mint_6 ?_
    refine g_iload_n C rfl rfl d_M_mint_7 ?_
    refine g_iload C rfl d_M_mint_8 ?_
    refine g_callS C (c_M_all a b c d) Y_M_all m_741 m_740 ⟨by decide, by decide⟩ ⟨by decide, by decide⟩ (fun h => nomatch h) d_M_mint_10 rfl (Nat.le_of_ble_eq_true rfl) (fun ret sg10 hq => ?_)
    obtain ⟨rfl, rfl⟩ := hq
    refine g_if_ne (tgt := 23) C d_M_mint_13 (by decide) (fun j13 => ?_) (fun j13 => ?_)
    rotate_left
    · exact absurd (j13.symm.trans (by rw [okPl_b h]; rfl)) (show ¬ (0 : Int32) = 1 by decide)
    refine g_aload_n C rfl rfl d_M_mint_23 ?_
    refine g_iload_n C rfl rfl d_M_mint_24 ?_
    refine g_iload_n C rfl rfl d_M_mint_25 ?_
    refine g_iload_n C rfl rfl d_M_mint_26 ?_
    refine g_iload C rfl d_M_mint_27 ?_
    refine g_callV C (c_M_find (t0 := 0) (la := zla Z) (th := zth Z) (ow := zow Z) (pl := zpl Z) (lo := zlo Z) (hi := zhi Z) (am := zam Z) a b c d hn (by unfold isM; exact (by repeat' first | assumption | exact up_eq _ _ _ | refine up_ne (by omega) ?_)) (isMP_mv a9 (fun j a b => by repeat' first | exact rfl | refine up_ne (by omega) ?_))) Y_M_find m_751 s_M_find m_749 rfl rfl ⟨by decide, by decide⟩ ⟨by decide, by decide⟩ (fun h => nomatch h) d_M_mint_29 (by first | assumption | omega) (by repeat' first | assumption | exact up_eq _ _ _ | refine up_ne (by omega) ?_) rfl (Nat.le_of_ble_eq_true rfl) (fun ret sg29 hq => ?_)
    obtain ⟨rfl, rfl⟩ := hq
    rw [show fnd (mIs (zth Z) (zow Z) (zpl Z) (zlo Z) (zhi Z) a b c d) 12 = some k from e]
    refine g_istore (lv' := [(6, .int (nI k)), (0, .ref (ad o m)), (1, .int a), (2, .int b), (3, .int c), (4, .int d), (5, .int x)]) C d_M_mint_32 (by decide) rfl ?_
    refine g_iload C rfl d_M_mint_34 ?_
    refine g_if_ge (tgt := 43) C d_M_mint_36 (by decide) (fun j36 => ?_) (fun j36 => ?_)
    rotate_left
    · exact absurd (nI_pos' (by omega)) j36
    refine g_aload_n C rfl rfl d_M_mint_43 ?_
    refine gf_M_51 C d_M_mint_44 (by first | assumption | omega) (by repeat' first | assumption | exact up_eq _ _ _ | refine up_ne (by omega) ?_) (by rfl) ?_
    refine g_iload C rfl d_M_mint_47 ?_
    refine g_lald C d_M_mint_49 (by first | assumption | omega) (by repeat' first | assumption | exact up_eq _ _ _ | refine up_ne (by omega) ?_) (vp_in_nI hk (by decide)) ?_
    rw [ck]
    refine g_lstore (lv' := [(7, .long (lN (zam Z k))), (6, .int (nI k)), (0, .ref (ad o m)), (1, .int a), (2, .int b), (3, .int c), (4, .int d), (5, .int x)]) C d_M_mint_50 (by decide) rfl ?_
    refine g_iload_n C rfl rfl d_M_mint_52 ?_
    refine g_iload C rfl d_M_mint_53 ?_
    refine g_icmp_ge (tgt := 84) C d_M_mint_55 (by decide) (fun j55 => ?_) (fun j55 => ?_)
    · refine g_aload_n C rfl rfl d_M_mint_84 ?_
      refine g_iconst (v := 2) C rfl d_M_mint_85 ?_
      refine pf_M_84 C d_M_mint_86 rfl rfl (by first | assumption | omega) (by repeat' first | assumption | exact up_eq _ _ _ | refine up_ne (by omega) ?_) (by exact Nat.le_of_ble_eq_true rfl) ?_
      refine g_iconst (v := 0) C rfl d_M_mint_89 ?_
      refine g_iret C E hr d_M_mint_90 ?_
      exact ⟨rfl, MW_up hW (by unfold isM; exact (by repeat' first | assumption | exact up_eq _ _ _ | refine up_ne (by omega) ?_)) (fun j a b => by repeat' first | exact rfl | refine up_ne (by omega) ?_), (fun j a => by repeat' first | exact rfl | refine up_ne (by omega) ?_)⟩
    · refine g_iload C rfl d_M_mint_58 ?_
      refine g_iconst (v := 1) C rfl d_M_mint_60 ?_
      refine g_icmp_lt (tgt := 84) C d_M_mint_61 (by decide) (fun j61 => ?_) (fun j61 => ?_)
      · refine g_aload_n C rfl rfl d_M_mint_84 ?_
        refine g_iconst (v := 2) C rfl d_M_mint_85 ?_
        refine pf_M_84 C d_M_mint_86 rfl rfl (by first | assumption | omega) (by repeat' first | assumption | exact up_eq _ _ _ | refine up_ne (by omega) ?_) (by exact Nat.le_of_ble_eq_true rfl) ?_
        refine g_iconst (v := 0) C rfl d_M_mint_89 ?_
        refine g_iret C E hr d_M_mint_90 ?_
        exact ⟨rfl, MW_up hW (by unfold isM; exact (by repeat' first | assumption | exact up_eq _ _ _ | refine up_ne (by omega) ?_)) (fun j a b => by repeat' first | exact rfl | refine up_ne (by omega) ?_), (fun j a => by repeat' first | exact rfl | refine up_ne (by omega) ?_)⟩
      · refine g_iload C rfl d_M_mint_64 ?_
        refine g_ldc C m_753 d_M_mint_66 ?_
        refine g_icmp_gt (tgt := 84) C d_M_mint_68 (by decide) (fun j68 => ?_) (fun j68 => ?_)
        · refine g_aload_n C rfl rfl d_M_mint_84 ?_
          refine g_iconst (v := 2) C rfl d_M_mint_85 ?_
          refine pf_M_84 C d_M_mint_86 rfl rfl (by first | assumption | omega) (by repeat' first | assumption | exact up_eq _ _ _ | refine up_ne (by omega) ?_) (by exact Nat.le_of_ble_eq_true rfl) ?_
          refine g_iconst (v := 0) C rfl d_M_mint_89 ?_
          refine g_iret C E hr d_M_mint_90 ?_
          exact ⟨rfl, MW_up hW (by unfold isM; exact (by repeat' first | assumption | exact up_eq _ _ _ | refine up_ne (by omega) ?_)) (fun j a b => by repeat' first | exact rfl | refine up_ne (by omega) ?_), (fun j a => by repeat' first | exact rfl | refine up_ne (by omega) ?_)⟩
        · refine g_lload C rfl d_M_mint_71 ?_
          refine g_iload C rfl d_M_mint_73 ?_
          refine g_i2l C d_M_mint_75 ?_
          refine g_ladd C d_M_mint_76 ?_
          refine g_ldc2 C m_754 d_M_mint_77 ?_
          refine g_lcmp_le (tgt := 91) C d_M_mint_80 d_M_mint_81 (by decide) (fun j80 => ?_) (fun j80 => ?_)
          · exact h2.elim (fun q => absurd q j55) (fun q => q.elim (fun q => absurd q j61) (fun q => q.elim (fun q => absurd q j68) (fun q => absurd j80 q)))
          refine g_aload_n C rfl rfl d_M_mint_84 ?_
          refine g_iconst (v := 2) C rfl d_M_mint_85 ?_
          refine pf_M_84 C d_M_mint_86 rfl rfl (by first | assumption | omega) (by repeat' first | assumption | exact up_eq _ _ _ | refine up_ne (by omega) ?_) (by exact Nat.le_of_ble_eq_true rfl) ?_
          refine g_iconst (v := 0) C rfl d_M_mint_89 ?_
          refine g_iret C E hr d_M_mint_90 ?_
          exact ⟨rfl, MW_up hW (by unfold isM; exact (by repeat' first | assumption | exact up_eq _ _ _ | refine up_ne (by omega) ?_)) (fun j a b => by repeat' first | exact rfl | refine up_ne (by omega) ?_), (fun j a => by repeat' first | exact rfl | refine up_ne (by omega) ?_)⟩
def updZ (f : Nat → Int) (k : Nat) (x : Int) : Nat → Int := fun j => if j = k then x else f j
theorem updZ_s {f : Nat → Int} {k : Nat} {x : Int} : updZ f k x k = x := if_pos rfl
theorem updZ_n {f : Nat → Int} {k : Nat} {x : Int} {j : Nat} (h : j ≠ k) : updZ f k x j = f j := if_neg h
theorem updN_i {f : Nat → Nat} {k x : Nat} : upd (fun i => nI (f i)) k (nI x) = fun i => nI (updN f k x i) := by
  funext j
  by_cases e : j = k
  · subst e; rw [pk_us, updN_s]
  · rw [pk_un e, updN_n e]
theorem updZ_i {f : Nat → Int} {k : Nat} {x : Int} : upd (fun i => iI (f i)) k (iI x) = fun i => iI (updZ f k x i) := by
  funext j
  by_cases e : j = k
  · subst e; rw [pk_us, updZ_s]
  · rw [pk_un e, updZ_n e]
theorem updN_same {f : Nat → Nat} {k x : Nat} (h : nI (f k) = nI x) : (fun i => nI (f i)) = fun i => nI (updN f k x i) := by
  funext j
  by_cases e : j = k
  · subst e; rw [updN_s, h]
  · rw [updN_n e]
theorem updZ_same {f : Nat → Int} {k : Nat} {x : Int} (h : iI (f k) = iI x) : (fun i => iI (f i)) = fun i => iI (updZ f k x i) := by
  funext j
  by_cases e : j = k
  · subst e; rw [updZ_s, h]
  · rw [updZ_n e]
def zMint (Z : ZS) (a p q L A B : Nat) (lo hi : Int) : ZS := ((zla Z, vp_updL (vp_updL (zbal Z) (a * 3 + p) (zbal Z (a * 3 + p) - lN A)) (a * 3 + (p + 1)) (vp_updL (zbal Z) (a * 3 + p) (zbal Z (a * 3 + p) - lN A) (a * 3 + (p + 1)) - lN B), zgiv Z, vp_updL (vp_updL (zhol Z) p (zhol Z p + lN A)) (p + 1) (vp_updL (zhol Z) p (zhol Z p + lN A) (p + 1) + lN B)), Z.2.1, updN (zow Z) q a, updN (zpl Z) q p, updZ (zlo Z) q lo, updZ (zhi Z) q hi, updN (zam Z) q (zam Z q + L), sFa (zfa Z) q, sOd (zod Z) (zfa Z) (lN (zam Z q)) q)
theorem swB_f {a : Nat} {od : Nat → Int64} {k : Nat} (h : swB a od k = false) : a = 0 ∧ od (2 * k) = 0 ∧ od (2 * k + 1) = 0 := by
  have h1 : ¬ (0 < a ∨ ¬ od (2 * k) = 0 ∨ ¬ od (2 * k + 1) = 0) := of_decide_eq_false h
  refine ⟨Nat.eq_zero_of_not_pos (fun q => h1 (Or.inl q)), ?_, ?_⟩
  · exact Decidable.byContradiction (fun q => h1 (Or.inr (Or.inl q)))
  · exact Decidable.byContradiction (fun q => h1 (Or.inr (Or.inr q)))
theorem swB_t {a : Nat} {od : Nat → Int64} {k : Nat} (h : 0 < a) : swB a od k = true := decide_eq_true (Or.inl h)
theorem shr_0 (x : Int64) : shr x 0 = 0 := by
  unfold shr
  rw [Int64.mul_zero, Int64.mul_zero]
  rfl
theorem th_mint {Z : ZS} {a p q L A B : Nat} {lo hi : Int} (hL : 1 ≤ L) : (fun i => bz (updB (zth Z) q true i)) = fun i => bz (zth (zMint Z a p q L A B lo hi) i) := by
  have h := zth_other (Z := Z) (Z' := zMint Z a p q L A B lo hi) (k := q) (fun i h => updN_n h) (fun i h1 h2 => sOd_n h1 h2)
  rw [swB_t (show 0 < zam (zMint Z a p q L A B lo hi) q from by show 0 < updN (zam Z) q (zam Z q + L) q; rw [updN_s]; omega)] at h
  exact h
theorem updB_same {f : Nat → Bool} {k : Nat} (h : f k = true) : (fun i => bz (f i)) = fun i => bz (updB f k true i) := by
  funext j
  by_cases e : j = k
  · subst e; rw [updB, if_pos rfl, h]
  · rw [updB, if_neg e]
theorem sFa_sFa {fa f : Nat → Int64} {q : Nat} (h : ∀ i, i ≠ 2 * q → i ≠ 2 * q + 1 → f i = fa i) : sFa f q = sFa fa q := by
  funext i
  unfold sFa
  by_cases e : i = 2 * q + 1
  · subst e; rw [pk_usL, pk_usL]
  · rw [pk_unL e, pk_unL e]
    by_cases e2 : i = 2 * q
    · subst e2; rw [pk_usL, pk_usL]
    · rw [pk_unL e2, pk_unL e2, h i e2 e]
theorem sOd_0 {od fa d f : Nat → Int64} {q : Nat} (h : ∀ i, i ≠ 2 * q → i ≠ 2 * q + 1 → d i = od i) (h1 : d (2 * q) = od (2 * q)) (h2 : d (2 * q + 1) = od (2 * q + 1)) : sOd d f 0 q = sOd od fa 0 q := by
  funext i
  unfold sOd
  rw [shr_0, shr_0, shr_0, shr_0]
  by_cases e : i = 2 * q + 1
  · subst e; rw [pk_usL, pk_usL, h2]
  · rw [pk_unL e, pk_unL e]
    by_cases e2 : i = 2 * q
    · subst e2; rw [pk_usL, pk_usL, h1]
    · rw [pk_unL e2, pk_unL e2, h i e2 e]

set_option maxHeartbeats 4000000 in
theorem e_M_mint3 {l : Launch} {o n : Nat} {sg : Nat → va_E} {m : Nat} {t0 : Int32} {Z : ZS} (a p L : Nat) (lo hi : Int) (hn : m + 22 < n) (hW : MW sg o m t0 Z) (ha : a < 4) (hp : p < 2) (h1 : -40 ≤ lo) (hlh : lo < hi) (h2 : hi ≤ 40) (hL1 : 1 ≤ L) (hL : zHad Z (zFind Z (nI a) (nI p) (iI lo) (iI hi)) + L ≤ 50000000) (hT : TkOk (zpr Z p) (ztk Z p)) (h3 : zPlace Z (zFind Z (nI a) (nI p) (iI lo) (iI hi)) = none ∨ zbal Z (a * 3 + p) < lN (zWN true L (zpr Z p) (ztk Z p) lo hi) ∨ zbal Z (a * 3 + (p + 1)) < lN (zWF true L (zpr Z p) (ztk Z p) lo hi)) : GM l y_M_mint b_M_mint 15 (some .int) 5 126 0 0 o n n sg false [.ref (ad o m), .int (nI a), .int (nI p), .int (iI lo), .int (iI hi), .int (nI L)] (fun r0 s => some (.int 0) = r0 ∧ MW s o m 3 Z ∧ mfr sg s m) := by
  have hm1 : sg m = _ := hW.1
  obtain ⟨a1, a2, a3, a4, a5, a6, a7, a8, a9, a10, a11⟩ := hW.2.1
  have a9x := a9.2.2.2.2.2
  have b1 := a9.1
  have b2 := a9.2.1
  have b3 := a9.2.2.1
  have b4 := a9.2.2.2.1
  have b5 := a9.2.2.2.2.1
  have hall : bPl (nI a) (nI p) (iI lo) (iI hi) = true := okPl_b ⟨ok4 ha, ok2 hp, okT_i h1 (by omega), okT_i (by omega) h2⟩
  have hLl : (nI L).toInt64 = lN L := nI_l (by omega)
  refine GM_of (by decide) (Nat.le_of_ble_eq_true rfl) ?_
  intro K C hl hz hr hnm E
  show G K o n sg 0 0 0 [(0, .ref (ad o m)), (1, .int (nI a)), (2, .int (nI p)), (3, .int (iI lo)), (4, .int (iI hi)), (5, .int (nI L))] []
  generalize hAe : (zWN true L (zpr Z p) (ztk Z p) lo hi) = A at *
  generalize hBe : (zWF true L (zpr Z p) (ztk Z p) lo hi) = B at *
  rcases opt_or (zFind Z (nI a) (nI p) (iI lo) (iI hi)) with e | ⟨k, e⟩
  · rw [e] at hL h3
    have hL : 0 + L ≤ 50000000 := hL
    rcases opt_or (fnd (fun i => !zth Z i) 12) with e2 | ⟨q, e2⟩
    · refine g_aload_n C rfl rfl d_M_mint_0 ?_
      refine g_iconst (v := 0) C rfl d_M_mint_1 ?_
      refine pf_M_84 C d_M_mint_2 rfl rfl (by first | assumption | omega) (by repeat' first | assumption | exact up_eq _ _ _ | refine up_ne (by omega) ?_) (by exact Nat.le_of_ble_eq_true rfl) ?_
      refine g_iload_n C rfl rfl d_M_mint_5 ?_
      refine g_iload_n C rfl rfl d_M_mint_6 ?_
      refine g_iload_n C rfl rfl d_M_mint_7 ?_
      refine g_iload C rfl d_M_mint_8 ?_
      refine g_callS C (c_M_all (nI a) (nI p) (iI lo) (iI hi)) Y_M_all m_741 m_740 ⟨by decide, by decide⟩ ⟨by decide, by decide⟩ (fun h => nomatch h) d_M_mint_10 rfl (Nat.le_of_ble_eq_true rfl) (fun ret sg10 hq => ?_)
      obtain ⟨rfl, rfl⟩ := hq
      refine g_if_ne (tgt := 23) C d_M_mint_13 (by decide) (fun j13 => ?_) (fun j13 => ?_)
      rotate_left
      · exact absurd (j13.symm.trans (by rw [hall]; rfl)) (show ¬ (0 : Int32) = 1 by decide)
      refine g_aload_n C rfl rfl d_M_mint_23 ?_
      refine g_iload_n C rfl rfl d_M_mint_24 ?_
      refine g_iload_n C rfl rfl d_M_mint_25 ?_
      refine g_iload_n C rfl rfl d_M_mint_26 ?_
      refine g_iload C rfl d_M_mint_27 ?_
      refine g_callV C (c_M_find (t0 := 0) (la := zla Z) (th := zth Z) (ow := zow Z) (pl := zpl Z) (lo := zlo Z) (hi := zhi Z) (am := zam Z) (nI a) (nI p) (iI lo) (iI hi) hn (by unfold isM; exact (by repeat' first | assumption | exact up_eq _ _ _ | refine up_ne (by omega) ?_)) (isMP_mv a9 (fun j a b => by repeat' first | exact rfl | refine up_ne (by omega) ?_))) Y_M_find m_751 s_M_find m_749 rfl rfl ⟨by decide, by decide⟩ ⟨by decide, by decide⟩ (fun h => nomatch h) d_M_mint_29 (by first | assumption | omega) (by repeat' first | assumption | exact up_eq _ _ _ | refine up_ne (by omega) ?_) rfl (Nat.le_of_ble_eq_true rfl) (fun ret sg29 hq => ?_)
      obtain ⟨rfl, rfl⟩ := hq
      rw [show fnd (mIs (zth Z) (zow Z) (zpl Z) (zlo Z) (zhi Z) (nI a) (nI p) (iI lo) (iI hi)) 12 = none from e]
      refine g_istore (lv' := [(6, .int (-1)), (0, .ref (ad o m)), (1, .int (nI a)), (2, .int (nI p)), (3, .int (iI lo)), (4, .int (iI hi)), (5, .int (nI L))]) C d_M_mint_32 (by decide) rfl ?_
      refine g_iload C rfl d_M_mint_34 ?_
      refine g_if_ge (tgt := 43) C d_M_mint_36 (by decide) (fun j36 => ?_) (fun j36 => ?_)
      · exact absurd j36 (by decide)
      refine g_lconst (v := 0) C rfl d_M_mint_39 ?_
      refine g_goto (tgt := 50) C d_M_mint_40 (by decide) ?_
      refine g_lstore (lv' := [(7, .long (lN 0)), (6, .int (-1)), (0, .ref (ad o m)), (1, .int (nI a)), (2, .int (nI p)), (3, .int (iI lo)), (4, .int (iI hi)), (5, .int (nI L))]) C d_M_mint_50 (by decide) rfl ?_
      refine g_iload_n C rfl rfl d_M_mint_52 ?_
      refine g_iload C rfl d_M_mint_53 ?_
      refine g_icmp_ge (tgt := 84) C d_M_mint_55 (by decide) (fun j55 => ?_) (fun j55 => ?_)
      · exact absurd ((iI_le (by omega) (by omega) (by omega) (by omega)).mp j55) (by omega)
      refine g_iload C rfl d_M_mint_58 ?_
      refine g_iconst (v := 1) C rfl d_M_mint_60 ?_
      refine g_icmp_lt (tgt := 84) C d_M_mint_61 (by decide) (fun j61 => ?_) (fun j61 => ?_)
      · exact absurd j61 (nI_nlt (b := 1) hL1 (by omega))
      refine g_iload C rfl d_M_mint_64 ?_
      refine g_ldc C m_753 d_M_mint_66 ?_
      refine g_icmp_gt (tgt := 84) C d_M_mint_68 (by decide) (fun j68 => ?_) (fun j68 => ?_)
      · exact absurd j68 (nI_nlt (a := 50000000) (by omega) (by decide))
      refine g_lload C rfl d_M_mint_71 ?_
      refine g_iload C rfl d_M_mint_73 ?_
      refine g_i2l C d_M_mint_75 ?_
      rw [hLl]
      refine g_ladd C d_M_mint_76 ?_
      refine g_ldc2 C m_754 d_M_mint_77 ?_
      rw [lN_add]
      refine g_lcmp_le (tgt := 91) C d_M_mint_80 d_M_mint_81 (by decide) (fun j80 => ?_) (fun j80 => ?_)
      rotate_left
      · exact absurd ((pk_lLE (b := 50000000) (by omega) (by decide)).mpr hL) j80
      refine g_aload_n C rfl rfl d_M_mint_91 ?_
      refine g_iload_n C rfl rfl d_M_mint_92 ?_
      refine g_iload_n C rfl rfl d_M_mint_93 ?_
      refine g_iload C rfl d_M_mint_94 ?_
      refine g_iload C rfl d_M_mint_96 ?_
      refine g_i2l C d_M_mint_98 ?_
      rw [hLl]
      refine g_iconst (v := 1) C rfl d_M_mint_99 ?_
      refine g_callV C (c_M_worthNear (t0 := 0) (la := zla Z) (pr := zpr Z) (tk := ztk Z) true p L lo hi hn (by unfold isM; exact (by repeat' first | assumption | exact up_eq _ _ _ | refine up_ne (by omega) ?_)) (isMR_mv a1 (by repeat' first | exact rfl | refine up_ne (by omega) ?_)) (by repeat' first | assumption | exact up_eq _ _ _ | refine up_ne (by omega) ?_) (by repeat' first | assumption | exact up_eq _ _ _ | refine up_ne (by omega) ?_) hp h1 hlh h2 hT.1 hT.2.1 (by have := hT.2.2.1; omega) (fun q1 q2 => tk_hi hT q1 q2 h2) (by omega)) Y_M_worthNear m_757 s_M_worthNear m_755 rfl rfl ⟨by decide, by decide⟩ ⟨by decide, by decide⟩ (fun h => nomatch h) d_M_mint_100 (by first | assumption | omega) (by repeat' first | assumption | exact up_eq _ _ _ | refine up_ne (by omega) ?_) rfl (Nat.le_of_ble_eq_true rfl) (fun ret sg100 hq => ?_)
      obtain ⟨rfl, rfl⟩ := hq
      rw [hAe]
      refine g_lstore (lv' := [(9, .long (lN A)), (7, .long (lN 0)), (6, .int (-1)), (0, .ref (ad o m)), (1, .int (nI a)), (2, .int (nI p)), (3, .int (iI lo)), (4, .int (iI hi)), (5, .int (nI L))]) C d_M_mint_103 (by decide) rfl ?_
      refine g_aload_n C rfl rfl d_M_mint_105 ?_
      refine g_iload_n C rfl rfl d_M_mint_106 ?_
      refine g_iload_n C rfl rfl d_M_mint_107 ?_
      refine g_iload C rfl d_M_mint_108 ?_
      refine g_iload C rfl d_M_mint_110 ?_
      refine g_i2l C d_M_mint_112 ?_
      rw [hLl]
      refine g_iconst (v := 1) C rfl d_M_mint_113 ?_
      refine g_callV C (c_M_worthFar (t0 := 0) (la := zla Z) (pr := zpr Z) (tk := ztk Z) true p L lo hi hn (by unfold isM; exact (by repeat' first | assumption | exact up_eq _ _ _ | refine up_ne (by omega) ?_)) (isMR_mv a1 (by repeat' first | exact rfl | refine up_ne (by omega) ?_)) (by repeat' first | assumption | exact up_eq _ _ _ | refine up_ne (by omega) ?_) (by repeat' first | assumption | exact up_eq _ _ _ | refine up_ne (by omega) ?_) hp h1 hlh h2 hT.1 hT.2.1 (by have := hT.2.2.2.1; omega) (fun q1 q2 => tk_lo hT h1 q1) (by omega)) Y_M_worthFar m_775 s_M_worthFar m_773 rfl rfl ⟨by decide, by decide⟩ ⟨by decide, by decide⟩ (fun h => nomatch h) d_M_mint_114 (by first | assumption | omega) (by repeat' first | assumption | exact up_eq _ _ _ | refine up_ne (by omega) ?_) rfl (Nat.le_of_ble_eq_true rfl) (fun ret sg114 hq => ?_)
      obtain ⟨rfl, rfl⟩ := hq
      rw [hBe]
      refine g_lstore (lv' := [(11, .long (lN B)), (9, .long (lN A)), (7, .long (lN 0)), (6, .int (-1)), (0, .ref (ad o m)), (1, .int (nI a)), (2, .int (nI p)), (3, .int (iI lo)), (4, .int (iI hi)), (5, .int (nI L))]) C d_M_mint_117 (by decide) rfl ?_
      refine g_iload C rfl d_M_mint_119 ?_
      refine g_if_ge (tgt := 131) C d_M_mint_121 (by decide) (fun j121 => ?_) (fun j121 => ?_)
      · exact absurd j121 (by decide)
      refine g_aload_n C rfl rfl d_M_mint_124 ?_
      refine g_callV C (c_M_free (t0 := 0) (la := zla Z) (th := zth Z) (ow := zow Z) (pl := zpl Z) (lo := zlo Z) (hi := zhi Z) (am := zam Z) hn (by unfold isM; exact (by repeat' first | assumption | exact up_eq _ _ _ | refine up_ne (by omega) ?_)) (isMP_mv a9 (fun j a b => by repeat' first | exact rfl | refine up_ne (by omega) ?_))) Y_M_free m_782 s_M_free m_780 rfl rfl ⟨by decide, by decide⟩ ⟨by decide, by decide⟩ (fun h => nomatch h) d_M_mint_125 (by first | assumption | omega) (by repeat' first | assumption | exact up_eq _ _ _ | refine up_ne (by omega) ?_) rfl (Nat.le_of_ble_eq_true rfl) (fun ret sg125 hq => ?_)
      obtain ⟨rfl, rfl⟩ := hq
      rw [show fnd (fun i => !zth Z i) 12 = none from e2]
      refine g_goto (tgt := 133) C d_M_mint_128 (by decide) ?_
      refine g_istore (lv' := [(13, .int (-1)), (11, .long (lN B)), (9, .long (lN A)), (7, .long (lN 0)), (6, .int (-1)), (0, .ref (ad o m)), (1, .int (nI a)), (2, .int (nI p)), (3, .int (iI lo)), (4, .int (iI hi)), (5, .int (nI L))]) C d_M_mint_133 (by decide) rfl ?_
      refine g_iload C rfl d_M_mint_135 ?_
      refine g_if_lt (tgt := 174) C d_M_mint_137 (by decide) (fun j137 => ?_) (fun j137 => ?_)
      rotate_left
      · exact absurd (by decide) j137
      refine g_aload_n C rfl rfl d_M_mint_174 ?_
      refine g_iconst (v := 3) C rfl d_M_mint_175 ?_
      refine pf_M_84 C d_M_mint_176 rfl rfl (by first | assumption | omega) (by repeat' first | assumption | exact up_eq _ _ _ | refine up_ne (by omega) ?_) (by exact Nat.le_of_ble_eq_true rfl) ?_
      refine g_iconst (v := 0) C rfl d_M_mint_179 ?_
      refine g_iret C E hr d_M_mint_180 ?_
      exact ⟨rfl, MW_up hW (by unfold isM; exact (by repeat' first | assumption | exact up_eq _ _ _ | refine up_ne (by omega) ?_)) (fun j a b => by repeat' first | exact rfl | refine up_ne (by omega) ?_), (fun j a => by repeat' first | exact rfl | refine up_ne (by omega) ?_)⟩
    · have hq := (fnd_some e2).1
      refine g_aload_n C rfl rfl d_M_mint_0 ?_
      refine g_iconst (v := 0) C rfl d_M_mint_1 ?_
      refine pf_M_84 C d_M_mint_2 rfl rfl (by first | assumption | omega) (by repeat' first | assumption | exact up_eq _ _ _ | refine up_ne (by omega) ?_) (by exact Nat.le_of_ble_eq_true rfl) ?_
      refine g_iload_n C rfl rfl d_M_mint_5 ?_
      refine g_iload_n C rfl rfl d_M_mint_6 ?_
      refine g_iload_n C rfl rfl d_M_mint_7 ?_
      refine g_iload C rfl d_M_mint_8 ?_
      refine g_callS C (c_M_all (nI a) (nI p) (iI lo) (iI hi)) Y_M_all m_741 m_740 ⟨by decide, by decide⟩ ⟨by decide, by decide⟩ (fun h => nomatch h) d_M_mint_10 rfl (Nat.le_of_ble_eq_true rfl) (fun ret sg10 hq => ?_)
      obtain ⟨rfl, rfl⟩ := hq
      refine g_if_ne (tgt := 23) C d_M_mint_13 (by decide) (fun j13 => ?_) (fun j13 => ?_)
      rotate_left
      · exact absurd (j13.symm.trans (by rw [hall]; rfl)) (show ¬ (0 : Int32) = 1 by decide)
      refine g_aload_n C rfl rfl d_M_mint_23 ?_
      refine g_iload_n C rfl rfl d_M_mint_24 ?_
      refine g_iload_n C rfl rfl d_M_mint_25 ?_
      refine g_iload_n C rfl rfl d_M_mint_26 ?_
      refine g_iload C rfl d_M_mint_27 ?_
      refine g_callV C (c_M_find (t0 := 0) (la := zla Z) (th := zth Z) (ow := zow Z) (pl := zpl Z) (lo := zlo Z) (hi := zhi Z) (am := zam Z) (nI a) (nI p) (iI lo) (iI hi) hn (by unfold isM; exact (by repeat' first | assumption | exact up_eq _ _ _ | refine up_ne (by omega) ?_)) (isMP_mv a9 (fun j a b => by repeat' first | exact rfl | refine up_ne (by omega) ?_))) Y_M_find m_751 s_M_find m_749 rfl rfl ⟨by decide, by decide⟩ ⟨by decide, by decide⟩ (fun h => nomatch h) d_M_mint_29 (by first | assumption | omega) (by repeat' first | assumption | exact up_eq _ _ _ | refine up_ne (by omega) ?_) rfl (Nat.le_of_ble_eq_true rfl) (fun ret sg29 hq => ?_)
      obtain ⟨rfl, rfl⟩ := hq
      rw [show fnd (mIs (zth Z) (zow Z) (zpl Z) (zlo Z) (zhi Z) (nI a) (nI p) (iI lo) (iI hi)) 12 = none from e]
      refine g_istore (lv' := [(6, .int (-1)), (0, .ref (ad o m)), (1, .int (nI a)), (2, .int (nI p)), (3, .int (iI lo)), (4, .int (iI hi)), (5, .int (nI L))]) C d_M_mint_32 (by decide) rfl ?_
      refine g_iload C rfl d_M_mint_34 ?_
      refine g_if_ge (tgt := 43) C d_M_mint_36 (by decide) (fun j36 => ?_) (fun j36 => ?_)
      · exact absurd j36 (by decide)
      refine g_lconst (v := 0) C rfl d_M_mint_39 ?_
      refine g_goto (tgt := 50) C d_M_mint_40 (by decide) ?_
      refine g_lstore (lv' := [(7, .long (lN 0)), (6, .int (-1)), (0, .ref (ad o m)), (1, .int (nI a)), (2, .int (nI p)), (3, .int (iI lo)), (4, .int (iI hi)), (5, .int (nI L))]) C d_M_mint_50 (by decide) rfl ?_
      refine g_iload_n C rfl rfl d_M_mint_52 ?_
      refine g_iload C rfl d_M_mint_53 ?_
      refine g_icmp_ge (tgt := 84) C d_M_mint_55 (by decide) (fun j55 => ?_) (fun j55 => ?_)
      · exact absurd ((iI_le (by omega) (by omega) (by omega) (by omega)).mp j55) (by omega)
      refine g_iload C rfl d_M_mint_58 ?_
      refine g_iconst (v := 1) C rfl d_M_mint_60 ?_
      refine g_icmp_lt (tgt := 84) C d_M_mint_61 (by decide) (fun j61 => ?_) (fun j61 => ?_)
      · exact absurd j61 (nI_nlt (b := 1) hL1 (by omega))
      refine g_iload C rfl d_M_mint_64 ?_
      refine g_ldc C m_753 d_M_mint_66 ?_
      refine g_icmp_gt (tgt := 84) C d_M_mint_68 (by decide) (fun j68 => ?_) (fun j68 => ?_)
      · exact absurd j68 (nI_nlt (a := 50000000) (by omega) (by decide))
      refine g_lload C rfl d_M_mint_71 ?_
      refine g_iload C rfl d_M_mint_73 ?_
      refine g_i2l C d_M_mint_75 ?_
      rw [hLl]
      refine g_ladd C d_M_mint_76 ?_
      refine g_ldc2 C m_754 d_M_mint_77 ?_
      rw [lN_add]
      refine g_lcmp_le (tgt := 91) C d_M_mint_80 d_M_mint_81 (by decide) (fun j80 => ?_) (fun j80 => ?_)
      rotate_left
      · exact absurd ((pk_lLE (b := 50000000) (by omega) (by decide)).mpr hL) j80
      refine g_aload_n C rfl rfl d_M_mint_91 ?_
      refine g_iload_n C rfl rfl d_M_mint_92 ?_
      refine g_iload_n C rfl rfl d_M_mint_93 ?_
      refine g_iload C rfl d_M_mint_94 ?_
      refine g_iload C rfl d_M_mint_96 ?_
      refine g_i2l C d_M_mint_98 ?_
      rw [hLl]
      refine g_iconst (v := 1) C rfl d_M_mint_99 ?_
      refine g_callV C (c_M_worthNear (t0 := 0) (la := zla Z) (pr := zpr Z) (tk := ztk Z) true p L lo hi hn (by unfold isM; exact (by repeat' first | assumption | exact up_eq _ _ _ | refine up_ne (by omega) ?_)) (isMR_mv a1 (by repeat' first | exact rfl | refine up_ne (by omega) ?_)) (by repeat' first | assumption | exact up_eq _ _ _ | refine up_ne (by omega) ?_) (by repeat' first | assumption | exact up_eq _ _ _ | refine up_ne (by omega) ?_) hp h1 hlh h2 hT.1 hT.2.1 (by have := hT.2.2.1; omega) (fun q1 q2 => tk_hi hT q1 q2 h2) (by omega)) Y_M_worthNear m_757 s_M_worthNear m_755 rfl rfl ⟨by decide, by decide⟩ ⟨by decide, by decide⟩ (fun h => nomatch h) d_M_mint_100 (by first | assumption | omega) (by repeat' first | assumption | exact up_eq _ _ _ | refine up_ne (by omega) ?_) rfl (Nat.le_of_ble_eq_true rfl) (fun ret sg100 hq => ?_)
      obtain ⟨rfl, rfl⟩ := hq
      rw [hAe]
      refine g_lstore (lv' := [(9, .long (lN A)), (7, .long (lN 0)), (6, .int (-1)), (0, .ref (ad o m)), (1, .int (nI a)), (2, .int (nI p)), (3, .int (iI lo)), (4, .int (iI hi)), (5, .int (nI L))]) C d_M_mint_103 (by decide) rfl ?_
      refine g_aload_n C rfl rfl d_M_mint_105 ?_
      refine g_iload_n C rfl rfl d_M_mint_106 ?_
      refine g_iload_n C rfl rfl d_M_mint_107 ?_
      refine g_iload C rfl d_M_mint_108 ?_
      refine g_iload C rfl d_M_mint_110 ?_
      refine g_i2l C d_M_mint_112 ?_
      rw [hLl]
      refine g_iconst (v := 1) C rfl d_M_mint_113 ?_
      refine g_callV C (c_M_worthFar (t0 := 0) (la := zla Z) (pr := zpr Z) (tk := ztk Z) true p L lo hi hn (by unfold isM; exact (by repeat' first | assumption | exact up_eq _ _ _ | refine up_ne (by omega) ?_)) (isMR_mv a1 (by repeat' first | exact rfl | refine up_ne (by omega) ?_)) (by repeat' first | assumption | exact up_eq _ _ _ | refine up_ne (by omega) ?_) (by repeat' first | assumption | exact up_eq _ _ _ | refine up_ne (by omega) ?_) hp h1 hlh h2 hT.1 hT.2.1 (by have := hT.2.2.2.1; omega) (fun q1 q2 => tk_lo hT h1 q1) (by omega)) Y_M_worthFar m_775 s_M_worthFar m_773 rfl rfl ⟨by decide, by decide⟩ ⟨by decide, by decide⟩ (fun h => nomatch h) d_M_mint_114 (by first | assumption | omega) (by repeat' first | assumption | exact up_eq _ _ _ | refine up_ne (by omega) ?_) rfl (Nat.le_of_ble_eq_true rfl) (fun ret sg114 hq => ?_)
      obtain ⟨rfl, rfl⟩ := hq
      rw [hBe]
      refine g_lstore (lv' := [(11, .long (lN B)), (9, .long (lN A)), (7, .long (lN 0)), (6, .int (-1)), (0, .ref (ad o m)), (1, .int (nI a)), (2, .int (nI p)), (3, .int (iI lo)), (4, .int (iI hi)), (5, .int (nI L))]) C d_M_mint_117 (by decide) rfl ?_
      refine g_iload C rfl d_M_mint_119 ?_
      refine g_if_ge (tgt := 131) C d_M_mint_121 (by decide) (fun j121 => ?_) (fun j121 => ?_)
      · exact absurd j121 (by decide)
      refine g_aload_n C rfl rfl d_M_mint_124 ?_
      refine g_callV C (c_M_free (t0 := 0) (la := zla Z) (th := zth Z) (ow := zow Z) (pl := zpl Z) (lo := zlo Z) (hi := zhi Z) (am := zam Z) hn (by unfold isM; exact (by repeat' first | assumption | exact up_eq _ _ _ | refine up_ne (by omega) ?_)) (isMP_mv a9 (fun j a b => by repeat' first | exact rfl | refine up_ne (by omega) ?_))) Y_M_free m_782 s_M_free m_780 rfl rfl ⟨by decide, by decide⟩ ⟨by decide, by decide⟩ (fun h => nomatch h) d_M_mint_125 (by first | assumption | omega) (by repeat' first | assumption | exact up_eq _ _ _ | refine up_ne (by omega) ?_) rfl (Nat.le_of_ble_eq_true rfl) (fun ret sg125 hq => ?_)
      obtain ⟨rfl, rfl⟩ := hq
      rw [show fnd (fun i => !zth Z i) 12 = some q from e2]
      refine g_goto (tgt := 133) C d_M_mint_128 (by decide) ?_
      refine g_istore (lv' := [(13, .int (nI q)), (11, .long (lN B)), (9, .long (lN A)), (7, .long (lN 0)), (6, .int (-1)), (0, .ref (ad o m)), (1, .int (nI a)), (2, .int (nI p)), (3, .int (iI lo)), (4, .int (iI hi)), (5, .int (nI L))]) C d_M_mint_133 (by decide) rfl ?_
      refine g_iload C rfl d_M_mint_135 ?_
      refine g_if_lt (tgt := 174) C d_M_mint_137 (by decide) (fun j137 => ?_) (fun j137 => ?_)
      · exact absurd j137 (nI_pos (by omega))
      refine g_aload_n C rfl rfl d_M_mint_140 ?_
      refine gf_M_13 C d_M_mint_141 (by first | assumption | omega) (by repeat' first | assumption | exact up_eq _ _ _ | refine up_ne (by omega) ?_) (by rfl) ?_
      refine g_iconst (v := 3) C rfl d_M_mint_144 ?_
      refine g_iload_n C rfl rfl d_M_mint_145 ?_
      refine g_imul C d_M_mint_146 ?_
      refine g_iload_n C rfl rfl d_M_mint_147 ?_
      refine g_iadd C d_M_mint_148 ?_
      rw [show (3 : Int32) = nI 3 from rfl, pk_mul, nI_add, Nat.mul_comm 3 a]
      refine g_lald C d_M_mint_149 (by first | assumption | omega) (by repeat' first | assumption | exact up_eq _ _ _ | refine up_ne (by omega) ?_) (vp_in_nI (by omega) (by decide)) ?_
      rw [nI_clamp (n := a * 3 + p) (by omega)]
      refine g_lload C rfl d_M_mint_150 ?_
      refine g_lcmp_lt (tgt := 174) C d_M_mint_152 d_M_mint_153 (by decide) (fun j152 => ?_) (fun j152 => ?_)
      · refine g_aload_n C rfl rfl d_M_mint_174 ?_
        refine g_iconst (v := 3) C rfl d_M_mint_175 ?_
        refine pf_M_84 C d_M_mint_176 rfl rfl (by first | assumption | omega) (by repeat' first | assumption | exact up_eq _ _ _ | refine up_ne (by omega) ?_) (by exact Nat.le_of_ble_eq_true rfl) ?_
        refine g_iconst (v := 0) C rfl d_M_mint_179 ?_
        refine g_iret C E hr d_M_mint_180 ?_
        exact ⟨rfl, MW_up hW (by unfold isM; exact (by repeat' first | assumption | exact up_eq _ _ _ | refine up_ne (by omega) ?_)) (fun j a b => by repeat' first | exact rfl | refine up_ne (by omega) ?_), (fun j a => by repeat' first | exact rfl | refine up_ne (by omega) ?_)⟩
      · refine g_aload_n C rfl rfl d_M_mint_156 ?_
        refine gf_M_13 C d_M_mint_157 (by first | assumption | omega) (by repeat' first | assumption | exact up_eq _ _ _ | refine up_ne (by omega) ?_) (by rfl) ?_
        refine g_iconst (v := 3) C rfl d_M_mint_160 ?_
        refine g_iload_n C rfl rfl d_M_mint_161 ?_
        refine g_imul C d_M_mint_162 ?_
        refine g_iload_n C rfl rfl d_M_mint_163 ?_
        refine g_iadd C d_M_mint_164 ?_
        refine g_iconst (v := 1) C rfl d_M_mint_165 ?_
        refine g_iadd C d_M_mint_166 ?_
        rw [show (3 : Int32) = nI 3 from rfl, pk_mul, nI_add, nI_1, Nat.mul_comm 3 a]
        refine g_lald C d_M_mint_167 (by first | assumption | omega) (by repeat' first | assumption | exact up_eq _ _ _ | refine up_ne (by omega) ?_) (vp_in_nI (by omega) (by decide)) ?_
        rw [nI_clamp (n := a * 3 + p + 1) (by omega)]
        refine g_lload C rfl d_M_mint_168 ?_
        refine g_lcmp_ge (tgt := 181) C d_M_mint_170 d_M_mint_171 (by decide) (fun j170 => ?_) (fun j170 => ?_)
        · exact h3.elim (fun z => nomatch (e2.symm.trans z)) (fun z => z.elim (fun z => absurd z j152) (fun z => absurd j170 (Int64.not_le.mpr z)))
        refine g_aload_n C rfl rfl d_M_mint_174 ?_
        refine g_iconst (v := 3) C rfl d_M_mint_175 ?_
        refine pf_M_84 C d_M_mint_176 rfl rfl (by first | assumption | omega) (by repeat' first | assumption | exact up_eq _ _ _ | refine up_ne (by omega) ?_) (by exact Nat.le_of_ble_eq_true rfl) ?_
        refine g_iconst (v := 0) C rfl d_M_mint_179 ?_
        refine g_iret C E hr d_M_mint_180 ?_
        exact ⟨rfl, MW_up hW (by unfold isM; exact (by repeat' first | assumption | exact up_eq _ _ _ | refine up_ne (by omega) ?_)) (fun j a b => by repeat' first | exact rfl | refine up_ne (by omega) ?_), (fun j a => by repeat' first | exact rfl | refine up_ne (by omega) ?_)⟩
  · rw [e] at hL h3
    have hL : zam Z k + L ≤ 50000000 := hL
    have hk := (fnd_some e).1
    have ck : (nI k).toNatClampNeg = k := nI_clamp (by omega)
    have ik : vp_in (nI k) 12 := vp_in_nI hk (by decide)
    refine g_aload_n C rfl rfl d_M_mint_0 ?_
    refine g_iconst (v := 0) C rfl d_M_mint_1 ?_
    refine pf_M_84 C d_M_mint_2 rfl rfl (by first | assumption | omega) (by repeat' first | assumption | exact up_eq _ _ _ | refine up_ne (by omega) ?_) (by exact Nat.le_of_ble_eq_true rfl) ?_
    refine g_iload_n C rfl rfl d_M_mint_5 ?_
    refine g_iload_n C rfl rfl d_M_mint_6 ?_
    refine g_iload_n C rfl rfl d_M_mint_7 ?_
    refine g_iload C rfl d_M_mint_8 ?_
    refine g_callS C (c_M_all (nI a) (nI p) (iI lo) (iI hi)) Y_M_all m_741 m_740 ⟨by decide, by decide⟩ ⟨by decide, by decide⟩ (fun h => nomatch h) d_M_mint_10 rfl (Nat.le_of_ble_eq_true rfl) (fun ret sg10 hq => ?_)
    obtain ⟨rfl, rfl⟩ := hq
    refine g_if_ne (tgt := 23) C d_M_mint_13 (by decide) (fun j13 => ?_) (fun j13 => ?_)
    rotate_left
    · exact absurd (j13.symm.trans (by rw [hall]; rfl)) (show ¬ (0 : Int32) = 1 by decide)
    refine g_aload_n C rfl rfl d_M_mint_23 ?_
    refine g_iload_n C rfl rfl d_M_mint_24 ?_
    refine g_iload_n C rfl rfl d_M_mint_25 ?_
    refine g_iload_n C rfl rfl d_M_mint_26 ?_
    refine g_iload C rfl d_M_mint_27 ?_
    refine g_callV C (c_M_find (t0 := 0) (la := zla Z) (th := zth Z) (ow := zow Z) (pl := zpl Z) (lo := zlo Z) (hi := zhi Z) (am := zam Z) (nI a) (nI p) (iI lo) (iI hi) hn (by unfold isM; exact (by repeat' first | assumption | exact up_eq _ _ _ | refine up_ne (by omega) ?_)) (isMP_mv a9 (fun j a b => by repeat' first | exact rfl | refine up_ne (by omega) ?_))) Y_M_find m_751 s_M_find m_749 rfl rfl ⟨by decide, by decide⟩ ⟨by decide, by decide⟩ (fun h => nomatch h) d_M_mint_29 (by first | assumption | omega) (by repeat' first | assumption | exact up_eq _ _ _ | refine up_ne (by omega) ?_) rfl (Nat.le_of_ble_eq_true rfl) (fun ret sg29 hq => ?_)
    obtain ⟨rfl, rfl⟩ := hq
    rw [show fnd (mIs (zth Z) (zow Z) (zpl Z) (zlo Z) (zhi Z) (nI a) (nI p) (iI lo) (iI hi)) 12 = some k from e]
    refine g_istore (lv' := [(6, .int (nI k)), (0, .ref (ad o m)), (1, .int (nI a)), (2, .int (nI p)), (3, .int (iI lo)), (4, .int (iI hi)), (5, .int (nI L))]) C d_M_mint_32 (by decide) rfl ?_
    refine g_iload C rfl d_M_mint_34 ?_
    refine g_if_ge (tgt := 43) C d_M_mint_36 (by decide) (fun j36 => ?_) (fun j36 => ?_)
    rotate_left
    · exact absurd (nI_pos' (by omega)) j36
    refine g_aload_n C rfl rfl d_M_mint_43 ?_
    refine gf_M_51 C d_M_mint_44 (by first | assumption | omega) (by repeat' first | assumption | exact up_eq _ _ _ | refine up_ne (by omega) ?_) (by rfl) ?_
    refine g_iload C rfl d_M_mint_47 ?_
    refine g_lald C d_M_mint_49 (by first | assumption | omega) (by repeat' first | assumption | exact up_eq _ _ _ | refine up_ne (by omega) ?_) ik ?_
    rw [ck]
    refine g_lstore (lv' := [(7, .long (lN (zam Z k))), (6, .int (nI k)), (0, .ref (ad o m)), (1, .int (nI a)), (2, .int (nI p)), (3, .int (iI lo)), (4, .int (iI hi)), (5, .int (nI L))]) C d_M_mint_50 (by decide) rfl ?_
    refine g_iload_n C rfl rfl d_M_mint_52 ?_
    refine g_iload C rfl d_M_mint_53 ?_
    refine g_icmp_ge (tgt := 84) C d_M_mint_55 (by decide) (fun j55 => ?_) (fun j55 => ?_)
    · exact absurd ((iI_le (by omega) (by omega) (by omega) (by omega)).mp j55) (by omega)
    refine g_iload C rfl d_M_mint_58 ?_
    refine g_iconst (v := 1) C rfl d_M_mint_60 ?_
    refine g_icmp_lt (tgt := 84) C d_M_mint_61 (by decide) (fun j61 => ?_) (fun j61 => ?_)
    · exact absurd j61 (nI_nlt (b := 1) hL1 (by omega))
    refine g_iload C rfl d_M_mint_64 ?_
    refine g_ldc C m_753 d_M_mint_66 ?_
    refine g_icmp_gt (tgt := 84) C d_M_mint_68 (by decide) (fun j68 => ?_) (fun j68 => ?_)
    · exact absurd j68 (nI_nlt (a := 50000000) (by omega) (by decide))
    refine g_lload C rfl d_M_mint_71 ?_
    refine g_iload C rfl d_M_mint_73 ?_
    refine g_i2l C d_M_mint_75 ?_
    rw [hLl]
    refine g_ladd C d_M_mint_76 ?_
    refine g_ldc2 C m_754 d_M_mint_77 ?_
    rw [lN_add]
    refine g_lcmp_le (tgt := 91) C d_M_mint_80 d_M_mint_81 (by decide) (fun j80 => ?_) (fun j80 => ?_)
    rotate_left
    · exact absurd ((pk_lLE (b := 50000000) (by omega) (by decide)).mpr hL) j80
    refine g_aload_n C rfl rfl d_M_mint_91 ?_
    refine g_iload_n C rfl rfl d_M_mint_92 ?_
    refine g_iload_n C rfl rfl d_M_mint_93 ?_
    refine g_iload C rfl d_M_mint_94 ?_
    refine g_iload C rfl d_M_mint_96 ?_
    refine g_i2l C d_M_mint_98 ?_
    rw [hLl]
    refine g_iconst (v := 1) C rfl d_M_mint_99 ?_
    refine g_callV C (c_M_worthNear (t0 := 0) (la := zla Z) (pr := zpr Z) (tk := ztk Z) true p L lo hi hn (by unfold isM; exact (by repeat' first | assumption | exact up_eq _ _ _ | refine up_ne (by omega) ?_)) (isMR_mv a1 (by repeat' first | exact rfl | refine up_ne (by omega) ?_)) (by repeat' first | assumption | exact up_eq _ _ _ | refine up_ne (by omega) ?_) (by repeat' first | assumption | exact up_eq _ _ _ | refine up_ne (by omega) ?_) hp h1 hlh h2 hT.1 hT.2.1 (by have := hT.2.2.1; omega) (fun q1 q2 => tk_hi hT q1 q2 h2) (by omega)) Y_M_worthNear m_757 s_M_worthNear m_755 rfl rfl ⟨by decide, by decide⟩ ⟨by decide, by decide⟩ (fun h => nomatch h) d_M_mint_100 (by first | assumption | omega) (by repeat' first | assumption | exact up_eq _ _ _ | refine up_ne (by omega) ?_) rfl (Nat.le_of_ble_eq_true rfl) (fun ret sg100 hq => ?_)
    obtain ⟨rfl, rfl⟩ := hq
    rw [hAe]
    refine g_lstore (lv' := [(9, .long (lN A)), (7, .long (lN (zam Z k))), (6, .int (nI k)), (0, .ref (ad o m)), (1, .int (nI a)), (2, .int (nI p)), (3, .int (iI lo)), (4, .int (iI hi)), (5, .int (nI L))]) C d_M_mint_103 (by decide) rfl ?_
    refine g_aload_n C rfl rfl d_M_mint_105 ?_
    refine g_iload_n C rfl rfl d_M_mint_106 ?_
    refine g_iload_n C rfl rfl d_M_mint_107 ?_
    refine g_iload C rfl d_M_mint_108 ?_
    refine g_iload C rfl d_M_mint_110 ?_
    refine g_i2l C d_M_mint_112 ?_
    rw [hLl]
    refine g_iconst (v := 1) C rfl d_M_mint_113 ?_
    refine g_callV C (c_M_worthFar (t0 := 0) (la := zla Z) (pr := zpr Z) (tk := ztk Z) true p L lo hi hn (by unfold isM; exact (by repeat' first | assumption | exact up_eq _ _ _ | refine up_ne (by omega) ?_)) (isMR_mv a1 (by repeat' first | exact rfl | refine up_ne (by omega) ?_)) (by repeat' first | assumption | exact up_eq _ _ _ | refine up_ne (by omega) ?_) (by repeat' first | assumption | exact up_eq _ _ _ | refine up_ne (by omega) ?_) hp h1 hlh h2 hT.1 hT.2.1 (by have := hT.2.2.2.1; omega) (fun q1 q2 => tk_lo hT h1 q1) (by omega)) Y_M_worthFar m_775 s_M_worthFar m_773 rfl rfl ⟨by decide, by decide⟩ ⟨by decide, by decide⟩ (fun h => nomatch h) d_M_mint_114 (by first | assumption | omega) (by repeat' first | assumption | exact up_eq _ _ _ | refine up_ne (by omega) ?_) rfl (Nat.le_of_ble_eq_true rfl) (fun ret sg114 hq => ?_)
    obtain ⟨rfl, rfl⟩ := hq
    rw [hBe]
    refine g_lstore (lv' := [(11, .long (lN B)), (9, .long (lN A)), (7, .long (lN (zam Z k))), (6, .int (nI k)), (0, .ref (ad o m)), (1, .int (nI a)), (2, .int (nI p)), (3, .int (iI lo)), (4, .int (iI hi)), (5, .int (nI L))]) C d_M_mint_117 (by decide) rfl ?_
    refine g_iload C rfl d_M_mint_119 ?_
    refine g_if_ge (tgt := 131) C d_M_mint_121 (by decide) (fun j121 => ?_) (fun j121 => ?_)
    rotate_left
    · exact absurd (nI_pos' (by omega)) j121
    refine g_iload C rfl d_M_mint_131 ?_
    refine g_istore (lv' := [(13, .int (nI k)), (11, .long (lN B)), (9, .long (lN A)), (7, .long (lN (zam Z k))), (6, .int (nI k)), (0, .ref (ad o m)), (1, .int (nI a)), (2, .int (nI p)), (3, .int (iI lo)), (4, .int (iI hi)), (5, .int (nI L))]) C d_M_mint_133 (by decide) rfl ?_
    refine g_iload C rfl d_M_mint_135 ?_
    refine g_if_lt (tgt := 174) C d_M_mint_137 (by decide) (fun j137 => ?_) (fun j137 => ?_)
    · exact absurd j137 (nI_pos (by omega))
    refine g_aload_n C rfl rfl d_M_mint_140 ?_
    refine gf_M_13 C d_M_mint_141 (by first | assumption | omega) (by repeat' first | assumption | exact up_eq _ _ _ | refine up_ne (by omega) ?_) (by rfl) ?_
    refine g_iconst (v := 3) C rfl d_M_mint_144 ?_
    refine g_iload_n C rfl rfl d_M_mint_145 ?_
    refine g_imul C d_M_mint_146 ?_
    refine g_iload_n C rfl rfl d_M_mint_147 ?_
    refine g_iadd C d_M_mint_148 ?_
    rw [show (3 : Int32) = nI 3 from rfl, pk_mul, nI_add, Nat.mul_comm 3 a]
    refine g_lald C d_M_mint_149 (by first | assumption | omega) (by repeat' first | assumption | exact up_eq _ _ _ | refine up_ne (by omega) ?_) (vp_in_nI (by omega) (by decide)) ?_
    rw [nI_clamp (n := a * 3 + p) (by omega)]
    refine g_lload C rfl d_M_mint_150 ?_
    refine g_lcmp_lt (tgt := 174) C d_M_mint_152 d_M_mint_153 (by decide) (fun j152 => ?_) (fun j152 => ?_)
    · refine g_aload_n C rfl rfl d_M_mint_174 ?_
      refine g_iconst (v := 3) C rfl d_M_mint_175 ?_
      refine pf_M_84 C d_M_mint_176 rfl rfl (by first | assumption | omega) (by repeat' first | assumption | exact up_eq _ _ _ | refine up_ne (by omega) ?_) (by exact Nat.le_of_ble_eq_true rfl) ?_
      refine g_iconst (v := 0) C rfl d_M_mint_179 ?_
      refine g_iret C E hr d_M_mint_180 ?_
      exact ⟨rfl, MW_up hW (by unfold isM; exact (by repeat' first | assumption | exact up_eq _ _ _ | refine up_ne (by omega) ?_)) (fun j a b => by repeat' first | exact rfl | refine up_ne (by omega) ?_), (fun j a => by repeat' first | exact rfl | refine up_ne (by omega) ?_)⟩
    · refine g_aload_n C rfl rfl d_M_mint_156 ?_
      refine gf_M_13 C d_M_mint_157 (by first | assumption | omega) (by repeat' first | assumption | exact up_eq _ _ _ | refine up_ne (by omega) ?_) (by rfl) ?_
      refine g_iconst (v := 3) C rfl d_M_mint_160 ?_
      refine g_iload_n C rfl rfl d_M_mint_161 ?_
      refine g_imul C d_M_mint_162 ?_
      refine g_iload_n C rfl rfl d_M_mint_163 ?_
      refine g_iadd C d_M_mint_164 ?_
      refine g_iconst (v := 1) C rfl d_M_mint_165 ?_
      refine g_iadd C d_M_mint_166 ?_
      rw [show (3 : Int32) = nI 3 from rfl, pk_mul, nI_add, nI_1, Nat.mul_comm 3 a]
      refine g_lald C d_M_mint_167 (by first | assumption | omega) (by repeat' first | assumption | exact up_eq _ _ _ | refine up_ne (by omega) ?_) (vp_in_nI (by omega) (by decide)) ?_
      rw [nI_clamp (n := a * 3 + p + 1) (by omega)]
      refine g_lload C rfl d_M_mint_168 ?_
      refine g_lcmp_ge (tgt := 181) C d_M_mint_170 d_M_mint_171 (by decide) (fun j170 => ?_) (fun j170 => ?_)
      · exact h3.elim (fun z => nomatch z) (fun z => z.elim (fun z => absurd z j152) (fun z => absurd j170 (Int64.not_le.mpr z)))
      refine g_aload_n C rfl rfl d_M_mint_174 ?_
      refine g_iconst (v := 3) C rfl d_M_mint_175 ?_
      refine pf_M_84 C d_M_mint_176 rfl rfl (by first | assumption | omega) (by repeat' first | assumption | exact up_eq _ _ _ | refine up_ne (by omega) ?_) (by exact Nat.le_of_ble_eq_true rfl) ?_
      refine g_iconst (v := 0) C rfl d_M_mint_179 ?_
      refine g_iret C E hr d_M_mint_180 ?_
      exact ⟨rfl, MW_up hW (by unfold isM; exact (by repeat' first | assumption | exact up_eq _ _ _ | refine up_ne (by omega) ?_)) (fun j a b => by repeat' first | exact rfl | refine up_ne (by omega) ?_), (fun j a => by repeat' first | exact rfl | refine up_ne (by omega) ?_)⟩

