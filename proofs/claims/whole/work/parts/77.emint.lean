-- MINT IN THE CLASS
theorem t_E_mint1 {l : Launch} {o n : Nat} {sg : Nat → va_E} {Z : ZS} (hfl : l.flags = flags0) (a b c d x : Int32) (h : ¬ okPl a b c d) : GT l y_E_mint b_E_mint 12 (some .int) 8 144 o n sg [.ref (ad o 0), .int a, .int b, .int c, .int d, .int x] "java/lang/IndexOutOfBoundsException" (fun s => s = sg) := by
  refine GT_of (by decide) (Nat.le_of_ble_eq_true rfl) ?_
  intro K C hl ha hh ET
  have hfl2 : (xl K).flags = flags0 := by rw [hl]; exact hfl
  have htr := tr_off (by rw [hl]; exact hfl) ha
  show G K o n sg 0 0 0 [(0, .ref (ad o 0)), (1, .int a), (2, .int b), (3, .int c), (4, .int d), (5, .int x)] []
  refine g_iload_n C rfl rfl d_E_mint_0 ?_
  refine g_iload_n C rfl rfl d_E_mint_1 ?_
  refine g_iload_n C rfl rfl d_E_mint_2 ?_
  refine g_iload C rfl d_E_mint_3 ?_
  exact g_callST C hh ET (t_E_requirePlace hfl2 a b c d h) Y_E_requirePlace m_343 m_342 ⟨by decide, by decide⟩ ⟨by decide, by decide⟩ d_E_mint_5 rfl (Nat.le_of_ble_eq_true rfl)
theorem had_le {A X : Nat} (hA : A ≤ 50000000) (hX : X ≤ 50000000) (h : nI A + nI X ≤ 50000000) : lN A + (nI X).toInt64 ≤ 50000000 := by
  rw [nI_l (by omega), lN_add]
  rw [nI_add] at h
  have h2 : ¬ 50000000 < A + X := fun q => absurd h (Int32.not_le.mpr (nI_lt (a := 50000000) q (by omega)))
  exact (pk_lLE (b := 50000000) (by omega) (by decide)).mpr (by omega)
theorem t_E_mint2 {l : Launch} {o n : Nat} {sg : Nat → va_E} {Z : ZS} (hfl : l.flags = flags0) (a b c d x : Int32) (hn : 64 ≤ n) (hW : EW sg o Z) (hA : ∀ i, i < 12 → zam Z i ≤ 50000000) (h : okPl a b c d) (h2 : d ≤ c ∨ x < 1 ∨ 50000000 < x ∨ ¬ lN (zHad Z (zFind Z a b c d)) + x.toInt64 ≤ 50000000) : GT l y_E_mint b_E_mint 12 (some .int) 8 144 o n sg [.ref (ad o 0), .int a, .int b, .int c, .int d, .int x] "java/lang/IllegalArgumentException" (fun s => s = sg) := by
  obtain ⟨h0, h1, k2, k3, hER⟩ := id hW
  have he1 : sg 0 = _ := h0
  obtain ⟨hR, ⟨f6, r1, r2⟩, ⟨w1, w2, w3, w4, w5, w6, w7, w8, hw8⟩, ⟨v1, v2, v3, v4, v5, v6, v7, v8, hw9⟩, ins, owd, hES, hE0, hE1⟩ := hER
  obtain ⟨hS, ho⟩ := id hES
  have hEr := ER_all hE0 hE1
  have hfe := find_eq hA ho a b c d
  refine GT_of (by decide) (Nat.le_of_ble_eq_true rfl) ?_
  intro K C hl ha hh ET
  have hfl2 : (xl K).flags = flags0 := by rw [hl]; exact hfl
  have htr := tr_off (by rw [hl]; exact hfl) ha
  show G K o n sg 0 0 0 [(0, .ref (ad o 0)), (1, .int a), (2, .int b), (3, .int c), (4, .int d), (5, .int x)] []
  rcases opt_or (zFind Z a b c d) with e | ⟨k, e⟩
  · rw [e] at h2 hfe
    refine g_iload_n C rfl rfl d_E_mint_0 ?_
    refine g_iload_n C rfl rfl d_E_mint_1 ?_
    refine g_iload_n C rfl rfl d_E_mint_2 ?_
    refine g_iload C rfl d_E_mint_3 ?_
    refine g_callS C (c_E_requirePlace a b c d h) Y_E_requirePlace m_343 m_342 ⟨by decide, by decide⟩ ⟨by decide, by decide⟩ (fun h => nomatch h) d_E_mint_5 rfl (Nat.le_of_ble_eq_true rfl) (fun ret sg5 hq => ?_)
    obtain ⟨rfl, rfl⟩ := hq
    refine g_iload_n C rfl rfl d_E_mint_8 ?_
    refine g_iload C rfl d_E_mint_9 ?_
    refine g_icmp_ge (tgt := 27) C d_E_mint_11 (by decide) (fun j11 => ?_) (fun j11 => ?_)
    · refine g_throw C ha hh ET htr gtw_A m_309 m_310 m_13 (by decide) d_E_mint_27 d_E_mint_30 d_E_mint_31 d_E_mint_34 (by decide) (Nat.le_of_ble_eq_true rfl) (by decide) (by decide) rfl
    · refine g_iload C rfl d_E_mint_14 ?_
      refine g_iconst (v := 1) C rfl d_E_mint_16 ?_
      refine g_icmp_lt (tgt := 27) C d_E_mint_17 (by decide) (fun j17 => ?_) (fun j17 => ?_)
      · refine g_throw C ha hh ET htr gtw_A m_309 m_310 m_13 (by decide) d_E_mint_27 d_E_mint_30 d_E_mint_31 d_E_mint_34 (by decide) (Nat.le_of_ble_eq_true rfl) (by decide) (by decide) rfl
      · refine g_iload C rfl d_E_mint_20 ?_
        refine g_ldc C m_348 d_E_mint_22 ?_
        refine g_icmp_le (tgt := 35) C d_E_mint_24 (by decide) (fun j24 => ?_) (fun j24 => ?_)
        · exact h2.elim (fun q => absurd q j11) (fun q => q.elim (fun q => absurd q j17) (fun q => q.elim (fun q => absurd j24 (Int32.not_le.mpr q)) (fun q => absurd (by obtain ⟨X, q1, q2, rfl⟩ := x32 j17 (Int32.not_lt.mpr j24); exact had_le (A := 0) (by decide) q2 (by rw [show nI 0 = 0 from rfl, Int32.zero_add]; exact j24)) q)))
        · refine g_throw C ha hh ET htr gtw_A m_309 m_310 m_13 (by decide) d_E_mint_27 d_E_mint_30 d_E_mint_31 d_E_mint_34 (by decide) (Nat.le_of_ble_eq_true rfl) (by decide) (by decide) rfl
  · rw [e] at h2 hfe
    have hk := (fnd_some e).1
    have hAk := hA k hk
    obtain ⟨f, hf1, hf2, hf3⟩ := id hS
    obtain ⟨s1, s2, s3⟩ := hf3 k hk
    refine g_iload_n C rfl rfl d_E_mint_0 ?_
    refine g_iload_n C rfl rfl d_E_mint_1 ?_
    refine g_iload_n C rfl rfl d_E_mint_2 ?_
    refine g_iload C rfl d_E_mint_3 ?_
    refine g_callS C (c_E_requirePlace a b c d h) Y_E_requirePlace m_343 m_342 ⟨by decide, by decide⟩ ⟨by decide, by decide⟩ (fun h => nomatch h) d_E_mint_5 rfl (Nat.le_of_ble_eq_true rfl) (fun ret sg5 hq => ?_)
    obtain ⟨rfl, rfl⟩ := hq
    refine g_iload_n C rfl rfl d_E_mint_8 ?_
    refine g_iload C rfl d_E_mint_9 ?_
    refine g_icmp_ge (tgt := 27) C d_E_mint_11 (by decide) (fun j11 => ?_) (fun j11 => ?_)
    · refine g_throw C ha hh ET htr gtw_A m_309 m_310 m_13 (by decide) d_E_mint_27 d_E_mint_30 d_E_mint_31 d_E_mint_34 (by decide) (Nat.le_of_ble_eq_true rfl) (by decide) (by decide) rfl
    · refine g_iload C rfl d_E_mint_14 ?_
      refine g_iconst (v := 1) C rfl d_E_mint_16 ?_
      refine g_icmp_lt (tgt := 27) C d_E_mint_17 (by decide) (fun j17 => ?_) (fun j17 => ?_)
      · refine g_throw C ha hh ET htr gtw_A m_309 m_310 m_13 (by decide) d_E_mint_27 d_E_mint_30 d_E_mint_31 d_E_mint_34 (by decide) (Nat.le_of_ble_eq_true rfl) (by decide) (by decide) rfl
      · refine g_iload C rfl d_E_mint_20 ?_
        refine g_ldc C m_348 d_E_mint_22 ?_
        refine g_icmp_le (tgt := 35) C d_E_mint_24 (by decide) (fun j24 => ?_) (fun j24 => ?_)
        · refine g_aload_n C rfl rfl d_E_mint_35 ?_
          refine g_iload_n C rfl rfl d_E_mint_36 ?_
          refine g_iload_n C rfl rfl d_E_mint_37 ?_
          refine g_iload_n C rfl rfl d_E_mint_38 ?_
          refine g_iload C rfl d_E_mint_39 ?_
          refine g_callV C (c_E_find a b c d hn h0 hS) Y_E_find m_219 s_E_find m_217 rfl rfl ⟨by decide, by decide⟩ ⟨by decide, by decide⟩ (fun h => nomatch h) d_E_mint_41 (by first | assumption | omega) (by repeat' first | assumption | exact up_eq _ _ _ | refine up_ne (by omega) ?_) rfl (Nat.le_of_ble_eq_true rfl) (fun ret sg41 hq => ?_)
          obtain ⟨rfl, rfl⟩ := hq
          rw [hfe]
          refine g_astore (lv' := [(6, .ref (ad o (28 + 3 * k))), (0, .ref (ad o 0)), (1, .int a), (2, .int b), (3, .int c), (4, .int d), (5, .int x)]) C d_E_mint_44 (by decide) rfl ?_
          refine g_aload C rfl d_E_mint_46 ?_
          refine g_ifnull C d_E_mint_48 ?_
          refine g_aload C rfl d_E_mint_51 ?_
          refine gf_E_80 C d_E_mint_53 (by first | assumption | omega) (by repeat' first | assumption | exact up_eq _ _ _ | refine up_ne (by omega) ?_) (by rfl) ?_
          refine g_iload C rfl d_E_mint_56 ?_
          refine g_iadd C d_E_mint_58 ?_
          refine g_ldc C m_348 d_E_mint_59 ?_
          refine g_icmp_le (tgt := 72) C d_E_mint_61 (by decide) (fun j61 => ?_) (fun j61 => ?_)
          · exact h2.elim (fun q => absurd q j11) (fun q => q.elim (fun q => absurd q j17) (fun q => q.elim (fun q => absurd j24 (Int32.not_le.mpr q)) (fun q => absurd (by obtain ⟨X, q1, q2, rfl⟩ := x32 j17 (Int32.not_lt.mpr j24); exact had_le hAk q2 j61) q)))
          refine g_throw C ha hh ET htr gtw_A m_309 m_310 m_13 (by decide) d_E_mint_64 d_E_mint_67 d_E_mint_68 d_E_mint_71 (by decide) (Nat.le_of_ble_eq_true rfl) (by decide) (by decide) rfl
        · refine g_throw C ha hh ET htr gtw_A m_309 m_310 m_13 (by decide) d_E_mint_27 d_E_mint_30 d_E_mint_31 d_E_mint_34 (by decide) (Nat.le_of_ble_eq_true rfl) (by decide) (by decide) rfl
set_option maxHeartbeats 4000000 in
theorem t_E_mint3 {l : Launch} {o n : Nat} {sg : Nat → va_E} {Z : ZS} (hfl : l.flags = flags0) (a p L : Nat) (lo hi : Int) (hn : 64 ≤ n) (hW : EW sg o Z) (hA : ∀ i, i < 12 → zam Z i ≤ 50000000) (hB : pBd (zpl Z) (zlo Z) (zhi Z)) (ha4 : a < 4) (hp : p < 2) (hlo : -40 ≤ lo) (hlh : lo < hi) (hhi : hi ≤ 40) (hL1 : 1 ≤ L) (hL : zHad Z (zFind Z (nI a) (nI p) (iI lo) (iI hi)) + L ≤ 50000000) (hT : TkOk (zpr Z p) (ztk Z p)) (h3 : zPlace Z (zFind Z (nI a) (nI p) (iI lo) (iI hi)) = none ∨ zbal Z (a * 3 + p) < lN (zWN true L (zpr Z p) (ztk Z p) lo hi) ∨ zbal Z (a * 3 + (p + 1)) < lN (zWF true L (zpr Z p) (ztk Z p) lo hi)) : GT l y_E_mint b_E_mint 12 (some .int) 8 144 o n sg [.ref (ad o 0), .int (nI a), .int (nI p), .int (iI lo), .int (iI hi), .int (nI L)] "java/lang/IllegalStateException" (fun s => s = sg) := by
  obtain ⟨h0, h1, k2, k3, hER⟩ := id hW
  have he1 : sg 0 = _ := h0
  obtain ⟨hR, ⟨f6, r1, r2⟩, ⟨w1, w2, w3, w4, w5, w6, w7, w8, hw8⟩, ⟨v1, v2, v3, v4, v5, v6, v7, v8, hw9⟩, ins, owd, hES, hE0, hE1⟩ := hER
  obtain ⟨hS, ho⟩ := id hES
  have hEr := ER_all hE0 hE1
  have hfe := find_eq hA ho (nI a) (nI p) (iI lo) (iI hi)
  have hfr := free_eq hA ho
  obtain ⟨f, hf1, hf2, hf3⟩ := id hS
  obtain ⟨cc, gr, ne, g, ou, pr2, tz2, lq2, g2, oo2, e1, e2, e3, e4⟩ := id (hEr p hp)
  have hb := cN_b cc p
  have e11 := e1.1
  have hcl : (nI p).toNatClampNeg = p := nI_clamp (by omega)
  have hin : vp_in (nI p) 2 := vp_in_nI hp (by decide)
  refine GT_of (by decide) (Nat.le_of_ble_eq_true rfl) ?_
  intro K C hl ha hh ET
  have hfl2 : (xl K).flags = flags0 := by rw [hl]; exact hfl
  have htr := tr_off (by rw [hl]; exact hfl) ha
  show G K o n sg 0 0 0 [(0, .ref (ad o 0)), (1, .int (nI a)), (2, .int (nI p)), (3, .int (iI lo)), (4, .int (iI hi)), (5, .int (nI L))] []
  have hall : okPl (nI a) (nI p) (iI lo) (iI hi) := ⟨ok4 ha4, ok2 hp, okT_i hlo (by omega), okT_i (by omega) hhi⟩
  generalize hAe : (zWN true L (zpr Z p) (ztk Z p) lo hi) = A at *
  generalize hBe : (zWF true L (zpr Z p) (ztk Z p) lo hi) = B at *
  rcases opt_or (zFind Z (nI a) (nI p) (iI lo) (iI hi)) with e | ⟨k, e⟩
  · rw [e] at hL h3 hfe
    have hL : 0 + L ≤ 50000000 := hL
    rcases opt_or (fnd (fun i => !zth Z i) 12) with e2' | ⟨q, e2'⟩
    · rw [e2'] at hfr
      refine g_iload_n C rfl rfl d_E_mint_0 ?_
      refine g_iload_n C rfl rfl d_E_mint_1 ?_
      refine g_iload_n C rfl rfl d_E_mint_2 ?_
      refine g_iload C rfl d_E_mint_3 ?_
      refine g_callS C (c_E_requirePlace (nI a) (nI p) (iI lo) (iI hi) hall) Y_E_requirePlace m_343 m_342 ⟨by decide, by decide⟩ ⟨by decide, by decide⟩ (fun h => nomatch h) d_E_mint_5 rfl (Nat.le_of_ble_eq_true rfl) (fun ret sg5 hq => ?_)
      obtain ⟨rfl, rfl⟩ := hq
      refine g_iload_n C rfl rfl d_E_mint_8 ?_
      refine g_iload C rfl d_E_mint_9 ?_
      refine g_icmp_ge (tgt := 27) C d_E_mint_11 (by decide) (fun j11 => ?_) (fun j11 => ?_)
      · exact absurd ((iI_le (by omega) (by omega) (by omega) (by omega)).mp j11) (by omega)
      refine g_iload C rfl d_E_mint_14 ?_
      refine g_iconst (v := 1) C rfl d_E_mint_16 ?_
      refine g_icmp_lt (tgt := 27) C d_E_mint_17 (by decide) (fun j17 => ?_) (fun j17 => ?_)
      · exact absurd j17 (nI_nlt (b := 1) hL1 (by omega))
      refine g_iload C rfl d_E_mint_20 ?_
      refine g_ldc C m_348 d_E_mint_22 ?_
      refine g_icmp_le (tgt := 35) C d_E_mint_24 (by decide) (fun j24 => ?_) (fun j24 => ?_)
      rotate_left
      · exact absurd (nI_le (b := 50000000) (by omega) (by decide)) j24
      refine g_aload_n C rfl rfl d_E_mint_35 ?_
      refine g_iload_n C rfl rfl d_E_mint_36 ?_
      refine g_iload_n C rfl rfl d_E_mint_37 ?_
      refine g_iload_n C rfl rfl d_E_mint_38 ?_
      refine g_iload C rfl d_E_mint_39 ?_
      refine g_callV C (c_E_find (nI a) (nI p) (iI lo) (iI hi) hn h0 hS) Y_E_find m_219 s_E_find m_217 rfl rfl ⟨by decide, by decide⟩ ⟨by decide, by decide⟩ (fun h => nomatch h) d_E_mint_41 (by first | assumption | omega) (by repeat' first | assumption | exact up_eq _ _ _ | refine up_ne (by omega) ?_) rfl (Nat.le_of_ble_eq_true rfl) (fun ret sg41 hq => ?_)
      obtain ⟨rfl, rfl⟩ := hq
      rw [hfe]
      refine g_astoreN (lv' := [(6, .null), (0, .ref (ad o 0)), (1, .int (nI a)), (2, .int (nI p)), (3, .int (iI lo)), (4, .int (iI hi)), (5, .int (nI L))]) C d_E_mint_44 (by decide) rfl ?_
      refine g_aloadN C rfl d_E_mint_46 ?_
      refine g_ifnullN (tgt := 72) C d_E_mint_48 (by decide) ?_
      refine g_aloadN C rfl d_E_mint_72 ?_
      refine g_ifnullN (tgt := 82) C d_E_mint_74 (by decide) ?_
      refine g_aload_n C rfl rfl d_E_mint_82 ?_
      refine g_callV C (c_E_findFree hn h0 hS) Y_E_findFree m_351 s_E_findFree m_349 rfl rfl ⟨by decide, by decide⟩ ⟨by decide, by decide⟩ (fun h => nomatch h) d_E_mint_83 (by first | assumption | omega) (by repeat' first | assumption | exact up_eq _ _ _ | refine up_ne (by omega) ?_) rfl (Nat.le_of_ble_eq_true rfl) (fun ret sg83 hq => ?_)
      obtain ⟨rfl, rfl⟩ := hq
      rw [hfr]
      refine g_astoreN (lv' := [(7, .null), (6, .null), (0, .ref (ad o 0)), (1, .int (nI a)), (2, .int (nI p)), (3, .int (iI lo)), (4, .int (iI hi)), (5, .int (nI L))]) C d_E_mint_86 (by decide) rfl ?_
      refine g_aload_n C rfl rfl d_E_mint_88 ?_
      refine gf_E_28 C d_E_mint_89 (by first | assumption | omega) (by repeat' first | assumption | exact up_eq _ _ _ | refine up_ne (by omega) ?_) (by rfl) ?_
      refine g_iload_n C rfl rfl d_E_mint_92 ?_
      refine g_aldq C d_E_mint_93 3 (fun _ => rfl) (by first | assumption | omega) (by repeat' first | assumption | exact up_eq _ _ _ | refine up_ne (by omega) ?_) hin (by rw [hcl]; exact r2 p hp) ?_
      refine g_iload_n C rfl rfl d_E_mint_94 ?_
      refine g_iload C rfl d_E_mint_95 ?_
      refine g_iload C rfl d_E_mint_97 ?_
      refine g_iconst (v := 1) C rfl d_E_mint_99 ?_
      refine g_callV C (c_P_nearWorth true L lo hi (by omega) (by omega) (by omega) e1 e2 hR hlo hlh hhi hT.1 hT.2.1 (by have := hT.2.2.1; omega) (fun q1 q2 => tk_hi hT q1 q2 hhi) (by omega)) Y_P_nearWorth m_354 m_355 m_353 rfl rfl ⟨by decide, by decide⟩ ⟨by decide, by decide⟩ (fun h => nomatch h) d_E_mint_100 (by first | assumption | omega) (by repeat' first | assumption | exact up_eq _ _ _ | refine up_ne (by omega) ?_) rfl (Nat.le_of_ble_eq_true rfl) (fun ret sg100 hq => ?_)
      obtain ⟨rfl, rfl⟩ := hq
      rw [hAe]
      refine g_lstore (lv' := [(8, .long (lN A)), (7, .null), (6, .null), (0, .ref (ad o 0)), (1, .int (nI a)), (2, .int (nI p)), (3, .int (iI lo)), (4, .int (iI hi)), (5, .int (nI L))]) C d_E_mint_103 (by decide) rfl ?_
      refine g_aload_n C rfl rfl d_E_mint_105 ?_
      refine gf_E_28 C d_E_mint_106 (by first | assumption | omega) (by repeat' first | assumption | exact up_eq _ _ _ | refine up_ne (by omega) ?_) (by rfl) ?_
      refine g_iload_n C rfl rfl d_E_mint_109 ?_
      refine g_aldq C d_E_mint_110 3 (fun _ => rfl) (by first | assumption | omega) (by repeat' first | assumption | exact up_eq _ _ _ | refine up_ne (by omega) ?_) hin (by rw [hcl]; exact r2 p hp) ?_
      refine g_iload_n C rfl rfl d_E_mint_111 ?_
      refine g_iload C rfl d_E_mint_112 ?_
      refine g_iload C rfl d_E_mint_114 ?_
      refine g_iconst (v := 1) C rfl d_E_mint_116 ?_
      refine g_callV C (c_P_farWorth true L lo hi (by omega) (by omega) (by omega) e1 e2 hR hlo hlh hhi hT.1 hT.2.1 (by have := hT.2.2.2.1; omega) (fun q1 q2 => tk_lo hT hlo q1) (by omega)) Y_P_farWorth m_371 m_372 m_370 rfl rfl ⟨by decide, by decide⟩ ⟨by decide, by decide⟩ (fun h => nomatch h) d_E_mint_117 (by first | assumption | omega) (by repeat' first | assumption | exact up_eq _ _ _ | refine up_ne (by omega) ?_) rfl (Nat.le_of_ble_eq_true rfl) (fun ret sg117 hq => ?_)
      obtain ⟨rfl, rfl⟩ := hq
      rw [hBe]
      refine g_lstore (lv' := [(10, .long (lN B)), (8, .long (lN A)), (7, .null), (6, .null), (0, .ref (ad o 0)), (1, .int (nI a)), (2, .int (nI p)), (3, .int (iI lo)), (4, .int (iI hi)), (5, .int (nI L))]) C d_E_mint_120 (by decide) rfl ?_
      refine g_aloadN C rfl d_E_mint_122 ?_
      refine g_ifnullN (tgt := 153) C d_E_mint_124 (by decide) ?_
      refine g_throw C ha hh ET htr gtw_S m_382 m_383 m_15 (by decide) d_E_mint_153 d_E_mint_156 d_E_mint_157 d_E_mint_160 (by decide) (Nat.le_of_ble_eq_true rfl) (by decide) (by decide) rfl
    · rw [e2'] at hfr
      have hq := (fnd_some e2').1
      refine g_iload_n C rfl rfl d_E_mint_0 ?_
      refine g_iload_n C rfl rfl d_E_mint_1 ?_
      refine g_iload_n C rfl rfl d_E_mint_2 ?_
      refine g_iload C rfl d_E_mint_3 ?_
      refine g_callS C (c_E_requirePlace (nI a) (nI p) (iI lo) (iI hi) hall) Y_E_requirePlace m_343 m_342 ⟨by decide, by decide⟩ ⟨by decide, by decide⟩ (fun h => nomatch h) d_E_mint_5 rfl (Nat.le_of_ble_eq_true rfl) (fun ret sg5 hq => ?_)
      obtain ⟨rfl, rfl⟩ := hq
      refine g_iload_n C rfl rfl d_E_mint_8 ?_
      refine g_iload C rfl d_E_mint_9 ?_
      refine g_icmp_ge (tgt := 27) C d_E_mint_11 (by decide) (fun j11 => ?_) (fun j11 => ?_)
      · exact absurd ((iI_le (by omega) (by omega) (by omega) (by omega)).mp j11) (by omega)
      refine g_iload C rfl d_E_mint_14 ?_
      refine g_iconst (v := 1) C rfl d_E_mint_16 ?_
      refine g_icmp_lt (tgt := 27) C d_E_mint_17 (by decide) (fun j17 => ?_) (fun j17 => ?_)
      · exact absurd j17 (nI_nlt (b := 1) hL1 (by omega))
      refine g_iload C rfl d_E_mint_20 ?_
      refine g_ldc C m_348 d_E_mint_22 ?_
      refine g_icmp_le (tgt := 35) C d_E_mint_24 (by decide) (fun j24 => ?_) (fun j24 => ?_)
      rotate_left
      · exact absurd (nI_le (b := 50000000) (by omega) (by decide)) j24
      refine g_aload_n C rfl rfl d_E_mint_35 ?_
      refine g_iload_n C rfl rfl d_E_mint_36 ?_
      refine g_iload_n C rfl rfl d_E_mint_37 ?_
      refine g_iload_n C rfl rfl d_E_mint_38 ?_
      refine g_iload C rfl d_E_mint_39 ?_
      refine g_callV C (c_E_find (nI a) (nI p) (iI lo) (iI hi) hn h0 hS) Y_E_find m_219 s_E_find m_217 rfl rfl ⟨by decide, by decide⟩ ⟨by decide, by decide⟩ (fun h => nomatch h) d_E_mint_41 (by first | assumption | omega) (by repeat' first | assumption | exact up_eq _ _ _ | refine up_ne (by omega) ?_) rfl (Nat.le_of_ble_eq_true rfl) (fun ret sg41 hq => ?_)
      obtain ⟨rfl, rfl⟩ := hq
      rw [hfe]
      refine g_astoreN (lv' := [(6, .null), (0, .ref (ad o 0)), (1, .int (nI a)), (2, .int (nI p)), (3, .int (iI lo)), (4, .int (iI hi)), (5, .int (nI L))]) C d_E_mint_44 (by decide) rfl ?_
      refine g_aloadN C rfl d_E_mint_46 ?_
      refine g_ifnullN (tgt := 72) C d_E_mint_48 (by decide) ?_
      refine g_aloadN C rfl d_E_mint_72 ?_
      refine g_ifnullN (tgt := 82) C d_E_mint_74 (by decide) ?_
      refine g_aload_n C rfl rfl d_E_mint_82 ?_
      refine g_callV C (c_E_findFree hn h0 hS) Y_E_findFree m_351 s_E_findFree m_349 rfl rfl ⟨by decide, by decide⟩ ⟨by decide, by decide⟩ (fun h => nomatch h) d_E_mint_83 (by first | assumption | omega) (by repeat' first | assumption | exact up_eq _ _ _ | refine up_ne (by omega) ?_) rfl (Nat.le_of_ble_eq_true rfl) (fun ret sg83 hq => ?_)
      obtain ⟨rfl, rfl⟩ := hq
      rw [hfr]
      refine g_astore (lv' := [(7, .ref (ad o (28 + 3 * q))), (6, .null), (0, .ref (ad o 0)), (1, .int (nI a)), (2, .int (nI p)), (3, .int (iI lo)), (4, .int (iI hi)), (5, .int (nI L))]) C d_E_mint_86 (by decide) rfl ?_
      refine g_aload_n C rfl rfl d_E_mint_88 ?_
      refine gf_E_28 C d_E_mint_89 (by first | assumption | omega) (by repeat' first | assumption | exact up_eq _ _ _ | refine up_ne (by omega) ?_) (by rfl) ?_
      refine g_iload_n C rfl rfl d_E_mint_92 ?_
      refine g_aldq C d_E_mint_93 3 (fun _ => rfl) (by first | assumption | omega) (by repeat' first | assumption | exact up_eq _ _ _ | refine up_ne (by omega) ?_) hin (by rw [hcl]; exact r2 p hp) ?_
      refine g_iload_n C rfl rfl d_E_mint_94 ?_
      refine g_iload C rfl d_E_mint_95 ?_
      refine g_iload C rfl d_E_mint_97 ?_
      refine g_iconst (v := 1) C rfl d_E_mint_99 ?_
      refine g_callV C (c_P_nearWorth true L lo hi (by omega) (by omega) (by omega) e1 e2 hR hlo hlh hhi hT.1 hT.2.1 (by have := hT.2.2.1; omega) (fun q1 q2 => tk_hi hT q1 q2 hhi) (by omega)) Y_P_nearWorth m_354 m_355 m_353 rfl rfl ⟨by decide, by decide⟩ ⟨by decide, by decide⟩ (fun h => nomatch h) d_E_mint_100 (by first | assumption | omega) (by repeat' first | assumption | exact up_eq _ _ _ | refine up_ne (by omega) ?_) rfl (Nat.le_of_ble_eq_true rfl) (fun ret sg100 hq => ?_)
      obtain ⟨rfl, rfl⟩ := hq
      rw [hAe]
      refine g_lstore (lv' := [(8, .long (lN A)), (7, .ref (ad o (28 + 3 * q))), (6, .null), (0, .ref (ad o 0)), (1, .int (nI a)), (2, .int (nI p)), (3, .int (iI lo)), (4, .int (iI hi)), (5, .int (nI L))]) C d_E_mint_103 (by decide) rfl ?_
      refine g_aload_n C rfl rfl d_E_mint_105 ?_
      refine gf_E_28 C d_E_mint_106 (by first | assumption | omega) (by repeat' first | assumption | exact up_eq _ _ _ | refine up_ne (by omega) ?_) (by rfl) ?_
      refine g_iload_n C rfl rfl d_E_mint_109 ?_
      refine g_aldq C d_E_mint_110 3 (fun _ => rfl) (by first | assumption | omega) (by repeat' first | assumption | exact up_eq _ _ _ | refine up_ne (by omega) ?_) hin (by rw [hcl]; exact r2 p hp) ?_
      refine g_iload_n C rfl rfl d_E_mint_111 ?_
      refine g_iload C rfl d_E_mint_112 ?_
      refine g_iload C rfl d_E_mint_114 ?_
      refine g_iconst (v := 1) C rfl d_E_mint_116 ?_
      refine g_callV C (c_P_farWorth true L lo hi (by omega) (by omega) (by omega) e1 e2 hR hlo hlh hhi hT.1 hT.2.1 (by have := hT.2.2.2.1; omega) (fun q1 q2 => tk_lo hT hlo q1) (by omega)) Y_P_farWorth m_371 m_372 m_370 rfl rfl ⟨by decide, by decide⟩ ⟨by decide, by decide⟩ (fun h => nomatch h) d_E_mint_117 (by first | assumption | omega) (by repeat' first | assumption | exact up_eq _ _ _ | refine up_ne (by omega) ?_) rfl (Nat.le_of_ble_eq_true rfl) (fun ret sg117 hq => ?_)
      obtain ⟨rfl, rfl⟩ := hq
      rw [hBe]
      refine g_lstore (lv' := [(10, .long (lN B)), (8, .long (lN A)), (7, .ref (ad o (28 + 3 * q))), (6, .null), (0, .ref (ad o 0)), (1, .int (nI a)), (2, .int (nI p)), (3, .int (iI lo)), (4, .int (iI hi)), (5, .int (nI L))]) C d_E_mint_120 (by decide) rfl ?_
      refine g_aload C rfl d_E_mint_122 ?_
      refine g_ifnull C d_E_mint_124 ?_
      refine g_aload_n C rfl rfl d_E_mint_127 ?_
      refine g_iload_n C rfl rfl d_E_mint_128 ?_
      refine g_iload_n C rfl rfl d_E_mint_129 ?_
      refine g_iconst (v := 0) C rfl d_E_mint_130 ?_
      refine g_iadd C d_E_mint_131 ?_
      rw [Int32.add_zero]
      refine g_lload C rfl d_E_mint_132 ?_
      refine g_callV C (c_E_lacks (la := zla Z) (bal := zbal Z) a p (lN A) hn h0 h1 ha4 (by omega)) Y_E_lacks m_380 s_E_lacks m_378 rfl rfl ⟨by decide, by decide⟩ ⟨by decide, by decide⟩ (fun h => nomatch h) d_E_mint_134 (by first | assumption | omega) (by repeat' first | assumption | exact up_eq _ _ _ | refine up_ne (by omega) ?_) rfl (Nat.le_of_ble_eq_true rfl) (fun ret sg134 hq => ?_)
      obtain ⟨rfl, rfl⟩ := hq
      refine g_if_ne (tgt := 153) C d_E_mint_137 (by decide) (fun j137 => ?_) (fun j137 => ?_)
      · refine g_throw C ha hh ET htr gtw_S m_382 m_383 m_15 (by decide) d_E_mint_153 d_E_mint_156 d_E_mint_157 d_E_mint_160 (by decide) (Nat.le_of_ble_eq_true rfl) (by decide) (by decide) rfl
      · refine g_aload_n C rfl rfl d_E_mint_140 ?_
        refine g_iload_n C rfl rfl d_E_mint_141 ?_
        refine g_iload_n C rfl rfl d_E_mint_142 ?_
        refine g_iconst (v := 1) C rfl d_E_mint_143 ?_
        refine g_iadd C d_E_mint_144 ?_
        rw [nI_1]
        refine g_lload C rfl d_E_mint_145 ?_
        refine g_callV C (c_E_lacks (la := zla Z) (bal := zbal Z) a (p + 1) (lN B) hn h0 h1 ha4 (by omega)) Y_E_lacks m_380 s_E_lacks m_378 rfl rfl ⟨by decide, by decide⟩ ⟨by decide, by decide⟩ (fun h => nomatch h) d_E_mint_147 (by first | assumption | omega) (by repeat' first | assumption | exact up_eq _ _ _ | refine up_ne (by omega) ?_) rfl (Nat.le_of_ble_eq_true rfl) (fun ret sg147 hq => ?_)
        obtain ⟨rfl, rfl⟩ := hq
        refine g_if_eq (tgt := 161) C d_E_mint_150 (by decide) (fun j150 => ?_) (fun j150 => ?_)
        · exact h3.elim (fun z => nomatch (e2'.symm.trans z)) (fun z => z.elim (fun z => absurd (j137.symm.trans (bzd z)) (show ¬ (0 : Int32) = 1 by decide)) (fun z => absurd (j150.symm.trans (bzd z)) (show ¬ (0 : Int32) = 1 by decide)))
        refine g_throw C ha hh ET htr gtw_S m_382 m_383 m_15 (by decide) d_E_mint_153 d_E_mint_156 d_E_mint_157 d_E_mint_160 (by decide) (Nat.le_of_ble_eq_true rfl) (by decide) (by decide) rfl
  · rw [e] at hL h3 hfe
    have hL : zam Z k + L ≤ 50000000 := hL
    have hk := (fnd_some e).1
    obtain ⟨s1, s2, s3⟩ := hf3 k hk
    refine g_iload_n C rfl rfl d_E_mint_0 ?_
    refine g_iload_n C rfl rfl d_E_mint_1 ?_
    refine g_iload_n C rfl rfl d_E_mint_2 ?_
    refine g_iload C rfl d_E_mint_3 ?_
    refine g_callS C (c_E_requirePlace (nI a) (nI p) (iI lo) (iI hi) hall) Y_E_requirePlace m_343 m_342 ⟨by decide, by decide⟩ ⟨by decide, by decide⟩ (fun h => nomatch h) d_E_mint_5 rfl (Nat.le_of_ble_eq_true rfl) (fun ret sg5 hq => ?_)
    obtain ⟨rfl, rfl⟩ := hq
    refine g_iload_n C rfl rfl d_E_mint_8 ?_
    refine g_iload C rfl d_E_mint_9 ?_
    refine g_icmp_ge (tgt := 27) C d_E_mint_11 (by decide) (fun j11 => ?_) (fun j11 => ?_)
    · exact absurd ((iI_le (by omega) (by omega) (by omega) (by omega)).mp j11) (by omega)
    refine g_iload C rfl d_E_mint_14 ?_
    refine g_iconst (v := 1) C rfl d_E_mint_16 ?_
    refine g_icmp_lt (tgt := 27) C d_E_mint_17 (by decide) (fun j17 => ?_) (fun j17 => ?_)
    · exact absurd j17 (nI_nlt (b := 1) hL1 (by omega))
    refine g_iload C rfl d_E_mint_20 ?_
    refine g_ldc C m_348 d_E_mint_22 ?_
    refine g_icmp_le (tgt := 35) C d_E_mint_24 (by decide) (fun j24 => ?_) (fun j24 => ?_)
    rotate_left
    · exact absurd (nI_le (b := 50000000) (by omega) (by decide)) j24
    refine g_aload_n C rfl rfl d_E_mint_35 ?_
    refine g_iload_n C rfl rfl d_E_mint_36 ?_
    refine g_iload_n C rfl rfl d_E_mint_37 ?_
    refine g_iload_n C rfl rfl d_E_mint_38 ?_
    refine g_iload C rfl d_E_mint_39 ?_
    refine g_callV C (c_E_find (nI a) (nI p) (iI lo) (iI hi) hn h0 hS) Y_E_find m_219 s_E_find m_217 rfl rfl ⟨by decide, by decide⟩ ⟨by decide, by decide⟩ (fun h => nomatch h) d_E_mint_41 (by first | assumption | omega) (by repeat' first | assumption | exact up_eq _ _ _ | refine up_ne (by omega) ?_) rfl (Nat.le_of_ble_eq_true rfl) (fun ret sg41 hq => ?_)
    obtain ⟨rfl, rfl⟩ := hq
    rw [hfe]
    refine g_astore (lv' := [(6, .ref (ad o (28 + 3 * k))), (0, .ref (ad o 0)), (1, .int (nI a)), (2, .int (nI p)), (3, .int (iI lo)), (4, .int (iI hi)), (5, .int (nI L))]) C d_E_mint_44 (by decide) rfl ?_
    refine g_aload C rfl d_E_mint_46 ?_
    refine g_ifnull C d_E_mint_48 ?_
    refine g_aload C rfl d_E_mint_51 ?_
    refine gf_E_80 C d_E_mint_53 (by first | assumption | omega) (by repeat' first | assumption | exact up_eq _ _ _ | refine up_ne (by omega) ?_) (by rfl) ?_
    refine g_iload C rfl d_E_mint_56 ?_
    refine g_iadd C d_E_mint_58 ?_
    rw [nI_add]
    refine g_ldc C m_348 d_E_mint_59 ?_
    refine g_icmp_le (tgt := 72) C d_E_mint_61 (by decide) (fun j61 => ?_) (fun j61 => ?_)
    rotate_left
    · exact absurd (nI_le (b := 50000000) hL (by decide)) j61
    refine g_aload C rfl d_E_mint_72 ?_
    refine g_ifnull C d_E_mint_74 ?_
    refine g_aload C rfl d_E_mint_77 ?_
    refine g_goto (tgt := 86) C d_E_mint_79 (by decide) ?_
    refine g_astore (lv' := [(7, .ref (ad o (28 + 3 * k))), (6, .ref (ad o (28 + 3 * k))), (0, .ref (ad o 0)), (1, .int (nI a)), (2, .int (nI p)), (3, .int (iI lo)), (4, .int (iI hi)), (5, .int (nI L))]) C d_E_mint_86 (by decide) rfl ?_
    refine g_aload_n C rfl rfl d_E_mint_88 ?_
    refine gf_E_28 C d_E_mint_89 (by first | assumption | omega) (by repeat' first | assumption | exact up_eq _ _ _ | refine up_ne (by omega) ?_) (by rfl) ?_
    refine g_iload_n C rfl rfl d_E_mint_92 ?_
    refine g_aldq C d_E_mint_93 3 (fun _ => rfl) (by first | assumption | omega) (by repeat' first | assumption | exact up_eq _ _ _ | refine up_ne (by omega) ?_) hin (by rw [hcl]; exact r2 p hp) ?_
    refine g_iload_n C rfl rfl d_E_mint_94 ?_
    refine g_iload C rfl d_E_mint_95 ?_
    refine g_iload C rfl d_E_mint_97 ?_
    refine g_iconst (v := 1) C rfl d_E_mint_99 ?_
    refine g_callV C (c_P_nearWorth true L lo hi (by omega) (by omega) (by omega) e1 e2 hR hlo hlh hhi hT.1 hT.2.1 (by have := hT.2.2.1; omega) (fun q1 q2 => tk_hi hT q1 q2 hhi) (by omega)) Y_P_nearWorth m_354 m_355 m_353 rfl rfl ⟨by decide, by decide⟩ ⟨by decide, by decide⟩ (fun h => nomatch h) d_E_mint_100 (by first | assumption | omega) (by repeat' first | assumption | exact up_eq _ _ _ | refine up_ne (by omega) ?_) rfl (Nat.le_of_ble_eq_true rfl) (fun ret sg100 hq => ?_)
    obtain ⟨rfl, rfl⟩ := hq
    rw [hAe]
    refine g_lstore (lv' := [(8, .long (lN A)), (7, .ref (ad o (28 + 3 * k))), (6, .ref (ad o (28 + 3 * k))), (0, .ref (ad o 0)), (1, .int (nI a)), (2, .int (nI p)), (3, .int (iI lo)), (4, .int (iI hi)), (5, .int (nI L))]) C d_E_mint_103 (by decide) rfl ?_
    refine g_aload_n C rfl rfl d_E_mint_105 ?_
    refine gf_E_28 C d_E_mint_106 (by first | assumption | omega) (by repeat' first | assumption | exact up_eq _ _ _ | refine up_ne (by omega) ?_) (by rfl) ?_
    refine g_iload_n C rfl rfl d_E_mint_109 ?_
    refine g_aldq C d_E_mint_110 3 (fun _ => rfl) (by first | assumption | omega) (by repeat' first | assumption | exact up_eq _ _ _ | refine up_ne (by omega) ?_) hin (by rw [hcl]; exact r2 p hp) ?_
    refine g_iload_n C rfl rfl d_E_mint_111 ?_
    refine g_iload C rfl d_E_mint_112 ?_
    refine g_iload C rfl d_E_mint_114 ?_
    refine g_iconst (v := 1) C rfl d_E_mint_116 ?_
    refine g_callV C (c_P_farWorth true L lo hi (by omega) (by omega) (by omega) e1 e2 hR hlo hlh hhi hT.1 hT.2.1 (by have := hT.2.2.2.1; omega) (fun q1 q2 => tk_lo hT hlo q1) (by omega)) Y_P_farWorth m_371 m_372 m_370 rfl rfl ⟨by decide, by decide⟩ ⟨by decide, by decide⟩ (fun h => nomatch h) d_E_mint_117 (by first | assumption | omega) (by repeat' first | assumption | exact up_eq _ _ _ | refine up_ne (by omega) ?_) rfl (Nat.le_of_ble_eq_true rfl) (fun ret sg117 hq => ?_)
    obtain ⟨rfl, rfl⟩ := hq
    rw [hBe]
    refine g_lstore (lv' := [(10, .long (lN B)), (8, .long (lN A)), (7, .ref (ad o (28 + 3 * k))), (6, .ref (ad o (28 + 3 * k))), (0, .ref (ad o 0)), (1, .int (nI a)), (2, .int (nI p)), (3, .int (iI lo)), (4, .int (iI hi)), (5, .int (nI L))]) C d_E_mint_120 (by decide) rfl ?_
    refine g_aload C rfl d_E_mint_122 ?_
    refine g_ifnull C d_E_mint_124 ?_
    refine g_aload_n C rfl rfl d_E_mint_127 ?_
    refine g_iload_n C rfl rfl d_E_mint_128 ?_
    refine g_iload_n C rfl rfl d_E_mint_129 ?_
    refine g_iconst (v := 0) C rfl d_E_mint_130 ?_
    refine g_iadd C d_E_mint_131 ?_
    rw [Int32.add_zero]
    refine g_lload C rfl d_E_mint_132 ?_
    refine g_callV C (c_E_lacks (la := zla Z) (bal := zbal Z) a p (lN A) hn h0 h1 ha4 (by omega)) Y_E_lacks m_380 s_E_lacks m_378 rfl rfl ⟨by decide, by decide⟩ ⟨by decide, by decide⟩ (fun h => nomatch h) d_E_mint_134 (by first | assumption | omega) (by repeat' first | assumption | exact up_eq _ _ _ | refine up_ne (by omega) ?_) rfl (Nat.le_of_ble_eq_true rfl) (fun ret sg134 hq => ?_)
    obtain ⟨rfl, rfl⟩ := hq
    refine g_if_ne (tgt := 153) C d_E_mint_137 (by decide) (fun j137 => ?_) (fun j137 => ?_)
    · refine g_throw C ha hh ET htr gtw_S m_382 m_383 m_15 (by decide) d_E_mint_153 d_E_mint_156 d_E_mint_157 d_E_mint_160 (by decide) (Nat.le_of_ble_eq_true rfl) (by decide) (by decide) rfl
    · refine g_aload_n C rfl rfl d_E_mint_140 ?_
      refine g_iload_n C rfl rfl d_E_mint_141 ?_
      refine g_iload_n C rfl rfl d_E_mint_142 ?_
      refine g_iconst (v := 1) C rfl d_E_mint_143 ?_
      refine g_iadd C d_E_mint_144 ?_
      rw [nI_1]
      refine g_lload C rfl d_E_mint_145 ?_
      refine g_callV C (c_E_lacks (la := zla Z) (bal := zbal Z) a (p + 1) (lN B) hn h0 h1 ha4 (by omega)) Y_E_lacks m_380 s_E_lacks m_378 rfl rfl ⟨by decide, by decide⟩ ⟨by decide, by decide⟩ (fun h => nomatch h) d_E_mint_147 (by first | assumption | omega) (by repeat' first | assumption | exact up_eq _ _ _ | refine up_ne (by omega) ?_) rfl (Nat.le_of_ble_eq_true rfl) (fun ret sg147 hq => ?_)
      obtain ⟨rfl, rfl⟩ := hq
      refine g_if_eq (tgt := 161) C d_E_mint_150 (by decide) (fun j150 => ?_) (fun j150 => ?_)
      · exact h3.elim (fun z => nomatch (z)) (fun z => z.elim (fun z => absurd (j137.symm.trans (bzd z)) (show ¬ (0 : Int32) = 1 by decide)) (fun z => absurd (j150.symm.trans (bzd z)) (show ¬ (0 : Int32) = 1 by decide)))
      refine g_throw C ha hh ET htr gtw_S m_382 m_383 m_15 (by decide) d_E_mint_153 d_E_mint_156 d_E_mint_157 d_E_mint_160 (by decide) (Nat.le_of_ble_eq_true rfl) (by decide) (by decide) rfl
set_option maxHeartbeats 8000000 in
theorem c_E_mint {l : Launch} {o n : Nat} {sg : Nat → va_E} {Z : ZS} (a p L : Nat) (lo hi : Int) (hn : 64 ≤ n) (hW : EW sg o Z) (hA : ∀ i, i < 12 → zam Z i ≤ 50000000) (hB : pBd (zpl Z) (zlo Z) (zhi Z)) (ha4 : a < 4) (hp : p < 2) (hlo : -40 ≤ lo) (hlh : lo < hi) (hhi : hi ≤ 40) (hL1 : 1 ≤ L) (hL : zHad Z (zFind Z (nI a) (nI p) (iI lo) (iI hi)) + L ≤ 50000000) (hT : TkOk (zpr Z p) (ztk Z p)) (q : Nat) (hz3 : zPlace Z (zFind Z (nI a) (nI p) (iI lo) (iI hi)) = some q) (h4 : ¬ zbal Z (a * 3 + p) < lN (zWN true L (zpr Z p) (ztk Z p) lo hi)) (h5 : ¬ zbal Z (a * 3 + (p + 1)) < lN (zWF true L (zpr Z p) (ztk Z p) lo hi)) : GM l y_E_mint b_E_mint 12 (some .int) 8 144 0 0 o n n sg false [.ref (ad o 0), .int (nI a), .int (nI p), .int (iI lo), .int (iI hi), .int (nI L)] (fun r0 s => some (.int (nI (zam Z q + L))) = r0 ∧ EW s o (zMint Z a p q L (zWN true L (zpr Z p) (ztk Z p) lo hi) (zWF true L (zpr Z p) (ztk Z p) lo hi) lo hi) ∧ efr sg s) := by
  obtain ⟨h0, h1, h2, h3, hER⟩ := id hW
  have he1 : sg 0 = _ := h0
  obtain ⟨hR, ⟨f6, r1, r2⟩, ⟨w1, w2, w3, w4, w5, w6, w7, w8, hw8⟩, ⟨v1, v2, v3, v4, v5, v6, v7, v8, hw9⟩, ins, owd, hES, hE0, hE1⟩ := hER
  obtain ⟨hS, ho⟩ := id hES
  have hEr := ER_all hE0 hE1
  have hfe := find_eq hA ho (nI a) (nI p) (iI lo) (iI hi)
  have hfr := free_eq hA ho
  obtain ⟨f, hf1, hf2, hf3⟩ := id hS
  obtain ⟨cc, gr, ne, g, ou, pr2, tz2, lq2, g2, oo2, e1, e2, e3, e4⟩ := id (hEr p hp)
  have hb := cN_b cc p
  have e11 := e1.1
  have hcl : (nI p).toNatClampNeg = p := nI_clamp (by omega)
  have hin : vp_in (nI p) 2 := vp_in_nI hp (by decide)
  refine GM_of (by decide) (Nat.le_of_ble_eq_true rfl) ?_
  intro K C hl hz hr hnm E
  show G K o n sg 0 0 0 [(0, .ref (ad o 0)), (1, .int (nI a)), (2, .int (nI p)), (3, .int (iI lo)), (4, .int (iI hi)), (5, .int (nI L))] []
  have hall : okPl (nI a) (nI p) (iI lo) (iI hi) := ⟨ok4 ha4, ok2 hp, okT_i hlo (by omega), okT_i (by omega) hhi⟩
  generalize hAe : (zWN true L (zpr Z p) (ztk Z p) lo hi) = A at *
  generalize hBe : (zWF true L (zpr Z p) (ztk Z p) lo hi) = B at *
  have tail : ∀ (s : Nat → va_E) (insq : Nat → Int64), isS s o (28 + 3 * q) (nI a) (nI p) (iI lo) (iI hi) (nI (zam Z q)) insq (owd q) → (∀ j, (j < 28 + 3 * q ∨ 28 + 3 * q + 3 ≤ j) → s j = sg j) → (∀ t, t < 2 → shr (cIns (ztk Z p) g (aOu gr (ztk Z p) g ou lo hi (nI L)) t lo hi - insq t) (nI (zam Z q)).toInt64 = shr (zfa Z (2 * q + t)) (lN (zam Z q))) → PlUp Z (zMint Z a p q L A B lo hi) p q lo hi → q < 12 → zam Z q + L ≤ 50000000 → G K o n s 0 0 176 [(0, .ref (ad o 0)), (1, .int (nI a)), (2, .int (nI p)), (5, .int (nI L)), (7, .ref (ad o (28 + 3 * q))), (8, .long (lN A)), (10, .long (lN B))] [] := by
    intro s insq sS sF key hPU hq hqL
    have hod : owd q 0 + shr (cIns (ztk Z p) g (aOu gr (ztk Z p) g ou lo hi (nI L)) 0 lo hi - insq 0) (nI (zam Z q)).toInt64 = sOd (zod Z) (zfa Z) (lN (zam Z q)) q (2 * q) ∧ owd q 1 + shr (cIns (ztk Z p) g (aOu gr (ztk Z p) g ou lo hi (nI L)) 1 lo hi - insq 1) (nI (zam Z q)).toInt64 = sOd (zod Z) (zfa Z) (lN (zam Z q)) q (2 * q + 1) := ⟨by rw [key 0 (by decide), (ho q hq).1]; exact sOd_0t.symm, by rw [key 1 (by decide), (ho q hq).2]; exact sOd_1t.symm⟩
    have s0 : isE s o (zla Z) := (sF _ (by omega)).trans h0
    have s01 : s 0 = _ := s0
    have s6 := (sF 6 (by omega)).trans r1
    have sP := isP_mv e1 (s := s) (fun j q1 q2 => sF j (by omega))
    have sC := isC_m e2 (s' := s) (fun j q1 q2 => sF j (by omega))
    have sP1 := sP.1
    refine g_aload_n C rfl rfl d_E_mint_176 ?_
    refine gf_E_28 C d_E_mint_177 (by first | assumption | omega) (by repeat' first | assumption | exact up_eq _ _ _ | refine up_ne (by omega) ?_) (by rfl) ?_
    refine g_iload_n C rfl rfl d_E_mint_180 ?_
    refine g_aldq C d_E_mint_181 3 (fun _ => rfl) (by first | assumption | omega) (by repeat' first | assumption | exact up_eq _ _ _ | refine up_ne (by omega) ?_) hin (by rw [hcl]; exact r2 p hp) ?_
    refine g_aload C rfl d_E_mint_182 ?_
    refine g_iload C rfl d_E_mint_184 ?_
    refine g_callV C (c_P_add (nI L) (by omega) (by omega) (by omega) (by omega) (Or.inr (by omega)) sP sC sS hlo hlh hhi hT.1 hT.2.1) Y_P_add m_402 m_403 m_401 rfl rfl ⟨by decide, by decide⟩ ⟨by decide, by decide⟩ (fun h => nomatch h) d_E_mint_186 (by first | assumption | omega) (by repeat' first | assumption | exact up_eq _ _ _ | refine up_ne (by omega) ?_) rfl (Nat.le_of_ble_eq_true rfl) (fun ret sg186 hq => ?_)
    obtain ⟨rfl, uP, uC, uS, uF⟩ := hq
    have uG : ∀ j, j ≠ 10 + 9 * p + 1 → j ≠ 10 + 9 * p + 2 → j ≠ cN cc p → j ≠ cN cc p + 2 → (j < 28 + 3 * q ∨ 28 + 3 * q + 3 ≤ j) → sg186 j = sg j := fun j q1 q2 q3 q4 q5 => (uF j q1 q2 q3 q4 q5).trans (sF j (by omega))
    have uH : ∀ j, (j < 10 ∨ 64 ≤ j) → sg186 j = sg j := fun j q => uG j (by omega) (by omega) (by omega) (by omega) (by omega)
    have u0 : isE sg186 o (zla Z) := (uH 0 (by omega)).trans h0
    have u01 : sg186 0 = _ := u0
    have u1 := (uH 1 (by omega)).trans h1
    have u3 := (uH 3 (by omega)).trans h3
    rw [nI_add] at uS
    have uS1 := uS.1
    refine g_aload_n C rfl rfl d_E_mint_189 ?_
    refine g_iload_n C rfl rfl d_E_mint_190 ?_
    refine g_iload_n C rfl rfl d_E_mint_191 ?_
    refine g_iconst (v := 0) C rfl d_E_mint_192 ?_
    refine g_iadd C d_E_mint_193 ?_
    rw [Int32.add_zero]
    refine g_lload C rfl d_E_mint_194 ?_
    refine g_callV C (c_E_payIn (la := zla Z) (bal := zbal Z) (hol := zhol Z) a p (lN A) hn u0 u1 u3 ha4 (by omega)) Y_E_payIn m_451 s_E_payIn m_449 rfl rfl ⟨by decide, by decide⟩ ⟨by decide, by decide⟩ (fun h => nomatch h) d_E_mint_196 (by first | assumption | omega) (by repeat' first | assumption | exact up_eq _ _ _ | refine up_ne (by omega) ?_) rfl (Nat.le_of_ble_eq_true rfl) (fun ret sg196 hq => ?_)
    obtain ⟨rfl, rfl⟩ := hq
    refine g_aload_n C rfl rfl d_E_mint_199 ?_
    refine g_iload_n C rfl rfl d_E_mint_200 ?_
    refine g_iload_n C rfl rfl d_E_mint_201 ?_
    refine g_iconst (v := 1) C rfl d_E_mint_202 ?_
    refine g_iadd C d_E_mint_203 ?_
    rw [nI_1]
    refine g_lload C rfl d_E_mint_204 ?_
    refine g_callV C (c_E_payIn (la := zla Z) (bal := vp_updL (zbal Z) (a * 3 + p) (zbal Z (a * 3 + p) - lN A)) (hol := vp_updL (zhol Z) p (zhol Z p + lN A)) a (p + 1) (lN B) hn (by unfold isE; exact (by repeat' first | assumption | exact up_eq _ _ _ | refine up_ne (by omega) ?_)) (by repeat' first | assumption | exact up_eq _ _ _ | refine up_ne (by omega) ?_) (by repeat' first | assumption | exact up_eq _ _ _ | refine up_ne (by omega) ?_) ha4 (by omega)) Y_E_payIn m_451 s_E_payIn m_449 rfl rfl ⟨by decide, by decide⟩ ⟨by decide, by decide⟩ (fun h => nomatch h) d_E_mint_206 (by first | assumption | omega) (by repeat' first | assumption | exact up_eq _ _ _ | refine up_ne (by omega) ?_) rfl (Nat.le_of_ble_eq_true rfl) (fun ret sg206 hq => ?_)
    obtain ⟨rfl, rfl⟩ := hq
    refine g_aload C rfl d_E_mint_209 ?_
    refine gf_E_80 C d_E_mint_211 (by first | assumption | omega) (by repeat' first | assumption | exact up_eq _ _ _ | refine up_ne (by omega) ?_) (by rfl) ?_
    refine g_iret C E hr d_E_mint_214 ?_
    obtain ⟨ins', owd', hES', hE'⟩ := ER_place (Z' := zMint Z a p q L A B lo hi) hPU hq hp (by rw [show zam (zMint Z a p q L A B lo hi) q = zam Z q + L from updN_s]; exact nI_add _ _) hA (fun i q2 => by by_cases e : i = q; (rw [e, show zam (zMint Z a p q L A B lo hi) q = zam Z q + L from updN_s]; omega); (rw [show zam (zMint Z a p q L A B lo hi) i = zam Z i from updN_n e]; exact hA i q2)) hB hlo hlh hhi hES hEr e4 uP uC e3 (by rw [show zow (zMint Z a p q L A B lo hi) q = a from updN_s, show zpl (zMint Z a p q L A B lo hi) q = p from updN_s, show zlo (zMint Z a p q L A B lo hi) q = lo from updZ_s, show zhi (zMint Z a p q L A B lo hi) q = hi from updZ_s, show zam (zMint Z a p q L A B lo hi) q = zam Z q + L from updN_s]; exact uS) (fun t ht => rfl) hod (fun i q1 q2 => ⟨updN_n q2, sOd_n (by omega) (by omega), sOd_n (by omega) (by omega)⟩) uG
    exact ⟨rfl, ⟨by unfold isE; exact (by repeat' first | assumption | exact up_eq _ _ _ | refine up_ne (by omega) ?_), (by repeat' first | assumption | exact up_eq _ _ _ | refine up_ne (by omega) ?_), (by repeat' first | exact (uH 2 (by omega)).trans h2 | refine up_ne (by omega) ?_), (by repeat' first | assumption | exact up_eq _ _ _ | refine up_ne (by omega) ?_), isR_mv hR (fun j q1 q2 => by repeat' first | exact uH j (by omega) | refine up_ne (by omega) ?_), ⟨f6, (by repeat' first | exact (uH 6 (by omega)).trans r1 | refine up_ne (by omega) ?_), r2⟩, ⟨w1, w2, w3, w4, w5, w6, w7, w8, (by repeat' first | exact (uH 8 (by omega)).trans hw8 | refine up_ne (by omega) ?_)⟩, ⟨v1, v2, v3, v4, v5, v6, v7, v8, (by repeat' first | exact (uH 9 (by omega)).trans hw9 | refine up_ne (by omega) ?_)⟩, ins', owd', ⟨isPs_mv hES'.1 (by repeat' first | exact rfl | refine up_ne (by omega) ?_) (fun j q1 q2 => (by repeat' first | exact rfl | refine up_ne (by omega) ?_)), hES'.2⟩, EP_mv (hE' 0 (by decide)) (fun j q1 q2 => (by repeat' first | exact rfl | refine up_ne (by omega) ?_)), EP_mv (hE' 1 (by decide)) (fun j q1 q2 => (by repeat' first | exact rfl | refine up_ne (by omega) ?_))⟩, fun j z => by repeat' first | exact uH j (by omega) | refine up_ne (by omega) ?_⟩
  rcases opt_or (zFind Z (nI a) (nI p) (iI lo) (iI hi)) with e | ⟨k, e⟩
  · rw [e] at hL hz3 hfe
    have hL : 0 + L ≤ 50000000 := hL
    have e2' : fnd (fun i => !zth Z i) 12 = some q := hz3
    rw [e2'] at hfr
    have hq := (fnd_some e2').1
    have hnt : zth Z q = false := by have z := (fnd_some e2').2; exact (Bool.not_eq_true' _).mp z
    obtain ⟨z1, z2, z3⟩ := swB_f hnt
    have hSq := hf3 q hq
    have s1 := hSq.1
    refine g_iload_n C rfl rfl d_E_mint_0 ?_
    refine g_iload_n C rfl rfl d_E_mint_1 ?_
    refine g_iload_n C rfl rfl d_E_mint_2 ?_
    refine g_iload C rfl d_E_mint_3 ?_
    refine g_callS C (c_E_requirePlace (nI a) (nI p) (iI lo) (iI hi) hall) Y_E_requirePlace m_343 m_342 ⟨by decide, by decide⟩ ⟨by decide, by decide⟩ (fun h => nomatch h) d_E_mint_5 rfl (Nat.le_of_ble_eq_true rfl) (fun ret sg5 hq => ?_)
    obtain ⟨rfl, rfl⟩ := hq
    refine g_iload_n C rfl rfl d_E_mint_8 ?_
    refine g_iload C rfl d_E_mint_9 ?_
    refine g_icmp_ge (tgt := 27) C d_E_mint_11 (by decide) (fun j11 => ?_) (fun j11 => ?_)
    · exact absurd ((iI_le (by omega) (by omega) (by omega) (by omega)).mp j11) (by omega)
    refine g_iload C rfl d_E_mint_14 ?_
    refine g_iconst (v := 1) C rfl d_E_mint_16 ?_
    refine g_icmp_lt (tgt := 27) C d_E_mint_17 (by decide) (fun j17 => ?_) (fun j17 => ?_)
    · exact absurd j17 (nI_nlt (b := 1) hL1 (by omega))
    refine g_iload C rfl d_E_mint_20 ?_
    refine g_ldc C m_348 d_E_mint_22 ?_
    refine g_icmp_le (tgt := 35) C d_E_mint_24 (by decide) (fun j24 => ?_) (fun j24 => ?_)
    rotate_left
    · exact absurd (nI_le (b := 50000000) (by omega) (by decide)) j24
    refine g_aload_n C rfl rfl d_E_mint_35 ?_
    refine g_iload_n C rfl rfl d_E_mint_36 ?_
    refine g_iload_n C rfl rfl d_E_mint_37 ?_
    refine g_iload_n C rfl rfl d_E_mint_38 ?_
    refine g_iload C rfl d_E_mint_39 ?_
    refine g_callV C (c_E_find (nI a) (nI p) (iI lo) (iI hi) hn h0 hS) Y_E_find m_219 s_E_find m_217 rfl rfl ⟨by decide, by decide⟩ ⟨by decide, by decide⟩ (fun h => nomatch h) d_E_mint_41 (by first | assumption | omega) (by repeat' first | assumption | exact up_eq _ _ _ | refine up_ne (by omega) ?_) rfl (Nat.le_of_ble_eq_true rfl) (fun ret sg41 hq => ?_)
    obtain ⟨rfl, rfl⟩ := hq
    rw [hfe]
    refine g_astoreN (lv' := [(6, .null), (0, .ref (ad o 0)), (1, .int (nI a)), (2, .int (nI p)), (3, .int (iI lo)), (4, .int (iI hi)), (5, .int (nI L))]) C d_E_mint_44 (by decide) rfl ?_
    refine g_aloadN C rfl d_E_mint_46 ?_
    refine g_ifnullN (tgt := 72) C d_E_mint_48 (by decide) ?_
    refine g_aloadN C rfl d_E_mint_72 ?_
    refine g_ifnullN (tgt := 82) C d_E_mint_74 (by decide) ?_
    refine g_aload_n C rfl rfl d_E_mint_82 ?_
    refine g_callV C (c_E_findFree hn h0 hS) Y_E_findFree m_351 s_E_findFree m_349 rfl rfl ⟨by decide, by decide⟩ ⟨by decide, by decide⟩ (fun h => nomatch h) d_E_mint_83 (by first | assumption | omega) (by repeat' first | assumption | exact up_eq _ _ _ | refine up_ne (by omega) ?_) rfl (Nat.le_of_ble_eq_true rfl) (fun ret sg83 hq => ?_)
    obtain ⟨rfl, rfl⟩ := hq
    rw [hfr]
    refine g_astore (lv' := [(7, .ref (ad o (28 + 3 * q))), (6, .null), (0, .ref (ad o 0)), (1, .int (nI a)), (2, .int (nI p)), (3, .int (iI lo)), (4, .int (iI hi)), (5, .int (nI L))]) C d_E_mint_86 (by decide) rfl ?_
    refine g_aload_n C rfl rfl d_E_mint_88 ?_
    refine gf_E_28 C d_E_mint_89 (by first | assumption | omega) (by repeat' first | assumption | exact up_eq _ _ _ | refine up_ne (by omega) ?_) (by rfl) ?_
    refine g_iload_n C rfl rfl d_E_mint_92 ?_
    refine g_aldq C d_E_mint_93 3 (fun _ => rfl) (by first | assumption | omega) (by repeat' first | assumption | exact up_eq _ _ _ | refine up_ne (by omega) ?_) hin (by rw [hcl]; exact r2 p hp) ?_
    refine g_iload_n C rfl rfl d_E_mint_94 ?_
    refine g_iload C rfl d_E_mint_95 ?_
    refine g_iload C rfl d_E_mint_97 ?_
    refine g_iconst (v := 1) C rfl d_E_mint_99 ?_
    refine g_callV C (c_P_nearWorth true L lo hi (by omega) (by omega) (by omega) e1 e2 hR hlo hlh hhi hT.1 hT.2.1 (by have := hT.2.2.1; omega) (fun q1 q2 => tk_hi hT q1 q2 hhi) (by omega)) Y_P_nearWorth m_354 m_355 m_353 rfl rfl ⟨by decide, by decide⟩ ⟨by decide, by decide⟩ (fun h => nomatch h) d_E_mint_100 (by first | assumption | omega) (by repeat' first | assumption | exact up_eq _ _ _ | refine up_ne (by omega) ?_) rfl (Nat.le_of_ble_eq_true rfl) (fun ret sg100 hq => ?_)
    obtain ⟨rfl, rfl⟩ := hq
    rw [hAe]
    refine g_lstore (lv' := [(8, .long (lN A)), (7, .ref (ad o (28 + 3 * q))), (6, .null), (0, .ref (ad o 0)), (1, .int (nI a)), (2, .int (nI p)), (3, .int (iI lo)), (4, .int (iI hi)), (5, .int (nI L))]) C d_E_mint_103 (by decide) rfl ?_
    refine g_aload_n C rfl rfl d_E_mint_105 ?_
    refine gf_E_28 C d_E_mint_106 (by first | assumption | omega) (by repeat' first | assumption | exact up_eq _ _ _ | refine up_ne (by omega) ?_) (by rfl) ?_
    refine g_iload_n C rfl rfl d_E_mint_109 ?_
    refine g_aldq C d_E_mint_110 3 (fun _ => rfl) (by first | assumption | omega) (by repeat' first | assumption | exact up_eq _ _ _ | refine up_ne (by omega) ?_) hin (by rw [hcl]; exact r2 p hp) ?_
    refine g_iload_n C rfl rfl d_E_mint_111 ?_
    refine g_iload C rfl d_E_mint_112 ?_
    refine g_iload C rfl d_E_mint_114 ?_
    refine g_iconst (v := 1) C rfl d_E_mint_116 ?_
    refine g_callV C (c_P_farWorth true L lo hi (by omega) (by omega) (by omega) e1 e2 hR hlo hlh hhi hT.1 hT.2.1 (by have := hT.2.2.2.1; omega) (fun q1 q2 => tk_lo hT hlo q1) (by omega)) Y_P_farWorth m_371 m_372 m_370 rfl rfl ⟨by decide, by decide⟩ ⟨by decide, by decide⟩ (fun h => nomatch h) d_E_mint_117 (by first | assumption | omega) (by repeat' first | assumption | exact up_eq _ _ _ | refine up_ne (by omega) ?_) rfl (Nat.le_of_ble_eq_true rfl) (fun ret sg117 hq => ?_)
    obtain ⟨rfl, rfl⟩ := hq
    rw [hBe]
    refine g_lstore (lv' := [(10, .long (lN B)), (8, .long (lN A)), (7, .ref (ad o (28 + 3 * q))), (6, .null), (0, .ref (ad o 0)), (1, .int (nI a)), (2, .int (nI p)), (3, .int (iI lo)), (4, .int (iI hi)), (5, .int (nI L))]) C d_E_mint_120 (by decide) rfl ?_
    refine g_aload C rfl d_E_mint_122 ?_
    refine g_ifnull C d_E_mint_124 ?_
    refine g_aload_n C rfl rfl d_E_mint_127 ?_
    refine g_iload_n C rfl rfl d_E_mint_128 ?_
    refine g_iload_n C rfl rfl d_E_mint_129 ?_
    refine g_iconst (v := 0) C rfl d_E_mint_130 ?_
    refine g_iadd C d_E_mint_131 ?_
    rw [Int32.add_zero]
    refine g_lload C rfl d_E_mint_132 ?_
    refine g_callV C (c_E_lacks (la := zla Z) (bal := zbal Z) a p (lN A) hn h0 h1 ha4 (by omega)) Y_E_lacks m_380 s_E_lacks m_378 rfl rfl ⟨by decide, by decide⟩ ⟨by decide, by decide⟩ (fun h => nomatch h) d_E_mint_134 (by first | assumption | omega) (by repeat' first | assumption | exact up_eq _ _ _ | refine up_ne (by omega) ?_) rfl (Nat.le_of_ble_eq_true rfl) (fun ret sg134 hq => ?_)
    obtain ⟨rfl, rfl⟩ := hq
    refine g_if_ne (tgt := 153) C d_E_mint_137 (by decide) (fun j137 => ?_) (fun j137 => ?_)
    · exact absurd (okd j137) h4
    refine g_aload_n C rfl rfl d_E_mint_140 ?_
    refine g_iload_n C rfl rfl d_E_mint_141 ?_
    refine g_iload_n C rfl rfl d_E_mint_142 ?_
    refine g_iconst (v := 1) C rfl d_E_mint_143 ?_
    refine g_iadd C d_E_mint_144 ?_
    rw [nI_1]
    refine g_lload C rfl d_E_mint_145 ?_
    refine g_callV C (c_E_lacks (la := zla Z) (bal := zbal Z) a (p + 1) (lN B) hn h0 h1 ha4 (by omega)) Y_E_lacks m_380 s_E_lacks m_378 rfl rfl ⟨by decide, by decide⟩ ⟨by decide, by decide⟩ (fun h => nomatch h) d_E_mint_147 (by first | assumption | omega) (by repeat' first | assumption | exact up_eq _ _ _ | refine up_ne (by omega) ?_) rfl (Nat.le_of_ble_eq_true rfl) (fun ret sg147 hq => ?_)
    obtain ⟨rfl, rfl⟩ := hq
    refine g_if_eq (tgt := 161) C d_E_mint_150 (by decide) (fun j150 => ?_) (fun j150 => ?_)
    rotate_left
    · exact absurd (okd j150) h5
    refine g_aloadN C rfl d_E_mint_161 ?_
    refine g_ifnonnullN C d_E_mint_163 ?_
    refine g_aload C rfl d_E_mint_166 ?_
    refine g_iload_n C rfl rfl d_E_mint_168 ?_
    refine g_iload_n C rfl rfl d_E_mint_169 ?_
    refine g_iload_n C rfl rfl d_E_mint_170 ?_
    refine g_iload C rfl d_E_mint_171 ?_
    refine g_callV C (c_S_open (nI a) (nI p) (iI lo) (iI hi) (by omega) hSq) Y_S_open m_398 m_399 m_397 rfl rfl ⟨by decide, by decide⟩ ⟨by decide, by decide⟩ (fun h => nomatch h) d_E_mint_173 (by first | assumption | omega) (by repeat' first | assumption | exact up_eq _ _ _ | refine up_ne (by omega) ?_) rfl (Nat.le_of_ble_eq_true rfl) (fun ret sg173 hq => ?_)
    obtain ⟨rfl, uS, uF⟩ := hq
    refine g_pick [4, 5, 6, 9, 2, 1, 0] rfl ?_
    exact tail sg173 (fun _ => 0) uS (fun j z => (uF j (by omega))) (fun t ht => by rw [nI_l (by omega), z1]; exact (shr_0 _).trans (shr_0 _).symm) (PlUp_mint (Or.inr z1)) hq (by omega)
  · rw [e] at hL hz3 hfe
    have hL : zam Z k + L ≤ 50000000 := hL
    have hkq : k = q := Option.some.inj hz3
    subst hkq
    obtain ⟨hk, g1, g3, g4⟩ := find_at hB hp hlo hlh hhi e
    have hSq := hf3 k hk
    have s1 := hSq.1
    simp only [g3, g4.1, g4.2.1, g4.2.2] at hSq
    refine g_iload_n C rfl rfl d_E_mint_0 ?_
    refine g_iload_n C rfl rfl d_E_mint_1 ?_
    refine g_iload_n C rfl rfl d_E_mint_2 ?_
    refine g_iload C rfl d_E_mint_3 ?_
    refine g_callS C (c_E_requirePlace (nI a) (nI p) (iI lo) (iI hi) hall) Y_E_requirePlace m_343 m_342 ⟨by decide, by decide⟩ ⟨by decide, by decide⟩ (fun h => nomatch h) d_E_mint_5 rfl (Nat.le_of_ble_eq_true rfl) (fun ret sg5 hq => ?_)
    obtain ⟨rfl, rfl⟩ := hq
    refine g_iload_n C rfl rfl d_E_mint_8 ?_
    refine g_iload C rfl d_E_mint_9 ?_
    refine g_icmp_ge (tgt := 27) C d_E_mint_11 (by decide) (fun j11 => ?_) (fun j11 => ?_)
    · exact absurd ((iI_le (by omega) (by omega) (by omega) (by omega)).mp j11) (by omega)
    refine g_iload C rfl d_E_mint_14 ?_
    refine g_iconst (v := 1) C rfl d_E_mint_16 ?_
    refine g_icmp_lt (tgt := 27) C d_E_mint_17 (by decide) (fun j17 => ?_) (fun j17 => ?_)
    · exact absurd j17 (nI_nlt (b := 1) hL1 (by omega))
    refine g_iload C rfl d_E_mint_20 ?_
    refine g_ldc C m_348 d_E_mint_22 ?_
    refine g_icmp_le (tgt := 35) C d_E_mint_24 (by decide) (fun j24 => ?_) (fun j24 => ?_)
    rotate_left
    · exact absurd (nI_le (b := 50000000) (by omega) (by decide)) j24
    refine g_aload_n C rfl rfl d_E_mint_35 ?_
    refine g_iload_n C rfl rfl d_E_mint_36 ?_
    refine g_iload_n C rfl rfl d_E_mint_37 ?_
    refine g_iload_n C rfl rfl d_E_mint_38 ?_
    refine g_iload C rfl d_E_mint_39 ?_
    refine g_callV C (c_E_find (nI a) (nI p) (iI lo) (iI hi) hn h0 hS) Y_E_find m_219 s_E_find m_217 rfl rfl ⟨by decide, by decide⟩ ⟨by decide, by decide⟩ (fun h => nomatch h) d_E_mint_41 (by first | assumption | omega) (by repeat' first | assumption | exact up_eq _ _ _ | refine up_ne (by omega) ?_) rfl (Nat.le_of_ble_eq_true rfl) (fun ret sg41 hq => ?_)
    obtain ⟨rfl, rfl⟩ := hq
    rw [hfe]
    refine g_astore (lv' := [(6, .ref (ad o (28 + 3 * k))), (0, .ref (ad o 0)), (1, .int (nI a)), (2, .int (nI p)), (3, .int (iI lo)), (4, .int (iI hi)), (5, .int (nI L))]) C d_E_mint_44 (by decide) rfl ?_
    refine g_aload C rfl d_E_mint_46 ?_
    refine g_ifnull C d_E_mint_48 ?_
    refine g_aload C rfl d_E_mint_51 ?_
    refine gf_E_80 C d_E_mint_53 (by first | assumption | omega) (by repeat' first | assumption | exact up_eq _ _ _ | refine up_ne (by omega) ?_) (by rfl) ?_
    refine g_iload C rfl d_E_mint_56 ?_
    refine g_iadd C d_E_mint_58 ?_
    rw [nI_add]
    refine g_ldc C m_348 d_E_mint_59 ?_
    refine g_icmp_le (tgt := 72) C d_E_mint_61 (by decide) (fun j61 => ?_) (fun j61 => ?_)
    rotate_left
    · exact absurd (nI_le (b := 50000000) hL (by decide)) j61
    refine g_aload C rfl d_E_mint_72 ?_
    refine g_ifnull C d_E_mint_74 ?_
    refine g_aload C rfl d_E_mint_77 ?_
    refine g_goto (tgt := 86) C d_E_mint_79 (by decide) ?_
    refine g_astore (lv' := [(7, .ref (ad o (28 + 3 * k))), (6, .ref (ad o (28 + 3 * k))), (0, .ref (ad o 0)), (1, .int (nI a)), (2, .int (nI p)), (3, .int (iI lo)), (4, .int (iI hi)), (5, .int (nI L))]) C d_E_mint_86 (by decide) rfl ?_
    refine g_aload_n C rfl rfl d_E_mint_88 ?_
    refine gf_E_28 C d_E_mint_89 (by first | assumption | omega) (by repeat' first | assumption | exact up_eq _ _ _ | refine up_ne (by omega) ?_) (by rfl) ?_
    refine g_iload_n C rfl rfl d_E_mint_92 ?_
    refine g_aldq C d_E_mint_93 3 (fun _ => rfl) (by first | assumption | omega) (by repeat' first | assumption | exact up_eq _ _ _ | refine up_ne (by omega) ?_) hin (by rw [hcl]; exact r2 p hp) ?_
    refine g_iload_n C rfl rfl d_E_mint_94 ?_
    refine g_iload C rfl d_E_mint_95 ?_
    refine g_iload C rfl d_E_mint_97 ?_
    refine g_iconst (v := 1) C rfl d_E_mint_99 ?_
    refine g_callV C (c_P_nearWorth true L lo hi (by omega) (by omega) (by omega) e1 e2 hR hlo hlh hhi hT.1 hT.2.1 (by have := hT.2.2.1; omega) (fun q1 q2 => tk_hi hT q1 q2 hhi) (by omega)) Y_P_nearWorth m_354 m_355 m_353 rfl rfl ⟨by decide, by decide⟩ ⟨by decide, by decide⟩ (fun h => nomatch h) d_E_mint_100 (by first | assumption | omega) (by repeat' first | assumption | exact up_eq _ _ _ | refine up_ne (by omega) ?_) rfl (Nat.le_of_ble_eq_true rfl) (fun ret sg100 hq => ?_)
    obtain ⟨rfl, rfl⟩ := hq
    rw [hAe]
    refine g_lstore (lv' := [(8, .long (lN A)), (7, .ref (ad o (28 + 3 * k))), (6, .ref (ad o (28 + 3 * k))), (0, .ref (ad o 0)), (1, .int (nI a)), (2, .int (nI p)), (3, .int (iI lo)), (4, .int (iI hi)), (5, .int (nI L))]) C d_E_mint_103 (by decide) rfl ?_
    refine g_aload_n C rfl rfl d_E_mint_105 ?_
    refine gf_E_28 C d_E_mint_106 (by first | assumption | omega) (by repeat' first | assumption | exact up_eq _ _ _ | refine up_ne (by omega) ?_) (by rfl) ?_
    refine g_iload_n C rfl rfl d_E_mint_109 ?_
    refine g_aldq C d_E_mint_110 3 (fun _ => rfl) (by first | assumption | omega) (by repeat' first | assumption | exact up_eq _ _ _ | refine up_ne (by omega) ?_) hin (by rw [hcl]; exact r2 p hp) ?_
    refine g_iload_n C rfl rfl d_E_mint_111 ?_
    refine g_iload C rfl d_E_mint_112 ?_
    refine g_iload C rfl d_E_mint_114 ?_
    refine g_iconst (v := 1) C rfl d_E_mint_116 ?_
    refine g_callV C (c_P_farWorth true L lo hi (by omega) (by omega) (by omega) e1 e2 hR hlo hlh hhi hT.1 hT.2.1 (by have := hT.2.2.2.1; omega) (fun q1 q2 => tk_lo hT hlo q1) (by omega)) Y_P_farWorth m_371 m_372 m_370 rfl rfl ⟨by decide, by decide⟩ ⟨by decide, by decide⟩ (fun h => nomatch h) d_E_mint_117 (by first | assumption | omega) (by repeat' first | assumption | exact up_eq _ _ _ | refine up_ne (by omega) ?_) rfl (Nat.le_of_ble_eq_true rfl) (fun ret sg117 hq => ?_)
    obtain ⟨rfl, rfl⟩ := hq
    rw [hBe]
    refine g_lstore (lv' := [(10, .long (lN B)), (8, .long (lN A)), (7, .ref (ad o (28 + 3 * k))), (6, .ref (ad o (28 + 3 * k))), (0, .ref (ad o 0)), (1, .int (nI a)), (2, .int (nI p)), (3, .int (iI lo)), (4, .int (iI hi)), (5, .int (nI L))]) C d_E_mint_120 (by decide) rfl ?_
    refine g_aload C rfl d_E_mint_122 ?_
    refine g_ifnull C d_E_mint_124 ?_
    refine g_aload_n C rfl rfl d_E_mint_127 ?_
    refine g_iload_n C rfl rfl d_E_mint_128 ?_
    refine g_iload_n C rfl rfl d_E_mint_129 ?_
    refine g_iconst (v := 0) C rfl d_E_mint_130 ?_
    refine g_iadd C d_E_mint_131 ?_
    rw [Int32.add_zero]
    refine g_lload C rfl d_E_mint_132 ?_
    refine g_callV C (c_E_lacks (la := zla Z) (bal := zbal Z) a p (lN A) hn h0 h1 ha4 (by omega)) Y_E_lacks m_380 s_E_lacks m_378 rfl rfl ⟨by decide, by decide⟩ ⟨by decide, by decide⟩ (fun h => nomatch h) d_E_mint_134 (by first | assumption | omega) (by repeat' first | assumption | exact up_eq _ _ _ | refine up_ne (by omega) ?_) rfl (Nat.le_of_ble_eq_true rfl) (fun ret sg134 hq => ?_)
    obtain ⟨rfl, rfl⟩ := hq
    refine g_if_ne (tgt := 153) C d_E_mint_137 (by decide) (fun j137 => ?_) (fun j137 => ?_)
    · exact absurd (okd j137) h4
    refine g_aload_n C rfl rfl d_E_mint_140 ?_
    refine g_iload_n C rfl rfl d_E_mint_141 ?_
    refine g_iload_n C rfl rfl d_E_mint_142 ?_
    refine g_iconst (v := 1) C rfl d_E_mint_143 ?_
    refine g_iadd C d_E_mint_144 ?_
    rw [nI_1]
    refine g_lload C rfl d_E_mint_145 ?_
    refine g_callV C (c_E_lacks (la := zla Z) (bal := zbal Z) a (p + 1) (lN B) hn h0 h1 ha4 (by omega)) Y_E_lacks m_380 s_E_lacks m_378 rfl rfl ⟨by decide, by decide⟩ ⟨by decide, by decide⟩ (fun h => nomatch h) d_E_mint_147 (by first | assumption | omega) (by repeat' first | assumption | exact up_eq _ _ _ | refine up_ne (by omega) ?_) rfl (Nat.le_of_ble_eq_true rfl) (fun ret sg147 hq => ?_)
    obtain ⟨rfl, rfl⟩ := hq
    refine g_if_eq (tgt := 161) C d_E_mint_150 (by decide) (fun j150 => ?_) (fun j150 => ?_)
    rotate_left
    · exact absurd (okd j150) h5
    refine g_aload C rfl d_E_mint_161 ?_
    refine g_ifnonnull (tgt := 176) C d_E_mint_163 (by decide) ?_
    refine g_pick [4, 5, 6, 9, 2, 1, 0] rfl ?_
    exact tail sg (ins k) hSq (fun j z => rfl) (fun t ht => owed_add (Or.inl g4) hk hA hlo hlh hhi e4.2.1 e4.2.2 ht) (PlUp_mint (Or.inl g4)) hk hL

