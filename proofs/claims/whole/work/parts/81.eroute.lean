-- ROUTE IN THE CLASS
theorem zWork_c1 {Z : ZS} {a : Nat} {w : Y7} {dn ex : Bool} {r M : Nat} : zWork (zCarry Z a 0 true w) 1 dn ex r M = zWork Z 1 dn ex r M := by
  have e : zpr (zCarry Z a 0 true w) 1 = zpr Z 1 := by
    show updN (zpr Z) 0 w.1.1 1 = zpr Z 1
    exact updN_n (by decide)
  have e2 : ztk (zCarry Z a 0 true w) 1 = ztk Z 1 := by
    show updZ (ztk Z) 0 w.1.2.1 1 = ztk Z 1
    exact updZ_n (by decide)
  unfold zWork
  rw [e, e2]
  rfl
theorem t_E_route1 {l : Launch} {o n : Nat} {sg : Nat → va_E} {Z : ZS} (hfl : l.flags = flags0) (a x y : Int32) (h : ¬ okI a 4) : GT l y_E_route b_E_route 6 (some .long) 7 172 o n sg [.ref (ad o 0), .int a, .int x, .int y] "java/lang/IndexOutOfBoundsException" (fun s => s = sg) := by
  refine GT_of (by decide) (Nat.le_of_ble_eq_true rfl) ?_
  intro K C hl ha hh ET
  have hfl2 : (xl K).flags = flags0 := by rw [hl]; exact hfl
  have htr := tr_off (by rw [hl]; exact hfl) ha
  show G K o n sg 0 0 0 [(0, .ref (ad o 0)), (1, .int a), (2, .int x), (3, .int y)] []
  refine g_iload_n C rfl rfl d_E_route_0 ?_
  refine g_iconst (v := 4) C rfl d_E_route_1 ?_
  exact g_callST C hh ET (t_E_requireIndex hfl2 a 4 (nokI h)) Y_E_requireIndex m_242 m_241 ⟨by decide, by decide⟩ ⟨by decide, by decide⟩ d_E_route_2 rfl (Nat.le_of_ble_eq_true rfl)
theorem t_E_route2 {l : Launch} {o n : Nat} {sg : Nat → va_E} {Z : ZS} (hfl : l.flags = flags0) (a : Nat) (x y : Int32) (ha4 : a < 4) (h : x < 1 ∨ ¬ x ≤ 100000000) : GT l y_E_route b_E_route 6 (some .long) 7 172 o n sg [.ref (ad o 0), .int (nI a), .int x, .int y] "java/lang/IllegalArgumentException" (fun s => s = sg) := by
  refine GT_of (by decide) (Nat.le_of_ble_eq_true rfl) ?_
  intro K C hl ha hh ET
  have hfl2 : (xl K).flags = flags0 := by rw [hl]; exact hfl
  have htr := tr_off (by rw [hl]; exact hfl) ha
  show G K o n sg 0 0 0 [(0, .ref (ad o 0)), (1, .int (nI a)), (2, .int x), (3, .int y)] []
  refine g_iload_n C rfl rfl d_E_route_0 ?_
  refine g_iconst (v := 4) C rfl d_E_route_1 ?_
  refine g_callS C (c_E_requireIndex (nI a) 4 (ok4 ha4)) Y_E_requireIndex m_242 m_241 ⟨by decide, by decide⟩ ⟨by decide, by decide⟩ (fun h => nomatch h) d_E_route_2 rfl (Nat.le_of_ble_eq_true rfl) (fun ret sg2 hq => ?_)
  obtain ⟨rfl, rfl⟩ := hq
  refine g_iload_n C rfl rfl d_E_route_5 ?_
  refine g_iconst (v := 1) C rfl d_E_route_6 ?_
  refine g_icmp_lt (tgt := 16) C d_E_route_7 (by decide) (fun j7 => ?_) (fun j7 => ?_)
  · refine g_throw C ha hh ET htr gtw_A m_309 m_310 m_13 (by decide) d_E_route_16 d_E_route_19 d_E_route_20 d_E_route_23 (by decide) (Nat.le_of_ble_eq_true rfl) (by decide) (by decide) rfl
  · refine g_iload_n C rfl rfl d_E_route_10 ?_
    refine g_ldc C m_496 d_E_route_11 ?_
    refine g_icmp_le (tgt := 24) C d_E_route_13 (by decide) (fun j13 => ?_) (fun j13 => ?_)
    · exact h.elim (fun q => absurd q j7) (fun q => absurd j13 q)
    refine g_throw C ha hh ET htr gtw_A m_309 m_310 m_13 (by decide) d_E_route_16 d_E_route_19 d_E_route_20 d_E_route_23 (by decide) (Nat.le_of_ble_eq_true rfl) (by decide) (by decide) rfl
theorem t_E_route3a {l : Launch} {o n : Nat} {sg : Nat → va_E} {Z : ZS} (hfl : l.flags = flags0) (a r : Nat) (y : Int32) (hn : 64 ≤ n) (hW : EW sg o Z) (ha4 : a < 4) (hr0 : 0 < r) (hr1 : r ≤ 100000000) (hT : ∀ p, p < 2 → TkOk (zpr Z p) (ztk Z p)) (hq3 : zpr Z 0 = rt 0 ∨ zpr Z 1 = rt 0) : GT l y_E_route b_E_route 6 (some .long) 7 172 o n sg [.ref (ad o 0), .int (nI a), .int (nI r), .int y] "java/lang/IllegalStateException" (fun s => s = sg) := by
  obtain ⟨h0, h1, h2, h3, hER⟩ := id hW
  have he1 : sg 0 = _ := h0
  obtain ⟨hR, ⟨f6, r1, r2⟩, ⟨w1, w2, w3, w4, w5, w6, w7, w8, hw8⟩, ⟨v1, v2, v3, v4, v5, v6, v7, v8, hw9⟩, ins, owd, hES, hE0, hE1⟩ := hER
  obtain ⟨hS, ho⟩ := id hES
  have hEr := ER_all hE0 hE1
  have hR1 := hR.1
  obtain ⟨c0, gr, ne, g, ou, pr2, tz2, lq2, g2, oo2, e1, e2, e3, e4⟩ := id hE0
  obtain ⟨c1, grx, nex, gx, oux, pr2x, tz2x, lq2x, g2x, oo2x, f1, f2, f3, f4⟩ := id hE1
  have hb0 := cN_b c0 0
  have e11 := e1.1
  have f11 := f1.1
  have hb1 := cN_b c1 1
  have i0 : vp_in (0 : Int32) 2 := vp_in_nI (n := 0) (by decide) (by decide)
  have i1 : vp_in (1 : Int32) 2 := vp_in_nI (n := 1) (by decide) (by decide)
  have q0 : f6 (0 : Int32).toNatClampNeg = some (ad o (10 + 9 * 0)) := r2 0 (by decide)
  have q1 : f6 (1 : Int32).toNatClampNeg = some (ad o (10 + 9 * 1)) := r2 1 (by decide)
  have hR3 : rt 0 < 2 ^ 63 := Nat.lt_trans (rt_up (by decide)) (by decide)
  have hT0 := hT 0 (by decide)
  have hT1 := hT 1 (by decide)
  have l0 := rt_pos0 hT0
  have l1 := rt_pos0 hT1
  have b0 : zpr Z 0 < 2 ^ 63 := by have := hT0.2.2.2.1; omega
  have b1 : zpr Z 1 < 2 ^ 63 := by have := hT1.2.2.2.1; omega
  have hrl : (nI r).toInt64 = lN r := nI_l (by omega)
  refine GT_of (by decide) (Nat.le_of_ble_eq_true rfl) ?_
  intro K C hl ha hh ET
  have hfl2 : (xl K).flags = flags0 := by rw [hl]; exact hfl
  have htr := tr_off (by rw [hl]; exact hfl) ha
  show G K o n sg 0 0 0 [(0, .ref (ad o 0)), (1, .int (nI a)), (2, .int (nI r)), (3, .int y)] []
  refine g_iload_n C rfl rfl d_E_route_0 ?_
  refine g_iconst (v := 4) C rfl d_E_route_1 ?_
  refine g_callS C (c_E_requireIndex (nI a) 4 (ok4 ha4)) Y_E_requireIndex m_242 m_241 ⟨by decide, by decide⟩ ⟨by decide, by decide⟩ (fun h => nomatch h) d_E_route_2 rfl (Nat.le_of_ble_eq_true rfl) (fun ret sg2 hq => ?_)
  obtain ⟨rfl, rfl⟩ := hq
  refine g_iload_n C rfl rfl d_E_route_5 ?_
  refine g_iconst (v := 1) C rfl d_E_route_6 ?_
  refine g_icmp_lt (tgt := 16) C d_E_route_7 (by decide) (fun j7 => ?_) (fun j7 => ?_)
  · exact absurd j7 (nI_nlt (b := 1) hr0 (by omega))
  refine g_iload_n C rfl rfl d_E_route_10 ?_
  refine g_ldc C m_496 d_E_route_11 ?_
  refine g_icmp_le (tgt := 24) C d_E_route_13 (by decide) (fun j13 => ?_) (fun j13 => ?_)
  rotate_left
  · exact absurd (nI_le (b := 100000000) hr1 (by decide)) j13
  refine g_aload_n C rfl rfl d_E_route_24 ?_
  refine gf_E_22 C d_E_route_25 (by first | assumption | omega) (by repeat' first | assumption | exact up_eq _ _ _ | refine up_ne (by omega) ?_) (by rfl) ?_
  refine g_bipush (v := -40) C rfl d_E_route_28 ?_
  rw [show (-40 : Int32) = iI (-40) from by decide]
  refine g_callV C (c_R_at (-40) (by omega) hR (by decide) (by decide)) Y_R_at m_358 m_359 m_497 rfl rfl ⟨by decide, by decide⟩ ⟨by decide, by decide⟩ (fun h => nomatch h) d_E_route_30 (by first | assumption | omega) (by repeat' first | assumption | exact up_eq _ _ _ | refine up_ne (by omega) ?_) rfl (Nat.le_of_ble_eq_true rfl) (fun ret sg30 hq => ?_)
  obtain ⟨rfl, rfl⟩ := hq
  rw [show ((-40 : Int) + 40).toNat = 0 from rfl]
  refine g_lstore (lv' := [(4, .long (lN (rt 0))), (0, .ref (ad o 0)), (1, .int (nI a)), (2, .int (nI r)), (3, .int y)]) C d_E_route_33 (by decide) rfl ?_
  refine g_aload_n C rfl rfl d_E_route_35 ?_
  refine gf_E_28 C d_E_route_36 (by first | assumption | omega) (by repeat' first | assumption | exact up_eq _ _ _ | refine up_ne (by omega) ?_) (by rfl) ?_
  refine g_iconst (v := 0) C rfl d_E_route_39 ?_
  refine g_aldq C d_E_route_40 3 (fun _ => rfl) (by first | assumption | omega) (by repeat' first | assumption | exact up_eq _ _ _ | refine up_ne (by omega) ?_) i0 q0 ?_
  refine g_lload C rfl d_E_route_41 ?_
  refine g_iconst (v := 1) C rfl d_E_route_43 ?_
  refine g_callV C (c_P_isAhead (lN (rt 0)) true (by omega) (by omega) e1 e2) Y_P_isAhead m_499 m_500 m_498 rfl rfl ⟨by decide, by decide⟩ ⟨by decide, by decide⟩ (fun h => nomatch h) d_E_route_44 (by first | assumption | omega) (by repeat' first | assumption | exact up_eq _ _ _ | refine up_ne (by omega) ?_) rfl (Nat.le_of_ble_eq_true rfl) (fun ret sg44 hq => ?_)
  obtain ⟨rfl, rfl⟩ := hq
  refine g_if_eq (tgt := 65) C d_E_route_47 (by decide) (fun j47 => ?_) (fun j47 => ?_)
  · refine g_throw C ha hh ET htr gtw_S m_382 m_383 m_15 (by decide) d_E_route_65 d_E_route_68 d_E_route_69 d_E_route_72 (by decide) (Nat.le_of_ble_eq_true rfl) (by decide) (by decide) rfl
  · refine g_aload_n C rfl rfl d_E_route_50 ?_
    refine gf_E_28 C d_E_route_51 (by first | assumption | omega) (by repeat' first | assumption | exact up_eq _ _ _ | refine up_ne (by omega) ?_) (by rfl) ?_
    refine g_iconst (v := 1) C rfl d_E_route_54 ?_
    refine g_aldq C d_E_route_55 3 (fun _ => rfl) (by first | assumption | omega) (by repeat' first | assumption | exact up_eq _ _ _ | refine up_ne (by omega) ?_) i1 q1 ?_
    refine g_lload C rfl d_E_route_56 ?_
    refine g_iconst (v := 1) C rfl d_E_route_58 ?_
    refine g_callV C (c_P_isAhead (lN (rt 0)) true (by omega) (by omega) f1 f2) Y_P_isAhead m_499 m_500 m_498 rfl rfl ⟨by decide, by decide⟩ ⟨by decide, by decide⟩ (fun h => nomatch h) d_E_route_59 (by first | assumption | omega) (by repeat' first | assumption | exact up_eq _ _ _ | refine up_ne (by omega) ?_) rfl (Nat.le_of_ble_eq_true rfl) (fun ret sg59 hq => ?_)
    obtain ⟨rfl, rfl⟩ := hq
    refine g_if_ne (tgt := 73) C d_E_route_62 (by decide) (fun j62 => ?_) (fun j62 => ?_)
    · exact hq3.elim (fun q => absurd ((pk_lLT hR3 b0).mp (okd j47 : lN (rt 0) < lN (zpr Z 0))) (by omega)) (fun q => absurd ((pk_lLT hR3 b1).mp (okd j62 : lN (rt 0) < lN (zpr Z 1))) (by omega))
    refine g_throw C ha hh ET htr gtw_S m_382 m_383 m_15 (by decide) d_E_route_65 d_E_route_68 d_E_route_69 d_E_route_72 (by decide) (Nat.le_of_ble_eq_true rfl) (by decide) (by decide) rfl
set_option maxHeartbeats 8000000 in
theorem t_E_route3b {l : Launch} {o n : Nat} {sg : Nat → va_E} {Z : ZS} (hfl : l.flags = flags0) (a r : Nat) (y : Int32) (hn : 64 ≤ n) (hW : EW sg o Z) (ha4 : a < 4) (hr0 : 0 < r) (hr1 : r ≤ 100000000) (hT : ∀ p, p < 2 → TkOk (zpr Z p) (ztk Z p)) (hB : pBd (zpl Z) (zlo Z) (zhi Z)) (hA : ∀ i, i < 12 → zam Z i ≤ 50000000) (hO : ∀ i, i < 12 → 0 < zam Z i → zlo Z i < zhi Z i) (hf : ∀ p, p < 2 → zfee Z p ≤ 100) (hp0 : ¬ zpr Z 0 = rt 0) (hp1 : ¬ zpr Z 1 = rt 0) (h5 : zbal Z (a * 3) < (zWork Z 0 true true r (rt 0)).1.2.2.2.1 ∨ (zWork Z 0 true true r (rt 0)).1.2.2.2.2 = 0) : GT l y_E_route b_E_route 6 (some .long) 7 172 o n sg [.ref (ad o 0), .int (nI a), .int (nI r), .int y] "java/lang/IllegalStateException" (fun s => EW s o Z ∧ efr sg s) := by
  obtain ⟨h0, h1, h2, h3, hER⟩ := id hW
  have he1 : sg 0 = _ := h0
  obtain ⟨hR, ⟨f6, r1, r2⟩, ⟨w1, w2, w3, w4, w5, w6, w7, w8, hw8⟩, ⟨v1, v2, v3, v4, v5, v6, v7, v8, hw9⟩, ins, owd, hES, hE0, hE1⟩ := hER
  obtain ⟨hS, ho⟩ := id hES
  have hEr := ER_all hE0 hE1
  have hR1 := hR.1
  obtain ⟨c0, gr, ne, g, ou, pr2, tz2, lq2, g2, oo2, e1, e2, e3, e4⟩ := id hE0
  obtain ⟨c1, grx, nex, gx, oux, pr2x, tz2x, lq2x, g2x, oo2x, f1, f2, f3, f4⟩ := id hE1
  have hb0 := cN_b c0 0
  have e11 := e1.1
  have f11 := f1.1
  have hb1 := cN_b c1 1
  have i0 : vp_in (0 : Int32) 2 := vp_in_nI (n := 0) (by decide) (by decide)
  have i1 : vp_in (1 : Int32) 2 := vp_in_nI (n := 1) (by decide) (by decide)
  have q0 : f6 (0 : Int32).toNatClampNeg = some (ad o (10 + 9 * 0)) := r2 0 (by decide)
  have q1 : f6 (1 : Int32).toNatClampNeg = some (ad o (10 + 9 * 1)) := r2 1 (by decide)
  have hR3 : rt 0 < 2 ^ 63 := Nat.lt_trans (rt_up (by decide)) (by decide)
  have hT0 := hT 0 (by decide)
  have hT1 := hT 1 (by decide)
  have l0 := rt_pos0 hT0
  have l1 := rt_pos0 hT1
  have b0 : zpr Z 0 < 2 ^ 63 := by have := hT0.2.2.2.1; omega
  have b1 : zpr Z 1 < 2 ^ 63 := by have := hT1.2.2.2.1; omega
  have hrl : (nI r).toInt64 = lN r := nI_l (by omega)
  have hQ0 : QI true (rt 0) (zpr Z 0, ztk Z 0, r, 0, 0) := ⟨hT0, hr1, l0⟩
  obtain ⟨x0, hx0⟩ : ∃ xf, xf = cRun true true (zfee Z 0) (rt 0) (zset Z 0) gr (zdep Z 0) 100 ((zpr Z 0, ztk Z 0, r, 0, 0), g, ou) := ⟨_, rfl⟩
  obtain ⟨y0, y1⟩ := EPin_carry e4 hA hB hO (Nat.le_refl _) (rt_le (by decide) (Nat.le_refl 80)) hQ0 hx0
  have hD0 := DepOk_of hA hO e4.2.1
  have ah0 : (if true = true then lN (rt 0) < lN (zpr Z 0) else lN (zpr Z 0) < lN (rt 0)) := (pk_lLT hR3 b0).mpr (by omega)
  have ah1 : (if true = true then lN (rt 0) < lN (zpr Z 1) else lN (zpr Z 1) < lN (rt 0)) := (pk_lLT hR3 b1).mpr (by omega)
  rw [← y0] at h5
  refine GT_of (by decide) (Nat.le_of_ble_eq_true rfl) ?_
  intro K C hl ha hh ET
  have hfl2 : (xl K).flags = flags0 := by rw [hl]; exact hfl
  have htr := tr_off (by rw [hl]; exact hfl) ha
  show G K o n sg 0 0 0 [(0, .ref (ad o 0)), (1, .int (nI a)), (2, .int (nI r)), (3, .int y)] []
  refine g_iload_n C rfl rfl d_E_route_0 ?_
  refine g_iconst (v := 4) C rfl d_E_route_1 ?_
  refine g_callS C (c_E_requireIndex (nI a) 4 (ok4 ha4)) Y_E_requireIndex m_242 m_241 ⟨by decide, by decide⟩ ⟨by decide, by decide⟩ (fun h => nomatch h) d_E_route_2 rfl (Nat.le_of_ble_eq_true rfl) (fun ret sg2 hq => ?_)
  obtain ⟨rfl, rfl⟩ := hq
  refine g_iload_n C rfl rfl d_E_route_5 ?_
  refine g_iconst (v := 1) C rfl d_E_route_6 ?_
  refine g_icmp_lt (tgt := 16) C d_E_route_7 (by decide) (fun j7 => ?_) (fun j7 => ?_)
  · exact absurd j7 (nI_nlt (b := 1) hr0 (by omega))
  refine g_iload_n C rfl rfl d_E_route_10 ?_
  refine g_ldc C m_496 d_E_route_11 ?_
  refine g_icmp_le (tgt := 24) C d_E_route_13 (by decide) (fun j13 => ?_) (fun j13 => ?_)
  rotate_left
  · exact absurd (nI_le (b := 100000000) hr1 (by decide)) j13
  refine g_aload_n C rfl rfl d_E_route_24 ?_
  refine gf_E_22 C d_E_route_25 (by first | assumption | omega) (by repeat' first | assumption | exact up_eq _ _ _ | refine up_ne (by omega) ?_) (by rfl) ?_
  refine g_bipush (v := -40) C rfl d_E_route_28 ?_
  rw [show (-40 : Int32) = iI (-40) from by decide]
  refine g_callV C (c_R_at (-40) (by omega) hR (by decide) (by decide)) Y_R_at m_358 m_359 m_497 rfl rfl ⟨by decide, by decide⟩ ⟨by decide, by decide⟩ (fun h => nomatch h) d_E_route_30 (by first | assumption | omega) (by repeat' first | assumption | exact up_eq _ _ _ | refine up_ne (by omega) ?_) rfl (Nat.le_of_ble_eq_true rfl) (fun ret sg30 hq => ?_)
  obtain ⟨rfl, rfl⟩ := hq
  rw [show ((-40 : Int) + 40).toNat = 0 from rfl]
  refine g_lstore (lv' := [(4, .long (lN (rt 0))), (0, .ref (ad o 0)), (1, .int (nI a)), (2, .int (nI r)), (3, .int y)]) C d_E_route_33 (by decide) rfl ?_
  refine g_aload_n C rfl rfl d_E_route_35 ?_
  refine gf_E_28 C d_E_route_36 (by first | assumption | omega) (by repeat' first | assumption | exact up_eq _ _ _ | refine up_ne (by omega) ?_) (by rfl) ?_
  refine g_iconst (v := 0) C rfl d_E_route_39 ?_
  refine g_aldq C d_E_route_40 3 (fun _ => rfl) (by first | assumption | omega) (by repeat' first | assumption | exact up_eq _ _ _ | refine up_ne (by omega) ?_) i0 q0 ?_
  refine g_lload C rfl d_E_route_41 ?_
  refine g_iconst (v := 1) C rfl d_E_route_43 ?_
  refine g_callV C (c_P_isAhead (lN (rt 0)) true (by omega) (by omega) e1 e2) Y_P_isAhead m_499 m_500 m_498 rfl rfl ⟨by decide, by decide⟩ ⟨by decide, by decide⟩ (fun h => nomatch h) d_E_route_44 (by first | assumption | omega) (by repeat' first | assumption | exact up_eq _ _ _ | refine up_ne (by omega) ?_) rfl (Nat.le_of_ble_eq_true rfl) (fun ret sg44 hq => ?_)
  obtain ⟨rfl, rfl⟩ := hq
  refine g_if_eq (tgt := 65) C d_E_route_47 (by decide) (fun j47 => ?_) (fun j47 => ?_)
  · exact absurd (j47.symm.trans (bzd ah0)) (show ¬ (0 : Int32) = 1 by decide)
  refine g_aload_n C rfl rfl d_E_route_50 ?_
  refine gf_E_28 C d_E_route_51 (by first | assumption | omega) (by repeat' first | assumption | exact up_eq _ _ _ | refine up_ne (by omega) ?_) (by rfl) ?_
  refine g_iconst (v := 1) C rfl d_E_route_54 ?_
  refine g_aldq C d_E_route_55 3 (fun _ => rfl) (by first | assumption | omega) (by repeat' first | assumption | exact up_eq _ _ _ | refine up_ne (by omega) ?_) i1 q1 ?_
  refine g_lload C rfl d_E_route_56 ?_
  refine g_iconst (v := 1) C rfl d_E_route_58 ?_
  refine g_callV C (c_P_isAhead (lN (rt 0)) true (by omega) (by omega) f1 f2) Y_P_isAhead m_499 m_500 m_498 rfl rfl ⟨by decide, by decide⟩ ⟨by decide, by decide⟩ (fun h => nomatch h) d_E_route_59 (by first | assumption | omega) (by repeat' first | assumption | exact up_eq _ _ _ | refine up_ne (by omega) ?_) rfl (Nat.le_of_ble_eq_true rfl) (fun ret sg59 hq => ?_)
  obtain ⟨rfl, rfl⟩ := hq
  refine g_if_ne (tgt := 73) C d_E_route_62 (by decide) (fun j62 => ?_) (fun j62 => ?_)
  rotate_left
  · exact absurd (j62.symm.trans (bzd ah1)) (show ¬ (0 : Int32) = 1 by decide)
  refine g_aload_n C rfl rfl d_E_route_73 ?_
  refine gf_E_43 C d_E_route_74 (by first | assumption | omega) (by repeat' first | assumption | exact up_eq _ _ _ | refine up_ne (by omega) ?_) (by rfl) ?_
  refine g_aload_n C rfl rfl d_E_route_77 ?_
  refine gf_E_28 C d_E_route_78 (by first | assumption | omega) (by repeat' first | assumption | exact up_eq _ _ _ | refine up_ne (by omega) ?_) (by rfl) ?_
  refine g_iconst (v := 0) C rfl d_E_route_81 ?_
  refine g_aldq C d_E_route_82 3 (fun _ => rfl) (by first | assumption | omega) (by repeat' first | assumption | exact up_eq _ _ _ | refine up_ne (by omega) ?_) i0 q0 ?_
  refine g_iconst (v := 1) C rfl d_E_route_83 ?_
  refine g_iload_n C rfl rfl d_E_route_84 ?_
  refine g_i2l C d_E_route_85 ?_
  rw [hrl]
  refine g_lload C rfl d_E_route_86 ?_
  refine g_callV C (c_T_run (k := 8) (kr := 4) (kp := 10 + 9 * 0) (kc := cN (!c0) 0) (kn := cN c0 0) (st := zset Z 0) (dep := zdep Z 0) (dn := true) (ex := true) (by omega) (by omega) (by omega) (by omega) (by omega) (by omega) (by omega) hw8 e1 e2 e3 hR hD0 (hf 0 (by decide)) (Nat.le_refl _) (rt_le (by decide) (Nat.le_refl 80)) hr0 hQ0 (if_pos rfl).symm hx0) Y_T_run m_503 m_504 m_502 rfl rfl ⟨by decide, by decide⟩ ⟨by decide, by decide⟩ (fun h => nomatch h) d_E_route_88 (by first | assumption | omega) (by repeat' first | assumption | exact up_eq _ _ _ | refine up_ne (by omega) ?_) rfl (Nat.le_of_ble_eq_true rfl) (fun ret sg88 hq => ?_)
  obtain ⟨rfl, tT, tC, tQ, tF⟩ := hq
  have tT1 : sg88 8 = _ := tT
  have t0 : isE sg88 o (zla Z) := (tF 0 (by omega) (by omega)).trans h0
  have t01 : sg88 0 = _ := t0
  have t1 := (tF 1 (by omega) (by omega)).trans h1
  have t3 := (tF 3 (by omega) (by omega)).trans h3
  have t6 := (tF 6 (by omega) (by omega)).trans r1
  have t9 := (tF 9 (by omega) (by omega)).trans hw9
  refine g_aload_n C rfl rfl d_E_route_91 ?_
  refine g_iload_n C rfl rfl d_E_route_92 ?_
  refine g_iconst (v := 0) C rfl d_E_route_93 ?_
  rw [show (0 : Int32) = nI 0 from rfl]
  refine g_aload_n C rfl rfl d_E_route_94 ?_
  refine gf_E_43 C d_E_route_95 (by first | assumption | omega) (by repeat' first | assumption | exact up_eq _ _ _ | refine up_ne (by omega) ?_) (by rfl) ?_
  refine gf_E_148 C d_E_route_98 (by first | assumption | omega) (by repeat' first | assumption | exact up_eq _ _ _ | refine up_ne (by omega) ?_) (by rfl) ?_
  refine g_callV C (c_E_lacks (la := zla Z) (bal := zbal Z) a 0 x0.1.2.2.2.1 hn t0 t1 ha4 (by decide)) Y_E_lacks m_380 s_E_lacks m_378 rfl rfl ⟨by decide, by decide⟩ ⟨by decide, by decide⟩ (fun h => nomatch h) d_E_route_101 (by first | assumption | omega) (by repeat' first | assumption | exact up_eq _ _ _ | refine up_ne (by omega) ?_) rfl (Nat.le_of_ble_eq_true rfl) (fun ret sg101 hq => ?_)
  obtain ⟨rfl, rfl⟩ := hq
  refine g_if_ne (tgt := 119) C d_E_route_104 (by decide) (fun j104 => ?_) (fun j104 => ?_)
  · refine g_throw C ha hh ET htr gtw_S m_382 m_383 m_15 (by decide) d_E_route_119 d_E_route_122 d_E_route_123 d_E_route_126 (by decide) (Nat.le_of_ble_eq_true rfl) (by decide) (by decide) ⟨EW_tried (k := 8) (p := 0) h0 h1 h2 h3 hR ⟨f6, r1, r2⟩ ⟨_, _, _, _, _, _, _, _, tT1⟩ ⟨v1, v2, v3, v4, v5, v6, v7, v8, (tF _ (by omega) (by omega)).trans hw9⟩ hES hEr (by decide) (Or.inl rfl) e1 e2 tC e4 tF, fun j q => tF j (by omega) (by omega)⟩
  · refine g_aload_n C rfl rfl d_E_route_107 ?_
    refine gf_E_43 C d_E_route_108 (by first | assumption | omega) (by repeat' first | assumption | exact up_eq _ _ _ | refine up_ne (by omega) ?_) (by rfl) ?_
    refine gf_E_155 C d_E_route_111 (by first | assumption | omega) (by repeat' first | assumption | exact up_eq _ _ _ | refine up_ne (by omega) ?_) (by rfl) ?_
    refine g_lconst (v := 0) C rfl d_E_route_114 ?_
    refine g_lcmp_ne (tgt := 127) C d_E_route_115 d_E_route_116 (by decide) (fun j115 => ?_) (fun j115 => ?_)
    · exact h5.elim (fun q => absurd (j104.symm.trans (bzd q)) (show ¬ (0 : Int32) = 1 by decide)) (fun q => absurd q j115)
    refine g_throw C ha hh ET htr gtw_S m_382 m_383 m_15 (by decide) d_E_route_119 d_E_route_122 d_E_route_123 d_E_route_126 (by decide) (Nat.le_of_ble_eq_true rfl) (by decide) (by decide) ⟨EW_tried (k := 8) (p := 0) h0 h1 h2 h3 hR ⟨f6, r1, r2⟩ ⟨_, _, _, _, _, _, _, _, tT1⟩ ⟨v1, v2, v3, v4, v5, v6, v7, v8, (tF _ (by omega) (by omega)).trans hw9⟩ hES hEr (by decide) (Or.inl rfl) e1 e2 tC e4 tF, fun j q => tF j (by omega) (by omega)⟩
set_option maxHeartbeats 8000000 in
theorem t_E_route3c {l : Launch} {o n : Nat} {sg : Nat → va_E} {Z : ZS} (hfl : l.flags = flags0) (a r : Nat) (y : Int32) (hn : 64 ≤ n) (hW : EW sg o Z) (ha4 : a < 4) (hr0 : 0 < r) (hr1 : r ≤ 100000000) (hT : ∀ p, p < 2 → TkOk (zpr Z p) (ztk Z p)) (hB : pBd (zpl Z) (zlo Z) (zhi Z)) (hA : ∀ i, i < 12 → zam Z i ≤ 50000000) (hO : ∀ i, i < 12 → 0 < zam Z i → zlo Z i < zhi Z i) (hf : ∀ p, p < 2 → zfee Z p ≤ 100) (hp0 : ¬ zpr Z 0 = rt 0) (hp1 : ¬ zpr Z 1 = rt 0) (g0 : Nat) (hg : (zWork Z 0 true true r (rt 0)).1.2.2.2.2 = lN g0) (hg0 : g0 ≤ 100000000) (h5 : ¬ zbal Z (a * 3) < (zWork Z 0 true true r (rt 0)).1.2.2.2.1) (h6 : ¬ (zWork Z 0 true true r (rt 0)).1.2.2.2.2 = 0) (h7 : (zWork Z 1 true true g0 (rt 0)).1.2.2.2.2 < y.toInt64) : GT l y_E_route b_E_route 6 (some .long) 7 172 o n sg [.ref (ad o 0), .int (nI a), .int (nI r), .int y] "java/lang/IllegalStateException" (fun s => EW s o Z ∧ efr sg s) := by
  obtain ⟨h0, h1, h2, h3, hER⟩ := id hW
  have he1 : sg 0 = _ := h0
  obtain ⟨hR, ⟨f6, r1, r2⟩, ⟨w1, w2, w3, w4, w5, w6, w7, w8, hw8⟩, ⟨v1, v2, v3, v4, v5, v6, v7, v8, hw9⟩, ins, owd, hES, hE0, hE1⟩ := hER
  obtain ⟨hS, ho⟩ := id hES
  have hEr := ER_all hE0 hE1
  have hR1 := hR.1
  obtain ⟨c0, gr, ne, g, ou, pr2, tz2, lq2, g2, oo2, e1, e2, e3, e4⟩ := id hE0
  obtain ⟨c1, grx, nex, gx, oux, pr2x, tz2x, lq2x, g2x, oo2x, f1, f2, f3, f4⟩ := id hE1
  have hb0 := cN_b c0 0
  have e11 := e1.1
  have f11 := f1.1
  have hb1 := cN_b c1 1
  have i0 : vp_in (0 : Int32) 2 := vp_in_nI (n := 0) (by decide) (by decide)
  have i1 : vp_in (1 : Int32) 2 := vp_in_nI (n := 1) (by decide) (by decide)
  have q0 : f6 (0 : Int32).toNatClampNeg = some (ad o (10 + 9 * 0)) := r2 0 (by decide)
  have q1 : f6 (1 : Int32).toNatClampNeg = some (ad o (10 + 9 * 1)) := r2 1 (by decide)
  have hR3 : rt 0 < 2 ^ 63 := Nat.lt_trans (rt_up (by decide)) (by decide)
  have hT0 := hT 0 (by decide)
  have hT1 := hT 1 (by decide)
  have l0 := rt_pos0 hT0
  have l1 := rt_pos0 hT1
  have b0 : zpr Z 0 < 2 ^ 63 := by have := hT0.2.2.2.1; omega
  have b1 : zpr Z 1 < 2 ^ 63 := by have := hT1.2.2.2.1; omega
  have hrl : (nI r).toInt64 = lN r := nI_l (by omega)
  have hQ0 : QI true (rt 0) (zpr Z 0, ztk Z 0, r, 0, 0) := ⟨hT0, hr1, l0⟩
  obtain ⟨x0, hx0⟩ : ∃ xf, xf = cRun true true (zfee Z 0) (rt 0) (zset Z 0) gr (zdep Z 0) 100 ((zpr Z 0, ztk Z 0, r, 0, 0), g, ou) := ⟨_, rfl⟩
  obtain ⟨y0, y1⟩ := EPin_carry e4 hA hB hO (Nat.le_refl _) (rt_le (by decide) (Nat.le_refl 80)) hQ0 hx0
  have hD0 := DepOk_of hA hO e4.2.1
  have ah0 : (if true = true then lN (rt 0) < lN (zpr Z 0) else lN (zpr Z 0) < lN (rt 0)) := (pk_lLT hR3 b0).mpr (by omega)
  have ah1 : (if true = true then lN (rt 0) < lN (zpr Z 1) else lN (zpr Z 1) < lN (rt 0)) := (pk_lLT hR3 b1).mpr (by omega)
  have hQ1 : QI true (rt 0) (zpr Z 1, ztk Z 1, g0, 0, 0) := ⟨hT1, hg0, l1⟩
  obtain ⟨x1, hx1⟩ : ∃ xf, xf = cRun true true (zfee Z 1) (rt 0) (zset Z 1) grx (zdep Z 1) 100 ((zpr Z 1, ztk Z 1, g0, 0, 0), gx, oux) := ⟨_, rfl⟩
  obtain ⟨z0, z1⟩ := EPin_carry f4 hA hB hO (Nat.le_refl _) (rt_le (by decide) (Nat.le_refl 80)) hQ1 hx1
  have hD1 := DepOk_of hA hO f4.2.1
  rw [← y0] at hg h5 h6
  rw [← z0] at h7
  have hgp : 0 < g0 := by
    rcases Nat.eq_zero_or_pos g0 with e | e
    · rw [e] at hg; exact absurd hg h6
    · exact e
  refine GT_of (by decide) (Nat.le_of_ble_eq_true rfl) ?_
  intro K C hl ha hh ET
  have hfl2 : (xl K).flags = flags0 := by rw [hl]; exact hfl
  have htr := tr_off (by rw [hl]; exact hfl) ha
  show G K o n sg 0 0 0 [(0, .ref (ad o 0)), (1, .int (nI a)), (2, .int (nI r)), (3, .int y)] []
  refine g_iload_n C rfl rfl d_E_route_0 ?_
  refine g_iconst (v := 4) C rfl d_E_route_1 ?_
  refine g_callS C (c_E_requireIndex (nI a) 4 (ok4 ha4)) Y_E_requireIndex m_242 m_241 ⟨by decide, by decide⟩ ⟨by decide, by decide⟩ (fun h => nomatch h) d_E_route_2 rfl (Nat.le_of_ble_eq_true rfl) (fun ret sg2 hq => ?_)
  obtain ⟨rfl, rfl⟩ := hq
  refine g_iload_n C rfl rfl d_E_route_5 ?_
  refine g_iconst (v := 1) C rfl d_E_route_6 ?_
  refine g_icmp_lt (tgt := 16) C d_E_route_7 (by decide) (fun j7 => ?_) (fun j7 => ?_)
  · exact absurd j7 (nI_nlt (b := 1) hr0 (by omega))
  refine g_iload_n C rfl rfl d_E_route_10 ?_
  refine g_ldc C m_496 d_E_route_11 ?_
  refine g_icmp_le (tgt := 24) C d_E_route_13 (by decide) (fun j13 => ?_) (fun j13 => ?_)
  rotate_left
  · exact absurd (nI_le (b := 100000000) hr1 (by decide)) j13
  refine g_aload_n C rfl rfl d_E_route_24 ?_
  refine gf_E_22 C d_E_route_25 (by first | assumption | omega) (by repeat' first | assumption | exact up_eq _ _ _ | refine up_ne (by omega) ?_) (by rfl) ?_
  refine g_bipush (v := -40) C rfl d_E_route_28 ?_
  rw [show (-40 : Int32) = iI (-40) from by decide]
  refine g_callV C (c_R_at (-40) (by omega) hR (by decide) (by decide)) Y_R_at m_358 m_359 m_497 rfl rfl ⟨by decide, by decide⟩ ⟨by decide, by decide⟩ (fun h => nomatch h) d_E_route_30 (by first | assumption | omega) (by repeat' first | assumption | exact up_eq _ _ _ | refine up_ne (by omega) ?_) rfl (Nat.le_of_ble_eq_true rfl) (fun ret sg30 hq => ?_)
  obtain ⟨rfl, rfl⟩ := hq
  rw [show ((-40 : Int) + 40).toNat = 0 from rfl]
  refine g_lstore (lv' := [(4, .long (lN (rt 0))), (0, .ref (ad o 0)), (1, .int (nI a)), (2, .int (nI r)), (3, .int y)]) C d_E_route_33 (by decide) rfl ?_
  refine g_aload_n C rfl rfl d_E_route_35 ?_
  refine gf_E_28 C d_E_route_36 (by first | assumption | omega) (by repeat' first | assumption | exact up_eq _ _ _ | refine up_ne (by omega) ?_) (by rfl) ?_
  refine g_iconst (v := 0) C rfl d_E_route_39 ?_
  refine g_aldq C d_E_route_40 3 (fun _ => rfl) (by first | assumption | omega) (by repeat' first | assumption | exact up_eq _ _ _ | refine up_ne (by omega) ?_) i0 q0 ?_
  refine g_lload C rfl d_E_route_41 ?_
  refine g_iconst (v := 1) C rfl d_E_route_43 ?_
  refine g_callV C (c_P_isAhead (lN (rt 0)) true (by omega) (by omega) e1 e2) Y_P_isAhead m_499 m_500 m_498 rfl rfl ⟨by decide, by decide⟩ ⟨by decide, by decide⟩ (fun h => nomatch h) d_E_route_44 (by first | assumption | omega) (by repeat' first | assumption | exact up_eq _ _ _ | refine up_ne (by omega) ?_) rfl (Nat.le_of_ble_eq_true rfl) (fun ret sg44 hq => ?_)
  obtain ⟨rfl, rfl⟩ := hq
  refine g_if_eq (tgt := 65) C d_E_route_47 (by decide) (fun j47 => ?_) (fun j47 => ?_)
  · exact absurd (j47.symm.trans (bzd ah0)) (show ¬ (0 : Int32) = 1 by decide)
  refine g_aload_n C rfl rfl d_E_route_50 ?_
  refine gf_E_28 C d_E_route_51 (by first | assumption | omega) (by repeat' first | assumption | exact up_eq _ _ _ | refine up_ne (by omega) ?_) (by rfl) ?_
  refine g_iconst (v := 1) C rfl d_E_route_54 ?_
  refine g_aldq C d_E_route_55 3 (fun _ => rfl) (by first | assumption | omega) (by repeat' first | assumption | exact up_eq _ _ _ | refine up_ne (by omega) ?_) i1 q1 ?_
  refine g_lload C rfl d_E_route_56 ?_
  refine g_iconst (v := 1) C rfl d_E_route_58 ?_
  refine g_callV C (c_P_isAhead (lN (rt 0)) true (by omega) (by omega) f1 f2) Y_P_isAhead m_499 m_500 m_498 rfl rfl ⟨by decide, by decide⟩ ⟨by decide, by decide⟩ (fun h => nomatch h) d_E_route_59 (by first | assumption | omega) (by repeat' first | assumption | exact up_eq _ _ _ | refine up_ne (by omega) ?_) rfl (Nat.le_of_ble_eq_true rfl) (fun ret sg59 hq => ?_)
  obtain ⟨rfl, rfl⟩ := hq
  refine g_if_ne (tgt := 73) C d_E_route_62 (by decide) (fun j62 => ?_) (fun j62 => ?_)
  rotate_left
  · exact absurd (j62.symm.trans (bzd ah1)) (show ¬ (0 : Int32) = 1 by decide)
  refine g_aload_n C rfl rfl d_E_route_73 ?_
  refine gf_E_43 C d_E_route_74 (by first | assumption | omega) (by repeat' first | assumption | exact up_eq _ _ _ | refine up_ne (by omega) ?_) (by rfl) ?_
  refine g_aload_n C rfl rfl d_E_route_77 ?_
  refine gf_E_28 C d_E_route_78 (by first | assumption | omega) (by repeat' first | assumption | exact up_eq _ _ _ | refine up_ne (by omega) ?_) (by rfl) ?_
  refine g_iconst (v := 0) C rfl d_E_route_81 ?_
  refine g_aldq C d_E_route_82 3 (fun _ => rfl) (by first | assumption | omega) (by repeat' first | assumption | exact up_eq _ _ _ | refine up_ne (by omega) ?_) i0 q0 ?_
  refine g_iconst (v := 1) C rfl d_E_route_83 ?_
  refine g_iload_n C rfl rfl d_E_route_84 ?_
  refine g_i2l C d_E_route_85 ?_
  rw [hrl]
  refine g_lload C rfl d_E_route_86 ?_
  refine g_callV C (c_T_run (k := 8) (kr := 4) (kp := 10 + 9 * 0) (kc := cN (!c0) 0) (kn := cN c0 0) (st := zset Z 0) (dep := zdep Z 0) (dn := true) (ex := true) (by omega) (by omega) (by omega) (by omega) (by omega) (by omega) (by omega) hw8 e1 e2 e3 hR hD0 (hf 0 (by decide)) (Nat.le_refl _) (rt_le (by decide) (Nat.le_refl 80)) hr0 hQ0 (if_pos rfl).symm hx0) Y_T_run m_503 m_504 m_502 rfl rfl ⟨by decide, by decide⟩ ⟨by decide, by decide⟩ (fun h => nomatch h) d_E_route_88 (by first | assumption | omega) (by repeat' first | assumption | exact up_eq _ _ _ | refine up_ne (by omega) ?_) rfl (Nat.le_of_ble_eq_true rfl) (fun ret sg88 hq => ?_)
  obtain ⟨rfl, tT, tC, tQ, tF⟩ := hq
  have tT1 : sg88 8 = _ := tT
  have t0 : isE sg88 o (zla Z) := (tF 0 (by omega) (by omega)).trans h0
  have t01 : sg88 0 = _ := t0
  have t1 := (tF 1 (by omega) (by omega)).trans h1
  have t3 := (tF 3 (by omega) (by omega)).trans h3
  have t6 := (tF 6 (by omega) (by omega)).trans r1
  have t9 := (tF 9 (by omega) (by omega)).trans hw9
  refine g_aload_n C rfl rfl d_E_route_91 ?_
  refine g_iload_n C rfl rfl d_E_route_92 ?_
  refine g_iconst (v := 0) C rfl d_E_route_93 ?_
  rw [show (0 : Int32) = nI 0 from rfl]
  refine g_aload_n C rfl rfl d_E_route_94 ?_
  refine gf_E_43 C d_E_route_95 (by first | assumption | omega) (by repeat' first | assumption | exact up_eq _ _ _ | refine up_ne (by omega) ?_) (by rfl) ?_
  refine gf_E_148 C d_E_route_98 (by first | assumption | omega) (by repeat' first | assumption | exact up_eq _ _ _ | refine up_ne (by omega) ?_) (by rfl) ?_
  refine g_callV C (c_E_lacks (la := zla Z) (bal := zbal Z) a 0 x0.1.2.2.2.1 hn t0 t1 ha4 (by decide)) Y_E_lacks m_380 s_E_lacks m_378 rfl rfl ⟨by decide, by decide⟩ ⟨by decide, by decide⟩ (fun h => nomatch h) d_E_route_101 (by first | assumption | omega) (by repeat' first | assumption | exact up_eq _ _ _ | refine up_ne (by omega) ?_) rfl (Nat.le_of_ble_eq_true rfl) (fun ret sg101 hq => ?_)
  obtain ⟨rfl, rfl⟩ := hq
  refine g_if_ne (tgt := 119) C d_E_route_104 (by decide) (fun j104 => ?_) (fun j104 => ?_)
  · exact absurd (okd j104) h5
  refine g_aload_n C rfl rfl d_E_route_107 ?_
  refine gf_E_43 C d_E_route_108 (by first | assumption | omega) (by repeat' first | assumption | exact up_eq _ _ _ | refine up_ne (by omega) ?_) (by rfl) ?_
  refine gf_E_155 C d_E_route_111 (by first | assumption | omega) (by repeat' first | assumption | exact up_eq _ _ _ | refine up_ne (by omega) ?_) (by rfl) ?_
  refine g_lconst (v := 0) C rfl d_E_route_114 ?_
  refine g_lcmp_ne (tgt := 127) C d_E_route_115 d_E_route_116 (by decide) (fun j115 => ?_) (fun j115 => ?_)
  rotate_left
  · exact absurd j115 h6
  refine g_aload_n C rfl rfl d_E_route_127 ?_
  refine gf_E_47 C d_E_route_128 (by first | assumption | omega) (by repeat' first | assumption | exact up_eq _ _ _ | refine up_ne (by omega) ?_) (by rfl) ?_
  refine g_aload_n C rfl rfl d_E_route_131 ?_
  refine gf_E_28 C d_E_route_132 (by first | assumption | omega) (by repeat' first | assumption | exact up_eq _ _ _ | refine up_ne (by omega) ?_) (by rfl) ?_
  refine g_iconst (v := 1) C rfl d_E_route_135 ?_
  refine g_aldq C d_E_route_136 3 (fun _ => rfl) (by first | assumption | omega) (by repeat' first | assumption | exact up_eq _ _ _ | refine up_ne (by omega) ?_) i1 q1 ?_
  refine g_iconst (v := 1) C rfl d_E_route_137 ?_
  refine g_aload_n C rfl rfl d_E_route_138 ?_
  refine gf_E_43 C d_E_route_139 (by first | assumption | omega) (by repeat' first | assumption | exact up_eq _ _ _ | refine up_ne (by omega) ?_) (by rfl) ?_
  refine gf_E_155 C d_E_route_142 (by first | assumption | omega) (by repeat' first | assumption | exact up_eq _ _ _ | refine up_ne (by omega) ?_) (by rfl) ?_
  rw [hg]
  refine g_lload C rfl d_E_route_145 ?_
  refine g_callV C (c_T_run (k := 9) (kr := 4) (kp := 10 + 9 * 1) (kc := cN (!c1) 1) (kn := cN c1 1) (st := zset Z 1) (dep := zdep Z 1) (dn := true) (ex := true) (by omega) (by omega) (by omega) (by omega) (by omega) (by omega) (by omega) ((tF 9 (by omega) (by omega)).trans hw9) (isP_mv f1 (fun j q1 q2 => tF j (by omega) (by omega))) (isC_m f2 (fun j q1 q2 => tF j (by omega) (by omega))) (isC_m f3 (fun j q1 q2 => tF j (by omega) (by omega))) (isR_mv hR (fun j q1 q2 => tF j (by omega) (by omega))) hD1 (hf 1 (by decide)) (Nat.le_refl _) (rt_le (by decide) (Nat.le_refl 80)) hgp hQ1 (if_pos rfl).symm hx1) Y_T_run m_503 m_504 m_502 rfl rfl ⟨by decide, by decide⟩ ⟨by decide, by decide⟩ (fun h => nomatch h) d_E_route_147 (by first | assumption | omega) (by repeat' first | assumption | exact up_eq _ _ _ | refine up_ne (by omega) ?_) rfl (Nat.le_of_ble_eq_true rfl) (fun ret sg147 hq => ?_)
  obtain ⟨rfl, uT, uC, uQ, uF⟩ := hq
  have uT1 : sg147 9 = _ := uT
  have u8 : sg147 8 = _ := (uF 8 (by omega) (by omega)).trans tT1
  have u0 : isE sg147 o (zla Z) := (uF 0 (by omega) (by omega)).trans t0
  have u01 : sg147 0 = _ := u0
  have u1 := (uF 1 (by omega) (by omega)).trans t1
  have u3 := (uF 3 (by omega) (by omega)).trans t3
  refine g_aload_n C rfl rfl d_E_route_150 ?_
  refine gf_E_47 C d_E_route_151 (by first | assumption | omega) (by repeat' first | assumption | exact up_eq _ _ _ | refine up_ne (by omega) ?_) (by rfl) ?_
  refine gf_E_155 C d_E_route_154 (by first | assumption | omega) (by repeat' first | assumption | exact up_eq _ _ _ | refine up_ne (by omega) ?_) (by rfl) ?_
  refine g_iload_n C rfl rfl d_E_route_157 ?_
  refine g_i2l C d_E_route_158 ?_
  refine g_lcmp_ge (tgt := 171) C d_E_route_159 d_E_route_160 (by decide) (fun j159 => ?_) (fun j159 => ?_)
  · exact absurd h7 (Int64.not_lt.mpr j159)
  refine g_throw C ha hh ET htr gtw_S m_382 m_383 m_15 (by decide) d_E_route_163 d_E_route_166 d_E_route_167 d_E_route_170 (by decide) (Nat.le_of_ble_eq_true rfl) (by decide) (by decide) ⟨by obtain ⟨k0, k1, k2, k3, kR, kQ, k8, k9, ins2, owd2, kS, kE0, kE1⟩ := (EW_tried (k := 8) (p := 0) h0 h1 h2 h3 hR ⟨f6, r1, r2⟩ ⟨_, _, _, _, _, _, _, _, tT1⟩ ⟨v1, v2, v3, v4, v5, v6, v7, v8, (tF _ (by omega) (by omega)).trans hw9⟩ hES hEr (by decide) (Or.inl rfl) e1 e2 tC e4 tF : EW sg88 o Z); exact EW_tried (k := 9) (p := 1) (ins := ins) (owd := owd) k0 k1 k2 k3 kR kQ ⟨_, _, _, _, _, _, _, _, u8⟩ ⟨_, _, _, _, _, _, _, _, uT1⟩ ⟨isPs_mv hES.1 (tF _ (by omega) (by omega)) (fun j q1 q2 => tF j (by omega) (by omega)), hES.2⟩ (ER_all (EP_trial e1 e2 tC e4 (fun j q1 q2 q3 => tF j (by omega) q3)) (EP_mv hE1 (fun j q1 q2 => tF j (by omega) (by omega)))) (by decide) (Or.inr rfl) (isP_mv f1 (fun j q1 q2 => tF j (by omega) (by omega))) (isC_m f2 (fun j q1 q2 => tF j (by omega) (by omega))) uC f4 uF, fun j q => (uF j (by omega) (by omega)).trans (tF j (by omega) (by omega))⟩
set_option maxHeartbeats 8000000 in
theorem c_E_route {l : Launch} {o n : Nat} {sg : Nat → va_E} {Z : ZS} (a r : Nat) (y : Int32) (hn : 64 ≤ n) (hW : EW sg o Z) (ha4 : a < 4) (hr0 : 0 < r) (hr1 : r ≤ 100000000) (hT : ∀ p, p < 2 → TkOk (zpr Z p) (ztk Z p)) (hB : pBd (zpl Z) (zlo Z) (zhi Z)) (hA : ∀ i, i < 12 → zam Z i ≤ 50000000) (hO : ∀ i, i < 12 → 0 < zam Z i → zlo Z i < zhi Z i) (hf : ∀ p, p < 2 → zfee Z p ≤ 100) (hp0 : ¬ zpr Z 0 = rt 0) (hp1 : ¬ zpr Z 1 = rt 0) (g0 : Nat) (hg : (zWork Z 0 true true r (rt 0)).1.2.2.2.2 = lN g0) (hg0 : g0 ≤ 100000000) (h5 : ¬ zbal Z (a * 3) < (zWork Z 0 true true r (rt 0)).1.2.2.2.1) (h6 : ¬ (zWork Z 0 true true r (rt 0)).1.2.2.2.2 = 0) (h7 : ¬ (zWork Z 1 true true g0 (rt 0)).1.2.2.2.2 < y.toInt64) : GM l y_E_route b_E_route 6 (some .long) 7 172 0 0 o n n sg false [.ref (ad o 0), .int (nI a), .int (nI r), .int y] (fun r0 s => some (.long (zWork Z 1 true true g0 (rt 0)).1.2.2.2.2) = r0 ∧ EW s o (zLa (zCarry (zCarry Z a 0 true (zWork Z 0 true true r (rt 0))) a 1 true (zWork Z 1 true true g0 (rt 0))) (zWork Z 0 true true r (rt 0)).1.2.2.2.1) ∧ efr sg s) := by
  obtain ⟨h0, h1, h2, h3, hER⟩ := id hW
  have he1 : sg 0 = _ := h0
  obtain ⟨hR, ⟨f6, r1, r2⟩, ⟨w1, w2, w3, w4, w5, w6, w7, w8, hw8⟩, ⟨v1, v2, v3, v4, v5, v6, v7, v8, hw9⟩, ins, owd, hES, hE0, hE1⟩ := hER
  obtain ⟨hS, ho⟩ := id hES
  have hEr := ER_all hE0 hE1
  have hR1 := hR.1
  obtain ⟨c0, gr, ne, g, ou, pr2, tz2, lq2, g2, oo2, e1, e2, e3, e4⟩ := id hE0
  obtain ⟨c1, grx, nex, gx, oux, pr2x, tz2x, lq2x, g2x, oo2x, f1, f2, f3, f4⟩ := id hE1
  have hb0 := cN_b c0 0
  have e11 := e1.1
  have f11 := f1.1
  have hb1 := cN_b c1 1
  have i0 : vp_in (0 : Int32) 2 := vp_in_nI (n := 0) (by decide) (by decide)
  have i1 : vp_in (1 : Int32) 2 := vp_in_nI (n := 1) (by decide) (by decide)
  have q0 : f6 (0 : Int32).toNatClampNeg = some (ad o (10 + 9 * 0)) := r2 0 (by decide)
  have q1 : f6 (1 : Int32).toNatClampNeg = some (ad o (10 + 9 * 1)) := r2 1 (by decide)
  have hR3 : rt 0 < 2 ^ 63 := Nat.lt_trans (rt_up (by decide)) (by decide)
  have hT0 := hT 0 (by decide)
  have hT1 := hT 1 (by decide)
  have l0 := rt_pos0 hT0
  have l1 := rt_pos0 hT1
  have b0 : zpr Z 0 < 2 ^ 63 := by have := hT0.2.2.2.1; omega
  have b1 : zpr Z 1 < 2 ^ 63 := by have := hT1.2.2.2.1; omega
  have hrl : (nI r).toInt64 = lN r := nI_l (by omega)
  have hQ0 : QI true (rt 0) (zpr Z 0, ztk Z 0, r, 0, 0) := ⟨hT0, hr1, l0⟩
  obtain ⟨x0, hx0⟩ : ∃ xf, xf = cRun true true (zfee Z 0) (rt 0) (zset Z 0) gr (zdep Z 0) 100 ((zpr Z 0, ztk Z 0, r, 0, 0), g, ou) := ⟨_, rfl⟩
  obtain ⟨y0, y1⟩ := EPin_carry e4 hA hB hO (Nat.le_refl _) (rt_le (by decide) (Nat.le_refl 80)) hQ0 hx0
  have hD0 := DepOk_of hA hO e4.2.1
  have ah0 : (if true = true then lN (rt 0) < lN (zpr Z 0) else lN (zpr Z 0) < lN (rt 0)) := (pk_lLT hR3 b0).mpr (by omega)
  have ah1 : (if true = true then lN (rt 0) < lN (zpr Z 1) else lN (zpr Z 1) < lN (rt 0)) := (pk_lLT hR3 b1).mpr (by omega)
  have hQ1 : QI true (rt 0) (zpr Z 1, ztk Z 1, g0, 0, 0) := ⟨hT1, hg0, l1⟩
  obtain ⟨x1, hx1⟩ : ∃ xf, xf = cRun true true (zfee Z 1) (rt 0) (zset Z 1) grx (zdep Z 1) 100 ((zpr Z 1, ztk Z 1, g0, 0, 0), gx, oux) := ⟨_, rfl⟩
  obtain ⟨z0, z1⟩ := EPin_carry f4 hA hB hO (Nat.le_refl _) (rt_le (by decide) (Nat.le_refl 80)) hQ1 hx1
  have hD1 := DepOk_of hA hO f4.2.1
  rw [← y0] at hg h5 h6
  rw [← z0] at h7
  have hgp : 0 < g0 := by
    rcases Nat.eq_zero_or_pos g0 with e | e
    · rw [e] at hg; exact absurd hg h6
    · exact e
  have hcar : ∀ (s : Nat → va_E), isE s o x0.1.2.2.2.1 → s 1 = eJ 12 (pyB (pyB (zbal Z) a 0 1 x0.1.2.2.2.1 x0.1.2.2.2.2) a 1 2 x1.1.2.2.2.1 x1.1.2.2.2.2) → s 3 = eJ 3 (pyH (pyH (zhol Z) 0 1 x0.1.2.2.2.1 x0.1.2.2.2.2) 1 2 x1.1.2.2.2.1 x1.1.2.2.2.2) → ETr s o 8 → ETr s o 9 → isP s o (10 + 9 * 0) 4 (zfee Z 0) (cN (!c0) 0) (cN c0 0) gr ne → isC s o (cN (!c0) 0) (lN x0.1.1) x0.1.2.1 (nI (zdep Z 0 x0.1.2.1)) x0.2.1 x0.2.2 → isP s o (10 + 9 * 1) 4 (zfee Z 1) (cN (!c1) 1) (cN c1 1) grx nex → isC s o (cN (!c1) 1) (lN x1.1.1) x1.1.2.1 (nI (zdep Z 1 x1.1.2.1)) x1.2.1 x1.2.2 → (∀ j, j ≠ 0 → j ≠ 1 → j ≠ 3 → j ≠ 8 → j ≠ 9 → j ≠ 10 → j ≠ 19 → (j < cN (!c0) 0 ∨ cN (!c0) 0 + 3 ≤ j) → (j < cN (!c1) 1 ∨ cN (!c1) 1 + 3 ≤ j) → s j = sg j) → EW s o (zLa (zCarry (zCarry Z a 0 true (zWork Z 0 true true r (rt 0))) a 1 true (zWork Z 1 true true g0 (rt 0))) x0.1.2.2.2.1) ∧ efr sg s := by
    intro s s0 s1 s3 s8 s9 sP sC sPx sCx sF
    have w1' : EPin (zCarry (zCarry Z a 0 true (zWork Z 0 true true r (rt 0))) a 1 true (zWork Z 1 true true g0 (rt 0))) 0 ins gr ne x0.2.1 x0.2.2 := EPin_carry' (by decide) (y1 a)
    have w2' := (EPin_carry (Z := zCarry Z a 0 true (zWork Z 0 true true r (rt 0))) (p := 1) (dn := true) (ex := true) (r := g0) (M := rt 0) (EPin_carry' (by decide) f4) hA hB hO (Nat.le_refl _) (rt_le (by decide) (Nat.le_refl 80)) hQ1 hx1).2 a
    rw [zWork_c1] at w2'
    rw [y0, z0] at s1 s3
    rw [y0] at sC
    rw [z0] at sCx
    generalize (zWork Z 0 true true r (rt 0)) = wa at *
    generalize (zWork Z 1 true true g0 (rt 0)) = wb at *
    have sG : ∀ j, (3 < j ∧ j < 8 ∨ 28 ≤ j ∨ j = 2) → s j = sg j := fun j q => sF j (by omega) (by omega) (by omega) (by omega) (by omega) (by omega) (by omega) (by omega) (by omega)
    have hall0 : EP s o (zCarry (zCarry Z a 0 true wa) a 1 true wb) ins 0 := by
      refine ⟨!c0, gr, ne, x0.2.1, x0.2.2, lN (zpr Z 0), ztk Z 0, nI (zdep Z 0 (ztk Z 0)), g, ou, ?_, ?_, ?_, w1'⟩
      · rw [Bool.not_not]; exact sP
      · show isC s o (cN (!c0) 0) (lN (updN (updN (zpr Z) 0 wa.1.1) 1 wb.1.1 0)) (updZ (updZ (ztk Z) 0 wa.1.2.1) 1 wb.1.2.1 0) (nI (zdep Z 0 (updZ (updZ (ztk Z) 0 wa.1.2.1) 1 wb.1.2.1 0))) x0.2.1 x0.2.2
        rw [updN_n (by decide), updN_s, updZ_n (by decide), updZ_s]
        exact sC
      · rw [Bool.not_not]
        exact isC_m e2 (fun j q1 q2 => sF j (by omega) (by omega) (by omega) (by omega) (by omega) (by omega) (by omega) (by omega) (by omega))
    have hall1 : EP s o (zCarry (zCarry Z a 0 true wa) a 1 true wb) ins 1 := by
      refine ⟨!c1, grx, nex, x1.2.1, x1.2.2, lN (zpr Z 1), ztk Z 1, nI (zdep Z 1 (ztk Z 1)), gx, oux, ?_, ?_, ?_, w2'⟩
      · rw [Bool.not_not]; exact sPx
      · show isC s o (cN (!c1) 1) (lN (updN (updN (zpr Z) 0 wa.1.1) 1 wb.1.1 1)) (updZ (updZ (ztk Z) 0 wa.1.2.1) 1 wb.1.2.1 1) (nI (zdep Z 1 (updZ (updZ (ztk Z) 0 wa.1.2.1) 1 wb.1.2.1 1))) x1.2.1 x1.2.2
        rw [updN_s, updZ_s]
        exact sCx
      · rw [Bool.not_not]
        exact isC_m f2 (fun j q1 q2 => sF j (by omega) (by omega) (by omega) (by omega) (by omega) (by omega) (by omega) (by omega) (by omega))
    exact ⟨⟨s0, s1, (sG 2 (by omega)).trans h2, s3, isR_mv hR (fun j q1 q2 => sG j (by omega)), ⟨f6, (sG 6 (by omega)).trans r1, r2⟩, s8, s9, ins, owd, ⟨isPs_mv hES.1 (sG 7 (by omega)) (fun j q1 q2 => sG j (by omega)), hES.2⟩, hall0, hall1⟩, fun j q => sG j (by omega)⟩
  rw [← y0, ← z0]
  refine GM_of (by decide) (Nat.le_of_ble_eq_true rfl) ?_
  intro K C hl hz hr hnm E
  show G K o n sg 0 0 0 [(0, .ref (ad o 0)), (1, .int (nI a)), (2, .int (nI r)), (3, .int y)] []
  refine g_iload_n C rfl rfl d_E_route_0 ?_
  refine g_iconst (v := 4) C rfl d_E_route_1 ?_
  refine g_callS C (c_E_requireIndex (nI a) 4 (ok4 ha4)) Y_E_requireIndex m_242 m_241 ⟨by decide, by decide⟩ ⟨by decide, by decide⟩ (fun h => nomatch h) d_E_route_2 rfl (Nat.le_of_ble_eq_true rfl) (fun ret sg2 hq => ?_)
  obtain ⟨rfl, rfl⟩ := hq
  refine g_iload_n C rfl rfl d_E_route_5 ?_
  refine g_iconst (v := 1) C rfl d_E_route_6 ?_
  refine g_icmp_lt (tgt := 16) C d_E_route_7 (by decide) (fun j7 => ?_) (fun j7 => ?_)
  · exact absurd j7 (nI_nlt (b := 1) hr0 (by omega))
  refine g_iload_n C rfl rfl d_E_route_10 ?_
  refine g_ldc C m_496 d_E_route_11 ?_
  refine g_icmp_le (tgt := 24) C d_E_route_13 (by decide) (fun j13 => ?_) (fun j13 => ?_)
  rotate_left
  · exact absurd (nI_le (b := 100000000) hr1 (by decide)) j13
  refine g_aload_n C rfl rfl d_E_route_24 ?_
  refine gf_E_22 C d_E_route_25 (by first | assumption | omega) (by repeat' first | assumption | exact up_eq _ _ _ | refine up_ne (by omega) ?_) (by rfl) ?_
  refine g_bipush (v := -40) C rfl d_E_route_28 ?_
  rw [show (-40 : Int32) = iI (-40) from by decide]
  refine g_callV C (c_R_at (-40) (by omega) hR (by decide) (by decide)) Y_R_at m_358 m_359 m_497 rfl rfl ⟨by decide, by decide⟩ ⟨by decide, by decide⟩ (fun h => nomatch h) d_E_route_30 (by first | assumption | omega) (by repeat' first | assumption | exact up_eq _ _ _ | refine up_ne (by omega) ?_) rfl (Nat.le_of_ble_eq_true rfl) (fun ret sg30 hq => ?_)
  obtain ⟨rfl, rfl⟩ := hq
  rw [show ((-40 : Int) + 40).toNat = 0 from rfl]
  refine g_lstore (lv' := [(4, .long (lN (rt 0))), (0, .ref (ad o 0)), (1, .int (nI a)), (2, .int (nI r)), (3, .int y)]) C d_E_route_33 (by decide) rfl ?_
  refine g_aload_n C rfl rfl d_E_route_35 ?_
  refine gf_E_28 C d_E_route_36 (by first | assumption | omega) (by repeat' first | assumption | exact up_eq _ _ _ | refine up_ne (by omega) ?_) (by rfl) ?_
  refine g_iconst (v := 0) C rfl d_E_route_39 ?_
  refine g_aldq C d_E_route_40 3 (fun _ => rfl) (by first | assumption | omega) (by repeat' first | assumption | exact up_eq _ _ _ | refine up_ne (by omega) ?_) i0 q0 ?_
  refine g_lload C rfl d_E_route_41 ?_
  refine g_iconst (v := 1) C rfl d_E_route_43 ?_
  refine g_callV C (c_P_isAhead (lN (rt 0)) true (by omega) (by omega) e1 e2) Y_P_isAhead m_499 m_500 m_498 rfl rfl ⟨by decide, by decide⟩ ⟨by decide, by decide⟩ (fun h => nomatch h) d_E_route_44 (by first | assumption | omega) (by repeat' first | assumption | exact up_eq _ _ _ | refine up_ne (by omega) ?_) rfl (Nat.le_of_ble_eq_true rfl) (fun ret sg44 hq => ?_)
  obtain ⟨rfl, rfl⟩ := hq
  refine g_if_eq (tgt := 65) C d_E_route_47 (by decide) (fun j47 => ?_) (fun j47 => ?_)
  · exact absurd (j47.symm.trans (bzd ah0)) (show ¬ (0 : Int32) = 1 by decide)
  refine g_aload_n C rfl rfl d_E_route_50 ?_
  refine gf_E_28 C d_E_route_51 (by first | assumption | omega) (by repeat' first | assumption | exact up_eq _ _ _ | refine up_ne (by omega) ?_) (by rfl) ?_
  refine g_iconst (v := 1) C rfl d_E_route_54 ?_
  refine g_aldq C d_E_route_55 3 (fun _ => rfl) (by first | assumption | omega) (by repeat' first | assumption | exact up_eq _ _ _ | refine up_ne (by omega) ?_) i1 q1 ?_
  refine g_lload C rfl d_E_route_56 ?_
  refine g_iconst (v := 1) C rfl d_E_route_58 ?_
  refine g_callV C (c_P_isAhead (lN (rt 0)) true (by omega) (by omega) f1 f2) Y_P_isAhead m_499 m_500 m_498 rfl rfl ⟨by decide, by decide⟩ ⟨by decide, by decide⟩ (fun h => nomatch h) d_E_route_59 (by first | assumption | omega) (by repeat' first | assumption | exact up_eq _ _ _ | refine up_ne (by omega) ?_) rfl (Nat.le_of_ble_eq_true rfl) (fun ret sg59 hq => ?_)
  obtain ⟨rfl, rfl⟩ := hq
  refine g_if_ne (tgt := 73) C d_E_route_62 (by decide) (fun j62 => ?_) (fun j62 => ?_)
  rotate_left
  · exact absurd (j62.symm.trans (bzd ah1)) (show ¬ (0 : Int32) = 1 by decide)
  refine g_aload_n C rfl rfl d_E_route_73 ?_
  refine gf_E_43 C d_E_route_74 (by first | assumption | omega) (by repeat' first | assumption | exact up_eq _ _ _ | refine up_ne (by omega) ?_) (by rfl) ?_
  refine g_aload_n C rfl rfl d_E_route_77 ?_
  refine gf_E_28 C d_E_route_78 (by first | assumption | omega) (by repeat' first | assumption | exact up_eq _ _ _ | refine up_ne (by omega) ?_) (by rfl) ?_
  refine g_iconst (v := 0) C rfl d_E_route_81 ?_
  refine g_aldq C d_E_route_82 3 (fun _ => rfl) (by first | assumption | omega) (by repeat' first | assumption | exact up_eq _ _ _ | refine up_ne (by omega) ?_) i0 q0 ?_
  refine g_iconst (v := 1) C rfl d_E_route_83 ?_
  refine g_iload_n C rfl rfl d_E_route_84 ?_
  refine g_i2l C d_E_route_85 ?_
  rw [hrl]
  refine g_lload C rfl d_E_route_86 ?_
  refine g_callV C (c_T_run (k := 8) (kr := 4) (kp := 10 + 9 * 0) (kc := cN (!c0) 0) (kn := cN c0 0) (st := zset Z 0) (dep := zdep Z 0) (dn := true) (ex := true) (by omega) (by omega) (by omega) (by omega) (by omega) (by omega) (by omega) hw8 e1 e2 e3 hR hD0 (hf 0 (by decide)) (Nat.le_refl _) (rt_le (by decide) (Nat.le_refl 80)) hr0 hQ0 (if_pos rfl).symm hx0) Y_T_run m_503 m_504 m_502 rfl rfl ⟨by decide, by decide⟩ ⟨by decide, by decide⟩ (fun h => nomatch h) d_E_route_88 (by first | assumption | omega) (by repeat' first | assumption | exact up_eq _ _ _ | refine up_ne (by omega) ?_) rfl (Nat.le_of_ble_eq_true rfl) (fun ret sg88 hq => ?_)
  obtain ⟨rfl, tT, tC, tQ, tF⟩ := hq
  have tT1 : sg88 8 = _ := tT
  have t0 : isE sg88 o (zla Z) := (tF 0 (by omega) (by omega)).trans h0
  have t01 : sg88 0 = _ := t0
  have t1 := (tF 1 (by omega) (by omega)).trans h1
  have t3 := (tF 3 (by omega) (by omega)).trans h3
  have t6 := (tF 6 (by omega) (by omega)).trans r1
  have t9 := (tF 9 (by omega) (by omega)).trans hw9
  refine g_aload_n C rfl rfl d_E_route_91 ?_
  refine g_iload_n C rfl rfl d_E_route_92 ?_
  refine g_iconst (v := 0) C rfl d_E_route_93 ?_
  rw [show (0 : Int32) = nI 0 from rfl]
  refine g_aload_n C rfl rfl d_E_route_94 ?_
  refine gf_E_43 C d_E_route_95 (by first | assumption | omega) (by repeat' first | assumption | exact up_eq _ _ _ | refine up_ne (by omega) ?_) (by rfl) ?_
  refine gf_E_148 C d_E_route_98 (by first | assumption | omega) (by repeat' first | assumption | exact up_eq _ _ _ | refine up_ne (by omega) ?_) (by rfl) ?_
  refine g_callV C (c_E_lacks (la := zla Z) (bal := zbal Z) a 0 x0.1.2.2.2.1 hn t0 t1 ha4 (by decide)) Y_E_lacks m_380 s_E_lacks m_378 rfl rfl ⟨by decide, by decide⟩ ⟨by decide, by decide⟩ (fun h => nomatch h) d_E_route_101 (by first | assumption | omega) (by repeat' first | assumption | exact up_eq _ _ _ | refine up_ne (by omega) ?_) rfl (Nat.le_of_ble_eq_true rfl) (fun ret sg101 hq => ?_)
  obtain ⟨rfl, rfl⟩ := hq
  refine g_if_ne (tgt := 119) C d_E_route_104 (by decide) (fun j104 => ?_) (fun j104 => ?_)
  · exact absurd (okd j104) h5
  refine g_aload_n C rfl rfl d_E_route_107 ?_
  refine gf_E_43 C d_E_route_108 (by first | assumption | omega) (by repeat' first | assumption | exact up_eq _ _ _ | refine up_ne (by omega) ?_) (by rfl) ?_
  refine gf_E_155 C d_E_route_111 (by first | assumption | omega) (by repeat' first | assumption | exact up_eq _ _ _ | refine up_ne (by omega) ?_) (by rfl) ?_
  refine g_lconst (v := 0) C rfl d_E_route_114 ?_
  refine g_lcmp_ne (tgt := 127) C d_E_route_115 d_E_route_116 (by decide) (fun j115 => ?_) (fun j115 => ?_)
  rotate_left
  · exact absurd j115 h6
  refine g_aload_n C rfl rfl d_E_route_127 ?_
  refine gf_E_47 C d_E_route_128 (by first | assumption | omega) (by repeat' first | assumption | exact up_eq _ _ _ | refine up_ne (by omega) ?_) (by rfl) ?_
  refine g_aload_n C rfl rfl d_E_route_131 ?_
  refine gf_E_28 C d_E_route_132 (by first | assumption | omega) (by repeat' first | assumption | exact up_eq _ _ _ | refine up_ne (by omega) ?_) (by rfl) ?_
  refine g_iconst (v := 1) C rfl d_E_route_135 ?_
  refine g_aldq C d_E_route_136 3 (fun _ => rfl) (by first | assumption | omega) (by repeat' first | assumption | exact up_eq _ _ _ | refine up_ne (by omega) ?_) i1 q1 ?_
  refine g_iconst (v := 1) C rfl d_E_route_137 ?_
  refine g_aload_n C rfl rfl d_E_route_138 ?_
  refine gf_E_43 C d_E_route_139 (by first | assumption | omega) (by repeat' first | assumption | exact up_eq _ _ _ | refine up_ne (by omega) ?_) (by rfl) ?_
  refine gf_E_155 C d_E_route_142 (by first | assumption | omega) (by repeat' first | assumption | exact up_eq _ _ _ | refine up_ne (by omega) ?_) (by rfl) ?_
  rw [hg]
  refine g_lload C rfl d_E_route_145 ?_
  refine g_callV C (c_T_run (k := 9) (kr := 4) (kp := 10 + 9 * 1) (kc := cN (!c1) 1) (kn := cN c1 1) (st := zset Z 1) (dep := zdep Z 1) (dn := true) (ex := true) (by omega) (by omega) (by omega) (by omega) (by omega) (by omega) (by omega) ((tF 9 (by omega) (by omega)).trans hw9) (isP_mv f1 (fun j q1 q2 => tF j (by omega) (by omega))) (isC_m f2 (fun j q1 q2 => tF j (by omega) (by omega))) (isC_m f3 (fun j q1 q2 => tF j (by omega) (by omega))) (isR_mv hR (fun j q1 q2 => tF j (by omega) (by omega))) hD1 (hf 1 (by decide)) (Nat.le_refl _) (rt_le (by decide) (Nat.le_refl 80)) hgp hQ1 (if_pos rfl).symm hx1) Y_T_run m_503 m_504 m_502 rfl rfl ⟨by decide, by decide⟩ ⟨by decide, by decide⟩ (fun h => nomatch h) d_E_route_147 (by first | assumption | omega) (by repeat' first | assumption | exact up_eq _ _ _ | refine up_ne (by omega) ?_) rfl (Nat.le_of_ble_eq_true rfl) (fun ret sg147 hq => ?_)
  obtain ⟨rfl, uT, uC, uQ, uF⟩ := hq
  have uT1 : sg147 9 = _ := uT
  have u8 : sg147 8 = _ := (uF 8 (by omega) (by omega)).trans tT1
  have u0 : isE sg147 o (zla Z) := (uF 0 (by omega) (by omega)).trans t0
  have u01 : sg147 0 = _ := u0
  have u1 := (uF 1 (by omega) (by omega)).trans t1
  have u3 := (uF 3 (by omega) (by omega)).trans t3
  refine g_aload_n C rfl rfl d_E_route_150 ?_
  refine gf_E_47 C d_E_route_151 (by first | assumption | omega) (by repeat' first | assumption | exact up_eq _ _ _ | refine up_ne (by omega) ?_) (by rfl) ?_
  refine gf_E_155 C d_E_route_154 (by first | assumption | omega) (by repeat' first | assumption | exact up_eq _ _ _ | refine up_ne (by omega) ?_) (by rfl) ?_
  refine g_iload_n C rfl rfl d_E_route_157 ?_
  refine g_i2l C d_E_route_158 ?_
  refine g_lcmp_ge (tgt := 171) C d_E_route_159 d_E_route_160 (by decide) (fun j159 => ?_) (fun j159 => ?_)
  rotate_left
  · exact absurd (Int64.not_lt.mp h7) j159
  refine g_aload_n C rfl rfl d_E_route_171 ?_
  refine g_aload_n C rfl rfl d_E_route_172 ?_
  refine gf_E_43 C d_E_route_173 (by first | assumption | omega) (by repeat' first | assumption | exact up_eq _ _ _ | refine up_ne (by omega) ?_) (by rfl) ?_
  refine g_iload_n C rfl rfl d_E_route_176 ?_
  refine g_iconst (v := 0) C rfl d_E_route_177 ?_
  refine g_iconst (v := 1) C rfl d_E_route_178 ?_
  rw [show (0 : Int32) = nI 0 from rfl, show (1 : Int32) = nI 1 from rfl]
  refine g_callV C (c_E_keep (la := zla Z) (bal := zbal Z) (hol := zhol Z) (k := 8) (kr := 4) (kp := 10 + 9 * 0) (kc := cN (!c0) 0) (f := zfee Z 0) (kn := cN c0 0) (kt := cN (!c0) 0) (gr := gr) (ne := ne) (paid := x0.1.2.2.2.1) (got := x0.1.2.2.2.2) a 0 1 hn (by decide) (by omega) (by omega) u0 u1 u3 u8 (isP_mv e1 (fun j q1 q2 => (uF j (by omega) (by omega)).trans (tF j (by omega) (by omega)))) ha4 (by decide) (by decide)) Y_E_keep m_586 s_E_keep m_584 rfl rfl ⟨by decide, by decide⟩ ⟨by decide, by decide⟩ (fun h => nomatch h) d_E_route_179 (by first | assumption | omega) (by repeat' first | assumption | exact up_eq _ _ _ | refine up_ne (by omega) ?_) rfl (Nat.le_of_ble_eq_true rfl) (fun ret sg179 hq => ?_)
  obtain ⟨rfl, kP, k1, k3, kF⟩ := hq
  have k0 : isE sg179 o (zla Z) := (kF 0 (by omega) (by omega) (by omega)).trans u0
  have k01 : sg179 0 = _ := k0
  have k9 : sg179 9 = _ := (kF 9 (by omega) (by omega) (by omega)).trans uT1
  refine g_aload_n C rfl rfl d_E_route_182 ?_
  refine g_aload_n C rfl rfl d_E_route_183 ?_
  refine gf_E_47 C d_E_route_184 (by first | assumption | omega) (by repeat' first | assumption | exact up_eq _ _ _ | refine up_ne (by omega) ?_) (by rfl) ?_
  refine g_iload_n C rfl rfl d_E_route_187 ?_
  refine g_iconst (v := 1) C rfl d_E_route_188 ?_
  refine g_iconst (v := 2) C rfl d_E_route_189 ?_
  rw [show (1 : Int32) = nI 1 from rfl, show (2 : Int32) = nI 2 from rfl]
  refine g_callV C (c_E_keep (la := zla Z) (bal := pyB (zbal Z) a 0 1 x0.1.2.2.2.1 x0.1.2.2.2.2) (hol := pyH (zhol Z) 0 1 x0.1.2.2.2.1 x0.1.2.2.2.2) (k := 9) (kr := 4) (kp := 10 + 9 * 1) (kc := cN (!c1) 1) (f := zfee Z 1) (kn := cN c1 1) (kt := cN (!c1) 1) (gr := grx) (ne := nex) (paid := x1.1.2.2.2.1) (got := x1.1.2.2.2.2) a 1 2 hn (by decide) (by omega) (by omega) k0 k1 k3 k9 (isP_mv f1 (fun j q1 q2 => (kF j (by omega) (by omega) (by omega)).trans ((uF j (by omega) (by omega)).trans (tF j (by omega) (by omega))))) ha4 (by decide) (by decide)) Y_E_keep m_586 s_E_keep m_584 rfl rfl ⟨by decide, by decide⟩ ⟨by decide, by decide⟩ (fun h => nomatch h) d_E_route_190 (by first | assumption | omega) (by repeat' first | assumption | exact up_eq _ _ _ | refine up_ne (by omega) ?_) rfl (Nat.le_of_ble_eq_true rfl) (fun ret sg190 hq => ?_)
  obtain ⟨rfl, mP, m1, m3, mF⟩ := hq
  have m01 : sg190 0 = _ := (mF 0 (by omega) (by omega) (by omega)).trans k0
  have m8 : sg190 8 = _ := (mF 8 (by omega) (by omega) (by omega)).trans ((kF 8 (by omega) (by omega) (by omega)).trans u8)
  have m9 : sg190 9 = _ := (mF 9 (by omega) (by omega) (by omega)).trans k9
  refine g_aload_n C rfl rfl d_E_route_193 ?_
  refine g_aload_n C rfl rfl d_E_route_194 ?_
  refine gf_E_43 C d_E_route_195 (by first | assumption | omega) (by repeat' first | assumption | exact up_eq _ _ _ | refine up_ne (by omega) ?_) (by rfl) ?_
  refine gf_E_148 C d_E_route_198 (by first | assumption | omega) (by repeat' first | assumption | exact up_eq _ _ _ | refine up_ne (by omega) ?_) (by rfl) ?_
  refine pf_E_50 C d_E_route_201 rfl rfl (by first | assumption | omega) (by repeat' first | assumption | exact up_eq _ _ _ | refine up_ne (by omega) ?_) (by exact Nat.le_of_ble_eq_true rfl) ?_
  refine g_aload_n C rfl rfl d_E_route_204 ?_
  refine gf_E_47 C d_E_route_205 (by first | assumption | omega) (by repeat' first | assumption | exact up_eq _ _ _ | refine up_ne (by omega) ?_) (by rfl) ?_
  refine gf_E_155 C d_E_route_208 (by first | assumption | omega) (by repeat' first | assumption | exact up_eq _ _ _ | refine up_ne (by omega) ?_) (by rfl) ?_
  refine g_lret C E hr d_E_route_211 ?_
  exact ⟨rfl, hcar _ (by unfold isE; exact (by repeat' first | assumption | exact up_eq _ _ _ | refine up_ne (by omega) ?_)) (up_ne (by omega) m1) (up_ne (by omega) m3) ⟨_, _, _, _, _, _, _, _, up_ne (by omega) m8⟩ ⟨_, _, _, _, _, _, _, _, up_ne (by omega) m9⟩ (isP_mv kP (fun j q1 q2 => up_ne (by omega) (mF j (by omega) (by omega) (by omega)))) (isC_m tC (fun j q1 q2 => up_ne (by omega) ((mF j (by omega) (by omega) (by omega)).trans ((kF j (by omega) (by omega) (by omega)).trans (uF j (by omega) (by omega)))))) (isP_mv mP (fun j q1 q2 => up_ne (by omega) rfl)) (isC_m uC (fun j q1 q2 => up_ne (by omega) ((mF j (by omega) (by omega) (by omega)).trans (kF j (by omega) (by omega) (by omega))))) (fun j q0 q1 q2 q3 q4 q5 q6 q7 q8 => up_ne q0 ((mF j q1 q2 (by omega)).trans ((kF j q1 q2 (by omega)).trans ((uF j q4 q8).trans (tF j q3 q7)))))⟩

