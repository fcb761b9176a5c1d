-- SWAP IN THE CLASS
theorem ng_l {r : Nat} (h : r ≤ 100000000) : (-nI r).toInt64 = -lN r := by
  rw [← Int64.toInt_inj, Int32.toInt_toInt64, ng_i, iI_toInt (by omega) (by omega)]
  exact (Int64.toInt_neg_ofNat_of_le (by omega)).symm
theorem EP_trial {s s' : Nat → va_E} {o p : Nat} {Z : ZS} {ins : Nat → Nat → Int64} {c : Bool} {gr ne : Nat → Int32} {g ou : Nat → Int64} {pr2 : Int64} {tz2 : Int} {lq2 : Int32} {g2 oo2 : Nat → Int64} (e1 : isP s o (10 + 9 * p) 4 (zfee Z p) (cN c p) (cN (!c) p) gr ne) (e2 : isC s o (cN c p) (lN (zpr Z p)) (ztk Z p) (nI (zdep Z p (ztk Z p))) g ou) (e3 : isC s' o (cN (!c) p) pr2 tz2 lq2 g2 oo2) (e4 : EPin Z p ins gr ne g ou) (h : ∀ j, 10 + 9 * p ≤ j → j ≤ 18 + 9 * p → (j < cN (!c) p ∨ cN (!c) p + 3 ≤ j) → s' j = s j) : EP s' o Z ins p := by
  have hb := cN_b c p
  exact ⟨c, gr, ne, g, ou, pr2, tz2, lq2, g2, oo2, isP_mv e1 (fun j q1 q2 => h j (by omega) (by omega) (by omega)), isC_m e2 (fun j q1 q2 => h j (by omega) (by omega) (by omega)), e3, e4⟩
/-- behind a trade that was tried: the class still holds its state -/
theorem EW_tried {sg s : Nat → va_E} {o p k : Nat} {Z : ZS} {c : Bool} {gr ne : Nat → Int32} {g ou : Nat → Int64} {pr2 : Int64} {tz2 : Int} {lq2 : Int32} {g2 oo2 : Nat → Int64} {ins owd : Nat → Nat → Int64} (h0 : isE sg o (zla Z)) (h1 : sg 1 = eJ 12 (zbal Z)) (h2 : sg 2 = eJ 3 (zgiv Z)) (h3 : sg 3 = eJ 3 (zhol Z)) (hR : isR sg o 4) (hQ : EQ sg o) (t8 : ETr s o 8) (t9 : ETr s o 9) (hES : ES sg o Z ins owd) (hE : ∀ r, r < 2 → EP sg o Z ins r) (hp : p < 2) (hk : k = 8 ∨ k = 9) (e1 : isP sg o (10 + 9 * p) 4 (zfee Z p) (cN c p) (cN (!c) p) gr ne) (e2 : isC sg o (cN c p) (lN (zpr Z p)) (ztk Z p) (nI (zdep Z p (ztk Z p))) g ou) (e3 : isC s o (cN (!c) p) pr2 tz2 lq2 g2 oo2) (e4 : EPin Z p ins gr ne g ou) (hF : ∀ j, j ≠ k → (j < cN (!c) p ∨ cN (!c) p + 3 ≤ j) → s j = sg j) : EW s o Z := by
  have hb := cN_b c p
  have hG : ∀ j, (j < 8 ∨ 28 ≤ j) → s j = sg j := fun j q => hF j (by omega) (by omega)
  have hall : ∀ r, r < 2 → EP s o Z ins r := fun r hr => by
    by_cases e : r = p
    · subst e
      exact EP_trial e1 e2 e3 e4 (fun j q1 q2 q3 => hF j (by omega) q3)
    · exact EP_mv (hE r hr) (fun j q1 q2 => hF j (by omega) (by omega))
  obtain ⟨f6, r1, r2⟩ := hQ
  exact ⟨(hG _ (by omega)).trans h0, (hG _ (by omega)).trans h1, (hG _ (by omega)).trans h2, (hG _ (by omega)).trans h3, isR_mv hR (fun j q1 q2 => hG j (by omega)), ⟨f6, (hG _ (by omega)).trans r1, r2⟩, t8, t9, ins, owd, ⟨isPs_mv hES.1 (hG _ (by omega)) (fun j q1 q2 => hG j (by omega)), hES.2⟩, hall 0 (by decide), hall 1 (by decide)⟩
theorem t_E_swap1 {l : Launch} {o n : Nat} {sg : Nat → va_E} {Z : ZS} (hfl : l.flags = flags0) (a b : Int32) (dn : Bool) (x t : Int32) (h : ¬ (okI a 4 ∧ okI b 2 ∧ okT t)) : GT l y_E_swap b_E_swap 8 (some .long) 7 172 o n sg [.ref (ad o 0), .int a, .int b, .int (bz dn), .int x, .int t] "java/lang/IndexOutOfBoundsException" (fun s => s = sg) := by
  refine GT_of (by decide) (Nat.le_of_ble_eq_true rfl) ?_
  intro K C hl ha hh ET
  have hfl2 : (xl K).flags = flags0 := by rw [hl]; exact hfl
  have htr := tr_off (by rw [hl]; exact hfl) ha
  show G K o n sg 0 0 0 [(0, .ref (ad o 0)), (1, .int a), (2, .int b), (3, .int (bz dn)), (4, .int x), (5, .int t)] []
  by_cases h1 : okI a 4
  · by_cases h2 : okI b 2
    · refine g_iload_n C rfl rfl d_E_swap_0 ?_
      refine g_iconst (v := 4) C rfl d_E_swap_1 ?_
      refine g_callS C (c_E_requireIndex a 4 h1) Y_E_requireIndex m_242 m_241 ⟨by decide, by decide⟩ ⟨by decide, by decide⟩ (fun h => nomatch h) d_E_swap_2 rfl (Nat.le_of_ble_eq_true rfl) (fun ret sg2 hq => ?_)
      obtain ⟨rfl, rfl⟩ := hq
      refine g_iload_n C rfl rfl d_E_swap_5 ?_
      refine g_iconst (v := 2) C rfl d_E_swap_6 ?_
      refine g_callS C (c_E_requireIndex b 2 h2) Y_E_requireIndex m_242 m_241 ⟨by decide, by decide⟩ ⟨by decide, by decide⟩ (fun h => nomatch h) d_E_swap_7 rfl (Nat.le_of_ble_eq_true rfl) (fun ret sg7 hq => ?_)
      obtain ⟨rfl, rfl⟩ := hq
      refine g_iload C rfl d_E_swap_10 ?_
      exact g_callST C hh ET (t_E_requireTick hfl2 t (nokT (fun q => h ⟨h1, h2, q⟩))) Y_E_requireTick m_346 m_345 ⟨by decide, by decide⟩ ⟨by decide, by decide⟩ d_E_swap_12 rfl (Nat.le_of_ble_eq_true rfl)
    · refine g_iload_n C rfl rfl d_E_swap_0 ?_
      refine g_iconst (v := 4) C rfl d_E_swap_1 ?_
      refine g_callS C (c_E_requireIndex a 4 h1) Y_E_requireIndex m_242 m_241 ⟨by decide, by decide⟩ ⟨by decide, by decide⟩ (fun h => nomatch h) d_E_swap_2 rfl (Nat.le_of_ble_eq_true rfl) (fun ret sg2 hq => ?_)
      obtain ⟨rfl, rfl⟩ := hq
      refine g_iload_n C rfl rfl d_E_swap_5 ?_
      refine g_iconst (v := 2) C rfl d_E_swap_6 ?_
      exact g_callST C hh ET (t_E_requireIndex hfl2 b 2 (nokI h2)) Y_E_requireIndex m_242 m_241 ⟨by decide, by decide⟩ ⟨by decide, by decide⟩ d_E_swap_7 rfl (Nat.le_of_ble_eq_true rfl)
  · refine g_iload_n C rfl rfl d_E_swap_0 ?_
    refine g_iconst (v := 4) C rfl d_E_swap_1 ?_
    exact g_callST C hh ET (t_E_requireIndex hfl2 a 4 (nokI h1)) Y_E_requireIndex m_242 m_241 ⟨by decide, by decide⟩ ⟨by decide, by decide⟩ d_E_swap_2 rfl (Nat.le_of_ble_eq_true rfl)
theorem t_E_swap2 {l : Launch} {o n : Nat} {sg : Nat → va_E} {Z : ZS} (hfl : l.flags = flags0) (a p : Nat) (dn : Bool) (x : Int32) (z : Int) (hn : 64 ≤ n) (hW : EW sg o Z) (ha4 : a < 4) (hp : p < 2) (hz1 : -40 ≤ z) (hz2 : z ≤ 40) (hT : TkOk (zpr Z p) (ztk Z p)) (hx : x = 0 ∨ x < -100000000 ∨ 100000000 < x ∨ ¬ (if dn = true then rt (tx z) < zpr Z p else zpr Z p < rt (tx z))) : GT l y_E_swap b_E_swap 8 (some .long) 7 172 o n sg [.ref (ad o 0), .int (nI a), .int (nI p), .int (bz dn), .int x, .int (iI z)] "java/lang/IllegalArgumentException" (fun s => s = sg) := by
  obtain ⟨h0, h1, h2, h3, hER⟩ := id hW
  have he1 : sg 0 = _ := h0
  obtain ⟨hR, ⟨f6, r1, r2⟩, ⟨w1, w2, w3, w4, w5, w6, w7, w8, hw8⟩, ⟨v1, v2, v3, v4, v5, v6, v7, v8, hw9⟩, ins, owd, hES, hE0, hE1⟩ := hER
  obtain ⟨hS, ho⟩ := id hES
  have hEr := ER_all hE0 hE1
  have hR1 := hR.1
  obtain ⟨cc, gr, ne, g, ou, pr2, tz2, lq2, g2, oo2, e1, e2, e3, e4⟩ := id (hEr p hp)
  have hb := cN_b cc p
  have e11 := e1.1
  have hcl : (nI p).toNatClampNeg = p := nI_clamp (by omega)
  have hin : vp_in (nI p) 2 := vp_in_nI hp (by decide)
  have hah : (if dn = true then lN (rt (tx z)) < lN (zpr Z p) else lN (zpr Z p) < lN (rt (tx z))) ↔ (if dn = true then rt (tx z) < zpr Z p else zpr Z p < rt (tx z)) := by
    have b1 : zpr Z p < 2 ^ 63 := by have := hT.2.2.2.1; omega
    have b2 : rt (tx z) < 2 ^ 63 := Nat.lt_trans (rt_up (tx_le hz2)) (by decide)
    cases dn
    · exact pk_lLT b1 b2
    · exact pk_lLT b2 b1
  refine GT_of (by decide) (Nat.le_of_ble_eq_true rfl) ?_
  intro K C hl ha hh ET
  have hfl2 : (xl K).flags = flags0 := by rw [hl]; exact hfl
  have htr := tr_off (by rw [hl]; exact hfl) ha
  show G K o n sg 0 0 0 [(0, .ref (ad o 0)), (1, .int (nI a)), (2, .int (nI p)), (3, .int (bz dn)), (4, .int x), (5, .int (iI z))] []
  refine g_iload_n C rfl rfl d_E_swap_0 ?_
  refine g_iconst (v := 4) C rfl d_E_swap_1 ?_
  refine g_callS C (c_E_requireIndex (nI a) 4 (ok4 ha4)) Y_E_requireIndex m_242 m_241 ⟨by decide, by decide⟩ ⟨by decide, by decide⟩ (fun h => nomatch h) d_E_swap_2 rfl (Nat.le_of_ble_eq_true rfl) (fun ret sg2 hq => ?_)
  obtain ⟨rfl, rfl⟩ := hq
  refine g_iload_n C rfl rfl d_E_swap_5 ?_
  refine g_iconst (v := 2) C rfl d_E_swap_6 ?_
  refine g_callS C (c_E_requireIndex (nI p) 2 (ok2 hp)) Y_E_requireIndex m_242 m_241 ⟨by decide, by decide⟩ ⟨by decide, by decide⟩ (fun h => nomatch h) d_E_swap_7 rfl (Nat.le_of_ble_eq_true rfl) (fun ret sg7 hq => ?_)
  obtain ⟨rfl, rfl⟩ := hq
  refine g_iload C rfl d_E_swap_10 ?_
  refine g_callS C (c_E_requireTick (iI z) (okT_i hz1 hz2)) Y_E_requireTick m_346 m_345 ⟨by decide, by decide⟩ ⟨by decide, by decide⟩ (fun h => nomatch h) d_E_swap_12 rfl (Nat.le_of_ble_eq_true rfl) (fun ret sg12 hq => ?_)
  obtain ⟨rfl, rfl⟩ := hq
  refine g_iload C rfl d_E_swap_15 ?_
  refine g_if_eq (tgt := 56) C d_E_swap_17 (by decide) (fun j17 => ?_) (fun j17 => ?_)
  · refine g_throw C ha hh ET htr gtw_A m_309 m_310 m_13 (by decide) d_E_swap_56 d_E_swap_59 d_E_swap_60 d_E_swap_63 (by decide) (Nat.le_of_ble_eq_true rfl) (by decide) (by decide) rfl
  · refine g_iload C rfl d_E_swap_20 ?_
    refine g_ldc C m_495 d_E_swap_22 ?_
    refine g_icmp_lt (tgt := 56) C d_E_swap_24 (by decide) (fun j24 => ?_) (fun j24 => ?_)
    · refine g_throw C ha hh ET htr gtw_A m_309 m_310 m_13 (by decide) d_E_swap_56 d_E_swap_59 d_E_swap_60 d_E_swap_63 (by decide) (Nat.le_of_ble_eq_true rfl) (by decide) (by decide) rfl
    · refine g_iload C rfl d_E_swap_27 ?_
      refine g_ldc C m_496 d_E_swap_29 ?_
      refine g_icmp_gt (tgt := 56) C d_E_swap_31 (by decide) (fun j31 => ?_) (fun j31 => ?_)
      · refine g_throw C ha hh ET htr gtw_A m_309 m_310 m_13 (by decide) d_E_swap_56 d_E_swap_59 d_E_swap_60 d_E_swap_63 (by decide) (Nat.le_of_ble_eq_true rfl) (by decide) (by decide) rfl
      · refine g_aload_n C rfl rfl d_E_swap_34 ?_
        refine gf_E_28 C d_E_swap_35 (by first | assumption | omega) (by repeat' first | assumption | exact up_eq _ _ _ | refine up_ne (by omega) ?_) (by rfl) ?_
        refine g_iload_n C rfl rfl d_E_swap_38 ?_
        refine g_aldq C d_E_swap_39 3 (fun _ => rfl) (by first | assumption | omega) (by repeat' first | assumption | exact up_eq _ _ _ | refine up_ne (by omega) ?_) hin (by rw [hcl]; exact r2 p hp) ?_
        refine g_aload_n C rfl rfl d_E_swap_40 ?_
        refine gf_E_22 C d_E_swap_41 (by first | assumption | omega) (by repeat' first | assumption | exact up_eq _ _ _ | refine up_ne (by omega) ?_) (by rfl) ?_
        refine g_iload C rfl d_E_swap_44 ?_
        refine g_callV C (c_R_at z (by omega) hR hz1 hz2) Y_R_at m_358 m_359 m_497 rfl rfl ⟨by decide, by decide⟩ ⟨by decide, by decide⟩ (fun h => nomatch h) d_E_swap_46 (by first | assumption | omega) (by repeat' first | assumption | exact up_eq _ _ _ | refine up_ne (by omega) ?_) rfl (Nat.le_of_ble_eq_true rfl) (fun ret sg46 hq => ?_)
        obtain ⟨rfl, rfl⟩ := hq
        rw [show (z + 40).toNat = tx z from rfl]
        refine g_iload_n C rfl rfl d_E_swap_49 ?_
        refine g_callV C (c_P_isAhead (lN (rt (tx z))) dn (by omega) (by omega) e1 e2) Y_P_isAhead m_499 m_500 m_498 rfl rfl ⟨by decide, by decide⟩ ⟨by decide, by decide⟩ (fun h => nomatch h) d_E_swap_50 (by first | assumption | omega) (by repeat' first | assumption | exact up_eq _ _ _ | refine up_ne (by omega) ?_) rfl (Nat.le_of_ble_eq_true rfl) (fun ret sg50 hq => ?_)
        obtain ⟨rfl, rfl⟩ := hq
        refine g_if_ne (tgt := 64) C d_E_swap_53 (by decide) (fun j53 => ?_) (fun j53 => ?_)
        · exact hx.elim (fun q => absurd q j17) (fun q => q.elim (fun q => absurd q j24) (fun q => q.elim (fun q => absurd q j31) (fun q => absurd (hah.mp (okd j53)) q)))
        refine g_throw C ha hh ET htr gtw_A m_309 m_310 m_13 (by decide) d_E_swap_56 d_E_swap_59 d_E_swap_60 d_E_swap_63 (by decide) (Nat.le_of_ble_eq_true rfl) (by decide) (by decide) rfl
set_option maxHeartbeats 8000000 in
theorem t_E_swap3 {l : Launch} {o n : Nat} {sg : Nat → va_E} {Z : ZS} (hfl : l.flags = flags0) (a p : Nat) (dn ex : Bool) (r : Nat) (z : Int) (hn : 64 ≤ n) (hW : EW sg o Z) (ha4 : a < 4) (hp : p < 2) (hz1 : -40 ≤ z) (hz2 : z ≤ 40) (hT : TkOk (zpr Z p) (ztk Z p)) (hA : ∀ i, i < 12 → zam Z i ≤ 50000000) (hB : pBd (zpl Z) (zlo Z) (zhi Z)) (hO : ∀ i, i < 12 → 0 < zam Z i → zlo Z i < zhi Z i) (hf : zfee Z p ≤ 100) (hr0 : 0 < r) (hr1 : r ≤ 100000000) (hMS : if dn = true then rt (tx z) < zpr Z p else zpr Z p < rt (tx z)) (hbal : zbal Z (a * 3 + (p + sdN dn)) < (zWork Z p dn ex r (rt (tx z))).1.2.2.2.1) : GT l y_E_swap b_E_swap 8 (some .long) 7 172 o n sg [.ref (ad o 0), .int (nI a), .int (nI p), .int (bz dn), .int (zAmt ex r), .int (iI z)] "java/lang/IllegalStateException" (fun s => EW s o Z ∧ efr sg s) := by
  obtain ⟨h0, h1, h2, h3, hER⟩ := id hW
  have he1 : sg 0 = _ := h0
  obtain ⟨hR, ⟨f6, r1, r2⟩, ⟨w1, w2, w3, w4, w5, w6, w7, w8, hw8⟩, ⟨v1, v2, v3, v4, v5, v6, v7, v8, hw9⟩, ins, owd, hES, hE0, hE1⟩ := hER
  obtain ⟨hS, ho⟩ := id hES
  have hEr := ER_all hE0 hE1
  have hR1 := hR.1
  obtain ⟨cc, gr, ne, g, ou, pr2, tz2, lq2, g2, oo2, e1, e2, e3, e4⟩ := id (hEr p hp)
  have hb := cN_b cc p
  have e11 := e1.1
  have hcl : (nI p).toNatClampNeg = p := nI_clamp (by omega)
  have hin : vp_in (nI p) 2 := vp_in_nI hp (by decide)
  have hah : (if dn = true then lN (rt (tx z)) < lN (zpr Z p) else lN (zpr Z p) < lN (rt (tx z))) ↔ (if dn = true then rt (tx z) < zpr Z p else zpr Z p < rt (tx z)) := by
    have b1 : zpr Z p < 2 ^ 63 := by have := hT.2.2.2.1; omega
    have b2 : rt (tx z) < 2 ^ 63 := Nat.lt_trans (rt_up (tx_le hz2)) (by decide)
    cases dn
    · exact pk_lLT b1 b2
    · exact pk_lLT b2 b1
  have hhah := hah.mpr hMS
  have hQI : QI dn (rt (tx z)) (zpr Z p, ztk Z p, r, 0, 0) := ⟨hT, hr1, by cases dn; exact Nat.le_of_lt hMS; exact Nat.le_of_lt hMS⟩
  obtain ⟨xf, hxf⟩ : ∃ xf, xf = cRun dn ex (zfee Z p) (rt (tx z)) (zset Z p) gr (zdep Z p) 100 ((zpr Z p, ztk Z p, r, 0, 0), g, ou) := ⟨_, rfl⟩
  obtain ⟨hx1, hx2⟩ := EPin_carry e4 hA hB hO (rt_lo hz2) (rt_hi hz2) hQI hxf
  have hDO := DepOk_of hA hO e4.2.1
  have hamt : (zAmt ex r).toInt64 = if ex = true then lN r else -lN r := by
    cases ex
    · exact ng_l hr1
    · exact nI_l (by omega)
  have hne : ¬ zAmt ex r = 0 ∧ ¬ zAmt ex r < -100000000 ∧ ¬ 100000000 < zAmt ex r := by
    cases ex
    · have q := ng_facts hr0 hr1; exact ⟨q.1, q.2.1, q.2.2.1⟩
    · have q := ps_facts hr0 hr1; exact ⟨q.1, q.2.1, q.2.2.1⟩
  rw [← hx1] at hbal
  refine GT_of (by decide) (Nat.le_of_ble_eq_true rfl) ?_
  intro K C hl ha hh ET
  have hfl2 : (xl K).flags = flags0 := by rw [hl]; exact hfl
  have htr := tr_off (by rw [hl]; exact hfl) ha
  show G K o n sg 0 0 0 [(0, .ref (ad o 0)), (1, .int (nI a)), (2, .int (nI p)), (3, .int (bz dn)), (4, .int (zAmt ex r)), (5, .int (iI z))] []
  cases dn
  · have hs1 : p + sdN false < 3 := by have := sdN_lt false; omega
    have hs2 : p + 1 - sdN false < 3 := by omega
    refine g_iload_n C rfl rfl d_E_swap_0 ?_
    refine g_iconst (v := 4) C rfl d_E_swap_1 ?_
    refine g_callS C (c_E_requireIndex (nI a) 4 (ok4 ha4)) Y_E_requireIndex m_242 m_241 ⟨by decide, by decide⟩ ⟨by decide, by decide⟩ (fun h => nomatch h) d_E_swap_2 rfl (Nat.le_of_ble_eq_true rfl) (fun ret sg2 hq => ?_)
    obtain ⟨rfl, rfl⟩ := hq
    refine g_iload_n C rfl rfl d_E_swap_5 ?_
    refine g_iconst (v := 2) C rfl d_E_swap_6 ?_
    refine g_callS C (c_E_requireIndex (nI p) 2 (ok2 hp)) Y_E_requireIndex m_242 m_241 ⟨by decide, by decide⟩ ⟨by decide, by decide⟩ (fun h => nomatch h) d_E_swap_7 rfl (Nat.le_of_ble_eq_true rfl) (fun ret sg7 hq => ?_)
    obtain ⟨rfl, rfl⟩ := hq
    refine g_iload C rfl d_E_swap_10 ?_
    refine g_callS C (c_E_requireTick (iI z) (okT_i hz1 hz2)) Y_E_requireTick m_346 m_345 ⟨by decide, by decide⟩ ⟨by decide, by decide⟩ (fun h => nomatch h) d_E_swap_12 rfl (Nat.le_of_ble_eq_true rfl) (fun ret sg12 hq => ?_)
    obtain ⟨rfl, rfl⟩ := hq
    refine g_iload C rfl d_E_swap_15 ?_
    refine g_if_eq (tgt := 56) C d_E_swap_17 (by decide) (fun j17 => ?_) (fun j17 => ?_)
    · exact absurd j17 hne.1
    refine g_iload C rfl d_E_swap_20 ?_
    refine g_ldc C m_495 d_E_swap_22 ?_
    refine g_icmp_lt (tgt := 56) C d_E_swap_24 (by decide) (fun j24 => ?_) (fun j24 => ?_)
    · exact absurd j24 hne.2.1
    refine g_iload C rfl d_E_swap_27 ?_
    refine g_ldc C m_496 d_E_swap_29 ?_
    refine g_icmp_gt (tgt := 56) C d_E_swap_31 (by decide) (fun j31 => ?_) (fun j31 => ?_)
    · exact absurd j31 hne.2.2
    refine g_aload_n C rfl rfl d_E_swap_34 ?_
    refine gf_E_28 C d_E_swap_35 (by first | assumption | omega) (by repeat' first | assumption | exact up_eq _ _ _ | refine up_ne (by omega) ?_) (by rfl) ?_
    refine g_iload_n C rfl rfl d_E_swap_38 ?_
    refine g_aldq C d_E_swap_39 3 (fun _ => rfl) (by first | assumption | omega) (by repeat' first | assumption | exact up_eq _ _ _ | refine up_ne (by omega) ?_) hin (by rw [hcl]; exact r2 p hp) ?_
    refine g_aload_n C rfl rfl d_E_swap_40 ?_
    refine gf_E_22 C d_E_swap_41 (by first | assumption | omega) (by repeat' first | assumption | exact up_eq _ _ _ | refine up_ne (by omega) ?_) (by rfl) ?_
    refine g_iload C rfl d_E_swap_44 ?_
    refine g_callV C (c_R_at z (by omega) hR hz1 hz2) Y_R_at m_358 m_359 m_497 rfl rfl ⟨by decide, by decide⟩ ⟨by decide, by decide⟩ (fun h => nomatch h) d_E_swap_46 (by first | assumption | omega) (by repeat' first | assumption | exact up_eq _ _ _ | refine up_ne (by omega) ?_) rfl (Nat.le_of_ble_eq_true rfl) (fun ret sg46 hq => ?_)
    obtain ⟨rfl, rfl⟩ := hq
    rw [show (z + 40).toNat = tx z from rfl]
    refine g_iload_n C rfl rfl d_E_swap_49 ?_
    refine g_callV C (c_P_isAhead (lN (rt (tx z))) false (by omega) (by omega) e1 e2) Y_P_isAhead m_499 m_500 m_498 rfl rfl ⟨by decide, by decide⟩ ⟨by decide, by decide⟩ (fun h => nomatch h) d_E_swap_50 (by first | assumption | omega) (by repeat' first | assumption | exact up_eq _ _ _ | refine up_ne (by omega) ?_) rfl (Nat.le_of_ble_eq_true rfl) (fun ret sg50 hq => ?_)
    obtain ⟨rfl, rfl⟩ := hq
    refine g_if_ne (tgt := 64) C d_E_swap_53 (by decide) (fun j53 => ?_) (fun j53 => ?_)
    rotate_left
    · exact absurd (j53.symm.trans (bzd hhah)) (show ¬ (0 : Int32) = 1 by decide)
    refine g_aload_n C rfl rfl d_E_swap_64 ?_
    refine gf_E_43 C d_E_swap_65 (by first | assumption | omega) (by repeat' first | assumption | exact up_eq _ _ _ | refine up_ne (by omega) ?_) (by rfl) ?_
    refine g_aload_n C rfl rfl d_E_swap_68 ?_
    refine gf_E_28 C d_E_swap_69 (by first | assumption | omega) (by repeat' first | assumption | exact up_eq _ _ _ | refine up_ne (by omega) ?_) (by rfl) ?_
    refine g_iload_n C rfl rfl d_E_swap_72 ?_
    refine g_aldq C d_E_swap_73 3 (fun _ => rfl) (by first | assumption | omega) (by repeat' first | assumption | exact up_eq _ _ _ | refine up_ne (by omega) ?_) hin (by rw [hcl]; exact r2 p hp) ?_
    refine g_iload_n C rfl rfl d_E_swap_74 ?_
    refine g_iload C rfl d_E_swap_75 ?_
    refine g_i2l C d_E_swap_77 ?_
    rw [hamt]
    refine g_aload_n C rfl rfl d_E_swap_78 ?_
    refine gf_E_22 C d_E_swap_79 (by first | assumption | omega) (by repeat' first | assumption | exact up_eq _ _ _ | refine up_ne (by omega) ?_) (by rfl) ?_
    refine g_iload C rfl d_E_swap_82 ?_
    refine g_callV C (c_R_at z (by omega) hR hz1 hz2) Y_R_at m_358 m_359 m_497 rfl rfl ⟨by decide, by decide⟩ ⟨by decide, by decide⟩ (fun h => nomatch h) d_E_swap_84 (by first | assumption | omega) (by repeat' first | assumption | exact up_eq _ _ _ | refine up_ne (by omega) ?_) rfl (Nat.le_of_ble_eq_true rfl) (fun ret sg84 hq => ?_)
    obtain ⟨rfl, rfl⟩ := hq
    rw [show (z + 40).toNat = tx z from rfl]
    refine g_callV C (c_T_run (k := 8) (kr := 4) (kp := 10 + 9 * p) (kc := cN (!cc) p) (kn := cN cc p) (st := zset Z p) (dep := zdep Z p) (dn := false) (ex := ex) (by omega) (by omega) (by omega) (by omega) (by omega) (by omega) (by omega) hw8 e1 e2 e3 hR hDO hf (rt_lo hz2) (rt_hi hz2) hr0 hQI rfl hxf) Y_T_run m_503 m_504 m_502 rfl rfl ⟨by decide, by decide⟩ ⟨by decide, by decide⟩ (fun h => nomatch h) d_E_swap_87 (by first | assumption | omega) (by repeat' first | assumption | exact up_eq _ _ _ | refine up_ne (by omega) ?_) rfl (Nat.le_of_ble_eq_true rfl) (fun ret sg87 hq => ?_)
    obtain ⟨rfl, tT, tC, tQ, tF⟩ := hq
    have tT1 : sg87 8 = _ := tT
    have t0 : isE sg87 o (zla Z) := (tF 0 (by omega) (by omega)).trans h0
    have t01 : sg87 0 = _ := t0
    have t1 := (tF 1 (by omega) (by omega)).trans h1
    have t3 := (tF 3 (by omega) (by omega)).trans h3
    refine g_iload_n C rfl rfl d_E_swap_90 ?_
    refine g_iload_n C rfl rfl d_E_swap_91 ?_
    refine g_if_eq (tgt := 99) C d_E_swap_92 (by decide) (fun j92 => ?_) (fun j92 => ?_)
    rotate_left
    · exact absurd (show bz false = 0 from rfl) j92
    refine g_iconst (v := 1) C rfl d_E_swap_99 ?_
    refine g_iadd C d_E_swap_100 ?_
    rw [show nI p + 1 = nI (p + sdN false) from nI_1 p]
    refine g_istore (lv' := [(6, .int (nI (p + sdN false))), (0, .ref (ad o 0)), (1, .int (nI a)), (2, .int (nI p)), (3, .int (bz false)), (4, .int (zAmt ex r)), (5, .int (iI z))]) C d_E_swap_101 (by decide) rfl ?_
    refine g_iload_n C rfl rfl d_E_swap_103 ?_
    refine g_iload_n C rfl rfl d_E_swap_104 ?_
    refine g_if_eq (tgt := 112) C d_E_swap_105 (by decide) (fun j105 => ?_) (fun j105 => ?_)
    rotate_left
    · exact absurd (show bz false = 0 from rfl) j105
    refine g_iconst (v := 0) C rfl d_E_swap_112 ?_
    refine g_iadd C d_E_swap_113 ?_
    rw [show nI p + 0 = nI (p + 1 - sdN false) from Int32.add_zero _]
    refine g_istore (lv' := [(7, .int (nI (p + 1 - sdN false))), (6, .int (nI (p + sdN false))), (0, .ref (ad o 0)), (1, .int (nI a)), (2, .int (nI p)), (3, .int (bz false)), (4, .int (zAmt ex r)), (5, .int (iI z))]) C d_E_swap_114 (by decide) rfl ?_
    refine g_aload_n C rfl rfl d_E_swap_116 ?_
    refine g_iload_n C rfl rfl d_E_swap_117 ?_
    refine g_iload C rfl d_E_swap_118 ?_
    refine g_aload_n C rfl rfl d_E_swap_120 ?_
    refine gf_E_43 C d_E_swap_121 (by first | assumption | omega) (by repeat' first | assumption | exact up_eq _ _ _ | refine up_ne (by omega) ?_) (by rfl) ?_
    refine gf_E_148 C d_E_swap_124 (by first | assumption | omega) (by repeat' first | assumption | exact up_eq _ _ _ | refine up_ne (by omega) ?_) (by rfl) ?_
    refine g_callV C (c_E_lacks (la := zla Z) (bal := zbal Z) a (p + sdN false) xf.1.2.2.2.1 hn t0 t1 ha4 (show p + sdN false < 3 from hs1)) Y_E_lacks m_380 s_E_lacks m_378 rfl rfl ⟨by decide, by decide⟩ ⟨by decide, by decide⟩ (fun h => nomatch h) d_E_swap_127 (by first | assumption | omega) (by repeat' first | assumption | exact up_eq _ _ _ | refine up_ne (by omega) ?_) rfl (Nat.le_of_ble_eq_true rfl) (fun ret sg127 hq => ?_)
    obtain ⟨rfl, rfl⟩ := hq
    refine g_if_eq (tgt := 141) C d_E_swap_130 (by decide) (fun j130 => ?_) (fun j130 => ?_)
    · exact absurd (j130.symm.trans (bzd hbal)) (show ¬ (0 : Int32) = 1 by decide)
    refine g_throw C ha hh ET htr gtw_S m_382 m_383 m_15 (by decide) d_E_swap_133 d_E_swap_136 d_E_swap_137 d_E_swap_140 (by decide) (Nat.le_of_ble_eq_true rfl) (by decide) (by decide) ⟨EW_tried (k := 8) h0 h1 h2 h3 hR ⟨f6, r1, r2⟩ ⟨_, _, _, _, _, _, _, _, tT1⟩ ⟨v1, v2, v3, v4, v5, v6, v7, v8, (tF _ (by omega) (by omega)).trans hw9⟩ hES hEr hp (Or.inl rfl) e1 e2 tC e4 tF, fun j q => tF j (by omega) (by omega)⟩
  · have hs1 : p + sdN true < 3 := by have := sdN_lt true; omega
    have hs2 : p + 1 - sdN true < 3 := by omega
    refine g_iload_n C rfl rfl d_E_swap_0 ?_
    refine g_iconst (v := 4) C rfl d_E_swap_1 ?_
    refine g_callS C (c_E_requireIndex (nI a) 4 (ok4 ha4)) Y_E_requireIndex m_242 m_241 ⟨by decide, by decide⟩ ⟨by decide, by decide⟩ (fun h => nomatch h) d_E_swap_2 rfl (Nat.le_of_ble_eq_true rfl) (fun ret sg2 hq => ?_)
    obtain ⟨rfl, rfl⟩ := hq
    refine g_iload_n C rfl rfl d_E_swap_5 ?_
    refine g_iconst (v := 2) C rfl d_E_swap_6 ?_
    refine g_callS C (c_E_requireIndex (nI p) 2 (ok2 hp)) Y_E_requireIndex m_242 m_241 ⟨by decide, by decide⟩ ⟨by decide, by decide⟩ (fun h => nomatch h) d_E_swap_7 rfl (Nat.le_of_ble_eq_true rfl) (fun ret sg7 hq => ?_)
    obtain ⟨rfl, rfl⟩ := hq
    refine g_iload C rfl d_E_swap_10 ?_
    refine g_callS C (c_E_requireTick (iI z) (okT_i hz1 hz2)) Y_E_requireTick m_346 m_345 ⟨by decide, by decide⟩ ⟨by decide, by decide⟩ (fun h => nomatch h) d_E_swap_12 rfl (Nat.le_of_ble_eq_true rfl) (fun ret sg12 hq => ?_)
    obtain ⟨rfl, rfl⟩ := hq
    refine g_iload C rfl d_E_swap_15 ?_
    refine g_if_eq (tgt := 56) C d_E_swap_17 (by decide) (fun j17 => ?_) (fun j17 => ?_)
    · exact absurd j17 hne.1
    refine g_iload C rfl d_E_swap_20 ?_
    refine g_ldc C m_495 d_E_swap_22 ?_
    refine g_icmp_lt (tgt := 56) C d_E_swap_24 (by decide) (fun j24 => ?_) (fun j24 => ?_)
    · exact absurd j24 hne.2.1
    refine g_iload C rfl d_E_swap_27 ?_
    refine g_ldc C m_496 d_E_swap_29 ?_
    refine g_icmp_gt (tgt := 56) C d_E_swap_31 (by decide) (fun j31 => ?_) (fun j31 => ?_)
    · exact absurd j31 hne.2.2
    refine g_aload_n C rfl rfl d_E_swap_34 ?_
    refine gf_E_28 C d_E_swap_35 (by first | assumption | omega) (by repeat' first | assumption | exact up_eq _ _ _ | refine up_ne (by omega) ?_) (by rfl) ?_
    refine g_iload_n C rfl rfl d_E_swap_38 ?_
    refine g_aldq C d_E_swap_39 3 (fun _ => rfl) (by first | assumption | omega) (by repeat' first | assumption | exact up_eq _ _ _ | refine up_ne (by omega) ?_) hin (by rw [hcl]; exact r2 p hp) ?_
    refine g_aload_n C rfl rfl d_E_swap_40 ?_
    refine gf_E_22 C d_E_swap_41 (by first | assumption | omega) (by repeat' first | assumption | exact up_eq _ _ _ | refine up_ne (by omega) ?_) (by rfl) ?_
    refine g_iload C rfl d_E_swap_44 ?_
    refine g_callV C (c_R_at z (by omega) hR hz1 hz2) Y_R_at m_358 m_359 m_497 rfl rfl ⟨by decide, by decide⟩ ⟨by decide, by decide⟩ (fun h => nomatch h) d_E_swap_46 (by first | assumption | omega) (by repeat' first | assumption | exact up_eq _ _ _ | refine up_ne (by omega) ?_) rfl (Nat.le_of_ble_eq_true rfl) (fun ret sg46 hq => ?_)
    obtain ⟨rfl, rfl⟩ := hq
    rw [show (z + 40).toNat = tx z from rfl]
    refine g_iload_n C rfl rfl d_E_swap_49 ?_
    refine g_callV C (c_P_isAhead (lN (rt (tx z))) true (by omega) (by omega) e1 e2) Y_P_isAhead m_499 m_500 m_498 rfl rfl ⟨by decide, by decide⟩ ⟨by decide, by decide⟩ (fun h => nomatch h) d_E_swap_50 (by first | assumption | omega) (by repeat' first | assumption | exact up_eq _ _ _ | refine up_ne (by omega) ?_) rfl (Nat.le_of_ble_eq_true rfl) (fun ret sg50 hq => ?_)
    obtain ⟨rfl, rfl⟩ := hq
    refine g_if_ne (tgt := 64) C d_E_swap_53 (by decide) (fun j53 => ?_) (fun j53 => ?_)
    rotate_left
    · exact absurd (j53.symm.trans (bzd hhah)) (show ¬ (0 : Int32) = 1 by decide)
    refine g_aload_n C rfl rfl d_E_swap_64 ?_
    refine gf_E_43 C d_E_swap_65 (by first | assumption | omega) (by repeat' first | assumption | exact up_eq _ _ _ | refine up_ne (by omega) ?_) (by rfl) ?_
    refine g_aload_n C rfl rfl d_E_swap_68 ?_
    refine gf_E_28 C d_E_swap_69 (by first | assumption | omega) (by repeat' first | assumption | exact up_eq _ _ _ | refine up_ne (by omega) ?_) (by rfl) ?_
    refine g_iload_n C rfl rfl d_E_swap_72 ?_
    refine g_aldq C d_E_swap_73 3 (fun _ => rfl) (by first | assumption | omega) (by repeat' first | assumption | exact up_eq _ _ _ | refine up_ne (by omega) ?_) hin (by rw [hcl]; exact r2 p hp) ?_
    refine g_iload_n C rfl rfl d_E_swap_74 ?_
    refine g_iload C rfl d_E_swap_75 ?_
    refine g_i2l C d_E_swap_77 ?_
    rw [hamt]
    refine g_aload_n C rfl rfl d_E_swap_78 ?_
    refine gf_E_22 C d_E_swap_79 (by first | assumption | omega) (by repeat' first | assumption | exact up_eq _ _ _ | refine up_ne (by omega) ?_) (by rfl) ?_
    refine g_iload C rfl d_E_swap_82 ?_
    refine g_callV C (c_R_at z (by omega) hR hz1 hz2) Y_R_at m_358 m_359 m_497 rfl rfl ⟨by decide, by decide⟩ ⟨by decide, by decide⟩ (fun h => nomatch h) d_E_swap_84 (by first | assumption | omega) (by repeat' first | assumption | exact up_eq _ _ _ | refine up_ne (by omega) ?_) rfl (Nat.le_of_ble_eq_true rfl) (fun ret sg84 hq => ?_)
    obtain ⟨rfl, rfl⟩ := hq
    rw [show (z + 40).toNat = tx z from rfl]
    refine g_callV C (c_T_run (k := 8) (kr := 4) (kp := 10 + 9 * p) (kc := cN (!cc) p) (kn := cN cc p) (st := zset Z p) (dep := zdep Z p) (dn := true) (ex := ex) (by omega) (by omega) (by omega) (by omega) (by omega) (by omega) (by omega) hw8 e1 e2 e3 hR hDO hf (rt_lo hz2) (rt_hi hz2) hr0 hQI rfl hxf) Y_T_run m_503 m_504 m_502 rfl rfl ⟨by decide, by decide⟩ ⟨by decide, by decide⟩ (fun h => nomatch h) d_E_swap_87 (by first | assumption | omega) (by repeat' first | assumption | exact up_eq _ _ _ | refine up_ne (by omega) ?_) rfl (Nat.le_of_ble_eq_true rfl) (fun ret sg87 hq => ?_)
    obtain ⟨rfl, tT, tC, tQ, tF⟩ := hq
    have tT1 : sg87 8 = _ := tT
    have t0 : isE sg87 o (zla Z) := (tF 0 (by omega) (by omega)).trans h0
    have t01 : sg87 0 = _ := t0
    have t1 := (tF 1 (by omega) (by omega)).trans h1
    have t3 := (tF 3 (by omega) (by omega)).trans h3
    refine g_iload_n C rfl rfl d_E_swap_90 ?_
    refine g_iload_n C rfl rfl d_E_swap_91 ?_
    refine g_if_eq (tgt := 99) C d_E_swap_92 (by decide) (fun j92 => ?_) (fun j92 => ?_)
    · exact absurd j92 (by decide)
    refine g_iconst (v := 0) C rfl d_E_swap_95 ?_
    refine g_goto (tgt := 100) C d_E_swap_96 (by decide) ?_
    refine g_iadd C d_E_swap_100 ?_
    rw [show nI p + 0 = nI (p + sdN true) from Int32.add_zero _]
    refine g_istore (lv' := [(6, .int (nI (p + sdN true))), (0, .ref (ad o 0)), (1, .int (nI a)), (2, .int (nI p)), (3, .int (bz true)), (4, .int (zAmt ex r)), (5, .int (iI z))]) C d_E_swap_101 (by decide) rfl ?_
    refine g_iload_n C rfl rfl d_E_swap_103 ?_
    refine g_iload_n C rfl rfl d_E_swap_104 ?_
    refine g_if_eq (tgt := 112) C d_E_swap_105 (by decide) (fun j105 => ?_) (fun j105 => ?_)
    · exact absurd j105 (by decide)
    refine g_iconst (v := 1) C rfl d_E_swap_108 ?_
    refine g_goto (tgt := 113) C d_E_swap_109 (by decide) ?_
    refine g_iadd C d_E_swap_113 ?_
    rw [show nI p + 1 = nI (p + 1 - sdN true) from nI_1 p]
    refine g_istore (lv' := [(7, .int (nI (p + 1 - sdN true))), (6, .int (nI (p + sdN true))), (0, .ref (ad o 0)), (1, .int (nI a)), (2, .int (nI p)), (3, .int (bz true)), (4, .int (zAmt ex r)), (5, .int (iI z))]) C d_E_swap_114 (by decide) rfl ?_
    refine g_aload_n C rfl rfl d_E_swap_116 ?_
    refine g_iload_n C rfl rfl d_E_swap_117 ?_
    refine g_iload C rfl d_E_swap_118 ?_
    refine g_aload_n C rfl rfl d_E_swap_120 ?_
    refine gf_E_43 C d_E_swap_121 (by first | assumption | omega) (by repeat' first | assumption | exact up_eq _ _ _ | refine up_ne (by omega) ?_) (by rfl) ?_
    refine gf_E_148 C d_E_swap_124 (by first | assumption | omega) (by repeat' first | assumption | exact up_eq _ _ _ | refine up_ne (by omega) ?_) (by rfl) ?_
    refine g_callV C (c_E_lacks (la := zla Z) (bal := zbal Z) a (p + sdN true) xf.1.2.2.2.1 hn t0 t1 ha4 (show p + sdN true < 3 from hs1)) Y_E_lacks m_380 s_E_lacks m_378 rfl rfl ⟨by decide, by decide⟩ ⟨by decide, by decide⟩ (fun h => nomatch h) d_E_swap_127 (by first | assumption | omega) (by repeat' first | assumption | exact up_eq _ _ _ | refine up_ne (by omega) ?_) rfl (Nat.le_of_ble_eq_true rfl) (fun ret sg127 hq => ?_)
    obtain ⟨rfl, rfl⟩ := hq
    refine g_if_eq (tgt := 141) C d_E_swap_130 (by decide) (fun j130 => ?_) (fun j130 => ?_)
    · exact absurd (j130.symm.trans (bzd hbal)) (show ¬ (0 : Int32) = 1 by decide)
    refine g_throw C ha hh ET htr gtw_S m_382 m_383 m_15 (by decide) d_E_swap_133 d_E_swap_136 d_E_swap_137 d_E_swap_140 (by decide) (Nat.le_of_ble_eq_true rfl) (by decide) (by decide) ⟨EW_tried (k := 8) h0 h1 h2 h3 hR ⟨f6, r1, r2⟩ ⟨_, _, _, _, _, _, _, _, tT1⟩ ⟨v1, v2, v3, v4, v5, v6, v7, v8, (tF _ (by omega) (by omega)).trans hw9⟩ hES hEr hp (Or.inl rfl) e1 e2 tC e4 tF, fun j q => tF j (by omega) (by omega)⟩
set_option maxHeartbeats 8000000 in
theorem c_E_swap {l : Launch} {o n : Nat} {sg : Nat → va_E} {Z : ZS} (a p : Nat) (dn ex : Bool) (r : Nat) (z : Int) (hn : 64 ≤ n) (hW : EW sg o Z) (ha4 : a < 4) (hp : p < 2) (hz1 : -40 ≤ z) (hz2 : z ≤ 40) (hT : TkOk (zpr Z p) (ztk Z p)) (hA : ∀ i, i < 12 → zam Z i ≤ 50000000) (hB : pBd (zpl Z) (zlo Z) (zhi Z)) (hO : ∀ i, i < 12 → 0 < zam Z i → zlo Z i < zhi Z i) (hf : zfee Z p ≤ 100) (hr0 : 0 < r) (hr1 : r ≤ 100000000) (hMS : if dn = true then rt (tx z) < zpr Z p else zpr Z p < rt (tx z)) (hbal : ¬ zbal Z (a * 3 + (p + sdN dn)) < (zWork Z p dn ex r (rt (tx z))).1.2.2.2.1) : GM l y_E_swap b_E_swap 8 (some .long) 7 172 0 0 o n n sg false [.ref (ad o 0), .int (nI a), .int (nI p), .int (bz dn), .int (zAmt ex r), .int (iI z)] (fun r0 s => some (.long (zWork Z p dn ex r (rt (tx z))).1.2.2.2.2) = r0 ∧ EW s o (zLa (zCarry Z a p dn (zWork Z p dn ex r (rt (tx z)))) (zWork Z p dn ex r (rt (tx z))).1.2.2.2.1) ∧ efr sg s) := by
  obtain ⟨h0, h1, h2, h3, hER⟩ := id hW
  have he1 : sg 0 = _ := h0
  obtain ⟨hR, ⟨f6, r1, r2⟩, ⟨w1, w2, w3, w4, w5, w6, w7, w8, hw8⟩, ⟨v1, v2, v3, v4, v5, v6, v7, v8, hw9⟩, ins, owd, hES, hE0, hE1⟩ := hER
  obtain ⟨hS, ho⟩ := id hES
  have hEr := ER_all hE0 hE1
  have hR1 := hR.1
  obtain ⟨cc, gr, ne, g, ou, pr2, tz2, lq2, g2, oo2, e1, e2, e3, e4⟩ := id (hEr p hp)
  have hb := cN_b cc p
  have e11 := e1.1
  have hcl : (nI p).toNatClampNeg = p := nI_clamp (by omega)
  have hin : vp_in (nI p) 2 := vp_in_nI hp (by decide)
  have hah : (if dn = true then lN (rt (tx z)) < lN (zpr Z p) else lN (zpr Z p) < lN (rt (tx z))) ↔ (if dn = true then rt (tx z) < zpr Z p else zpr Z p < rt (tx z)) := by
    have b1 : zpr Z p < 2 ^ 63 := by have := hT.2.2.2.1; omega
    have b2 : rt (tx z) < 2 ^ 63 := Nat.lt_trans (rt_up (tx_le hz2)) (by decide)
    cases dn
    · exact pk_lLT b1 b2
    · exact pk_lLT b2 b1
  have hhah := hah.mpr hMS
  have hQI : QI dn (rt (tx z)) (zpr Z p, ztk Z p, r, 0, 0) := ⟨hT, hr1, by cases dn; exact Nat.le_of_lt hMS; exact Nat.le_of_lt hMS⟩
  obtain ⟨xf, hxf⟩ : ∃ xf, xf = cRun dn ex (zfee Z p) (rt (tx z)) (zset Z p) gr (zdep Z p) 100 ((zpr Z p, ztk Z p, r, 0, 0), g, ou) := ⟨_, rfl⟩
  obtain ⟨hx1, hx2⟩ := EPin_carry e4 hA hB hO (rt_lo hz2) (rt_hi hz2) hQI hxf
  have hDO := DepOk_of hA hO e4.2.1
  have hamt : (zAmt ex r).toInt64 = if ex = true then lN r else -lN r := by
    cases ex
    · exact ng_l hr1
    · exact nI_l (by omega)
  have hne : ¬ zAmt ex r = 0 ∧ ¬ zAmt ex r < -100000000 ∧ ¬ 100000000 < zAmt ex r := by
    cases ex
    · have q := ng_facts hr0 hr1; exact ⟨q.1, q.2.1, q.2.2.1⟩
    · have q := ps_facts hr0 hr1; exact ⟨q.1, q.2.1, q.2.2.1⟩
  rw [← hx1] at hbal
  have hcar : ∀ (s : Nat → va_E), isE s o xf.1.2.2.2.1 → s 1 = eJ 12 (pyB (zbal Z) a (p + sdN dn) (p + 1 - sdN dn) xf.1.2.2.2.1 xf.1.2.2.2.2) → s 3 = eJ 3 (pyH (zhol Z) (p + sdN dn) (p + 1 - sdN dn) xf.1.2.2.2.1 xf.1.2.2.2.2) → ETr s o 8 → isP s o (10 + 9 * p) 4 (zfee Z p) (cN (!cc) p) (cN cc p) gr ne → isC s o (cN (!cc) p) (lN xf.1.1) xf.1.2.1 (nI (zdep Z p xf.1.2.1)) xf.2.1 xf.2.2 → (∀ j, j ≠ 0 → j ≠ 1 → j ≠ 3 → j ≠ 8 → j ≠ 10 + 9 * p → (j < cN (!cc) p ∨ cN (!cc) p + 3 ≤ j) → s j = sg j) → EW s o (zLa (zCarry Z a p dn (zWork Z p dn ex r (rt (tx z)))) xf.1.2.2.2.1) ∧ efr sg s := by
    intro s s0 s1 s3 s8 sP sC sF
    have h2' := hx2 a
    rw [hx1] at s1 s3 sC
    generalize (zWork Z p dn ex r (rt (tx z))) = w at *
    have hall : ∀ r, r < 2 → EP s o (zCarry Z a p dn w) ins r := fun r hr => by
      by_cases e : r = p
      · subst e
        refine ⟨!cc, gr, ne, xf.2.1, xf.2.2, lN (zpr Z r), ztk Z r, nI (zdep Z r (ztk Z r)), g, ou, ?_, ?_, ?_, h2'⟩
        · rw [Bool.not_not]; exact sP
        · show isC s o (cN (!cc) r) (lN (updN (zpr Z) r w.1.1 r)) (updZ (ztk Z) r w.1.2.1 r) (nI (zdep Z r (updZ (ztk Z) r w.1.2.1 r))) xf.2.1 xf.2.2
          rw [updN_s, updZ_s]
          exact sC
        · rw [Bool.not_not]
          exact isC_m e2 (fun j q1 q2 => sF j (by omega) (by omega) (by omega) (by omega) (by omega) (by omega))
      · obtain ⟨c', gr', ne', g', ou', pr2', tz2', lq2', g2', oo2', d1, d2, d3, d4⟩ := EP_mv (s' := s) (hEr r hr) (fun j q1 q2 => sF j (by omega) (by omega) (by omega) (by omega) (by omega) (by omega))
        refine ⟨c', gr', ne', g', ou', pr2', tz2', lq2', g2', oo2', d1, ?_, d3, EPin_carry' e d4⟩
        show isC s o (cN c' r) (lN (updN (zpr Z) p w.1.1 r)) (updZ (ztk Z) p w.1.2.1 r) (nI (zdep Z r (updZ (ztk Z) p w.1.2.1 r))) g' ou'
        rw [updN_n e, updZ_n e]
        exact d2
    have sG : ∀ j, (3 < j ∧ j < 8 ∨ 28 ≤ j ∨ j = 2 ∨ j = 9) → s j = sg j := fun j q => sF j (by omega) (by omega) (by omega) (by omega) (by omega) (by omega)
    rw [hx1] at s0
    refine ⟨⟨by rw [hx1]; exact s0, s1, (sG 2 (by omega)).trans h2, s3, isR_mv hR (fun j q1 q2 => sG j (by omega)), ⟨f6, (sG 6 (by omega)).trans r1, r2⟩, s8, ⟨v1, v2, v3, v4, v5, v6, v7, v8, (sG 9 (by omega)).trans hw9⟩, ins, owd, ⟨isPs_mv hES.1 (sG 7 (by omega)) (fun j q1 q2 => sG j (by omega)), hES.2⟩, hall 0 (by decide), hall 1 (by decide)⟩, fun j q => sG j (by omega)⟩
  rw [← hx1]
  refine GM_of (by decide) (Nat.le_of_ble_eq_true rfl) ?_
  intro K C hl hz hr hnm E
  show G K o n sg 0 0 0 [(0, .ref (ad o 0)), (1, .int (nI a)), (2, .int (nI p)), (3, .int (bz dn)), (4, .int (zAmt ex r)), (5, .int (iI z))] []
  cases dn
  · have hs1 : p + sdN false < 3 := by have := sdN_lt false; omega
    have hs2 : p + 1 - sdN false < 3 := by omega
    refine g_iload_n C rfl rfl d_E_swap_0 ?_
    refine g_iconst (v := 4) C rfl d_E_swap_1 ?_
    refine g_callS C (c_E_requireIndex (nI a) 4 (ok4 ha4)) Y_E_requireIndex m_242 m_241 ⟨by decide, by decide⟩ ⟨by decide, by decide⟩ (fun h => nomatch h) d_E_swap_2 rfl (Nat.le_of_ble_eq_true rfl) (fun ret sg2 hq => ?_)
    obtain ⟨rfl, rfl⟩ := hq
    refine g_iload_n C rfl rfl d_E_swap_5 ?_
    refine g_iconst (v := 2) C rfl d_E_swap_6 ?_
    refine g_callS C (c_E_requireIndex (nI p) 2 (ok2 hp)) Y_E_requireIndex m_242 m_241 ⟨by decide, by decide⟩ ⟨by decide, by decide⟩ (fun h => nomatch h) d_E_swap_7 rfl (Nat.le_of_ble_eq_true rfl) (fun ret sg7 hq => ?_)
    obtain ⟨rfl, rfl⟩ := hq
    refine g_iload C rfl d_E_swap_10 ?_
    refine g_callS C (c_E_requireTick (iI z) (okT_i hz1 hz2)) Y_E_requireTick m_346 m_345 ⟨by decide, by decide⟩ ⟨by decide, by decide⟩ (fun h => nomatch h) d_E_swap_12 rfl (Nat.le_of_ble_eq_true rfl) (fun ret sg12 hq => ?_)
    obtain ⟨rfl, rfl⟩ := hq
    refine g_iload C rfl d_E_swap_15 ?_
    refine g_if_eq (tgt := 56) C d_E_swap_17 (by decide) (fun j17 => ?_) (fun j17 => ?_)
    · exact absurd j17 hne.1
    refine g_iload C rfl d_E_swap_20 ?_
    refine g_ldc C m_495 d_E_swap_22 ?_
    refine g_icmp_lt (tgt := 56) C d_E_swap_24 (by decide) (fun j24 => ?_) (fun j24 => ?_)
    · exact absurd j24 hne.2.1
    refine g_iload C rfl d_E_swap_27 ?_
    refine g_ldc C m_496 d_E_swap_29 ?_
    refine g_icmp_gt (tgt := 56) C d_E_swap_31 (by decide) (fun j31 => ?_) (fun j31 => ?_)
    · exact absurd j31 hne.2.2
    refine g_aload_n C rfl rfl d_E_swap_34 ?_
    refine gf_E_28 C d_E_swap_35 (by first | assumption | omega) (by repeat' first | assumption | exact up_eq _ _ _ | refine up_ne (by omega) ?_) (by rfl) ?_
    refine g_iload_n C rfl rfl d_E_swap_38 ?_
    refine g_aldq C d_E_swap_39 3 (fun _ => rfl) (by first | assumption | omega) (by repeat' first | assumption | exact up_eq _ _ _ | refine up_ne (by omega) ?_) hin (by rw [hcl]; exact r2 p hp) ?_
    refine g_aload_n C rfl rfl d_E_swap_40 ?_
    refine gf_E_22 C d_E_swap_41 (by first | assumption | omega) (by repeat' first | assumption | exact up_eq _ _ _ | refine up_ne (by omega) ?_) (by rfl) ?_
    refine g_iload C rfl d_E_swap_44 ?_
    refine g_callV C (c_R_at z (by omega) hR hz1 hz2) Y_R_at m_358 m_359 m_497 rfl rfl ⟨by decide, by decide⟩ ⟨by decide, by decide⟩ (fun h => nomatch h) d_E_swap_46 (by first | assumption | omega) (by repeat' first | assumption | exact up_eq _ _ _ | refine up_ne (by omega) ?_) rfl (Nat.le_of_ble_eq_true rfl) (fun ret sg46 hq => ?_)
    obtain ⟨rfl, rfl⟩ := hq
    rw [show (z + 40).toNat = tx z from rfl]
    refine g_iload_n C rfl rfl d_E_swap_49 ?_
    refine g_callV C (c_P_isAhead (lN (rt (tx z))) false (by omega) (by omega) e1 e2) Y_P_isAhead m_499 m_500 m_498 rfl rfl ⟨by decide, by decide⟩ ⟨by decide, by decide⟩ (fun h => nomatch h) d_E_swap_50 (by first | assumption | omega) (by repeat' first | assumption | exact up_eq _ _ _ | refine up_ne (by omega) ?_) rfl (Nat.le_of_ble_eq_true rfl) (fun ret sg50 hq => ?_)
    obtain ⟨rfl, rfl⟩ := hq
    refine g_if_ne (tgt := 64) C d_E_swap_53 (by decide) (fun j53 => ?_) (fun j53 => ?_)
    rotate_left
    · exact absurd (j53.symm.trans (bzd hhah)) (show ¬ (0 : Int32) = 1 by decide)
    refine g_aload_n C rfl rfl d_E_swap_64 ?_
    refine gf_E_43 C d_E_swap_65 (by first | assumption | omega) (by repeat' first | assumption | exact up_eq _ _ _ | refine up_ne (by omega) ?_) (by rfl) ?_
    refine g_aload_n C rfl rfl d_E_swap_68 ?_
    refine gf_E_28 C d_E_swap_69 (by first | assumption | omega) (by repeat' first | assumption | exact up_eq _ _ _ | refine up_ne (by omega) ?_) (by rfl) ?_
    refine g_iload_n C rfl rfl d_E_swap_72 ?_
    refine g_aldq C d_E_swap_73 3 (fun _ => rfl) (by first | assumption | omega) (by repeat' first | assumption | exact up_eq _ _ _ | refine up_ne (by omega) ?_) hin (by rw [hcl]; exact r2 p hp) ?_
    refine g_iload_n C rfl rfl d_E_swap_74 ?_
    refine g_iload C rfl d_E_swap_75 ?_
    refine g_i2l C d_E_swap_77 ?_
    rw [hamt]
    refine g_aload_n C rfl rfl d_E_swap_78 ?_
    refine gf_E_22 C d_E_swap_79 (by first | assumption | omega) (by repeat' first | assumption | exact up_eq _ _ _ | refine up_ne (by omega) ?_) (by rfl) ?_
    refine g_iload C rfl d_E_swap_82 ?_
    refine g_callV C (c_R_at z (by omega) hR hz1 hz2) Y_R_at m_358 m_359 m_497 rfl rfl ⟨by decide, by decide⟩ ⟨by decide, by decide⟩ (fun h => nomatch h) d_E_swap_84 (by first | assumption | omega) (by repeat' first | assumption | exact up_eq _ _ _ | refine up_ne (by omega) ?_) rfl (Nat.le_of_ble_eq_true rfl) (fun ret sg84 hq => ?_)
    obtain ⟨rfl, rfl⟩ := hq
    rw [show (z + 40).toNat = tx z from rfl]
    refine g_callV C (c_T_run (k := 8) (kr := 4) (kp := 10 + 9 * p) (kc := cN (!cc) p) (kn := cN cc p) (st := zset Z p) (dep := zdep Z p) (dn := false) (ex := ex) (by omega) (by omega) (by omega) (by omega) (by omega) (by omega) (by omega) hw8 e1 e2 e3 hR hDO hf (rt_lo hz2) (rt_hi hz2) hr0 hQI rfl hxf) Y_T_run m_503 m_504 m_502 rfl rfl ⟨by decide, by decide⟩ ⟨by decide, by decide⟩ (fun h => nomatch h) d_E_swap_87 (by first | assumption | omega) (by repeat' first | assumption | exact up_eq _ _ _ | refine up_ne (by omega) ?_) rfl (Nat.le_of_ble_eq_true rfl) (fun ret sg87 hq => ?_)
    obtain ⟨rfl, tT, tC, tQ, tF⟩ := hq
    have tT1 : sg87 8 = _ := tT
    have t0 : isE sg87 o (zla Z) := (tF 0 (by omega) (by omega)).trans h0
    have t01 : sg87 0 = _ := t0
    have t1 := (tF 1 (by omega) (by omega)).trans h1
    have t3 := (tF 3 (by omega) (by omega)).trans h3
    refine g_iload_n C rfl rfl d_E_swap_90 ?_
    refine g_iload_n C rfl rfl d_E_swap_91 ?_
    refine g_if_eq (tgt := 99) C d_E_swap_92 (by decide) (fun j92 => ?_) (fun j92 => ?_)
    rotate_left
    · exact absurd (show bz false = 0 from rfl) j92
    refine g_iconst (v := 1) C rfl d_E_swap_99 ?_
    refine g_iadd C d_E_swap_100 ?_
    rw [show nI p + 1 = nI (p + sdN false) from nI_1 p]
    refine g_istore (lv' := [(6, .int (nI (p + sdN false))), (0, .ref (ad o 0)), (1, .int (nI a)), (2, .int (nI p)), (3, .int (bz false)), (4, .int (zAmt ex r)), (5, .int (iI z))]) C d_E_swap_101 (by decide) rfl ?_
    refine g_iload_n C rfl rfl d_E_swap_103 ?_
    refine g_iload_n C rfl rfl d_E_swap_104 ?_
    refine g_if_eq (tgt := 112) C d_E_swap_105 (by decide) (fun j105 => ?_) (fun j105 => ?_)
    rotate_left
    · exact absurd (show bz false = 0 from rfl) j105
    refine g_iconst (v := 0) C rfl d_E_swap_112 ?_
    refine g_iadd C d_E_swap_113 ?_
    rw [show nI p + 0 = nI (p + 1 - sdN false) from Int32.add_zero _]
    refine g_istore (lv' := [(7, .int (nI (p + 1 - sdN false))), (6, .int (nI (p + sdN false))), (0, .ref (ad o 0)), (1, .int (nI a)), (2, .int (nI p)), (3, .int (bz false)), (4, .int (zAmt ex r)), (5, .int (iI z))]) C d_E_swap_114 (by decide) rfl ?_
    refine g_aload_n C rfl rfl d_E_swap_116 ?_
    refine g_iload_n C rfl rfl d_E_swap_117 ?_
    refine g_iload C rfl d_E_swap_118 ?_
    refine g_aload_n C rfl rfl d_E_swap_120 ?_
    refine gf_E_43 C d_E_swap_121 (by first | assumption | omega) (by repeat' first | assumption | exact up_eq _ _ _ | refine up_ne (by omega) ?_) (by rfl) ?_
    refine gf_E_148 C d_E_swap_124 (by first | assumption | omega) (by repeat' first | assumption | exact up_eq _ _ _ | refine up_ne (by omega) ?_) (by rfl) ?_
    refine g_callV C (c_E_lacks (la := zla Z) (bal := zbal Z) a (p + sdN false) xf.1.2.2.2.1 hn t0 t1 ha4 (show p + sdN false < 3 from hs1)) Y_E_lacks m_380 s_E_lacks m_378 rfl rfl ⟨by decide, by decide⟩ ⟨by decide, by decide⟩ (fun h => nomatch h) d_E_swap_127 (by first | assumption | omega) (by repeat' first | assumption | exact up_eq _ _ _ | refine up_ne (by omega) ?_) rfl (Nat.le_of_ble_eq_true rfl) (fun ret sg127 hq => ?_)
    obtain ⟨rfl, rfl⟩ := hq
    refine g_if_eq (tgt := 141) C d_E_swap_130 (by decide) (fun j130 => ?_) (fun j130 => ?_)
    rotate_left
    · exact absurd (okd j130) hbal
    refine g_aload_n C rfl rfl d_E_swap_141 ?_
    refine g_aload_n C rfl rfl d_E_swap_142 ?_
    refine gf_E_43 C d_E_swap_143 (by first | assumption | omega) (by repeat' first | assumption | exact up_eq _ _ _ | refine up_ne (by omega) ?_) (by rfl) ?_
    refine g_iload_n C rfl rfl d_E_swap_146 ?_
    refine g_iload C rfl d_E_swap_147 ?_
    refine g_iload C rfl d_E_swap_149 ?_
    refine g_callV C (c_E_keep (la := zla Z) (bal := zbal Z) (hol := zhol Z) (k := 8) (kr := 4) (kp := 10 + 9 * p) (kc := cN (!cc) p) (f := zfee Z p) (kn := cN cc p) (kt := cN (!cc) p) (gr := gr) (ne := ne) a (p + sdN false) (p + 1 - sdN false) hn (by decide) (by omega) (by omega) t0 t1 t3 tT (isP_mv e1 (fun j q1 q2 => tF j (by omega) (by omega))) ha4 hs1 hs2) Y_E_keep m_586 s_E_keep m_584 rfl rfl ⟨by decide, by decide⟩ ⟨by decide, by decide⟩ (fun h => nomatch h) d_E_swap_151 (by first | assumption | omega) (by repeat' first | assumption | exact up_eq _ _ _ | refine up_ne (by omega) ?_) rfl (Nat.le_of_ble_eq_true rfl) (fun ret sg151 hq => ?_)
    obtain ⟨rfl, kP, k1, k3, kF⟩ := hq
    have k01 : sg151 0 = _ := (kF 0 (by omega) (by omega) (by omega)).trans t0
    have k81 : sg151 8 = _ := (kF 8 (by omega) (by omega) (by omega)).trans tT1
    refine g_aload_n C rfl rfl d_E_swap_154 ?_
    refine g_aload_n C rfl rfl d_E_swap_155 ?_
    refine gf_E_43 C d_E_swap_156 (by first | assumption | omega) (by repeat' first | assumption | exact up_eq _ _ _ | refine up_ne (by omega) ?_) (by rfl) ?_
    refine gf_E_148 C d_E_swap_159 (by first | assumption | omega) (by repeat' first | assumption | exact up_eq _ _ _ | refine up_ne (by omega) ?_) (by rfl) ?_
    refine pf_E_50 C d_E_swap_162 rfl rfl (by first | assumption | omega) (by repeat' first | assumption | exact up_eq _ _ _ | refine up_ne (by omega) ?_) (by exact Nat.le_of_ble_eq_true rfl) ?_
    refine g_aload_n C rfl rfl d_E_swap_165 ?_
    refine gf_E_43 C d_E_swap_166 (by first | assumption | omega) (by repeat' first | assumption | exact up_eq _ _ _ | refine up_ne (by omega) ?_) (by rfl) ?_
    refine gf_E_155 C d_E_swap_169 (by first | assumption | omega) (by repeat' first | assumption | exact up_eq _ _ _ | refine up_ne (by omega) ?_) (by rfl) ?_
    refine g_lret C E hr d_E_swap_172 ?_
    exact ⟨rfl, hcar _ (by unfold isE; exact (by repeat' first | assumption | exact up_eq _ _ _ | refine up_ne (by omega) ?_)) (by repeat' first | assumption | exact up_eq _ _ _ | refine up_ne (by omega) ?_) (by repeat' first | assumption | exact up_eq _ _ _ | refine up_ne (by omega) ?_) ⟨_, _, _, _, _, _, _, _, (by repeat' first | exact k81 | refine up_ne (by omega) ?_)⟩ (isP_mv kP (fun j q1 q2 => up_ne (by omega) rfl)) (isC_m tC (fun j q1 q2 => up_ne (by omega) (kF j (by omega) (by omega) (by omega)))) (fun j q0 q1 q2 q3 q4 q5 => up_ne q0 ((kF j q1 q2 q4).trans (tF j q3 q5)))⟩
  · have hs1 : p + sdN true < 3 := by have := sdN_lt true; omega
    have hs2 : p + 1 - sdN true < 3 := by omega
    refine g_iload_n C rfl rfl d_E_swap_0 ?_
    refine g_iconst (v := 4) C rfl d_E_swap_1 ?_
    refine g_callS C (c_E_requireIndex (nI a) 4 (ok4 ha4)) Y_E_requireIndex m_242 m_241 ⟨by decide, by decide⟩ ⟨by decide, by decide⟩ (fun h => nomatch h) d_E_swap_2 rfl (Nat.le_of_ble_eq_true rfl) (fun ret sg2 hq => ?_)
    obtain ⟨rfl, rfl⟩ := hq
    refine g_iload_n C rfl rfl d_E_swap_5 ?_
    refine g_iconst (v := 2) C rfl d_E_swap_6 ?_
    refine g_callS C (c_E_requireIndex (nI p) 2 (ok2 hp)) Y_E_requireIndex m_242 m_241 ⟨by decide, by decide⟩ ⟨by decide, by decide⟩ (fun h => nomatch h) d_E_swap_7 rfl (Nat.le_of_ble_eq_true rfl) (fun ret sg7 hq => ?_)
    obtain ⟨rfl, rfl⟩ := hq
    refine g_iload C rfl d_E_swap_10 ?_
    refine g_callS C (c_E_requireTick (iI z) (okT_i hz1 hz2)) Y_E_requireTick m_346 m_345 ⟨by decide, by decide⟩ ⟨by decide, by decide⟩ (fun h => nomatch h) d_E_swap_12 rfl (Nat.le_of_ble_eq_true rfl) (fun ret sg12 hq => ?_)
    obtain ⟨rfl, rfl⟩ := hq
    refine g_iload C rfl d_E_swap_15 ?_
    refine g_if_eq (tgt := 56) C d_E_swap_17 (by decide) (fun j17 => ?_) (fun j17 => ?_)
    · exact absurd j17 hne.1
    refine g_iload C rfl d_E_swap_20 ?_
    refine g_ldc C m_495 d_E_swap_22 ?_
    refine g_icmp_lt (tgt := 56) C d_E_swap_24 (by decide) (fun j24 => ?_) (fun j24 => ?_)
    · exact absurd j24 hne.2.1
    refine g_iload C rfl d_E_swap_27 ?_
    refine g_ldc C m_496 d_E_swap_29 ?_
    refine g_icmp_gt (tgt := 56) C d_E_swap_31 (by decide) (fun j31 => ?_) (fun j31 => ?_)
    · exact absurd j31 hne.2.2
    refine g_aload_n C rfl rfl d_E_swap_34 ?_
    refine gf_E_28 C d_E_swap_35 (by first | assumption | omega) (by repeat' first | assumption | exact up_eq _ _ _ | refine up_ne (by omega) ?_) (by rfl) ?_
    refine g_iload_n C rfl rfl d_E_swap_38 ?_
    refine g_aldq C d_E_swap_39 3 (fun _ => rfl) (by first | assumption | omega) (by repeat' first | assumption | exact up_eq _ _ _ | refine up_ne (by omega) ?_) hin (by rw [hcl]; exact r2 p hp) ?_
    refine g_aload_n C rfl rfl d_E_swap_40 ?_
    refine gf_E_22 C d_E_swap_41 (by first | assumption | omega) (by repeat' first | assumption | exact up_eq _ _ _ | refine up_ne (by omega) ?_) (by rfl) ?_
    refine g_iload C rfl d_E_swap_44 ?_
    refine g_callV C (c_R_at z (by omega) hR hz1 hz2) Y_R_at m_358 m_359 m_497 rfl rfl ⟨by decide, by decide⟩ ⟨by decide, by decide⟩ (fun h => nomatch h) d_E_swap_46 (by first | assumption | omega) (by repeat' first | assumption | exact up_eq _ _ _ | refine up_ne (by omega) ?_) rfl (Nat.le_of_ble_eq_true rfl) (fun ret sg46 hq => ?_)
    obtain ⟨rfl, rfl⟩ := hq
    rw [show (z + 40).toNat = tx z from rfl]
    refine g_iload_n C rfl rfl d_E_swap_49 ?_
    refine g_callV C (c_P_isAhead (lN (rt (tx z))) true (by omega) (by omega) e1 e2) Y_P_isAhead m_499 m_500 m_498 rfl rfl ⟨by decide, by decide⟩ ⟨by decide, by decide⟩ (fun h => nomatch h) d_E_swap_50 (by first | assumption | omega) (by repeat' first | assumption | exact up_eq _ _ _ | refine up_ne (by omega) ?_) rfl (Nat.le_of_ble_eq_true rfl) (fun ret sg50 hq => ?_)
    obtain ⟨rfl, rfl⟩ := hq
    refine g_if_ne (tgt := 64) C d_E_swap_53 (by decide) (fun j53 => ?_) (fun j53 => ?_)
    rotate_left
    · exact absurd (j53.symm.trans (bzd hhah)) (show ¬ (0 : Int32) = 1 by decide)
    refine g_aload_n C rfl rfl d_E_swap_64 ?_
    refine gf_E_43 C d_E_swap_65 (by first | assumption | omega) (by repeat' first | assumption | exact up_eq _ _ _ | refine up_ne (by omega) ?_) (by rfl) ?_
    refine g_aload_n C rfl rfl d_E_swap_68 ?_
    refine gf_E_28 C d_E_swap_69 (by first | assumption | omega) (by repeat' first | assumption | exact up_eq _ _ _ | refine up_ne (by omega) ?_) (by rfl) ?_
    refine g_iload_n C rfl rfl d_E_swap_72 ?_
    refine g_aldq C d_E_swap_73 3 (fun _ => rfl) (by first | assumption | omega) (by repeat' first | assumption | exact up_eq _ _ _ | refine up_ne (by omega) ?_) hin (by rw [hcl]; exact r2 p hp) ?_
    refine g_iload_n C rfl rfl d_E_swap_74 ?_
    refine g_iload C rfl d_E_swap_75 ?_
    refine g_i2l C d_E_swap_77 ?_
    rw [hamt]
    refine g_aload_n C rfl rfl d_E_swap_78 ?_
    refine gf_E_22 C d_E_swap_79 (by first | assumption | omega) (by repeat' first | assumption | exact up_eq _ _ _ | refine up_ne (by omega) ?_) (by rfl) ?_
    refine g_iload C rfl d_E_swap_82 ?_
    refine g_callV C (c_R_at z (by omega) hR hz1 hz2) Y_R_at m_358 m_359 m_497 rfl rfl ⟨by decide, by decide⟩ ⟨by decide, by decide⟩ (fun h => nomatch h) d_E_swap_84 (by first | assumption | omega) (by repeat' first | assumption | exact up_eq _ _ _ | refine up_ne (by omega) ?_) rfl (Nat.le_of_ble_eq_true rfl) (fun ret sg84 hq => ?_)
    obtain ⟨rfl, rfl⟩ := hq
    rw [show (z + 40).toNat = tx z from rfl]
    refine g_callV C (c_T_run (k := 8) (kr := 4) (kp := 10 + 9 * p) (kc := cN (!cc) p) (kn := cN cc p) (st := zset Z p) (dep := zdep Z p) (dn := true) (ex := ex) (by omega) (by omega) (by omega) (by omega) (by omega) (by omega) (by omega) hw8 e1 e2 e3 hR hDO hf (rt_lo hz2) (rt_hi hz2) hr0 hQI rfl hxf) Y_T_run m_503 m_504 m_502 rfl rfl ⟨by decide, by decide⟩ ⟨by decide, by decide⟩ (fun h => nomatch h) d_E_swap_87 (by first | assumption | omega) (by repeat' first | assumption | exact up_eq _ _ _ | refine up_ne (by omega) ?_) rfl (Nat.le_of_ble_eq_true rfl) (fun ret sg87 hq => ?_)
    obtain ⟨rfl, tT, tC, tQ, tF⟩ := hq
    have tT1 : sg87 8 = _ := tT
    have t0 : isE sg87 o (zla Z) := (tF 0 (by omega) (by omega)).trans h0
    have t01 : sg87 0 = _ := t0
    have t1 := (tF 1 (by omega) (by omega)).trans h1
    have t3 := (tF 3 (by omega) (by omega)).trans h3
    refine g_iload_n C rfl rfl d_E_swap_90 ?_
    refine g_iload_n C rfl rfl d_E_swap_91 ?_
    refine g_if_eq (tgt := 99) C d_E_swap_92 (by decide) (fun j92 => ?_) (fun j92 => ?_)
    · exact absurd j92 (by decide)
    refine g_iconst (v := 0) C rfl d_E_swap_95 ?_
    refine g_goto (tgt := 100) C d_E_swap_96 (by decide) ?_
    refine g_iadd C d_E_swap_100 ?_
    rw [show nI p + 0 = nI (p + sdN true) from Int32.add_zero _]
    refine g_istore (lv' := [(6, .int (nI (p + sdN true))), (0, .ref (ad o 0)), (1, .int (nI a)), (2, .int (nI p)), (3, .int (bz true)), (4, .int (zAmt ex r)), (5, .int (iI z))]) C d_E_swap_101 (by decide) rfl ?_
    refine g_iload_n C rfl rfl d_E_swap_103 ?_
    refine g_iload_n C rfl rfl d_E_swap_104 ?_
    refine g_if_eq (tgt := 112) C d_E_swap_105 (by decide) (fun j105 => ?_) (fun j105 => ?_)
    · exact absurd j105 (by decide)
    refine g_iconst (v := 1) C rfl d_E_swap_108 ?_
    refine g_goto (tgt := 113) C d_E_swap_109 (by decide) ?_
    refine g_iadd C d_E_swap_113 ?_
    rw [show nI p + 1 = nI (p + 1 - sdN true) from nI_1 p]
    refine g_istore (lv' := [(7, .int (nI (p + 1 - sdN true))), (6, .int (nI (p + sdN true))), (0, .ref (ad o 0)), (1, .int (nI a)), (2, .int (nI p)), (3, .int (bz true)), (4, .int (zAmt ex r)), (5, .int (iI z))]) C d_E_swap_114 (by decide) rfl ?_
    refine g_aload_n C rfl rfl d_E_swap_116 ?_
    refine g_iload_n C rfl rfl d_E_swap_117 ?_
    refine g_iload C rfl d_E_swap_118 ?_
    refine g_aload_n C rfl rfl d_E_swap_120 ?_
    refine gf_E_43 C d_E_swap_121 (by first | assumption | omega) (by repeat' first | assumption | exact up_eq _ _ _ | refine up_ne (by omega) ?_) (by rfl) ?_
    refine gf_E_148 C d_E_swap_124 (by first | assumption | omega) (by repeat' first | assumption | exact up_eq _ _ _ | refine up_ne (by omega) ?_) (by rfl) ?_
    refine g_callV C (c_E_lacks (la := zla Z) (bal := zbal Z) a (p + sdN true) xf.1.2.2.2.1 hn t0 t1 ha4 (show p + sdN true < 3 from hs1)) Y_E_lacks m_380 s_E_lacks m_378 rfl rfl ⟨by decide, by decide⟩ ⟨by decide, by decide⟩ (fun h => nomatch h) d_E_swap_127 (by first | assumption | omega) (by repeat' first | assumption | exact up_eq _ _ _ | refine up_ne (by omega) ?_) rfl (Nat.le_of_ble_eq_true rfl) (fun ret sg127 hq => ?_)
    obtain ⟨rfl, rfl⟩ := hq
    refine g_if_eq (tgt := 141) C d_E_swap_130 (by decide) (fun j130 => ?_) (fun j130 => ?_)
    rotate_left
    · exact absurd (okd j130) hbal
    refine g_aload_n C rfl rfl d_E_swap_141 ?_
    refine g_aload_n C rfl rfl d_E_swap_142 ?_
    refine gf_E_43 C d_E_swap_143 (by first | assumption | omega) (by repeat' first | assumption | exact up_eq _ _ _ | refine up_ne (by omega) ?_) (by rfl) ?_
    refine g_iload_n C rfl rfl d_E_swap_146 ?_
    refine g_iload C rfl d_E_swap_147 ?_
    refine g_iload C rfl d_E_swap_149 ?_
    refine g_callV C (c_E_keep (la := zla Z) (bal := zbal Z) (hol := zhol Z) (k := 8) (kr := 4) (kp := 10 + 9 * p) (kc := cN (!cc) p) (f := zfee Z p) (kn := cN cc p) (kt := cN (!cc) p) (gr := gr) (ne := ne) a (p + sdN true) (p + 1 - sdN true) hn (by decide) (by omega) (by omega) t0 t1 t3 tT (isP_mv e1 (fun j q1 q2 => tF j (by omega) (by omega))) ha4 hs1 hs2) Y_E_keep m_586 s_E_keep m_584 rfl rfl ⟨by decide, by decide⟩ ⟨by decide, by decide⟩ (fun h => nomatch h) d_E_swap_151 (by first | assumption | omega) (by repeat' first | assumption | exact up_eq _ _ _ | refine up_ne (by omega) ?_) rfl (Nat.le_of_ble_eq_true rfl) (fun ret sg151 hq => ?_)
    obtain ⟨rfl, kP, k1, k3, kF⟩ := hq
    have k01 : sg151 0 = _ := (kF 0 (by omega) (by omega) (by omega)).trans t0
    have k81 : sg151 8 = _ := (kF 8 (by omega) (by omega) (by omega)).trans tT1
    refine g_aload_n C rfl rfl d_E_swap_154 ?_
    refine g_aload_n C rfl rfl d_E_swap_155 ?_
    refine gf_E_43 C d_E_swap_156 (by first | assumption | omega) (by repeat' first | assumption | exact up_eq _ _ _ | refine up_ne (by omega) ?_) (by rfl) ?_
    refine gf_E_148 C d_E_swap_159 (by first | assumption | omega) (by repeat' first | assumption | exact up_eq _ _ _ | refine up_ne (by omega) ?_) (by rfl) ?_
    refine pf_E_50 C d_E_swap_162 rfl rfl (by first | assumption | omega) (by repeat' first | assumption | exact up_eq _ _ _ | refine up_ne (by omega) ?_) (by exact Nat.le_of_ble_eq_true rfl) ?_
    refine g_aload_n C rfl rfl d_E_swap_165 ?_
    refine gf_E_43 C d_E_swap_166 (by first | assumption | omega) (by repeat' first | assumption | exact up_eq _ _ _ | refine up_ne (by omega) ?_) (by rfl) ?_
    refine gf_E_155 C d_E_swap_169 (by first | assumption | omega) (by repeat' first | assumption | exact up_eq _ _ _ | refine up_ne (by omega) ?_) (by rfl) ?_
    refine g_lret C E hr d_E_swap_172 ?_
    exact ⟨rfl, hcar _ (by unfold isE; exact (by repeat' first | assumption | exact up_eq _ _ _ | refine up_ne (by omega) ?_)) (by repeat' first | assumption | exact up_eq _ _ _ | refine up_ne (by omega) ?_) (by repeat' first | assumption | exact up_eq _ _ _ | refine up_ne (by omega) ?_) ⟨_, _, _, _, _, _, _, _, (by repeat' first | exact k81 | refine up_ne (by omega) ?_)⟩ (isP_mv kP (fun j q1 q2 => up_ne (by omega) rfl)) (isC_m tC (fun j q1 q2 => up_ne (by omega) (kF j (by omega) (by omega) (by omega)))) (fun j q0 q1 q2 q3 q4 q5 => up_ne q0 ((kF j q1 q2 q4).trans (tF j q3 q5)))⟩

