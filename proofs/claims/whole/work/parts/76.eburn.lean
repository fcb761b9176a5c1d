-- BURN IN THE CLASS
-- WHAT IS OWED BEHIND A BURN
theorem i64_le {x y : Int32} (h : x ≤ y) : x.toInt64 ≤ y.toInt64 := by
  rw [Int64.le_iff_toInt_le, Int32.toInt_toInt64, Int32.toInt_toInt64]
  exact Int32.le_iff_toInt_le.mp h
def baN (od sh : Nat → Int64) (x y : Nat) : Nat → Int64 := vp_updL (vp_updL (fun i => od i + sh i) 0 (od 0 + sh 0 + lN x)) 1 (od 1 + sh 1 + lN y)
theorem ba_set {Z : ZS} {p q : Nat} {lo hi : Int} {g ou : Nat → Int64} {ins owd : Nat → Nat → Int64} (hPQ : zpl Z q = p ∧ zlo Z q = lo ∧ zhi Z q = hi) (hq : q < 12) (hA : ∀ i, i < 12 → zam Z i ≤ 50000000) (hI : InOk Z p ins g ou) (ho : owd q 0 = zod Z (2 * q) ∧ owd q 1 = zod Z (2 * q + 1)) : (fun i => owd q i + shr (cIns (ztk Z p) g ou i lo hi - ins q i) (nI (zam Z q)).toInt64) 0 = zod (zBurn Z p q 0 lo hi) (2 * q) ∧ (fun i => owd q i + shr (cIns (ztk Z p) g ou i lo hi - ins q i) (nI (zam Z q)).toInt64) 1 = zod (zBurn Z p q 0 lo hi) (2 * q + 1) := by
  have k0 := owed_set (s := 0) hPQ hq hA hI (by decide)
  have k1 := owed_set (s := 1) hPQ hq hA hI (by decide)
  constructor
  · show owd q 0 + shr (cIns (ztk Z p) g ou 0 lo hi - ins q 0) (nI (zam Z q)).toInt64 = zAdd2 (sOd (zod Z) (zfa Z) (lN (zam Z q)) q) q (lN (zWN false 0 (zpr Z p) (ztk Z p) lo hi)) (lN (zWF false 0 (zpr Z p) (ztk Z p) lo hi)) (2 * q)
    rw [zAdd2_0t, sOd_0t, zWN_0, k0, ho.1, show lN 0 = 0 from rfl, Int64.add_zero]
    rfl
  · show owd q 1 + shr (cIns (ztk Z p) g ou 1 lo hi - ins q 1) (nI (zam Z q)).toInt64 = zAdd2 (sOd (zod Z) (zfa Z) (lN (zam Z q)) q) q (lN (zWN false 0 (zpr Z p) (ztk Z p) lo hi)) (lN (zWF false 0 (zpr Z p) (ztk Z p) lo hi)) (2 * q + 1)
    rw [zAdd2_1t, sOd_1t, zWF_0, k1, ho.2, show lN 0 = 0 from rfl, Int64.add_zero]
theorem ba_add {Z : ZS} {p q : Nat} {lo hi : Int} {d : Int32} {gr ne : Nat → Int32} {g ou : Nat → Int64} {ins owd : Nat → Nat → Int64} (hPQ : zpl Z q = p ∧ zlo Z q = lo ∧ zhi Z q = hi) (hq : q < 12) (hA : ∀ i, i < 12 → zam Z i ≤ 50000000) (h1 : -40 ≤ lo) (hlh : lo < hi) (h2 : hi ≤ 40) (hG : GrOk Z p gr ne) (hI : InOk Z p ins g ou) (ho : owd q 0 = zod Z (2 * q) ∧ owd q 1 = zod Z (2 * q + 1)) (x y : Nat) : baN (owd q) (fun i => shr (cIns (ztk Z p) g (aOu gr (ztk Z p) g ou lo hi d) i lo hi - ins q i) (nI (zam Z q)).toInt64) x y 0 = zAdd2 (sOd (zod Z) (zfa Z) (lN (zam Z q)) q) q (lN x) (lN y) (2 * q) ∧ baN (owd q) (fun i => shr (cIns (ztk Z p) g (aOu gr (ztk Z p) g ou lo hi d) i lo hi - ins q i) (nI (zam Z q)).toInt64) x y 1 = zAdd2 (sOd (zod Z) (zfa Z) (lN (zam Z q)) q) q (lN x) (lN y) (2 * q + 1) := by
  have k0 := owed_add (d := d) (s := 0) (Or.inl hPQ) hq hA h1 hlh h2 hG hI (by decide)
  have k1 := owed_add (d := d) (s := 1) (Or.inl hPQ) hq hA h1 hlh h2 hG hI (by decide)
  unfold baN
  constructor
  · rw [zAdd2_0t, sOd_0t, pk_unL (show 0 ≠ 1 by decide), pk_usL]
    show _ + shr (cIns (ztk Z p) g (aOu gr (ztk Z p) g ou lo hi d) 0 lo hi - ins q 0) (nI (zam Z q)).toInt64 + _ = _
    rw [k0, ho.1]
    rfl
  · rw [zAdd2_1t, sOd_1t, pk_usL]
    show _ + shr (cIns (ztk Z p) g (aOu gr (ztk Z p) g ou lo hi d) 1 lo hi - ins q 1) (nI (zam Z q)).toInt64 + _ = _
    rw [k1, ho.2]
theorem t_E_burn1 {l : Launch} {o n : Nat} {sg : Nat → va_E} {Z : ZS} (hfl : l.flags = flags0) (a b c d x : Int32) (h : ¬ okPl a b c d) : GT l y_E_burn b_E_burn 7 (some .int) 8 144 o n sg [.ref (ad o 0), .int a, .int b, .int c, .int d, .int x] "java/lang/IndexOutOfBoundsException" (fun s => s = sg) := by
  refine GT_of (by decide) (Nat.le_of_ble_eq_true rfl) ?_
  intro K C hl ha hh ET
  have hfl2 : (xl K).flags = flags0 := by rw [hl]; exact hfl
  have htr := tr_off (by rw [hl]; exact hfl) ha
  show G K o n sg 0 0 0 [(0, .ref (ad o 0)), (1, .int a), (2, .int b), (3, .int c), (4, .int d), (5, .int x)] []
  refine g_iload_n C rfl rfl d_E_burn_0 ?_
  refine g_iload_n C rfl rfl d_E_burn_1 ?_
  refine g_iload_n C rfl rfl d_E_burn_2 ?_
  refine g_iload C rfl d_E_burn_3 ?_
  exact g_callST C hh ET (t_E_requirePlace hfl2 a b c d h) Y_E_requirePlace m_343 m_342 ⟨by decide, by decide⟩ ⟨by decide, by decide⟩ d_E_burn_5 rfl (Nat.le_of_ble_eq_true rfl)
theorem t_E_burn2 {l : Launch} {o n : Nat} {sg : Nat → va_E} {Z : ZS} (hfl : l.flags = flags0) (a b c d x : Int32) (h : okPl a b c d) (h2 : d ≤ c ∨ x < 0) : GT l y_E_burn b_E_burn 7 (some .int) 8 144 o n sg [.ref (ad o 0), .int a, .int b, .int c, .int d, .int x] "java/lang/IllegalArgumentException" (fun s => s = sg) := by
  refine GT_of (by decide) (Nat.le_of_ble_eq_true rfl) ?_
  intro K C hl ha hh ET
  have hfl2 : (xl K).flags = flags0 := by rw [hl]; exact hfl
  have htr := tr_off (by rw [hl]; exact hfl) ha
  show G K o n sg 0 0 0 [(0, .ref (ad o 0)), (1, .int a), (2, .int b), (3, .int c), (4, .int d), (5, .int x)] []
  refine g_iload_n C rfl rfl d_E_burn_0 ?_
  refine g_iload_n C rfl rfl d_E_burn_1 ?_
  refine g_iload_n C rfl rfl d_E_burn_2 ?_
  refine g_iload C rfl d_E_burn_3 ?_
  refine g_callS C (c_E_requirePlace a b c d h) Y_E_requirePlace m_343 m_342 ⟨by decide, by decide⟩ ⟨by decide, by decide⟩ (fun h => nomatch h) d_E_burn_5 rfl (Nat.le_of_ble_eq_true rfl) (fun ret sg5 hq => ?_)
  obtain ⟨rfl, rfl⟩ := hq
  refine g_iload_n C rfl rfl d_E_burn_8 ?_
  refine g_iload C rfl d_E_burn_9 ?_
  refine g_icmp_ge (tgt := 19) C d_E_burn_11 (by decide) (fun j11 => ?_) (fun j11 => ?_)
  · refine g_throw C ha hh ET htr gtw_A m_309 m_310 m_13 (by decide) d_E_burn_19 d_E_burn_22 d_E_burn_23 d_E_burn_26 (by decide) (Nat.le_of_ble_eq_true rfl) (by decide) (by decide) rfl
  · refine g_iload C rfl d_E_burn_14 ?_
    refine g_if_ge (tgt := 27) C d_E_burn_16 (by decide) (fun j16 => ?_) (fun j16 => ?_)
    · exact h2.elim (fun q => absurd q j11) (fun q => absurd j16 (Int32.not_le.mpr q))
    refine g_throw C ha hh ET htr gtw_A m_309 m_310 m_13 (by decide) d_E_burn_19 d_E_burn_22 d_E_burn_23 d_E_burn_26 (by decide) (Nat.le_of_ble_eq_true rfl) (by decide) (by decide) rfl
theorem t_E_burn3 {l : Launch} {o n : Nat} {sg : Nat → va_E} {Z : ZS} (hfl : l.flags = flags0) (a b c d x : Int32) (hn : 64 ≤ n) (hW : EW sg o Z) (hA : ∀ i, i < 12 → zam Z i ≤ 50000000) (h : okPl a b c d) (h2 : ¬ d ≤ c) (h3 : ¬ x < 0) (hf : zFind Z a b c d = none) : GT l y_E_burn b_E_burn 7 (some .int) 8 144 o n sg [.ref (ad o 0), .int a, .int b, .int c, .int d, .int x] "java/util/NoSuchElementException" (fun s => s = sg) := by
  obtain ⟨h0, h1, k2, k3, hER⟩ := id hW
  have he1 : sg 0 = _ := h0
  obtain ⟨hR, ⟨f6, r1, r2⟩, ⟨w1, w2, w3, w4, w5, w6, w7, w8, hw8⟩, ⟨v1, v2, v3, v4, v5, v6, v7, v8, hw9⟩, ins, owd, hES, hE0, hE1⟩ := hER
  obtain ⟨hS, ho⟩ := id hES
  have hEr := ER_all hE0 hE1
  have hfe := find_eq hA ho a b c d
  rw [hf] at hfe
  refine GT_of (by decide) (Nat.le_of_ble_eq_true rfl) ?_
  intro K C hl ha hh ET
  have hfl2 : (xl K).flags = flags0 := by rw [hl]; exact hfl
  have htr := tr_off (by rw [hl]; exact hfl) ha
  show G K o n sg 0 0 0 [(0, .ref (ad o 0)), (1, .int a), (2, .int b), (3, .int c), (4, .int d), (5, .int x)] []
  refine g_iload_n C rfl rfl d_E_burn_0 ?_
  refine g_iload_n C rfl rfl d_E_burn_1 ?_
  refine g_iload_n C rfl rfl d_E_burn_2 ?_
  refine g_iload C rfl d_E_burn_3 ?_
  refine g_callS C (c_E_requirePlace a b c d h) Y_E_requirePlace m_343 m_342 ⟨by decide, by decide⟩ ⟨by decide, by decide⟩ (fun h => nomatch h) d_E_burn_5 rfl (Nat.le_of_ble_eq_true rfl) (fun ret sg5 hq => ?_)
  obtain ⟨rfl, rfl⟩ := hq
  refine g_iload_n C rfl rfl d_E_burn_8 ?_
  refine g_iload C rfl d_E_burn_9 ?_
  refine g_icmp_ge (tgt := 19) C d_E_burn_11 (by decide) (fun j11 => ?_) (fun j11 => ?_)
  · exact absurd j11 h2
  refine g_iload C rfl d_E_burn_14 ?_
  refine g_if_ge (tgt := 27) C d_E_burn_16 (by decide) (fun j16 => ?_) (fun j16 => ?_)
  rotate_left
  · exact absurd (Int32.not_lt.mp h3) j16
  refine g_aload_n C rfl rfl d_E_burn_27 ?_
  refine g_iload_n C rfl rfl d_E_burn_28 ?_
  refine g_iload_n C rfl rfl d_E_burn_29 ?_
  refine g_iload_n C rfl rfl d_E_burn_30 ?_
  refine g_iload C rfl d_E_burn_31 ?_
  refine g_callV C (c_E_find a b c d hn h0 hS) Y_E_find m_219 s_E_find m_217 rfl rfl ⟨by decide, by decide⟩ ⟨by decide, by decide⟩ (fun h => nomatch h) d_E_burn_33 (by first | assumption | omega) (by repeat' first | assumption | exact up_eq _ _ _ | refine up_ne (by omega) ?_) rfl (Nat.le_of_ble_eq_true rfl) (fun ret sg33 hq => ?_)
  obtain ⟨rfl, rfl⟩ := hq
  rw [hfe]
  refine g_astoreN (lv' := [(6, .null), (0, .ref (ad o 0)), (1, .int a), (2, .int b), (3, .int c), (4, .int d), (5, .int x)]) C d_E_burn_36 (by decide) rfl ?_
  refine g_aloadN C rfl d_E_burn_38 ?_
  refine g_ifnonnullN C d_E_burn_40 ?_
  refine g_throw C ha hh ET htr gtw_N m_461 m_462 m_16 (by decide) d_E_burn_43 d_E_burn_46 d_E_burn_47 d_E_burn_50 (by decide) (Nat.le_of_ble_eq_true rfl) (by decide) (by decide) rfl
theorem t_E_burn4 {l : Launch} {o n : Nat} {sg : Nat → va_E} {Z : ZS} (hfl : l.flags = flags0) (a b c d x : Int32) (k : Nat) (hn : 64 ≤ n) (hW : EW sg o Z) (hA : ∀ i, i < 12 → zam Z i ≤ 50000000) (h : okPl a b c d) (h2 : ¬ d ≤ c) (h3 : ¬ x < 0) (hf : zFind Z a b c d = some k) (h4 : ¬ x.toInt64 ≤ lN (zam Z k)) : GT l y_E_burn b_E_burn 7 (some .int) 8 144 o n sg [.ref (ad o 0), .int a, .int b, .int c, .int d, .int x] "java/lang/IllegalStateException" (fun s => s = sg) := by
  obtain ⟨h0, h1, k2, k3, hER⟩ := id hW
  have he1 : sg 0 = _ := h0
  obtain ⟨hR, ⟨f6, r1, r2⟩, ⟨w1, w2, w3, w4, w5, w6, w7, w8, hw8⟩, ⟨v1, v2, v3, v4, v5, v6, v7, v8, hw9⟩, ins, owd, hES, hE0, hE1⟩ := hER
  obtain ⟨hS, ho⟩ := id hES
  have hEr := ER_all hE0 hE1
  have hfe := find_eq hA ho a b c d
  rw [hf] at hfe
  have hk := (fnd_some hf).1
  have hAk := hA k hk
  obtain ⟨f, hf1, hf2, hf3⟩ := id hS
  obtain ⟨s1, s2, s3⟩ := hf3 k hk
  have hx : ¬ x ≤ nI (zam Z k) := fun q => h4 (by rw [← nI_l (by omega)]; exact i64_le q)
  refine GT_of (by decide) (Nat.le_of_ble_eq_true rfl) ?_
  intro K C hl ha hh ET
  have hfl2 : (xl K).flags = flags0 := by rw [hl]; exact hfl
  have htr := tr_off (by rw [hl]; exact hfl) ha
  show G K o n sg 0 0 0 [(0, .ref (ad o 0)), (1, .int a), (2, .int b), (3, .int c), (4, .int d), (5, .int x)] []
  refine g_iload_n C rfl rfl d_E_burn_0 ?_
  refine g_iload_n C rfl rfl d_E_burn_1 ?_
  refine g_iload_n C rfl rfl d_E_burn_2 ?_
  refine g_iload C rfl d_E_burn_3 ?_
  refine g_callS C (c_E_requirePlace a b c d h) Y_E_requirePlace m_343 m_342 ⟨by decide, by decide⟩ ⟨by decide, by decide⟩ (fun h => nomatch h) d_E_burn_5 rfl (Nat.le_of_ble_eq_true rfl) (fun ret sg5 hq => ?_)
  obtain ⟨rfl, rfl⟩ := hq
  refine g_iload_n C rfl rfl d_E_burn_8 ?_
  refine g_iload C rfl d_E_burn_9 ?_
  refine g_icmp_ge (tgt := 19) C d_E_burn_11 (by decide) (fun j11 => ?_) (fun j11 => ?_)
  · exact absurd j11 h2
  refine g_iload C rfl d_E_burn_14 ?_
  refine g_if_ge (tgt := 27) C d_E_burn_16 (by decide) (fun j16 => ?_) (fun j16 => ?_)
  rotate_left
  · exact absurd (Int32.not_lt.mp h3) j16
  refine g_aload_n C rfl rfl d_E_burn_27 ?_
  refine g_iload_n C rfl rfl d_E_burn_28 ?_
  refine g_iload_n C rfl rfl d_E_burn_29 ?_
  refine g_iload_n C rfl rfl d_E_burn_30 ?_
  refine g_iload C rfl d_E_burn_31 ?_
  refine g_callV C (c_E_find a b c d hn h0 hS) Y_E_find m_219 s_E_find m_217 rfl rfl ⟨by decide, by decide⟩ ⟨by decide, by decide⟩ (fun h => nomatch h) d_E_burn_33 (by first | assumption | omega) (by repeat' first | assumption | exact up_eq _ _ _ | refine up_ne (by omega) ?_) rfl (Nat.le_of_ble_eq_true rfl) (fun ret sg33 hq => ?_)
  obtain ⟨rfl, rfl⟩ := hq
  rw [hfe]
  refine g_astore (lv' := [(6, .ref (ad o (28 + 3 * k))), (0, .ref (ad o 0)), (1, .int a), (2, .int b), (3, .int c), (4, .int d), (5, .int x)]) C d_E_burn_36 (by decide) rfl ?_
  refine g_aload C rfl d_E_burn_38 ?_
  refine g_ifnonnull (tgt := 51) C d_E_burn_40 (by decide) ?_
  refine g_iload C rfl d_E_burn_51 ?_
  refine g_aload C rfl d_E_burn_53 ?_
  refine gf_E_80 C d_E_burn_55 (by first | assumption | omega) (by repeat' first | assumption | exact up_eq _ _ _ | refine up_ne (by omega) ?_) (by rfl) ?_
  refine g_icmp_le (tgt := 69) C d_E_burn_58 (by decide) (fun j58 => ?_) (fun j58 => ?_)
  · exact absurd j58 hx
  refine g_throw C ha hh ET htr gtw_S m_382 m_383 m_15 (by decide) d_E_burn_61 d_E_burn_64 d_E_burn_65 d_E_burn_68 (by decide) (Nat.le_of_ble_eq_true rfl) (by decide) (by decide) rfl
set_option maxHeartbeats 4000000 in
theorem c_E_burn {l : Launch} {o n : Nat} {sg : Nat → va_E} {Z : ZS} (a p k L : Nat) (lo hi : Int) (hn : 64 ≤ n) (hW : EW sg o Z) (hA : ∀ i, i < 12 → zam Z i ≤ 50000000) (hB : pBd (zpl Z) (zlo Z) (zhi Z)) (ha4 : a < 4) (hp : p < 2) (hlo : -40 ≤ lo) (hlh : lo < hi) (hhi : hi ≤ 40) (hf : zFind Z (nI a) (nI p) (iI lo) (iI hi) = some k) (hL : L ≤ zam Z k) (hT : TkOk (zpr Z p) (ztk Z p)) : GM l y_E_burn b_E_burn 7 (some .int) 8 144 0 0 o n n sg false [.ref (ad o 0), .int (nI a), .int (nI p), .int (iI lo), .int (iI hi), .int (nI L)] (fun r0 s => some (.int (nI (zam Z k - L))) = r0 ∧ EW s o (zBurn Z p k L lo hi) ∧ efr sg s) := by
  obtain ⟨h0, h1, h2, h3, hER⟩ := id hW
  have he1 : sg 0 = _ := h0
  obtain ⟨hR, ⟨f6, r1, r2⟩, ⟨w1, w2, w3, w4, w5, w6, w7, w8, hw8⟩, ⟨v1, v2, v3, v4, v5, v6, v7, v8, hw9⟩, ins, owd, hES, hE0, hE1⟩ := hER
  obtain ⟨hS, ho⟩ := id hES
  have hEr := ER_all hE0 hE1
  have hfe := find_eq hA ho (nI a) (nI p) (iI lo) (iI hi)
  rw [hf] at hfe
  obtain ⟨hk, g1, g3, g4⟩ := find_at hB hp hlo hlh hhi hf
  have hAk := hA k hk
  obtain ⟨f, hf1, hf2, hf3⟩ := id hS
  have hSk := hf3 k hk
  have s1 := hSk.1
  simp only [g4.2.1, g4.2.2] at hSk
  have hPU := PlUp_burn (L := L) g4
  have i0 : vp_in (0 : Int32) 2 := vp_in_nI (n := 0) (by decide) (by decide)
  have i1 : vp_in (1 : Int32) 2 := vp_in_nI (n := 1) (by decide) (by decide)
  have z0 : (0 : Int32).toNatClampNeg = 0 := rfl
  have z1 : (1 : Int32).toNatClampNeg = 1 := rfl
  obtain ⟨cc, gr, ne, g, ou, pr2, tz2, lq2, g2, oo2, e1, e2, e3, e4⟩ := id (hEr p hp)
  have hb := cN_b cc p
  have e11 := e1.1
  have hcl : (nI p).toNatClampNeg = p := nI_clamp (by omega)
  have hin : vp_in (nI p) 2 := vp_in_nI hp (by decide)
  refine GM_of (by decide) (Nat.le_of_ble_eq_true rfl) ?_
  intro K C hl hz hr hnm E
  show G K o n sg 0 0 0 [(0, .ref (ad o 0)), (1, .int (nI a)), (2, .int (nI p)), (3, .int (iI lo)), (4, .int (iI hi)), (5, .int (nI L))] []
  have hall : okPl (nI a) (nI p) (iI lo) (iI hi) := ⟨ok4 ha4, ok2 hp, okT_i hlo (by omega), okT_i (by omega) hhi⟩
  by_cases hL0 : L = 0
  · subst hL0
    refine g_iload_n C rfl rfl d_E_burn_0 ?_
    refine g_iload_n C rfl rfl d_E_burn_1 ?_
    refine g_iload_n C rfl rfl d_E_burn_2 ?_
    refine g_iload C rfl d_E_burn_3 ?_
    refine g_callS C (c_E_requirePlace (nI a) (nI p) (iI lo) (iI hi) hall) Y_E_requirePlace m_343 m_342 ⟨by decide, by decide⟩ ⟨by decide, by decide⟩ (fun h => nomatch h) d_E_burn_5 rfl (Nat.le_of_ble_eq_true rfl) (fun ret sg5 hq => ?_)
    obtain ⟨rfl, rfl⟩ := hq
    refine g_iload_n C rfl rfl d_E_burn_8 ?_
    refine g_iload C rfl d_E_burn_9 ?_
    refine g_icmp_ge (tgt := 19) C d_E_burn_11 (by decide) (fun j11 => ?_) (fun j11 => ?_)
    · exact absurd ((iI_le (by omega) (by omega) (by omega) (by omega)).mp j11) (by omega)
    refine g_iload C rfl d_E_burn_14 ?_
    refine g_if_ge (tgt := 27) C d_E_burn_16 (by decide) (fun j16 => ?_) (fun j16 => ?_)
    rotate_left
    · exact absurd (by decide) j16
    refine g_aload_n C rfl rfl d_E_burn_27 ?_
    refine g_iload_n C rfl rfl d_E_burn_28 ?_
    refine g_iload_n C rfl rfl d_E_burn_29 ?_
    refine g_iload_n C rfl rfl d_E_burn_30 ?_
    refine g_iload C rfl d_E_burn_31 ?_
    refine g_callV C (c_E_find (nI a) (nI p) (iI lo) (iI hi) hn h0 hS) Y_E_find m_219 s_E_find m_217 rfl rfl ⟨by decide, by decide⟩ ⟨by decide, by decide⟩ (fun h => nomatch h) d_E_burn_33 (by first | assumption | omega) (by repeat' first | assumption | exact up_eq _ _ _ | refine up_ne (by omega) ?_) rfl (Nat.le_of_ble_eq_true rfl) (fun ret sg33 hq => ?_)
    obtain ⟨rfl, rfl⟩ := hq
    rw [hfe]
    refine g_astore (lv' := [(6, .ref (ad o (28 + 3 * k))), (0, .ref (ad o 0)), (1, .int (nI a)), (2, .int (nI p)), (3, .int (iI lo)), (4, .int (iI hi)), (5, .int (nI 0))]) C d_E_burn_36 (by decide) rfl ?_
    refine g_aload C rfl d_E_burn_38 ?_
    refine g_ifnonnull (tgt := 51) C d_E_burn_40 (by decide) ?_
    refine g_iload C rfl d_E_burn_51 ?_
    refine g_aload C rfl d_E_burn_53 ?_
    refine gf_E_80 C d_E_burn_55 (by first | assumption | omega) (by repeat' first | assumption | exact up_eq _ _ _ | refine up_ne (by omega) ?_) (by rfl) ?_
    refine g_icmp_le (tgt := 69) C d_E_burn_58 (by decide) (fun j58 => ?_) (fun j58 => ?_)
    rotate_left
    · exact absurd (nI_le (by omega) (by omega)) j58
    refine g_iload C rfl d_E_burn_69 ?_
    refine g_if_ne (tgt := 91) C d_E_burn_71 (by decide) (fun j71 => ?_) (fun j71 => ?_)
    · exact absurd rfl j71
    refine g_aload C rfl d_E_burn_74 ?_
    refine g_aload_n C rfl rfl d_E_burn_76 ?_
    refine gf_E_28 C d_E_burn_77 (by first | assumption | omega) (by repeat' first | assumption | exact up_eq _ _ _ | refine up_ne (by omega) ?_) (by rfl) ?_
    refine g_iload_n C rfl rfl d_E_burn_80 ?_
    refine g_aldq C d_E_burn_81 3 (fun _ => rfl) (by first | assumption | omega) (by repeat' first | assumption | exact up_eq _ _ _ | refine up_ne (by omega) ?_) hin (by rw [hcl]; exact r2 p hp) ?_
    refine gf_E_116 C d_E_burn_82 (by first | assumption | omega) (by repeat' first | assumption | exact up_eq _ _ _ | refine up_ne (by omega) ?_) (by rfl) ?_
    refine g_callV C (c_S_settle (c := cN cc p) (by omega) (by omega) (Or.inr (by omega)) hSk e2 hlo (by omega) (by omega) hhi hT.1 hT.2.1) Y_S_settle m_421 m_422 m_476 rfl rfl ⟨by decide, by decide⟩ ⟨by decide, by decide⟩ (fun h => nomatch h) d_E_burn_85 (by first | assumption | omega) (by repeat' first | assumption | exact up_eq _ _ _ | refine up_ne (by omega) ?_) rfl (Nat.le_of_ble_eq_true rfl) (fun ret sg85 hq => ?_)
    obtain ⟨rfl, uS, uF⟩ := hq
    have uF2 : ∀ j, (j < 28 + 3 * k ∨ 28 + 3 * k + 3 ≤ j) → sg85 j = sg j := fun j q => uF j (by omega)
    have uS1 := uS.1
    have hod := ba_set (Z := Z) (lo := lo) (hi := hi) g4 hk hA e4.2.2 (ho k hk)
    refine g_goto (tgt := 155) C d_E_burn_88 (by decide) ?_
    refine g_aload C rfl d_E_burn_155 ?_
    refine gf_E_80 C d_E_burn_157 (by first | assumption | omega) (by repeat' first | assumption | exact up_eq _ _ _ | refine up_ne (by omega) ?_) (by rfl) ?_
    refine g_iret C E hr d_E_burn_160 ?_
    obtain ⟨ins', owd', hES', hE'⟩ := ER_settle (Z' := zBurn Z p k 0 lo hi) hPU hk hp (by rw [Int32.add_zero]; exact congrArg nI updN_s.symm) hES hEr e4 e1 e2 e3 (by rw [show zow (zBurn Z p k 0 lo hi) k = zow Z k from rfl, show zpl (zBurn Z p k 0 lo hi) k = zpl Z k from rfl, show zlo (zBurn Z p k 0 lo hi) k = lo from g4.2.1, show zhi (zBurn Z p k 0 lo hi) k = hi from g4.2.2, show zam (zBurn Z p k 0 lo hi) k = zam Z k from updN_s]; exact uS) (fun t ht => rfl) hod (fun i q1 q2 => ⟨rfl, (zAdd2_n (by omega) (by omega)).trans (sOd_n (by omega) (by omega)), (zAdd2_n (by omega) (by omega)).trans (sOd_n (by omega) (by omega))⟩) uF2
    exact ⟨rfl, ⟨(uF2 _ (by omega)).trans h0, (uF2 _ (by omega)).trans h1, (uF2 _ (by omega)).trans h2, (uF2 _ (by omega)).trans h3, isR_mv hR (fun j q1 q2 => uF2 _ (by omega)), ⟨f6, (uF2 _ (by omega)).trans r1, r2⟩, ⟨w1, w2, w3, w4, w5, w6, w7, w8, (uF2 _ (by omega)).trans hw8⟩, ⟨v1, v2, v3, v4, v5, v6, v7, v8, (uF2 _ (by omega)).trans hw9⟩, ins', owd', hES', hE' 0 (by decide), hE' 1 (by decide)⟩, fun j q => uF2 _ (by omega)⟩
  · generalize hNe : zWN false L (zpr Z p) (ztk Z p) lo hi = NE at *
    generalize hFe : zWF false L (zpr Z p) (ztk Z p) lo hi = FE at *
    refine g_iload_n C rfl rfl d_E_burn_0 ?_
    refine g_iload_n C rfl rfl d_E_burn_1 ?_
    refine g_iload_n C rfl rfl d_E_burn_2 ?_
    refine g_iload C rfl d_E_burn_3 ?_
    refine g_callS C (c_E_requirePlace (nI a) (nI p) (iI lo) (iI hi) hall) Y_E_requirePlace m_343 m_342 ⟨by decide, by decide⟩ ⟨by decide, by decide⟩ (fun h => nomatch h) d_E_burn_5 rfl (Nat.le_of_ble_eq_true rfl) (fun ret sg5 hq => ?_)
    obtain ⟨rfl, rfl⟩ := hq
    refine g_iload_n C rfl rfl d_E_burn_8 ?_
    refine g_iload C rfl d_E_burn_9 ?_
    refine g_icmp_ge (tgt := 19) C d_E_burn_11 (by decide) (fun j11 => ?_) (fun j11 => ?_)
    · exact absurd ((iI_le (by omega) (by omega) (by omega) (by omega)).mp j11) (by omega)
    refine g_iload C rfl d_E_burn_14 ?_
    refine g_if_ge (tgt := 27) C d_E_burn_16 (by decide) (fun j16 => ?_) (fun j16 => ?_)
    rotate_left
    · exact absurd (nI_pos' (by omega)) j16
    refine g_aload_n C rfl rfl d_E_burn_27 ?_
    refine g_iload_n C rfl rfl d_E_burn_28 ?_
    refine g_iload_n C rfl rfl d_E_burn_29 ?_
    refine g_iload_n C rfl rfl d_E_burn_30 ?_
    refine g_iload C rfl d_E_burn_31 ?_
    refine g_callV C (c_E_find (nI a) (nI p) (iI lo) (iI hi) hn h0 hS) Y_E_find m_219 s_E_find m_217 rfl rfl ⟨by decide, by decide⟩ ⟨by decide, by decide⟩ (fun h => nomatch h) d_E_burn_33 (by first | assumption | omega) (by repeat' first | assumption | exact up_eq _ _ _ | refine up_ne (by omega) ?_) rfl (Nat.le_of_ble_eq_true rfl) (fun ret sg33 hq => ?_)
    obtain ⟨rfl, rfl⟩ := hq
    rw [hfe]
    refine g_astore (lv' := [(6, .ref (ad o (28 + 3 * k))), (0, .ref (ad o 0)), (1, .int (nI a)), (2, .int (nI p)), (3, .int (iI lo)), (4, .int (iI hi)), (5, .int (nI L))]) C d_E_burn_36 (by decide) rfl ?_
    refine g_aload C rfl d_E_burn_38 ?_
    refine g_ifnonnull (tgt := 51) C d_E_burn_40 (by decide) ?_
    refine g_iload C rfl d_E_burn_51 ?_
    refine g_aload C rfl d_E_burn_53 ?_
    refine gf_E_80 C d_E_burn_55 (by first | assumption | omega) (by repeat' first | assumption | exact up_eq _ _ _ | refine up_ne (by omega) ?_) (by rfl) ?_
    refine g_icmp_le (tgt := 69) C d_E_burn_58 (by decide) (fun j58 => ?_) (fun j58 => ?_)
    rotate_left
    · exact absurd (nI_le hL (by omega)) j58
    refine g_iload C rfl d_E_burn_69 ?_
    refine g_if_ne (tgt := 91) C d_E_burn_71 (by decide) (fun j71 => ?_) (fun j71 => ?_)
    rotate_left
    · exact absurd j71 (nI_ne0 (by omega) (by omega))
    refine g_aload_n C rfl rfl d_E_burn_91 ?_
    refine gf_E_28 C d_E_burn_92 (by first | assumption | omega) (by repeat' first | assumption | exact up_eq _ _ _ | refine up_ne (by omega) ?_) (by rfl) ?_
    refine g_iload_n C rfl rfl d_E_burn_95 ?_
    refine g_aldq C d_E_burn_96 3 (fun _ => rfl) (by first | assumption | omega) (by repeat' first | assumption | exact up_eq _ _ _ | refine up_ne (by omega) ?_) hin (by rw [hcl]; exact r2 p hp) ?_
    refine g_aload C rfl d_E_burn_97 ?_
    refine g_iload C rfl d_E_burn_99 ?_
    refine g_ineg C d_E_burn_101 ?_
    refine g_callV C (c_P_add (-nI L) (by omega) (by omega) (by omega) (by omega) (Or.inr (by omega)) e1 e2 hSk hlo hlh hhi hT.1 hT.2.1) Y_P_add m_402 m_403 m_401 rfl rfl ⟨by decide, by decide⟩ ⟨by decide, by decide⟩ (fun h => nomatch h) d_E_burn_102 (by first | assumption | omega) (by repeat' first | assumption | exact up_eq _ _ _ | refine up_ne (by omega) ?_) rfl (Nat.le_of_ble_eq_true rfl) (fun ret sg102 hq => ?_)
    obtain ⟨rfl, uP, uC, uS, uF⟩ := hq
    have u0 : isE sg102 o (zla Z) := (uF 0 (by omega) (by omega) (by omega) (by omega) (by omega)).trans h0
    have u01 : sg102 0 = _ := u0
    have u6 := (uF 6 (by omega) (by omega) (by omega) (by omega) (by omega)).trans r1
    have uR : isR sg102 o 4 := isR_mv hR (fun j q1 q2 => uF j (by omega) (by omega) (by omega) (by omega) (by omega))
    obtain ⟨uS1, uS2, uS3⟩ := id uS
    have uP1 := uP.1
    have hod := ba_add (Z := Z) (lo := lo) (hi := hi) (d := -nI L) g4 hk hA hlo hlh hhi e4.2.1 e4.2.2 (ho k hk) NE FE
    refine g_aload C rfl d_E_burn_105 ?_
    refine gf_E_124 C d_E_burn_107 (by first | assumption | omega) (by repeat' first | assumption | exact up_eq _ _ _ | refine up_ne (by omega) ?_) (by rfl) ?_
    refine g_iconst (v := 0) C rfl d_E_burn_110 ?_
    refine g_dup2 C rfl rfl d_E_burn_111 ?_
    refine g_lald C d_E_burn_112 (by first | assumption | omega) (by repeat' first | assumption | exact up_eq _ _ _ | refine up_ne (by omega) ?_) i0 ?_
    rw [z0]
    refine g_aload_n C rfl rfl d_E_burn_113 ?_
    refine gf_E_28 C d_E_burn_114 (by first | assumption | omega) (by repeat' first | assumption | exact up_eq _ _ _ | refine up_ne (by omega) ?_) (by rfl) ?_
    refine g_iload_n C rfl rfl d_E_burn_117 ?_
    refine g_aldq C d_E_burn_118 3 (fun _ => rfl) (by first | assumption | omega) (by repeat' first | assumption | exact up_eq _ _ _ | refine up_ne (by omega) ?_) hin (by rw [hcl]; exact r2 p hp) ?_
    refine g_iload_n C rfl rfl d_E_burn_119 ?_
    refine g_iload C rfl d_E_burn_120 ?_
    refine g_iload C rfl d_E_burn_122 ?_
    refine g_iconst (v := 0) C rfl d_E_burn_124 ?_
    refine g_callV C (c_P_nearWorth false L lo hi (by omega) (by omega) (by omega) uP uC uR hlo hlh hhi hT.1 hT.2.1 (by have := hT.2.2.1; omega) (fun q1 q2 => tk_hi hT q1 q2 hhi) (by omega)) Y_P_nearWorth m_354 m_355 m_353 rfl rfl ⟨by decide, by decide⟩ ⟨by decide, by decide⟩ (fun h => nomatch h) d_E_burn_125 (by first | assumption | omega) (by repeat' first | assumption | exact up_eq _ _ _ | refine up_ne (by omega) ?_) rfl (Nat.le_of_ble_eq_true rfl) (fun ret sg125 hq => ?_)
    obtain ⟨rfl, rfl⟩ := hq
    rw [hNe]
    refine g_ladd C d_E_burn_128 ?_
    refine g_last C d_E_burn_129 (by first | assumption | omega) (by repeat' first | assumption | exact up_eq _ _ _ | refine up_ne (by omega) ?_) i0 ?_
    rw [z0]
    refine g_aload C rfl d_E_burn_130 ?_
    refine gf_E_124 C d_E_burn_132 (by first | assumption | omega) (by repeat' first | assumption | exact up_eq _ _ _ | refine up_ne (by omega) ?_) (by rfl) ?_
    refine g_iconst (v := 1) C rfl d_E_burn_135 ?_
    refine g_dup2 C rfl rfl d_E_burn_136 ?_
    refine g_lald C d_E_burn_137 (by first | assumption | omega) (by repeat' first | assumption | exact up_eq _ _ _ | refine up_ne (by omega) ?_) i1 ?_
    rw [z1, pk_unL (show 1 ≠ 0 by decide)]
    refine g_aload_n C rfl rfl d_E_burn_138 ?_
    refine gf_E_28 C d_E_burn_139 (by first | assumption | omega) (by repeat' first | assumption | exact up_eq _ _ _ | refine up_ne (by omega) ?_) (by rfl) ?_
    refine g_iload_n C rfl rfl d_E_burn_142 ?_
    refine g_aldq C d_E_burn_143 3 (fun _ => rfl) (by first | assumption | omega) (by repeat' first | assumption | exact up_eq _ _ _ | refine up_ne (by omega) ?_) hin (by rw [hcl]; exact r2 p hp) ?_
    refine g_iload_n C rfl rfl d_E_burn_144 ?_
    refine g_iload C rfl d_E_burn_145 ?_
    refine g_iload C rfl d_E_burn_147 ?_
    refine g_iconst (v := 0) C rfl d_E_burn_149 ?_
    refine g_callV C (c_P_farWorth false L lo hi (by omega) (by omega) (by omega) (isP_mv uP (fun j q1 q2 => (by repeat' first | exact rfl | refine up_ne (by omega) ?_))) (isC_m uC (fun j q1 q2 => (by repeat' first | exact rfl | refine up_ne (by omega) ?_))) (isR_mv uR (fun j q1 q2 => (by repeat' first | exact rfl | refine up_ne (by omega) ?_))) hlo hlh hhi hT.1 hT.2.1 (by have := hT.2.2.2.1; omega) (fun q1 q2 => tk_lo hT hlo q1) (by omega)) Y_P_farWorth m_371 m_372 m_370 rfl rfl ⟨by decide, by decide⟩ ⟨by decide, by decide⟩ (fun h => nomatch h) d_E_burn_150 (by first | assumption | omega) (by repeat' first | assumption | exact up_eq _ _ _ | refine up_ne (by omega) ?_) rfl (Nat.le_of_ble_eq_true rfl) (fun ret sg150 hq => ?_)
    obtain ⟨rfl, rfl⟩ := hq
    rw [hFe]
    refine g_ladd C d_E_burn_153 ?_
    refine g_last C d_E_burn_154 (by first | assumption | omega) (by repeat' first | assumption | exact up_eq _ _ _ | refine up_ne (by omega) ?_) i1 ?_
    rw [z1]
    refine g_aload C rfl d_E_burn_155 ?_
    refine gf_E_80 C d_E_burn_157 (by first | assumption | omega) (by repeat' first | assumption | exact up_eq _ _ _ | refine up_ne (by omega) ?_) (by rfl) ?_
    rw [nI_subn hL]
    refine g_iret C E hr d_E_burn_160 ?_
    have wF : ∀ s : Nat → va_E, (∀ j, j ≠ 28 + 3 * k + 2 → s j = sg102 j) → isS s o (28 + 3 * k) (nI (zow Z k)) (nI (zpl Z k)) (iI lo) (iI hi) (nI (zam Z k) + -nI L) (fun i => cIns (ztk Z p) g (aOu gr (ztk Z p) g ou lo hi (-nI L)) i lo hi) (baN (owd k) (fun i => shr (cIns (ztk Z p) g (aOu gr (ztk Z p) g ou lo hi (-nI L)) i lo hi - ins k i) (nI (zam Z k)).toInt64) NE FE) → EW s o (zBurn Z p k L lo hi) ∧ efr sg s := by
      intro s sF sS
      have sG : ∀ j, j ≠ 10 + 9 * p + 1 → j ≠ 10 + 9 * p + 2 → j ≠ cN cc p → j ≠ cN cc p + 2 → (j < 28 + 3 * k ∨ 28 + 3 * k + 3 ≤ j) → s j = sg j := fun j q1 q2 q3 q4 q5 => (sF j (by omega)).trans (uF j q1 q2 q3 q4 q5)
      have sH : ∀ j, (j < 10 ∨ 64 ≤ j) → s j = sg j := fun j q => sG j (by omega) (by omega) (by omega) (by omega) (by omega)
      rw [nI_subn hL] at sS
      obtain ⟨ins', owd', hES', hE'⟩ := ER_place (Z' := zBurn Z p k L lo hi) hPU hk hp (by rw [show zam (zBurn Z p k L lo hi) k = zam Z k - L from updN_s]; exact nI_subn hL) hA (fun i q => by by_cases e : i = k; (rw [e, show zam (zBurn Z p k L lo hi) k = zam Z k - L from updN_s]; omega); (rw [show zam (zBurn Z p k L lo hi) i = zam Z i from updN_n e]; exact hA i q)) hB hlo hlh hhi hES hEr e4 (isP_mv uP (fun j q1 q2 => sF j (by omega))) (isC_m uC (fun j q1 q2 => sF j (by omega))) e3 (by rw [show zow (zBurn Z p k L lo hi) k = zow Z k from rfl, show zpl (zBurn Z p k L lo hi) k = zpl Z k from rfl, show zlo (zBurn Z p k L lo hi) k = lo from g4.2.1, show zhi (zBurn Z p k L lo hi) k = hi from g4.2.2, show zam (zBurn Z p k L lo hi) k = zam Z k - L from updN_s]; exact sS) (fun t ht => rfl) (by show baN _ _ NE FE 0 = zAdd2 (sOd (zod Z) (zfa Z) (lN (zam Z k)) k) k (lN (zWN false L (zpr Z p) (ztk Z p) lo hi)) (lN (zWF false L (zpr Z p) (ztk Z p) lo hi)) (2 * k) ∧ baN _ _ NE FE 1 = zAdd2 (sOd (zod Z) (zfa Z) (lN (zam Z k)) k) k (lN (zWN false L (zpr Z p) (ztk Z p) lo hi)) (lN (zWF false L (zpr Z p) (ztk Z p) lo hi)) (2 * k + 1); rw [hNe, hFe]; exact hod) (fun i q1 q2 => ⟨rfl, (zAdd2_n (by omega) (by omega)).trans (sOd_n (by omega) (by omega)), (zAdd2_n (by omega) (by omega)).trans (sOd_n (by omega) (by omega))⟩) sG
      exact ⟨⟨(sH _ (by omega)).trans h0, (sH _ (by omega)).trans h1, (sH _ (by omega)).trans h2, (sH _ (by omega)).trans h3, isR_mv hR (fun j q1 q2 => sH _ (by omega)), ⟨f6, (sH _ (by omega)).trans r1, r2⟩, ⟨w1, w2, w3, w4, w5, w6, w7, w8, (sH _ (by omega)).trans hw8⟩, ⟨v1, v2, v3, v4, v5, v6, v7, v8, (sH _ (by omega)).trans hw9⟩, ins', owd', hES', hE' 0 (by decide), hE' 1 (by decide)⟩, fun j q => sH _ (by omega)⟩
    exact ⟨rfl, wF _ (fun j q => (by repeat' first | exact rfl | refine up_ne (by omega) ?_)) ⟨(by repeat' first | assumption | exact up_eq _ _ _ | refine up_ne (by omega) ?_), (by repeat' first | assumption | exact up_eq _ _ _ | refine up_ne (by omega) ?_), (by repeat' first | assumption | exact up_eq _ _ _ | refine up_ne (by omega) ?_)⟩⟩

