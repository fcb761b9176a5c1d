-- ONE PLACE CHANGED; COLLECT
def inB (Z : ZS) (p : Nat) (tz : Int) (k : Nat) : Bool := decide (zpl Z k = p ∧ zlo Z k ≤ tz ∧ tz < zhi Z k)
theorem dsum_congr {b b' : Nat → Bool} {am am' : Nat → Nat} (n : Nat) (h : ∀ k, k < n → (if b k = true then am k else 0) = (if b' k = true then am' k else 0)) : dsum b am n = dsum b' am' n := by
  induction n with
  | zero => rfl
  | succ n ih =>
    unfold dsum
    rw [ih (fun k q => h k (by omega)), h n (by omega)]
theorem zdep_eq (Z : ZS) (p : Nat) (tz : Int) : zdep Z p tz = dsum (inB Z p tz) (zam Z) 12 := dsum_congr 12 (fun k _ => by
  unfold mIn inB
  by_cases h : zam Z k = 0
  · rw [h]; simp
  · rw [show zth Z k = true from swB_t (by omega), Bool.true_and])
theorem EP_z {s : Nat → va_E} {o p : Nat} {Z Z' : ZS} {ins : Nat → Nat → Int64} (h1 : Z'.2.1 = Z.2.1) (h2 : zpl Z' = zpl Z) (h3 : zlo Z' = zlo Z) (h4 : zhi Z' = zhi Z) (h5 : zam Z' = zam Z) (h6 : zfa Z' = zfa Z) (h : EP s o Z ins p) : EP s o Z' ins p := by
  obtain ⟨c, gr, ne, g, ou, pr2, tz2, lq2, g2, oo2, e1, e2, e3, e4, e5, e6⟩ := h
  have f1 : zfee Z' = zfee Z := congrArg (fun x => x.1) h1
  have f2 : zpr Z' = zpr Z := congrArg (fun x => x.2.1) h1
  have f3 : ztk Z' = ztk Z := congrArg (fun x => x.2.2.1) h1
  have f4 : zgw Z' = zgw Z := congrArg (fun x => x.2.2.2) h1
  have f5 : ∀ tz, zdep Z' p tz = zdep Z p tz := fun tz => by
    rw [zdep_eq, zdep_eq, h5]
    unfold inB
    rw [h2, h3, h4]
  refine ⟨c, gr, ne, g, ou, pr2, tz2, lq2, g2, oo2, by rw [f1]; exact e1, by rw [f2, f3, f5]; exact e2, e3, by rw [f4]; exact e4, ?_, ?_⟩
  · intro i hi
    have q := e5 i hi
    unfold loN hiN loB hiB at q ⊢
    rw [h2, h3, h4, h5]
    exact q
  · intro i hi q1 q2
    rw [h2] at q1
    rw [h5] at q2
    rw [f3, h3, h4, h6]
    exact e6 i hi q1 q2
theorem ES_up {s s' : Nat → va_E} {o k : Nat} {Z Z' : ZS} {ins owd ins' owd' : Nat → Nat → Int64} (h : ES s o Z ins owd) (hS : isS s' o (28 + 3 * k) (nI (zow Z' k)) (nI (zpl Z' k)) (iI (zlo Z' k)) (iI (zhi Z' k)) (nI (zam Z' k)) (ins' k) (owd' k)) (e7 : s' 7 = s 7) (e : ∀ j, 28 ≤ j → j ≤ 63 → (j < 28 + 3 * k ∨ 28 + 3 * k + 2 < j) → s' j = s j) (hk2 : owd' k 0 = zod Z' (2 * k) ∧ owd' k 1 = zod Z' (2 * k + 1)) (ho : ∀ i, i < 12 → i ≠ k → zow Z' i = zow Z i ∧ zpl Z' i = zpl Z i ∧ zlo Z' i = zlo Z i ∧ zhi Z' i = zhi Z i ∧ zam Z' i = zam Z i ∧ ins' i = ins i ∧ owd' i = owd i ∧ zod Z' (2 * i) = zod Z (2 * i) ∧ zod Z' (2 * i + 1) = zod Z (2 * i + 1)) : ES s' o Z' ins' owd' := by
  obtain ⟨⟨f, h1, h2, h3⟩, h4⟩ := h
  refine ⟨⟨f, e7.trans h1, h2, fun i hi => ?_⟩, fun i hi => ?_⟩
  · by_cases q : i = k
    · subst q; exact hS
    · obtain ⟨o1, o2, o3, o4, o5, o6, o7, -, -⟩ := ho i hi q
      have z := isS_m (h3 i hi) (s' := s') (fun j q1 q2 => e j (by omega) (by omega) (by omega))
      show isS s' o (28 + 3 * i) (nI (zow Z' i)) (nI (zpl Z' i)) (iI (zlo Z' i)) (iI (zhi Z' i)) (nI (zam Z' i)) (ins' i) (owd' i)
      rw [o1, o2, o3, o4, o5, o6, o7]
      exact z
  · by_cases q : i = k
    · subst q; exact hk2
    · obtain ⟨-, -, -, -, -, -, o7, o8, o9⟩ := ho i hi q
      rw [o7, o8, o9]
      exact h4 i hi
def updO (f : Nat → Nat → Int64) (k : Nat) (x : Nat → Int64) : Nat → Nat → Int64 := fun j => if j = k then x else f j
theorem updO_s {f : Nat → Nat → Int64} {k : Nat} {x : Nat → Int64} : updO f k x k = x := if_pos rfl
theorem updO_n {f : Nat → Nat → Int64} {k : Nat} {x : Nat → Int64} {j : Nat} (h : j ≠ k) : updO f k x j = f j := if_neg h
theorem t_E_coll1 {l : Launch} {o n : Nat} {sg : Nat → va_E} {Z : ZS} (hfl : l.flags = flags0) (a b c d : Int32) (h : ¬ okPl a b c d) : GT l y_E_collect b_E_collect 10 (some .long) 8 144 o n sg [.ref (ad o 0), .int a, .int b, .int c, .int d] "java/lang/IndexOutOfBoundsException" (fun s => s = sg) := by
  refine GT_of (by decide) (Nat.le_of_ble_eq_true rfl) ?_
  intro K C hl ha hh ET
  have hfl2 : (xl K).flags = flags0 := by rw [hl]; exact hfl
  have htr := tr_off (by rw [hl]; exact hfl) ha
  show G K o n sg 0 0 0 [(0, .ref (ad o 0)), (1, .int a), (2, .int b), (3, .int c), (4, .int d)] []
  refine g_iload_n C rfl rfl d_E_collect_0 ?_
  refine g_iload_n C rfl rfl d_E_collect_1 ?_
  refine g_iload_n C rfl rfl d_E_collect_2 ?_
  refine g_iload C rfl d_E_collect_3 ?_
  exact g_callST C hh ET (t_E_requirePlace hfl2 a b c d h) Y_E_requirePlace m_343 m_342 ⟨by decide, by decide⟩ ⟨by decide, by decide⟩ d_E_collect_5 rfl (Nat.le_of_ble_eq_true rfl)
theorem t_E_coll2 {l : Launch} {o n : Nat} {sg : Nat → va_E} {Z : ZS} (hfl : l.flags = flags0) (a b c d : Int32) (hn : 64 ≤ n) (hW : EW sg o Z) (hA : ∀ i, i < 12 → zam Z i ≤ 50000000) (h : okPl a b c d) (hf : zFind Z a b c d = none) : GT l y_E_collect b_E_collect 10 (some .long) 8 144 o n sg [.ref (ad o 0), .int a, .int b, .int c, .int d] "java/util/NoSuchElementException" (fun s => s = sg) := by
  obtain ⟨h0, h1, h2, h3, hER⟩ := id hW
  have he1 : sg 0 = _ := h0
  obtain ⟨-, -, -, -, ins, owd, ⟨hS, ho⟩, -, -⟩ := hER
  have hfe := find_eq hA ho a b c d
  rw [hf] at hfe
  refine GT_of (by decide) (Nat.le_of_ble_eq_true rfl) ?_
  intro K C hl ha hh ET
  have hfl2 : (xl K).flags = flags0 := by rw [hl]; exact hfl
  have htr := tr_off (by rw [hl]; exact hfl) ha
  show G K o n sg 0 0 0 [(0, .ref (ad o 0)), (1, .int a), (2, .int b), (3, .int c), (4, .int d)] []
  refine g_iload_n C rfl rfl d_E_collect_0 ?_
  refine g_iload_n C rfl rfl d_E_collect_1 ?_
  refine g_iload_n C rfl rfl d_E_collect_2 ?_
  refine g_iload C rfl d_E_collect_3 ?_
  refine g_callS C (c_E_requirePlace a b c d h) Y_E_requirePlace m_343 m_342 ⟨by decide, by decide⟩ ⟨by decide, by decide⟩ (fun h => nomatch h) d_E_collect_5 rfl (Nat.le_of_ble_eq_true rfl) (fun ret sg5 hq => ?_)
  obtain ⟨rfl, rfl⟩ := hq
  refine g_aload_n C rfl rfl d_E_collect_8 ?_
  refine g_iload_n C rfl rfl d_E_collect_9 ?_
  refine g_iload_n C rfl rfl d_E_collect_10 ?_
  refine g_iload_n C rfl rfl d_E_collect_11 ?_
  refine g_iload C rfl d_E_collect_12 ?_
  refine g_callV C (c_E_find a b c d hn h0 hS) Y_E_find m_219 s_E_find m_217 rfl rfl ⟨by decide, by decide⟩ ⟨by decide, by decide⟩ (fun h => nomatch h) d_E_collect_14 (by first | assumption | omega) (by repeat' first | assumption | exact up_eq _ _ _ | refine up_ne (by omega) ?_) rfl (Nat.le_of_ble_eq_true rfl) (fun ret sg14 hq => ?_)
  obtain ⟨rfl, rfl⟩ := hq
  rw [hfe]
  refine g_astoreN (lv' := [(5, .null), (0, .ref (ad o 0)), (1, .int a), (2, .int b), (3, .int c), (4, .int d)]) C d_E_collect_17 (by decide) rfl ?_
  refine g_aloadN C rfl d_E_collect_19 ?_
  refine g_ifnonnullN C d_E_collect_21 ?_
  refine g_throw C ha hh ET htr gtw_N m_461 m_462 m_16 (by decide) d_E_collect_24 d_E_collect_27 d_E_collect_28 d_E_collect_31 (by decide) (Nat.le_of_ble_eq_true rfl) (by decide) (by decide) rfl
theorem c_E_collect {l : Launch} {o n : Nat} {sg : Nat → va_E} {Z : ZS} (a p k : Nat) (c d : Int32) (hn : 64 ≤ n) (hW : EW sg o Z) (hA : ∀ i, i < 12 → zam Z i ≤ 50000000) (ha : a < 4) (hp : p < 2) (h : okPl (nI a) (nI p) c d) (hf : zFind Z (nI a) (nI p) c d = some k) : GM l y_E_collect b_E_collect 10 (some .long) 8 144 0 0 o n n sg false [.ref (ad o 0), .int (nI a), .int (nI p), .int c, .int d] (fun r0 s => some (.long (zod Z (2 * k) + zod Z (2 * k + 1))) = r0 ∧ EW s o (zColl Z a p k) ∧ efr sg s) := by
  obtain ⟨h0, h1, h2, h3, hER⟩ := id hW
  have he1 : sg 0 = _ := h0
  obtain ⟨hR, ⟨f6, r1, r2⟩, ⟨w1, w2, w3, w4, w5, w6, w7, w8, hw8⟩, ⟨v1, v2, v3, v4, v5, v6, v7, v8, hw9⟩, ins, owd, hES, hE0, hE1⟩ := hER
  obtain ⟨hS, ho⟩ := id hES
  have hfe := find_eq hA ho (nI a) (nI p) c d
  rw [hf] at hfe
  have hk := (fnd_some hf).1
  obtain ⟨f, hf1, hf2, hf3⟩ := id hS
  obtain ⟨s1, s2, s3⟩ := hf3 k hk
  have i0 : vp_in (0 : Int32) 2 := vp_in_nI (n := 0) (by decide) (by decide)
  have i1 : vp_in (1 : Int32) 2 := vp_in_nI (n := 1) (by decide) (by decide)
  have z0 : (0 : Int32).toNatClampNeg = 0 := rfl
  have z1 : (1 : Int32).toNatClampNeg = 1 := rfl
  refine GM_of (by decide) (Nat.le_of_ble_eq_true rfl) ?_
  intro K C hl hz hr hnm E
  show G K o n sg 0 0 0 [(0, .ref (ad o 0)), (1, .int (nI a)), (2, .int (nI p)), (3, .int c), (4, .int d)] []
  refine g_iload_n C rfl rfl d_E_collect_0 ?_
  refine g_iload_n C rfl rfl d_E_collect_1 ?_
  refine g_iload_n C rfl rfl d_E_collect_2 ?_
  refine g_iload C rfl d_E_collect_3 ?_
  refine g_callS C (c_E_requirePlace (nI a) (nI p) c d h) Y_E_requirePlace m_343 m_342 ⟨by decide, by decide⟩ ⟨by decide, by decide⟩ (fun h => nomatch h) d_E_collect_5 rfl (Nat.le_of_ble_eq_true rfl) (fun ret sg5 hq => ?_)
  obtain ⟨rfl, rfl⟩ := hq
  refine g_aload_n C rfl rfl d_E_collect_8 ?_
  refine g_iload_n C rfl rfl d_E_collect_9 ?_
  refine g_iload_n C rfl rfl d_E_collect_10 ?_
  refine g_iload_n C rfl rfl d_E_collect_11 ?_
  refine g_iload C rfl d_E_collect_12 ?_
  refine g_callV C (c_E_find (nI a) (nI p) c d hn h0 hS) Y_E_find m_219 s_E_find m_217 rfl rfl ⟨by decide, by decide⟩ ⟨by decide, by decide⟩ (fun h => nomatch h) d_E_collect_14 (by first | assumption | omega) (by repeat' first | assumption | exact up_eq _ _ _ | refine up_ne (by omega) ?_) rfl (Nat.le_of_ble_eq_true rfl) (fun ret sg14 hq => ?_)
  obtain ⟨rfl, rfl⟩ := hq
  rw [hfe]
  refine g_astore (lv' := [(5, .ref (ad o (28 + 3 * k))), (0, .ref (ad o 0)), (1, .int (nI a)), (2, .int (nI p)), (3, .int c), (4, .int d)]) C d_E_collect_17 (by decide) rfl ?_
  refine g_aload C rfl d_E_collect_19 ?_
  refine g_ifnonnull (tgt := 32) C d_E_collect_21 (by decide) ?_
  refine g_aload C rfl d_E_collect_32 ?_
  refine gf_E_124 C d_E_collect_34 (by first | assumption | omega) (by repeat' first | assumption | exact up_eq _ _ _ | refine up_ne (by omega) ?_) (by rfl) ?_
  refine g_iconst (v := 0) C rfl d_E_collect_37 ?_
  refine g_lald C d_E_collect_38 (by first | assumption | omega) (by repeat' first | assumption | exact up_eq _ _ _ | refine up_ne (by omega) ?_) i0 ?_
  rw [z0, (ho k hk).1]
  refine g_lstore (lv' := [(6, .long (zod Z (2 * k))), (5, .ref (ad o (28 + 3 * k))), (0, .ref (ad o 0)), (1, .int (nI a)), (2, .int (nI p)), (3, .int c), (4, .int d)]) C d_E_collect_39 (by decide) rfl ?_
  refine g_aload C rfl d_E_collect_41 ?_
  refine gf_E_124 C d_E_collect_43 (by first | assumption | omega) (by repeat' first | assumption | exact up_eq _ _ _ | refine up_ne (by omega) ?_) (by rfl) ?_
  refine g_iconst (v := 1) C rfl d_E_collect_46 ?_
  refine g_lald C d_E_collect_47 (by first | assumption | omega) (by repeat' first | assumption | exact up_eq _ _ _ | refine up_ne (by omega) ?_) i1 ?_
  rw [z1, (ho k hk).2]
  refine g_lstore (lv' := [(8, .long (zod Z (2 * k + 1))), (6, .long (zod Z (2 * k))), (5, .ref (ad o (28 + 3 * k))), (0, .ref (ad o 0)), (1, .int (nI a)), (2, .int (nI p)), (3, .int c), (4, .int d)]) C d_E_collect_48 (by decide) rfl ?_
  refine g_aload C rfl d_E_collect_50 ?_
  refine gf_E_124 C d_E_collect_52 (by first | assumption | omega) (by repeat' first | assumption | exact up_eq _ _ _ | refine up_ne (by omega) ?_) (by rfl) ?_
  refine g_iconst (v := 0) C rfl d_E_collect_55 ?_
  refine g_lconst (v := 0) C rfl d_E_collect_56 ?_
  refine g_last C d_E_collect_57 (by first | assumption | omega) (by repeat' first | assumption | exact up_eq _ _ _ | refine up_ne (by omega) ?_) i0 ?_
  rw [z0]
  refine g_aload C rfl d_E_collect_58 ?_
  refine gf_E_124 C d_E_collect_60 (by first | assumption | omega) (by repeat' first | assumption | exact up_eq _ _ _ | refine up_ne (by omega) ?_) (by rfl) ?_
  refine g_iconst (v := 1) C rfl d_E_collect_63 ?_
  refine g_lconst (v := 0) C rfl d_E_collect_64 ?_
  refine g_last C d_E_collect_65 (by first | assumption | omega) (by repeat' first | assumption | exact up_eq _ _ _ | refine up_ne (by omega) ?_) i1 ?_
  rw [z1]
  refine g_aload_n C rfl rfl d_E_collect_66 ?_
  refine g_iload_n C rfl rfl d_E_collect_67 ?_
  refine g_iload_n C rfl rfl d_E_collect_68 ?_
  refine g_iconst (v := 0) C rfl d_E_collect_69 ?_
  refine g_iadd C d_E_collect_70 ?_
  rw [Int32.add_zero]
  refine g_lload C rfl d_E_collect_71 ?_
  refine g_callV C (c_E_payOut (la := zla Z) (bal := zbal Z) (hol := zhol Z) a p (zod Z (2 * k)) hn (by unfold isE; exact (by repeat' first | assumption | exact up_eq _ _ _ | refine up_ne (by omega) ?_)) (by repeat' first | assumption | exact up_eq _ _ _ | refine up_ne (by omega) ?_) (by repeat' first | assumption | exact up_eq _ _ _ | refine up_ne (by omega) ?_) ha (by omega)) Y_E_payOut m_486 s_E_payOut m_484 rfl rfl ⟨by decide, by decide⟩ ⟨by decide, by decide⟩ (fun h => nomatch h) d_E_collect_73 (by first | assumption | omega) (by repeat' first | assumption | exact up_eq _ _ _ | refine up_ne (by omega) ?_) rfl (Nat.le_of_ble_eq_true rfl) (fun ret sg73 hq => ?_)
  obtain ⟨rfl, rfl⟩ := hq
  refine g_aload_n C rfl rfl d_E_collect_76 ?_
  refine g_iload_n C rfl rfl d_E_collect_77 ?_
  refine g_iload_n C rfl rfl d_E_collect_78 ?_
  refine g_iconst (v := 1) C rfl d_E_collect_79 ?_
  refine g_iadd C d_E_collect_80 ?_
  rw [nI_1]
  refine g_lload C rfl d_E_collect_81 ?_
  refine g_callV C (c_E_payOut (la := zla Z) (bal := vp_updL (zbal Z) (a * 3 + p) (zbal Z (a * 3 + p) + zod Z (2 * k))) (hol := vp_updL (zhol Z) p (zhol Z p - zod Z (2 * k))) a (p + 1) (zod Z (2 * k + 1)) hn (by unfold isE; exact (by repeat' first | assumption | exact up_eq _ _ _ | refine up_ne (by omega) ?_)) (by repeat' first | assumption | exact up_eq _ _ _ | refine up_ne (by omega) ?_) (by repeat' first | assumption | exact up_eq _ _ _ | refine up_ne (by omega) ?_) ha (by omega)) Y_E_payOut m_486 s_E_payOut m_484 rfl rfl ⟨by decide, by decide⟩ ⟨by decide, by decide⟩ (fun h => nomatch h) d_E_collect_83 (by first | assumption | omega) (by repeat' first | assumption | exact up_eq _ _ _ | refine up_ne (by omega) ?_) rfl (Nat.le_of_ble_eq_true rfl) (fun ret sg83 hq => ?_)
  obtain ⟨rfl, rfl⟩ := hq
  refine g_lload C rfl d_E_collect_86 ?_
  refine g_lload C rfl d_E_collect_88 ?_
  refine g_ladd C d_E_collect_90 ?_
  refine g_lret C E hr d_E_collect_91 ?_
  refine ⟨rfl, ⟨by unfold isE; exact (by repeat' first | assumption | exact up_eq _ _ _ | refine up_ne (by omega) ?_), (by repeat' first | assumption | exact up_eq _ _ _ | refine up_ne (by omega) ?_), (by repeat' first | assumption | exact up_eq _ _ _ | refine up_ne (by omega) ?_), (by repeat' first | assumption | exact up_eq _ _ _ | refine up_ne (by omega) ?_), isR_mv hR (fun j q1 q2 => by repeat' first | exact rfl | refine up_ne (by omega) ?_), ⟨f6, (by repeat' first | assumption | exact up_eq _ _ _ | refine up_ne (by omega) ?_), r2⟩, ⟨w1, w2, w3, w4, w5, w6, w7, w8, (by repeat' first | assumption | exact up_eq _ _ _ | refine up_ne (by omega) ?_)⟩, ⟨v1, v2, v3, v4, v5, v6, v7, v8, (by repeat' first | assumption | exact up_eq _ _ _ | refine up_ne (by omega) ?_)⟩, ins, updO owd k (vp_updL (vp_updL (owd k) 0 0) 1 0), ?_, ?_, ?_⟩, fun j q => by repeat' first | exact rfl | refine up_ne (by omega) ?_⟩
  · refine ES_up (Z := Z) hES ⟨(by repeat' first | assumption | exact up_eq _ _ _ | refine up_ne (by omega) ?_), (by repeat' first | assumption | exact up_eq _ _ _ | refine up_ne (by omega) ?_), by rw [updO_s]; exact (by repeat' first | assumption | exact up_eq _ _ _ | refine up_ne (by omega) ?_)⟩ (by repeat' first | exact rfl | refine up_ne (by omega) ?_) (fun j q1 q2 q3 => by repeat' first | exact rfl | refine up_ne (by omega) ?_) ?_ (fun i q1 q2 => ⟨rfl, rfl, rfl, rfl, rfl, rfl, updO_n q2, ?_, ?_⟩)
    · rw [updO_s]
      exact ⟨(pk_unL (by decide)).trans (pk_usL.trans ((pk_unL (by omega)).trans pk_usL).symm), pk_usL.trans pk_usL.symm⟩
    · exact (pk_unL (by omega)).trans (pk_unL (by omega))
    · exact (pk_unL (by omega)).trans (pk_unL (by omega))
  · exact EP_z (Z := Z) rfl rfl rfl rfl rfl rfl (EP_mv hE0 (fun j q1 q2 => by repeat' first | exact rfl | refine up_ne (by omega) ?_))
  · exact EP_z (Z := Z) rfl rfl rfl rfl rfl rfl (EP_mv hE1 (fun j q1 q2 => by repeat' first | exact rfl | refine up_ne (by omega) ?_))

