-- A SWAP TRIED
theorem neg_lN {r : Nat} (h : r < 2 ^ 63) : ¬ (0 : Int64) < -lN r := by
  rw [Int64.lt_iff_toInt_lt, show (-lN r).toInt = -(r : Int) from Int64.toInt_neg_ofNat_of_le (by omega), show (0 : Int64).toInt = 0 from by decide]
  omega
set_option maxHeartbeats 8000000 in
theorem c_T_run {l : Launch} {o n : Nat} {sg : Nat → va_E} {k kr kp kc f kn : Nat} {gr ne : Nat → Int32} {st : Nat → Bool} {dep : Int → Nat} {dn ex : Bool} {w1 w2 w3 w4 w5 w6 w7 w8 : Value} {S r M : Nat} {tz tz0 : Int} {pr0 a : Int64} {lq0 : Int32} {g ou g0 ou0 : Nat → Int64} {xf : X7} (hkr : kr + 1 < k) (hk : k < kp) (hkn : kp + 3 ≤ kn) (hkc : kp + 3 ≤ kc) (hcn : kn + 3 ≤ kc ∨ kc + 3 ≤ kn) (hc : kc + 2 < n) (hn2 : kn + 2 < n) (hT : sg k = eO 6 [.ref (ad o kr), w1, w2, w3, w4, w5, w6, w7, w8]) (hPl : isP sg o kp kr f kn kc gr ne) (hN : isC sg o kn (lN S) tz (nI (dep tz)) g ou) (hC : isC sg o kc pr0 tz0 lq0 g0 ou0) (hR : isR sg o kr) (hD : DepOk st gr ne dep) (hf : f ≤ 100) (hM : rt 0 ≤ M) (hM2 : M ≤ rt 80) (hr0 : 0 < r) (hI : QI dn M (S, tz, r, 0, 0)) (ha : a = if ex = true then lN r else -lN r) (hxf : xf = cRun dn ex f M st gr dep 100 ((S, tz, r, 0, 0), g, ou)) :
    GM l y_T_run b_T_run 8 none 6 145 0 0 o n n sg false [.ref (ad o k), .ref (ad o kp), .int (bz dn), .long a, .long (lN M)] (fun r0 s => none = r0 ∧ isT s o k kr kp kc dn ex (lN xf.1.2.2.1) (lN M) xf.1.2.2.2.1 xf.1.2.2.2.2 ∧ isC s o kc (lN xf.1.1) xf.1.2.1 (nI (dep xf.1.2.1)) xf.2.1 xf.2.2 ∧ QI dn M xf.1 ∧ ∀ j, j ≠ k → (j < kc ∨ kc + 3 ≤ j) → s j = sg j) := by
  have hz0 := rt_z
  have ht80 := rt_top
  have hp1 := hPl.1
  refine GM_of (by decide) (Nat.le_of_ble_eq_true rfl) ?_
  intro K C hl hz hr hnm E
  show G K o n sg 0 0 0 [(0, .ref (ad o k)), (1, .ref (ad o kp)), (2, .int (bz dn)), (3, .long a), (5, .long (lN M))] []
  have exit : ∀ (s : Nat → va_E) (x : X7) (i : Nat), i ≤ 100 → zDn M x.1 → x = xf → QI dn M x.1 → isT s o k kr kp kc dn ex (lN x.1.2.2.1) (lN M) x.1.2.2.2.1 x.1.2.2.2.2 → isC s o kc (lN x.1.1) x.1.2.1 (nI (dep x.1.2.1)) x.2.1 x.2.2 → (∀ j, j ≠ k → (j < kc ∨ kc + 3 ≤ j) → s j = sg j) → G K o n s 0 0 72 [(7, .int (nI i)), (0, .ref (ad o k)), (1, .ref (ad o kp)), (2, .int (bz dn)), (3, .long a), (5, .long (lN M))] [] := by
    intro s x i hi hdn hx hq sT sC sF
    subst hx
    have st1 : s k = _ := sT
    have sc1 := sC.1
    have b1 : x.1.2.2.1 < 2 ^ 63 := Nat.lt_of_le_of_lt hq.2.1 (by decide)
    have b2 : x.1.1 < 2 ^ 63 := Nat.lt_trans hq.1.2.2.2.1 (by decide)
    refine g_iload C rfl d_T_run_72 ?_
    refine g_sipush (v := 1000) C rfl d_T_run_74 ?_
    refine g_icmp_ge (tgt := 112) C d_T_run_77 (by decide) (fun j77 => ?_) (fun j77 => ?_)
    · exact absurd j77 (nI_ge (a := i) (b := 1000) (by omega) (by decide))
    refine g_aload_n C rfl rfl d_T_run_80 ?_
    refine gf_T_38 C d_T_run_81 (by first | assumption | omega) (by repeat' first | assumption | exact up_eq _ _ _ | refine up_ne (by omega) ?_) (by rfl) ?_
    refine g_lconst (v := 0) C rfl d_T_run_84 ?_
    refine g_lcmp_eq (tgt := 112) C d_T_run_85 d_T_run_86 (by decide) (fun j85 => ?_) (fun j85 => ?_)
    · refine g_vret C E hr d_T_run_112 ⟨rfl, sT, sC, hq, sF⟩
    · refine g_aload_n C rfl rfl d_T_run_89 ?_
      refine gf_T_28 C d_T_run_90 (by first | assumption | omega) (by repeat' first | assumption | exact up_eq _ _ _ | refine up_ne (by omega) ?_) (by rfl) ?_
      refine gf_T_51 C d_T_run_93 (by first | assumption | omega) (by repeat' first | assumption | exact up_eq _ _ _ | refine up_ne (by omega) ?_) (by rfl) ?_
      refine g_lload C rfl d_T_run_96 ?_
      refine g_lcmp_eq (tgt := 112) C d_T_run_98 d_T_run_99 (by decide) (fun j98 => ?_) (fun j98 => ?_)
      · refine g_vret C E hr d_T_run_112 ⟨rfl, sT, sC, hq, sF⟩
      · exact absurd hdn (fun q => q.elim (fun q => j85 ((lN_ne0 b1).mpr q)) (fun q => j98 (congrArg lN q)))
  have loop : ∀ (m : Nat) (s : Nat → va_E) (x : X7) (i : Nat), i + m = 100 → (zDn M x.1 ∨ zMu dn x.1 < m) → cRun dn ex f M st gr dep m x = xf → QI dn M x.1 → isT s o k kr kp kc dn ex (lN x.1.2.2.1) (lN M) x.1.2.2.2.1 x.1.2.2.2.2 → isC s o kc (lN x.1.1) x.1.2.1 (nI (dep x.1.2.1)) x.2.1 x.2.2 → (∀ j, j ≠ k → (j < kc ∨ kc + 3 ≤ j) → s j = sg j) → G K o n s 0 0 72 [(7, .int (nI i)), (0, .ref (ad o k)), (1, .ref (ad o kp)), (2, .int (bz dn)), (3, .long a), (5, .long (lN M))] [] := by
    intro m
    induction m with
    | zero =>
      intro s x i hi hd hx hq sT sC sF
      exact exit s x i (by omega) (hd.elim id (fun q => absurd q (Nat.not_lt_zero _))) hx hq sT sC sF
    | succ m ih =>
      intro s x i hi hd hx hq sT sC sF
      by_cases hdn : zDn M x.1
      · exact exit s x i (by omega) hdn (by rw [cRun_done hdn] at hx; exact hx) hq sT sC sF
      · have st1 : s k = _ := sT
        have sc1 := sC.1
        have b1 : x.1.2.2.1 < 2 ^ 63 := Nat.lt_of_le_of_lt hq.2.1 (by decide)
        have b2 : x.1.1 < 2 ^ 63 := Nat.lt_trans hq.1.2.2.2.1 (by decide)
        have b3 : M < 2 ^ 63 := by omega
        have sP : isP s o kp kr f kn kc gr ne := isP_mv hPl (fun j q1 q2 => sF j (by omega) (by omega))
        have sR : isR s o kr := isR_mv hR (fun j q1 q2 => sF j (by omega) (by omega))
        obtain ⟨hlt, hT0, hdd, hrg⟩ := zQ_facts (ex := ex) (f := f) (st := st) (dep := dep) hM hM2 hq hdn
        obtain ⟨n1, n2, n3, n4⟩ := nx_ok (st := st) hq.1 hM hM2 hlt
        obtain ⟨ok1, ok2⟩ := zQ_ok (ex := ex) (f := f) (st := st) (dep := dep) hM hM2 hq hdn
        rw [cRun_go hdn] at hx
        refine g_iload C rfl d_T_run_72 ?_
        refine g_sipush (v := 1000) C rfl d_T_run_74 ?_
        refine g_icmp_ge (tgt := 112) C d_T_run_77 (by decide) (fun j77 => ?_) (fun j77 => ?_)
        · exact absurd j77 (nI_ge (a := i) (b := 1000) (by omega) (by decide))
        refine g_aload_n C rfl rfl d_T_run_80 ?_
        refine gf_T_38 C d_T_run_81 (by first | assumption | omega) (by repeat' first | assumption | exact up_eq _ _ _ | refine up_ne (by omega) ?_) (by rfl) ?_
        refine g_lconst (v := 0) C rfl d_T_run_84 ?_
        refine g_lcmp_eq (tgt := 112) C d_T_run_85 d_T_run_86 (by decide) (fun j85 => ?_) (fun j85 => ?_)
        · exact absurd (Or.inl ((lN_ne0 b1).mp j85)) hdn
        refine g_aload_n C rfl rfl d_T_run_89 ?_
        refine gf_T_28 C d_T_run_90 (by first | assumption | omega) (by repeat' first | assumption | exact up_eq _ _ _ | refine up_ne (by omega) ?_) (by rfl) ?_
        refine gf_T_51 C d_T_run_93 (by first | assumption | omega) (by repeat' first | assumption | exact up_eq _ _ _ | refine up_ne (by omega) ?_) (by rfl) ?_
        refine g_lload C rfl d_T_run_96 ?_
        refine g_lcmp_eq (tgt := 112) C d_T_run_98 d_T_run_99 (by decide) (fun j98 => ?_) (fun j98 => ?_)
        · exact absurd (Or.inr ((pk_lEQ b2 b3).mp j98)) hdn
        refine g_aload_n C rfl rfl d_T_run_102 ?_
        refine g_callV C (c_T_step (st := st) hkr hk hkc hc sT sP sC sR hD.2.1 hf hq.2.1 (hD.1 _) hq.1.2.2.1 hq.1.2.2.2.1 (by omega) (by omega) hq.1.1 hq.1.2.1 n2 hq.2.2 n3 rfl rfl rfl) Y_T_step m_519 s_T_step m_517 rfl rfl ⟨by decide, by decide⟩ ⟨by decide, by decide⟩ (fun h => nomatch h) d_T_run_103 (by first | assumption | omega) (by repeat' first | assumption | exact up_eq _ _ _ | refine up_ne (by omega) ?_) rfl (Nat.le_of_ble_eq_true rfl) (fun ret sg103 hq => ?_)
        obtain ⟨rfl, eT, eC, eF⟩ := hq
        rw [lq_next (P := zPr dn ex f (dep x.1.2.1) x.1.1 (zTg dn (zNx dn st x.1.2.1) M) x.1.2.2.1) hD hq.1 hM hM2 hlt rfl rfl hrg] at eC
        obtain ⟨i1, e_i1⟩ : ∃ y : Int32, ((nI i)) + Int32.ofInt 1 = y := ⟨_, rfl⟩
        refine g_iinc (lv' := [(7, .int i1), (0, .ref (ad o k)), (1, .ref (ad o kp)), (2, .int (bz dn)), (3, .long a), (5, .long (lN M))]) C d_T_run_106 rfl e_i1 (by decide) rfl ?_
        refine g_goto (tgt := 72) C d_T_run_109 (by decide) ?_
        rw [show i1 = nI (i + 1) from by rw [← e_i1]; exact nI_1 i]
        exact ih sg103 (cQ dn ex f M st gr dep x) (i + 1) (by omega) (ok2.elim Or.inl (fun q => Or.inr (by rcases hd with d | d; exact absurd d hdn; show zMu dn (zQ dn ex f M st dep x.1) < m; omega))) hx ok1 eT eC (fun j q1 q2 => (eF j q1 q2).trans (sF j q1 q2))
  have hmu := zMu_le hI
  cases dn
  · cases ex
    · have ha2 : a = -lN r := ha
      have hr63 : r < 2 ^ 63 := Nat.lt_of_le_of_lt hI.2.1 (by decide)
      have hsg : ¬ 0 < a := by rw [ha2]; exact neg_lN hr63
      subst ha2
      refine g_aload_n C rfl rfl d_T_run_0 ?_
      refine g_callV C (c_P_startTrial (by omega) hc hn2 (by omega) hPl hC hN) Y_P_startTrial m_507 m_508 m_506 rfl rfl ⟨by decide, by decide⟩ ⟨by decide, by decide⟩ (fun h => nomatch h) d_T_run_1 (by first | assumption | omega) (by repeat' first | assumption | exact up_eq _ _ _ | refine up_ne (by omega) ?_) rfl (Nat.le_of_ble_eq_true rfl) (fun ret sg1 hq => ?_)
      obtain ⟨rfl, tC, tF⟩ := hq
      have tk1 : sg1 k = _ := (tF k (by omega)).trans hT
      obtain ⟨tp1, tp2, tp3⟩ := isP_mv hPl (fun j q1 q2 => tF j (by omega))
      obtain ⟨tc1, tc2, tc3⟩ := id tC
      refine g_aload_n C rfl rfl d_T_run_4 ?_
      refine g_aload_n C rfl rfl d_T_run_5 ?_
      refine pf_T_20 C d_T_run_6 rfl rfl (by first | assumption | omega) (by repeat' first | assumption | exact up_eq _ _ _ | refine up_ne (by omega) ?_) (by exact Nat.le_of_ble_eq_true rfl) ?_
      refine g_aload_n C rfl rfl d_T_run_9 ?_
      refine g_aload_n C rfl rfl d_T_run_10 ?_
      refine gf_T_24 C d_T_run_11 (by first | assumption | omega) (by repeat' first | assumption | exact up_eq _ _ _ | refine up_ne (by omega) ?_) (by rfl) ?_
      refine pf_T_28 C d_T_run_14 rfl rfl (by first | assumption | omega) (by repeat' first | assumption | exact up_eq _ _ _ | refine up_ne (by omega) ?_) (by exact Nat.le_of_ble_eq_true rfl) ?_
      refine g_aload_n C rfl rfl d_T_run_17 ?_
      refine g_iload_n C rfl rfl d_T_run_18 ?_
      refine pf_T_31 C d_T_run_19 rfl rfl (by first | assumption | omega) (by repeat' first | assumption | exact up_eq _ _ _ | refine up_ne (by omega) ?_) (by exact Nat.le_of_ble_eq_true rfl) ?_
      refine g_aload_n C rfl rfl d_T_run_22 ?_
      refine g_lload_n C rfl rfl d_T_run_23 ?_
      refine g_lconst (v := 0) C rfl d_T_run_24 ?_
      refine g_lcmp_le (tgt := 33) C d_T_run_25 d_T_run_26 (by decide) (fun j25 => ?_) (fun j25 => ?_)
      rotate_left
      · exact absurd (Int64.not_lt.mp hsg) j25
      refine g_iconst (v := 0) C rfl d_T_run_33 ?_
      refine pf_T_35 C d_T_run_34 rfl rfl (by first | assumption | omega) (by repeat' first | assumption | exact up_eq _ _ _ | refine up_ne (by omega) ?_) (by exact Nat.le_of_ble_eq_true rfl) ?_
      refine g_aload_n C rfl rfl d_T_run_37 ?_
      refine g_lload_n C rfl rfl d_T_run_38 ?_
      refine g_lconst (v := 0) C rfl d_T_run_39 ?_
      refine g_lcmp_le (tgt := 48) C d_T_run_40 d_T_run_41 (by decide) (fun j40 => ?_) (fun j40 => ?_)
      rotate_left
      · exact absurd (Int64.not_lt.mp hsg) j40
      refine g_lload_n C rfl rfl d_T_run_48 ?_
      refine g_lneg C d_T_run_49 ?_
      rw [Int64.neg_neg]
      refine pf_T_38 C d_T_run_50 rfl rfl (by first | assumption | omega) (by repeat' first | assumption | exact up_eq _ _ _ | refine up_ne (by omega) ?_) (by exact Nat.le_of_ble_eq_true rfl) ?_
      refine g_aload_n C rfl rfl d_T_run_53 ?_
      refine g_lload C rfl d_T_run_54 ?_
      refine pf_T_42 C d_T_run_56 rfl rfl (by first | assumption | omega) (by repeat' first | assumption | exact up_eq _ _ _ | refine up_ne (by omega) ?_) (by exact Nat.le_of_ble_eq_true rfl) ?_
      refine g_aload_n C rfl rfl d_T_run_59 ?_
      refine g_lconst (v := 0) C rfl d_T_run_60 ?_
      refine pf_T_45 C d_T_run_61 rfl rfl (by first | assumption | omega) (by repeat' first | assumption | exact up_eq _ _ _ | refine up_ne (by omega) ?_) (by exact Nat.le_of_ble_eq_true rfl) ?_
      refine g_aload_n C rfl rfl d_T_run_64 ?_
      refine g_lconst (v := 0) C rfl d_T_run_65 ?_
      refine pf_T_48 C d_T_run_66 rfl rfl (by first | assumption | omega) (by repeat' first | assumption | exact up_eq _ _ _ | refine up_ne (by omega) ?_) (by exact Nat.le_of_ble_eq_true rfl) ?_
      refine g_iconst (v := 0) C rfl d_T_run_69 ?_
      refine g_topi (fun i0 e_i0 => ?_)
      refine g_istore (lv' := [(7, .int i0), (0, .ref (ad o k)), (1, .ref (ad o kp)), (2, .int (bz false)), (3, .long (-lN r)), (5, .long (lN M))]) C d_T_run_70 (by decide) rfl ?_
      refine g_pick [0, 1, 2, 3, 4, 5] rfl ?_
      rw [show i0 = nI 0 from e_i0]
      exact loop 100 _ ((S, tz, r, 0, 0), g, ou) 0 (by omega) (Or.inr hmu) hxf.symm hI (by unfold isT; exact (by repeat' first | assumption | exact up_eq _ _ _ | refine up_ne (by omega) ?_)) ⟨(by repeat' first | assumption | exact up_eq _ _ _ | refine up_ne (by omega) ?_), (by repeat' first | assumption | exact up_eq _ _ _ | refine up_ne (by omega) ?_), (by repeat' first | assumption | exact up_eq _ _ _ | refine up_ne (by omega) ?_)⟩ (fun j q1 q2 => (by repeat' first | exact rfl | refine up_ne q1 ?_ : _ = sg1 j).trans (tF j q2))
    · have ha2 : a = lN r := ha
      have hr63 : r < 2 ^ 63 := Nat.lt_of_le_of_lt hI.2.1 (by decide)
      have hsg : 0 < a := by rw [ha2]; exact lN_gt0 hr0 hr63
      subst ha2
      refine g_aload_n C rfl rfl d_T_run_0 ?_
      refine g_callV C (c_P_startTrial (by omega) hc hn2 (by omega) hPl hC hN) Y_P_startTrial m_507 m_508 m_506 rfl rfl ⟨by decide, by decide⟩ ⟨by decide, by decide⟩ (fun h => nomatch h) d_T_run_1 (by first | assumption | omega) (by repeat' first | assumption | exact up_eq _ _ _ | refine up_ne (by omega) ?_) rfl (Nat.le_of_ble_eq_true rfl) (fun ret sg1 hq => ?_)
      obtain ⟨rfl, tC, tF⟩ := hq
      have tk1 : sg1 k = _ := (tF k (by omega)).trans hT
      obtain ⟨tp1, tp2, tp3⟩ := isP_mv hPl (fun j q1 q2 => tF j (by omega))
      obtain ⟨tc1, tc2, tc3⟩ := id tC
      refine g_aload_n C rfl rfl d_T_run_4 ?_
      refine g_aload_n C rfl rfl d_T_run_5 ?_
      refine pf_T_20 C d_T_run_6 rfl rfl (by first | assumption | omega) (by repeat' first | assumption | exact up_eq _ _ _ | refine up_ne (by omega) ?_) (by exact Nat.le_of_ble_eq_true rfl) ?_
      refine g_aload_n C rfl rfl d_T_run_9 ?_
      refine g_aload_n C rfl rfl d_T_run_10 ?_
      refine gf_T_24 C d_T_run_11 (by first | assumption | omega) (by repeat' first | assumption | exact up_eq _ _ _ | refine up_ne (by omega) ?_) (by rfl) ?_
      refine pf_T_28 C d_T_run_14 rfl rfl (by first | assumption | omega) (by repeat' first | assumption | exact up_eq _ _ _ | refine up_ne (by omega) ?_) (by exact Nat.le_of_ble_eq_true rfl) ?_
      refine g_aload_n C rfl rfl d_T_run_17 ?_
      refine g_iload_n C rfl rfl d_T_run_18 ?_
      refine pf_T_31 C d_T_run_19 rfl rfl (by first | assumption | omega) (by repeat' first | assumption | exact up_eq _ _ _ | refine up_ne (by omega) ?_) (by exact Nat.le_of_ble_eq_true rfl) ?_
      refine g_aload_n C rfl rfl d_T_run_22 ?_
      refine g_lload_n C rfl rfl d_T_run_23 ?_
      refine g_lconst (v := 0) C rfl d_T_run_24 ?_
      refine g_lcmp_le (tgt := 33) C d_T_run_25 d_T_run_26 (by decide) (fun j25 => ?_) (fun j25 => ?_)
      · exact absurd j25 (Int64.not_le.mpr hsg)
      refine g_iconst (v := 1) C rfl d_T_run_29 ?_
      refine g_goto (tgt := 34) C d_T_run_30 (by decide) ?_
      refine pf_T_35 C d_T_run_34 rfl rfl (by first | assumption | omega) (by repeat' first | assumption | exact up_eq _ _ _ | refine up_ne (by omega) ?_) (by exact Nat.le_of_ble_eq_true rfl) ?_
      refine g_aload_n C rfl rfl d_T_run_37 ?_
      refine g_lload_n C rfl rfl d_T_run_38 ?_
      refine g_lconst (v := 0) C rfl d_T_run_39 ?_
      refine g_lcmp_le (tgt := 48) C d_T_run_40 d_T_run_41 (by decide) (fun j40 => ?_) (fun j40 => ?_)
      · exact absurd j40 (Int64.not_le.mpr hsg)
      refine g_lload_n C rfl rfl d_T_run_44 ?_
      refine g_goto (tgt := 50) C d_T_run_45 (by decide) ?_
      refine pf_T_38 C d_T_run_50 rfl rfl (by first | assumption | omega) (by repeat' first | assumption | exact up_eq _ _ _ | refine up_ne (by omega) ?_) (by exact Nat.le_of_ble_eq_true rfl) ?_
      refine g_aload_n C rfl rfl d_T_run_53 ?_
      refine g_lload C rfl d_T_run_54 ?_
      refine pf_T_42 C d_T_run_56 rfl rfl (by first | assumption | omega) (by repeat' first | assumption | exact up_eq _ _ _ | refine up_ne (by omega) ?_) (by exact Nat.le_of_ble_eq_true rfl) ?_
      refine g_aload_n C rfl rfl d_T_run_59 ?_
      refine g_lconst (v := 0) C rfl d_T_run_60 ?_
      refine pf_T_45 C d_T_run_61 rfl rfl (by first | assumption | omega) (by repeat' first | assumption | exact up_eq _ _ _ | refine up_ne (by omega) ?_) (by exact Nat.le_of_ble_eq_true rfl) ?_
      refine g_aload_n C rfl rfl d_T_run_64 ?_
      refine g_lconst (v := 0) C rfl d_T_run_65 ?_
      refine pf_T_48 C d_T_run_66 rfl rfl (by first | assumption | omega) (by repeat' first | assumption | exact up_eq _ _ _ | refine up_ne (by omega) ?_) (by exact Nat.le_of_ble_eq_true rfl) ?_
      refine g_iconst (v := 0) C rfl d_T_run_69 ?_
      refine g_topi (fun i0 e_i0 => ?_)
      refine g_istore (lv' := [(7, .int i0), (0, .ref (ad o k)), (1, .ref (ad o kp)), (2, .int (bz false)), (3, .long (lN r)), (5, .long (lN M))]) C d_T_run_70 (by decide) rfl ?_
      refine g_pick [0, 1, 2, 3, 4, 5] rfl ?_
      rw [show i0 = nI 0 from e_i0]
      exact loop 100 _ ((S, tz, r, 0, 0), g, ou) 0 (by omega) (Or.inr hmu) hxf.symm hI (by unfold isT; exact (by repeat' first | assumption | exact up_eq _ _ _ | refine up_ne (by omega) ?_)) ⟨(by repeat' first | assumption | exact up_eq _ _ _ | refine up_ne (by omega) ?_), (by repeat' first | assumption | exact up_eq _ _ _ | refine up_ne (by omega) ?_), (by repeat' first | assumption | exact up_eq _ _ _ | refine up_ne (by omega) ?_)⟩ (fun j q1 q2 => (by repeat' first | exact rfl | refine up_ne q1 ?_ : _ = sg1 j).trans (tF j q2))
  · cases ex
    · have ha2 : a = -lN r := ha
      have hr63 : r < 2 ^ 63 := Nat.lt_of_le_of_lt hI.2.1 (by decide)
      have hsg : ¬ 0 < a := by rw [ha2]; exact neg_lN hr63
      subst ha2
      refine g_aload_n C rfl rfl d_T_run_0 ?_
      refine g_callV C (c_P_startTrial (by omega) hc hn2 (by omega) hPl hC hN) Y_P_startTrial m_507 m_508 m_506 rfl rfl ⟨by decide, by decide⟩ ⟨by decide, by decide⟩ (fun h => nomatch h) d_T_run_1 (by first | assumption | omega) (by repeat' first | assumption | exact up_eq _ _ _ | refine up_ne (by omega) ?_) rfl (Nat.le_of_ble_eq_true rfl) (fun ret sg1 hq => ?_)
      obtain ⟨rfl, tC, tF⟩ := hq
      have tk1 : sg1 k = _ := (tF k (by omega)).trans hT
      obtain ⟨tp1, tp2, tp3⟩ := isP_mv hPl (fun j q1 q2 => tF j (by omega))
      obtain ⟨tc1, tc2, tc3⟩ := id tC
      refine g_aload_n C rfl rfl d_T_run_4 ?_
      refine g_aload_n C rfl rfl d_T_run_5 ?_
      refine pf_T_20 C d_T_run_6 rfl rfl (by first | assumption | omega) (by repeat' first | assumption | exact up_eq _ _ _ | refine up_ne (by omega) ?_) (by exact Nat.le_of_ble_eq_true rfl) ?_
      refine g_aload_n C rfl rfl d_T_run_9 ?_
      refine g_aload_n C rfl rfl d_T_run_10 ?_
      refine gf_T_24 C d_T_run_11 (by first | assumption | omega) (by repeat' first | assumption | exact up_eq _ _ _ | refine up_ne (by omega) ?_) (by rfl) ?_
      refine pf_T_28 C d_T_run_14 rfl rfl (by first | assumption | omega) (by repeat' first | assumption | exact up_eq _ _ _ | refine up_ne (by omega) ?_) (by exact Nat.le_of_ble_eq_true rfl) ?_
      refine g_aload_n C rfl rfl d_T_run_17 ?_
      refine g_iload_n C rfl rfl d_T_run_18 ?_
      refine pf_T_31 C d_T_run_19 rfl rfl (by first | assumption | omega) (by repeat' first | assumption | exact up_eq _ _ _ | refine up_ne (by omega) ?_) (by exact Nat.le_of_ble_eq_true rfl) ?_
      refine g_aload_n C rfl rfl d_T_run_22 ?_
      refine g_lload_n C rfl rfl d_T_run_23 ?_
      refine g_lconst (v := 0) C rfl d_T_run_24 ?_
      refine g_lcmp_le (tgt := 33) C d_T_run_25 d_T_run_26 (by decide) (fun j25 => ?_) (fun j25 => ?_)
      rotate_left
      · exact absurd (Int64.not_lt.mp hsg) j25
      refine g_iconst (v := 0) C rfl d_T_run_33 ?_
      refine pf_T_35 C d_T_run_34 rfl rfl (by first | assumption | omega) (by repeat' first | assumption | exact up_eq _ _ _ | refine up_ne (by omega) ?_) (by exact Nat.le_of_ble_eq_true rfl) ?_
      refine g_aload_n C rfl rfl d_T_run_37 ?_
      refine g_lload_n C rfl rfl d_T_run_38 ?_
      refine g_lconst (v := 0) C rfl d_T_run_39 ?_
      refine g_lcmp_le (tgt := 48) C d_T_run_40 d_T_run_41 (by decide) (fun j40 => ?_) (fun j40 => ?_)
      rotate_left
      · exact absurd (Int64.not_lt.mp hsg) j40
      refine g_lload_n C rfl rfl d_T_run_48 ?_
      refine g_lneg C d_T_run_49 ?_
      rw [Int64.neg_neg]
      refine pf_T_38 C d_T_run_50 rfl rfl (by first | assumption | omega) (by repeat' first | assumption | exact up_eq _ _ _ | refine up_ne (by omega) ?_) (by exact Nat.le_of_ble_eq_true rfl) ?_
      refine g_aload_n C rfl rfl d_T_run_53 ?_
      refine g_lload C rfl d_T_run_54 ?_
      refine pf_T_42 C d_T_run_56 rfl rfl (by first | assumption | omega) (by repeat' first | assumption | exact up_eq _ _ _ | refine up_ne (by omega) ?_) (by exact Nat.le_of_ble_eq_true rfl) ?_
      refine g_aload_n C rfl rfl d_T_run_59 ?_
      refine g_lconst (v := 0) C rfl d_T_run_60 ?_
      refine pf_T_45 C d_T_run_61 rfl rfl (by first | assumption | omega) (by repeat' first | assumption | exact up_eq _ _ _ | refine up_ne (by omega) ?_) (by exact Nat.le_of_ble_eq_true rfl) ?_
      refine g_aload_n C rfl rfl d_T_run_64 ?_
      refine g_lconst (v := 0) C rfl d_T_run_65 ?_
      refine pf_T_48 C d_T_run_66 rfl rfl (by first | assumption | omega) (by repeat' first | assumption | exact up_eq _ _ _ | refine up_ne (by omega) ?_) (by exact Nat.le_of_ble_eq_true rfl) ?_
      refine g_iconst (v := 0) C rfl d_T_run_69 ?_
      refine g_topi (fun i0 e_i0 => ?_)
      refine g_istore (lv' := [(7, .int i0), (0, .ref (ad o k)), (1, .ref (ad o kp)), (2, .int (bz true)), (3, .long (-lN r)), (5, .long (lN M))]) C d_T_run_70 (by decide) rfl ?_
      refine g_pick [0, 1, 2, 3, 4, 5] rfl ?_
      rw [show i0 = nI 0 from e_i0]
      exact loop 100 _ ((S, tz, r, 0, 0), g, ou) 0 (by omega) (Or.inr hmu) hxf.symm hI (by unfold isT; exact (by repeat' first | assumption | exact up_eq _ _ _ | refine up_ne (by omega) ?_)) ⟨(by repeat' first | assumption | exact up_eq _ _ _ | refine up_ne (by omega) ?_), (by repeat' first | assumption | exact up_eq _ _ _ | refine up_ne (by omega) ?_), (by repeat' first | assumption | exact up_eq _ _ _ | refine up_ne (by omega) ?_)⟩ (fun j q1 q2 => (by repeat' first | exact rfl | refine up_ne q1 ?_ : _ = sg1 j).trans (tF j q2))
    · have ha2 : a = lN r := ha
      have hr63 : r < 2 ^ 63 := Nat.lt_of_le_of_lt hI.2.1 (by decide)
      have hsg : 0 < a := by rw [ha2]; exact lN_gt0 hr0 hr63
      subst ha2
      refine g_aload_n C rfl rfl d_T_run_0 ?_
      refine g_callV C (c_P_startTrial (by omega) hc hn2 (by omega) hPl hC hN) Y_P_startTrial m_507 m_508 m_506 rfl rfl ⟨by decide, by decide⟩ ⟨by decide, by decide⟩ (fun h => nomatch h) d_T_run_1 (by first | assumption | omega) (by repeat' first | assumption | exact up_eq _ _ _ | refine up_ne (by omega) ?_) rfl (Nat.le_of_ble_eq_true rfl) (fun ret sg1 hq => ?_)
      obtain ⟨rfl, tC, tF⟩ := hq
      have tk1 : sg1 k = _ := (tF k (by omega)).trans hT
      obtain ⟨tp1, tp2, tp3⟩ := isP_mv hPl (fun j q1 q2 => tF j (by omega))
      obtain ⟨tc1, tc2, tc3⟩ := id tC
      refine g_aload_n C rfl rfl d_T_run_4 ?_
      refine g_aload_n C rfl rfl d_T_run_5 ?_
      refine pf_T_20 C d_T_run_6 rfl rfl (by first | assumption | omega) (by repeat' first | assumption | exact up_eq _ _ _ | refine up_ne (by omega) ?_) (by exact Nat.le_of_ble_eq_true rfl) ?_
      refine g_aload_n C rfl rfl d_T_run_9 ?_
      refine g_aload_n C rfl rfl d_T_run_10 ?_
      refine gf_T_24 C d_T_run_11 (by first | assumption | omega) (by repeat' first | assumption | exact up_eq _ _ _ | refine up_ne (by omega) ?_) (by rfl) ?_
      refine pf_T_28 C d_T_run_14 rfl rfl (by first | assumption | omega) (by repeat' first | assumption | exact up_eq _ _ _ | refine up_ne (by omega) ?_) (by exact Nat.le_of_ble_eq_true rfl) ?_
      refine g_aload_n C rfl rfl d_T_run_17 ?_
      refine g_iload_n C rfl rfl d_T_run_18 ?_
      refine pf_T_31 C d_T_run_19 rfl rfl (by first | assumption | omega) (by repeat' first | assumption | exact up_eq _ _ _ | refine up_ne (by omega) ?_) (by exact Nat.le_of_ble_eq_true rfl) ?_
      refine g_aload_n C rfl rfl d_T_run_22 ?_
      refine g_lload_n C rfl rfl d_T_run_23 ?_
      refine g_lconst (v := 0) C rfl d_T_run_24 ?_
      refine g_lcmp_le (tgt := 33) C d_T_run_25 d_T_run_26 (by decide) (fun j25 => ?_) (fun j25 => ?_)
      · exact absurd j25 (Int64.not_le.mpr hsg)
      refine g_iconst (v := 1) C rfl d_T_run_29 ?_
      refine g_goto (tgt := 34) C d_T_run_30 (by decide) ?_
      refine pf_T_35 C d_T_run_34 rfl rfl (by first | assumption | omega) (by repeat' first | assumption | exact up_eq _ _ _ | refine up_ne (by omega) ?_) (by exact Nat.le_of_ble_eq_true rfl) ?_
      refine g_aload_n C rfl rfl d_T_run_37 ?_
      refine g_lload_n C rfl rfl d_T_run_38 ?_
      refine g_lconst (v := 0) C rfl d_T_run_39 ?_
      refine g_lcmp_le (tgt := 48) C d_T_run_40 d_T_run_41 (by decide) (fun j40 => ?_) (fun j40 => ?_)
      · exact absurd j40 (Int64.not_le.mpr hsg)
      refine g_lload_n C rfl rfl d_T_run_44 ?_
      refine g_goto (tgt := 50) C d_T_run_45 (by decide) ?_
      refine pf_T_38 C d_T_run_50 rfl rfl (by first | assumption | omega) (by repeat' first | assumption | exact up_eq _ _ _ | refine up_ne (by omega) ?_) (by exact Nat.le_of_ble_eq_true rfl) ?_
      refine g_aload_n C rfl rfl d_T_run_53 ?_
      refine g_lload C rfl d_T_run_54 ?_
      refine pf_T_42 C d_T_run_56 rfl rfl (by first | assumption | omega) (by repeat' first | assumption | exact up_eq _ _ _ | refine up_ne (by omega) ?_) (by exact Nat.le_of_ble_eq_true rfl) ?_
      refine g_aload_n C rfl rfl d_T_run_59 ?_
      refine g_lconst (v := 0) C rfl d_T_run_60 ?_
      refine pf_T_45 C d_T_run_61 rfl rfl (by first | assumption | omega) (by repeat' first | assumption | exact up_eq _ _ _ | refine up_ne (by omega) ?_) (by exact Nat.le_of_ble_eq_true rfl) ?_
      refine g_aload_n C rfl rfl d_T_run_64 ?_
      refine g_lconst (v := 0) C rfl d_T_run_65 ?_
      refine pf_T_48 C d_T_run_66 rfl rfl (by first | assumption | omega) (by repeat' first | assumption | exact up_eq _ _ _ | refine up_ne (by omega) ?_) (by exact Nat.le_of_ble_eq_true rfl) ?_
      refine g_iconst (v := 0) C rfl d_T_run_69 ?_
      refine g_topi (fun i0 e_i0 => ?_)
      refine g_istore (lv' := [(7, .int i0), (0, .ref (ad o k)), (1, .ref (ad o kp)), (2, .int (bz true)), (3, .long (lN r)), (5, .long (lN M))]) C d_T_run_70 (by decide) rfl ?_
      refine g_pick [0, 1, 2, 3, 4, 5] rfl ?_
      rw [show i0 = nI 0 from e_i0]
      exact loop 100 _ ((S, tz, r, 0, 0), g, ou) 0 (by omega) (Or.inr hmu) hxf.symm hI (by unfold isT; exact (by repeat' first | assumption | exact up_eq _ _ _ | refine up_ne (by omega) ?_)) ⟨(by repeat' first | assumption | exact up_eq _ _ _ | refine up_ne (by omega) ?_), (by repeat' first | assumption | exact up_eq _ _ _ | refine up_ne (by omega) ?_), (by repeat' first | assumption | exact up_eq _ _ _ | refine up_ne (by omega) ?_)⟩ (fun j q1 q2 => (by repeat' first | exact rfl | refine up_ne q1 ?_ : _ = sg1 j).trans (tF j q2))

