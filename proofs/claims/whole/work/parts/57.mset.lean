-- THE REFERENCE SETTLES, SWEEPS, CARRIES OUT
def sOd (od fa : Nat → Int64) (a : Int64) (k : Nat) : Nat → Int64 := vp_updL (vp_updL od (2 * k) (od (2 * k) + shr (fa (2 * k)) a)) (2 * k + 1) (od (2 * k + 1) + shr (fa (2 * k + 1)) a)
def sFa (fa : Nat → Int64) (k : Nat) : Nat → Int64 := vp_updL (vp_updL fa (2 * k) 0) (2 * k + 1) 0
theorem two_k (k : Nat) : (2 : Int32) * nI k = nI (2 * k) := pk_mul 2 k
theorem c_M_settle {l : Launch} {o n : Nat} {sg : Nat → va_E} {m : Nat} {t0 : Int32} {la : Int64} {am fa od : Nat → Int64} (k : Nat) (hn : m + 22 < n) (hM : isM sg o m t0 la) (ha : sg (m + 14) = eJ 12 am) (hfa : sg (m + 15) = eJ 24 fa) (hod : sg (m + 16) = eJ 24 od) (hk : k < 12) : GM l y_M_settle b_M_settle 7 none 1 12 0 0 o n n sg false [.ref (ad o m), .int (nI k)] (fun r0 s => none = r0 ∧ s (m + 15) = eJ 24 (sFa fa k) ∧ s (m + 16) = eJ 24 (sOd od fa (am k) k) ∧ ∀ j, j ≠ m + 15 → j ≠ m + 16 → s j = sg j) := by
  have hm1 : sg m = _ := hM
  have c0 : (nI (2 * k)).toNatClampNeg = 2 * k := nI_clamp (by omega)
  have c1 : (nI (2 * k + 1)).toNatClampNeg = 2 * k + 1 := nI_clamp (by omega)
  have ck : (nI k).toNatClampNeg = k := nI_clamp (by omega)
  have i0 : vp_in (nI (2 * k)) 24 := vp_in_nI (by omega) (by decide)
  have i1 : vp_in (nI (2 * k + 1)) 24 := vp_in_nI (by omega) (by decide)
  have ik : vp_in (nI k) 12 := vp_in_nI hk (by decide)
  have e2 : nI (2 * k) + 2 = nI (2 * k + 2) := nI_add _ 2
  refine GM_of (by decide) (Nat.le_of_ble_eq_true rfl) ?_
  intro K C hl hz hr hnm E
  show G K o n sg 0 0 0 [(0, .ref (ad o m)), (1, .int (nI k))] []
  refine g_iconst (v := 2) C rfl d_M_settle_0 ?_
  refine g_iload_n C rfl rfl d_M_settle_1 ?_
  refine g_imul C d_M_settle_2 ?_
  rw [two_k]
  refine g_istore_n (lv' := [(2, .int (nI (2 * k))), (0, .ref (ad o m)), (1, .int (nI k))]) C d_M_settle_3 rfl (by decide) rfl ?_
  refine g_iload_n C rfl rfl d_M_settle_4 ?_
  refine g_iconst (v := 2) C rfl d_M_settle_5 ?_
  refine g_iload_n C rfl rfl d_M_settle_6 ?_
  refine g_imul C d_M_settle_7 ?_
  refine g_iconst (v := 2) C rfl d_M_settle_8 ?_
  refine g_iadd C d_M_settle_9 ?_
  rw [two_k, e2]
  refine g_icmp_ge (tgt := 78) C d_M_settle_10 (by decide) (fun j10 => ?_) (fun j10 => ?_)
  · exact absurd j10 (nI_ge (by omega) (by omega))
  refine g_aload_n C rfl rfl d_M_settle_13 ?_
  refine gf_M_54 C d_M_settle_14 (by first | assumption | omega) (by repeat' first | assumption | exact up_eq _ _ _ | refine up_ne (by omega) ?_) (by rfl) ?_
  refine g_iload_n C rfl rfl d_M_settle_17 ?_
  refine g_lald C d_M_settle_18 (by first | assumption | omega) (by repeat' first | assumption | exact up_eq _ _ _ | refine up_ne (by omega) ?_) i0 ?_
  refine g_bipush (v := 32) C rfl d_M_settle_19 ?_
  refine g_lushr C d_M_settle_21 ?_
  refine g_topl (fun h1 e_h1 => ?_)
  refine g_lstore_n (lv' := [(3, .long h1), (2, .int (nI (2 * k))), (0, .ref (ad o m)), (1, .int (nI k))]) C d_M_settle_22 rfl (by decide) rfl ?_
  refine g_aload_n C rfl rfl d_M_settle_23 ?_
  refine gf_M_54 C d_M_settle_24 (by first | assumption | omega) (by repeat' first | assumption | exact up_eq _ _ _ | refine up_ne (by omega) ?_) (by rfl) ?_
  refine g_iload_n C rfl rfl d_M_settle_27 ?_
  refine g_lald C d_M_settle_28 (by first | assumption | omega) (by repeat' first | assumption | exact up_eq _ _ _ | refine up_ne (by omega) ?_) i0 ?_
  refine g_ldc2 C m_788 d_M_settle_29 ?_
  refine g_land C d_M_settle_32 ?_
  refine g_topl (fun l1 e_l1 => ?_)
  refine g_lstore (lv' := [(5, .long l1), (3, .long h1), (2, .int (nI (2 * k))), (0, .ref (ad o m)), (1, .int (nI k))]) C d_M_settle_33 (by decide) rfl ?_
  refine g_aload_n C rfl rfl d_M_settle_35 ?_
  refine gf_M_57 C d_M_settle_36 (by first | assumption | omega) (by repeat' first | assumption | exact up_eq _ _ _ | refine up_ne (by omega) ?_) (by rfl) ?_
  refine g_iload_n C rfl rfl d_M_settle_39 ?_
  refine g_dup2 C rfl rfl d_M_settle_40 ?_
  refine g_lald C d_M_settle_41 (by first | assumption | omega) (by repeat' first | assumption | exact up_eq _ _ _ | refine up_ne (by omega) ?_) i0 ?_
  refine g_lload_n C rfl rfl d_M_settle_42 ?_
  refine g_aload_n C rfl rfl d_M_settle_43 ?_
  refine gf_M_51 C d_M_settle_44 (by first | assumption | omega) (by repeat' first | assumption | exact up_eq _ _ _ | refine up_ne (by omega) ?_) (by rfl) ?_
  refine g_iload_n C rfl rfl d_M_settle_47 ?_
  refine g_lald C d_M_settle_48 (by first | assumption | omega) (by repeat' first | assumption | exact up_eq _ _ _ | refine up_ne (by omega) ?_) ik ?_
  refine g_lmul C d_M_settle_49 ?_
  refine g_lload C rfl d_M_settle_50 ?_
  refine g_aload_n C rfl rfl d_M_settle_52 ?_
  refine gf_M_51 C d_M_settle_53 (by first | assumption | omega) (by repeat' first | assumption | exact up_eq _ _ _ | refine up_ne (by omega) ?_) (by rfl) ?_
  refine g_iload_n C rfl rfl d_M_settle_56 ?_
  refine g_lald C d_M_settle_57 (by first | assumption | omega) (by repeat' first | assumption | exact up_eq _ _ _ | refine up_ne (by omega) ?_) ik ?_
  refine g_lmul C d_M_settle_58 ?_
  refine g_bipush (v := 32) C rfl d_M_settle_59 ?_
  refine g_lushr C d_M_settle_61 ?_
  refine g_ladd C d_M_settle_62 ?_
  refine g_ladd C d_M_settle_63 ?_
  refine g_last C d_M_settle_64 (by first | assumption | omega) (by repeat' first | assumption | exact up_eq _ _ _ | refine up_ne (by omega) ?_) i0 ?_
  refine g_aload_n C rfl rfl d_M_settle_65 ?_
  refine gf_M_54 C d_M_settle_66 (by first | assumption | omega) (by repeat' first | assumption | exact up_eq _ _ _ | refine up_ne (by omega) ?_) (by rfl) ?_
  refine g_iload_n C rfl rfl d_M_settle_69 ?_
  refine g_lconst (v := 0) C rfl d_M_settle_70 ?_
  refine g_last C d_M_settle_71 (by first | assumption | omega) (by repeat' first | assumption | exact up_eq _ _ _ | refine up_ne (by omega) ?_) i0 ?_
  obtain ⟨y1, e_y1⟩ : ∃ y : Int32, ((nI (2 * k))) + Int32.ofInt 1 = y := ⟨_, rfl⟩
  refine g_iinc (lv' := [(2, .int y1), (5, .long l1), (3, .long h1), (0, .ref (ad o m)), (1, .int (nI k))]) C d_M_settle_72 rfl e_y1 (by decide) rfl ?_
  refine g_goto (tgt := 4) C d_M_settle_75 (by decide) ?_
  have hy1 : y1 = nI (2 * k + 1) := by rw [← e_y1]; exact nI_1 _
  have j1 : vp_in y1 24 := hy1 ▸ i1
  refine g_iload_n C rfl rfl d_M_settle_4 ?_
  refine g_iconst (v := 2) C rfl d_M_settle_5 ?_
  refine g_iload_n C rfl rfl d_M_settle_6 ?_
  refine g_imul C d_M_settle_7 ?_
  refine g_iconst (v := 2) C rfl d_M_settle_8 ?_
  refine g_iadd C d_M_settle_9 ?_
  rw [two_k, e2]
  refine g_icmp_ge (tgt := 78) C d_M_settle_10 (by decide) (fun j10_2 => ?_) (fun j10_2 => ?_)
  · exact absurd j10_2 (by rw [hy1]; exact nI_ge (by omega) (by omega))
  refine g_aload_n C rfl rfl d_M_settle_13 ?_
  refine gf_M_54 C d_M_settle_14 (by first | assumption | omega) (by repeat' first | assumption | exact up_eq _ _ _ | refine up_ne (by omega) ?_) (by rfl) ?_
  refine g_iload_n C rfl rfl d_M_settle_17 ?_
  refine g_lald C d_M_settle_18 (by first | assumption | omega) (by repeat' first | assumption | exact up_eq _ _ _ | refine up_ne (by omega) ?_) j1 ?_
  refine g_bipush (v := 32) C rfl d_M_settle_19 ?_
  refine g_lushr C d_M_settle_21 ?_
  refine g_topl (fun h2 e_h2 => ?_)
  refine g_lstore_n (lv' := [(3, .long h2), (2, .int y1), (5, .long l1), (0, .ref (ad o m)), (1, .int (nI k))]) C d_M_settle_22 rfl (by decide) rfl ?_
  refine g_aload_n C rfl rfl d_M_settle_23 ?_
  refine gf_M_54 C d_M_settle_24 (by first | assumption | omega) (by repeat' first | assumption | exact up_eq _ _ _ | refine up_ne (by omega) ?_) (by rfl) ?_
  refine g_iload_n C rfl rfl d_M_settle_27 ?_
  refine g_lald C d_M_settle_28 (by first | assumption | omega) (by repeat' first | assumption | exact up_eq _ _ _ | refine up_ne (by omega) ?_) j1 ?_
  refine g_ldc2 C m_788 d_M_settle_29 ?_
  refine g_land C d_M_settle_32 ?_
  refine g_topl (fun l2 e_l2 => ?_)
  refine g_lstore (lv' := [(5, .long l2), (3, .long h2), (2, .int y1), (0, .ref (ad o m)), (1, .int (nI k))]) C d_M_settle_33 (by decide) rfl ?_
  refine g_aload_n C rfl rfl d_M_settle_35 ?_
  refine gf_M_57 C d_M_settle_36 (by first | assumption | omega) (by repeat' first | assumption | exact up_eq _ _ _ | refine up_ne (by omega) ?_) (by rfl) ?_
  refine g_iload_n C rfl rfl d_M_settle_39 ?_
  refine g_dup2 C rfl rfl d_M_settle_40 ?_
  refine g_lald C d_M_settle_41 (by first | assumption | omega) (by repeat' first | assumption | exact up_eq _ _ _ | refine up_ne (by omega) ?_) j1 ?_
  refine g_lload_n C rfl rfl d_M_settle_42 ?_
  refine g_aload_n C rfl rfl d_M_settle_43 ?_
  refine gf_M_51 C d_M_settle_44 (by first | assumption | omega) (by repeat' first | assumption | exact up_eq _ _ _ | refine up_ne (by omega) ?_) (by rfl) ?_
  refine g_iload_n C rfl rfl d_M_settle_47 ?_
  refine g_lald C d_M_settle_48 (by first | assumption | omega) (by repeat' first | assumption | exact up_eq _ _ _ | refine up_ne (by omega) ?_) ik ?_
  refine g_lmul C d_M_settle_49 ?_
  refine g_lload C rfl d_M_settle_50 ?_
  refine g_aload_n C rfl rfl d_M_settle_52 ?_
  refine gf_M_51 C d_M_settle_53 (by first | assumption | omega) (by repeat' first | assumption | exact up_eq _ _ _ | refine up_ne (by omega) ?_) (by rfl) ?_
  refine g_iload_n C rfl rfl d_M_settle_56 ?_
  refine g_lald C d_M_settle_57 (by first | assumption | omega) (by repeat' first | assumption | exact up_eq _ _ _ | refine up_ne (by omega) ?_) ik ?_
  refine g_lmul C d_M_settle_58 ?_
  refine g_bipush (v := 32) C rfl d_M_settle_59 ?_
  refine g_lushr C d_M_settle_61 ?_
  refine g_ladd C d_M_settle_62 ?_
  refine g_ladd C d_M_settle_63 ?_
  refine g_last C d_M_settle_64 (by first | assumption | omega) (by repeat' first | assumption | exact up_eq _ _ _ | refine up_ne (by omega) ?_) j1 ?_
  refine g_aload_n C rfl rfl d_M_settle_65 ?_
  refine gf_M_54 C d_M_settle_66 (by first | assumption | omega) (by repeat' first | assumption | exact up_eq _ _ _ | refine up_ne (by omega) ?_) (by rfl) ?_
  refine g_iload_n C rfl rfl d_M_settle_69 ?_
  refine g_lconst (v := 0) C rfl d_M_settle_70 ?_
  refine g_last C d_M_settle_71 (by first | assumption | omega) (by repeat' first | assumption | exact up_eq _ _ _ | refine up_ne (by omega) ?_) j1 ?_
  obtain ⟨y2, e_y2⟩ : ∃ y : Int32, (y1) + Int32.ofInt 1 = y := ⟨_, rfl⟩
  refine g_iinc (lv' := [(2, .int y2), (5, .long l2), (3, .long h2), (0, .ref (ad o m)), (1, .int (nI k))]) C d_M_settle_72 rfl e_y2 (by decide) rfl ?_
  refine g_goto (tgt := 4) C d_M_settle_75 (by decide) ?_
  have hy2 : y2 = nI (2 * k + 2) := by rw [← e_y2, hy1]; exact nI_1 _
  refine g_iload_n C rfl rfl d_M_settle_4 ?_
  refine g_iconst (v := 2) C rfl d_M_settle_5 ?_
  refine g_iload_n C rfl rfl d_M_settle_6 ?_
  refine g_imul C d_M_settle_7 ?_
  refine g_iconst (v := 2) C rfl d_M_settle_8 ?_
  refine g_iadd C d_M_settle_9 ?_
  rw [two_k, e2]
  refine g_icmp_ge (tgt := 78) C d_M_settle_10 (by decide) (fun j10_3 => ?_) (fun j10_3 => ?_)
  rotate_left
  · exact absurd (by rw [hy2]; exact nI_le (by omega) (by omega)) j10_3
  refine g_vret C E hr d_M_settle_78 ?_
  rw [e_h1, e_h2, e_l1, e_l2, hy1]
  refine ⟨rfl, ?_, ?_, fun j a b => by repeat' first | exact rfl | refine up_ne (by omega) ?_⟩
  · rw [c0, c1]; exact up_eq _ _ _
  · rw [c0, c1, ck, pk_unL (show 2 * k + 1 ≠ 2 * k by omega), pk_unL (show 2 * k + 1 ≠ 2 * k by omega)]; exact (by repeat' first | exact up_eq _ _ _ | refine up_ne (by omega) ?_)
def updB (f : Nat → Bool) (k : Nat) (x : Bool) : Nat → Bool := fun j => if j = k then x else f j
theorem updB_z {f : Nat → Bool} {k : Nat} {x : Bool} : upd (fun i => bz (f i)) k (bz x) = fun i => bz (updB f k x i) := by
  funext j
  by_cases e : j = k
  · subst e; rw [pk_us, updB, if_pos rfl]
  · rw [pk_un e, updB, if_neg e]
def swB (a : Nat) (od : Nat → Int64) (k : Nat) : Bool := decide (0 < a ∨ ¬ od (2 * k) = 0 ∨ ¬ od (2 * k + 1) = 0)
theorem c_M_sweep {l : Launch} {o n : Nat} {sg : Nat → va_E} {m : Nat} {t0 : Int32} {la : Int64} {th : Nat → Bool} {am : Nat → Nat} {od : Nat → Int64} (k : Nat) (hn : m + 22 < n) (hM : isM sg o m t0 la) (ht : sg (m + 9) = eZ 12 (fun i => bz (th i))) (ha : sg (m + 14) = eJ 12 (fun i => lN (am i))) (hod : sg (m + 16) = eJ 24 od) (hk : k < 12) (hak : am k < 2 ^ 63) : GM l y_M_sweep b_M_sweep 2 none 1 12 0 0 o n n sg false [.ref (ad o m), .int (nI k)] (gR none (va_up sg (m + 9) (eZ 12 (fun i => bz (updB th k (swB (am k) od k) i))))) := by
  have hm1 : sg m = _ := hM
  have c0 : (nI (2 * k)).toNatClampNeg = 2 * k := nI_clamp (by omega)
  have c1 : (nI (2 * k + 1)).toNatClampNeg = 2 * k + 1 := nI_clamp (by omega)
  have ck : (nI k).toNatClampNeg = k := nI_clamp (by omega)
  have i0 : vp_in (nI (2 * k)) 24 := vp_in_nI (by omega) (by decide)
  have i1 : vp_in (nI (2 * k + 1)) 24 := vp_in_nI (by omega) (by decide)
  have ik : vp_in (nI k) 12 := vp_in_nI hk (by decide)
  refine GM_of (by decide) (Nat.le_of_ble_eq_true rfl) ?_
  intro K C hl hz hr hnm E
  show G K o n sg 0 0 0 [(0, .ref (ad o m)), (1, .int (nI k))] []
  refine g_aload_n C rfl rfl d_M_sweep_0 ?_
  refine gf_M_35 C d_M_sweep_1 (by first | assumption | omega) (by repeat' first | assumption | exact up_eq _ _ _ | refine up_ne (by omega) ?_) (by rfl) ?_
  refine g_iload_n C rfl rfl d_M_sweep_4 ?_
  refine g_aload_n C rfl rfl d_M_sweep_5 ?_
  refine gf_M_51 C d_M_sweep_6 (by first | assumption | omega) (by repeat' first | assumption | exact up_eq _ _ _ | refine up_ne (by omega) ?_) (by rfl) ?_
  refine g_iload_n C rfl rfl d_M_sweep_9 ?_
  refine g_lald C d_M_sweep_10 (by first | assumption | omega) (by repeat' first | assumption | exact up_eq _ _ _ | refine up_ne (by omega) ?_) ik ?_
  rw [ck]
  refine g_lconst (v := 0) C rfl d_M_sweep_11 ?_
  refine g_lcmp_gt (tgt := 44) C d_M_sweep_12 d_M_sweep_13 (by decide) (fun j12 => ?_) (fun j12 => ?_)
  · refine g_iconst (v := 1) C rfl d_M_sweep_44 ?_
    refine g_goto (tgt := 49) C d_M_sweep_45 (by decide) ?_
    refine g_zast C d_M_sweep_49 (by first | assumption | omega) (by repeat' first | assumption | exact up_eq _ _ _ | refine up_ne (by omega) ?_) ik rfl ?_
    refine g_vret C E hr d_M_sweep_50 ?_
    refine ⟨rfl, ?_⟩
    rw [ck, ← updB_z]
    first | (have w : (0 : Int64) < lN (am k) := (by assumption); rw [show swB (am k) od k = true from decide_eq_true (Or.inl ((pk_lLT (a := 0) (by decide) hak).mp w))]; rfl) | (have w : ¬ od (2 * k) = 0 := (by assumption); rw [show swB (am k) od k = true from decide_eq_true (Or.inr (Or.inl w))]; rfl) | (have w : ¬ od (2 * k + 1) = 0 := (by assumption); rw [show swB (am k) od k = true from decide_eq_true (Or.inr (Or.inr w))]; rfl) | (have w1 : ¬ (0 : Int64) < lN (am k) := (by assumption); have w2 : od (2 * k) = 0 := (by assumption); have w3 : od (2 * k + 1) = 0 := (by assumption); rw [show swB (am k) od k = false from decide_eq_false (fun q => q.elim (fun h => w1 ((pk_lLT (a := 0) (by decide) hak).mpr h)) (fun h => h.elim (fun h => h w2) (fun h => h w3)))]; rfl)
  · refine g_aload_n C rfl rfl d_M_sweep_16 ?_
    refine gf_M_57 C d_M_sweep_17 (by first | assumption | omega) (by repeat' first | assumption | exact up_eq _ _ _ | refine up_ne (by omega) ?_) (by rfl) ?_
    refine g_iconst (v := 2) C rfl d_M_sweep_20 ?_
    refine g_iload_n C rfl rfl d_M_sweep_21 ?_
    refine g_imul C d_M_sweep_22 ?_
    rw [two_k]
    refine g_lald C d_M_sweep_23 (by first | assumption | omega) (by repeat' first | assumption | exact up_eq _ _ _ | refine up_ne (by omega) ?_) i0 ?_
    rw [c0]
    refine g_lconst (v := 0) C rfl d_M_sweep_24 ?_
    refine g_lcmp_ne (tgt := 44) C d_M_sweep_25 d_M_sweep_26 (by decide) (fun j25 => ?_) (fun j25 => ?_)
    · refine g_iconst (v := 1) C rfl d_M_sweep_44 ?_
      refine g_goto (tgt := 49) C d_M_sweep_45 (by decide) ?_
      refine g_zast C d_M_sweep_49 (by first | assumption | omega) (by repeat' first | assumption | exact up_eq _ _ _ | refine up_ne (by omega) ?_) ik rfl ?_
      refine g_vret C E hr d_M_sweep_50 ?_
      refine ⟨rfl, ?_⟩
      rw [ck, ← updB_z]
      first | (have w : (0 : Int64) < lN (am k) := (by assumption); rw [show swB (am k) od k = true from decide_eq_true (Or.inl ((pk_lLT (a := 0) (by decide) hak).mp w))]; rfl) | (have w : ¬ od (2 * k) = 0 := (by assumption); rw [show swB (am k) od k = true from decide_eq_true (Or.inr (Or.inl w))]; rfl) | (have w : ¬ od (2 * k + 1) = 0 := (by assumption); rw [show swB (am k) od k = true from decide_eq_true (Or.inr (Or.inr w))]; rfl) | (have w1 : ¬ (0 : Int64) < lN (am k) := (by assumption); have w2 : od (2 * k) = 0 := (by assumption); have w3 : od (2 * k + 1) = 0 := (by assumption); rw [show swB (am k) od k = false from decide_eq_false (fun q => q.elim (fun h => w1 ((pk_lLT (a := 0) (by decide) hak).mpr h)) (fun h => h.elim (fun h => h w2) (fun h => h w3)))]; rfl)
    · refine g_aload_n C rfl rfl d_M_sweep_29 ?_
      refine gf_M_57 C d_M_sweep_30 (by first | assumption | omega) (by repeat' first | assumption | exact up_eq _ _ _ | refine up_ne (by omega) ?_) (by rfl) ?_
      refine g_iconst (v := 2) C rfl d_M_sweep_33 ?_
      refine g_iload_n C rfl rfl d_M_sweep_34 ?_
      refine g_imul C d_M_sweep_35 ?_
      refine g_iconst (v := 1) C rfl d_M_sweep_36 ?_
      refine g_iadd C d_M_sweep_37 ?_
      rw [two_k, nI_1]
      refine g_lald C d_M_sweep_38 (by first | assumption | omega) (by repeat' first | assumption | exact up_eq _ _ _ | refine up_ne (by omega) ?_) i1 ?_
      rw [c1]
      refine g_lconst (v := 0) C rfl d_M_sweep_39 ?_
      refine g_lcmp_eq (tgt := 48) C d_M_sweep_40 d_M_sweep_41 (by decide) (fun j40 => ?_) (fun j40 => ?_)
      · refine g_iconst (v := 0) C rfl d_M_sweep_48 ?_
        refine g_zast C d_M_sweep_49 (by first | assumption | omega) (by repeat' first | assumption | exact up_eq _ _ _ | refine up_ne (by omega) ?_) ik rfl ?_
        refine g_vret C E hr d_M_sweep_50 ?_
        refine ⟨rfl, ?_⟩
        rw [ck, ← updB_z]
        first | (have w : (0 : Int64) < lN (am k) := (by assumption); rw [show swB (am k) od k = true from decide_eq_true (Or.inl ((pk_lLT (a := 0) (by decide) hak).mp w))]; rfl) | (have w : ¬ od (2 * k) = 0 := (by assumption); rw [show swB (am k) od k = true from decide_eq_true (Or.inr (Or.inl w))]; rfl) | (have w : ¬ od (2 * k + 1) = 0 := (by assumption); rw [show swB (am k) od k = true from decide_eq_true (Or.inr (Or.inr w))]; rfl) | (have w1 : ¬ (0 : Int64) < lN (am k) := (by assumption); have w2 : od (2 * k) = 0 := (by assumption); have w3 : od (2 * k + 1) = 0 := (by assumption); rw [show swB (am k) od k = false from decide_eq_false (fun q => q.elim (fun h => w1 ((pk_lLT (a := 0) (by decide) hak).mpr h)) (fun h => h.elim (fun h => h w2) (fun h => h w3)))]; rfl)
      · refine g_iconst (v := 1) C rfl d_M_sweep_44 ?_
        refine g_goto (tgt := 49) C d_M_sweep_45 (by decide) ?_
        refine g_zast C d_M_sweep_49 (by first | assumption | omega) (by repeat' first | assumption | exact up_eq _ _ _ | refine up_ne (by omega) ?_) ik rfl ?_
        refine g_vret C E hr d_M_sweep_50 ?_
        refine ⟨rfl, ?_⟩
        rw [ck, ← updB_z]
        first | (have w : (0 : Int64) < lN (am k) := (by assumption); rw [show swB (am k) od k = true from decide_eq_true (Or.inl ((pk_lLT (a := 0) (by decide) hak).mp w))]; rfl) | (have w : ¬ od (2 * k) = 0 := (by assumption); rw [show swB (am k) od k = true from decide_eq_true (Or.inr (Or.inl w))]; rfl) | (have w : ¬ od (2 * k + 1) = 0 := (by assumption); rw [show swB (am k) od k = true from decide_eq_true (Or.inr (Or.inr w))]; rfl) | (have w1 : ¬ (0 : Int64) < lN (am k) := (by assumption); have w2 : od (2 * k) = 0 := (by assumption); have w3 : od (2 * k + 1) = 0 := (by assumption); rw [show swB (am k) od k = false from decide_eq_false (fun q => q.elim (fun h => w1 ((pk_lLT (a := 0) (by decide) hak).mpr h)) (fun h => h.elim (fun h => h w2) (fun h => h w3)))]; rfl)

