-- A POOL IS MADE
def zF (f : Int32) : Nat := if f < 0 then 0 else if f ≤ 100 then f.toInt.toNat else 100
theorem zF_le (f : Int32) : zF f ≤ 100 := by
  unfold zF
  split
  · omega
  · rename_i h
    split
    · rename_i h2
      rw [Int32.le_iff_toInt_le] at h2
      have e : (100 : Int32).toInt = 100 := by decide
      omega
    · exact Nat.le_refl _
theorem zF_i (f : Int32) : nI (zF f) = if f < 0 then 0 else if f ≤ 100 then f else 100 := by
  unfold zF
  by_cases h : f < 0
  · rw [if_pos h, if_pos h]; rfl
  · rw [if_neg h, if_neg h]
    by_cases h2 : f ≤ 100
    · rw [if_pos h2, if_pos h2]
      rw [Int32.lt_iff_toInt_lt] at h
      have e : (0 : Int32).toInt = 0 := by decide
      rw [← iI_nat, Int.toNat_of_nonneg (by omega)]
      exact (iI_of f).symm
    · rw [if_neg h2, if_neg h2]; rfl
theorem zF_lt {f : Int32} (h : f < 0) : nI (zF f) = 0 := by rw [zF_i, if_pos h]
theorem zF_in {f : Int32} (h : ¬ f < 0) (h2 : f ≤ 100) : nI (zF f) = f := by rw [zF_i, if_neg h, if_pos h2]
theorem zF_gt {f : Int32} (h : ¬ f < 0) (h2 : ¬ f ≤ 100) : nI (zF f) = 100 := by rw [zF_i, if_neg h, if_neg h2]
theorem fee_mm (f : Int32) : (if (0 : Int32) < (if f < 100 then f else 100) then (if f < 100 then f else 100) else 0) = nI (zF f) := by
  have e0 : (0 : Int32).toInt = 0 := by decide
  have e1 : (100 : Int32).toInt = 100 := by decide
  by_cases h1 : f < 100
  · rw [if_pos h1]
    by_cases h2 : f < 0
    · rw [zF_lt h2, if_neg]
      rw [Int32.lt_iff_toInt_lt] at h2 ⊢
      omega
    · rw [zF_in h2 (by rw [Int32.le_iff_toInt_le]; rw [Int32.lt_iff_toInt_lt] at h1; omega)]
      by_cases h3 : (0 : Int32) < f
      · rw [if_pos h3]
      · rw [if_neg h3]
        rw [Int32.lt_iff_toInt_lt] at h2 h3
        exact Int32.toInt_inj.mp (by omega)
  · rw [if_neg h1, if_pos (by decide)]
    have h2 : ¬ f < 0 := by rw [Int32.lt_iff_toInt_lt] at h1 ⊢; omega
    by_cases h3 : f ≤ 100
    · rw [zF_in h2 h3]
      rw [Int32.le_iff_toInt_le] at h3
      rw [Int32.lt_iff_toInt_lt] at h1
      exact Int32.toInt_inj.mp (by omega)
    · rw [zF_gt h2 h3]
theorem c_P_init {l : Launch} {o : Nat} {sg : Nat → va_E} (k : Nat) (f : Int32) (h : sg k = eO 3 [.null, .int 0, .null, .null, .null, .null]) : GM l y_P_init b_P_init 3 none 3 60 8 500 o (k + 1) (k + 9) sg true [.ref (ad o k), .ref (ad o 4), .int f] (fun r s => none = r ∧ isP s o k 4 (zF f) (k + 3) (k + 6) (fun _ => 0) (fun _ => 0) ∧ isC s o (k + 3) (lN 4294967296) 0 (nI 0) (fun _ => 0) (fun _ => 0) ∧ isC s o (k + 6) (lN 4294967296) 0 (nI 0) (fun _ => 0) (fun _ => 0) ∧ ∀ j, j < k → s j = sg j) := by
  refine GM_of (by decide) (Nat.le_of_ble_eq_true rfl) ?_
  intro K C hl hz hr hnm E
  have hz0 := hz rfl
  show G K o (k + 1) sg 0 0 0 [(0, .ref (ad o k)), (1, .ref (ad o 4)), (2, .int f)] []
  refine g_aload_n C rfl rfl d_P_init_0 ?_
  refine g_objInit C m_85 gi_obj gc_obj d_P_init_1 (by decide) (Nat.le_of_ble_eq_true rfl) ?_
  refine g_aload_n C rfl rfl d_P_init_4 ?_
  refine g_bipush (v := 81) C rfl d_P_init_5 ?_
  refine g_newI C 81 (by decide) (by decide) (by decide) d_P_init_7 (by omega) (by decide) (by decide) ?_
  refine pf_P_9 C d_P_init_9 hnm rfl rfl (by first | assumption | omega) (by repeat' first | assumption | exact up_eq _ _ _ | refine up_ne (by omega) ?_) (by exact Nat.le_of_ble_eq_true rfl) ?_
  refine g_aload_n C rfl rfl d_P_init_12 ?_
  refine g_bipush (v := 81) C rfl d_P_init_13 ?_
  refine g_newI C 81 (by decide) (by decide) (by decide) d_P_init_15 (by omega) (by decide) (by decide) ?_
  refine pf_P_15 C d_P_init_17 hnm rfl rfl (by first | assumption | omega) (by repeat' first | assumption | exact up_eq _ _ _ | refine up_ne (by omega) ?_) (by exact Nat.le_of_ble_eq_true rfl) ?_
  refine g_aload_n C rfl rfl d_P_init_20 ?_
  refine g_new C i_C tt_C tt_C_ok m_86 m_87 m_5 (ci := 2) rfl (fs := [.long 0, .int 0, .int 0, .null, .null]) (fun j hj => match j, hj with | 0, _ => rfl | 1, _ => rfl | 2, _ => rfl | 3, _ => rfl | 4, _ => rfl | z + 5, h => absurd h (by omega)) d_P_init_21 (by omega) (by decide) (by decide) ?_
  refine g_dup C rfl d_P_init_24 ?_
  refine g_callIN C (c_C_init (k + 1 + 1 + 1) (up_eq _ _ _)) Y_C_init m_89 rfl n_88 ⟨by decide, by decide⟩ ⟨by decide, by decide⟩ (fun _ => by omega) d_P_init_25 rfl (Nat.le_of_ble_eq_true rfl) (fun ret sg25 hq => ?_)
  obtain ⟨rfl, c1, cF⟩ := hq
  have p1 : sg25 k = _ := (cF k (by omega)).trans (up_ne (by omega) (up_eq _ _ _))
  have p2 : sg25 (k + 1) = _ := (cF (k + 1) (by omega)).trans (up_ne (by omega) (up_ne (by omega) (up_ne (by omega) (up_ne (by omega) (up_eq _ _ _)))))
  have p3 : sg25 (k + 1 + 1) = _ := (cF (k + 1 + 1) (by omega)).trans (up_ne (by omega) (up_ne (by omega) (up_eq _ _ _)))
  refine pf_P_21 C d_P_init_28 rfl rfl (by first | assumption | omega) (by repeat' first | assumption | exact up_eq _ _ _ | refine up_ne (by omega) ?_) (by exact Nat.le_of_ble_eq_true rfl) ?_
  refine g_aload_n C rfl rfl d_P_init_31 ?_
  refine g_new C i_C tt_C tt_C_ok m_86 m_87 m_5 (ci := 2) rfl (fs := [.long 0, .int 0, .int 0, .null, .null]) (fun j hj => match j, hj with | 0, _ => rfl | 1, _ => rfl | 2, _ => rfl | 3, _ => rfl | 4, _ => rfl | z + 5, h => absurd h (by omega)) d_P_init_32 (by omega) (by decide) (by decide) ?_
  refine g_dup C rfl d_P_init_35 ?_
  refine g_callIN C (c_C_init (k + 1 + 1 + 1 + 1 + 1 + 1) (up_eq _ _ _)) Y_C_init m_89 rfl n_88 ⟨by decide, by decide⟩ ⟨by decide, by decide⟩ (fun _ => by omega) d_P_init_36 rfl (Nat.le_of_ble_eq_true rfl) (fun ret sg36 hq => ?_)
  obtain ⟨rfl, d1, dF⟩ := hq
  have q1 : sg36 k = _ := (dF k (by omega)).trans (up_ne (by omega) (up_eq _ _ _))
  have q2 : sg36 (k + 1) = _ := (dF (k + 1) (by omega)).trans ((up_ne (by omega) ((up_ne (by omega) p2))))
  have q3 : sg36 (k + 1 + 1) = _ := (dF (k + 1 + 1) (by omega)).trans (up_ne (by omega) ((up_ne (by omega) p3)))
  refine pf_P_25 C d_P_init_39 rfl rfl (by first | assumption | omega) (by repeat' first | assumption | exact up_eq _ _ _ | refine up_ne (by omega) ?_) (by exact Nat.le_of_ble_eq_true rfl) ?_
  refine g_aload_n C rfl rfl d_P_init_42 ?_
  refine g_aload_n C rfl rfl d_P_init_43 ?_
  refine pf_P_28 C d_P_init_44 hnm rfl rfl (by first | assumption | omega) (by repeat' first | assumption | exact up_eq _ _ _ | refine up_ne (by omega) ?_) (by exact Nat.le_of_ble_eq_true rfl) ?_
  refine g_aload_n C rfl rfl d_P_init_47 ?_
  refine g_iconst (v := 0) C rfl d_P_init_48 ?_
  refine g_bipush (v := 100) C rfl d_P_init_49 ?_
  refine g_iload_n C rfl rfl d_P_init_51 ?_
  refine g_mmin C m_121 d_P_init_52 (by decide) (Nat.le_of_ble_eq_true rfl) (by decide) (by decide) ?_
  refine g_mmax C m_124 d_P_init_55 (by decide) (Nat.le_of_ble_eq_true rfl) (by decide) (by decide) ?_
  rw [fee_mm]
  refine pf_P_41 C d_P_init_58 hnm rfl rfl (by first | assumption | omega) (by repeat' first | assumption | exact up_eq _ _ _ | refine up_ne (by omega) ?_) (by exact Nat.le_of_ble_eq_true rfl) ?_
  refine g_vret C E hr d_P_init_61 ?_
  exact ⟨rfl, ⟨(up_eq _ _ _), up_ne (by omega) (up_ne (by omega) (up_ne (by omega) q2)), up_ne (by omega) (up_ne (by omega) (up_ne (by omega) q3))⟩, isC_m c1 (fun j a b => (up_ne (by omega) (up_ne (by omega) (up_ne (by omega) ((dF j (by omega)).trans (up_ne (by omega) (up_ne (by omega) rfl))))))), isC_m d1 (fun j a b => up_ne (by omega) (up_ne (by omega) (up_ne (by omega) rfl))), fun j q => up_ne (by omega) (up_ne (by omega) (up_ne (by omega) ((dF j (by omega)).trans (up_ne (by omega) (up_ne (by omega) ((cF j (by omega)).trans (by repeat' first | exact rfl | refine up_ne (by omega) ?_)))))))⟩

