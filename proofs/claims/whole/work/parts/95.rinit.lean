-- THE ROOTS ARE MADE
theorem rt_up1 {i : Nat} (h : 40 ≤ i) : rt (i + 1) = rt i + rt i / 32 := by
  unfold rt
  rw [if_pos h, if_pos (by omega), show i + 1 - 40 = (i - 40) + 1 by omega]
  rfl
theorem rt_dn1 {i : Nat} (h : i < 40) : rt i = rt (i + 1) - rt (i + 1) / 33 := by
  have e : rt (i + 1) = rtD (40 - (i + 1)) := by
    unfold rt
    by_cases c : 40 ≤ i + 1
    · rw [if_pos c, show i + 1 - 40 = 0 by omega, show 40 - (i + 1) = 0 by omega]
      rfl
    · rw [if_neg c]
  rw [e]
  unfold rt
  rw [if_neg (by omega), show 40 - i = (40 - (i + 1)) + 1 by omega]
  rfl
theorem rt_63 {i : Nat} (h : i ≤ 80) : rt i < 2 ^ 63 := Nat.lt_of_le_of_lt (rt_le h (Nat.le_refl 80)) (by decide +kernel)
theorem l_up {i : Nat} (h : 40 ≤ i) (h2 : i < 80) : lN (rt i) + lN (rt i) / 32 = lN (rt (i + 1)) := by
  rw [show (32 : Int64) = lN 32 from rfl, pk_lDiv (rt_63 (by omega)) (by decide) (by decide), lN_add, rt_up1 h]
theorem l_dn {i : Nat} (h : i < 40) : lN (rt (i + 1)) - lN (rt (i + 1)) / 33 = lN (rt i) := by
  rw [show (33 : Int64) = lN 33 from rfl, pk_lDiv (rt_63 (by omega)) (by decide) (by decide), lN_sub (Nat.div_le_self _ _), ← rt_dn1 h]
theorem nI_m1 (i : Nat) : nI (i + 1) - 1 = nI i := by
  rw [← nI_1, Int32.sub_eq_add_neg, Int32.add_assoc, Int32.add_right_neg, Int32.add_zero]
theorem nI_mm (i : Nat) : nI (i + 1) + -1 = nI i := by
  rw [← nI_1, Int32.add_assoc, Int32.add_right_neg, Int32.add_zero]
theorem rt_40l : (4294967296 : Int64) = lN (rt 40) := by
  rw [show rt 40 = 4294967296 from by decide]
  rfl
set_option maxHeartbeats 4000000 in
theorem c_R_init {l : Launch} {o : Nat} {sg : Nat → va_E} (k : Nat) (h : sg k = eO 5 [.null]) : GM l y_R_init b_R_init 2 none 2 40 1 81 o (k + 1) (k + 1 + 1) sg true [.ref (ad o k)] (fun r s => none = r ∧ isR s o k ∧ ∀ j, j < k → s j = sg j) := by
  refine GM_of (by decide) (Nat.le_of_ble_eq_true rfl) ?_
  intro K C hl hz hr hnm E
  have hz0 := hz rfl
  show G K o (k + 1) sg 0 0 0 [(0, .ref (ad o k))] []
  have l2 : ∀ (i : Nat), i ≤ 40 → ∀ (x : Int32) (s : Nat → va_E) (f : Nat → Int64), x = nI i → s k = eO 5 [.ref (ad o (k + 1))] → s (k + 1) = eJ 81 f → (∀ j, i ≤ j → j ≤ 80 → f j = lN (rt j)) → (∀ j, j < k → s j = sg j) → G K o (k + 1 + 1) s (0 + 1) (0 + 81) 67 [(0, .ref (ad o k)), (1, .int x)] [] := by
    intro i
    induction i with
    | zero =>
      intro hi x s f hx h1 h2 hf hF
      subst hx
      refine g_iload_n C rfl rfl d_R_init_67 ?_
      refine g_if_le (tgt := 102) C d_R_init_68 (by decide) (fun j68 => ?_) (fun j68 => ?_)
      rotate_left
      · exact absurd (by decide) j68
      refine g_vret C E hr d_R_init_102 ?_
      exact ⟨rfl, ⟨h1, f, h2, fun i hi => hf i (by omega) hi⟩, hF⟩
    | succ i ih =>
      intro hi x s f hx h1 h2 hf hF
      subst hx
      have ci : (nI (i + 1)).toNatClampNeg = i + 1 := nI_clamp (by omega)
      have ci0 : (nI i).toNatClampNeg = i := nI_clamp (by omega)
      have fi := hf (i + 1) (by omega) (by omega)
      refine g_iload_n C rfl rfl d_R_init_67 ?_
      refine g_if_le (tgt := 102) C d_R_init_68 (by decide) (fun j68 => ?_) (fun j68 => ?_)
      · exact absurd j68 (Int32.not_le.mpr (nI_lt (a := 0) (by omega) (by omega)))
      refine g_aload_n C rfl rfl d_R_init_71 ?_
      refine gf_R_9 C d_R_init_72 (by first | assumption | omega) (by repeat' first | assumption | exact up_eq _ _ _ | refine up_ne (by omega) ?_) (by rfl) ?_
      refine g_iload_n C rfl rfl d_R_init_75 ?_
      refine g_iconst (v := 1) C rfl d_R_init_76 ?_
      refine g_isub C d_R_init_77 ?_
      refine g_aload_n C rfl rfl d_R_init_78 ?_
      refine gf_R_9 C d_R_init_79 (by first | assumption | omega) (by repeat' first | assumption | exact up_eq _ _ _ | refine up_ne (by omega) ?_) (by rfl) ?_
      refine g_iload_n C rfl rfl d_R_init_82 ?_
      refine g_lald C d_R_init_83 (by first | assumption | omega) (by repeat' first | assumption | exact up_eq _ _ _ | refine up_ne (by omega) ?_) (vp_in_nI (by omega) (by decide)) ?_
      rw [ci, fi]
      refine g_aload_n C rfl rfl d_R_init_84 ?_
      refine gf_R_9 C d_R_init_85 (by first | assumption | omega) (by repeat' first | assumption | exact up_eq _ _ _ | refine up_ne (by omega) ?_) (by rfl) ?_
      refine g_iload_n C rfl rfl d_R_init_88 ?_
      refine g_lald C d_R_init_89 (by first | assumption | omega) (by repeat' first | assumption | exact up_eq _ _ _ | refine up_ne (by omega) ?_) (vp_in_nI (by omega) (by decide)) ?_
      rw [ci, fi]
      refine g_ldc2 C m_34 d_R_init_90 ?_
      refine g_ldiv C (by first | assumption | decide) d_R_init_93 ?_
      refine g_lsub C d_R_init_94 ?_
      rw [l_dn (by omega), nI_m1]
      refine g_last C d_R_init_95 (by first | assumption | omega) (by repeat' first | assumption | exact up_eq _ _ _ | refine up_ne (by omega) ?_) (vp_in_nI (by omega) (by decide)) ?_
      rw [ci0]
      obtain ⟨y, e_y⟩ : ∃ y : Int32, ((nI (i + 1))) + Int32.ofInt (-1) = y := ⟨_, rfl⟩
      refine g_iinc (lv' := [(1, .int y), (0, .ref (ad o k))]) C d_R_init_96 rfl e_y (by decide) rfl ?_
      refine g_goto (tgt := 67) C d_R_init_99 (by decide) ?_
      refine g_pick [1, 0] rfl ?_
      exact ih (by omega) _ _ (vp_updL f i (lN (rt i))) (by rw [← e_y]; exact nI_mm i) (up_ne (by omega) h1) (up_eq _ _ _) (fun j q1 q2 => by by_cases e : j = i; (rw [e, pk_usL]); (rw [pk_unL e]; exact hf j (by omega) q2)) (fun j q => (up_ne (by omega) (hF j q)))
  have l1 : ∀ (m i : Nat), i + m = 80 → 40 ≤ i → ∀ (x : Int32) (s : Nat → va_E) (f : Nat → Int64), x = nI i → s k = eO 5 [.ref (ad o (k + 1))] → s (k + 1) = eJ 81 f → (∀ j, 40 ≤ j → j ≤ i → f j = lN (rt j)) → (∀ j, j < k → s j = sg j) → G K o (k + 1 + 1) s (0 + 1) (0 + 81) 25 [(0, .ref (ad o k)), (1, .int x)] [] := by
    intro m
    induction m with
    | zero =>
      intro i hm hi x s f hx h1 h2 hf hF
      have hi80 : i = 80 := by omega
      subst hx hi80
      refine g_iload_n C rfl rfl d_R_init_25 ?_
      refine g_iconst (v := 1) C rfl d_R_init_26 ?_
      refine g_iadd C d_R_init_27 ?_
      refine g_bipush (v := 81) C rfl d_R_init_28 ?_
      refine g_icmp_ge (tgt := 64) C d_R_init_30 (by decide) (fun j30 => ?_) (fun j30 => ?_)
      rotate_left
      · exact absurd (by decide) j30
      refine g_bipush (v := 40) C rfl d_R_init_64 ?_
      refine g_topi (fun y e_y => ?_)
      refine g_istore_n (lv' := [(1, .int y), (0, .ref (ad o k))]) C d_R_init_66 rfl (by decide) rfl ?_
      refine g_pick [1, 0] rfl ?_
      exact l2 40 (by omega) _ _ f e_y h1 h2 hf hF
    | succ m ih =>
      intro i hm hi x s f hx h1 h2 hf hF
      subst hx
      have ci : (nI i).toNatClampNeg = i := nI_clamp (by omega)
      have ci1 : (nI (i + 1)).toNatClampNeg = i + 1 := nI_clamp (by omega)
      have fi := hf i hi (Nat.le_refl _)
      refine g_iload_n C rfl rfl d_R_init_25 ?_
      refine g_iconst (v := 1) C rfl d_R_init_26 ?_
      refine g_iadd C d_R_init_27 ?_
      rw [nI_1]
      refine g_bipush (v := 81) C rfl d_R_init_28 ?_
      refine g_icmp_ge (tgt := 64) C d_R_init_30 (by decide) (fun j30 => ?_) (fun j30 => ?_)
      · exact absurd j30 (nI_ge (b := 81) (by omega) (by omega))
      refine g_aload_n C rfl rfl d_R_init_33 ?_
      refine gf_R_9 C d_R_init_34 (by first | assumption | omega) (by repeat' first | assumption | exact up_eq _ _ _ | refine up_ne (by omega) ?_) (by rfl) ?_
      refine g_iload_n C rfl rfl d_R_init_37 ?_
      refine g_iconst (v := 1) C rfl d_R_init_38 ?_
      refine g_iadd C d_R_init_39 ?_
      refine g_aload_n C rfl rfl d_R_init_40 ?_
      refine gf_R_9 C d_R_init_41 (by first | assumption | omega) (by repeat' first | assumption | exact up_eq _ _ _ | refine up_ne (by omega) ?_) (by rfl) ?_
      refine g_iload_n C rfl rfl d_R_init_44 ?_
      refine g_lald C d_R_init_45 (by first | assumption | omega) (by repeat' first | assumption | exact up_eq _ _ _ | refine up_ne (by omega) ?_) (vp_in_nI (by omega) (by decide)) ?_
      rw [ci, fi]
      refine g_aload_n C rfl rfl d_R_init_46 ?_
      refine gf_R_9 C d_R_init_47 (by first | assumption | omega) (by repeat' first | assumption | exact up_eq _ _ _ | refine up_ne (by omega) ?_) (by rfl) ?_
      refine g_iload_n C rfl rfl d_R_init_50 ?_
      refine g_lald C d_R_init_51 (by first | assumption | omega) (by repeat' first | assumption | exact up_eq _ _ _ | refine up_ne (by omega) ?_) (vp_in_nI (by omega) (by decide)) ?_
      rw [ci, fi]
      refine g_ldc2 C m_33 d_R_init_52 ?_
      refine g_ldiv C (by first | assumption | decide) d_R_init_55 ?_
      refine g_ladd C d_R_init_56 ?_
      rw [l_up hi (by omega), nI_1]
      refine g_last C d_R_init_57 (by first | assumption | omega) (by repeat' first | assumption | exact up_eq _ _ _ | refine up_ne (by omega) ?_) (vp_in_nI (by omega) (by decide)) ?_
      rw [ci1]
      obtain ⟨y, e_y⟩ : ∃ y : Int32, ((nI i)) + Int32.ofInt 1 = y := ⟨_, rfl⟩
      refine g_iinc (lv' := [(1, .int y), (0, .ref (ad o k))]) C d_R_init_58 rfl e_y (by decide) rfl ?_
      refine g_goto (tgt := 25) C d_R_init_61 (by decide) ?_
      refine g_pick [1, 0] rfl ?_
      exact ih (i + 1) (by omega) (by omega) _ _ (vp_updL f (i + 1) (lN (rt (i + 1)))) (by rw [← e_y]; exact nI_1 i) (up_ne (by omega) h1) (up_eq _ _ _) (fun j q1 q2 => by by_cases e : j = i + 1; (rw [e, pk_usL]); (rw [pk_unL e]; exact hf j q1 (by omega))) (fun j q => (up_ne (by omega) (hF j q)))
  refine g_aload_n C rfl rfl d_R_init_0 ?_
  refine g_objInit C m_31 gi_obj gc_obj d_R_init_1 (by decide) (Nat.le_of_ble_eq_true rfl) ?_
  refine g_aload_n C rfl rfl d_R_init_4 ?_
  refine g_bipush (v := 81) C rfl d_R_init_5 ?_
  refine g_newJ C 81 (by decide) (by decide) (by decide) d_R_init_7 (by omega) (by decide) (by decide) ?_
  refine pf_R_9 C d_R_init_9 hnm rfl rfl (by first | assumption | omega) (by repeat' first | assumption | exact up_eq _ _ _ | refine up_ne (by omega) ?_) (by exact Nat.le_of_ble_eq_true rfl) ?_
  refine g_aload_n C rfl rfl d_R_init_12 ?_
  refine gf_R_9 C d_R_init_13 (by first | assumption | omega) (by repeat' first | assumption | exact up_eq _ _ _ | refine up_ne (by omega) ?_) (by rfl) ?_
  refine g_bipush (v := 40) C rfl d_R_init_16 ?_
  refine g_ldc2 C m_32 d_R_init_18 ?_
  refine g_last C d_R_init_21 (by first | assumption | omega) (by repeat' first | assumption | exact up_eq _ _ _ | refine up_ne (by omega) ?_) (vp_in_nI (n := 40) (by decide) (by decide)) ?_
  refine g_bipush (v := 40) C rfl d_R_init_22 ?_
  refine g_topi (fun y e_y => ?_)
  refine g_istore_n (lv' := [(1, .int y), (0, .ref (ad o k))]) C d_R_init_24 rfl (by decide) rfl ?_
  refine g_pick [1, 0] rfl ?_
  exact l1 40 40 rfl (Nat.le_refl _) _ _ (vp_updL (fun _ => 0) 40 4294967296) e_y (up_ne (by omega) (up_eq _ _ _)) (up_eq _ _ _) (fun j q1 q2 => by rw [show j = 40 by omega, pk_usL]; exact rt_40l) (fun j q => up_ne (by omega) (up_ne (by omega) (up_ne (by omega) rfl)))

