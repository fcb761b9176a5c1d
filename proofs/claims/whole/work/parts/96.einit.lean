-- THE EXCHANGE IS MADE
def Z0 (f1 f2 : Int32) : ZS := ((0, fun _ => 0, fun _ => 0, fun _ => 0), (updN (updN (fun _ => 0) 0 (zF f1)) 1 (zF f2), updN (updN (fun _ => 0) 0 4294967296) 1 4294967296, fun _ => 0, fun _ => 0), fun _ => 0, fun _ => 0, fun _ => 0, fun _ => 0, fun _ => 0, fun _ => 0, fun _ => 0)
def PC0 (s : Nat → va_E) (o p F : Nat) : Prop := isP s o (10 + 9 * p) 4 F (13 + 9 * p) (16 + 9 * p) (fun _ => 0) (fun _ => 0) ∧ isC s o (13 + 9 * p) (lN 4294967296) 0 (nI 0) (fun _ => 0) (fun _ => 0) ∧ isC s o (16 + 9 * p) (lN 4294967296) 0 (nI 0) (fun _ => 0) (fun _ => 0)
theorem PC0_mv {s s' : Nat → va_E} {o p F : Nat} (h : PC0 s o p F) (e : ∀ j, 10 + 9 * p ≤ j → j ≤ 18 + 9 * p → s' j = s j) : PC0 s' o p F := ⟨isP_mv h.1 (fun j a b => e j (by omega) (by omega)), isC_m h.2.1 (fun j a b => e j (by omega) (by omega)), isC_m h.2.2 (fun j a b => e j (by omega) (by omega))⟩
def E10 (s : Nat → va_E) (o : Nat) : Prop := isE s o 0 ∧ s 1 = eJ 12 (fun _ => 0) ∧ s 2 = eJ 3 (fun _ => 0) ∧ s 3 = eJ 3 (fun _ => 0) ∧ isR s o 4 ∧ ETr s o 8 ∧ ETr s o 9
theorem E10_mv {s s' : Nat → va_E} {o : Nat} (h : E10 s o) (e : ∀ j, j < 10 → j ≠ 6 → j ≠ 7 → s' j = s j) : E10 s' o := by
  obtain ⟨h0, h1, h2, h3, h4, ⟨w1, w2, w3, w4, w5, w6, w7, w8, h8⟩, ⟨v1, v2, v3, v4, v5, v6, v7, v8, h9⟩⟩ := h
  exact ⟨(e _ (by omega) (by omega) (by omega)).trans h0, (e _ (by omega) (by omega) (by omega)).trans h1, (e _ (by omega) (by omega) (by omega)).trans h2, (e _ (by omega) (by omega) (by omega)).trans h3, isR_mv h4 (fun j a b => e j (by omega) (by omega) (by omega)), ⟨w1, w2, w3, w4, w5, w6, w7, w8, (e _ (by omega) (by omega) (by omega)).trans h8⟩, ⟨v1, v2, v3, v4, v5, v6, v7, v8, (e _ (by omega) (by omega) (by omega)).trans h9⟩⟩
theorem dsum_z {b : Nat → Bool} {n : Nat} : dsum b (fun _ => 0) n = 0 := dsum_0 (fun _ _ _ => rfl)
theorem EP0 {s : Nat → va_E} {o p : Nat} {f1 f2 : Int32} {ins : Nat → Nat → Int64} (hp : p < 2) (h : PC0 s o p (zfee (Z0 f1 f2) p)) : EP s o (Z0 f1 f2) ins p := by
  have hpr : zpr (Z0 f1 f2) p = 4294967296 := by
    rcases (show p = 0 ∨ p = 1 by omega) with q | q <;> subst q <;> rfl
  have hd : zdep (Z0 f1 f2) p 0 = 0 := dsum_z
  have c0 : cN false p = 13 + 9 * p := rfl
  have c1 : cN (!false) p = 16 + 9 * p := by show 13 + 9 * p + 3 = _; omega
  refine ⟨false, fun _ => 0, fun _ => 0, fun _ => 0, fun _ => 0, lN 4294967296, 0, nI 0, fun _ => 0, fun _ => 0, ?_, ?_, ?_, fun _ _ => rfl, fun i _ => ?_, fun i _ _ ha => absurd ha (Nat.lt_irrefl 0)⟩
  · rw [c0, c1]
    exact h.1
  · show isC s o (13 + 9 * p) (lN (zpr (Z0 f1 f2) p)) 0 (nI (zdep (Z0 f1 f2) p 0)) (fun _ => 0) (fun _ => 0)
    rw [hd, hpr]
    exact h.2.1
  · have e : cN (!false) p = 16 + 9 * p := by show 13 + 9 * p + 3 = _; omega
    rw [e]
    exact h.2.2
  · have e1 : loN (Z0 f1 f2) p i = 0 := dsum_z
    have e2 : hiN (Z0 f1 f2) p i = 0 := dsum_z
    rw [e1, e2]
    exact ⟨rfl, rfl⟩
theorem EW0 {s : Nat → va_E} {o : Nat} {f1 f2 : Int32} (h : E10 s o) (hq : EQ s o) (p0 : PC0 s o 0 (zF f1)) (p1 : PC0 s o 1 (zF f2)) {f : Nat → Option Nat} (h7 : s 7 = eQ 4 12 f) (hf : ∀ i, i < 12 → f i = some (ad o (28 + 3 * i))) (hS : ∀ i, i < 12 → isS s o (28 + 3 * i) 0 0 0 0 0 (fun _ => 0) (fun _ => 0)) : EW s o (Z0 f1 f2) := by
  obtain ⟨h0, h1, h2, h3, h4, h8, h9⟩ := h
  exact ⟨h0, h1, h2, h3, h4, hq, h8, h9, fun _ _ => 0, fun _ _ => 0, ⟨⟨f, h7, hf, hS⟩, fun _ _ => ⟨rfl, rfl⟩⟩, EP0 (by decide) p0, EP0 (by decide) p1⟩
set_option maxHeartbeats 8000000 in
theorem c_E_init {l : Launch} {o : Nat} {sg : Nat → va_E} (f1 f2 : Int32) (h : sg 0 = eO 0 [.null, .null, .null, .null, .null, .null, .null, .null, .long 0]) : GM l y_E_init b_E_init 4 none 4 82 63 1276 o 1 64 sg true [.ref (ad o 0), .int f1, .int f2] (fun r s => none = r ∧ EW s o (Z0 f1 f2)) := by
  refine GM_of (by decide) (Nat.le_of_ble_eq_true rfl) ?_
  intro K C hl hz hr hnm E
  have hz0 := hz rfl
  show G K o 1 sg 0 0 0 [(0, .ref (ad o 0)), (1, .int f1), (2, .int f2)] []
  have sD : ∀ (m i : Nat), i + m = 12 → ∀ (x : Int32) (s : Nat → va_E) (f : Nat → Option Nat) (n c sl : Nat), x = nI i → n = 28 + 3 * i → c + 1 = n → sl = 1144 + 11 * i → E10 s o → EQ s o → PC0 s o 0 (zF f1) → PC0 s o 1 (zF f2) → s 7 = eQ 4 12 f → (∀ j, j < i → f j = some (ad o (28 + 3 * j)) ∧ isS s o (28 + 3 * j) 0 0 0 0 0 (fun _ => 0) (fun _ => 0)) → G K o n s c sl 127 [(0, .ref (ad o 0)), (3, .int x)] [] := by
    intro m
    induction m with
    | zero =>
      intro i hm x s f n c sl hx hn hc hsl h1 h2 h3 h4 h5 h6
      have hi : i = 12 := by omega
      subst hi hx hn hsl
      have hc2 : c = 63 := by omega
      subst hc2
      refine g_iload_n C rfl rfl d_E_init_127 ?_
      refine g_bipush (v := 12) C rfl d_E_init_128 ?_
      refine g_icmp_ge (tgt := 152) C d_E_init_130 (by decide) (fun j130 => ?_) (fun j130 => ?_)
      rotate_left
      · exact absurd (by decide) j130
      refine g_vret C E hr d_E_init_152 ?_
      exact ⟨rfl, EW0 h1 h2 h3 h4 h5 (fun i q => (h6 i q).1) (fun i q => (h6 i q).2)⟩
    | succ m ih =>
      intro i hm x s f n c sl hx hn hc hsl h1 h2 h3 h4 h5 h6
      subst hx hsl
      have e0 : s 0 = _ := h1.1
      have ci : (nI i).toNatClampNeg = i := nI_clamp (by omega)
      refine g_iload_n C rfl rfl d_E_init_127 ?_
      refine g_bipush (v := 12) C rfl d_E_init_128 ?_
      refine g_icmp_ge (tgt := 152) C d_E_init_130 (by decide) (fun j130 => ?_) (fun j130 => ?_)
      · exact absurd j130 (nI_ge (b := 12) (by omega) (by omega))
      refine g_aload_n C rfl rfl d_E_init_133 ?_
      refine gf_E_34 C d_E_init_134 (by first | assumption | omega) (by repeat' first | assumption | exact up_eq _ _ _ | refine up_ne (by omega) ?_) (by rfl) ?_
      refine g_iload_n C rfl rfl d_E_init_137 ?_
      refine g_new C i_S tt_S tt_S_ok m_42 m_149 m_7 (ci := 4) rfl (fs := [.int 0, .int 0, .int 0, .int 0, .int 0, .null, .null]) (fun j hj => match j, hj with | 0, _ => rfl | 1, _ => rfl | 2, _ => rfl | 3, _ => rfl | 4, _ => rfl | 5, _ => rfl | 6, _ => rfl | z + 7, h => absurd h (by omega)) d_E_init_138 (by omega) (by show _ ≤ 63; omega) (by show _ ≤ 1276; omega) ?_
      refine g_dup C rfl d_E_init_141 ?_
      refine g_callIN C (c_S_init n (up_eq _ _ _)) Y_S_init m_151 rfl n_150 ⟨by decide, by decide⟩ ⟨by show _ ≤ 63; omega, by show _ ≤ 1276; omega⟩ (fun _ => by omega) d_E_init_142 rfl (Nat.le_of_ble_eq_true rfl) (fun ret sg142 hq => ?_)
      obtain ⟨rfl, uS, uF⟩ := hq
      have u7 : sg142 7 = eQ 4 12 f := (uF 7 (by omega)).trans (up_ne (by omega) h5)
      have uS1 := uS.1
      refine g_astq C d_E_init_145 4 (fun _ => rfl) (by first | assumption | omega) (by repeat' first | assumption | exact up_eq _ _ _ | refine up_ne (by omega) ?_) (by first | assumption | omega) (by repeat' first | assumption | exact up_eq _ _ _ | refine up_ne (by omega) ?_) rfl (vp_in_nI (by omega) (by decide)) ?_
      rw [ci]
      obtain ⟨y, e_y⟩ : ∃ y : Int32, ((nI i)) + Int32.ofInt 1 = y := ⟨_, rfl⟩
      refine g_iinc (lv' := [(3, .int y), (0, .ref (ad o 0))]) C d_E_init_146 rfl e_y (by decide) rfl ?_
      refine g_goto (tgt := 127) C d_E_init_149 (by decide) ?_
      refine g_pick [1, 0] rfl ?_
      have uG : ∀ j, j < n → j ≠ 7 → va_up sg142 7 (eQ 4 12 (va_up f i (some (ad o n)))) j = s j := fun j q1 q2 => up_ne q2 ((uF j q1).trans (up_ne (by omega) rfl))
      refine ih (i + 1) (by omega) _ _ (va_up f i (some (ad o n))) _ _ _ (by rw [← e_y]; exact nI_1 i) (by omega) (by omega) (by omega) (E10_mv h1 (fun j a b c => uG j (by omega) c)) ?_ (PC0_mv h3 (fun j a b => uG j (by omega) (by omega))) (PC0_mv h4 (fun j a b => uG j (by omega) (by omega))) (up_eq _ _ _) (fun j q => ?_)
      · obtain ⟨f6, g1, g2⟩ := h2
        exact ⟨f6, (uG 6 (by omega) (by omega)).trans g1, g2⟩
      · by_cases e : j = i
        · subst e
          rw [hn] at uS ⊢
          exact ⟨up_eq _ _ _, isS_m uS (fun z a b => up_ne (by omega) rfl)⟩
        · obtain ⟨k1, k2⟩ := h6 j (by omega)
          exact ⟨up_ne e k1, isS_m k2 (fun z a b => uG z (by omega) (by omega))⟩
  have sC : ∀ (s : Nat → va_E) (f : Nat → Option Nat), E10 s o → s 6 = eQ 3 2 f → f 0 = some (ad o 10) → PC0 s o 0 (zF f1) → s 7 = eQ 4 12 (fun _ => none) → G K o 19 s 18 638 107 [(0, .ref (ad o 0)), (2, .int f2)] [] := by
    intro s f h1 h6 hf h3 h7
    have e0 : s 0 = _ := h1.1
    refine g_aload_n C rfl rfl d_E_init_107 ?_
    refine gf_E_28 C d_E_init_108 (by first | assumption | omega) (by repeat' first | assumption | exact up_eq _ _ _ | refine up_ne (by omega) ?_) (by rfl) ?_
    refine g_iconst (v := 1) C rfl d_E_init_111 ?_
    refine g_new C i_P tt_P tt_P_ok m_40 m_81 m_4 (ci := 3) rfl (fs := [.null, .int 0, .null, .null, .null, .null]) (fun j hj => match j, hj with | 0, _ => rfl | 1, _ => rfl | 2, _ => rfl | 3, _ => rfl | 4, _ => rfl | 5, _ => rfl | z + 6, h => absurd h (by omega)) d_E_init_112 (by omega) (by decide) (by decide) ?_
    refine g_dup C rfl d_E_init_115 ?_
    refine g_aload_n C rfl rfl d_E_init_116 ?_
    refine gf_E_22 C d_E_init_117 (by first | assumption | omega) (by repeat' first | assumption | exact up_eq _ _ _ | refine up_ne (by omega) ?_) (by rfl) ?_
    refine g_iload_n C rfl rfl d_E_init_120 ?_
    refine g_callI C (c_P_init 19 f2 (up_eq _ _ _)) Y_P_init m_83 rfl m_82 ⟨by decide, by decide⟩ ⟨by decide, by decide⟩ (fun _ => by omega) d_E_init_121 rfl (Nat.le_of_ble_eq_true rfl) (fun ret sg121 hq => ?_)
    obtain ⟨rfl, uP, uC, uD, uF⟩ := hq
    have u6 : sg121 6 = eQ 3 2 f := (uF 6 (by omega)).trans (up_ne (by omega) h6)
    have uP1 := uP.1
    refine g_astq C d_E_init_124 3 (fun _ => rfl) (by first | assumption | omega) (by repeat' first | assumption | exact up_eq _ _ _ | refine up_ne (by omega) ?_) (by first | assumption | omega) (by repeat' first | assumption | exact up_eq _ _ _ | refine up_ne (by omega) ?_) rfl (vp_in_nI (n := 1) (by decide) (by decide)) ?_
    refine g_iconst (v := 0) C rfl d_E_init_125 ?_
    refine g_topi (fun y e_y => ?_)
    refine g_istore_n (lv' := [(3, .int y), (0, .ref (ad o 0)), (2, .int f2)]) C d_E_init_126 rfl (by decide) rfl ?_
    refine g_pick [1, 0] rfl ?_
    have uG : ∀ j, j < 19 → j ≠ 6 → va_up sg121 6 (eQ 3 2 (va_up f (1 : Int32).toNatClampNeg (some (ad o 19)))) j = s j := fun j q1 q2 => up_ne q2 ((uF j q1).trans (up_ne (by omega) rfl))
    exact sD 12 0 rfl _ _ (fun _ => none) _ _ _ e_y (by omega) (by omega) (by omega) (E10_mv h1 (fun j a b c => uG j (by omega) b)) ⟨_, up_eq _ _ _, fun p hp => by rcases (show p = 0 ∨ p = 1 by omega) with q | q; (rw [q]; exact (up_ne (by decide) hf)); (rw [q]; exact up_eq _ _ _)⟩ (PC0_mv h3 (fun j a b => uG j (by omega) (by omega))) ⟨isP_mv uP (fun j a b => up_ne (by omega) rfl), isC_m uC (fun j a b => up_ne (by omega) rfl), isC_m uD (fun j a b => up_ne (by omega) rfl)⟩ ((uG 7 (by omega) (by omega)).trans h7) (fun j q => absurd q (by omega))
  have sB : ∀ (s : Nat → va_E), E10 s o → s 6 = eQ 3 2 (fun _ => none) → s 7 = eQ 4 12 (fun _ => none) → G K o 10 s 9 132 89 [(0, .ref (ad o 0)), (1, .int f1), (2, .int f2)] [] := by
    intro s h1 h6 h7
    have e0 : s 0 = _ := h1.1
    refine g_aload_n C rfl rfl d_E_init_89 ?_
    refine gf_E_28 C d_E_init_90 (by first | assumption | omega) (by repeat' first | assumption | exact up_eq _ _ _ | refine up_ne (by omega) ?_) (by rfl) ?_
    refine g_iconst (v := 0) C rfl d_E_init_93 ?_
    refine g_new C i_P tt_P tt_P_ok m_40 m_81 m_4 (ci := 3) rfl (fs := [.null, .int 0, .null, .null, .null, .null]) (fun j hj => match j, hj with | 0, _ => rfl | 1, _ => rfl | 2, _ => rfl | 3, _ => rfl | 4, _ => rfl | 5, _ => rfl | z + 6, h => absurd h (by omega)) d_E_init_94 (by omega) (by decide) (by decide) ?_
    refine g_dup C rfl d_E_init_97 ?_
    refine g_aload_n C rfl rfl d_E_init_98 ?_
    refine gf_E_22 C d_E_init_99 (by first | assumption | omega) (by repeat' first | assumption | exact up_eq _ _ _ | refine up_ne (by omega) ?_) (by rfl) ?_
    refine g_iload_n C rfl rfl d_E_init_102 ?_
    refine g_callI C (c_P_init 10 f1 (up_eq _ _ _)) Y_P_init m_83 rfl m_82 ⟨by decide, by decide⟩ ⟨by decide, by decide⟩ (fun _ => by omega) d_E_init_103 rfl (Nat.le_of_ble_eq_true rfl) (fun ret sg103 hq => ?_)
    obtain ⟨rfl, uP, uC, uD, uF⟩ := hq
    have u6 : sg103 6 = eQ 3 2 (fun _ => none) := (uF 6 (by omega)).trans (up_ne (by omega) h6)
    have uP1 := uP.1
    refine g_astq C d_E_init_106 3 (fun _ => rfl) (by first | assumption | omega) (by repeat' first | assumption | exact up_eq _ _ _ | refine up_ne (by omega) ?_) (by first | assumption | omega) (by repeat' first | assumption | exact up_eq _ _ _ | refine up_ne (by omega) ?_) rfl (vp_in_nI (n := 0) (by decide) (by decide)) ?_
    refine g_pick [0, 2] rfl ?_
    have uG : ∀ j, j < 10 → j ≠ 6 → va_up sg103 6 (eQ 3 2 (va_up (fun _ => none) (0 : Int32).toNatClampNeg (some (ad o 10)))) j = s j := fun j q1 q2 => up_ne q2 ((uF j q1).trans (up_ne (by omega) rfl))
    exact sC _ (va_up (fun _ => none) (0 : Int32).toNatClampNeg (some (ad o 10))) (E10_mv h1 (fun j a b c => uG j (by omega) b)) (up_eq _ _ _) (up_eq _ _ _) ⟨isP_mv uP (fun j a b => up_ne (by omega) rfl), isC_m uC (fun j a b => up_ne (by omega) rfl), isC_m uD (fun j a b => up_ne (by omega) rfl)⟩ ((uG 7 (by omega) (by omega)).trans h7)
  have sA : ∀ (s : Nat → va_E), s 0 = eO 0 [.ref (ad o 1), .ref (ad o 2), .ref (ad o 3), .ref (ad o 4), .null, .null, .null, .null, .long 0] → s 1 = eJ 12 (fun _ => 0) → s 2 = eJ 3 (fun _ => 0) → s 3 = eJ 3 (fun _ => 0) → isR s o 4 → G K o 6 s 5 100 37 [(0, .ref (ad o 0)), (1, .int f1), (2, .int f2)] [] := by
    intro s h0 h1 h2 h3 h4
    refine g_aload_n C rfl rfl d_E_init_37 ?_
    refine g_iconst (v := 2) C rfl d_E_init_38 ?_
    refine g_newq C 3 m_40 C.2.2.2.2.2.2.2.1.2.1 (fun _ => rfl) (N' := 2) (by decide) (by decide) (by decide) d_E_init_39 (by omega) (by decide) (by decide) ?_
    refine pf_E_28 C d_E_init_42 hnm rfl rfl (by first | assumption | omega) (by repeat' first | assumption | exact up_eq _ _ _ | refine up_ne (by omega) ?_) (by exact Nat.le_of_ble_eq_true rfl) ?_
    refine g_aload_n C rfl rfl d_E_init_45 ?_
    refine g_bipush (v := 12) C rfl d_E_init_46 ?_
    refine g_newq C 4 m_42 C.2.2.2.2.2.2.2.1.2.2.1 (fun _ => rfl) (N' := 12) (by decide) (by decide) (by decide) d_E_init_48 (by omega) (by decide) (by decide) ?_
    refine pf_E_34 C d_E_init_51 hnm rfl rfl (by first | assumption | omega) (by repeat' first | assumption | exact up_eq _ _ _ | refine up_ne (by omega) ?_) (by exact Nat.le_of_ble_eq_true rfl) ?_
    refine g_aload_n C rfl rfl d_E_init_54 ?_
    refine g_new C i_T tt_T tt_T_ok m_44 m_45 m_3 (ci := 6) rfl (fs := [.null, .null, .null, .int 0, .int 0, .long 0, .long 0, .long 0, .long 0]) (fun j hj => match j, hj with | 0, _ => rfl | 1, _ => rfl | 2, _ => rfl | 3, _ => rfl | 4, _ => rfl | 5, _ => rfl | 6, _ => rfl | 7, _ => rfl | 8, _ => rfl | z + 9, h => absurd h (by omega)) d_E_init_55 (by omega) (by decide) (by decide) ?_
    refine g_dup C rfl d_E_init_58 ?_
    refine g_aload_n C rfl rfl d_E_init_59 ?_
    refine gf_E_22 C d_E_init_60 (by first | assumption | omega) (by repeat' first | assumption | exact up_eq _ _ _ | refine up_ne (by omega) ?_) (by rfl) ?_
    refine g_callI C (c_T_init 8 (by omega) (up_eq _ _ _)) Y_T_init m_47 rfl m_46 ⟨by decide, by decide⟩ ⟨by decide, by decide⟩ (fun h => nomatch h) d_E_init_63 rfl (Nat.le_of_ble_eq_true rfl) (fun ret sg63 hq => ?_)
    obtain ⟨rfl, t8, tF⟩ := hq
    have a0 : sg63 0 = eO 0 [.ref (ad o 1), .ref (ad o 2), .ref (ad o 3), .ref (ad o 4), .ref (ad o 6), .ref (ad o 7), .null, .null, .long 0] := (tF 0 (by omega)).trans (up_ne (by omega) (up_eq _ _ _))
    refine pf_E_43 C d_E_init_66 hnm rfl rfl (by first | assumption | omega) (by repeat' first | assumption | exact up_eq _ _ _ | refine up_ne (by omega) ?_) (by exact Nat.le_of_ble_eq_true rfl) ?_
    refine g_aload_n C rfl rfl d_E_init_69 ?_
    refine g_new C i_T tt_T tt_T_ok m_44 m_45 m_3 (ci := 6) rfl (fs := [.null, .null, .null, .int 0, .int 0, .long 0, .long 0, .long 0, .long 0]) (fun j hj => match j, hj with | 0, _ => rfl | 1, _ => rfl | 2, _ => rfl | 3, _ => rfl | 4, _ => rfl | 5, _ => rfl | 6, _ => rfl | 7, _ => rfl | 8, _ => rfl | z + 9, h => absurd h (by omega)) d_E_init_70 (by omega) (by decide) (by decide) ?_
    refine g_dup C rfl d_E_init_73 ?_
    refine g_aload_n C rfl rfl d_E_init_74 ?_
    refine gf_E_22 C d_E_init_75 (by first | assumption | omega) (by repeat' first | assumption | exact up_eq _ _ _ | refine up_ne (by omega) ?_) (by rfl) ?_
    refine g_callI C (c_T_init 9 (by omega) (up_eq _ _ _)) Y_T_init m_47 rfl m_46 ⟨by decide, by decide⟩ ⟨by decide, by decide⟩ (fun h => nomatch h) d_E_init_78 rfl (Nat.le_of_ble_eq_true rfl) (fun ret sg78 hq => ?_)
    obtain ⟨rfl, t9, wF⟩ := hq
    have b0 : sg78 0 = eO 0 [.ref (ad o 1), .ref (ad o 2), .ref (ad o 3), .ref (ad o 4), .ref (ad o 6), .ref (ad o 7), .ref (ad o 8), .null, .long 0] := (wF 0 (by omega)).trans (up_ne (by omega) (up_eq _ _ _))
    refine pf_E_47 C d_E_init_81 hnm rfl rfl (by first | assumption | omega) (by repeat' first | assumption | exact up_eq _ _ _ | refine up_ne (by omega) ?_) (by exact Nat.le_of_ble_eq_true rfl) ?_
    refine g_aload_n C rfl rfl d_E_init_84 ?_
    refine g_lconst (v := 0) C rfl d_E_init_85 ?_
    refine pf_E_50 C d_E_init_86 rfl rfl (by first | assumption | omega) (by repeat' first | assumption | exact up_eq _ _ _ | refine up_ne (by omega) ?_) (by exact Nat.le_of_ble_eq_true rfl) ?_
    have sG : ∀ j, 0 < j → j < 6 → sg78 j = s j := fun j a b => (wF j (by omega)).trans (up_ne (by omega) (up_ne (by omega) ((tF j (by omega)).trans (up_ne (by omega) (up_ne (by omega) (up_ne (by omega) (up_ne (by omega) (up_ne (by omega) rfl))))))))
    have s6 : sg78 6 = eQ 3 2 (fun _ => none) := (wF 6 (by omega)).trans (up_ne (by omega) (up_ne (by omega) ((tF 6 (by omega)).trans (up_ne (by omega) (up_ne (by omega) (up_ne (by omega) (up_ne (by omega) (up_eq _ _ _))))))))
    have s7 : sg78 7 = eQ 4 12 (fun _ => none) := (wF 7 (by omega)).trans (up_ne (by omega) (up_ne (by omega) ((tF 7 (by omega)).trans (up_ne (by omega) (up_ne (by omega) (up_eq _ _ _))))))
    obtain ⟨w1, w2, w3, w4, w5, w6, w7, w8, hw8⟩ := t8
    obtain ⟨v1, v2, v3, v4, v5, v6, v7, v8, hw9⟩ := t9
    exact sB _ ⟨by unfold isE; exact up_eq _ _ _, up_ne (by omega) (up_ne (by omega) ((sG 1 (by omega) (by omega)).trans h1)), up_ne (by omega) (up_ne (by omega) ((sG 2 (by omega) (by omega)).trans h2)), up_ne (by omega) (up_ne (by omega) ((sG 3 (by omega) (by omega)).trans h3)), isR_mv h4 (fun j a b => up_ne (by omega) (up_ne (by omega) (sG j (by omega) (by omega)))), ⟨w1, w2, w3, w4, w5, w6, w7, w8, up_ne (by omega) (up_ne (by omega) ((wF 8 (by omega)).trans (up_ne (by omega) (up_ne (by omega) hw8))))⟩, ⟨v1, v2, v3, v4, v5, v6, v7, v8, up_ne (by omega) (up_ne (by omega) hw9)⟩⟩ (up_ne (by omega) (up_ne (by omega) s6)) (up_ne (by omega) (up_ne (by omega) s7))
  refine g_aload_n C rfl rfl d_E_init_0 ?_
  refine g_objInit C m_23 gi_obj gc_obj d_E_init_1 (by decide) (Nat.le_of_ble_eq_true rfl) ?_
  refine g_aload_n C rfl rfl d_E_init_4 ?_
  refine g_bipush (v := 12) C rfl d_E_init_5 ?_
  refine g_newJ C 12 (by decide) (by decide) (by decide) d_E_init_7 (by omega) (by decide) (by decide) ?_
  refine pf_E_9 C d_E_init_9 hnm rfl rfl (by first | assumption | omega) (by repeat' first | assumption | exact up_eq _ _ _ | refine up_ne (by omega) ?_) (by exact Nat.le_of_ble_eq_true rfl) ?_
  refine g_aload_n C rfl rfl d_E_init_12 ?_
  refine g_iconst (v := 3) C rfl d_E_init_13 ?_
  refine g_newJ C 3 (by decide) (by decide) (by decide) d_E_init_14 (by omega) (by decide) (by decide) ?_
  refine pf_E_13 C d_E_init_16 hnm rfl rfl (by first | assumption | omega) (by repeat' first | assumption | exact up_eq _ _ _ | refine up_ne (by omega) ?_) (by exact Nat.le_of_ble_eq_true rfl) ?_
  refine g_aload_n C rfl rfl d_E_init_19 ?_
  refine g_iconst (v := 3) C rfl d_E_init_20 ?_
  refine g_newJ C 3 (by decide) (by decide) (by decide) d_E_init_21 (by omega) (by decide) (by decide) ?_
  refine pf_E_16 C d_E_init_23 hnm rfl rfl (by first | assumption | omega) (by repeat' first | assumption | exact up_eq _ _ _ | refine up_ne (by omega) ?_) (by exact Nat.le_of_ble_eq_true rfl) ?_
  refine g_aload_n C rfl rfl d_E_init_26 ?_
  refine g_new C i_R tt_R tt_R_ok m_26 m_27 m_2 (ci := 5) rfl (fs := [.null]) (fun j hj => match j, hj with | 0, _ => rfl | z + 1, h => absurd h (by omega)) d_E_init_27 (by omega) (by decide) (by decide) ?_
  refine g_dup C rfl d_E_init_30 ?_
  refine g_callI C (c_R_init 4 (up_eq _ _ _)) Y_R_init m_29 rfl m_28 ⟨by decide, by decide⟩ ⟨by decide, by decide⟩ (fun _ => by omega) d_E_init_31 rfl (Nat.le_of_ble_eq_true rfl) (fun ret sg31 hq => ?_)
  obtain ⟨rfl, r4, rF⟩ := hq
  have a0 : sg31 0 = eO 0 [.ref (ad o 1), .ref (ad o 2), .ref (ad o 3), .null, .null, .null, .null, .null, .long 0] := (rF 0 (by omega)).trans (up_ne (by omega) (up_eq _ _ _))
  refine pf_E_22 C d_E_init_34 hnm rfl rfl (by first | assumption | omega) (by repeat' first | assumption | exact up_eq _ _ _ | refine up_ne (by omega) ?_) (by exact Nat.le_of_ble_eq_true rfl) ?_
  exact sA _ (up_eq _ _ _) (up_ne (by omega) ((rF 1 (by omega)).trans (up_ne (by omega) (up_ne (by omega) (up_ne (by omega) (up_ne (by omega) (up_ne (by omega) (up_ne (by omega) (up_eq _ _ _))))))))) (up_ne (by omega) ((rF 2 (by omega)).trans (up_ne (by omega) (up_ne (by omega) (up_ne (by omega) (up_ne (by omega) (up_eq _ _ _))))))) (up_ne (by omega) ((rF 3 (by omega)).trans (up_ne (by omega) (up_ne (by omega) (up_eq _ _ _))))) (isR_mv r4 (fun j a b => up_ne (by omega) rfl))

