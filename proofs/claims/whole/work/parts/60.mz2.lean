-- MORE CALLS OF THE REFERENCE
theorem okd {p : Prop} {d : Decidable p} (h : ¬ bz (decide p) = 0) : p := of_decide_eq_true (nb0 h)
theorem c_M_balance {l : Launch} {o n : Nat} {sg : Nat → va_E} {m : Nat} {t0 : Int32} {Z : ZS} (a t : Nat) (hn : m + 22 < n) (hW : MW sg o m t0 Z) (ha : a < 4) (ht : t < 3) : GM l y_M_balance b_M_balance 3 (some .long) 2 32 0 0 o n n sg false [.ref (ad o m), .int (nI a), .int (nI t)] (fun r0 s => some (.long (zbal Z (a * 3 + t))) = r0 ∧ MW s o m 0 Z ∧ mfr sg s m) := by
  have hm1 : sg m = _ := hW.1
  obtain ⟨a1, a2, a3, a4, a5, a6, a7, a8, a9, a10, a11⟩ := hW.2.1
  refine GM_of (by decide) (Nat.le_of_ble_eq_true rfl) ?_
  intro K C hl hz hr hnm E
  show G K o n sg 0 0 0 [(0, .ref (ad o m)), (1, .int (nI a)), (2, .int (nI t))] []
  refine g_aload_n C rfl rfl d_M_balance_0 ?_
  refine g_iload_n C rfl rfl d_M_balance_1 ?_
  refine g_callS C (c_M_isOwner (nI a)) Y_M_isOwner m_726 m_725 ⟨by decide, by decide⟩ ⟨by decide, by decide⟩ (fun h => nomatch h) d_M_balance_2 rfl (Nat.le_of_ble_eq_true rfl) (fun ret sg2 hq => ?_)
  obtain ⟨rfl, rfl⟩ := hq
  refine g_if_eq (tgt := 19) C d_M_balance_5 (by decide) (fun j5 => ?_) (fun j5 => ?_)
  · exact absurd (j5.symm.trans (bzd (ok4 ha))) (by decide)
  refine g_iload_n C rfl rfl d_M_balance_8 ?_
  refine g_callS C (c_M_isToken (nI t)) Y_M_isToken m_729 m_728 ⟨by decide, by decide⟩ ⟨by decide, by decide⟩ (fun h => nomatch h) d_M_balance_9 rfl (Nat.le_of_ble_eq_true rfl) (fun ret sg9 hq => ?_)
  obtain ⟨rfl, rfl⟩ := hq
  refine g_if_eq (tgt := 19) C d_M_balance_12 (by decide) (fun j12 => ?_) (fun j12 => ?_)
  · exact absurd (j12.symm.trans (bzd (ok3 ht))) (by decide)
  refine g_iconst (v := 0) C rfl d_M_balance_15 ?_
  refine g_goto (tgt := 20) C d_M_balance_16 (by decide) ?_
  refine pf_M_84 C d_M_balance_20 rfl rfl (by first | assumption | omega) (by repeat' first | assumption | exact up_eq _ _ _ | refine up_ne (by omega) ?_) (by exact Nat.le_of_ble_eq_true rfl) ?_
  refine g_aload_n C rfl rfl d_M_balance_23 ?_
  refine gf_M_84 C d_M_balance_24 (by first | assumption | omega) (by repeat' first | assumption | exact up_eq _ _ _ | refine up_ne (by omega) ?_) (by rfl) ?_
  refine g_if_le (tgt := 34) C d_M_balance_27 (by decide) (fun j27 => ?_) (fun j27 => ?_)
  rotate_left
  · exact absurd (by decide) j27
  refine g_aload_n C rfl rfl d_M_balance_34 ?_
  refine gf_M_13 C d_M_balance_35 (by first | assumption | omega) (by repeat' first | assumption | exact up_eq _ _ _ | refine up_ne (by omega) ?_) (by rfl) ?_
  refine g_iconst (v := 3) C rfl d_M_balance_38 ?_
  refine g_iload_n C rfl rfl d_M_balance_39 ?_
  refine g_imul C d_M_balance_40 ?_
  refine g_iload_n C rfl rfl d_M_balance_41 ?_
  refine g_iadd C d_M_balance_42 ?_
  rw [show (3 : Int32) = nI 3 from rfl, pk_mul, nI_add, Nat.mul_comm 3 a]
  refine g_lald C d_M_balance_43 (by first | assumption | omega) (by repeat' first | assumption | exact up_eq _ _ _ | refine up_ne (by omega) ?_) (vp_in_nI (by omega) (by decide)) ?_
  rw [nI_clamp (n := a * 3 + t) (by omega)]
  refine g_lret C E hr d_M_balance_44 ⟨rfl, MW_up hW (by unfold isM; exact (by repeat' first | assumption | exact up_eq _ _ _ | refine up_ne (by omega) ?_)) (fun j a b => by repeat' first | exact rfl | refine up_ne (by omega) ?_), fun j a => by repeat' first | exact rfl | refine up_ne (by omega) ?_⟩
theorem e_M_balance {l : Launch} {o n : Nat} {sg : Nat → va_E} {m : Nat} {t0 : Int32} {Z : ZS} (a t : Int32) (hn : m + 22 < n) (hW : MW sg o m t0 Z) (h : ¬ (okI a 4 ∧ okI t 3)) : GM l y_M_balance b_M_balance 3 (some .long) 2 32 0 0 o n n sg false [.ref (ad o m), .int a, .int t] (fun r0 s => some (.long 0) = r0 ∧ MW s o m 1 Z ∧ mfr sg s m) := by
  have hm1 : sg m = _ := hW.1
  obtain ⟨a1, a2, a3, a4, a5, a6, a7, a8, a9, a10, a11⟩ := hW.2.1
  refine GM_of (by decide) (Nat.le_of_ble_eq_true rfl) ?_
  intro K C hl hz hr hnm E
  show G K o n sg 0 0 0 [(0, .ref (ad o m)), (1, .int a), (2, .int t)] []
  refine g_aload_n C rfl rfl d_M_balance_0 ?_
  refine g_iload_n C rfl rfl d_M_balance_1 ?_
  refine g_callS C (c_M_isOwner a) Y_M_isOwner m_726 m_725 ⟨by decide, by decide⟩ ⟨by decide, by decide⟩ (fun h => nomatch h) d_M_balance_2 rfl (Nat.le_of_ble_eq_true rfl) (fun ret sg2 hq => ?_)
  obtain ⟨rfl, rfl⟩ := hq
  refine g_if_eq (tgt := 19) C d_M_balance_5 (by decide) (fun j5 => ?_) (fun j5 => ?_)
  · refine g_iconst (v := 1) C rfl d_M_balance_19 ?_
    refine pf_M_84 C d_M_balance_20 rfl rfl (by first | assumption | omega) (by repeat' first | assumption | exact up_eq _ _ _ | refine up_ne (by omega) ?_) (by exact Nat.le_of_ble_eq_true rfl) ?_
    refine g_aload_n C rfl rfl d_M_balance_23 ?_
    refine gf_M_84 C d_M_balance_24 (by first | assumption | omega) (by repeat' first | assumption | exact up_eq _ _ _ | refine up_ne (by omega) ?_) (by rfl) ?_
    refine g_if_le (tgt := 34) C d_M_balance_27 (by decide) (fun j27 => ?_) (fun j27 => ?_)
    · exact absurd j27 (by decide)
    refine g_lconst (v := 0) C rfl d_M_balance_30 ?_
    refine g_goto (tgt := 44) C d_M_balance_31 (by decide) ?_
    refine g_lret C E hr d_M_balance_44 ?_
    exact ⟨rfl, MW_up hW (by unfold isM; exact (by repeat' first | assumption | exact up_eq _ _ _ | refine up_ne (by omega) ?_)) (fun j a b => by repeat' first | exact rfl | refine up_ne (by omega) ?_), fun j a => by repeat' first | exact rfl | refine up_ne (by omega) ?_⟩
  · refine g_iload_n C rfl rfl d_M_balance_8 ?_
    refine g_callS C (c_M_isToken t) Y_M_isToken m_729 m_728 ⟨by decide, by decide⟩ ⟨by decide, by decide⟩ (fun h => nomatch h) d_M_balance_9 rfl (Nat.le_of_ble_eq_true rfl) (fun ret sg9 hq => ?_)
    obtain ⟨rfl, rfl⟩ := hq
    refine g_if_eq (tgt := 19) C d_M_balance_12 (by decide) (fun j12 => ?_) (fun j12 => ?_)
    rotate_left
    · exact absurd (⟨okd j5, okd j12⟩ : okI a 4 ∧ okI t 3) h
    refine g_iconst (v := 1) C rfl d_M_balance_19 ?_
    refine pf_M_84 C d_M_balance_20 rfl rfl (by first | assumption | omega) (by repeat' first | assumption | exact up_eq _ _ _ | refine up_ne (by omega) ?_) (by exact Nat.le_of_ble_eq_true rfl) ?_
    refine g_aload_n C rfl rfl d_M_balance_23 ?_
    refine gf_M_84 C d_M_balance_24 (by first | assumption | omega) (by repeat' first | assumption | exact up_eq _ _ _ | refine up_ne (by omega) ?_) (by rfl) ?_
    refine g_if_le (tgt := 34) C d_M_balance_27 (by decide) (fun j27 => ?_) (fun j27 => ?_)
    · exact absurd j27 (by decide)
    refine g_lconst (v := 0) C rfl d_M_balance_30 ?_
    refine g_goto (tgt := 44) C d_M_balance_31 (by decide) ?_
    refine g_lret C E hr d_M_balance_44 ?_
    exact ⟨rfl, MW_up hW (by unfold isM; exact (by repeat' first | assumption | exact up_eq _ _ _ | refine up_ne (by omega) ?_)) (fun j a b => by repeat' first | exact rfl | refine up_ne (by omega) ?_), fun j a => by repeat' first | exact rfl | refine up_ne (by omega) ?_⟩
theorem c_M_growth {l : Launch} {o n : Nat} {sg : Nat → va_E} {m : Nat} {t0 : Int32} {Z : ZS} (p s : Nat) (hn : m + 22 < n) (hW : MW sg o m t0 Z) (hp : p < 2) (hs : s < 2) : GM l y_M_growth b_M_growth 3 (some .long) 2 32 0 0 o n n sg false [.ref (ad o m), .int (nI p), .int (nI s)] (fun r0 s1 => some (.long (zgw Z (2 * p + s))) = r0 ∧ MW s1 o m 0 Z ∧ mfr sg s1 m) := by
  have hm1 : sg m = _ := hW.1
  obtain ⟨a1, a2, a3, a4, a5, a6, a7, a8, a9, a10, a11⟩ := hW.2.1
  refine GM_of (by decide) (Nat.le_of_ble_eq_true rfl) ?_
  intro K C hl hz hr hnm E
  show G K o n sg 0 0 0 [(0, .ref (ad o m)), (1, .int (nI p)), (2, .int (nI s))] []
  refine g_aload_n C rfl rfl d_M_growth_0 ?_
  refine g_iload_n C rfl rfl d_M_growth_1 ?_
  refine g_callS C (c_M_isPool (nI p)) Y_M_isPool m_744 m_743 ⟨by decide, by decide⟩ ⟨by decide, by decide⟩ (fun h => nomatch h) d_M_growth_2 rfl (Nat.le_of_ble_eq_true rfl) (fun ret sg2 hq => ?_)
  obtain ⟨rfl, rfl⟩ := hq
  refine g_if_eq (tgt := 21) C d_M_growth_5 (by decide) (fun j5 => ?_) (fun j5 => ?_)
  · exact absurd (j5.symm.trans (bzd (ok2 hp))) (by decide)
  refine g_iload_n C rfl rfl d_M_growth_8 ?_
  refine g_if_eq (tgt := 17) C d_M_growth_9 (by decide) (fun j9 => ?_) (fun j9 => ?_)
  · refine g_iconst (v := 0) C rfl d_M_growth_17 ?_
    refine g_goto (tgt := 22) C d_M_growth_18 (by decide) ?_
    refine pf_M_84 C d_M_growth_22 rfl rfl (by first | assumption | omega) (by repeat' first | assumption | exact up_eq _ _ _ | refine up_ne (by omega) ?_) (by exact Nat.le_of_ble_eq_true rfl) ?_
    refine g_aload_n C rfl rfl d_M_growth_25 ?_
    refine gf_M_84 C d_M_growth_26 (by first | assumption | omega) (by repeat' first | assumption | exact up_eq _ _ _ | refine up_ne (by omega) ?_) (by rfl) ?_
    refine g_if_le (tgt := 36) C d_M_growth_29 (by decide) (fun j29 => ?_) (fun j29 => ?_)
    rotate_left
    · exact absurd (by decide) j29
    refine g_aload_n C rfl rfl d_M_growth_36 ?_
    refine gf_M_32 C d_M_growth_37 (by first | assumption | omega) (by repeat' first | assumption | exact up_eq _ _ _ | refine up_ne (by omega) ?_) (by rfl) ?_
    refine g_iconst (v := 2) C rfl d_M_growth_40 ?_
    refine g_iload_n C rfl rfl d_M_growth_41 ?_
    refine g_imul C d_M_growth_42 ?_
    refine g_iload_n C rfl rfl d_M_growth_43 ?_
    refine g_iadd C d_M_growth_44 ?_
    rw [two_k, nI_add]
    refine g_lald C d_M_growth_45 (by first | assumption | omega) (by repeat' first | assumption | exact up_eq _ _ _ | refine up_ne (by omega) ?_) (vp_in_nI (by omega) (by decide)) ?_
    rw [nI_clamp (n := 2 * p + s) (by omega)]
    refine g_lret C E hr d_M_growth_46 ?_
    exact ⟨rfl, MW_up hW (by unfold isM; exact (by repeat' first | assumption | exact up_eq _ _ _ | refine up_ne (by omega) ?_)) (fun j a b => by repeat' first | exact rfl | refine up_ne (by omega) ?_), fun j a => by repeat' first | exact rfl | refine up_ne (by omega) ?_⟩
  · refine g_iload_n C rfl rfl d_M_growth_12 ?_
    refine g_iconst (v := 1) C rfl d_M_growth_13 ?_
    refine g_icmp_ne (tgt := 21) C d_M_growth_14 (by decide) (fun j14 => ?_) (fun j14 => ?_)
    · exact absurd (show nI s = 1 from by rcases (show s = 0 ∨ s = 1 by omega) with q | q; exact absurd (by rw [q]; rfl) j9; rw [q]; rfl) j14
    refine g_iconst (v := 0) C rfl d_M_growth_17 ?_
    refine g_goto (tgt := 22) C d_M_growth_18 (by decide) ?_
    refine pf_M_84 C d_M_growth_22 rfl rfl (by first | assumption | omega) (by repeat' first | assumption | exact up_eq _ _ _ | refine up_ne (by omega) ?_) (by exact Nat.le_of_ble_eq_true rfl) ?_
    refine g_aload_n C rfl rfl d_M_growth_25 ?_
    refine gf_M_84 C d_M_growth_26 (by first | assumption | omega) (by repeat' first | assumption | exact up_eq _ _ _ | refine up_ne (by omega) ?_) (by rfl) ?_
    refine g_if_le (tgt := 36) C d_M_growth_29 (by decide) (fun j29 => ?_) (fun j29 => ?_)
    rotate_left
    · exact absurd (by decide) j29
    refine g_aload_n C rfl rfl d_M_growth_36 ?_
    refine gf_M_32 C d_M_growth_37 (by first | assumption | omega) (by repeat' first | assumption | exact up_eq _ _ _ | refine up_ne (by omega) ?_) (by rfl) ?_
    refine g_iconst (v := 2) C rfl d_M_growth_40 ?_
    refine g_iload_n C rfl rfl d_M_growth_41 ?_
    refine g_imul C d_M_growth_42 ?_
    refine g_iload_n C rfl rfl d_M_growth_43 ?_
    refine g_iadd C d_M_growth_44 ?_
    rw [two_k, nI_add]
    refine g_lald C d_M_growth_45 (by first | assumption | omega) (by repeat' first | assumption | exact up_eq _ _ _ | refine up_ne (by omega) ?_) (vp_in_nI (by omega) (by decide)) ?_
    rw [nI_clamp (n := 2 * p + s) (by omega)]
    refine g_lret C E hr d_M_growth_46 ?_
    exact ⟨rfl, MW_up hW (by unfold isM; exact (by repeat' first | assumption | exact up_eq _ _ _ | refine up_ne (by omega) ?_)) (fun j a b => by repeat' first | exact rfl | refine up_ne (by omega) ?_), fun j a => by repeat' first | exact rfl | refine up_ne (by omega) ?_⟩
theorem e_M_growth {l : Launch} {o n : Nat} {sg : Nat → va_E} {m : Nat} {t0 : Int32} {Z : ZS} (p s : Int32) (hn : m + 22 < n) (hW : MW sg o m t0 Z) (h : ¬ (okI p 2 ∧ okI s 2)) : GM l y_M_growth b_M_growth 3 (some .long) 2 32 0 0 o n n sg false [.ref (ad o m), .int p, .int s] (fun r0 s1 => some (.long 0) = r0 ∧ MW s1 o m 1 Z ∧ mfr sg s1 m) := by
  have hm1 : sg m = _ := hW.1
  obtain ⟨a1, a2, a3, a4, a5, a6, a7, a8, a9, a10, a11⟩ := hW.2.1
  refine GM_of (by decide) (Nat.le_of_ble_eq_true rfl) ?_
  intro K C hl hz hr hnm E
  show G K o n sg 0 0 0 [(0, .ref (ad o m)), (1, .int p), (2, .int s)] []
  refine g_aload_n C rfl rfl d_M_growth_0 ?_
  refine g_iload_n C rfl rfl d_M_growth_1 ?_
  refine g_callS C (c_M_isPool p) Y_M_isPool m_744 m_743 ⟨by decide, by decide⟩ ⟨by decide, by decide⟩ (fun h => nomatch h) d_M_growth_2 rfl (Nat.le_of_ble_eq_true rfl) (fun ret sg2 hq => ?_)
  obtain ⟨rfl, rfl⟩ := hq
  refine g_if_eq (tgt := 21) C d_M_growth_5 (by decide) (fun j5 => ?_) (fun j5 => ?_)
  · refine g_iconst (v := 1) C rfl d_M_growth_21 ?_
    refine pf_M_84 C d_M_growth_22 rfl rfl (by first | assumption | omega) (by repeat' first | assumption | exact up_eq _ _ _ | refine up_ne (by omega) ?_) (by exact Nat.le_of_ble_eq_true rfl) ?_
    refine g_aload_n C rfl rfl d_M_growth_25 ?_
    refine gf_M_84 C d_M_growth_26 (by first | assumption | omega) (by repeat' first | assumption | exact up_eq _ _ _ | refine up_ne (by omega) ?_) (by rfl) ?_
    refine g_if_le (tgt := 36) C d_M_growth_29 (by decide) (fun j29 => ?_) (fun j29 => ?_)
    · exact absurd j29 (by decide)
    refine g_lconst (v := 0) C rfl d_M_growth_32 ?_
    refine g_goto (tgt := 46) C d_M_growth_33 (by decide) ?_
    refine g_lret C E hr d_M_growth_46 ?_
    exact ⟨rfl, MW_up hW (by unfold isM; exact (by repeat' first | assumption | exact up_eq _ _ _ | refine up_ne (by omega) ?_)) (fun j a b => by repeat' first | exact rfl | refine up_ne (by omega) ?_), fun j a => by repeat' first | exact rfl | refine up_ne (by omega) ?_⟩
  · refine g_iload_n C rfl rfl d_M_growth_8 ?_
    refine g_if_eq (tgt := 17) C d_M_growth_9 (by decide) (fun j9 => ?_) (fun j9 => ?_)
    · exact absurd (⟨okd j5, two_i.mpr (Or.inl j9)⟩ : okI p 2 ∧ okI s 2) h
    refine g_iload_n C rfl rfl d_M_growth_12 ?_
    refine g_iconst (v := 1) C rfl d_M_growth_13 ?_
    refine g_icmp_ne (tgt := 21) C d_M_growth_14 (by decide) (fun j14 => ?_) (fun j14 => ?_)
    rotate_left
    · exact absurd (⟨okd j5, two_i.mpr (Or.inr j14)⟩ : okI p 2 ∧ okI s 2) h
    refine g_iconst (v := 1) C rfl d_M_growth_21 ?_
    refine pf_M_84 C d_M_growth_22 rfl rfl (by first | assumption | omega) (by repeat' first | assumption | exact up_eq _ _ _ | refine up_ne (by omega) ?_) (by exact Nat.le_of_ble_eq_true rfl) ?_
    refine g_aload_n C rfl rfl d_M_growth_25 ?_
    refine gf_M_84 C d_M_growth_26 (by first | assumption | omega) (by repeat' first | assumption | exact up_eq _ _ _ | refine up_ne (by omega) ?_) (by rfl) ?_
    refine g_if_le (tgt := 36) C d_M_growth_29 (by decide) (fun j29 => ?_) (fun j29 => ?_)
    · exact absurd j29 (by decide)
    refine g_lconst (v := 0) C rfl d_M_growth_32 ?_
    refine g_goto (tgt := 46) C d_M_growth_33 (by decide) ?_
    refine g_lret C E hr d_M_growth_46 ?_
    exact ⟨rfl, MW_up hW (by unfold isM; exact (by repeat' first | assumption | exact up_eq _ _ _ | refine up_ne (by omega) ?_)) (fun j a b => by repeat' first | exact rfl | refine up_ne (by omega) ?_), fun j a => by repeat' first | exact rfl | refine up_ne (by omega) ?_⟩
/-- where the reference finds a place -/
def zFind (Z : ZS) (a b c d : Int32) : Option Nat := fnd (mIs (zth Z) (zow Z) (zpl Z) (zlo Z) (zhi Z) a b c d) 12
theorem fnd_some {b : Nat → Bool} {k : Nat} (h : fnd b 12 = some k) : k < 12 ∧ b k = true := ⟨(fnd_lt (Nat.le_refl 12) h).1, (fnd_lt (Nat.le_refl 12) h).2.1⟩
theorem c_M_pos0 {l : Launch} {o n : Nat} {sg : Nat → va_E} {m : Nat} {t0 : Int32} {Z : ZS} (a b c d w : Int32) (hn : m + 22 < n) (hW : MW sg o m t0 Z) (h : zFind Z a b c d = none ∨ w < 0 ∨ 2 < w) : GM l y_M_position b_M_position 7 (some .long) 2 37 0 0 o n n sg false [.ref (ad o m), .int a, .int b, .int c, .int d, .int w] (fun r0 s1 => some (.long 0) = r0 ∧ MW s1 o m 0 Z ∧ mfr sg s1 m) := by
  have hm1 : sg m = _ := hW.1
  obtain ⟨a1, a2, a3, a4, a5, a6, a7, a8, a9, a10, a11⟩ := hW.2.1
  refine GM_of (by decide) (Nat.le_of_ble_eq_true rfl) ?_
  intro K C hl hz hr hnm E
  show G K o n sg 0 0 0 [(0, .ref (ad o m)), (1, .int a), (2, .int b), (3, .int c), (4, .int d), (5, .int w)] []
  have hf : zFind Z a b c d = none ∨ ∃ k, zFind Z a b c d = some k := by
    cases zFind Z a b c d with
    | none => exact Or.inl rfl
    | some k => exact Or.inr ⟨k, rfl⟩
  rcases hf with e | ⟨k, e⟩
  · refine g_aload_n C rfl rfl d_M_position_0 ?_
    refine g_iconst (v := 0) C rfl d_M_position_1 ?_
    refine pf_M_84 C d_M_position_2 rfl rfl (by first | assumption | omega) (by repeat' first | assumption | exact up_eq _ _ _ | refine up_ne (by omega) ?_) (by exact Nat.le_of_ble_eq_true rfl) ?_
    refine g_aload_n C rfl rfl d_M_position_5 ?_
    refine g_iload_n C rfl rfl d_M_position_6 ?_
    refine g_iload_n C rfl rfl d_M_position_7 ?_
    refine g_iload_n C rfl rfl d_M_position_8 ?_
    refine g_iload C rfl d_M_position_9 ?_
    refine g_callV C (c_M_find (t0 := 0) (la := zla Z) (th := zth Z) (ow := zow Z) (pl := zpl Z) (lo := zlo Z) (hi := zhi Z) (am := zam Z) a b c d hn (by unfold isM; exact (by repeat' first | assumption | exact up_eq _ _ _ | refine up_ne (by omega) ?_)) (isMP_mv a9 (fun j a b => up_ne (by omega) rfl))) Y_M_find m_751 s_M_find m_749 rfl rfl ⟨by decide, by decide⟩ ⟨by decide, by decide⟩ (fun h => nomatch h) d_M_position_11 (by first | assumption | omega) (by repeat' first | assumption | exact up_eq _ _ _ | refine up_ne (by omega) ?_) rfl (Nat.le_of_ble_eq_true rfl) (fun ret sg11 hq => ?_)
    obtain ⟨rfl, rfl⟩ := hq
    rw [show fnd (mIs (zth Z) (zow Z) (zpl Z) (zlo Z) (zhi Z) a b c d) 12 = none from e]
    refine g_istore (lv' := [(6, .int (-1)), (0, .ref (ad o m)), (1, .int a), (2, .int b), (3, .int c), (4, .int d), (5, .int w)]) C d_M_position_14 (by decide) rfl ?_
    refine g_iload C rfl d_M_position_16 ?_
    refine g_if_lt (tgt := 32) C d_M_position_18 (by decide) (fun j18 => ?_) (fun j18 => ?_)
    rotate_left
    · exact absurd (by decide) j18
    refine g_lconst (v := 0) C rfl d_M_position_32 ?_
    refine g_lret C E hr d_M_position_33 ⟨rfl, MW_up hW (by unfold isM; exact (by repeat' first | assumption | exact up_eq _ _ _ | refine up_ne (by omega) ?_)) (fun j a b => by repeat' first | exact rfl | refine up_ne (by omega) ?_), fun j a => by repeat' first | exact rfl | refine up_ne (by omega) ?_⟩
  · have hk := (fnd_some e).1
    refine g_aload_n C rfl rfl d_M_position_0 ?_
    refine g_iconst (v := 0) C rfl d_M_position_1 ?_
    refine pf_M_84 C d_M_position_2 rfl rfl (by first | assumption | omega) (by repeat' first | assumption | exact up_eq _ _ _ | refine up_ne (by omega) ?_) (by exact Nat.le_of_ble_eq_true rfl) ?_
    refine g_aload_n C rfl rfl d_M_position_5 ?_
    refine g_iload_n C rfl rfl d_M_position_6 ?_
    refine g_iload_n C rfl rfl d_M_position_7 ?_
    refine g_iload_n C rfl rfl d_M_position_8 ?_
    refine g_iload C rfl d_M_position_9 ?_
    refine g_callV C (c_M_find (t0 := 0) (la := zla Z) (th := zth Z) (ow := zow Z) (pl := zpl Z) (lo := zlo Z) (hi := zhi Z) (am := zam Z) a b c d hn (by unfold isM; exact (by repeat' first | assumption | exact up_eq _ _ _ | refine up_ne (by omega) ?_)) (isMP_mv a9 (fun j a b => up_ne (by omega) rfl))) Y_M_find m_751 s_M_find m_749 rfl rfl ⟨by decide, by decide⟩ ⟨by decide, by decide⟩ (fun h => nomatch h) d_M_position_11 (by first | assumption | omega) (by repeat' first | assumption | exact up_eq _ _ _ | refine up_ne (by omega) ?_) rfl (Nat.le_of_ble_eq_true rfl) (fun ret sg11 hq => ?_)
    obtain ⟨rfl, rfl⟩ := hq
    rw [show fnd (mIs (zth Z) (zow Z) (zpl Z) (zlo Z) (zhi Z) a b c d) 12 = some k from e]
    refine g_istore (lv' := [(6, .int (nI k)), (0, .ref (ad o m)), (1, .int a), (2, .int b), (3, .int c), (4, .int d), (5, .int w)]) C d_M_position_14 (by decide) rfl ?_
    refine g_iload C rfl d_M_position_16 ?_
    refine g_if_lt (tgt := 32) C d_M_position_18 (by decide) (fun j18 => ?_) (fun j18 => ?_)
    · exact absurd j18 (nI_pos (by omega))
    refine g_iload C rfl d_M_position_21 ?_
    refine g_if_lt (tgt := 32) C d_M_position_23 (by decide) (fun j23 => ?_) (fun j23 => ?_)
    · refine g_lconst (v := 0) C rfl d_M_position_32 ?_
      refine g_lret C E hr d_M_position_33 ⟨rfl, MW_up hW (by unfold isM; exact (by repeat' first | assumption | exact up_eq _ _ _ | refine up_ne (by omega) ?_)) (fun j a b => by repeat' first | exact rfl | refine up_ne (by omega) ?_), fun j a => by repeat' first | exact rfl | refine up_ne (by omega) ?_⟩
    · refine g_iload C rfl d_M_position_26 ?_
      refine g_iconst (v := 2) C rfl d_M_position_28 ?_
      refine g_icmp_le (tgt := 34) C d_M_position_29 (by decide) (fun j29 => ?_) (fun j29 => ?_)
      · exact absurd h (fun q => q.elim (fun q => nomatch (e.symm.trans q)) (fun q => q.elim (fun q => j23 q) (fun q => absurd j29 (Int32.not_le.mpr q))))
      refine g_lconst (v := 0) C rfl d_M_position_32 ?_
      refine g_lret C E hr d_M_position_33 ⟨rfl, MW_up hW (by unfold isM; exact (by repeat' first | assumption | exact up_eq _ _ _ | refine up_ne (by omega) ?_)) (fun j a b => by repeat' first | exact rfl | refine up_ne (by omega) ?_), fun j a => by repeat' first | exact rfl | refine up_ne (by omega) ?_⟩
theorem c_M_pos {l : Launch} {o n : Nat} {sg : Nat → va_E} {m : Nat} {t0 : Int32} {Z : ZS} (a b c d : Int32) (k w : Nat) (hn : m + 22 < n) (hW : MW sg o m t0 Z) (h : zFind Z a b c d = some k) (hw : w ≤ 2) : GM l y_M_position b_M_position 7 (some .long) 2 37 0 0 o n n sg false [.ref (ad o m), .int a, .int b, .int c, .int d, .int (nI w)] (fun r0 s1 => some (.long (if w = 0 then lN (zam Z k) else zod Z (2 * k + w - 1))) = r0 ∧ MW s1 o m 0 Z ∧ mfr sg s1 m) := by
  have hm1 : sg m = _ := hW.1
  obtain ⟨a1, a2, a3, a4, a5, a6, a7, a8, a9, a10, a11⟩ := hW.2.1
  have a9x := a9.2.2.2.2.2
  have hk := (fnd_some h).1
  have ck : (nI k).toNatClampNeg = k := nI_clamp (by omega)
  refine GM_of (by decide) (Nat.le_of_ble_eq_true rfl) ?_
  intro K C hl hz hr hnm E
  show G K o n sg 0 0 0 [(0, .ref (ad o m)), (1, .int a), (2, .int b), (3, .int c), (4, .int d), (5, .int (nI w))] []
  refine g_aload_n C rfl rfl d_M_position_0 ?_
  refine g_iconst (v := 0) C rfl d_M_position_1 ?_
  refine pf_M_84 C d_M_position_2 rfl rfl (by first | assumption | omega) (by repeat' first | assumption | exact up_eq _ _ _ | refine up_ne (by omega) ?_) (by exact Nat.le_of_ble_eq_true rfl) ?_
  refine g_aload_n C rfl rfl d_M_position_5 ?_
  refine g_iload_n C rfl rfl d_M_position_6 ?_
  refine g_iload_n C rfl rfl d_M_position_7 ?_
  refine g_iload_n C rfl rfl d_M_position_8 ?_
  refine g_iload C rfl d_M_position_9 ?_
  refine g_callV C (c_M_find (t0 := 0) (la := zla Z) (th := zth Z) (ow := zow Z) (pl := zpl Z) (lo := zlo Z) (hi := zhi Z) (am := zam Z) a b c d hn (by unfold isM; exact (by repeat' first | assumption | exact up_eq _ _ _ | refine up_ne (by omega) ?_)) (isMP_mv a9 (fun j a b => up_ne (by omega) rfl))) Y_M_find m_751 s_M_find m_749 rfl rfl ⟨by decide, by decide⟩ ⟨by decide, by decide⟩ (fun h => nomatch h) d_M_position_11 (by first | assumption | omega) (by repeat' first | assumption | exact up_eq _ _ _ | refine up_ne (by omega) ?_) rfl (Nat.le_of_ble_eq_true rfl) (fun ret sg11 hq => ?_)
  obtain ⟨rfl, rfl⟩ := hq
  rw [show fnd (mIs (zth Z) (zow Z) (zpl Z) (zlo Z) (zhi Z) a b c d) 12 = some k from h]
  refine g_istore (lv' := [(6, .int (nI k)), (0, .ref (ad o m)), (1, .int a), (2, .int b), (3, .int c), (4, .int d), (5, .int (nI w))]) C d_M_position_14 (by decide) rfl ?_
  refine g_iload C rfl d_M_position_16 ?_
  refine g_if_lt (tgt := 32) C d_M_position_18 (by decide) (fun j18 => ?_) (fun j18 => ?_)
  · exact absurd j18 (nI_pos (by omega))
  refine g_iload C rfl d_M_position_21 ?_
  refine g_if_lt (tgt := 32) C d_M_position_23 (by decide) (fun j23 => ?_) (fun j23 => ?_)
  · exact absurd j23 (nI_pos (by omega))
  refine g_iload C rfl d_M_position_26 ?_
  refine g_iconst (v := 2) C rfl d_M_position_28 ?_
  refine g_icmp_le (tgt := 34) C d_M_position_29 (by decide) (fun j29 => ?_) (fun j29 => ?_)
  rotate_left
  · exact absurd (nI_le (b := 2) hw (by decide)) j29
  refine g_iload C rfl d_M_position_34 ?_
  refine g_if_ne (tgt := 49) C d_M_position_36 (by decide) (fun j36 => ?_) (fun j36 => ?_)
  · refine g_aload_n C rfl rfl d_M_position_49 ?_
    refine gf_M_57 C d_M_position_50 (by first | assumption | omega) (by repeat' first | assumption | exact up_eq _ _ _ | refine up_ne (by omega) ?_) (by rfl) ?_
    refine g_iconst (v := 2) C rfl d_M_position_53 ?_
    refine g_iload C rfl d_M_position_54 ?_
    refine g_imul C d_M_position_56 ?_
    refine g_iload C rfl d_M_position_57 ?_
    refine g_iadd C d_M_position_59 ?_
    refine g_iconst (v := 1) C rfl d_M_position_60 ?_
    refine g_isub C d_M_position_61 ?_
    rw [two_k, nI_add, show nI (2 * k + w) - 1 = nI (2 * k + w - 1) from pk_sub (b := 1) (by rcases Nat.eq_zero_or_pos w with q | q; exact absurd (by rw [q]; rfl) j36; omega)]
    refine g_lald C d_M_position_62 (by first | assumption | omega) (by repeat' first | assumption | exact up_eq _ _ _ | refine up_ne (by omega) ?_) (vp_in_nI (by omega) (by decide)) ?_
    skip
    refine g_lret C E hr d_M_position_63 ?_
    first | (have w1 : nI w = 0 := (by assumption); rw [if_pos (show w = 0 from (nI_eq (by omega) (by decide)).mp w1)]; exact ⟨rfl, MW_up hW (by unfold isM; exact (by repeat' first | assumption | exact up_eq _ _ _ | refine up_ne (by omega) ?_)) (fun j a b => by repeat' first | exact rfl | refine up_ne (by omega) ?_), fun j a => by repeat' first | exact rfl | refine up_ne (by omega) ?_⟩) | (have w1 : ¬ nI w = 0 := (by assumption); rw [if_neg (show ¬ w = 0 from fun q => w1 (by rw [q]; rfl)), nI_clamp (n := 2 * k + w - 1) (by omega)]; exact ⟨rfl, MW_up hW (by unfold isM; exact (by repeat' first | assumption | exact up_eq _ _ _ | refine up_ne (by omega) ?_)) (fun j a b => by repeat' first | exact rfl | refine up_ne (by omega) ?_), fun j a => by repeat' first | exact rfl | refine up_ne (by omega) ?_⟩)
  · refine g_aload_n C rfl rfl d_M_position_39 ?_
    refine gf_M_51 C d_M_position_40 (by first | assumption | omega) (by repeat' first | assumption | exact up_eq _ _ _ | refine up_ne (by omega) ?_) (by rfl) ?_
    refine g_iload C rfl d_M_position_43 ?_
    refine g_lald C d_M_position_45 (by first | assumption | omega) (by repeat' first | assumption | exact up_eq _ _ _ | refine up_ne (by omega) ?_) (vp_in_nI hk (by decide)) ?_
    rw [ck]
    refine g_goto (tgt := 63) C d_M_position_46 (by decide) ?_
    skip
    refine g_lret C E hr d_M_position_63 ?_
    first | (have w1 : nI w = 0 := (by assumption); rw [if_pos (show w = 0 from (nI_eq (by omega) (by decide)).mp w1)]; exact ⟨rfl, MW_up hW (by unfold isM; exact (by repeat' first | assumption | exact up_eq _ _ _ | refine up_ne (by omega) ?_)) (fun j a b => by repeat' first | exact rfl | refine up_ne (by omega) ?_), fun j a => by repeat' first | exact rfl | refine up_ne (by omega) ?_⟩) | (have w1 : ¬ nI w = 0 := (by assumption); rw [if_neg (show ¬ w = 0 from fun q => w1 (by rw [q]; rfl)), nI_clamp (n := 2 * k + w - 1) (by omega)]; exact ⟨rfl, MW_up hW (by unfold isM; exact (by repeat' first | assumption | exact up_eq _ _ _ | refine up_ne (by omega) ?_)) (fun j a b => by repeat' first | exact rfl | refine up_ne (by omega) ?_), fun j a => by repeat' first | exact rfl | refine up_ne (by omega) ?_⟩)

