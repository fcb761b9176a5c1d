-- GIVE AND COLLECT IN THE REFERENCE
theorem odt {p : Prop} {d : Decidable p} (h : decide p = true) : p := of_decide_eq_true h
theorem isMP_th {s s' : Nat → va_E} {m : Nat} {th th' : Nat → Bool} {ow pl : Nat → Nat} {lo hi : Nat → Int} {am : Nat → Nat} (h : isMP s m th ow pl lo hi am) (h0 : s' (m + 9) = eZ 12 (fun i => bz (th' i))) (e : ∀ j, m + 10 ≤ j → j ≤ m + 14 → s' j = s j) : isMP s' m th' ow pl lo hi am := ⟨h0, (e _ (by omega) (by omega)).trans h.2.1, (e _ (by omega) (by omega)).trans h.2.2.1, (e _ (by omega) (by omega)).trans h.2.2.2.1, (e _ (by omega) (by omega)).trans h.2.2.2.2.1, (e _ (by omega) (by omega)).trans h.2.2.2.2.2⟩
def zGive (Z : ZS) (a t : Nat) (x : Int64) : ZS := ((zla Z, vp_updL (zbal Z) (a * 3 + t) (zbal Z (a * 3 + t) + x), vp_updL (zgiv Z) t (zgiv Z t + x), zhol Z), Z.2)
theorem c_M_give {l : Launch} {o n : Nat} {sg : Nat → va_E} {m : Nat} {t0 : Int32} {Z : ZS} (a t : Nat) (x : Int32) (hn : m + 22 < n) (hW : MW sg o m t0 Z) (ha : a < 4) (ht : t < 3) (hx : ¬ x < 0) (hg : zgiv Z t + x.toInt64 ≤ 100000000) : GM l y_M_give b_M_give 4 (some .long) 2 32 0 0 o n n sg false [.ref (ad o m), .int (nI a), .int (nI t), .int x] (fun r0 s => some (.long (zbal Z (a * 3 + t) + x.toInt64)) = r0 ∧ MW s o m 0 (zGive Z a t x.toInt64) ∧ mfr sg s m) := by
  have hm1 : sg m = _ := hW.1
  obtain ⟨a1, a2, a3, a4, a5, a6, a7, a8, a9, a10, a11⟩ := hW.2.1
  have hcl : (nI t).toNatClampNeg = t := nI_clamp (by omega)
  have hin : vp_in (nI t) 3 := vp_in_nI ht (by decide)
  refine GM_of (by decide) (Nat.le_of_ble_eq_true rfl) ?_
  intro K C hl hz hr hnm E
  show G K o n sg 0 0 0 [(0, .ref (ad o m)), (1, .int (nI a)), (2, .int (nI t)), (3, .int x)] []
  refine g_aload_n C rfl rfl d_M_give_0 ?_
  refine g_iload_n C rfl rfl d_M_give_1 ?_
  refine g_callS C (c_M_isOwner (nI a)) Y_M_isOwner m_726 m_725 ⟨by decide, by decide⟩ ⟨by decide, by decide⟩ (fun h => nomatch h) d_M_give_2 rfl (Nat.le_of_ble_eq_true rfl) (fun ret sg2 hq => ?_)
  obtain ⟨rfl, rfl⟩ := hq
  refine g_if_eq (tgt := 15) C d_M_give_5 (by decide) (fun j5 => ?_) (fun j5 => ?_)
  · exact absurd (j5.symm.trans (bzd (ok4 ha))) (by decide)
  refine g_iload_n C rfl rfl d_M_give_8 ?_
  refine g_callS C (c_M_isToken (nI t)) Y_M_isToken m_729 m_728 ⟨by decide, by decide⟩ ⟨by decide, by decide⟩ (fun h => nomatch h) d_M_give_9 rfl (Nat.le_of_ble_eq_true rfl) (fun ret sg9 hq => ?_)
  obtain ⟨rfl, rfl⟩ := hq
  refine g_if_ne (tgt := 19) C d_M_give_12 (by decide) (fun j12 => ?_) (fun j12 => ?_)
  rotate_left
  · exact absurd (j12.symm.trans (bzd (ok3 ht))) (by decide)
  refine g_iload_n C rfl rfl d_M_give_19 ?_
  refine g_if_lt (tgt := 39) C d_M_give_20 (by decide) (fun j20 => ?_) (fun j20 => ?_)
  · exact absurd j20 hx
  refine g_aload_n C rfl rfl d_M_give_23 ?_
  refine gf_M_16 C d_M_give_24 (by first | assumption | omega) (by repeat' first | assumption | exact up_eq _ _ _ | refine up_ne (by omega) ?_) (by rfl) ?_
  refine g_iload_n C rfl rfl d_M_give_27 ?_
  refine g_lald C d_M_give_28 (by first | assumption | omega) (by repeat' first | assumption | exact up_eq _ _ _ | refine up_ne (by omega) ?_) hin ?_
  rw [hcl]
  refine g_iload_n C rfl rfl d_M_give_29 ?_
  refine g_i2l C d_M_give_30 ?_
  refine g_ladd C d_M_give_31 ?_
  refine g_ldc2 C m_731 d_M_give_32 ?_
  refine g_lcmp_le (tgt := 43) C d_M_give_35 d_M_give_36 (by decide) (fun j35 => ?_) (fun j35 => ?_)
  rotate_left
  · exact absurd hg j35
  refine g_iconst (v := 0) C rfl d_M_give_43 ?_
  refine pf_M_84 C d_M_give_44 rfl rfl (by first | assumption | omega) (by repeat' first | assumption | exact up_eq _ _ _ | refine up_ne (by omega) ?_) (by exact Nat.le_of_ble_eq_true rfl) ?_
  refine g_aload_n C rfl rfl d_M_give_47 ?_
  refine gf_M_84 C d_M_give_48 (by first | assumption | omega) (by repeat' first | assumption | exact up_eq _ _ _ | refine up_ne (by omega) ?_) (by rfl) ?_
  refine g_if_le (tgt := 56) C d_M_give_51 (by decide) (fun j51 => ?_) (fun j51 => ?_)
  rotate_left
  · exact absurd (by decide) j51
  refine g_aload_n C rfl rfl d_M_give_56 ?_
  refine gf_M_16 C d_M_give_57 (by first | assumption | omega) (by repeat' first | assumption | exact up_eq _ _ _ | refine up_ne (by omega) ?_) (by rfl) ?_
  refine g_iload_n C rfl rfl d_M_give_60 ?_
  refine g_dup2 C rfl rfl d_M_give_61 ?_
  refine g_lald C d_M_give_62 (by first | assumption | omega) (by repeat' first | assumption | exact up_eq _ _ _ | refine up_ne (by omega) ?_) hin ?_
  refine g_iload_n C rfl rfl d_M_give_63 ?_
  refine g_i2l C d_M_give_64 ?_
  refine g_ladd C d_M_give_65 ?_
  refine g_last C d_M_give_66 (by first | assumption | omega) (by repeat' first | assumption | exact up_eq _ _ _ | refine up_ne (by omega) ?_) hin ?_
  rw [hcl]
  refine g_aload_n C rfl rfl d_M_give_67 ?_
  refine gf_M_13 C d_M_give_68 (by first | assumption | omega) (by repeat' first | assumption | exact up_eq _ _ _ | refine up_ne (by omega) ?_) (by rfl) ?_
  refine g_iconst (v := 3) C rfl d_M_give_71 ?_
  refine g_iload_n C rfl rfl d_M_give_72 ?_
  refine g_imul C d_M_give_73 ?_
  refine g_iload_n C rfl rfl d_M_give_74 ?_
  refine g_iadd C d_M_give_75 ?_
  rw [show (3 : Int32) = nI 3 from rfl, pk_mul, nI_add, Nat.mul_comm 3 a]
  refine g_dup2 C rfl rfl d_M_give_76 ?_
  refine g_lald C d_M_give_77 (by first | assumption | omega) (by repeat' first | assumption | exact up_eq _ _ _ | refine up_ne (by omega) ?_) (vp_in_nI (by omega) (by decide)) ?_
  refine g_iload_n C rfl rfl d_M_give_78 ?_
  refine g_i2l C d_M_give_79 ?_
  refine g_ladd C d_M_give_80 ?_
  refine g_last C d_M_give_81 (by first | assumption | omega) (by repeat' first | assumption | exact up_eq _ _ _ | refine up_ne (by omega) ?_) (vp_in_nI (by omega) (by decide)) ?_
  rw [nI_clamp (n := a * 3 + t) (by omega)]
  refine g_aload_n C rfl rfl d_M_give_82 ?_
  refine gf_M_13 C d_M_give_83 (by first | assumption | omega) (by repeat' first | assumption | exact up_eq _ _ _ | refine up_ne (by omega) ?_) (by rfl) ?_
  refine g_iconst (v := 3) C rfl d_M_give_86 ?_
  refine g_iload_n C rfl rfl d_M_give_87 ?_
  refine g_imul C d_M_give_88 ?_
  refine g_iload_n C rfl rfl d_M_give_89 ?_
  refine g_iadd C d_M_give_90 ?_
  rw [show (3 : Int32) = nI 3 from rfl, pk_mul, nI_add, Nat.mul_comm 3 a]
  refine g_lald C d_M_give_91 (by first | assumption | omega) (by repeat' first | assumption | exact up_eq _ _ _ | refine up_ne (by omega) ?_) (vp_in_nI (by omega) (by decide)) ?_
  rw [nI_clamp (n := a * 3 + t) (by omega), pk_usL]
  refine g_lret C E hr d_M_give_92 ⟨rfl, ⟨by unfold isM; exact (by repeat' first | assumption | exact up_eq _ _ _ | refine up_ne (by omega) ?_), ⟨isMR_mv a1 (by repeat' first | exact rfl | refine up_ne (by omega) ?_), (by repeat' first | assumption | exact up_eq _ _ _ | refine up_ne (by omega) ?_), (by repeat' first | assumption | exact up_eq _ _ _ | refine up_ne (by omega) ?_), (by repeat' first | assumption | exact up_eq _ _ _ | refine up_ne (by omega) ?_), (by repeat' first | assumption | exact up_eq _ _ _ | refine up_ne (by omega) ?_), (by repeat' first | assumption | exact up_eq _ _ _ | refine up_ne (by omega) ?_), (by repeat' first | assumption | exact up_eq _ _ _ | refine up_ne (by omega) ?_), (by repeat' first | assumption | exact up_eq _ _ _ | refine up_ne (by omega) ?_), isMP_mv a9 (fun j a b => by repeat' first | exact rfl | refine up_ne (by omega) ?_), (by repeat' first | assumption | exact up_eq _ _ _ | refine up_ne (by omega) ?_), (by repeat' first | assumption | exact up_eq _ _ _ | refine up_ne (by omega) ?_)⟩, MX_mv hW.2.2 (fun j a b => by repeat' first | exact rfl | refine up_ne (by omega) ?_)⟩, (fun j a => by repeat' first | exact rfl | refine up_ne (by omega) ?_)⟩
theorem e_M_give1 {l : Launch} {o n : Nat} {sg : Nat → va_E} {m : Nat} {t0 : Int32} {Z : ZS} (a t x : Int32) (hn : m + 22 < n) (hW : MW sg o m t0 Z) (h : ¬ (okI a 4 ∧ okI t 3)) : GM l y_M_give b_M_give 4 (some .long) 2 32 0 0 o n n sg false [.ref (ad o m), .int a, .int t, .int x] (fun r0 s => some (.long 0) = r0 ∧ MW s o m 1 Z ∧ mfr sg s m) := by
  have hm1 : sg m = _ := hW.1
  obtain ⟨a1, a2, a3, a4, a5, a6, a7, a8, a9, a10, a11⟩ := hW.2.1
  refine GM_of (by decide) (Nat.le_of_ble_eq_true rfl) ?_
  intro K C hl hz hr hnm E
  show G K o n sg 0 0 0 [(0, .ref (ad o m)), (1, .int a), (2, .int t), (3, .int x)] []
  refine g_aload_n C rfl rfl d_M_give_0 ?_
  refine g_iload_n C rfl rfl d_M_give_1 ?_
  refine g_callS C (c_M_isOwner a) Y_M_isOwner m_726 m_725 ⟨by decide, by decide⟩ ⟨by decide, by decide⟩ (fun h => nomatch h) d_M_give_2 rfl (Nat.le_of_ble_eq_true rfl) (fun ret sg2 hq => ?_)
  obtain ⟨rfl, rfl⟩ := hq
  refine g_if_eq (tgt := 15) C d_M_give_5 (by decide) (fun j5 => ?_) (fun j5 => ?_)
  · refine g_iconst (v := 1) C rfl d_M_give_15 ?_
    refine g_goto (tgt := 44) C d_M_give_16 (by decide) ?_
    refine pf_M_84 C d_M_give_44 rfl rfl (by first | assumption | omega) (by repeat' first | assumption | exact up_eq _ _ _ | refine up_ne (by omega) ?_) (by exact Nat.le_of_ble_eq_true rfl) ?_
    refine g_aload_n C rfl rfl d_M_give_47 ?_
    refine gf_M_84 C d_M_give_48 (by first | assumption | omega) (by repeat' first | assumption | exact up_eq _ _ _ | refine up_ne (by omega) ?_) (by rfl) ?_
    refine g_if_le (tgt := 56) C d_M_give_51 (by decide) (fun j51 => ?_) (fun j51 => ?_)
    · exact absurd j51 (by decide)
    refine g_lconst (v := 0) C rfl d_M_give_54 ?_
    refine g_lret C E hr d_M_give_55 ?_
    exact ⟨rfl, MW_up hW (by unfold isM; exact (by repeat' first | assumption | exact up_eq _ _ _ | refine up_ne (by omega) ?_)) (fun j a b => by repeat' first | exact rfl | refine up_ne (by omega) ?_), (fun j a => by repeat' first | exact rfl | refine up_ne (by omega) ?_)⟩
  · refine g_iload_n C rfl rfl d_M_give_8 ?_
    refine g_callS C (c_M_isToken t) Y_M_isToken m_729 m_728 ⟨by decide, by decide⟩ ⟨by decide, by decide⟩ (fun h => nomatch h) d_M_give_9 rfl (Nat.le_of_ble_eq_true rfl) (fun ret sg9 hq => ?_)
    obtain ⟨rfl, rfl⟩ := hq
    refine g_if_ne (tgt := 19) C d_M_give_12 (by decide) (fun j12 => ?_) (fun j12 => ?_)
    · exact absurd (⟨okd j5, okd j12⟩ : okI a 4 ∧ okI t 3) h
    refine g_iconst (v := 1) C rfl d_M_give_15 ?_
    refine g_goto (tgt := 44) C d_M_give_16 (by decide) ?_
    refine pf_M_84 C d_M_give_44 rfl rfl (by first | assumption | omega) (by repeat' first | assumption | exact up_eq _ _ _ | refine up_ne (by omega) ?_) (by exact Nat.le_of_ble_eq_true rfl) ?_
    refine g_aload_n C rfl rfl d_M_give_47 ?_
    refine gf_M_84 C d_M_give_48 (by first | assumption | omega) (by repeat' first | assumption | exact up_eq _ _ _ | refine up_ne (by omega) ?_) (by rfl) ?_
    refine g_if_le (tgt := 56) C d_M_give_51 (by decide) (fun j51 => ?_) (fun j51 => ?_)
    · exact absurd j51 (by decide)
    refine g_lconst (v := 0) C rfl d_M_give_54 ?_
    refine g_lret C E hr d_M_give_55 ?_
    exact ⟨rfl, MW_up hW (by unfold isM; exact (by repeat' first | assumption | exact up_eq _ _ _ | refine up_ne (by omega) ?_)) (fun j a b => by repeat' first | exact rfl | refine up_ne (by omega) ?_), (fun j a => by repeat' first | exact rfl | refine up_ne (by omega) ?_)⟩
theorem e_M_give2 {l : Launch} {o n : Nat} {sg : Nat → va_E} {m : Nat} {t0 : Int32} {Z : ZS} (a t : Nat) (x : Int32) (hn : m + 22 < n) (hW : MW sg o m t0 Z) (ha : a < 4) (ht : t < 3) (h : x < 0 ∨ ¬ zgiv Z t + x.toInt64 ≤ 100000000) : GM l y_M_give b_M_give 4 (some .long) 2 32 0 0 o n n sg false [.ref (ad o m), .int (nI a), .int (nI t), .int x] (fun r0 s => some (.long 0) = r0 ∧ MW s o m 2 Z ∧ mfr sg s m) := by
  have hm1 : sg m = _ := hW.1
  obtain ⟨a1, a2, a3, a4, a5, a6, a7, a8, a9, a10, a11⟩ := hW.2.1
  have hcl : (nI t).toNatClampNeg = t := nI_clamp (by omega)
  have hin : vp_in (nI t) 3 := vp_in_nI ht (by decide)
  refine GM_of (by decide) (Nat.le_of_ble_eq_true rfl) ?_
  intro K C hl hz hr hnm E
  show G K o n sg 0 0 0 [(0, .ref (ad o m)), (1, .int (nI a)), (2, .int (nI t)), (3, .int x)] []
  refine g_aload_n C rfl rfl d_M_give_0 ?_
  refine g_iload_n C rfl rfl d_M_give_1 ?_
  refine g_callS C (c_M_isOwner (nI a)) Y_M_isOwner m_726 m_725 ⟨by decide, by decide⟩ ⟨by decide, by decide⟩ (fun h => nomatch h) d_M_give_2 rfl (Nat.le_of_ble_eq_true rfl) (fun ret sg2 hq => ?_)
  obtain ⟨rfl, rfl⟩ := hq
  refine g_if_eq (tgt := 15) C d_M_give_5 (by decide) (fun j5 => ?_) (fun j5 => ?_)
  · exact absurd (j5.symm.trans (bzd (ok4 ha))) (by decide)
  refine g_iload_n C rfl rfl d_M_give_8 ?_
  refine g_callS C (c_M_isToken (nI t)) Y_M_isToken m_729 m_728 ⟨by decide, by decide⟩ ⟨by decide, by decide⟩ (fun h => nomatch h) d_M_give_9 rfl (Nat.le_of_ble_eq_true rfl) (fun ret sg9 hq => ?_)
  obtain ⟨rfl, rfl⟩ := hq
  refine g_if_ne (tgt := 19) C d_M_give_12 (by decide) (fun j12 => ?_) (fun j12 => ?_)
  rotate_left
  · exact absurd (j12.symm.trans (bzd (ok3 ht))) (by decide)
  refine g_iload_n C rfl rfl d_M_give_19 ?_
  refine g_if_lt (tgt := 39) C d_M_give_20 (by decide) (fun j20 => ?_) (fun j20 => ?_)
  · refine g_iconst (v := 2) C rfl d_M_give_39 ?_
    refine g_goto (tgt := 44) C d_M_give_40 (by decide) ?_
    refine pf_M_84 C d_M_give_44 rfl rfl (by first | assumption | omega) (by repeat' first | assumption | exact up_eq _ _ _ | refine up_ne (by omega) ?_) (by exact Nat.le_of_ble_eq_true rfl) ?_
    refine g_aload_n C rfl rfl d_M_give_47 ?_
    refine gf_M_84 C d_M_give_48 (by first | assumption | omega) (by repeat' first | assumption | exact up_eq _ _ _ | refine up_ne (by omega) ?_) (by rfl) ?_
    refine g_if_le (tgt := 56) C d_M_give_51 (by decide) (fun j51 => ?_) (fun j51 => ?_)
    · exact absurd j51 (by decide)
    refine g_lconst (v := 0) C rfl d_M_give_54 ?_
    refine g_lret C E hr d_M_give_55 ?_
    exact ⟨rfl, MW_up hW (by unfold isM; exact (by repeat' first | assumption | exact up_eq _ _ _ | refine up_ne (by omega) ?_)) (fun j a b => by repeat' first | exact rfl | refine up_ne (by omega) ?_), (fun j a => by repeat' first | exact rfl | refine up_ne (by omega) ?_)⟩
  · refine g_aload_n C rfl rfl d_M_give_23 ?_
    refine gf_M_16 C d_M_give_24 (by first | assumption | omega) (by repeat' first | assumption | exact up_eq _ _ _ | refine up_ne (by omega) ?_) (by rfl) ?_
    refine g_iload_n C rfl rfl d_M_give_27 ?_
    refine g_lald C d_M_give_28 (by first | assumption | omega) (by repeat' first | assumption | exact up_eq _ _ _ | refine up_ne (by omega) ?_) hin ?_
    rw [hcl]
    refine g_iload_n C rfl rfl d_M_give_29 ?_
    refine g_i2l C d_M_give_30 ?_
    refine g_ladd C d_M_give_31 ?_
    refine g_ldc2 C m_731 d_M_give_32 ?_
    refine g_lcmp_le (tgt := 43) C d_M_give_35 d_M_give_36 (by decide) (fun j35 => ?_) (fun j35 => ?_)
    · exact h.elim (fun q => absurd q j20) (fun q => absurd j35 q)
    refine g_iconst (v := 2) C rfl d_M_give_39 ?_
    refine g_goto (tgt := 44) C d_M_give_40 (by decide) ?_
    refine pf_M_84 C d_M_give_44 rfl rfl (by first | assumption | omega) (by repeat' first | assumption | exact up_eq _ _ _ | refine up_ne (by omega) ?_) (by exact Nat.le_of_ble_eq_true rfl) ?_
    refine g_aload_n C rfl rfl d_M_give_47 ?_
    refine gf_M_84 C d_M_give_48 (by first | assumption | omega) (by repeat' first | assumption | exact up_eq _ _ _ | refine up_ne (by omega) ?_) (by rfl) ?_
    refine g_if_le (tgt := 56) C d_M_give_51 (by decide) (fun j51 => ?_) (fun j51 => ?_)
    · exact absurd j51 (by decide)
    refine g_lconst (v := 0) C rfl d_M_give_54 ?_
    refine g_lret C E hr d_M_give_55 ?_
    exact ⟨rfl, MW_up hW (by unfold isM; exact (by repeat' first | assumption | exact up_eq _ _ _ | refine up_ne (by omega) ?_)) (fun j a b => by repeat' first | exact rfl | refine up_ne (by omega) ?_), (fun j a => by repeat' first | exact rfl | refine up_ne (by omega) ?_)⟩
/-- what an owner is paid out -/
def zColl (Z : ZS) (a p k : Nat) : ZS := ((zla Z, vp_updL (vp_updL (zbal Z) (a * 3 + p) (zbal Z (a * 3 + p) + zod Z (2 * k))) (a * 3 + (p + 1)) (vp_updL (zbal Z) (a * 3 + p) (zbal Z (a * 3 + p) + zod Z (2 * k)) (a * 3 + (p + 1)) + zod Z (2 * k + 1)), zgiv Z, vp_updL (vp_updL (zhol Z) p (zhol Z p - zod Z (2 * k))) (p + 1) (vp_updL (zhol Z) p (zhol Z p - zod Z (2 * k)) (p + 1) - zod Z (2 * k + 1))), Z.2.1, zow Z, zpl Z, zlo Z, zhi Z, zam Z, zfa Z, vp_updL (vp_updL (zod Z) (2 * k) 0) (2 * k + 1) 0)
theorem zth_other {Z Z' : ZS} {k : Nat} (ha : ∀ i, i ≠ k → zam Z' i = zam Z i) (ho : ∀ i, i ≠ 2 * k → i ≠ 2 * k + 1 → zod Z' i = zod Z i) : (fun i => bz (updB (zth Z) k (swB (zam Z' k) (zod Z') k) i)) = fun i => bz (zth Z' i) := by
  funext i
  by_cases e : i = k
  · subst e
    rw [updB, if_pos rfl]
    rfl
  · rw [updB, if_neg e]
    unfold zth swB
    rw [ha i e, ho (2 * i) (by omega) (by omega), ho (2 * i + 1) (by omega) (by omega)]
theorem okPl_b {a b c d : Int32} (h : okPl a b c d) : bPl a b c d = true := by
  obtain ⟨h1, h2, h3, h4⟩ := h
  unfold bPl
  rw [decide_eq_true (show ¬ a < 0 ∧ a < 4 from h1), decide_eq_true (show ¬ b < 0 ∧ b < 2 from h2), decide_eq_true (show -40 ≤ c ∧ c ≤ 40 from h3), decide_eq_true (show -40 ≤ d ∧ d ≤ 40 from h4)]
  rfl
theorem b_okPl {a b c d : Int32} (h : bPl a b c d = true) : okPl a b c d := by
  unfold bPl at h
  obtain ⟨h1, h2⟩ := Bool.and_eq_true_iff.mp h
  obtain ⟨h2, h3⟩ := Bool.and_eq_true_iff.mp h2
  obtain ⟨h3, h4⟩ := Bool.and_eq_true_iff.mp h3
  exact ⟨odt h1, odt h2, odt h3, odt h4⟩
theorem e_M_coll1 {l : Launch} {o n : Nat} {sg : Nat → va_E} {m : Nat} {t0 : Int32} {Z : ZS} (a b c d : Int32) (hn : m + 22 < n) (hW : MW sg o m t0 Z) (h : ¬ okPl a b c d) : GM l y_M_collect b_M_collect 10 (some .long) 3 55 0 0 o n n sg false [.ref (ad o m), .int a, .int b, .int c, .int d] (fun r0 s => some (.long 0) = r0 ∧ MW s o m 1 Z ∧ mfr sg s m) := by
  have hm1 : sg m = _ := hW.1
  obtain ⟨a1, a2, a3, a4, a5, a6, a7, a8, a9, a10, a11⟩ := hW.2.1
  refine GM_of (by decide) (Nat.le_of_ble_eq_true rfl) ?_
  intro K C hl hz hr hnm E
  show G K o n sg 0 0 0 [(0, .ref (ad o m)), (1, .int a), (2, .int b), (3, .int c), (4, .int d)] []
  refine g_aload_n C rfl rfl d_M_collect_0 ?_
  refine g_iload_n C rfl rfl d_M_collect_1 ?_
  refine g_iload_n C rfl rfl d_M_collect_2 ?_
  refine g_iload_n C rfl rfl d_M_collect_3 ?_
  refine g_iload C rfl d_M_collect_4 ?_
  refine g_callV C (c_M_find a b c d hn hW.1 a9) Y_M_find m_751 s_M_find m_749 rfl rfl ⟨by decide, by decide⟩ ⟨by decide, by decide⟩ (fun h => nomatch h) d_M_collect_6 (by first | assumption | omega) (by repeat' first | assumption | exact up_eq _ _ _ | refine up_ne (by omega) ?_) rfl (Nat.le_of_ble_eq_true rfl) (fun ret sg6 hq => ?_)
  obtain ⟨rfl, rfl⟩ := hq
  refine g_topi (fun x9 e_x9 => ?_)
  refine g_istore (lv' := [(5, .int x9), (0, .ref (ad o m)), (1, .int a), (2, .int b), (3, .int c), (4, .int d)]) C d_M_collect_9 (by decide) rfl ?_
  refine g_aload_n C rfl rfl d_M_collect_11 ?_
  refine g_iload_n C rfl rfl d_M_collect_12 ?_
  refine g_iload_n C rfl rfl d_M_collect_13 ?_
  refine g_iload_n C rfl rfl d_M_collect_14 ?_
  refine g_iload C rfl d_M_collect_15 ?_
  refine g_callS C (c_M_all a b c d) Y_M_all m_741 m_740 ⟨by decide, by decide⟩ ⟨by decide, by decide⟩ (fun h => nomatch h) d_M_collect_17 rfl (Nat.le_of_ble_eq_true rfl) (fun ret sg17 hq => ?_)
  obtain ⟨rfl, rfl⟩ := hq
  refine g_if_ne (tgt := 27) C d_M_collect_20 (by decide) (fun j20 => ?_) (fun j20 => ?_)
  · exact absurd (b_okPl (nb0 j20)) h
  refine g_iconst (v := 1) C rfl d_M_collect_23 ?_
  refine g_goto (tgt := 37) C d_M_collect_24 (by decide) ?_
  refine pf_M_84 C d_M_collect_37 rfl rfl (by first | assumption | omega) (by repeat' first | assumption | exact up_eq _ _ _ | refine up_ne (by omega) ?_) (by exact Nat.le_of_ble_eq_true rfl) ?_
  refine g_aload_n C rfl rfl d_M_collect_40 ?_
  refine gf_M_84 C d_M_collect_41 (by first | assumption | omega) (by repeat' first | assumption | exact up_eq _ _ _ | refine up_ne (by omega) ?_) (by rfl) ?_
  refine g_if_le (tgt := 49) C d_M_collect_44 (by decide) (fun j44 => ?_) (fun j44 => ?_)
  · exact absurd j44 (by decide)
  refine g_lconst (v := 0) C rfl d_M_collect_47 ?_
  refine g_lret C E hr d_M_collect_48 ?_
  exact ⟨rfl, MW_up hW (by unfold isM; exact (by repeat' first | assumption | exact up_eq _ _ _ | refine up_ne (by omega) ?_)) (fun j a b => by repeat' first | exact rfl | refine up_ne (by omega) ?_), (fun j a => by repeat' first | exact rfl | refine up_ne (by omega) ?_)⟩
theorem e_M_coll2 {l : Launch} {o n : Nat} {sg : Nat → va_E} {m : Nat} {t0 : Int32} {Z : ZS} (a b c d : Int32) (hn : m + 22 < n) (hW : MW sg o m t0 Z) (h : okPl a b c d) (hf : zFind Z a b c d = none) : GM l y_M_collect b_M_collect 10 (some .long) 3 55 0 0 o n n sg false [.ref (ad o m), .int a, .int b, .int c, .int d] (fun r0 s => some (.long 0) = r0 ∧ MW s o m 2 Z ∧ mfr sg s m) := by
  have hm1 : sg m = _ := hW.1
  obtain ⟨a1, a2, a3, a4, a5, a6, a7, a8, a9, a10, a11⟩ := hW.2.1
  refine GM_of (by decide) (Nat.le_of_ble_eq_true rfl) ?_
  intro K C hl hz hr hnm E
  show G K o n sg 0 0 0 [(0, .ref (ad o m)), (1, .int a), (2, .int b), (3, .int c), (4, .int d)] []
  refine g_aload_n C rfl rfl d_M_collect_0 ?_
  refine g_iload_n C rfl rfl d_M_collect_1 ?_
  refine g_iload_n C rfl rfl d_M_collect_2 ?_
  refine g_iload_n C rfl rfl d_M_collect_3 ?_
  refine g_iload C rfl d_M_collect_4 ?_
  refine g_callV C (c_M_find a b c d hn hW.1 a9) Y_M_find m_751 s_M_find m_749 rfl rfl ⟨by decide, by decide⟩ ⟨by decide, by decide⟩ (fun h => nomatch h) d_M_collect_6 (by first | assumption | omega) (by repeat' first | assumption | exact up_eq _ _ _ | refine up_ne (by omega) ?_) rfl (Nat.le_of_ble_eq_true rfl) (fun ret sg6 hq => ?_)
  obtain ⟨rfl, rfl⟩ := hq
  rw [show fnd (mIs (zth Z) (zow Z) (zpl Z) (zlo Z) (zhi Z) a b c d) 12 = none from hf]
  refine g_istore (lv' := [(5, .int (-1)), (0, .ref (ad o m)), (1, .int a), (2, .int b), (3, .int c), (4, .int d)]) C d_M_collect_9 (by decide) rfl ?_
  refine g_aload_n C rfl rfl d_M_collect_11 ?_
  refine g_iload_n C rfl rfl d_M_collect_12 ?_
  refine g_iload_n C rfl rfl d_M_collect_13 ?_
  refine g_iload_n C rfl rfl d_M_collect_14 ?_
  refine g_iload C rfl d_M_collect_15 ?_
  refine g_callS C (c_M_all a b c d) Y_M_all m_741 m_740 ⟨by decide, by decide⟩ ⟨by decide, by decide⟩ (fun h => nomatch h) d_M_collect_17 rfl (Nat.le_of_ble_eq_true rfl) (fun ret sg17 hq => ?_)
  obtain ⟨rfl, rfl⟩ := hq
  refine g_if_ne (tgt := 27) C d_M_collect_20 (by decide) (fun j20 => ?_) (fun j20 => ?_)
  rotate_left
  · exact absurd (j20.symm.trans (by rw [okPl_b h]; rfl)) (show ¬ (0 : Int32) = 1 by decide)
  refine g_iload C rfl d_M_collect_27 ?_
  refine g_if_ge (tgt := 36) C d_M_collect_29 (by decide) (fun j29 => ?_) (fun j29 => ?_)
  · exact absurd j29 (by decide)
  refine g_iconst (v := 2) C rfl d_M_collect_32 ?_
  refine g_goto (tgt := 37) C d_M_collect_33 (by decide) ?_
  refine pf_M_84 C d_M_collect_37 rfl rfl (by first | assumption | omega) (by repeat' first | assumption | exact up_eq _ _ _ | refine up_ne (by omega) ?_) (by exact Nat.le_of_ble_eq_true rfl) ?_
  refine g_aload_n C rfl rfl d_M_collect_40 ?_
  refine gf_M_84 C d_M_collect_41 (by first | assumption | omega) (by repeat' first | assumption | exact up_eq _ _ _ | refine up_ne (by omega) ?_) (by rfl) ?_
  refine g_if_le (tgt := 49) C d_M_collect_44 (by decide) (fun j44 => ?_) (fun j44 => ?_)
  · exact absurd j44 (by decide)
  refine g_lconst (v := 0) C rfl d_M_collect_47 ?_
  refine g_lret C E hr d_M_collect_48 ?_
  exact ⟨rfl, MW_up hW (by unfold isM; exact (by repeat' first | assumption | exact up_eq _ _ _ | refine up_ne (by omega) ?_)) (fun j a b => by repeat' first | exact rfl | refine up_ne (by omega) ?_), (fun j a => by repeat' first | exact rfl | refine up_ne (by omega) ?_)⟩
theorem c_M_collect {l : Launch} {o n : Nat} {sg : Nat → va_E} {m : Nat} {t0 : Int32} {Z : ZS} (a p k : Nat) (c d : Int32) (hn : m + 22 < n) (hW : MW sg o m t0 Z) (ha : a < 4) (hp : p < 2) (h : okPl (nI a) (nI p) c d) (hf : zFind Z (nI a) (nI p) c d = some k) (hA : zam Z k < 2 ^ 63) : GM l y_M_collect b_M_collect 10 (some .long) 3 55 0 0 o n n sg false [.ref (ad o m), .int (nI a), .int (nI p), .int c, .int d] (fun r0 s => some (.long (zod Z (2 * k) + zod Z (2 * k + 1))) = r0 ∧ MW s o m 0 (zColl Z a p k) ∧ mfr sg s m) := by
  have hm1 : sg m = _ := hW.1
  obtain ⟨a1, a2, a3, a4, a5, a6, a7, a8, a9, a10, a11⟩ := hW.2.1
  have a9x := a9.2.2.2.2.2
  have hk := (fnd_some hf).1
  have c0 : (nI (2 * k)).toNatClampNeg = 2 * k := nI_clamp (by omega)
  have c1 : (nI (2 * k + 1)).toNatClampNeg = 2 * k + 1 := nI_clamp (by omega)
  have i0 : vp_in (nI (2 * k)) 24 := vp_in_nI (by omega) (by decide)
  have i1 : vp_in (nI (2 * k + 1)) 24 := vp_in_nI (by omega) (by decide)
  refine GM_of (by decide) (Nat.le_of_ble_eq_true rfl) ?_
  intro K C hl hz hr hnm E
  show G K o n sg 0 0 0 [(0, .ref (ad o m)), (1, .int (nI a)), (2, .int (nI p)), (3, .int c), (4, .int d)] []
  refine g_aload_n C rfl rfl d_M_collect_0 ?_
  refine g_iload_n C rfl rfl d_M_collect_1 ?_
  refine g_iload_n C rfl rfl d_M_collect_2 ?_
  refine g_iload_n C rfl rfl d_M_collect_3 ?_
  refine g_iload C rfl d_M_collect_4 ?_
  refine g_callV C (c_M_find (nI a) (nI p) c d hn hW.1 a9) Y_M_find m_751 s_M_find m_749 rfl rfl ⟨by decide, by decide⟩ ⟨by decide, by decide⟩ (fun h => nomatch h) d_M_collect_6 (by first | assumption | omega) (by repeat' first | assumption | exact up_eq _ _ _ | refine up_ne (by omega) ?_) rfl (Nat.le_of_ble_eq_true rfl) (fun ret sg6 hq => ?_)
  obtain ⟨rfl, rfl⟩ := hq
  rw [show fnd (mIs (zth Z) (zow Z) (zpl Z) (zlo Z) (zhi Z) (nI a) (nI p) c d) 12 = some k from hf]
  refine g_istore (lv' := [(5, .int (nI k)), (0, .ref (ad o m)), (1, .int (nI a)), (2, .int (nI p)), (3, .int c), (4, .int d)]) C d_M_collect_9 (by decide) rfl ?_
  refine g_aload_n C rfl rfl d_M_collect_11 ?_
  refine g_iload_n C rfl rfl d_M_collect_12 ?_
  refine g_iload_n C rfl rfl d_M_collect_13 ?_
  refine g_iload_n C rfl rfl d_M_collect_14 ?_
  refine g_iload C rfl d_M_collect_15 ?_
  refine g_callS C (c_M_all (nI a) (nI p) c d) Y_M_all m_741 m_740 ⟨by decide, by decide⟩ ⟨by decide, by decide⟩ (fun h => nomatch h) d_M_collect_17 rfl (Nat.le_of_ble_eq_true rfl) (fun ret sg17 hq => ?_)
  obtain ⟨rfl, rfl⟩ := hq
  refine g_if_ne (tgt := 27) C d_M_collect_20 (by decide) (fun j20 => ?_) (fun j20 => ?_)
  rotate_left
  · exact absurd (j20.symm.trans (by rw [okPl_b h]; rfl)) (show ¬ (0 : Int32) = 1 by decide)
  refine g_iload C rfl d_M_collect_27 ?_
  refine g_if_ge (tgt := 36) C d_M_collect_29 (by decide) (fun j29 => ?_) (fun j29 => ?_)
  rotate_left
  · exact absurd (nI_pos' (by omega)) j29
  refine g_iconst (v := 0) C rfl d_M_collect_36 ?_
  refine pf_M_84 C d_M_collect_37 rfl rfl (by first | assumption | omega) (by repeat' first | assumption | exact up_eq _ _ _ | refine up_ne (by omega) ?_) (by exact Nat.le_of_ble_eq_true rfl) ?_
  refine g_aload_n C rfl rfl d_M_collect_40 ?_
  refine gf_M_84 C d_M_collect_41 (by first | assumption | omega) (by repeat' first | assumption | exact up_eq _ _ _ | refine up_ne (by omega) ?_) (by rfl) ?_
  refine g_if_le (tgt := 49) C d_M_collect_44 (by decide) (fun j44 => ?_) (fun j44 => ?_)
  rotate_left
  · exact absurd (by decide) j44
  refine g_aload_n C rfl rfl d_M_collect_49 ?_
  refine gf_M_57 C d_M_collect_50 (by first | assumption | omega) (by repeat' first | assumption | exact up_eq _ _ _ | refine up_ne (by omega) ?_) (by rfl) ?_
  refine g_iconst (v := 2) C rfl d_M_collect_53 ?_
  refine g_iload C rfl d_M_collect_54 ?_
  refine g_imul C d_M_collect_56 ?_
  rw [two_k]
  refine g_lald C d_M_collect_57 (by first | assumption | omega) (by repeat' first | assumption | exact up_eq _ _ _ | refine up_ne (by omega) ?_) i0 ?_
  rw [c0]
  refine g_lstore (lv' := [(6, .long (zod Z (2 * k))), (5, .int (nI k)), (0, .ref (ad o m)), (1, .int (nI a)), (2, .int (nI p)), (3, .int c), (4, .int d)]) C d_M_collect_58 (by decide) rfl ?_
  refine g_aload_n C rfl rfl d_M_collect_60 ?_
  refine gf_M_57 C d_M_collect_61 (by first | assumption | omega) (by repeat' first | assumption | exact up_eq _ _ _ | refine up_ne (by omega) ?_) (by rfl) ?_
  refine g_iconst (v := 2) C rfl d_M_collect_64 ?_
  refine g_iload C rfl d_M_collect_65 ?_
  refine g_imul C d_M_collect_67 ?_
  refine g_iconst (v := 1) C rfl d_M_collect_68 ?_
  refine g_iadd C d_M_collect_69 ?_
  rw [two_k, nI_1]
  refine g_lald C d_M_collect_70 (by first | assumption | omega) (by repeat' first | assumption | exact up_eq _ _ _ | refine up_ne (by omega) ?_) i1 ?_
  rw [c1]
  refine g_lstore (lv' := [(8, .long (zod Z (2 * k + 1))), (6, .long (zod Z (2 * k))), (5, .int (nI k)), (0, .ref (ad o m)), (1, .int (nI a)), (2, .int (nI p)), (3, .int c), (4, .int d)]) C d_M_collect_71 (by decide) rfl ?_
  refine g_aload_n C rfl rfl d_M_collect_73 ?_
  refine gf_M_57 C d_M_collect_74 (by first | assumption | omega) (by repeat' first | assumption | exact up_eq _ _ _ | refine up_ne (by omega) ?_) (by rfl) ?_
  refine g_iconst (v := 2) C rfl d_M_collect_77 ?_
  refine g_iload C rfl d_M_collect_78 ?_
  refine g_imul C d_M_collect_80 ?_
  refine g_lconst (v := 0) C rfl d_M_collect_81 ?_
  rw [two_k]
  refine g_last C d_M_collect_82 (by first | assumption | omega) (by repeat' first | assumption | exact up_eq _ _ _ | refine up_ne (by omega) ?_) i0 ?_
  rw [c0]
  refine g_aload_n C rfl rfl d_M_collect_83 ?_
  refine gf_M_57 C d_M_collect_84 (by first | assumption | omega) (by repeat' first | assumption | exact up_eq _ _ _ | refine up_ne (by omega) ?_) (by rfl) ?_
  refine g_iconst (v := 2) C rfl d_M_collect_87 ?_
  refine g_iload C rfl d_M_collect_88 ?_
  refine g_imul C d_M_collect_90 ?_
  refine g_iconst (v := 1) C rfl d_M_collect_91 ?_
  refine g_iadd C d_M_collect_92 ?_
  refine g_lconst (v := 0) C rfl d_M_collect_93 ?_
  rw [two_k, nI_1]
  refine g_last C d_M_collect_94 (by first | assumption | omega) (by repeat' first | assumption | exact up_eq _ _ _ | refine up_ne (by omega) ?_) i1 ?_
  rw [c1]
  refine g_aload_n C rfl rfl d_M_collect_95 ?_
  refine g_iload_n C rfl rfl d_M_collect_96 ?_
  refine g_iload_n C rfl rfl d_M_collect_97 ?_
  refine g_lload C rfl d_M_collect_98 ?_
  refine g_lneg C d_M_collect_100 ?_
  refine g_callV C (c_M_pay (th := 0) (la := zla Z) (bal := zbal Z) (hol := zhol Z) a p (-zod Z (2 * k)) hn (by unfold isM; exact (by repeat' first | assumption | exact up_eq _ _ _ | refine up_ne (by omega) ?_)) (by repeat' first | assumption | exact up_eq _ _ _ | refine up_ne (by omega) ?_) (by repeat' first | assumption | exact up_eq _ _ _ | refine up_ne (by omega) ?_) ha (by omega)) Y_M_pay m_791 s_M_pay m_789 rfl rfl ⟨by decide, by decide⟩ ⟨by decide, by decide⟩ (fun h => nomatch h) d_M_collect_101 (by first | assumption | omega) (by repeat' first | assumption | exact up_eq _ _ _ | refine up_ne (by omega) ?_) rfl (Nat.le_of_ble_eq_true rfl) (fun ret sg101 hq => ?_)
  obtain ⟨rfl, rfl⟩ := hq
  refine g_aload_n C rfl rfl d_M_collect_104 ?_
  refine g_iload_n C rfl rfl d_M_collect_105 ?_
  refine g_iload_n C rfl rfl d_M_collect_106 ?_
  refine g_iconst (v := 1) C rfl d_M_collect_107 ?_
  refine g_iadd C d_M_collect_108 ?_
  rw [nI_1]
  refine g_lload C rfl d_M_collect_109 ?_
  refine g_lneg C d_M_collect_111 ?_
  refine g_callV C (c_M_pay (th := 0) (la := zla Z) (bal := vp_updL (zbal Z) (a * 3 + p) (zbal Z (a * 3 + p) - -zod Z (2 * k))) (hol := vp_updL (zhol Z) p (zhol Z p + -zod Z (2 * k))) a (p + 1) (-zod Z (2 * k + 1)) hn (by unfold isM; exact (by repeat' first | assumption | exact up_eq _ _ _ | refine up_ne (by omega) ?_)) (by repeat' first | assumption | exact up_eq _ _ _ | refine up_ne (by omega) ?_) (by repeat' first | assumption | exact up_eq _ _ _ | refine up_ne (by omega) ?_) ha (by omega)) Y_M_pay m_791 s_M_pay m_789 rfl rfl ⟨by decide, by decide⟩ ⟨by decide, by decide⟩ (fun h => nomatch h) d_M_collect_112 (by first | assumption | omega) (by repeat' first | assumption | exact up_eq _ _ _ | refine up_ne (by omega) ?_) rfl (Nat.le_of_ble_eq_true rfl) (fun ret sg112 hq => ?_)
  obtain ⟨rfl, rfl⟩ := hq
  refine g_aload_n C rfl rfl d_M_collect_115 ?_
  refine g_iload C rfl d_M_collect_116 ?_
  refine g_callV C (c_M_sweep (t0 := 0) (la := zla Z) (th := zth Z) (am := zam Z) (od := vp_updL (vp_updL (zod Z) (2 * k) 0) (2 * k + 1) 0) k hn (by unfold isM; exact (by repeat' first | assumption | exact up_eq _ _ _ | refine up_ne (by omega) ?_)) (by have q := a9.1; exact (by repeat' first | assumption | exact up_eq _ _ _ | refine up_ne (by omega) ?_)) (by repeat' first | assumption | exact up_eq _ _ _ | refine up_ne (by omega) ?_) (by repeat' first | assumption | exact up_eq _ _ _ | refine up_ne (by omega) ?_) hk hA) Y_M_sweep m_799 s_M_sweep m_797 rfl rfl ⟨by decide, by decide⟩ ⟨by decide, by decide⟩ (fun h => nomatch h) d_M_collect_118 (by first | assumption | omega) (by repeat' first | assumption | exact up_eq _ _ _ | refine up_ne (by omega) ?_) rfl (Nat.le_of_ble_eq_true rfl) (fun ret sg118 hq => ?_)
  obtain ⟨rfl, rfl⟩ := hq
  rw [sub_ng, sub_ng, add_ng, add_ng]
  refine g_lload C rfl d_M_collect_121 ?_
  refine g_lload C rfl d_M_collect_123 ?_
  refine g_ladd C d_M_collect_125 ?_
  refine g_lret C E hr d_M_collect_126 ?_
  refine ⟨rfl, ⟨by unfold isM; exact (by repeat' first | assumption | exact up_eq _ _ _ | refine up_ne (by omega) ?_), ⟨isMR_mv a1 (by repeat' first | exact rfl | refine up_ne (by omega) ?_), (by repeat' first | assumption | exact up_eq _ _ _ | refine up_ne (by omega) ?_), (by repeat' first | assumption | exact up_eq _ _ _ | refine up_ne (by omega) ?_), (by repeat' first | assumption | exact up_eq _ _ _ | refine up_ne (by omega) ?_), (by repeat' first | assumption | exact up_eq _ _ _ | refine up_ne (by omega) ?_), (by repeat' first | assumption | exact up_eq _ _ _ | refine up_ne (by omega) ?_), (by repeat' first | assumption | exact up_eq _ _ _ | refine up_ne (by omega) ?_), (by repeat' first | assumption | exact up_eq _ _ _ | refine up_ne (by omega) ?_), ?_, (by repeat' first | assumption | exact up_eq _ _ _ | refine up_ne (by omega) ?_), (by repeat' first | assumption | exact up_eq _ _ _ | refine up_ne (by omega) ?_)⟩, MX_mv hW.2.2 (fun j a b => by repeat' first | exact rfl | refine up_ne (by omega) ?_)⟩, (fun j a => by repeat' first | exact rfl | refine up_ne (by omega) ?_)⟩
  exact isMP_th a9 ((up_eq _ _ _).trans (congrArg (eZ 12) (zth_other (Z := Z) (Z' := zColl Z a p k) (fun _ _ => rfl) (fun i h1 h2 => by show vp_updL (vp_updL (zod Z) (2 * k) 0) (2 * k + 1) 0 i = _; rw [pk_unL h2, pk_unL h1])))) (fun j a b => by repeat' first | exact rfl | refine up_ne (by omega) ?_)

