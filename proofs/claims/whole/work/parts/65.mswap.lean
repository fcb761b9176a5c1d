-- SWAP IN THE REFERENCE
theorem riU_at {b : Nat → Bool} {g : Int64} {r1 r2 : Nat → Int64} {k i : Nat} (h : r1 i = r2 i) : riU b g r1 k i = riU b g r2 k i := by
  unfold riU
  rw [h]
theorem mRun_ri {dn ex : Bool} {f M : Nat} {st : Nat → Bool} {b : Int → Nat → Bool} {dep : Int → Nat} {i : Nat} (n : Nat) : ∀ x y : Y7, x.1 = y.1 → x.2.1 = y.2.1 → x.2.2 i = y.2.2 i → (mRun dn ex f M st b dep n x).1 = (mRun dn ex f M st b dep n y).1 ∧ (mRun dn ex f M st b dep n x).2.1 = (mRun dn ex f M st b dep n y).2.1 ∧ (mRun dn ex f M st b dep n x).2.2 i = (mRun dn ex f M st b dep n y).2.2 i := by
  induction n with
  | zero => intro x y h1 h2 h3; exact ⟨h1, h2, h3⟩
  | succ n ih =>
    intro x y h1 h2 h3
    by_cases hd : zDn M x.1
    · rw [mRun_done hd, mRun_done (show zDn M y.1 from h1 ▸ hd)]
      exact ⟨h1, h2, h3⟩
    · rw [mRun_go hd, mRun_go (show ¬ zDn M y.1 from h1 ▸ hd)]
      refine ih _ _ ?_ ?_ ?_
      · unfold mQ; rw [h1]
      · unfold mQ; rw [h1, h2]
      · unfold mQ; rw [h1]; exact riU_at h3
theorem mRun_rx {dn ex : Bool} {f M : Nat} {st : Nat → Bool} {b : Int → Nat → Bool} {dep : Int → Nat} (n : Nat) : ∀ x y : Y7, x.1 = y.1 → x.2.1 = y.2.1 → (mRun dn ex f M st b dep n x).1 = (mRun dn ex f M st b dep n y).1 ∧ (mRun dn ex f M st b dep n x).2.1 = (mRun dn ex f M st b dep n y).2.1 := by
  induction n with
  | zero => intro x y h1 h2; exact ⟨h1, h2⟩
  | succ n ih =>
    intro x y h1 h2
    by_cases hd : zDn M x.1
    · rw [mRun_done hd, mRun_done (show zDn M y.1 from h1 ▸ hd)]
      exact ⟨h1, h2⟩
    · rw [mRun_go hd, mRun_go (show ¬ zDn M y.1 from h1 ▸ hd)]
      refine ih _ _ ?_ ?_
      · unfold mQ; rw [h1]
      · unfold mQ; rw [h1, h2]
noncomputable def zWork (Z : ZS) (p : Nat) (dn ex : Bool) (r M : Nat) : Y7 := mRun dn ex (zfee Z p) M (mSet (zth Z) (zpl Z) (zlo Z) (zhi Z) (zam Z) p) (mIn (zth Z) (zpl Z) (zlo Z) (zhi Z) p) (mDep (zth Z) (zpl Z) (zlo Z) (zhi Z) (zam Z) p) 100 ((zpr Z p, ztk Z p, r, 0, 0), 0, fun _ => 0)
theorem zWork_eq (Z : ZS) (p : Nat) (dn ex : Bool) (r M : Nat) (ri : Nat → Int64) {xf : Y7} (hx : xf = mRun dn ex (zfee Z p) M (mSet (zth Z) (zpl Z) (zlo Z) (zhi Z) (zam Z) p) (mIn (zth Z) (zpl Z) (zlo Z) (zhi Z) p) (mDep (zth Z) (zpl Z) (zlo Z) (zhi Z) (zam Z) p) 100 ((zpr Z p, ztk Z p, r, 0, 0), 0, riZ (zpl Z) p ri 12)) : xf.1 = (zWork Z p dn ex r M).1 ∧ xf.2.1 = (zWork Z p dn ex r M).2.1 ∧ ∀ i, i < 12 → zpl Z i = p → xf.2.2 i = (zWork Z p dn ex r M).2.2 i := by
  subst hx
  have h := fun i (g : riZ (zpl Z) p ri 12 i = 0) => mRun_ri (dn := dn) (ex := ex) (f := zfee Z p) (M := M) (st := mSet (zth Z) (zpl Z) (zlo Z) (zhi Z) (zam Z) p) (b := mIn (zth Z) (zpl Z) (zlo Z) (zhi Z) p) (dep := mDep (zth Z) (zpl Z) (zlo Z) (zhi Z) (zam Z) p) (i := i) 100 ((zpr Z p, ztk Z p, r, 0, 0), 0, riZ (zpl Z) p ri 12) ((zpr Z p, ztk Z p, r, 0, 0), 0, fun _ => 0) rfl rfl g
  have h0 := mRun_rx (dn := dn) (ex := ex) (f := zfee Z p) (M := M) (st := mSet (zth Z) (zpl Z) (zlo Z) (zhi Z) (zam Z) p) (b := mIn (zth Z) (zpl Z) (zlo Z) (zhi Z) p) (dep := mDep (zth Z) (zpl Z) (zlo Z) (zhi Z) (zam Z) p) 100 ((zpr Z p, ztk Z p, r, 0, 0), 0, riZ (zpl Z) p ri 12) ((zpr Z p, ztk Z p, r, 0, 0), 0, fun _ => 0) rfl rfl
  exact ⟨h0.1, h0.2, fun i g1 g2 => (h i (if_pos ⟨g1, g2⟩)).2.2⟩
theorem faC_eq {b : Nat → Bool} {sd k : Nat} {r1 r2 fa : Nat → Int64} (h : ∀ i, i < k → b i = true → r1 i = r2 i) : faC b sd r1 fa k = faC b sd r2 fa k := by
  funext i
  unfold faC
  by_cases c : i % 2 = sd ∧ i / 2 < k ∧ b (i / 2) = true
  · rw [if_pos c, if_pos c, h _ c.2.1 c.2.2]
  · rw [if_neg c, if_neg c]
def zCarry (Z : ZS) (a p : Nat) (dn : Bool) (w : Y7) : ZS := ((zla Z, pyB (zbal Z) a (p + sdN dn) (p + 1 - sdN dn) w.1.2.2.2.1 w.1.2.2.2.2, zgiv Z, pyH (zhol Z) (p + sdN dn) (p + 1 - sdN dn) w.1.2.2.2.1 w.1.2.2.2.2), (zfee Z, updN (zpr Z) p w.1.1, updZ (ztk Z) p w.1.2.1, vp_updL (zgw Z) (2 * p + sdN dn) (zgw Z (2 * p + sdN dn) + w.2.1)), zow Z, zpl Z, zlo Z, zhi Z, zam Z, faC (bThP (zth Z) (zpl Z) p) (sdN dn) w.2.2 (zfa Z) 12, zod Z)
def zLa (Z : ZS) (la : Int64) : ZS := ((la, Z.1.2), Z.2)
theorem e_M_swap1 {l : Launch} {o n : Nat} {sg : Nat → va_E} {m : Nat} {t0 : Int32} {Z : ZS} (a b : Int32) (dn : Bool) (x t : Int32) (hn : m + 22 < n) (hW : MW sg o m t0 Z) (h : ¬ (okI a 4 ∧ okI b 2 ∧ okT t)) : GM l y_M_swap b_M_swap 10 (some .long) 6 184 0 0 o n n sg false [.ref (ad o m), .int a, .int b, .int (bz dn), .int x, .int t] (fun r0 s => some (.long 0) = r0 ∧ MW s o m 1 Z ∧ mfr sg s m) := by
  have hm1 : sg m = _ := hW.1
  obtain ⟨a1, a2, a3, a4, a5, a6, a7, a8, a9, a10, a11⟩ := hW.2.1
  refine GM_of (by decide) (Nat.le_of_ble_eq_true rfl) ?_
  intro K C hl hz hr hnm E
  show G K o n sg 0 0 0 [(0, .ref (ad o m)), (1, .int a), (2, .int b), (3, .int (bz dn)), (4, .int x), (5, .int t)] []
  refine g_aload_n C rfl rfl d_M_swap_0 ?_
  refine g_iload_n C rfl rfl d_M_swap_1 ?_
  refine g_callS C (c_M_isOwner a) Y_M_isOwner m_726 m_725 ⟨by decide, by decide⟩ ⟨by decide, by decide⟩ (fun h => nomatch h) d_M_swap_2 rfl (Nat.le_of_ble_eq_true rfl) (fun ret sg2 hq => ?_)
  obtain ⟨rfl, rfl⟩ := hq
  refine g_if_eq (tgt := 23) C d_M_swap_5 (by decide) (fun j5 => ?_) (fun j5 => ?_)
  · refine g_iconst (v := 1) C rfl d_M_swap_23 ?_
    refine g_goto (tgt := 28) C d_M_swap_24 (by decide) ?_
    refine pf_M_84 C d_M_swap_28 rfl rfl (by first | assumption | omega) (by repeat' first | assumption | exact up_eq _ _ _ | refine up_ne (by omega) ?_) (by exact Nat.le_of_ble_eq_true rfl) ?_
    refine g_aload_n C rfl rfl d_M_swap_31 ?_
    refine gf_M_84 C d_M_swap_32 (by first | assumption | omega) (by repeat' first | assumption | exact up_eq _ _ _ | refine up_ne (by omega) ?_) (by rfl) ?_
    refine g_if_le (tgt := 40) C d_M_swap_35 (by decide) (fun j35 => ?_) (fun j35 => ?_)
    · exact absurd j35 (by decide)
    refine g_lconst (v := 0) C rfl d_M_swap_38 ?_
    refine g_lret C E hr d_M_swap_39 ?_
    exact ⟨rfl, MW_up hW (by unfold isM; exact (by repeat' first | assumption | exact up_eq _ _ _ | refine up_ne (by omega) ?_)) (fun j a b => by repeat' first | exact rfl | refine up_ne (by omega) ?_), (fun j a => by repeat' first | exact rfl | refine up_ne (by omega) ?_)⟩
  · refine g_iload_n C rfl rfl d_M_swap_8 ?_
    refine g_callS C (c_M_isPool b) Y_M_isPool m_744 m_743 ⟨by decide, by decide⟩ ⟨by decide, by decide⟩ (fun h => nomatch h) d_M_swap_9 rfl (Nat.le_of_ble_eq_true rfl) (fun ret sg9 hq => ?_)
    obtain ⟨rfl, rfl⟩ := hq
    refine g_if_eq (tgt := 23) C d_M_swap_12 (by decide) (fun j12 => ?_) (fun j12 => ?_)
    · refine g_iconst (v := 1) C rfl d_M_swap_23 ?_
      refine g_goto (tgt := 28) C d_M_swap_24 (by decide) ?_
      refine pf_M_84 C d_M_swap_28 rfl rfl (by first | assumption | omega) (by repeat' first | assumption | exact up_eq _ _ _ | refine up_ne (by omega) ?_) (by exact Nat.le_of_ble_eq_true rfl) ?_
      refine g_aload_n C rfl rfl d_M_swap_31 ?_
      refine gf_M_84 C d_M_swap_32 (by first | assumption | omega) (by repeat' first | assumption | exact up_eq _ _ _ | refine up_ne (by omega) ?_) (by rfl) ?_
      refine g_if_le (tgt := 40) C d_M_swap_35 (by decide) (fun j35 => ?_) (fun j35 => ?_)
      · exact absurd j35 (by decide)
      refine g_lconst (v := 0) C rfl d_M_swap_38 ?_
      refine g_lret C E hr d_M_swap_39 ?_
      exact ⟨rfl, MW_up hW (by unfold isM; exact (by repeat' first | assumption | exact up_eq _ _ _ | refine up_ne (by omega) ?_)) (fun j a b => by repeat' first | exact rfl | refine up_ne (by omega) ?_), (fun j a => by repeat' first | exact rfl | refine up_ne (by omega) ?_)⟩
    · refine g_iload C rfl d_M_swap_15 ?_
      refine g_callS C (c_M_isTick t) Y_M_isTick m_747 m_746 ⟨by decide, by decide⟩ ⟨by decide, by decide⟩ (fun h => nomatch h) d_M_swap_17 rfl (Nat.le_of_ble_eq_true rfl) (fun ret sg17 hq => ?_)
      obtain ⟨rfl, rfl⟩ := hq
      refine g_if_ne (tgt := 27) C d_M_swap_20 (by decide) (fun j20 => ?_) (fun j20 => ?_)
      · exact absurd (⟨okd j5, okd j12, okd j20⟩ : okI a 4 ∧ okI b 2 ∧ okT t) h
      refine g_iconst (v := 1) C rfl d_M_swap_23 ?_
      refine g_goto (tgt := 28) C d_M_swap_24 (by decide) ?_
      refine pf_M_84 C d_M_swap_28 rfl rfl (by first | assumption | omega) (by repeat' first | assumption | exact up_eq _ _ _ | refine up_ne (by omega) ?_) (by exact Nat.le_of_ble_eq_true rfl) ?_
      refine g_aload_n C rfl rfl d_M_swap_31 ?_
      refine gf_M_84 C d_M_swap_32 (by first | assumption | omega) (by repeat' first | assumption | exact up_eq _ _ _ | refine up_ne (by omega) ?_) (by rfl) ?_
      refine g_if_le (tgt := 40) C d_M_swap_35 (by decide) (fun j35 => ?_) (fun j35 => ?_)
      · exact absurd j35 (by decide)
      refine g_lconst (v := 0) C rfl d_M_swap_38 ?_
      refine g_lret C E hr d_M_swap_39 ?_
      exact ⟨rfl, MW_up hW (by unfold isM; exact (by repeat' first | assumption | exact up_eq _ _ _ | refine up_ne (by omega) ?_)) (fun j a b => by repeat' first | exact rfl | refine up_ne (by omega) ?_), (fun j a => by repeat' first | exact rfl | refine up_ne (by omega) ?_)⟩

theorem e_M_swap2 {l : Launch} {o n : Nat} {sg : Nat → va_E} {m : Nat} {t0 : Int32} {Z : ZS} (a p : Nat) (dn : Bool) (x : Int32) (z : Int) (hn : m + 22 < n) (hW : MW sg o m t0 Z) (ha : a < 4) (hp : p < 2) (h1 : -40 ≤ z) (h2 : z ≤ 40) (hT : TkOk (zpr Z p) (ztk Z p)) (h3 : x = 0 ∨ x < -100000000 ∨ 100000000 < x ∨ ¬ (if dn = true then rt (tx z) < zpr Z p else zpr Z p < rt (tx z))) : GM l y_M_swap b_M_swap 10 (some .long) 6 184 0 0 o n n sg false [.ref (ad o m), .int (nI a), .int (nI p), .int (bz dn), .int x, .int (iI z)] (fun r0 s => some (.long 0) = r0 ∧ MW s o m 2 Z ∧ mfr sg s m) := by
  have hm1 : sg m = _ := hW.1
  obtain ⟨a1, a2, a3, a4, a5, a6, a7, a8, a9, a10, a11⟩ := hW.2.1
  have hcl : (nI p).toNatClampNeg = p := nI_clamp (by omega)
  have hin : vp_in (nI p) 2 := vp_in_nI hp (by decide)
  have hS3 : zpr Z p < 2 ^ 63 := by have := hT.2.2.2.1; omega
  have hM3 : rt (tx z) < 2 ^ 63 := Nat.lt_trans (rt_up (tx_le h2)) (by decide)
  refine GM_of (by decide) (Nat.le_of_ble_eq_true rfl) ?_
  intro K C hl hz hr hnm E
  show G K o n sg 0 0 0 [(0, .ref (ad o m)), (1, .int (nI a)), (2, .int (nI p)), (3, .int (bz dn)), (4, .int x), (5, .int (iI z))] []
  cases dn
  · refine g_aload_n C rfl rfl d_M_swap_0 ?_
    refine g_iload_n C rfl rfl d_M_swap_1 ?_
    refine g_callS C (c_M_isOwner (nI a)) Y_M_isOwner m_726 m_725 ⟨by decide, by decide⟩ ⟨by decide, by decide⟩ (fun h => nomatch h) d_M_swap_2 rfl (Nat.le_of_ble_eq_true rfl) (fun ret sg2 hq => ?_)
    obtain ⟨rfl, rfl⟩ := hq
    refine g_if_eq (tgt := 23) C d_M_swap_5 (by decide) (fun j5 => ?_) (fun j5 => ?_)
    · exact absurd (j5.symm.trans (bzd (ok4 ha))) (by decide)
    refine g_iload_n C rfl rfl d_M_swap_8 ?_
    refine g_callS C (c_M_isPool (nI p)) Y_M_isPool m_744 m_743 ⟨by decide, by decide⟩ ⟨by decide, by decide⟩ (fun h => nomatch h) d_M_swap_9 rfl (Nat.le_of_ble_eq_true rfl) (fun ret sg9 hq => ?_)
    obtain ⟨rfl, rfl⟩ := hq
    refine g_if_eq (tgt := 23) C d_M_swap_12 (by decide) (fun j12 => ?_) (fun j12 => ?_)
    · exact absurd (j12.symm.trans (bzd (ok2 hp))) (by decide)
    refine g_iload C rfl d_M_swap_15 ?_
    refine g_callS C (c_M_isTick (iI z)) Y_M_isTick m_747 m_746 ⟨by decide, by decide⟩ ⟨by decide, by decide⟩ (fun h => nomatch h) d_M_swap_17 rfl (Nat.le_of_ble_eq_true rfl) (fun ret sg17 hq => ?_)
    obtain ⟨rfl, rfl⟩ := hq
    refine g_if_ne (tgt := 27) C d_M_swap_20 (by decide) (fun j20 => ?_) (fun j20 => ?_)
    rotate_left
    · exact absurd (j20.symm.trans (bzd (okT_i h1 h2))) (by decide)
    refine g_iconst (v := 0) C rfl d_M_swap_27 ?_
    refine pf_M_84 C d_M_swap_28 rfl rfl (by first | assumption | omega) (by repeat' first | assumption | exact up_eq _ _ _ | refine up_ne (by omega) ?_) (by exact Nat.le_of_ble_eq_true rfl) ?_
    refine g_aload_n C rfl rfl d_M_swap_31 ?_
    refine gf_M_84 C d_M_swap_32 (by first | assumption | omega) (by repeat' first | assumption | exact up_eq _ _ _ | refine up_ne (by omega) ?_) (by rfl) ?_
    refine g_if_le (tgt := 40) C d_M_swap_35 (by decide) (fun j35 => ?_) (fun j35 => ?_)
    rotate_left
    · exact absurd (by decide) j35
    refine g_aload_n C rfl rfl d_M_swap_40 ?_
    refine g_iload C rfl d_M_swap_41 ?_
    refine g_callV C (c_M_rootOf (th := 0) (la := zla Z) z hn (by unfold isM; exact (by repeat' first | assumption | exact up_eq _ _ _ | refine up_ne (by omega) ?_)) (isMR_mv a1 (by repeat' first | exact rfl | refine up_ne (by omega) ?_)) h1 h2) Y_M_rootOf m_761 s_M_rootOf m_759 rfl rfl ⟨by decide, by decide⟩ ⟨by decide, by decide⟩ (fun h => nomatch h) d_M_swap_43 (by first | assumption | omega) (by repeat' first | assumption | exact up_eq _ _ _ | refine up_ne (by omega) ?_) rfl (Nat.le_of_ble_eq_true rfl) (fun ret sg43 hq => ?_)
    obtain ⟨rfl, rfl⟩ := hq
    refine g_lstore (lv' := [(6, .long (lN (rt (tx z)))), (0, .ref (ad o m)), (1, .int (nI a)), (2, .int (nI p)), (3, .int (bz false)), (4, .int (x)), (5, .int (iI z))]) C d_M_swap_46 (by decide) rfl ?_
    refine g_iload_n C rfl rfl d_M_swap_48 ?_
    refine g_if_eq (tgt := 72) C d_M_swap_49 (by decide) (fun j49 => ?_) (fun j49 => ?_)
    rotate_left
    · exact absurd rfl j49
    refine g_lload C rfl d_M_swap_72 ?_
    refine g_aload_n C rfl rfl d_M_swap_74 ?_
    refine gf_M_26 C d_M_swap_75 (by first | assumption | omega) (by repeat' first | assumption | exact up_eq _ _ _ | refine up_ne (by omega) ?_) (by rfl) ?_
    refine g_iload_n C rfl rfl d_M_swap_78 ?_
    refine g_lald C d_M_swap_79 (by first | assumption | omega) (by repeat' first | assumption | exact up_eq _ _ _ | refine up_ne (by omega) ?_) hin ?_
    rw [hcl]
    refine g_lcmp_gt (tgt := 88) C d_M_swap_80 d_M_swap_81 (by decide) (fun j80 => ?_) (fun j80 => ?_)
    · refine g_iconst (v := 0) C rfl d_M_swap_88 ?_
      refine g_topi (fun bb e_bb => ?_)
      refine g_istore (lv' := [(8, .int bb), (6, .long (lN (rt (tx z)))), (0, .ref (ad o m)), (1, .int (nI a)), (2, .int (nI p)), (3, .int (bz false)), (4, .int (x)), (5, .int (iI z))]) C d_M_swap_89 (by decide) rfl ?_
      refine g_iload C rfl d_M_swap_91 ?_
      refine g_if_eq (tgt := 115) C d_M_swap_93 (by decide) (fun j93 => ?_) (fun j93 => ?_)
      · refine g_aload_n C rfl rfl d_M_swap_115 ?_
        refine g_iconst (v := 2) C rfl d_M_swap_116 ?_
        refine pf_M_84 C d_M_swap_117 rfl rfl (by first | assumption | omega) (by repeat' first | assumption | exact up_eq _ _ _ | refine up_ne (by omega) ?_) (by exact Nat.le_of_ble_eq_true rfl) ?_
        refine g_lconst (v := 0) C rfl d_M_swap_120 ?_
        refine g_lret C E hr d_M_swap_121 ?_
        exact ⟨rfl, MW_up hW (by unfold isM; exact (by repeat' first | assumption | exact up_eq _ _ _ | refine up_ne (by omega) ?_)) (fun j a b => by repeat' first | exact rfl | refine up_ne (by omega) ?_), (fun j a => by repeat' first | exact rfl | refine up_ne (by omega) ?_)⟩
      · refine g_iload C rfl d_M_swap_96 ?_
        refine g_ldc C m_809 d_M_swap_98 ?_
        refine g_icmp_lt (tgt := 115) C d_M_swap_100 (by decide) (fun j100 => ?_) (fun j100 => ?_)
        · refine g_aload_n C rfl rfl d_M_swap_115 ?_
          refine g_iconst (v := 2) C rfl d_M_swap_116 ?_
          refine pf_M_84 C d_M_swap_117 rfl rfl (by first | assumption | omega) (by repeat' first | assumption | exact up_eq _ _ _ | refine up_ne (by omega) ?_) (by exact Nat.le_of_ble_eq_true rfl) ?_
          refine g_lconst (v := 0) C rfl d_M_swap_120 ?_
          refine g_lret C E hr d_M_swap_121 ?_
          exact ⟨rfl, MW_up hW (by unfold isM; exact (by repeat' first | assumption | exact up_eq _ _ _ | refine up_ne (by omega) ?_)) (fun j a b => by repeat' first | exact rfl | refine up_ne (by omega) ?_), (fun j a => by repeat' first | exact rfl | refine up_ne (by omega) ?_)⟩
        · refine g_iload C rfl d_M_swap_103 ?_
          refine g_ldc C m_810 d_M_swap_105 ?_
          refine g_icmp_gt (tgt := 115) C d_M_swap_107 (by decide) (fun j107 => ?_) (fun j107 => ?_)
          · refine g_aload_n C rfl rfl d_M_swap_115 ?_
            refine g_iconst (v := 2) C rfl d_M_swap_116 ?_
            refine pf_M_84 C d_M_swap_117 rfl rfl (by first | assumption | omega) (by repeat' first | assumption | exact up_eq _ _ _ | refine up_ne (by omega) ?_) (by exact Nat.le_of_ble_eq_true rfl) ?_
            refine g_lconst (v := 0) C rfl d_M_swap_120 ?_
            refine g_lret C E hr d_M_swap_121 ?_
            exact ⟨rfl, MW_up hW (by unfold isM; exact (by repeat' first | assumption | exact up_eq _ _ _ | refine up_ne (by omega) ?_)) (fun j a b => by repeat' first | exact rfl | refine up_ne (by omega) ?_), (fun j a => by repeat' first | exact rfl | refine up_ne (by omega) ?_)⟩
          · refine g_iload C rfl d_M_swap_110 ?_
            refine g_if_eq (tgt := 122) C d_M_swap_112 (by decide) (fun j112 => ?_) (fun j112 => ?_)
            · first | (have w : lN (zpr Z p) < lN (rt (tx z)) := (by assumption); exact h3.elim (fun q => absurd q j93) (fun q => q.elim (fun q => absurd q j100) (fun q => q.elim (fun q => absurd q j107) (fun q => absurd ((pk_lLT hS3 hM3).mp w) q)))) | exact absurd (e_bb.symm.trans j112) (by decide)
            refine g_aload_n C rfl rfl d_M_swap_115 ?_
            refine g_iconst (v := 2) C rfl d_M_swap_116 ?_
            refine pf_M_84 C d_M_swap_117 rfl rfl (by first | assumption | omega) (by repeat' first | assumption | exact up_eq _ _ _ | refine up_ne (by omega) ?_) (by exact Nat.le_of_ble_eq_true rfl) ?_
            refine g_lconst (v := 0) C rfl d_M_swap_120 ?_
            refine g_lret C E hr d_M_swap_121 ?_
            exact ⟨rfl, MW_up hW (by unfold isM; exact (by repeat' first | assumption | exact up_eq _ _ _ | refine up_ne (by omega) ?_)) (fun j a b => by repeat' first | exact rfl | refine up_ne (by omega) ?_), (fun j a => by repeat' first | exact rfl | refine up_ne (by omega) ?_)⟩
    · refine g_iconst (v := 1) C rfl d_M_swap_84 ?_
      refine g_goto (tgt := 89) C d_M_swap_85 (by decide) ?_
      refine g_topi (fun bb e_bb => ?_)
      refine g_istore (lv' := [(8, .int bb), (6, .long (lN (rt (tx z)))), (0, .ref (ad o m)), (1, .int (nI a)), (2, .int (nI p)), (3, .int (bz false)), (4, .int (x)), (5, .int (iI z))]) C d_M_swap_89 (by decide) rfl ?_
      refine g_iload C rfl d_M_swap_91 ?_
      refine g_if_eq (tgt := 115) C d_M_swap_93 (by decide) (fun j93 => ?_) (fun j93 => ?_)
      · refine g_aload_n C rfl rfl d_M_swap_115 ?_
        refine g_iconst (v := 2) C rfl d_M_swap_116 ?_
        refine pf_M_84 C d_M_swap_117 rfl rfl (by first | assumption | omega) (by repeat' first | assumption | exact up_eq _ _ _ | refine up_ne (by omega) ?_) (by exact Nat.le_of_ble_eq_true rfl) ?_
        refine g_lconst (v := 0) C rfl d_M_swap_120 ?_
        refine g_lret C E hr d_M_swap_121 ?_
        exact ⟨rfl, MW_up hW (by unfold isM; exact (by repeat' first | assumption | exact up_eq _ _ _ | refine up_ne (by omega) ?_)) (fun j a b => by repeat' first | exact rfl | refine up_ne (by omega) ?_), (fun j a => by repeat' first | exact rfl | refine up_ne (by omega) ?_)⟩
      · refine g_iload C rfl d_M_swap_96 ?_
        refine g_ldc C m_809 d_M_swap_98 ?_
        refine g_icmp_lt (tgt := 115) C d_M_swap_100 (by decide) (fun j100 => ?_) (fun j100 => ?_)
        · refine g_aload_n C rfl rfl d_M_swap_115 ?_
          refine g_iconst (v := 2) C rfl d_M_swap_116 ?_
          refine pf_M_84 C d_M_swap_117 rfl rfl (by first | assumption | omega) (by repeat' first | assumption | exact up_eq _ _ _ | refine up_ne (by omega) ?_) (by exact Nat.le_of_ble_eq_true rfl) ?_
          refine g_lconst (v := 0) C rfl d_M_swap_120 ?_
          refine g_lret C E hr d_M_swap_121 ?_
          exact ⟨rfl, MW_up hW (by unfold isM; exact (by repeat' first | assumption | exact up_eq _ _ _ | refine up_ne (by omega) ?_)) (fun j a b => by repeat' first | exact rfl | refine up_ne (by omega) ?_), (fun j a => by repeat' first | exact rfl | refine up_ne (by omega) ?_)⟩
        · refine g_iload C rfl d_M_swap_103 ?_
          refine g_ldc C m_810 d_M_swap_105 ?_
          refine g_icmp_gt (tgt := 115) C d_M_swap_107 (by decide) (fun j107 => ?_) (fun j107 => ?_)
          · refine g_aload_n C rfl rfl d_M_swap_115 ?_
            refine g_iconst (v := 2) C rfl d_M_swap_116 ?_
            refine pf_M_84 C d_M_swap_117 rfl rfl (by first | assumption | omega) (by repeat' first | assumption | exact up_eq _ _ _ | refine up_ne (by omega) ?_) (by exact Nat.le_of_ble_eq_true rfl) ?_
            refine g_lconst (v := 0) C rfl d_M_swap_120 ?_
            refine g_lret C E hr d_M_swap_121 ?_
            exact ⟨rfl, MW_up hW (by unfold isM; exact (by repeat' first | assumption | exact up_eq _ _ _ | refine up_ne (by omega) ?_)) (fun j a b => by repeat' first | exact rfl | refine up_ne (by omega) ?_), (fun j a => by repeat' first | exact rfl | refine up_ne (by omega) ?_)⟩
          · refine g_iload C rfl d_M_swap_110 ?_
            refine g_if_eq (tgt := 122) C d_M_swap_112 (by decide) (fun j112 => ?_) (fun j112 => ?_)
            · first | (have w : lN (zpr Z p) < lN (rt (tx z)) := (by assumption); exact h3.elim (fun q => absurd q j93) (fun q => q.elim (fun q => absurd q j100) (fun q => q.elim (fun q => absurd q j107) (fun q => absurd ((pk_lLT hS3 hM3).mp w) q)))) | exact absurd (e_bb.symm.trans j112) (by decide)
            refine g_aload_n C rfl rfl d_M_swap_115 ?_
            refine g_iconst (v := 2) C rfl d_M_swap_116 ?_
            refine pf_M_84 C d_M_swap_117 rfl rfl (by first | assumption | omega) (by repeat' first | assumption | exact up_eq _ _ _ | refine up_ne (by omega) ?_) (by exact Nat.le_of_ble_eq_true rfl) ?_
            refine g_lconst (v := 0) C rfl d_M_swap_120 ?_
            refine g_lret C E hr d_M_swap_121 ?_
            exact ⟨rfl, MW_up hW (by unfold isM; exact (by repeat' first | assumption | exact up_eq _ _ _ | refine up_ne (by omega) ?_)) (fun j a b => by repeat' first | exact rfl | refine up_ne (by omega) ?_), (fun j a => by repeat' first | exact rfl | refine up_ne (by omega) ?_)⟩
  · refine g_aload_n C rfl rfl d_M_swap_0 ?_
    refine g_iload_n C rfl rfl d_M_swap_1 ?_
    refine g_callS C (c_M_isOwner (nI a)) Y_M_isOwner m_726 m_725 ⟨by decide, by decide⟩ ⟨by decide, by decide⟩ (fun h => nomatch h) d_M_swap_2 rfl (Nat.le_of_ble_eq_true rfl) (fun ret sg2 hq => ?_)
    obtain ⟨rfl, rfl⟩ := hq
    refine g_if_eq (tgt := 23) C d_M_swap_5 (by decide) (fun j5 => ?_) (fun j5 => ?_)
    · exact absurd (j5.symm.trans (bzd (ok4 ha))) (by decide)
    refine g_iload_n C rfl rfl d_M_swap_8 ?_
    refine g_callS C (c_M_isPool (nI p)) Y_M_isPool m_744 m_743 ⟨by decide, by decide⟩ ⟨by decide, by decide⟩ (fun h => nomatch h) d_M_swap_9 rfl (Nat.le_of_ble_eq_true rfl) (fun ret sg9 hq => ?_)
    obtain ⟨rfl, rfl⟩ := hq
    refine g_if_eq (tgt := 23) C d_M_swap_12 (by decide) (fun j12 => ?_) (fun j12 => ?_)
    · exact absurd (j12.symm.trans (bzd (ok2 hp))) (by decide)
    refine g_iload C rfl d_M_swap_15 ?_
    refine g_callS C (c_M_isTick (iI z)) Y_M_isTick m_747 m_746 ⟨by decide, by decide⟩ ⟨by decide, by decide⟩ (fun h => nomatch h) d_M_swap_17 rfl (Nat.le_of_ble_eq_true rfl) (fun ret sg17 hq => ?_)
    obtain ⟨rfl, rfl⟩ := hq
    refine g_if_ne (tgt := 27) C d_M_swap_20 (by decide) (fun j20 => ?_) (fun j20 => ?_)
    rotate_left
    · exact absurd (j20.symm.trans (bzd (okT_i h1 h2))) (by decide)
    refine g_iconst (v := 0) C rfl d_M_swap_27 ?_
    refine pf_M_84 C d_M_swap_28 rfl rfl (by first | assumption | omega) (by repeat' first | assumption | exact up_eq _ _ _ | refine up_ne (by omega) ?_) (by exact Nat.le_of_ble_eq_true rfl) ?_
    refine g_aload_n C rfl rfl d_M_swap_31 ?_
    refine gf_M_84 C d_M_swap_32 (by first | assumption | omega) (by repeat' first | assumption | exact up_eq _ _ _ | refine up_ne (by omega) ?_) (by rfl) ?_
    refine g_if_le (tgt := 40) C d_M_swap_35 (by decide) (fun j35 => ?_) (fun j35 => ?_)
    rotate_left
    · exact absurd (by decide) j35
    refine g_aload_n C rfl rfl d_M_swap_40 ?_
    refine g_iload C rfl d_M_swap_41 ?_
    refine g_callV C (c_M_rootOf (th := 0) (la := zla Z) z hn (by unfold isM; exact (by repeat' first | assumption | exact up_eq _ _ _ | refine up_ne (by omega) ?_)) (isMR_mv a1 (by repeat' first | exact rfl | refine up_ne (by omega) ?_)) h1 h2) Y_M_rootOf m_761 s_M_rootOf m_759 rfl rfl ⟨by decide, by decide⟩ ⟨by decide, by decide⟩ (fun h => nomatch h) d_M_swap_43 (by first | assumption | omega) (by repeat' first | assumption | exact up_eq _ _ _ | refine up_ne (by omega) ?_) rfl (Nat.le_of_ble_eq_true rfl) (fun ret sg43 hq => ?_)
    obtain ⟨rfl, rfl⟩ := hq
    refine g_lstore (lv' := [(6, .long (lN (rt (tx z)))), (0, .ref (ad o m)), (1, .int (nI a)), (2, .int (nI p)), (3, .int (bz true)), (4, .int (x)), (5, .int (iI z))]) C d_M_swap_46 (by decide) rfl ?_
    refine g_iload_n C rfl rfl d_M_swap_48 ?_
    refine g_if_eq (tgt := 72) C d_M_swap_49 (by decide) (fun j49 => ?_) (fun j49 => ?_)
    · exact absurd j49 (by decide)
    refine g_lload C rfl d_M_swap_52 ?_
    refine g_aload_n C rfl rfl d_M_swap_54 ?_
    refine gf_M_26 C d_M_swap_55 (by first | assumption | omega) (by repeat' first | assumption | exact up_eq _ _ _ | refine up_ne (by omega) ?_) (by rfl) ?_
    refine g_iload_n C rfl rfl d_M_swap_58 ?_
    refine g_lald C d_M_swap_59 (by first | assumption | omega) (by repeat' first | assumption | exact up_eq _ _ _ | refine up_ne (by omega) ?_) hin ?_
    rw [hcl]
    refine g_lcmp_lt (tgt := 68) C d_M_swap_60 d_M_swap_61 (by decide) (fun j60 => ?_) (fun j60 => ?_)
    · refine g_iconst (v := 0) C rfl d_M_swap_68 ?_
      refine g_goto (tgt := 89) C d_M_swap_69 (by decide) ?_
      refine g_topi (fun bb e_bb => ?_)
      refine g_istore (lv' := [(8, .int bb), (6, .long (lN (rt (tx z)))), (0, .ref (ad o m)), (1, .int (nI a)), (2, .int (nI p)), (3, .int (bz true)), (4, .int (x)), (5, .int (iI z))]) C d_M_swap_89 (by decide) rfl ?_
      refine g_iload C rfl d_M_swap_91 ?_
      refine g_if_eq (tgt := 115) C d_M_swap_93 (by decide) (fun j93 => ?_) (fun j93 => ?_)
      · refine g_aload_n C rfl rfl d_M_swap_115 ?_
        refine g_iconst (v := 2) C rfl d_M_swap_116 ?_
        refine pf_M_84 C d_M_swap_117 rfl rfl (by first | assumption | omega) (by repeat' first | assumption | exact up_eq _ _ _ | refine up_ne (by omega) ?_) (by exact Nat.le_of_ble_eq_true rfl) ?_
        refine g_lconst (v := 0) C rfl d_M_swap_120 ?_
        refine g_lret C E hr d_M_swap_121 ?_
        exact ⟨rfl, MW_up hW (by unfold isM; exact (by repeat' first | assumption | exact up_eq _ _ _ | refine up_ne (by omega) ?_)) (fun j a b => by repeat' first | exact rfl | refine up_ne (by omega) ?_), (fun j a => by repeat' first | exact rfl | refine up_ne (by omega) ?_)⟩
      · refine g_iload C rfl d_M_swap_96 ?_
        refine g_ldc C m_809 d_M_swap_98 ?_
        refine g_icmp_lt (tgt := 115) C d_M_swap_100 (by decide) (fun j100 => ?_) (fun j100 => ?_)
        · refine g_aload_n C rfl rfl d_M_swap_115 ?_
          refine g_iconst (v := 2) C rfl d_M_swap_116 ?_
          refine pf_M_84 C d_M_swap_117 rfl rfl (by first | assumption | omega) (by repeat' first | assumption | exact up_eq _ _ _ | refine up_ne (by omega) ?_) (by exact Nat.le_of_ble_eq_true rfl) ?_
          refine g_lconst (v := 0) C rfl d_M_swap_120 ?_
          refine g_lret C E hr d_M_swap_121 ?_
          exact ⟨rfl, MW_up hW (by unfold isM; exact (by repeat' first | assumption | exact up_eq _ _ _ | refine up_ne (by omega) ?_)) (fun j a b => by repeat' first | exact rfl | refine up_ne (by omega) ?_), (fun j a => by repeat' first | exact rfl | refine up_ne (by omega) ?_)⟩
        · refine g_iload C rfl d_M_swap_103 ?_
          refine g_ldc C m_810 d_M_swap_105 ?_
          refine g_icmp_gt (tgt := 115) C d_M_swap_107 (by decide) (fun j107 => ?_) (fun j107 => ?_)
          · refine g_aload_n C rfl rfl d_M_swap_115 ?_
            refine g_iconst (v := 2) C rfl d_M_swap_116 ?_
            refine pf_M_84 C d_M_swap_117 rfl rfl (by first | assumption | omega) (by repeat' first | assumption | exact up_eq _ _ _ | refine up_ne (by omega) ?_) (by exact Nat.le_of_ble_eq_true rfl) ?_
            refine g_lconst (v := 0) C rfl d_M_swap_120 ?_
            refine g_lret C E hr d_M_swap_121 ?_
            exact ⟨rfl, MW_up hW (by unfold isM; exact (by repeat' first | assumption | exact up_eq _ _ _ | refine up_ne (by omega) ?_)) (fun j a b => by repeat' first | exact rfl | refine up_ne (by omega) ?_), (fun j a => by repeat' first | exact rfl | refine up_ne (by omega) ?_)⟩
          · refine g_iload C rfl d_M_swap_110 ?_
            refine g_if_eq (tgt := 122) C d_M_swap_112 (by decide) (fun j112 => ?_) (fun j112 => ?_)
            · first | (have w : lN (rt (tx z)) < lN (zpr Z p) := (by assumption); exact h3.elim (fun q => absurd q j93) (fun q => q.elim (fun q => absurd q j100) (fun q => q.elim (fun q => absurd q j107) (fun q => absurd ((pk_lLT hM3 hS3).mp w) q)))) | exact absurd (e_bb.symm.trans j112) (by decide)
            refine g_aload_n C rfl rfl d_M_swap_115 ?_
            refine g_iconst (v := 2) C rfl d_M_swap_116 ?_
            refine pf_M_84 C d_M_swap_117 rfl rfl (by first | assumption | omega) (by repeat' first | assumption | exact up_eq _ _ _ | refine up_ne (by omega) ?_) (by exact Nat.le_of_ble_eq_true rfl) ?_
            refine g_lconst (v := 0) C rfl d_M_swap_120 ?_
            refine g_lret C E hr d_M_swap_121 ?_
            exact ⟨rfl, MW_up hW (by unfold isM; exact (by repeat' first | assumption | exact up_eq _ _ _ | refine up_ne (by omega) ?_)) (fun j a b => by repeat' first | exact rfl | refine up_ne (by omega) ?_), (fun j a => by repeat' first | exact rfl | refine up_ne (by omega) ?_)⟩
    · refine g_iconst (v := 1) C rfl d_M_swap_64 ?_
      refine g_goto (tgt := 89) C d_M_swap_65 (by decide) ?_
      refine g_topi (fun bb e_bb => ?_)
      refine g_istore (lv' := [(8, .int bb), (6, .long (lN (rt (tx z)))), (0, .ref (ad o m)), (1, .int (nI a)), (2, .int (nI p)), (3, .int (bz true)), (4, .int (x)), (5, .int (iI z))]) C d_M_swap_89 (by decide) rfl ?_
      refine g_iload C rfl d_M_swap_91 ?_
      refine g_if_eq (tgt := 115) C d_M_swap_93 (by decide) (fun j93 => ?_) (fun j93 => ?_)
      · refine g_aload_n C rfl rfl d_M_swap_115 ?_
        refine g_iconst (v := 2) C rfl d_M_swap_116 ?_
        refine pf_M_84 C d_M_swap_117 rfl rfl (by first | assumption | omega) (by repeat' first | assumption | exact up_eq _ _ _ | refine up_ne (by omega) ?_) (by exact Nat.le_of_ble_eq_true rfl) ?_
        refine g_lconst (v := 0) C rfl d_M_swap_120 ?_
        refine g_lret C E hr d_M_swap_121 ?_
        exact ⟨rfl, MW_up hW (by unfold isM; exact (by repeat' first | assumption | exact up_eq _ _ _ | refine up_ne (by omega) ?_)) (fun j a b => by repeat' first | exact rfl | refine up_ne (by omega) ?_), (fun j a => by repeat' first | exact rfl | refine up_ne (by omega) ?_)⟩
      · refine g_iload C rfl d_M_swap_96 ?_
        refine g_ldc C m_809 d_M_swap_98 ?_
        refine g_icmp_lt (tgt := 115) C d_M_swap_100 (by decide) (fun j100 => ?_) (fun j100 => ?_)
        · refine g_aload_n C rfl rfl d_M_swap_115 ?_
          refine g_iconst (v := 2) C rfl d_M_swap_116 ?_
          refine pf_M_84 C d_M_swap_117 rfl rfl (by first | assumption | omega) (by repeat' first | assumption | exact up_eq _ _ _ | refine up_ne (by omega) ?_) (by exact Nat.le_of_ble_eq_true rfl) ?_
          refine g_lconst (v := 0) C rfl d_M_swap_120 ?_
          refine g_lret C E hr d_M_swap_121 ?_
          exact ⟨rfl, MW_up hW (by unfold isM; exact (by repeat' first | assumption | exact up_eq _ _ _ | refine up_ne (by omega) ?_)) (fun j a b => by repeat' first | exact rfl | refine up_ne (by omega) ?_), (fun j a => by repeat' first | exact rfl | refine up_ne (by omega) ?_)⟩
        · refine g_iload C rfl d_M_swap_103 ?_
          refine g_ldc C m_810 d_M_swap_105 ?_
          refine g_icmp_gt (tgt := 115) C d_M_swap_107 (by decide) (fun j107 => ?_) (fun j107 => ?_)
          · refine g_aload_n C rfl rfl d_M_swap_115 ?_
            refine g_iconst (v := 2) C rfl d_M_swap_116 ?_
            refine pf_M_84 C d_M_swap_117 rfl rfl (by first | assumption | omega) (by repeat' first | assumption | exact up_eq _ _ _ | refine up_ne (by omega) ?_) (by exact Nat.le_of_ble_eq_true rfl) ?_
            refine g_lconst (v := 0) C rfl d_M_swap_120 ?_
            refine g_lret C E hr d_M_swap_121 ?_
            exact ⟨rfl, MW_up hW (by unfold isM; exact (by repeat' first | assumption | exact up_eq _ _ _ | refine up_ne (by omega) ?_)) (fun j a b => by repeat' first | exact rfl | refine up_ne (by omega) ?_), (fun j a => by repeat' first | exact rfl | refine up_ne (by omega) ?_)⟩
          · refine g_iload C rfl d_M_swap_110 ?_
            refine g_if_eq (tgt := 122) C d_M_swap_112 (by decide) (fun j112 => ?_) (fun j112 => ?_)
            · first | (have w : lN (rt (tx z)) < lN (zpr Z p) := (by assumption); exact h3.elim (fun q => absurd q j93) (fun q => q.elim (fun q => absurd q j100) (fun q => q.elim (fun q => absurd q j107) (fun q => absurd ((pk_lLT hM3 hS3).mp w) q)))) | exact absurd (e_bb.symm.trans j112) (by decide)
            refine g_aload_n C rfl rfl d_M_swap_115 ?_
            refine g_iconst (v := 2) C rfl d_M_swap_116 ?_
            refine pf_M_84 C d_M_swap_117 rfl rfl (by first | assumption | omega) (by repeat' first | assumption | exact up_eq _ _ _ | refine up_ne (by omega) ?_) (by exact Nat.le_of_ble_eq_true rfl) ?_
            refine g_lconst (v := 0) C rfl d_M_swap_120 ?_
            refine g_lret C E hr d_M_swap_121 ?_
            exact ⟨rfl, MW_up hW (by unfold isM; exact (by repeat' first | assumption | exact up_eq _ _ _ | refine up_ne (by omega) ?_)) (fun j a b => by repeat' first | exact rfl | refine up_ne (by omega) ?_), (fun j a => by repeat' first | exact rfl | refine up_ne (by omega) ?_)⟩

