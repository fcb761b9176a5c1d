-- A STEP
def zNx (dn : Bool) (st : Nat → Bool) (tz : Int) : Nat := if dn = true then nDn st (tx tz) else nUp st (39 - tz).toNat
def zTg (dn : Bool) (nx M : Nat) : Nat := if dn = true then max (rt nx) M else min (rt nx) M
theorem zNx_t (st : Nat → Bool) (tz : Int) : zNx true st tz = nDn st (tx tz) := if_pos rfl
theorem zNx_f (st : Nat → Bool) (tz : Int) : zNx false st tz = nUp st (39 - tz).toNat := if_neg (by decide)
theorem zTg_t (nx M : Nat) : zTg true nx M = max (rt nx) M := if_pos rfl
theorem zTg_f (nx M : Nat) : zTg false nx M = min (rt nx) M := if_neg (by decide)
theorem max_lN {a b : Nat} (ha : a < 2 ^ 63) (hb : b < 2 ^ 63) : (if lN b < lN a then lN a else lN b) = lN (max a b) := by
  by_cases h : b < a
  · rw [if_pos ((pk_lLT hb ha).mpr h), Nat.max_eq_left (by omega)]
  · rw [if_neg (fun q => h ((pk_lLT hb ha).mp q)), Nat.max_eq_right (by omega)]
theorem zNx_le {dn : Bool} {st : Nat → Bool} {tz : Int} (h : tz ≤ 40) : zNx dn st tz ≤ 80 := by
  unfold zNx
  split
  · exact Nat.le_trans (nDn_le st _) (tx_le h)
  · exact (nUp_le st _).2
theorem zPr_t (dn : Bool) (f L S T r : Nat) : zPr dn true f L S T r = zPrIn dn L S T (r * (1000 - f) / 1000) := if_pos rfl
theorem zPr_f (dn : Bool) (f L S T r : Nat) : zPr dn false f L S T r = zPrOut dn L S T r := if_neg (by decide)
theorem zPr_range {dn ex : Bool} {f L S T r : Nat} (hS : 0 < S) (hT : 0 < T) (hd : if dn = true then T ≤ S else S ≤ T) : if dn = true then T ≤ zPr dn ex f L S T r ∧ zPr dn ex f L S T r ≤ S else S ≤ zPr dn ex f L S T r ∧ zPr dn ex f L S T r ≤ T := by
  cases ex
  · rw [zPr_f]
    by_cases h : zOut dn L S T ≤ r
    · rw [show zPrOut dn L S T r = T from if_pos h]
      cases dn
      · exact ⟨hd, Nat.le_refl _⟩
      · exact ⟨Nat.le_refl _, hd⟩
    · exact (prOut_ok hS hT hd (Nat.not_le.mp h)).1
  · rw [zPr_t]
    generalize r * (1000 - f) / 1000 = U
    by_cases h : zIn dn L S T ≤ U
    · rw [show zPrIn dn L S T U = T from if_pos h]
      cases dn
      · exact ⟨hd, Nat.le_refl _⟩
      · exact ⟨Nat.le_refl _, hd⟩
    · exact (prIn_ok hS hT hd (Nat.not_le.mp h)).1
theorem zPr_in {dn : Bool} {f L S T r : Nat} (hS : 0 < S) (hT : 0 < T) (hd : if dn = true then T ≤ S else S ≤ T) : zIn dn L S (zPr dn true f L S T r) ≤ r * (1000 - f) / 1000 := by
  rw [zPr_t]
  generalize r * (1000 - f) / 1000 = U
  by_cases h : zIn dn L S T ≤ U
  · rw [show zPrIn dn L S T U = T from if_pos h]; exact h
  · exact (prIn_ok hS hT hd (Nat.not_le.mp h)).2
theorem us_le {r f : Nat} : r * (1000 - f) / 1000 ≤ r := Nat.div_le_of_le_mul (by rw [Nat.mul_comm]; exact Nat.mul_le_mul_right r (by omega))
set_option maxHeartbeats 8000000 in
theorem c_T_step {l : Launch} {o n : Nat} {sg : Nat → va_E} {k kr kp kc f kn : Nat} {gr ne : Nat → Int32} {st : Nat → Bool} {dn ex : Bool} {paid got : Int64} {S L r M nx T P : Nat} {tz : Int} {g ou : Nat → Int64} (hkr : kr + 1 < k) (hk : k < kp) (hkc : kp + 3 ≤ kc) (hc : kc + 2 < n) (hT : isT sg o k kr kp kc dn ex (lN r) (lN M) paid got) (hPl : isP sg o kp kr f kn kc gr ne) (hC : isC sg o kc (lN S) tz (nI L) g ou) (hR : isR sg o kr) (hst : ∀ i, i ≤ 80 → (st i = true ↔ ¬ gr i = 0)) (hf : f ≤ 100) (hr : r ≤ 100000000) (hL : L ≤ 600000000) (hS : 1254299944 ≤ S) (hS2 : S < 14706804615) (hM : 1254299944 ≤ M) (hM2 : M < 14706804615) (h5 : -41 ≤ tz) (h6 : tz ≤ 40) (h7 : dn = false → tz ≤ 39) (hMS : if dn = true then M ≤ S else S ≤ M) (hNS : if dn = true then rt nx ≤ S else S ≤ rt nx) (hnx : nx = zNx dn st tz) (hTe : T = zTg dn nx M) (hPe : P = zPr dn ex f L S T r) :
    GM l y_T_step b_T_step 8 none 5 118 0 0 o n n sg false [.ref (ad o k)] (fun r0 s => none = r0 ∧ isT s o k kr kp kc dn ex (lN (zRs dn ex (decide (P = T)) f L S P r)) (lN M) (paid + lN (zIn dn L S P + zFe dn ex (decide (P = T)) f L S P r)) (got + lN (zGot dn ex L S P r)) ∧ isC s o kc (lN P) (zTk dn P S ((nx : Int) - 40) tz) (zLq dn gr ne P ((nx : Int) - 40) (nI L)) (gUp dn L g (zFe dn ex (decide (P = T)) f L S P r)) (zOu gr P ((nx : Int) - 40) (gUp dn L g (zFe dn ex (decide (P = T)) f L S P r)) ou) ∧ ∀ j, j ≠ k → (j < kc ∨ kc + 3 ≤ j) → s j = sg j) := by
  have hnx80 : nx ≤ 80 := by rw [hnx]; exact zNx_le h6
  have hrx := rt_up hnx80
  have hrx0 : 1254299944 ≤ rt nx := Nat.le_trans (by decide +kernel) (rt_le (Nat.zero_le nx) hnx80)
  have hTb : 1254299944 ≤ T ∧ T < 14706804615 := by
    rw [hTe, zTg]
    split
    · exact ⟨Nat.le_trans hM (Nat.le_max_right _ _), Nat.max_lt.mpr ⟨hrx, hM2⟩⟩
    · exact ⟨Nat.le_min.mpr ⟨hrx0, hM⟩, Nat.lt_of_le_of_lt (Nat.min_le_right _ _) hM2⟩
  have hd : if dn = true then T ≤ S else S ≤ T := by
    rw [hTe, zTg]
    cases dn
    · exact Nat.le_min.mpr ⟨hNS, hMS⟩
    · exact Nat.max_le.mpr ⟨hNS, hMS⟩
  have hrg := zPr_range (ex := ex) (f := f) (L := L) (r := r) (show 0 < S by omega) (show 0 < T by omega) hd
  rw [← hPe] at hrg
  have hPb : 1254299944 ≤ P ∧ P < 14706804615 := by
    cases dn
    · simp only [if_neg (show ¬ false = true by decide)] at hrg; omega
    · simp only [if_true] at hrg; omega
  have hdP : if dn = true then P ≤ S else S ≤ P := by
    cases dn
    · exact hrg.1
    · exact hrg.2
  have hinU : ex = true → zIn dn L S P ≤ r * (1000 - f) / 1000 := fun e => by
    rw [hPe, e]; exact zPr_in (by omega) (by omega) hd
  have hin : ex = true → zIn dn L S P ≤ r := fun e => Nat.le_trans (hinU e) us_le
  have hle : ∀ at_ : Bool, ex = true → zIn dn L S P + zFe dn ex at_ f L S P r ≤ r := fun at_ e => by
    have h1 := hinU e
    have h2 := hin e
    subst e
    cases at_
    · rw [zFe_tf]; omega
    · rw [zFe_tt]; exact fee_ok hf h1
  have hnr : rt ((nx : Int) - 40 + 40).toNat = rt nx := by congr 1; omega
  have ht1 : sg k = _ := hT
  have hp1 := hPl.1
  have hc1 := hC.1
  have hr1 := hR.1
  have hrx3 : rt nx < 2 ^ 63 := by omega
  have hM3 : M < 2 ^ 63 := by omega
  refine GM_of (by decide) (Nat.le_of_ble_eq_true rfl) ?_
  intro K C hl hz hr0 hnm E
  show G K o n sg 0 0 0 [(0, .ref (ad o k))] []
  have hrr := hr
  have hr := hr0
  have hP3 : P < 2 ^ 63 := by omega
  have hT3 : T < 2 ^ 63 := by omega
  by_cases hPT : P = T
  · have hat : decide (P = T) = true := decide_eq_true hPT
    rw [hat] at E
    cases ex
    · cases dn
      · refine g_aload_n C rfl rfl d_T_step_0 ?_
        refine gf_T_31 C d_T_step_1 (by first | assumption | omega) (by repeat' first | assumption | exact up_eq _ _ _ | refine up_ne (by omega) ?_) (by rfl) ?_
        refine g_if_eq (tgt := 24) C d_T_step_4 (by decide) (fun j4 => ?_) (fun j4 => ?_)
        rotate_left
        · exact absurd rfl j4
        refine g_aload_n C rfl rfl d_T_step_24 ?_
        refine gf_T_20 C d_T_step_25 (by first | assumption | omega) (by repeat' first | assumption | exact up_eq _ _ _ | refine up_ne (by omega) ?_) (by rfl) ?_
        refine g_aload_n C rfl rfl d_T_step_28 ?_
        refine gf_T_28 C d_T_step_29 (by first | assumption | omega) (by repeat' first | assumption | exact up_eq _ _ _ | refine up_ne (by omega) ?_) (by rfl) ?_
        refine gf_T_59 C d_T_step_32 (by first | assumption | omega) (by repeat' first | assumption | exact up_eq _ _ _ | refine up_ne (by omega) ?_) (by rfl) ?_
        refine g_callV C (c_P_nextUp tz (by omega) hPl hst h5 (h7 rfl)) Y_P_nextUp m_526 m_527 m_525 rfl rfl ⟨by decide, by decide⟩ ⟨by decide, by decide⟩ (fun h => nomatch h) d_T_step_35 (by first | assumption | omega) (by repeat' first | assumption | exact up_eq _ _ _ | refine up_ne (by omega) ?_) rfl (Nat.le_of_ble_eq_true rfl) (fun ret sg35 hq => ?_)
        obtain ⟨rfl, rfl⟩ := hq
        rw [show nUp st (39 - tz).toNat = nx from (zNx_f st tz).symm.trans hnx.symm]
        refine g_istore_n (lv' := [(1, .int (iI ((nx : Int) - 40))), (0, .ref (ad o k))]) C d_T_step_38 rfl (by decide) rfl ?_
        refine g_aload_n C rfl rfl d_T_step_39 ?_
        refine gf_T_9 C d_T_step_40 (by first | assumption | omega) (by repeat' first | assumption | exact up_eq _ _ _ | refine up_ne (by omega) ?_) (by rfl) ?_
        refine g_iload_n C rfl rfl d_T_step_43 ?_
        refine g_callV C (c_R_at ((nx : Int) - 40) (by omega) hR (by omega) (by omega)) Y_R_at m_358 m_359 m_529 rfl rfl ⟨by decide, by decide⟩ ⟨by decide, by decide⟩ (fun h => nomatch h) d_T_step_44 (by first | assumption | omega) (by repeat' first | assumption | exact up_eq _ _ _ | refine up_ne (by omega) ?_) rfl (Nat.le_of_ble_eq_true rfl) (fun ret sg44 hq => ?_)
        obtain ⟨rfl, rfl⟩ := hq
        rw [hnr]
        refine g_lstore_n (lv' := [(2, .long (lN (rt nx))), (1, .int (iI ((nx : Int) - 40))), (0, .ref (ad o k))]) C d_T_step_47 rfl (by decide) rfl ?_
        refine g_aload_n C rfl rfl d_T_step_48 ?_
        refine gf_T_31 C d_T_step_49 (by first | assumption | omega) (by repeat' first | assumption | exact up_eq _ _ _ | refine up_ne (by omega) ?_) (by rfl) ?_
        refine g_if_eq (tgt := 66) C d_T_step_52 (by decide) (fun j52 => ?_) (fun j52 => ?_)
        rotate_left
        · exact absurd rfl j52
        refine g_lload_n C rfl rfl d_T_step_66 ?_
        refine g_aload_n C rfl rfl d_T_step_67 ?_
        refine gf_T_42 C d_T_step_68 (by first | assumption | omega) (by repeat' first | assumption | exact up_eq _ _ _ | refine up_ne (by omega) ?_) (by rfl) ?_
        refine g_mminL C m_533 d_T_step_71 (by decide) (Nat.le_of_ble_eq_true rfl) (by decide) (by decide) ?_
        rw [min_lN hrx3 hM3, show min (rt nx) M = T from (zTg_f nx M).symm.trans hTe.symm]
        refine g_lstore (lv' := [(4, .long (lN T)), (2, .long (lN (rt nx))), (1, .int (iI ((nx : Int) - 40))), (0, .ref (ad o k))]) C d_T_step_74 (by decide) rfl ?_
        refine g_aload_n C rfl rfl d_T_step_76 ?_
        refine gf_T_35 C d_T_step_77 (by first | assumption | omega) (by repeat' first | assumption | exact up_eq _ _ _ | refine up_ne (by omega) ?_) (by rfl) ?_
        refine g_if_eq (tgt := 92) C d_T_step_80 (by decide) (fun j80 => ?_) (fun j80 => ?_)
        rotate_left
        · exact absurd rfl j80
        refine g_aload_n C rfl rfl d_T_step_92 ?_
        refine g_lload C rfl d_T_step_93 ?_
        refine g_callV C (c_T_priceByPaying T (by omega) hc hT hC hrr hL (by omega) (by omega) hS2 hTb.2 hd) Y_T_priceByPaying m_552 s_T_priceByPaying m_550 rfl rfl ⟨by decide, by decide⟩ ⟨by decide, by decide⟩ (fun h => nomatch h) d_T_step_95 (by first | assumption | omega) (by repeat' first | assumption | exact up_eq _ _ _ | refine up_ne (by omega) ?_) rfl (Nat.le_of_ble_eq_true rfl) (fun ret sg95 hq => ?_)
        obtain ⟨rfl, rfl⟩ := hq
        rw [show zPrOut false L S T r = P from (zPr_f _ _ _ _ _ _).symm.trans hPe.symm]
        refine g_lstore (lv' := [(6, .long (lN P)), (4, .long (lN T)), (2, .long (lN (rt nx))), (1, .int (iI ((nx : Int) - 40))), (0, .ref (ad o k))]) C d_T_step_98 (by decide) rfl ?_
        refine g_aload_n C rfl rfl d_T_step_100 ?_
        refine g_lload C rfl d_T_step_101 ?_
        refine g_lload C rfl d_T_step_103 ?_
        refine g_lload C rfl d_T_step_105 ?_
        refine g_lcmp_ne (tgt := 115) C d_T_step_107 d_T_step_108 (by decide) (fun j107 => ?_) (fun j107 => ?_)
        · exact absurd (congrArg lN hPT) j107
        refine g_iconst (v := 1) C rfl d_T_step_111 ?_
        refine g_goto (tgt := 116) C d_T_step_112 (by decide) ?_
        refine g_callV C (c_T_exchange P true hk hkc hc hT hPl hC hf hrr hL hS hPb.1 hS2 hPb.2 hdP hin (hle true)) Y_T_exchange m_560 s_T_exchange m_558 rfl rfl ⟨by decide, by decide⟩ ⟨by decide, by decide⟩ (fun h => nomatch h) d_T_step_116 (by first | assumption | omega) (by repeat' first | assumption | exact up_eq _ _ _ | refine up_ne (by omega) ?_) rfl (Nat.le_of_ble_eq_true rfl) (fun ret sg116 hq => ?_)
        obtain ⟨rfl, eT, eC, eF⟩ := hq
        have et1 : sg116 k = _ := eT
        refine g_aload_n C rfl rfl d_T_step_119 ?_
        refine g_lload C rfl d_T_step_120 ?_
        refine g_iload_n C rfl rfl d_T_step_122 ?_
        refine g_callV C (c_T_moveTo P ((nx : Int) - 40) hkr hk hkc hc eT (isP_mv hPl (fun j a b => eF j (by omega) (by omega))) eC (isR_mv hR (fun j a b => eF j (by omega) (by omega))) (by omega) (by omega) hP3 (by omega)) Y_T_moveTo m_564 s_T_moveTo m_562 rfl rfl ⟨by decide, by decide⟩ ⟨by decide, by decide⟩ (fun h => nomatch h) d_T_step_123 (by first | assumption | omega) (by repeat' first | assumption | exact up_eq _ _ _ | refine up_ne (by omega) ?_) rfl (Nat.le_of_ble_eq_true rfl) (fun ret sg123 hq => ?_)
        obtain ⟨rfl, mC, mF⟩ := hq
        refine g_vret C E hr d_T_step_126 ⟨rfl, (mF k (by omega) (by omega)).trans eT, mC, fun j a b => (mF j (by omega) (by omega)).trans (eF j a (by omega))⟩
      · refine g_aload_n C rfl rfl d_T_step_0 ?_
        refine gf_T_31 C d_T_step_1 (by first | assumption | omega) (by repeat' first | assumption | exact up_eq _ _ _ | refine up_ne (by omega) ?_) (by rfl) ?_
        refine g_if_eq (tgt := 24) C d_T_step_4 (by decide) (fun j4 => ?_) (fun j4 => ?_)
        · exact absurd j4 (by decide)
        refine g_aload_n C rfl rfl d_T_step_7 ?_
        refine gf_T_20 C d_T_step_8 (by first | assumption | omega) (by repeat' first | assumption | exact up_eq _ _ _ | refine up_ne (by omega) ?_) (by rfl) ?_
        refine g_aload_n C rfl rfl d_T_step_11 ?_
        refine gf_T_28 C d_T_step_12 (by first | assumption | omega) (by repeat' first | assumption | exact up_eq _ _ _ | refine up_ne (by omega) ?_) (by rfl) ?_
        refine gf_T_59 C d_T_step_15 (by first | assumption | omega) (by repeat' first | assumption | exact up_eq _ _ _ | refine up_ne (by omega) ?_) (by rfl) ?_
        refine g_callV C (c_P_nextDown tz (by omega) hPl hst h5 h6) Y_P_nextDown m_522 m_523 m_521 rfl rfl ⟨by decide, by decide⟩ ⟨by decide, by decide⟩ (fun h => nomatch h) d_T_step_18 (by first | assumption | omega) (by repeat' first | assumption | exact up_eq _ _ _ | refine up_ne (by omega) ?_) rfl (Nat.le_of_ble_eq_true rfl) (fun ret sg18 hq => ?_)
        obtain ⟨rfl, rfl⟩ := hq
        refine g_goto (tgt := 38) C d_T_step_21 (by decide) ?_
        rw [show nDn st (tx tz) = nx from (zNx_t st tz).symm.trans hnx.symm]
        refine g_istore_n (lv' := [(1, .int (iI ((nx : Int) - 40))), (0, .ref (ad o k))]) C d_T_step_38 rfl (by decide) rfl ?_
        refine g_aload_n C rfl rfl d_T_step_39 ?_
        refine gf_T_9 C d_T_step_40 (by first | assumption | omega) (by repeat' first | assumption | exact up_eq _ _ _ | refine up_ne (by omega) ?_) (by rfl) ?_
        refine g_iload_n C rfl rfl d_T_step_43 ?_
        refine g_callV C (c_R_at ((nx : Int) - 40) (by omega) hR (by omega) (by omega)) Y_R_at m_358 m_359 m_529 rfl rfl ⟨by decide, by decide⟩ ⟨by decide, by decide⟩ (fun h => nomatch h) d_T_step_44 (by first | assumption | omega) (by repeat' first | assumption | exact up_eq _ _ _ | refine up_ne (by omega) ?_) rfl (Nat.le_of_ble_eq_true rfl) (fun ret sg44 hq => ?_)
        obtain ⟨rfl, rfl⟩ := hq
        rw [hnr]
        refine g_lstore_n (lv' := [(2, .long (lN (rt nx))), (1, .int (iI ((nx : Int) - 40))), (0, .ref (ad o k))]) C d_T_step_47 rfl (by decide) rfl ?_
        refine g_aload_n C rfl rfl d_T_step_48 ?_
        refine gf_T_31 C d_T_step_49 (by first | assumption | omega) (by repeat' first | assumption | exact up_eq _ _ _ | refine up_ne (by omega) ?_) (by rfl) ?_
        refine g_if_eq (tgt := 66) C d_T_step_52 (by decide) (fun j52 => ?_) (fun j52 => ?_)
        · exact absurd j52 (by decide)
        refine g_lload_n C rfl rfl d_T_step_55 ?_
        refine g_aload_n C rfl rfl d_T_step_56 ?_
        refine gf_T_42 C d_T_step_57 (by first | assumption | omega) (by repeat' first | assumption | exact up_eq _ _ _ | refine up_ne (by omega) ?_) (by rfl) ?_
        refine g_mmaxL C m_530 d_T_step_60 (by decide) (Nat.le_of_ble_eq_true rfl) (by decide) (by decide) ?_
        refine g_goto (tgt := 74) C d_T_step_63 (by decide) ?_
        rw [max_lN hrx3 hM3, show max (rt nx) M = T from (zTg_t nx M).symm.trans hTe.symm]
        refine g_lstore (lv' := [(4, .long (lN T)), (2, .long (lN (rt nx))), (1, .int (iI ((nx : Int) - 40))), (0, .ref (ad o k))]) C d_T_step_74 (by decide) rfl ?_
        refine g_aload_n C rfl rfl d_T_step_76 ?_
        refine gf_T_35 C d_T_step_77 (by first | assumption | omega) (by repeat' first | assumption | exact up_eq _ _ _ | refine up_ne (by omega) ?_) (by rfl) ?_
        refine g_if_eq (tgt := 92) C d_T_step_80 (by decide) (fun j80 => ?_) (fun j80 => ?_)
        rotate_left
        · exact absurd rfl j80
        refine g_aload_n C rfl rfl d_T_step_92 ?_
        refine g_lload C rfl d_T_step_93 ?_
        refine g_callV C (c_T_priceByPaying T (by omega) hc hT hC hrr hL (by omega) (by omega) hS2 hTb.2 hd) Y_T_priceByPaying m_552 s_T_priceByPaying m_550 rfl rfl ⟨by decide, by decide⟩ ⟨by decide, by decide⟩ (fun h => nomatch h) d_T_step_95 (by first | assumption | omega) (by repeat' first | assumption | exact up_eq _ _ _ | refine up_ne (by omega) ?_) rfl (Nat.le_of_ble_eq_true rfl) (fun ret sg95 hq => ?_)
        obtain ⟨rfl, rfl⟩ := hq
        rw [show zPrOut true L S T r = P from (zPr_f _ _ _ _ _ _).symm.trans hPe.symm]
        refine g_lstore (lv' := [(6, .long (lN P)), (4, .long (lN T)), (2, .long (lN (rt nx))), (1, .int (iI ((nx : Int) - 40))), (0, .ref (ad o k))]) C d_T_step_98 (by decide) rfl ?_
        refine g_aload_n C rfl rfl d_T_step_100 ?_
        refine g_lload C rfl d_T_step_101 ?_
        refine g_lload C rfl d_T_step_103 ?_
        refine g_lload C rfl d_T_step_105 ?_
        refine g_lcmp_ne (tgt := 115) C d_T_step_107 d_T_step_108 (by decide) (fun j107 => ?_) (fun j107 => ?_)
        · exact absurd (congrArg lN hPT) j107
        refine g_iconst (v := 1) C rfl d_T_step_111 ?_
        refine g_goto (tgt := 116) C d_T_step_112 (by decide) ?_
        refine g_callV C (c_T_exchange P true hk hkc hc hT hPl hC hf hrr hL hS hPb.1 hS2 hPb.2 hdP hin (hle true)) Y_T_exchange m_560 s_T_exchange m_558 rfl rfl ⟨by decide, by decide⟩ ⟨by decide, by decide⟩ (fun h => nomatch h) d_T_step_116 (by first | assumption | omega) (by repeat' first | assumption | exact up_eq _ _ _ | refine up_ne (by omega) ?_) rfl (Nat.le_of_ble_eq_true rfl) (fun ret sg116 hq => ?_)
        obtain ⟨rfl, eT, eC, eF⟩ := hq
        have et1 : sg116 k = _ := eT
        refine g_aload_n C rfl rfl d_T_step_119 ?_
        refine g_lload C rfl d_T_step_120 ?_
        refine g_iload_n C rfl rfl d_T_step_122 ?_
        refine g_callV C (c_T_moveTo P ((nx : Int) - 40) hkr hk hkc hc eT (isP_mv hPl (fun j a b => eF j (by omega) (by omega))) eC (isR_mv hR (fun j a b => eF j (by omega) (by omega))) (by omega) (by omega) hP3 (by omega)) Y_T_moveTo m_564 s_T_moveTo m_562 rfl rfl ⟨by decide, by decide⟩ ⟨by decide, by decide⟩ (fun h => nomatch h) d_T_step_123 (by first | assumption | omega) (by repeat' first | assumption | exact up_eq _ _ _ | refine up_ne (by omega) ?_) rfl (Nat.le_of_ble_eq_true rfl) (fun ret sg123 hq => ?_)
        obtain ⟨rfl, mC, mF⟩ := hq
        refine g_vret C E hr d_T_step_126 ⟨rfl, (mF k (by omega) (by omega)).trans eT, mC, fun j a b => (mF j (by omega) (by omega)).trans (eF j a (by omega))⟩
    · cases dn
      · refine g_aload_n C rfl rfl d_T_step_0 ?_
        refine gf_T_31 C d_T_step_1 (by first | assumption | omega) (by repeat' first | assumption | exact up_eq _ _ _ | refine up_ne (by omega) ?_) (by rfl) ?_
        refine g_if_eq (tgt := 24) C d_T_step_4 (by decide) (fun j4 => ?_) (fun j4 => ?_)
        rotate_left
        · exact absurd rfl j4
        refine g_aload_n C rfl rfl d_T_step_24 ?_
        refine gf_T_20 C d_T_step_25 (by first | assumption | omega) (by repeat' first | assumption | exact up_eq _ _ _ | refine up_ne (by omega) ?_) (by rfl) ?_
        refine g_aload_n C rfl rfl d_T_step_28 ?_
        refine gf_T_28 C d_T_step_29 (by first | assumption | omega) (by repeat' first | assumption | exact up_eq _ _ _ | refine up_ne (by omega) ?_) (by rfl) ?_
        refine gf_T_59 C d_T_step_32 (by first | assumption | omega) (by repeat' first | assumption | exact up_eq _ _ _ | refine up_ne (by omega) ?_) (by rfl) ?_
        refine g_callV C (c_P_nextUp tz (by omega) hPl hst h5 (h7 rfl)) Y_P_nextUp m_526 m_527 m_525 rfl rfl ⟨by decide, by decide⟩ ⟨by decide, by decide⟩ (fun h => nomatch h) d_T_step_35 (by first | assumption | omega) (by repeat' first | assumption | exact up_eq _ _ _ | refine up_ne (by omega) ?_) rfl (Nat.le_of_ble_eq_true rfl) (fun ret sg35 hq => ?_)
        obtain ⟨rfl, rfl⟩ := hq
        rw [show nUp st (39 - tz).toNat = nx from (zNx_f st tz).symm.trans hnx.symm]
        refine g_istore_n (lv' := [(1, .int (iI ((nx : Int) - 40))), (0, .ref (ad o k))]) C d_T_step_38 rfl (by decide) rfl ?_
        refine g_aload_n C rfl rfl d_T_step_39 ?_
        refine gf_T_9 C d_T_step_40 (by first | assumption | omega) (by repeat' first | assumption | exact up_eq _ _ _ | refine up_ne (by omega) ?_) (by rfl) ?_
        refine g_iload_n C rfl rfl d_T_step_43 ?_
        refine g_callV C (c_R_at ((nx : Int) - 40) (by omega) hR (by omega) (by omega)) Y_R_at m_358 m_359 m_529 rfl rfl ⟨by decide, by decide⟩ ⟨by decide, by decide⟩ (fun h => nomatch h) d_T_step_44 (by first | assumption | omega) (by repeat' first | assumption | exact up_eq _ _ _ | refine up_ne (by omega) ?_) rfl (Nat.le_of_ble_eq_true rfl) (fun ret sg44 hq => ?_)
        obtain ⟨rfl, rfl⟩ := hq
        rw [hnr]
        refine g_lstore_n (lv' := [(2, .long (lN (rt nx))), (1, .int (iI ((nx : Int) - 40))), (0, .ref (ad o k))]) C d_T_step_47 rfl (by decide) rfl ?_
        refine g_aload_n C rfl rfl d_T_step_48 ?_
        refine gf_T_31 C d_T_step_49 (by first | assumption | omega) (by repeat' first | assumption | exact up_eq _ _ _ | refine up_ne (by omega) ?_) (by rfl) ?_
        refine g_if_eq (tgt := 66) C d_T_step_52 (by decide) (fun j52 => ?_) (fun j52 => ?_)
        rotate_left
        · exact absurd rfl j52
        refine g_lload_n C rfl rfl d_T_step_66 ?_
        refine g_aload_n C rfl rfl d_T_step_67 ?_
        refine gf_T_42 C d_T_step_68 (by first | assumption | omega) (by repeat' first | assumption | exact up_eq _ _ _ | refine up_ne (by omega) ?_) (by rfl) ?_
        refine g_mminL C m_533 d_T_step_71 (by decide) (Nat.le_of_ble_eq_true rfl) (by decide) (by decide) ?_
        rw [min_lN hrx3 hM3, show min (rt nx) M = T from (zTg_f nx M).symm.trans hTe.symm]
        refine g_lstore (lv' := [(4, .long (lN T)), (2, .long (lN (rt nx))), (1, .int (iI ((nx : Int) - 40))), (0, .ref (ad o k))]) C d_T_step_74 (by decide) rfl ?_
        refine g_aload_n C rfl rfl d_T_step_76 ?_
        refine gf_T_35 C d_T_step_77 (by first | assumption | omega) (by repeat' first | assumption | exact up_eq _ _ _ | refine up_ne (by omega) ?_) (by rfl) ?_
        refine g_if_eq (tgt := 92) C d_T_step_80 (by decide) (fun j80 => ?_) (fun j80 => ?_)
        · exact absurd j80 (by decide)
        refine g_aload_n C rfl rfl d_T_step_83 ?_
        refine g_lload C rfl d_T_step_84 ?_
        refine g_callV C (c_T_priceByTaking T (by omega) hc (by omega) hT hPl hC hf hrr hL (by omega) (by omega) hS2 hTb.2 hd) Y_T_priceByTaking m_538 s_T_priceByTaking m_536 rfl rfl ⟨by decide, by decide⟩ ⟨by decide, by decide⟩ (fun h => nomatch h) d_T_step_86 (by first | assumption | omega) (by repeat' first | assumption | exact up_eq _ _ _ | refine up_ne (by omega) ?_) rfl (Nat.le_of_ble_eq_true rfl) (fun ret sg86 hq => ?_)
        obtain ⟨rfl, rfl⟩ := hq
        rw [show zPrIn false L S T (r * (1000 - f) / 1000) = P from (zPr_t _ _ _ _ _ _).symm.trans hPe.symm]
        refine g_goto (tgt := 98) C d_T_step_89 (by decide) ?_
        refine g_lstore (lv' := [(6, .long (lN P)), (4, .long (lN T)), (2, .long (lN (rt nx))), (1, .int (iI ((nx : Int) - 40))), (0, .ref (ad o k))]) C d_T_step_98 (by decide) rfl ?_
        refine g_aload_n C rfl rfl d_T_step_100 ?_
        refine g_lload C rfl d_T_step_101 ?_
        refine g_lload C rfl d_T_step_103 ?_
        refine g_lload C rfl d_T_step_105 ?_
        refine g_lcmp_ne (tgt := 115) C d_T_step_107 d_T_step_108 (by decide) (fun j107 => ?_) (fun j107 => ?_)
        · exact absurd (congrArg lN hPT) j107
        refine g_iconst (v := 1) C rfl d_T_step_111 ?_
        refine g_goto (tgt := 116) C d_T_step_112 (by decide) ?_
        refine g_callV C (c_T_exchange P true hk hkc hc hT hPl hC hf hrr hL hS hPb.1 hS2 hPb.2 hdP hin (hle true)) Y_T_exchange m_560 s_T_exchange m_558 rfl rfl ⟨by decide, by decide⟩ ⟨by decide, by decide⟩ (fun h => nomatch h) d_T_step_116 (by first | assumption | omega) (by repeat' first | assumption | exact up_eq _ _ _ | refine up_ne (by omega) ?_) rfl (Nat.le_of_ble_eq_true rfl) (fun ret sg116 hq => ?_)
        obtain ⟨rfl, eT, eC, eF⟩ := hq
        have et1 : sg116 k = _ := eT
        refine g_aload_n C rfl rfl d_T_step_119 ?_
        refine g_lload C rfl d_T_step_120 ?_
        refine g_iload_n C rfl rfl d_T_step_122 ?_
        refine g_callV C (c_T_moveTo P ((nx : Int) - 40) hkr hk hkc hc eT (isP_mv hPl (fun j a b => eF j (by omega) (by omega))) eC (isR_mv hR (fun j a b => eF j (by omega) (by omega))) (by omega) (by omega) hP3 (by omega)) Y_T_moveTo m_564 s_T_moveTo m_562 rfl rfl ⟨by decide, by decide⟩ ⟨by decide, by decide⟩ (fun h => nomatch h) d_T_step_123 (by first | assumption | omega) (by repeat' first | assumption | exact up_eq _ _ _ | refine up_ne (by omega) ?_) rfl (Nat.le_of_ble_eq_true rfl) (fun ret sg123 hq => ?_)
        obtain ⟨rfl, mC, mF⟩ := hq
        refine g_vret C E hr d_T_step_126 ⟨rfl, (mF k (by omega) (by omega)).trans eT, mC, fun j a b => (mF j (by omega) (by omega)).trans (eF j a (by omega))⟩
      · refine g_aload_n C rfl rfl d_T_step_0 ?_
        refine gf_T_31 C d_T_step_1 (by first | assumption | omega) (by repeat' first | assumption | exact up_eq _ _ _ | refine up_ne (by omega) ?_) (by rfl) ?_
        refine g_if_eq (tgt := 24) C d_T_step_4 (by decide) (fun j4 => ?_) (fun j4 => ?_)
        · exact absurd j4 (by decide)
        refine g_aload_n C rfl rfl d_T_step_7 ?_
        refine gf_T_20 C d_T_step_8 (by first | assumption | omega) (by repeat' first | assumption | exact up_eq _ _ _ | refine up_ne (by omega) ?_) (by rfl) ?_
        refine g_aload_n C rfl rfl d_T_step_11 ?_
        refine gf_T_28 C d_T_step_12 (by first | assumption | omega) (by repeat' first | assumption | exact up_eq _ _ _ | refine up_ne (by omega) ?_) (by rfl) ?_
        refine gf_T_59 C d_T_step_15 (by first | assumption | omega) (by repeat' first | assumption | exact up_eq _ _ _ | refine up_ne (by omega) ?_) (by rfl) ?_
        refine g_callV C (c_P_nextDown tz (by omega) hPl hst h5 h6) Y_P_nextDown m_522 m_523 m_521 rfl rfl ⟨by decide, by decide⟩ ⟨by decide, by decide⟩ (fun h => nomatch h) d_T_step_18 (by first | assumption | omega) (by repeat' first | assumption | exact up_eq _ _ _ | refine up_ne (by omega) ?_) rfl (Nat.le_of_ble_eq_true rfl) (fun ret sg18 hq => ?_)
        obtain ⟨rfl, rfl⟩ := hq
        refine g_goto (tgt := 38) C d_T_step_21 (by decide) ?_
        rw [show nDn st (tx tz) = nx from (zNx_t st tz).symm.trans hnx.symm]
        refine g_istore_n (lv' := [(1, .int (iI ((nx : Int) - 40))), (0, .ref (ad o k))]) C d_T_step_38 rfl (by decide) rfl ?_
        refine g_aload_n C rfl rfl d_T_step_39 ?_
        refine gf_T_9 C d_T_step_40 (by first | assumption | omega) (by repeat' first | assumption | exact up_eq _ _ _ | refine up_ne (by omega) ?_) (by rfl) ?_
        refine g_iload_n C rfl rfl d_T_step_43 ?_
        refine g_callV C (c_R_at ((nx : Int) - 40) (by omega) hR (by omega) (by omega)) Y_R_at m_358 m_359 m_529 rfl rfl ⟨by decide, by decide⟩ ⟨by decide, by decide⟩ (fun h => nomatch h) d_T_step_44 (by first | assumption | omega) (by repeat' first | assumption | exact up_eq _ _ _ | refine up_ne (by omega) ?_) rfl (Nat.le_of_ble_eq_true rfl) (fun ret sg44 hq => ?_)
        obtain ⟨rfl, rfl⟩ := hq
        rw [hnr]
        refine g_lstore_n (lv' := [(2, .long (lN (rt nx))), (1, .int (iI ((nx : Int) - 40))), (0, .ref (ad o k))]) C d_T_step_47 rfl (by decide) rfl ?_
        refine g_aload_n C rfl rfl d_T_step_48 ?_
        refine gf_T_31 C d_T_step_49 (by first | assumption | omega) (by repeat' first | assumption | exact up_eq _ _ _ | refine up_ne (by omega) ?_) (by rfl) ?_
        refine g_if_eq (tgt := 66) C d_T_step_52 (by decide) (fun j52 => ?_) (fun j52 => ?_)
        · exact absurd j52 (by decide)
        refine g_lload_n C rfl rfl d_T_step_55 ?_
        refine g_aload_n C rfl rfl d_T_step_56 ?_
        refine gf_T_42 C d_T_step_57 (by first | assumption | omega) (by repeat' first | assumption | exact up_eq _ _ _ | refine up_ne (by omega) ?_) (by rfl) ?_
        refine g_mmaxL C m_530 d_T_step_60 (by decide) (Nat.le_of_ble_eq_true rfl) (by decide) (by decide) ?_
        refine g_goto (tgt := 74) C d_T_step_63 (by decide) ?_
        rw [max_lN hrx3 hM3, show max (rt nx) M = T from (zTg_t nx M).symm.trans hTe.symm]
        refine g_lstore (lv' := [(4, .long (lN T)), (2, .long (lN (rt nx))), (1, .int (iI ((nx : Int) - 40))), (0, .ref (ad o k))]) C d_T_step_74 (by decide) rfl ?_
        refine g_aload_n C rfl rfl d_T_step_76 ?_
        refine gf_T_35 C d_T_step_77 (by first | assumption | omega) (by repeat' first | assumption | exact up_eq _ _ _ | refine up_ne (by omega) ?_) (by rfl) ?_
        refine g_if_eq (tgt := 92) C d_T_step_80 (by decide) (fun j80 => ?_) (fun j80 => ?_)
        · exact absurd j80 (by decide)
        refine g_aload_n C rfl rfl d_T_step_83 ?_
        refine g_lload C rfl d_T_step_84 ?_
        refine g_callV C (c_T_priceByTaking T (by omega) hc (by omega) hT hPl hC hf hrr hL (by omega) (by omega) hS2 hTb.2 hd) Y_T_priceByTaking m_538 s_T_priceByTaking m_536 rfl rfl ⟨by decide, by decide⟩ ⟨by decide, by decide⟩ (fun h => nomatch h) d_T_step_86 (by first | assumption | omega) (by repeat' first | assumption | exact up_eq _ _ _ | refine up_ne (by omega) ?_) rfl (Nat.le_of_ble_eq_true rfl) (fun ret sg86 hq => ?_)
        obtain ⟨rfl, rfl⟩ := hq
        rw [show zPrIn true L S T (r * (1000 - f) / 1000) = P from (zPr_t _ _ _ _ _ _).symm.trans hPe.symm]
        refine g_goto (tgt := 98) C d_T_step_89 (by decide) ?_
        refine g_lstore (lv' := [(6, .long (lN P)), (4, .long (lN T)), (2, .long (lN (rt nx))), (1, .int (iI ((nx : Int) - 40))), (0, .ref (ad o k))]) C d_T_step_98 (by decide) rfl ?_
        refine g_aload_n C rfl rfl d_T_step_100 ?_
        refine g_lload C rfl d_T_step_101 ?_
        refine g_lload C rfl d_T_step_103 ?_
        refine g_lload C rfl d_T_step_105 ?_
        refine g_lcmp_ne (tgt := 115) C d_T_step_107 d_T_step_108 (by decide) (fun j107 => ?_) (fun j107 => ?_)
        · exact absurd (congrArg lN hPT) j107
        refine g_iconst (v := 1) C rfl d_T_step_111 ?_
        refine g_goto (tgt := 116) C d_T_step_112 (by decide) ?_
        refine g_callV C (c_T_exchange P true hk hkc hc hT hPl hC hf hrr hL hS hPb.1 hS2 hPb.2 hdP hin (hle true)) Y_T_exchange m_560 s_T_exchange m_558 rfl rfl ⟨by decide, by decide⟩ ⟨by decide, by decide⟩ (fun h => nomatch h) d_T_step_116 (by first | assumption | omega) (by repeat' first | assumption | exact up_eq _ _ _ | refine up_ne (by omega) ?_) rfl (Nat.le_of_ble_eq_true rfl) (fun ret sg116 hq => ?_)
        obtain ⟨rfl, eT, eC, eF⟩ := hq
        have et1 : sg116 k = _ := eT
        refine g_aload_n C rfl rfl d_T_step_119 ?_
        refine g_lload C rfl d_T_step_120 ?_
        refine g_iload_n C rfl rfl d_T_step_122 ?_
        refine g_callV C (c_T_moveTo P ((nx : Int) - 40) hkr hk hkc hc eT (isP_mv hPl (fun j a b => eF j (by omega) (by omega))) eC (isR_mv hR (fun j a b => eF j (by omega) (by omega))) (by omega) (by omega) hP3 (by omega)) Y_T_moveTo m_564 s_T_moveTo m_562 rfl rfl ⟨by decide, by decide⟩ ⟨by decide, by decide⟩ (fun h => nomatch h) d_T_step_123 (by first | assumption | omega) (by repeat' first | assumption | exact up_eq _ _ _ | refine up_ne (by omega) ?_) rfl (Nat.le_of_ble_eq_true rfl) (fun ret sg123 hq => ?_)
        obtain ⟨rfl, mC, mF⟩ := hq
        refine g_vret C E hr d_T_step_126 ⟨rfl, (mF k (by omega) (by omega)).trans eT, mC, fun j a b => (mF j (by omega) (by omega)).trans (eF j a (by omega))⟩
  · have hat : decide (P = T) = false := decide_eq_false hPT
    rw [hat] at E
    cases ex
    · cases dn
      · refine g_aload_n C rfl rfl d_T_step_0 ?_
        refine gf_T_31 C d_T_step_1 (by first | assumption | omega) (by repeat' first | assumption | exact up_eq _ _ _ | refine up_ne (by omega) ?_) (by rfl) ?_
        refine g_if_eq (tgt := 24) C d_T_step_4 (by decide) (fun j4 => ?_) (fun j4 => ?_)
        rotate_left
        · exact absurd rfl j4
        refine g_aload_n C rfl rfl d_T_step_24 ?_
        refine gf_T_20 C d_T_step_25 (by first | assumption | omega) (by repeat' first | assumption | exact up_eq _ _ _ | refine up_ne (by omega) ?_) (by rfl) ?_
        refine g_aload_n C rfl rfl d_T_step_28 ?_
        refine gf_T_28 C d_T_step_29 (by first | assumption | omega) (by repeat' first | assumption | exact up_eq _ _ _ | refine up_ne (by omega) ?_) (by rfl) ?_
        refine gf_T_59 C d_T_step_32 (by first | assumption | omega) (by repeat' first | assumption | exact up_eq _ _ _ | refine up_ne (by omega) ?_) (by rfl) ?_
        refine g_callV C (c_P_nextUp tz (by omega) hPl hst h5 (h7 rfl)) Y_P_nextUp m_526 m_527 m_525 rfl rfl ⟨by decide, by decide⟩ ⟨by decide, by decide⟩ (fun h => nomatch h) d_T_step_35 (by first | assumption | omega) (by repeat' first | assumption | exact up_eq _ _ _ | refine up_ne (by omega) ?_) rfl (Nat.le_of_ble_eq_true rfl) (fun ret sg35 hq => ?_)
        obtain ⟨rfl, rfl⟩ := hq
        rw [show nUp st (39 - tz).toNat = nx from (zNx_f st tz).symm.trans hnx.symm]
        refine g_istore_n (lv' := [(1, .int (iI ((nx : Int) - 40))), (0, .ref (ad o k))]) C d_T_step_38 rfl (by decide) rfl ?_
        refine g_aload_n C rfl rfl d_T_step_39 ?_
        refine gf_T_9 C d_T_step_40 (by first | assumption | omega) (by repeat' first | assumption | exact up_eq _ _ _ | refine up_ne (by omega) ?_) (by rfl) ?_
        refine g_iload_n C rfl rfl d_T_step_43 ?_
        refine g_callV C (c_R_at ((nx : Int) - 40) (by omega) hR (by omega) (by omega)) Y_R_at m_358 m_359 m_529 rfl rfl ⟨by decide, by decide⟩ ⟨by decide, by decide⟩ (fun h => nomatch h) d_T_step_44 (by first | assumption | omega) (by repeat' first | assumption | exact up_eq _ _ _ | refine up_ne (by omega) ?_) rfl (Nat.le_of_ble_eq_true rfl) (fun ret sg44 hq => ?_)
        obtain ⟨rfl, rfl⟩ := hq
        rw [hnr]
        refine g_lstore_n (lv' := [(2, .long (lN (rt nx))), (1, .int (iI ((nx : Int) - 40))), (0, .ref (ad o k))]) C d_T_step_47 rfl (by decide) rfl ?_
        refine g_aload_n C rfl rfl d_T_step_48 ?_
        refine gf_T_31 C d_T_step_49 (by first | assumption | omega) (by repeat' first | assumption | exact up_eq _ _ _ | refine up_ne (by omega) ?_) (by rfl) ?_
        refine g_if_eq (tgt := 66) C d_T_step_52 (by decide) (fun j52 => ?_) (fun j52 => ?_)
        rotate_left
        · exact absurd rfl j52
        refine g_lload_n C rfl rfl d_T_step_66 ?_
        refine g_aload_n C rfl rfl d_T_step_67 ?_
        refine gf_T_42 C d_T_step_68 (by first | assumption | omega) (by repeat' first | assumption | exact up_eq _ _ _ | refine up_ne (by omega) ?_) (by rfl) ?_
        refine g_mminL C m_533 d_T_step_71 (by decide) (Nat.le_of_ble_eq_true rfl) (by decide) (by decide) ?_
        rw [min_lN hrx3 hM3, show min (rt nx) M = T from (zTg_f nx M).symm.trans hTe.symm]
        refine g_lstore (lv' := [(4, .long (lN T)), (2, .long (lN (rt nx))), (1, .int (iI ((nx : Int) - 40))), (0, .ref (ad o k))]) C d_T_step_74 (by decide) rfl ?_
        refine g_aload_n C rfl rfl d_T_step_76 ?_
        refine gf_T_35 C d_T_step_77 (by first | assumption | omega) (by repeat' first | assumption | exact up_eq _ _ _ | refine up_ne (by omega) ?_) (by rfl) ?_
        refine g_if_eq (tgt := 92) C d_T_step_80 (by decide) (fun j80 => ?_) (fun j80 => ?_)
        rotate_left
        · exact absurd rfl j80
        refine g_aload_n C rfl rfl d_T_step_92 ?_
        refine g_lload C rfl d_T_step_93 ?_
        refine g_callV C (c_T_priceByPaying T (by omega) hc hT hC hrr hL (by omega) (by omega) hS2 hTb.2 hd) Y_T_priceByPaying m_552 s_T_priceByPaying m_550 rfl rfl ⟨by decide, by decide⟩ ⟨by decide, by decide⟩ (fun h => nomatch h) d_T_step_95 (by first | assumption | omega) (by repeat' first | assumption | exact up_eq _ _ _ | refine up_ne (by omega) ?_) rfl (Nat.le_of_ble_eq_true rfl) (fun ret sg95 hq => ?_)
        obtain ⟨rfl, rfl⟩ := hq
        rw [show zPrOut false L S T r = P from (zPr_f _ _ _ _ _ _).symm.trans hPe.symm]
        refine g_lstore (lv' := [(6, .long (lN P)), (4, .long (lN T)), (2, .long (lN (rt nx))), (1, .int (iI ((nx : Int) - 40))), (0, .ref (ad o k))]) C d_T_step_98 (by decide) rfl ?_
        refine g_aload_n C rfl rfl d_T_step_100 ?_
        refine g_lload C rfl d_T_step_101 ?_
        refine g_lload C rfl d_T_step_103 ?_
        refine g_lload C rfl d_T_step_105 ?_
        refine g_lcmp_ne (tgt := 115) C d_T_step_107 d_T_step_108 (by decide) (fun j107 => ?_) (fun j107 => ?_)
        rotate_left
        · exact absurd ((pk_lEQ hP3 hT3).mp j107) hPT
        refine g_iconst (v := 0) C rfl d_T_step_115 ?_
        refine g_callV C (c_T_exchange P false hk hkc hc hT hPl hC hf hrr hL hS hPb.1 hS2 hPb.2 hdP hin (hle false)) Y_T_exchange m_560 s_T_exchange m_558 rfl rfl ⟨by decide, by decide⟩ ⟨by decide, by decide⟩ (fun h => nomatch h) d_T_step_116 (by first | assumption | omega) (by repeat' first | assumption | exact up_eq _ _ _ | refine up_ne (by omega) ?_) rfl (Nat.le_of_ble_eq_true rfl) (fun ret sg116 hq => ?_)
        obtain ⟨rfl, eT, eC, eF⟩ := hq
        have et1 : sg116 k = _ := eT
        refine g_aload_n C rfl rfl d_T_step_119 ?_
        refine g_lload C rfl d_T_step_120 ?_
        refine g_iload_n C rfl rfl d_T_step_122 ?_
        refine g_callV C (c_T_moveTo P ((nx : Int) - 40) hkr hk hkc hc eT (isP_mv hPl (fun j a b => eF j (by omega) (by omega))) eC (isR_mv hR (fun j a b => eF j (by omega) (by omega))) (by omega) (by omega) hP3 (by omega)) Y_T_moveTo m_564 s_T_moveTo m_562 rfl rfl ⟨by decide, by decide⟩ ⟨by decide, by decide⟩ (fun h => nomatch h) d_T_step_123 (by first | assumption | omega) (by repeat' first | assumption | exact up_eq _ _ _ | refine up_ne (by omega) ?_) rfl (Nat.le_of_ble_eq_true rfl) (fun ret sg123 hq => ?_)
        obtain ⟨rfl, mC, mF⟩ := hq
        refine g_vret C E hr d_T_step_126 ⟨rfl, (mF k (by omega) (by omega)).trans eT, mC, fun j a b => (mF j (by omega) (by omega)).trans (eF j a (by omega))⟩
      · refine g_aload_n C rfl rfl d_T_step_0 ?_
        refine gf_T_31 C d_T_step_1 (by first | assumption | omega) (by repeat' first | assumption | exact up_eq _ _ _ | refine up_ne (by omega) ?_) (by rfl) ?_
        refine g_if_eq (tgt := 24) C d_T_step_4 (by decide) (fun j4 => ?_) (fun j4 => ?_)
        · exact absurd j4 (by decide)
        refine g_aload_n C rfl rfl d_T_step_7 ?_
        refine gf_T_20 C d_T_step_8 (by first | assumption | omega) (by repeat' first | assumption | exact up_eq _ _ _ | refine up_ne (by omega) ?_) (by rfl) ?_
        refine g_aload_n C rfl rfl d_T_step_11 ?_
        refine gf_T_28 C d_T_step_12 (by first | assumption | omega) (by repeat' first | assumption | exact up_eq _ _ _ | refine up_ne (by omega) ?_) (by rfl) ?_
        refine gf_T_59 C d_T_step_15 (by first | assumption | omega) (by repeat' first | assumption | exact up_eq _ _ _ | refine up_ne (by omega) ?_) (by rfl) ?_
        refine g_callV C (c_P_nextDown tz (by omega) hPl hst h5 h6) Y_P_nextDown m_522 m_523 m_521 rfl rfl ⟨by decide, by decide⟩ ⟨by decide, by decide⟩ (fun h => nomatch h) d_T_step_18 (by first | assumption | omega) (by repeat' first | assumption | exact up_eq _ _ _ | refine up_ne (by omega) ?_) rfl (Nat.le_of_ble_eq_true rfl) (fun ret sg18 hq => ?_)
        obtain ⟨rfl, rfl⟩ := hq
        refine g_goto (tgt := 38) C d_T_step_21 (by decide) ?_
        rw [show nDn st (tx tz) = nx from (zNx_t st tz).symm.trans hnx.symm]
        refine g_istore_n (lv' := [(1, .int (iI ((nx : Int) - 40))), (0, .ref (ad o k))]) C d_T_step_38 rfl (by decide) rfl ?_
        refine g_aload_n C rfl rfl d_T_step_39 ?_
        refine gf_T_9 C d_T_step_40 (by first | assumption | omega) (by repeat' first | assumption | exact up_eq _ _ _ | refine up_ne (by omega) ?_) (by rfl) ?_
        refine g_iload_n C rfl rfl d_T_step_43 ?_
        refine g_callV C (c_R_at ((nx : Int) - 40) (by omega) hR (by omega) (by omega)) Y_R_at m_358 m_359 m_529 rfl rfl ⟨by decide, by decide⟩ ⟨by decide, by decide⟩ (fun h => nomatch h) d_T_step_44 (by first | assumption | omega) (by repeat' first | assumption | exact up_eq _ _ _ | refine up_ne (by omega) ?_) rfl (Nat.le_of_ble_eq_true rfl) (fun ret sg44 hq => ?_)
        obtain ⟨rfl, rfl⟩ := hq
        rw [hnr]
        refine g_lstore_n (lv' := [(2, .long (lN (rt nx))), (1, .int (iI ((nx : Int) - 40))), (0, .ref (ad o k))]) C d_T_step_47 rfl (by decide) rfl ?_
        refine g_aload_n C rfl rfl d_T_step_48 ?_
        refine gf_T_31 C d_T_step_49 (by first | assumption | omega) (by repeat' first | assumption | exact up_eq _ _ _ | refine up_ne (by omega) ?_) (by rfl) ?_
        refine g_if_eq (tgt := 66) C d_T_step_52 (by decide) (fun j52 => ?_) (fun j52 => ?_)
        · exact absurd j52 (by decide)
        refine g_lload_n C rfl rfl d_T_step_55 ?_
        refine g_aload_n C rfl rfl d_T_step_56 ?_
        refine gf_T_42 C d_T_step_57 (by first | assumption | omega) (by repeat' first | assumption | exact up_eq _ _ _ | refine up_ne (by omega) ?_) (by rfl) ?_
        refine g_mmaxL C m_530 d_T_step_60 (by decide) (Nat.le_of_ble_eq_true rfl) (by decide) (by decide) ?_
        refine g_goto (tgt := 74) C d_T_step_63 (by decide) ?_
        rw [max_lN hrx3 hM3, show max (rt nx) M = T from (zTg_t nx M).symm.trans hTe.symm]
        refine g_lstore (lv' := [(4, .long (lN T)), (2, .long (lN (rt nx))), (1, .int (iI ((nx : Int) - 40))), (0, .ref (ad o k))]) C d_T_step_74 (by decide) rfl ?_
        refine g_aload_n C rfl rfl d_T_step_76 ?_
        refine gf_T_35 C d_T_step_77 (by first | assumption | omega) (by repeat' first | assumption | exact up_eq _ _ _ | refine up_ne (by omega) ?_) (by rfl) ?_
        refine g_if_eq (tgt := 92) C d_T_step_80 (by decide) (fun j80 => ?_) (fun j80 => ?_)
        rotate_left
        · exact absurd rfl j80
        refine g_aload_n C rfl rfl d_T_step_92 ?_
        refine g_lload C rfl d_T_step_93 ?_
        refine g_callV C (c_T_priceByPaying T (by omega) hc hT hC hrr hL (by omega) (by omega) hS2 hTb.2 hd) Y_T_priceByPaying m_552 s_T_priceByPaying m_550 rfl rfl ⟨by decide, by decide⟩ ⟨by decide, by decide⟩ (fun h => nomatch h) d_T_step_95 (by first | assumption | omega) (by repeat' first | assumption | exact up_eq _ _ _ | refine up_ne (by omega) ?_) rfl (Nat.le_of_ble_eq_true rfl) (fun ret sg95 hq => ?_)
        obtain ⟨rfl, rfl⟩ := hq
        rw [show zPrOut true L S T r = P from (zPr_f _ _ _ _ _ _).symm.trans hPe.symm]
        refine g_lstore (lv' := [(6, .long (lN P)), (4, .long (lN T)), (2, .long (lN (rt nx))), (1, .int (iI ((nx : Int) - 40))), (0, .ref (ad o k))]) C d_T_step_98 (by decide) rfl ?_
        refine g_aload_n C rfl rfl d_T_step_100 ?_
        refine g_lload C rfl d_T_step_101 ?_
        refine g_lload C rfl d_T_step_103 ?_
        refine g_lload C rfl d_T_step_105 ?_
        refine g_lcmp_ne (tgt := 115) C d_T_step_107 d_T_step_108 (by decide) (fun j107 => ?_) (fun j107 => ?_)
        rotate_left
        · exact absurd ((pk_lEQ hP3 hT3).mp j107) hPT
        refine g_iconst (v := 0) C rfl d_T_step_115 ?_
        refine g_callV C (c_T_exchange P false hk hkc hc hT hPl hC hf hrr hL hS hPb.1 hS2 hPb.2 hdP hin (hle false)) Y_T_exchange m_560 s_T_exchange m_558 rfl rfl ⟨by decide, by decide⟩ ⟨by decide, by decide⟩ (fun h => nomatch h) d_T_step_116 (by first | assumption | omega) (by repeat' first | assumption | exact up_eq _ _ _ | refine up_ne (by omega) ?_) rfl (Nat.le_of_ble_eq_true rfl) (fun ret sg116 hq => ?_)
        obtain ⟨rfl, eT, eC, eF⟩ := hq
        have et1 : sg116 k = _ := eT
        refine g_aload_n C rfl rfl d_T_step_119 ?_
        refine g_lload C rfl d_T_step_120 ?_
        refine g_iload_n C rfl rfl d_T_step_122 ?_
        refine g_callV C (c_T_moveTo P ((nx : Int) - 40) hkr hk hkc hc eT (isP_mv hPl (fun j a b => eF j (by omega) (by omega))) eC (isR_mv hR (fun j a b => eF j (by omega) (by omega))) (by omega) (by omega) hP3 (by omega)) Y_T_moveTo m_564 s_T_moveTo m_562 rfl rfl ⟨by decide, by decide⟩ ⟨by decide, by decide⟩ (fun h => nomatch h) d_T_step_123 (by first | assumption | omega) (by repeat' first | assumption | exact up_eq _ _ _ | refine up_ne (by omega) ?_) rfl (Nat.le_of_ble_eq_true rfl) (fun ret sg123 hq => ?_)
        obtain ⟨rfl, mC, mF⟩ := hq
        refine g_vret C E hr d_T_step_126 ⟨rfl, (mF k (by omega) (by omega)).trans eT, mC, fun j a b => (mF j (by omega) (by omega)).trans (eF j a (by omega))⟩
    · cases dn
      · refine g_aload_n C rfl rfl d_T_step_0 ?_
        refine gf_T_31 C d_T_step_1 (by first | assumption | omega) (by repeat' first | assumption | exact up_eq _ _ _ | refine up_ne (by omega) ?_) (by rfl) ?_
        refine g_if_eq (tgt := 24) C d_T_step_4 (by decide) (fun j4 => ?_) (fun j4 => ?_)
        rotate_left
        · exact absurd rfl j4
        refine g_aload_n C rfl rfl d_T_step_24 ?_
        refine gf_T_20 C d_T_step_25 (by first | assumption | omega) (by repeat' first | assumption | exact up_eq _ _ _ | refine up_ne (by omega) ?_) (by rfl) ?_
        refine g_aload_n C rfl rfl d_T_step_28 ?_
        refine gf_T_28 C d_T_step_29 (by first | assumption | omega) (by repeat' first | assumption | exact up_eq _ _ _ | refine up_ne (by omega) ?_) (by rfl) ?_
        refine gf_T_59 C d_T_step_32 (by first | assumption | omega) (by repeat' first | assumption | exact up_eq _ _ _ | refine up_ne (by omega) ?_) (by rfl) ?_
        refine g_callV C (c_P_nextUp tz (by omega) hPl hst h5 (h7 rfl)) Y_P_nextUp m_526 m_527 m_525 rfl rfl ⟨by decide, by decide⟩ ⟨by decide, by decide⟩ (fun h => nomatch h) d_T_step_35 (by first | assumption | omega) (by repeat' first | assumption | exact up_eq _ _ _ | refine up_ne (by omega) ?_) rfl (Nat.le_of_ble_eq_true rfl) (fun ret sg35 hq => ?_)
        obtain ⟨rfl, rfl⟩ := hq
        rw [show nUp st (39 - tz).toNat = nx from (zNx_f st tz).symm.trans hnx.symm]
        refine g_istore_n (lv' := [(1, .int (iI ((nx : Int) - 40))), (0, .ref (ad o k))]) C d_T_step_38 rfl (by decide) rfl ?_
        refine g_aload_n C rfl rfl d_T_step_39 ?_
        refine gf_T_9 C d_T_step_40 (by first | assumption | omega) (by repeat' first | assumption | exact up_eq _ _ _ | refine up_ne (by omega) ?_) (by rfl) ?_
        refine g_iload_n C rfl rfl d_T_step_43 ?_
        refine g_callV C (c_R_at ((nx : Int) - 40) (by omega) hR (by omega) (by omega)) Y_R_at m_358 m_359 m_529 rfl rfl ⟨by decide, by decide⟩ ⟨by decide, by decide⟩ (fun h => nomatch h) d_T_step_44 (by first | assumption | omega) (by repeat' first | assumption | exact up_eq _ _ _ | refine up_ne (by omega) ?_) rfl (Nat.le_of_ble_eq_true rfl) (fun ret sg44 hq => ?_)
        obtain ⟨rfl, rfl⟩ := hq
        rw [hnr]
        refine g_lstore_n (lv' := [(2, .long (lN (rt nx))), (1, .int (iI ((nx : Int) - 40))), (0, .ref (ad o k))]) C d_T_step_47 rfl (by decide) rfl ?_
        refine g_aload_n C rfl rfl d_T_step_48 ?_
        refine gf_T_31 C d_T_step_49 (by first | assumption | omega) (by repeat' first | assumption | exact up_eq _ _ _ | refine up_ne (by omega) ?_) (by rfl) ?_
        refine g_if_eq (tgt := 66) C d_T_step_52 (by decide) (fun j52 => ?_) (fun j52 => ?_)
        rotate_left
        · exact absurd rfl j52
        refine g_lload_n C rfl rfl d_T_step_66 ?_
        refine g_aload_n C rfl rfl d_T_step_67 ?_
        refine gf_T_42 C d_T_step_68 (by first | assumption | omega) (by repeat' first | assumption | exact up_eq _ _ _ | refine up_ne (by omega) ?_) (by rfl) ?_
        refine g_mminL C m_533 d_T_step_71 (by decide) (Nat.le_of_ble_eq_true rfl) (by decide) (by decide) ?_
        rw [min_lN hrx3 hM3, show min (rt nx) M = T from (zTg_f nx M).symm.trans hTe.symm]
        refine g_lstore (lv' := [(4, .long (lN T)), (2, .long (lN (rt nx))), (1, .int (iI ((nx : Int) - 40))), (0, .ref (ad o k))]) C d_T_step_74 (by decide) rfl ?_
        refine g_aload_n C rfl rfl d_T_step_76 ?_
        refine gf_T_35 C d_T_step_77 (by first | assumption | omega) (by repeat' first | assumption | exact up_eq _ _ _ | refine up_ne (by omega) ?_) (by rfl) ?_
        refine g_if_eq (tgt := 92) C d_T_step_80 (by decide) (fun j80 => ?_) (fun j80 => ?_)
        · exact absurd j80 (by decide)
        refine g_aload_n C rfl rfl d_T_step_83 ?_
        refine g_lload C rfl d_T_step_84 ?_
        refine g_callV C (c_T_priceByTaking T (by omega) hc (by omega) hT hPl hC hf hrr hL (by omega) (by omega) hS2 hTb.2 hd) Y_T_priceByTaking m_538 s_T_priceByTaking m_536 rfl rfl ⟨by decide, by decide⟩ ⟨by decide, by decide⟩ (fun h => nomatch h) d_T_step_86 (by first | assumption | omega) (by repeat' first | assumption | exact up_eq _ _ _ | refine up_ne (by omega) ?_) rfl (Nat.le_of_ble_eq_true rfl) (fun ret sg86 hq => ?_)
        obtain ⟨rfl, rfl⟩ := hq
        rw [show zPrIn false L S T (r * (1000 - f) / 1000) = P from (zPr_t _ _ _ _ _ _).symm.trans hPe.symm]
        refine g_goto (tgt := 98) C d_T_step_89 (by decide) ?_
        refine g_lstore (lv' := [(6, .long (lN P)), (4, .long (lN T)), (2, .long (lN (rt nx))), (1, .int (iI ((nx : Int) - 40))), (0, .ref (ad o k))]) C d_T_step_98 (by decide) rfl ?_
        refine g_aload_n C rfl rfl d_T_step_100 ?_
        refine g_lload C rfl d_T_step_101 ?_
        refine g_lload C rfl d_T_step_103 ?_
        refine g_lload C rfl d_T_step_105 ?_
        refine g_lcmp_ne (tgt := 115) C d_T_step_107 d_T_step_108 (by decide) (fun j107 => ?_) (fun j107 => ?_)
        rotate_left
        · exact absurd ((pk_lEQ hP3 hT3).mp j107) hPT
        refine g_iconst (v := 0) C rfl d_T_step_115 ?_
        refine g_callV C (c_T_exchange P false hk hkc hc hT hPl hC hf hrr hL hS hPb.1 hS2 hPb.2 hdP hin (hle false)) Y_T_exchange m_560 s_T_exchange m_558 rfl rfl ⟨by decide, by decide⟩ ⟨by decide, by decide⟩ (fun h => nomatch h) d_T_step_116 (by first | assumption | omega) (by repeat' first | assumption | exact up_eq _ _ _ | refine up_ne (by omega) ?_) rfl (Nat.le_of_ble_eq_true rfl) (fun ret sg116 hq => ?_)
        obtain ⟨rfl, eT, eC, eF⟩ := hq
        have et1 : sg116 k = _ := eT
        refine g_aload_n C rfl rfl d_T_step_119 ?_
        refine g_lload C rfl d_T_step_120 ?_
        refine g_iload_n C rfl rfl d_T_step_122 ?_
        refine g_callV C (c_T_moveTo P ((nx : Int) - 40) hkr hk hkc hc eT (isP_mv hPl (fun j a b => eF j (by omega) (by omega))) eC (isR_mv hR (fun j a b => eF j (by omega) (by omega))) (by omega) (by omega) hP3 (by omega)) Y_T_moveTo m_564 s_T_moveTo m_562 rfl rfl ⟨by decide, by decide⟩ ⟨by decide, by decide⟩ (fun h => nomatch h) d_T_step_123 (by first | assumption | omega) (by repeat' first | assumption | exact up_eq _ _ _ | refine up_ne (by omega) ?_) rfl (Nat.le_of_ble_eq_true rfl) (fun ret sg123 hq => ?_)
        obtain ⟨rfl, mC, mF⟩ := hq
        refine g_vret C E hr d_T_step_126 ⟨rfl, (mF k (by omega) (by omega)).trans eT, mC, fun j a b => (mF j (by omega) (by omega)).trans (eF j a (by omega))⟩
      · refine g_aload_n C rfl rfl d_T_step_0 ?_
        refine gf_T_31 C d_T_step_1 (by first | assumption | omega) (by repeat' first | assumption | exact up_eq _ _ _ | refine up_ne (by omega) ?_) (by rfl) ?_
        refine g_if_eq (tgt := 24) C d_T_step_4 (by decide) (fun j4 => ?_) (fun j4 => ?_)
        · exact absurd j4 (by decide)
        refine g_aload_n C rfl rfl d_T_step_7 ?_
        refine gf_T_20 C d_T_step_8 (by first | assumption | omega) (by repeat' first | assumption | exact up_eq _ _ _ | refine up_ne (by omega) ?_) (by rfl) ?_
        refine g_aload_n C rfl rfl d_T_step_11 ?_
        refine gf_T_28 C d_T_step_12 (by first | assumption | omega) (by repeat' first | assumption | exact up_eq _ _ _ | refine up_ne (by omega) ?_) (by rfl) ?_
        refine gf_T_59 C d_T_step_15 (by first | assumption | omega) (by repeat' first | assumption | exact up_eq _ _ _ | refine up_ne (by omega) ?_) (by rfl) ?_
        refine g_callV C (c_P_nextDown tz (by omega) hPl hst h5 h6) Y_P_nextDown m_522 m_523 m_521 rfl rfl ⟨by decide, by decide⟩ ⟨by decide, by decide⟩ (fun h => nomatch h) d_T_step_18 (by first | assumption | omega) (by repeat' first | assumption | exact up_eq _ _ _ | refine up_ne (by omega) ?_) rfl (Nat.le_of_ble_eq_true rfl) (fun ret sg18 hq => ?_)
        obtain ⟨rfl, rfl⟩ := hq
        refine g_goto (tgt := 38) C d_T_step_21 (by decide) ?_
        rw [show nDn st (tx tz) = nx from (zNx_t st tz).symm.trans hnx.symm]
        refine g_istore_n (lv' := [(1, .int (iI ((nx : Int) - 40))), (0, .ref (ad o k))]) C d_T_step_38 rfl (by decide) rfl ?_
        refine g_aload_n C rfl rfl d_T_step_39 ?_
        refine gf_T_9 C d_T_step_40 (by first | assumption | omega) (by repeat' first | assumption | exact up_eq _ _ _ | refine up_ne (by omega) ?_) (by rfl) ?_
        refine g_iload_n C rfl rfl d_T_step_43 ?_
        refine g_callV C (c_R_at ((nx : Int) - 40) (by omega) hR (by omega) (by omega)) Y_R_at m_358 m_359 m_529 rfl rfl ⟨by decide, by decide⟩ ⟨by decide, by decide⟩ (fun h => nomatch h) d_T_step_44 (by first | assumption | omega) (by repeat' first | assumption | exact up_eq _ _ _ | refine up_ne (by omega) ?_) rfl (Nat.le_of_ble_eq_true rfl) (fun ret sg44 hq => ?_)
        obtain ⟨rfl, rfl⟩ := hq
        rw [hnr]
        refine g_lstore_n (lv' := [(2, .long (lN (rt nx))), (1, .int (iI ((nx : Int) - 40))), (0, .ref (ad o k))]) C d_T_step_47 rfl (by decide) rfl ?_
        refine g_aload_n C rfl rfl d_T_step_48 ?_
        refine gf_T_31 C d_T_step_49 (by first | assumption | omega) (by repeat' first | assumption | exact up_eq _ _ _ | refine up_ne (by omega) ?_) (by rfl) ?_
        refine g_if_eq (tgt := 66) C d_T_step_52 (by decide) (fun j52 => ?_) (fun j52 => ?_)
        · exact absurd j52 (by decide)
        refine g_lload_n C rfl rfl d_T_step_55 ?_
        refine g_aload_n C rfl rfl d_T_step_56 ?_
        refine gf_T_42 C d_T_step_57 (by first | assumption | omega) (by repeat' first | assumption | exact up_eq _ _ _ | refine up_ne (by omega) ?_) (by rfl) ?_
        refine g_mmaxL C m_530 d_T_step_60 (by decide) (Nat.le_of_ble_eq_true rfl) (by decide) (by decide) ?_
        refine g_goto (tgt := 74) C d_T_step_63 (by decide) ?_
        rw [max_lN hrx3 hM3, show max (rt nx) M = T from (zTg_t nx M).symm.trans hTe.symm]
        refine g_lstore (lv' := [(4, .long (lN T)), (2, .long (lN (rt nx))), (1, .int (iI ((nx : Int) - 40))), (0, .ref (ad o k))]) C d_T_step_74 (by decide) rfl ?_
        refine g_aload_n C rfl rfl d_T_step_76 ?_
        refine gf_T_35 C d_T_step_77 (by first | assumption | omega) (by repeat' first | assumption | exact up_eq _ _ _ | refine up_ne (by omega) ?_) (by rfl) ?_
        refine g_if_eq (tgt := 92) C d_T_step_80 (by decide) (fun j80 => ?_) (fun j80 => ?_)
        · exact absurd j80 (by decide)
        refine g_aload_n C rfl rfl d_T_step_83 ?_
        refine g_lload C rfl d_T_step_84 ?_
        refine g_callV C (c_T_priceByTaking T (by omega) hc (by omega) hT hPl hC hf hrr hL (by omega) (by omega) hS2 hTb.2 hd) Y_T_priceByTaking m_538 s_T_priceByTaking m_536 rfl rfl ⟨by decide, by decide⟩ ⟨by decide, by decide⟩ (fun h => nomatch h) d_T_step_86 (by first | assumption | omega) (by repeat' first | assumption | exact up_eq _ _ _ | refine up_ne (by omega) ?_) rfl (Nat.le_of_ble_eq_true rfl) (fun ret sg86 hq => ?_)
        obtain ⟨rfl, rfl⟩ := hq
        rw [show zPrIn true L S T (r * (1000 - f) / 1000) = P from (zPr_t _ _ _ _ _ _).symm.trans hPe.symm]
        refine g_goto (tgt := 98) C d_T_step_89 (by decide) ?_
        refine g_lstore (lv' := [(6, .long (lN P)), (4, .long (lN T)), (2, .long (lN (rt nx))), (1, .int (iI ((nx : Int) - 40))), (0, .ref (ad o k))]) C d_T_step_98 (by decide) rfl ?_
        refine g_aload_n C rfl rfl d_T_step_100 ?_
        refine g_lload C rfl d_T_step_101 ?_
        refine g_lload C rfl d_T_step_103 ?_
        refine g_lload C rfl d_T_step_105 ?_
        refine g_lcmp_ne (tgt := 115) C d_T_step_107 d_T_step_108 (by decide) (fun j107 => ?_) (fun j107 => ?_)
        rotate_left
        · exact absurd ((pk_lEQ hP3 hT3).mp j107) hPT
        refine g_iconst (v := 0) C rfl d_T_step_115 ?_
        refine g_callV C (c_T_exchange P false hk hkc hc hT hPl hC hf hrr hL hS hPb.1 hS2 hPb.2 hdP hin (hle false)) Y_T_exchange m_560 s_T_exchange m_558 rfl rfl ⟨by decide, by decide⟩ ⟨by decide, by decide⟩ (fun h => nomatch h) d_T_step_116 (by first | assumption | omega) (by repeat' first | assumption | exact up_eq _ _ _ | refine up_ne (by omega) ?_) rfl (Nat.le_of_ble_eq_true rfl) (fun ret sg116 hq => ?_)
        obtain ⟨rfl, eT, eC, eF⟩ := hq
        have et1 : sg116 k = _ := eT
        refine g_aload_n C rfl rfl d_T_step_119 ?_
        refine g_lload C rfl d_T_step_120 ?_
        refine g_iload_n C rfl rfl d_T_step_122 ?_
        refine g_callV C (c_T_moveTo P ((nx : Int) - 40) hkr hk hkc hc eT (isP_mv hPl (fun j a b => eF j (by omega) (by omega))) eC (isR_mv hR (fun j a b => eF j (by omega) (by omega))) (by omega) (by omega) hP3 (by omega)) Y_T_moveTo m_564 s_T_moveTo m_562 rfl rfl ⟨by decide, by decide⟩ ⟨by decide, by decide⟩ (fun h => nomatch h) d_T_step_123 (by first | assumption | omega) (by repeat' first | assumption | exact up_eq _ _ _ | refine up_ne (by omega) ?_) rfl (Nat.le_of_ble_eq_true rfl) (fun ret sg123 hq => ?_)
        obtain ⟨rfl, mC, mF⟩ := hq
        refine g_vret C E hr d_T_step_126 ⟨rfl, (mF k (by omega) (by omega)).trans eT, mC, fun j a b => (mF j (by omega) (by omega)).trans (eF j a (by omega))⟩

