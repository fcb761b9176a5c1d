-- A STEP OF THE REFERENCE
theorem fee_l {f : Nat} (hf : f ≤ 100) : (1000 : Int64) - (nI f).toInt64 = lN (1000 - f) := by
  rw [nI_l (by omega), show (1000 : Int64) = lN 1000 from rfl, lN_sub (by omega)]
theorem pr_wiT {dn : Bool} {f L S T r : Nat} (h : ¬ zIn dn L S T ≤ r * (1000 - f) / 1000) : zPr dn true f L S T r = zWi dn true L S (r * (1000 - f) / 1000) := by
  rw [zPr_t]
  unfold zPrIn zWi
  rw [if_neg h, if_pos (show true = true from rfl)]
theorem pr_wiF {dn : Bool} {f L S T r : Nat} (h : ¬ zOut dn L S T ≤ r) : zPr dn false f L S T r = zWi dn false L S r := by
  rw [zPr_f]
  unfold zPrOut zWi
  rw [if_neg h, if_neg (show ¬ false = true by decide)]
theorem pr_tT {dn : Bool} {f L S T r : Nat} (h : zIn dn L S T ≤ r * (1000 - f) / 1000) : zPr dn true f L S T r = T := by
  rw [zPr_t]
  unfold zPrIn
  rw [if_pos h]
theorem pr_tF {dn : Bool} {f L S T r : Nat} (h : zOut dn L S T ≤ r) : zPr dn false f L S T r = T := by
  rw [zPr_f]
  unfold zPrOut
  rw [if_pos h]
theorem us_nl {r f : Nat} (hr : r ≤ 100000000) (hf : f ≤ 100) : (lN r * ((1000 : Int64) - (nI f).toInt64)) / 1000 = lN (r * (1000 - f) / 1000) := by
  rw [fee_l hf, lN_mul, show (1000 : Int64) = lN 1000 from rfl, pk_lDiv (Nat.lt_of_le_of_lt (m_le hr (show 1000 - f ≤ 1000 by omega)) (by decide)) (by decide) (by decide)]
set_option maxHeartbeats 8000000 in
theorem c_M_step {l : Launch} {o n : Nat} {sg : Nat → va_E} {m : Nat} {t0 : Int32} {la : Int64} {th : Nat → Bool} {ow pl : Nat → Nat} {lo hi : Nat → Int} {am : Nat → Nat} {np ng tk gt ri : Nat → Int64} {nt : Nat → Int32} {fee : Nat → Nat} {dn ex : Bool} {p r M S L T P nx f : Nat} {tz : Int} (hn : m + 22 < n) (hM : isM sg o m t0 la) (hR : isMR sg m) (hP : isMP sg m th ow pl lo hi am) (hB : pBd pl lo hi) (hA : ∀ i, i < 12 → am i ≤ 50000000) (hfe : sg (m + 5) = eI 2 (fun i => nI (fee i))) (hnp : sg (m + 17) = eJ 2 np) (hnt : sg (m + 18) = eI 2 nt) (hng : sg (m + 19) = eJ 2 ng) (htk : sg (m + 20) = eJ 2 tk) (hgt : sg (m + 21) = eJ 2 gt) (hri : sg (m + 22) = eJ 12 ri) (hp : p < 2) (hfp : fee p = f) (hf : f ≤ 100) (hSe : np p = lN S) (htz : nt p = iI tz) (hr : r ≤ 100000000) (hTk : TkOk S tz) (hM0 : rt 0 ≤ M) (hM2 : M ≤ rt 80) (hMS : if dn = true then M < S else S < M) (hLe : L = dsum (mIn th pl lo hi p tz) am 12) (hL : L ≤ 600000000) (hnx : nx = zNx dn (mSet th pl lo hi am p) tz) (hTe : T = zTg dn nx M) (hPe : P = zPr dn ex f L S T r) :
    GM l y_M_step b_M_step 36 (some .long) 4 100 0 0 o n n sg false [.ref (ad o m), .int (nI p), .int (bz dn), .int (bz ex), .long (lN r), .long (lN M)] (fun r0 s => some (.long (lN (zRs dn ex (decide (P = T)) f L S P r))) = r0 ∧ s (m + 17) = eJ 2 (vp_updL np p (lN P)) ∧ s (m + 18) = eI 2 (upd nt p (iI (zTk dn P S ((nx : Int) - 40) tz))) ∧ s (m + 19) = eJ 2 (vp_updL ng p (ng p + lN (zFe dn ex (decide (P = T)) f L S P r * 4294967296 / L))) ∧ s (m + 20) = eJ 2 (vp_updL tk p (tk p + lN (zIn dn L S P + zFe dn ex (decide (P = T)) f L S P r))) ∧ s (m + 21) = eJ 2 (vp_updL gt p (gt p + lN (zGot dn ex L S P r))) ∧ s (m + 22) = eJ 12 (riU (mIn th pl lo hi p tz) (lN (zFe dn ex (decide (P = T)) f L S P r * 4294967296 / L)) ri 12) ∧ ∀ j, j < m + 17 ∨ m + 22 < j → s j = sg j) := by
  obtain ⟨n1, n2, n3, n4⟩ := nx_ok (st := mSet th pl lo hi am p) hTk hM0 hM2 hMS
  rw [← hnx] at n3 n4
  have h5 := hTk.1
  have h6 := hTk.2.1
  have hS := hTk.2.2.1
  have hS2 := hTk.2.2.2.1
  have hnx80 : nx ≤ 80 := by rw [hnx]; exact zNx_le h6
  have hz := rt_z
  have ht := rt_top
  have hrx := rt_up hnx80
  have hrx0 : 1254299944 ≤ rt nx := by rw [← hz]; exact rt_le (Nat.zero_le nx) hnx80
  have hMb : 1254299944 ≤ M := by omega
  have hMb2 : M < 14706804615 := by omega
  have hTb : 1254299944 ≤ T ∧ T < 14706804615 := by
    rw [hTe, zTg]
    split
    · exact ⟨Nat.le_trans hMb (Nat.le_max_right _ _), Nat.max_lt.mpr ⟨hrx, hMb2⟩⟩
    · exact ⟨Nat.le_min.mpr ⟨hrx0, hMb⟩, Nat.lt_of_le_of_lt (Nat.min_le_right _ _) hMb2⟩
  have hd : if dn = true then T ≤ S else S ≤ T := by
    rw [hTe, zTg]
    cases dn
    · exact Nat.le_min.mpr ⟨n3, Nat.le_of_lt hMS⟩
    · exact Nat.max_le.mpr ⟨n3, Nat.le_of_lt hMS⟩
  have hrg := zPr_range (ex := ex) (f := f) (L := L) (r := r) (show 0 < S by omega) (show 0 < T by omega) hd
  rw [← hPe] at hrg
  have hPb : 1254299944 ≤ P ∧ P < 14706804615 := by
    cases dn
    · simp only [if_neg (show ¬ false = true by decide)] at hrg; omega
    · simp only [if_true] at hrg; omega
  have hdP : if dn = true then P ≤ S else S ≤ P := by
    cases dn
    · exact hrg.1
    · exact hrg.2
  have hI := zIn_b hL hS hPb.1 hS2 hPb.2 hdP
  have hO := zOut_b hL hS hPb.1 hS2 hPb.2 hdP
  have hinU : ex = true → zIn dn L S P ≤ r * (1000 - f) / 1000 := fun e => by
    rw [hPe, e]; exact zPr_in (by omega) (by omega) hd
  have hin1 : ex = true → zIn dn L S P ≤ r := fun e => Nat.le_trans (hinU e) us_le
  have hle : ex = true → zIn dn L S P + zFe dn ex (decide (P = T)) f L S P r ≤ r := fun e => by
    have h1 := hinU e
    have h2 := hin1 e
    subst e
    cases decide (P = T)
    · rw [zFe_tf]; omega
    · rw [zFe_tt]; exact fee_ok hf h1
  have hFb := zFe_b (dn := dn) (ex := ex) (at_ := decide (P = T)) (L := L) (S := S) (P := P) hf hr hI
  have hzr : zRs dn ex (decide (P = T)) f L S P r = if ex = true then r - (zIn dn L S P + zFe dn ex (decide (P = T)) f L S P r) else r - zGot dn ex L S P r := rfl
  have hrs : if ex = true then zIn dn L S P + zFe dn ex (decide (P = T)) f L S P r ≤ r ∧ zRs dn ex (decide (P = T)) f L S P r = r - (zIn dn L S P + zFe dn ex (decide (P = T)) f L S P r) else zGot dn ex L S P r ≤ r ∧ zRs dn ex (decide (P = T)) f L S P r = r - zGot dn ex L S P r := by
    cases ex
    · exact ⟨by rw [zGot_f]; exact Nat.min_le_left _ _, hzr.trans (if_neg (by decide))⟩
    · exact ⟨hle rfl, hzr.trans (if_pos rfl)⟩
  have hP1 : rt 0 ≤ P := by omega
  have hP2 : P ≤ rt 80 := by omega
  have hcl : (nI p).toNatClampNeg = p := nI_clamp (by omega)
  have hin : vp_in (nI p) 2 := vp_in_nI hp (by decide)
  have hm1 : sg m = _ := hM
  have htx : tx ((nx : Int) - 40) = nx := tx_nx
  have hrx3 : rt nx < 2 ^ 63 := by omega
  have hM3 : M < 2 ^ 63 := by omega
  have hP3 : P < 2 ^ 63 := by omega
  have hT3 : T < 2 ^ 63 := by omega
  have hr3 : r < 2 ^ 63 := by omega
  have hS3 : S < 2 ^ 63 := by omega
  have hO3 : zOut dn L S P < 2 ^ 63 := by omega
  have hU3 : r * (1000 - f) / 1000 ≤ r := us_le
  refine GM_of (by decide) (Nat.le_of_ble_eq_true rfl) ?_
  intro K C hl hz0 hr0 hnm E
  show G K o n sg 0 0 0 [(0, .ref (ad o m)), (1, .int (nI p)), (2, .int (bz dn)), (3, .int (bz ex)), (4, .long (lN r)), (6, .long (lN M))] []
  have hrr := hr
  have hr := hr0
  generalize hF : zFe dn ex (decide (P = T)) f L S P r = F at E hFb hle hrs
  generalize zRs dn ex (decide (P = T)) f L S P r = RS at E hrs
  generalize hOe : zGot dn ex L S P r = O at E hrs
  generalize hIe : zIn dn L S P = I at *
  have endx := m_stepB (dn := dn) (ex := ex) (r := r) (S := S) (L := L) (P := P) (I := I) (O := O) (F := F) C E hr hn hM hR hP hB hnp hnt hng htk hgt hri hp htz h5 h6 hnx80 hP1 hP2 hS3 hL hFb hrs (fun s' a b c d e f g => ⟨rfl, a, b, c, d, e, f, g⟩)
  clear E hrs hzr
  cases ex
  · cases dn
    · have mid3 : G K o n sg 0 0 300 [(0, .ref (ad o m)), (1, .int (nI p)), (2, .int (bz false)), (3, .int (bz false)), (4, .long (lN r)), (8, .int (iI ((nx : Int) - 40))), (9, .long (lN S)), (11, .long (lN (rt nx))), (15, .long (lN L)), (13, .long (lN T)), (21, .long (lN P)), (27, .long (lN I))] [.long (lN O)] := by
        rw [zFe_f, hIe] at hF
        refine g_lstore (lv' := [(29, .long (lN O)), (0, .ref (ad o m)), (1, .int (nI p)), (2, .int (bz false)), (3, .int (bz false)), (4, .long (lN r)), (8, .int (iI ((nx : Int) - 40))), (9, .long (lN S)), (11, .long (lN (rt nx))), (15, .long (lN L)), (13, .long (lN T)), (21, .long (lN P)), (27, .long (lN I))]) C d_M_step_300 (by decide) rfl ?_
        refine g_iload_n C rfl rfl d_M_step_302 ?_
        refine g_if_eq (tgt := 322) C d_M_step_303 (by decide) (fun j303 => ?_) (fun j303 => ?_)
        rotate_left
        · exact absurd rfl j303
        refine g_lload C rfl d_M_step_322 ?_
        refine g_aload_n C rfl rfl d_M_step_324 ?_
        refine gf_M_22 C d_M_step_325 (by first | assumption | omega) (by repeat' first | assumption | exact up_eq _ _ _ | refine up_ne (by omega) ?_) (by rfl) ?_
        refine g_iload_n C rfl rfl d_M_step_328 ?_
        refine g_iald C d_M_step_329 (by first | assumption | omega) (by repeat' first | assumption | exact up_eq _ _ _ | refine up_ne (by omega) ?_) hin ?_
        rw [hcl, hfp]
        refine g_i2l C d_M_step_330 ?_
        rw [nI_l (by omega)]
        refine g_lmul C d_M_step_331 ?_
        rw [lN_mul]
        refine g_ldc2 C m_835 d_M_step_332 ?_
        refine g_aload_n C rfl rfl d_M_step_335 ?_
        refine gf_M_22 C d_M_step_336 (by first | assumption | omega) (by repeat' first | assumption | exact up_eq _ _ _ | refine up_ne (by omega) ?_) (by rfl) ?_
        refine g_iload_n C rfl rfl d_M_step_339 ?_
        refine g_iald C d_M_step_340 (by first | assumption | omega) (by repeat' first | assumption | exact up_eq _ _ _ | refine up_ne (by omega) ?_) hin ?_
        rw [hcl, hfp]
        refine g_i2l C d_M_step_341 ?_
        refine g_lsub C d_M_step_342 ?_
        rw [fee_l hf]
        refine g_iconst (v := 1) C rfl d_M_step_343 ?_
        refine g_callS C (c_M_quotient true (I * f) (1000 - f) (Nat.lt_of_le_of_lt (m_le hI hf) (by decide)) (by omega) (by omega)) Y_M_quotient m_771 m_770 ⟨by decide, by decide⟩ ⟨by decide, by decide⟩ (fun h => nomatch h) d_M_step_344 rfl (Nat.le_of_ble_eq_true rfl) (fun ret sg344 hq => ?_)
        obtain ⟨rfl, rfl⟩ := hq
        rw [show dv true (I * f) (1000 - f) = F from hF]
        refine g_lstore (lv' := [(31, .long (lN F)), (29, .long (lN O)), (0, .ref (ad o m)), (1, .int (nI p)), (2, .int (bz false)), (3, .int (bz false)), (4, .long (lN r)), (8, .int (iI ((nx : Int) - 40))), (9, .long (lN S)), (11, .long (lN (rt nx))), (15, .long (lN L)), (13, .long (lN T)), (21, .long (lN P)), (27, .long (lN I))]) C d_M_step_347 (by decide) rfl ?_
        refine g_pick [10, 2, 3, 4, 5, 6, 7, 8, 9, 12, 13, 1, 0] rfl ?_
        exact endx
      have mid2 : G K o n sg 0 0 195 [(0, .ref (ad o m)), (1, .int (nI p)), (2, .int (bz false)), (3, .int (bz false)), (4, .long (lN r)), (8, .int (iI ((nx : Int) - 40))), (9, .long (lN S)), (11, .long (lN (rt nx))), (15, .long (lN L)), (13, .long (lN T))] [.long (lN P)] := by
        refine g_lstore (lv' := [(21, .long (lN P)), (0, .ref (ad o m)), (1, .int (nI p)), (2, .int (bz false)), (3, .int (bz false)), (4, .long (lN r)), (8, .int (iI ((nx : Int) - 40))), (9, .long (lN S)), (11, .long (lN (rt nx))), (15, .long (lN L)), (13, .long (lN T))]) C d_M_step_195 (by decide) rfl ?_
        refine g_iload_n C rfl rfl d_M_step_197 ?_
        refine g_if_eq (tgt := 206) C d_M_step_198 (by decide) (fun j198 => ?_) (fun j198 => ?_)
        rotate_left
        · exact absurd rfl j198
        refine g_lload C rfl d_M_step_206 ?_
        refine g_lstore (lv' := [(23, .long (lN S)), (21, .long (lN P)), (0, .ref (ad o m)), (1, .int (nI p)), (2, .int (bz false)), (3, .int (bz false)), (4, .long (lN r)), (8, .int (iI ((nx : Int) - 40))), (9, .long (lN S)), (11, .long (lN (rt nx))), (15, .long (lN L)), (13, .long (lN T))]) C d_M_step_208 (by decide) rfl ?_
        refine g_iload_n C rfl rfl d_M_step_210 ?_
        refine g_if_eq (tgt := 219) C d_M_step_211 (by decide) (fun j211 => ?_) (fun j211 => ?_)
        rotate_left
        · exact absurd rfl j211
        refine g_lload C rfl d_M_step_219 ?_
        refine g_lstore (lv' := [(25, .long (lN P)), (23, .long (lN S)), (21, .long (lN P)), (0, .ref (ad o m)), (1, .int (nI p)), (2, .int (bz false)), (3, .int (bz false)), (4, .long (lN r)), (8, .int (iI ((nx : Int) - 40))), (9, .long (lN S)), (11, .long (lN (rt nx))), (15, .long (lN L)), (13, .long (lN T))]) C d_M_step_221 (by decide) rfl ?_
        refine g_iload_n C rfl rfl d_M_step_223 ?_
        refine g_if_eq (tgt := 240) C d_M_step_224 (by decide) (fun j224 => ?_) (fun j224 => ?_)
        rotate_left
        · exact absurd rfl j224
        refine g_lload C rfl d_M_step_240 ?_
        refine g_lload C rfl d_M_step_242 ?_
        refine g_lload C rfl d_M_step_244 ?_
        refine g_iconst (v := 1) C rfl d_M_step_246 ?_
        refine g_callS C (c_M_far true S P L hdP hPb.2 hL) Y_M_far m_778 m_777 ⟨by decide, by decide⟩ ⟨by decide, by decide⟩ (fun h => nomatch h) d_M_step_247 rfl (Nat.le_of_ble_eq_true rfl) (fun ret sg247 hq => ?_)
        obtain ⟨rfl, rfl⟩ := hq
        rw [show zFar true L S P = I from hIe]
        refine g_lstore (lv' := [(27, .long (lN I)), (25, .long (lN P)), (23, .long (lN S)), (21, .long (lN P)), (0, .ref (ad o m)), (1, .int (nI p)), (2, .int (bz false)), (3, .int (bz false)), (4, .long (lN r)), (8, .int (iI ((nx : Int) - 40))), (9, .long (lN S)), (11, .long (lN (rt nx))), (15, .long (lN L)), (13, .long (lN T))]) C d_M_step_250 (by decide) rfl ?_
        refine g_iload_n C rfl rfl d_M_step_252 ?_
        refine g_if_eq (tgt := 269) C d_M_step_253 (by decide) (fun j253 => ?_) (fun j253 => ?_)
        rotate_left
        · exact absurd rfl j253
        refine g_lload C rfl d_M_step_269 ?_
        refine g_lload C rfl d_M_step_271 ?_
        refine g_lload C rfl d_M_step_273 ?_
        refine g_iconst (v := 0) C rfl d_M_step_275 ?_
        refine g_callS C (c_M_near false S P L (by omega) hdP hPb.2 hL) Y_M_near m_764 m_763 ⟨by decide, by decide⟩ ⟨by decide, by decide⟩ (fun h => nomatch h) d_M_step_276 rfl (Nat.le_of_ble_eq_true rfl) (fun ret sg276 hq => ?_)
        obtain ⟨rfl, rfl⟩ := hq
        rw [show zNear false L S P = zOut false L S P from rfl]
        refine g_lstore (lv' := [(29, .long (lN (zOut false L S P))), (27, .long (lN I)), (25, .long (lN P)), (23, .long (lN S)), (21, .long (lN P)), (0, .ref (ad o m)), (1, .int (nI p)), (2, .int (bz false)), (3, .int (bz false)), (4, .long (lN r)), (8, .int (iI ((nx : Int) - 40))), (9, .long (lN S)), (11, .long (lN (rt nx))), (15, .long (lN L)), (13, .long (lN T))]) C d_M_step_279 (by decide) rfl ?_
        refine g_iload_n C rfl rfl d_M_step_281 ?_
        refine g_if_ne (tgt := 298) C d_M_step_282 (by decide) (fun j282 => ?_) (fun j282 => ?_)
        · exact absurd rfl j282
        refine g_lload C rfl d_M_step_285 ?_
        refine g_lload C rfl d_M_step_287 ?_
        refine g_lcmp_le (tgt := 298) C d_M_step_289 d_M_step_290 (by decide) (fun j289 => ?_) (fun j289 => ?_)
        · refine g_lload C rfl d_M_step_298 ?_
          refine g_pick [5, 6, 7, 8, 9, 10, 11, 12, 13, 14, 4, 1] rfl ?_
          first | (have w : ¬ lN (zOut false L S P) ≤ lN r := (by assumption); have v : O = r := (by rw [← hOe, zGot_f, Nat.min_eq_left (Nat.le_of_lt (Nat.not_le.mp (fun q => w ((pk_lLE hO3 hr3).mpr q))))]); rw [v] at mid3; exact mid3) | (have w : lN (zOut false L S P) ≤ lN r := (by assumption); have v : O = zOut false L S P := (by rw [← hOe, zGot_f, Nat.min_eq_right ((pk_lLE hO3 hr3).mp w)]); rw [v] at mid3; exact mid3)
        · refine g_lload C rfl d_M_step_293 ?_
          refine g_goto (tgt := 300) C d_M_step_295 (by decide) ?_
          refine g_pick [5, 6, 7, 8, 9, 10, 11, 12, 13, 14, 4, 1] rfl ?_
          first | (have w : ¬ lN (zOut false L S P) ≤ lN r := (by assumption); have v : O = r := (by rw [← hOe, zGot_f, Nat.min_eq_left (Nat.le_of_lt (Nat.not_le.mp (fun q => w ((pk_lLE hO3 hr3).mpr q))))]); rw [v] at mid3; exact mid3) | (have w : lN (zOut false L S P) ≤ lN r := (by assumption); have v : O = zOut false L S P := (by rw [← hOe, zGot_f, Nat.min_eq_right ((pk_lLE hO3 hr3).mp w)]); rw [v] at mid3; exact mid3)
      have hN3 : zOut false L S T < 2 ^ 63 := Nat.lt_of_le_of_lt (zOut_b hL hS hTb.1 hS2 hTb.2 hd) (by decide : 2100000000 < 2 ^ 63)
      have hU63 : r < 2 ^ 63 := by omega
      have mid : G K o n sg 0 0 61 [(0, .ref (ad o m)), (1, .int (nI p)), (2, .int (bz false)), (3, .int (bz false)), (4, .long (lN r)), (8, .int (iI ((nx : Int) - 40))), (9, .long (lN S)), (11, .long (lN (rt nx))), (6, .long (lN M))] [.long (lN T)] := by
        by_cases hit : zOut false L S T ≤ r
        · have hPT : P = T := hPe.trans (pr_tF hit)
          refine g_lstore (lv' := [(13, .long (lN T)), (0, .ref (ad o m)), (1, .int (nI p)), (2, .int (bz false)), (3, .int (bz false)), (4, .long (lN r)), (8, .int (iI ((nx : Int) - 40))), (9, .long (lN S)), (11, .long (lN (rt nx))), (6, .long (lN M))]) C d_M_step_61 (by decide) rfl ?_
          refine g_aload_n C rfl rfl d_M_step_63 ?_
          refine g_iload_n C rfl rfl d_M_step_64 ?_
          refine g_aload_n C rfl rfl d_M_step_65 ?_
          refine gf_M_63 C d_M_step_66 (by first | assumption | omega) (by repeat' first | assumption | exact up_eq _ _ _ | refine up_ne (by omega) ?_) (by rfl) ?_
          refine g_iload_n C rfl rfl d_M_step_69 ?_
          refine g_iald C d_M_step_70 (by first | assumption | omega) (by repeat' first | assumption | exact up_eq _ _ _ | refine up_ne (by omega) ?_) hin ?_
          rw [hcl, htz]
          refine g_callV C (c_M_depth p tz hn hM hP hB hp h5 h6) Y_M_depth m_829 s_M_depth m_827 rfl rfl ⟨by decide, by decide⟩ ⟨by decide, by decide⟩ (fun h => nomatch h) d_M_step_71 (by first | assumption | omega) (by repeat' first | assumption | exact up_eq _ _ _ | refine up_ne (by omega) ?_) rfl (Nat.le_of_ble_eq_true rfl) (fun ret sg71 hq => ?_)
          obtain ⟨rfl, rfl⟩ := hq
          rw [← hLe]
          refine g_lstore (lv' := [(15, .long (lN L)), (13, .long (lN T)), (0, .ref (ad o m)), (1, .int (nI p)), (2, .int (bz false)), (3, .int (bz false)), (4, .long (lN r)), (8, .int (iI ((nx : Int) - 40))), (9, .long (lN S)), (11, .long (lN (rt nx))), (6, .long (lN M))]) C d_M_step_74 (by decide) rfl ?_
          refine g_iload_n C rfl rfl d_M_step_76 ?_
          refine g_if_eq (tgt := 101) C d_M_step_77 (by decide) (fun j77 => ?_) (fun j77 => ?_)
          rotate_left
          · exact absurd rfl j77
          refine g_lload C rfl d_M_step_101 ?_
          refine g_lstore (lv' := [(17, .long (lN r)), (15, .long (lN L)), (13, .long (lN T)), (0, .ref (ad o m)), (1, .int (nI p)), (2, .int (bz false)), (3, .int (bz false)), (4, .long (lN r)), (8, .int (iI ((nx : Int) - 40))), (9, .long (lN S)), (11, .long (lN (rt nx))), (6, .long (lN M))]) C d_M_step_103 (by decide) rfl ?_
          refine g_iload_n C rfl rfl d_M_step_105 ?_
          refine g_iload_n C rfl rfl d_M_step_106 ?_
          refine g_icmp_ne (tgt := 141) C d_M_step_107 (by decide) (fun j107 => ?_) (fun j107 => ?_)
          · exact absurd rfl j107
          refine g_iload_n C rfl rfl d_M_step_110 ?_
          refine g_if_eq (tgt := 119) C d_M_step_111 (by decide) (fun j111 => ?_) (fun j111 => ?_)
          rotate_left
          · exact absurd rfl j111
          refine g_lload C rfl d_M_step_119 ?_
          refine g_iload_n C rfl rfl d_M_step_121 ?_
          refine g_if_eq (tgt := 130) C d_M_step_122 (by decide) (fun j122 => ?_) (fun j122 => ?_)
          rotate_left
          · exact absurd rfl j122
          refine g_lload C rfl d_M_step_130 ?_
          refine g_lload C rfl d_M_step_132 ?_
          refine g_iload_n C rfl rfl d_M_step_134 ?_
          refine g_callS C (c_M_near false S T L (by omega) hd hTb.2 hL) Y_M_near m_764 m_763 ⟨by decide, by decide⟩ ⟨by decide, by decide⟩ (fun h => nomatch h) d_M_step_135 rfl (Nat.le_of_ble_eq_true rfl) (fun ret sg135 hq => ?_)
          obtain ⟨rfl, rfl⟩ := hq
          rw [show zNear false L S T = zOut false L S T from rfl]
          refine g_goto (tgt := 169) C d_M_step_138 (by decide) ?_
          refine g_lstore (lv' := [(19, .long (lN (zOut false L S T))), (17, .long (lN r)), (15, .long (lN L)), (13, .long (lN T)), (0, .ref (ad o m)), (1, .int (nI p)), (2, .int (bz false)), (3, .int (bz false)), (4, .long (lN r)), (8, .int (iI ((nx : Int) - 40))), (9, .long (lN S)), (11, .long (lN (rt nx))), (6, .long (lN M))]) C d_M_step_169 (by decide) rfl ?_
          refine g_lload C rfl d_M_step_171 ?_
          refine g_lload C rfl d_M_step_173 ?_
          refine g_lcmp_lt (tgt := 184) C d_M_step_175 d_M_step_176 (by decide) (fun j175 => ?_) (fun j175 => ?_)
          · exact absurd ((pk_lLT hU63 hN3).mp j175) (Nat.not_lt.mpr hit)
          refine g_lload C rfl d_M_step_179 ?_
          refine g_goto (tgt := 195) C d_M_step_181 (by decide) ?_
          refine g_pick [4, 5, 6, 7, 8, 9, 10, 11, 2, 3] rfl ?_
          rw [hPT] at mid2
          exact mid2
        · have hPW : zWi false false L S r = P := (hPe.trans (pr_wiF hit)).symm
          have hL0 : 0 < L := L_pos_out (dn := false) (S := S) (T := T) (Nat.not_le.mp hit)
          refine g_lstore (lv' := [(13, .long (lN T)), (0, .ref (ad o m)), (1, .int (nI p)), (2, .int (bz false)), (3, .int (bz false)), (4, .long (lN r)), (8, .int (iI ((nx : Int) - 40))), (9, .long (lN S)), (11, .long (lN (rt nx))), (6, .long (lN M))]) C d_M_step_61 (by decide) rfl ?_
          refine g_aload_n C rfl rfl d_M_step_63 ?_
          refine g_iload_n C rfl rfl d_M_step_64 ?_
          refine g_aload_n C rfl rfl d_M_step_65 ?_
          refine gf_M_63 C d_M_step_66 (by first | assumption | omega) (by repeat' first | assumption | exact up_eq _ _ _ | refine up_ne (by omega) ?_) (by rfl) ?_
          refine g_iload_n C rfl rfl d_M_step_69 ?_
          refine g_iald C d_M_step_70 (by first | assumption | omega) (by repeat' first | assumption | exact up_eq _ _ _ | refine up_ne (by omega) ?_) hin ?_
          rw [hcl, htz]
          refine g_callV C (c_M_depth p tz hn hM hP hB hp h5 h6) Y_M_depth m_829 s_M_depth m_827 rfl rfl ⟨by decide, by decide⟩ ⟨by decide, by decide⟩ (fun h => nomatch h) d_M_step_71 (by first | assumption | omega) (by repeat' first | assumption | exact up_eq _ _ _ | refine up_ne (by omega) ?_) rfl (Nat.le_of_ble_eq_true rfl) (fun ret sg71 hq => ?_)
          obtain ⟨rfl, rfl⟩ := hq
          rw [← hLe]
          refine g_lstore (lv' := [(15, .long (lN L)), (13, .long (lN T)), (0, .ref (ad o m)), (1, .int (nI p)), (2, .int (bz false)), (3, .int (bz false)), (4, .long (lN r)), (8, .int (iI ((nx : Int) - 40))), (9, .long (lN S)), (11, .long (lN (rt nx))), (6, .long (lN M))]) C d_M_step_74 (by decide) rfl ?_
          refine g_iload_n C rfl rfl d_M_step_76 ?_
          refine g_if_eq (tgt := 101) C d_M_step_77 (by decide) (fun j77 => ?_) (fun j77 => ?_)
          rotate_left
          · exact absurd rfl j77
          refine g_lload C rfl d_M_step_101 ?_
          refine g_lstore (lv' := [(17, .long (lN r)), (15, .long (lN L)), (13, .long (lN T)), (0, .ref (ad o m)), (1, .int (nI p)), (2, .int (bz false)), (3, .int (bz false)), (4, .long (lN r)), (8, .int (iI ((nx : Int) - 40))), (9, .long (lN S)), (11, .long (lN (rt nx))), (6, .long (lN M))]) C d_M_step_103 (by decide) rfl ?_
          refine g_iload_n C rfl rfl d_M_step_105 ?_
          refine g_iload_n C rfl rfl d_M_step_106 ?_
          refine g_icmp_ne (tgt := 141) C d_M_step_107 (by decide) (fun j107 => ?_) (fun j107 => ?_)
          · exact absurd rfl j107
          refine g_iload_n C rfl rfl d_M_step_110 ?_
          refine g_if_eq (tgt := 119) C d_M_step_111 (by decide) (fun j111 => ?_) (fun j111 => ?_)
          rotate_left
          · exact absurd rfl j111
          refine g_lload C rfl d_M_step_119 ?_
          refine g_iload_n C rfl rfl d_M_step_121 ?_
          refine g_if_eq (tgt := 130) C d_M_step_122 (by decide) (fun j122 => ?_) (fun j122 => ?_)
          rotate_left
          · exact absurd rfl j122
          refine g_lload C rfl d_M_step_130 ?_
          refine g_lload C rfl d_M_step_132 ?_
          refine g_iload_n C rfl rfl d_M_step_134 ?_
          refine g_callS C (c_M_near false S T L (by omega) hd hTb.2 hL) Y_M_near m_764 m_763 ⟨by decide, by decide⟩ ⟨by decide, by decide⟩ (fun h => nomatch h) d_M_step_135 rfl (Nat.le_of_ble_eq_true rfl) (fun ret sg135 hq => ?_)
          obtain ⟨rfl, rfl⟩ := hq
          rw [show zNear false L S T = zOut false L S T from rfl]
          refine g_goto (tgt := 169) C d_M_step_138 (by decide) ?_
          refine g_lstore (lv' := [(19, .long (lN (zOut false L S T))), (17, .long (lN r)), (15, .long (lN L)), (13, .long (lN T)), (0, .ref (ad o m)), (1, .int (nI p)), (2, .int (bz false)), (3, .int (bz false)), (4, .long (lN r)), (8, .int (iI ((nx : Int) - 40))), (9, .long (lN S)), (11, .long (lN (rt nx))), (6, .long (lN M))]) C d_M_step_169 (by decide) rfl ?_
          refine g_lload C rfl d_M_step_171 ?_
          refine g_lload C rfl d_M_step_173 ?_
          refine g_lcmp_lt (tgt := 184) C d_M_step_175 d_M_step_176 (by decide) (fun j175 => ?_) (fun j175 => ?_)
          rotate_left
          · exact absurd ((pk_lLT hU63 hN3).mpr (Nat.not_le.mp hit)) j175
          refine g_iload_n C rfl rfl d_M_step_184 ?_
          refine g_iload_n C rfl rfl d_M_step_185 ?_
          refine g_lload C rfl d_M_step_186 ?_
          refine g_lload C rfl d_M_step_188 ?_
          refine g_lload C rfl d_M_step_190 ?_
          refine g_callS C (c_M_within false false S L r hL0 hL (by omega) hS2 (by omega) (fun _ q => absurd q (by decide)) (fun _ _ => by have hx := (up_out (by omega) hd (Nat.not_le.mp hit)).1; omega)) Y_M_within m_837 m_836 ⟨by decide, by decide⟩ ⟨by decide, by decide⟩ (fun h => nomatch h) d_M_step_192 rfl (Nat.le_of_ble_eq_true rfl) (fun ret sg192 hq => ?_)
          obtain ⟨rfl, rfl⟩ := hq
          rw [hPW]
          refine g_pick [4, 5, 6, 7, 8, 9, 10, 11, 2, 3] rfl ?_
          exact mid2
      refine g_aload_n C rfl rfl d_M_step_0 ?_
      refine g_iload_n C rfl rfl d_M_step_1 ?_
      refine g_iload_n C rfl rfl d_M_step_2 ?_
      refine g_callV C (c_M_nextTick p tz false hn hM hP hB hA hp hnt htz n1 h5 h6 n2) Y_M_nextTick m_821 s_M_nextTick m_819 rfl rfl ⟨by decide, by decide⟩ ⟨by decide, by decide⟩ (fun h => nomatch h) d_M_step_3 (by first | assumption | omega) (by repeat' first | assumption | exact up_eq _ _ _ | refine up_ne (by omega) ?_) rfl (Nat.le_of_ble_eq_true rfl) (fun ret sg3 hq => ?_)
      obtain ⟨rfl, rfl⟩ := hq
      rw [← hnx]
      refine g_istore (lv' := [(8, .int (iI ((nx : Int) - 40))), (0, .ref (ad o m)), (1, .int (nI p)), (2, .int (bz false)), (3, .int (bz false)), (4, .long (lN r)), (6, .long (lN M))]) C d_M_step_6 (by decide) rfl ?_
      refine g_aload_n C rfl rfl d_M_step_8 ?_
      refine gf_M_60 C d_M_step_9 (by first | assumption | omega) (by repeat' first | assumption | exact up_eq _ _ _ | refine up_ne (by omega) ?_) (by rfl) ?_
      refine g_iload_n C rfl rfl d_M_step_12 ?_
      refine g_lald C d_M_step_13 (by first | assumption | omega) (by repeat' first | assumption | exact up_eq _ _ _ | refine up_ne (by omega) ?_) hin ?_
      rw [hcl, hSe]
      refine g_lstore (lv' := [(9, .long (lN S)), (8, .int (iI ((nx : Int) - 40))), (0, .ref (ad o m)), (1, .int (nI p)), (2, .int (bz false)), (3, .int (bz false)), (4, .long (lN r)), (6, .long (lN M))]) C d_M_step_14 (by decide) rfl ?_
      refine g_aload_n C rfl rfl d_M_step_16 ?_
      refine g_iload C rfl d_M_step_17 ?_
      refine g_callV C (c_M_rootOf ((nx : Int) - 40) hn hM hR (by omega) (by omega)) Y_M_rootOf m_761 s_M_rootOf m_759 rfl rfl ⟨by decide, by decide⟩ ⟨by decide, by decide⟩ (fun h => nomatch h) d_M_step_19 (by first | assumption | omega) (by repeat' first | assumption | exact up_eq _ _ _ | refine up_ne (by omega) ?_) rfl (Nat.le_of_ble_eq_true rfl) (fun ret sg19 hq => ?_)
      obtain ⟨rfl, rfl⟩ := hq
      rw [htx]
      refine g_lstore (lv' := [(11, .long (lN (rt nx))), (9, .long (lN S)), (8, .int (iI ((nx : Int) - 40))), (0, .ref (ad o m)), (1, .int (nI p)), (2, .int (bz false)), (3, .int (bz false)), (4, .long (lN r)), (6, .long (lN M))]) C d_M_step_22 (by decide) rfl ?_
      refine g_iload_n C rfl rfl d_M_step_24 ?_
      refine g_if_eq (tgt := 46) C d_M_step_25 (by decide) (fun j25 => ?_) (fun j25 => ?_)
      rotate_left
      · exact absurd rfl j25
      refine g_lload C rfl d_M_step_46 ?_
      refine g_lload C rfl d_M_step_48 ?_
      refine g_lcmp_ge (tgt := 59) C d_M_step_50 d_M_step_51 (by decide) (fun j50 => ?_) (fun j50 => ?_)
      · refine g_lload C rfl d_M_step_59 ?_
        refine g_pick [3, 4, 5, 6, 7, 2, 1, 0, 8] rfl ?_
        first | (have w : ¬ lN M ≤ lN (rt nx) := (by assumption); have v : T = rt nx := (by rw [hTe, zTg_f, Nat.min_eq_left (Nat.le_of_lt (Nat.not_le.mp (fun q => w ((pk_lLE hM3 hrx3).mpr q))))]); rw [v] at mid; exact mid) | (have w : lN M ≤ lN (rt nx) := (by assumption); have v : T = M := (by rw [hTe, zTg_f, Nat.min_eq_right ((pk_lLE hM3 hrx3).mp w)]); rw [v] at mid; exact mid)
      · refine g_lload C rfl d_M_step_54 ?_
        refine g_goto (tgt := 61) C d_M_step_56 (by decide) ?_
        refine g_pick [3, 4, 5, 6, 7, 2, 1, 0, 8] rfl ?_
        first | (have w : ¬ lN M ≤ lN (rt nx) := (by assumption); have v : T = rt nx := (by rw [hTe, zTg_f, Nat.min_eq_left (Nat.le_of_lt (Nat.not_le.mp (fun q => w ((pk_lLE hM3 hrx3).mpr q))))]); rw [v] at mid; exact mid) | (have w : lN M ≤ lN (rt nx) := (by assumption); have v : T = M := (by rw [hTe, zTg_f, Nat.min_eq_right ((pk_lLE hM3 hrx3).mp w)]); rw [v] at mid; exact mid)
    · have mid3 : G K o n sg 0 0 300 [(0, .ref (ad o m)), (1, .int (nI p)), (2, .int (bz true)), (3, .int (bz false)), (4, .long (lN r)), (8, .int (iI ((nx : Int) - 40))), (9, .long (lN S)), (11, .long (lN (rt nx))), (15, .long (lN L)), (13, .long (lN T)), (21, .long (lN P)), (27, .long (lN I))] [.long (lN O)] := by
        rw [zFe_f, hIe] at hF
        refine g_lstore (lv' := [(29, .long (lN O)), (0, .ref (ad o m)), (1, .int (nI p)), (2, .int (bz true)), (3, .int (bz false)), (4, .long (lN r)), (8, .int (iI ((nx : Int) - 40))), (9, .long (lN S)), (11, .long (lN (rt nx))), (15, .long (lN L)), (13, .long (lN T)), (21, .long (lN P)), (27, .long (lN I))]) C d_M_step_300 (by decide) rfl ?_
        refine g_iload_n C rfl rfl d_M_step_302 ?_
        refine g_if_eq (tgt := 322) C d_M_step_303 (by decide) (fun j303 => ?_) (fun j303 => ?_)
        rotate_left
        · exact absurd rfl j303
        refine g_lload C rfl d_M_step_322 ?_
        refine g_aload_n C rfl rfl d_M_step_324 ?_
        refine gf_M_22 C d_M_step_325 (by first | assumption | omega) (by repeat' first | assumption | exact up_eq _ _ _ | refine up_ne (by omega) ?_) (by rfl) ?_
        refine g_iload_n C rfl rfl d_M_step_328 ?_
        refine g_iald C d_M_step_329 (by first | assumption | omega) (by repeat' first | assumption | exact up_eq _ _ _ | refine up_ne (by omega) ?_) hin ?_
        rw [hcl, hfp]
        refine g_i2l C d_M_step_330 ?_
        rw [nI_l (by omega)]
        refine g_lmul C d_M_step_331 ?_
        rw [lN_mul]
        refine g_ldc2 C m_835 d_M_step_332 ?_
        refine g_aload_n C rfl rfl d_M_step_335 ?_
        refine gf_M_22 C d_M_step_336 (by first | assumption | omega) (by repeat' first | assumption | exact up_eq _ _ _ | refine up_ne (by omega) ?_) (by rfl) ?_
        refine g_iload_n C rfl rfl d_M_step_339 ?_
        refine g_iald C d_M_step_340 (by first | assumption | omega) (by repeat' first | assumption | exact up_eq _ _ _ | refine up_ne (by omega) ?_) hin ?_
        rw [hcl, hfp]
        refine g_i2l C d_M_step_341 ?_
        refine g_lsub C d_M_step_342 ?_
        rw [fee_l hf]
        refine g_iconst (v := 1) C rfl d_M_step_343 ?_
        refine g_callS C (c_M_quotient true (I * f) (1000 - f) (Nat.lt_of_le_of_lt (m_le hI hf) (by decide)) (by omega) (by omega)) Y_M_quotient m_771 m_770 ⟨by decide, by decide⟩ ⟨by decide, by decide⟩ (fun h => nomatch h) d_M_step_344 rfl (Nat.le_of_ble_eq_true rfl) (fun ret sg344 hq => ?_)
        obtain ⟨rfl, rfl⟩ := hq
        rw [show dv true (I * f) (1000 - f) = F from hF]
        refine g_lstore (lv' := [(31, .long (lN F)), (29, .long (lN O)), (0, .ref (ad o m)), (1, .int (nI p)), (2, .int (bz true)), (3, .int (bz false)), (4, .long (lN r)), (8, .int (iI ((nx : Int) - 40))), (9, .long (lN S)), (11, .long (lN (rt nx))), (15, .long (lN L)), (13, .long (lN T)), (21, .long (lN P)), (27, .long (lN I))]) C d_M_step_347 (by decide) rfl ?_
        refine g_pick [10, 2, 3, 4, 5, 6, 7, 8, 9, 12, 13, 1, 0] rfl ?_
        exact endx
      have mid2 : G K o n sg 0 0 195 [(0, .ref (ad o m)), (1, .int (nI p)), (2, .int (bz true)), (3, .int (bz false)), (4, .long (lN r)), (8, .int (iI ((nx : Int) - 40))), (9, .long (lN S)), (11, .long (lN (rt nx))), (15, .long (lN L)), (13, .long (lN T))] [.long (lN P)] := by
        refine g_lstore (lv' := [(21, .long (lN P)), (0, .ref (ad o m)), (1, .int (nI p)), (2, .int (bz true)), (3, .int (bz false)), (4, .long (lN r)), (8, .int (iI ((nx : Int) - 40))), (9, .long (lN S)), (11, .long (lN (rt nx))), (15, .long (lN L)), (13, .long (lN T))]) C d_M_step_195 (by decide) rfl ?_
        refine g_iload_n C rfl rfl d_M_step_197 ?_
        refine g_if_eq (tgt := 206) C d_M_step_198 (by decide) (fun j198 => ?_) (fun j198 => ?_)
        · exact absurd j198 (by decide)
        refine g_lload C rfl d_M_step_201 ?_
        refine g_goto (tgt := 208) C d_M_step_203 (by decide) ?_
        refine g_lstore (lv' := [(23, .long (lN P)), (21, .long (lN P)), (0, .ref (ad o m)), (1, .int (nI p)), (2, .int (bz true)), (3, .int (bz false)), (4, .long (lN r)), (8, .int (iI ((nx : Int) - 40))), (9, .long (lN S)), (11, .long (lN (rt nx))), (15, .long (lN L)), (13, .long (lN T))]) C d_M_step_208 (by decide) rfl ?_
        refine g_iload_n C rfl rfl d_M_step_210 ?_
        refine g_if_eq (tgt := 219) C d_M_step_211 (by decide) (fun j211 => ?_) (fun j211 => ?_)
        · exact absurd j211 (by decide)
        refine g_lload C rfl d_M_step_214 ?_
        refine g_goto (tgt := 221) C d_M_step_216 (by decide) ?_
        refine g_lstore (lv' := [(25, .long (lN S)), (23, .long (lN P)), (21, .long (lN P)), (0, .ref (ad o m)), (1, .int (nI p)), (2, .int (bz true)), (3, .int (bz false)), (4, .long (lN r)), (8, .int (iI ((nx : Int) - 40))), (9, .long (lN S)), (11, .long (lN (rt nx))), (15, .long (lN L)), (13, .long (lN T))]) C d_M_step_221 (by decide) rfl ?_
        refine g_iload_n C rfl rfl d_M_step_223 ?_
        refine g_if_eq (tgt := 240) C d_M_step_224 (by decide) (fun j224 => ?_) (fun j224 => ?_)
        · exact absurd j224 (by decide)
        refine g_lload C rfl d_M_step_227 ?_
        refine g_lload C rfl d_M_step_229 ?_
        refine g_lload C rfl d_M_step_231 ?_
        refine g_iconst (v := 1) C rfl d_M_step_233 ?_
        refine g_callS C (c_M_near true P S L (by omega) hdP hS2 hL) Y_M_near m_764 m_763 ⟨by decide, by decide⟩ ⟨by decide, by decide⟩ (fun h => nomatch h) d_M_step_234 rfl (Nat.le_of_ble_eq_true rfl) (fun ret sg234 hq => ?_)
        obtain ⟨rfl, rfl⟩ := hq
        rw [show zNear true L P S = I from hIe]
        refine g_goto (tgt := 250) C d_M_step_237 (by decide) ?_
        refine g_lstore (lv' := [(27, .long (lN I)), (25, .long (lN S)), (23, .long (lN P)), (21, .long (lN P)), (0, .ref (ad o m)), (1, .int (nI p)), (2, .int (bz true)), (3, .int (bz false)), (4, .long (lN r)), (8, .int (iI ((nx : Int) - 40))), (9, .long (lN S)), (11, .long (lN (rt nx))), (15, .long (lN L)), (13, .long (lN T))]) C d_M_step_250 (by decide) rfl ?_
        refine g_iload_n C rfl rfl d_M_step_252 ?_
        refine g_if_eq (tgt := 269) C d_M_step_253 (by decide) (fun j253 => ?_) (fun j253 => ?_)
        · exact absurd j253 (by decide)
        refine g_lload C rfl d_M_step_256 ?_
        refine g_lload C rfl d_M_step_258 ?_
        refine g_lload C rfl d_M_step_260 ?_
        refine g_iconst (v := 0) C rfl d_M_step_262 ?_
        refine g_callS C (c_M_far false P S L hdP hS2 hL) Y_M_far m_778 m_777 ⟨by decide, by decide⟩ ⟨by decide, by decide⟩ (fun h => nomatch h) d_M_step_263 rfl (Nat.le_of_ble_eq_true rfl) (fun ret sg263 hq => ?_)
        obtain ⟨rfl, rfl⟩ := hq
        rw [show zFar false L P S = zOut true L S P from rfl]
        refine g_goto (tgt := 279) C d_M_step_266 (by decide) ?_
        refine g_lstore (lv' := [(29, .long (lN (zOut true L S P))), (27, .long (lN I)), (25, .long (lN S)), (23, .long (lN P)), (21, .long (lN P)), (0, .ref (ad o m)), (1, .int (nI p)), (2, .int (bz true)), (3, .int (bz false)), (4, .long (lN r)), (8, .int (iI ((nx : Int) - 40))), (9, .long (lN S)), (11, .long (lN (rt nx))), (15, .long (lN L)), (13, .long (lN T))]) C d_M_step_279 (by decide) rfl ?_
        refine g_iload_n C rfl rfl d_M_step_281 ?_
        refine g_if_ne (tgt := 298) C d_M_step_282 (by decide) (fun j282 => ?_) (fun j282 => ?_)
        · exact absurd rfl j282
        refine g_lload C rfl d_M_step_285 ?_
        refine g_lload C rfl d_M_step_287 ?_
        refine g_lcmp_le (tgt := 298) C d_M_step_289 d_M_step_290 (by decide) (fun j289 => ?_) (fun j289 => ?_)
        · refine g_lload C rfl d_M_step_298 ?_
          refine g_pick [5, 6, 7, 8, 9, 10, 11, 12, 13, 14, 4, 1] rfl ?_
          first | (have w : ¬ lN (zOut true L S P) ≤ lN r := (by assumption); have v : O = r := (by rw [← hOe, zGot_f, Nat.min_eq_left (Nat.le_of_lt (Nat.not_le.mp (fun q => w ((pk_lLE hO3 hr3).mpr q))))]); rw [v] at mid3; exact mid3) | (have w : lN (zOut true L S P) ≤ lN r := (by assumption); have v : O = zOut true L S P := (by rw [← hOe, zGot_f, Nat.min_eq_right ((pk_lLE hO3 hr3).mp w)]); rw [v] at mid3; exact mid3)
        · refine g_lload C rfl d_M_step_293 ?_
          refine g_goto (tgt := 300) C d_M_step_295 (by decide) ?_
          refine g_pick [5, 6, 7, 8, 9, 10, 11, 12, 13, 14, 4, 1] rfl ?_
          first | (have w : ¬ lN (zOut true L S P) ≤ lN r := (by assumption); have v : O = r := (by rw [← hOe, zGot_f, Nat.min_eq_left (Nat.le_of_lt (Nat.not_le.mp (fun q => w ((pk_lLE hO3 hr3).mpr q))))]); rw [v] at mid3; exact mid3) | (have w : lN (zOut true L S P) ≤ lN r := (by assumption); have v : O = zOut true L S P := (by rw [← hOe, zGot_f, Nat.min_eq_right ((pk_lLE hO3 hr3).mp w)]); rw [v] at mid3; exact mid3)
      have hN3 : zOut true L S T < 2 ^ 63 := Nat.lt_of_le_of_lt (zOut_b hL hS hTb.1 hS2 hTb.2 hd) (by decide : 2100000000 < 2 ^ 63)
      have hU63 : r < 2 ^ 63 := by omega
      have mid : G K o n sg 0 0 61 [(0, .ref (ad o m)), (1, .int (nI p)), (2, .int (bz true)), (3, .int (bz false)), (4, .long (lN r)), (8, .int (iI ((nx : Int) - 40))), (9, .long (lN S)), (11, .long (lN (rt nx))), (6, .long (lN M))] [.long (lN T)] := by
        by_cases hit : zOut true L S T ≤ r
        · have hPT : P = T := hPe.trans (pr_tF hit)
          refine g_lstore (lv' := [(13, .long (lN T)), (0, .ref (ad o m)), (1, .int (nI p)), (2, .int (bz true)), (3, .int (bz false)), (4, .long (lN r)), (8, .int (iI ((nx : Int) - 40))), (9, .long (lN S)), (11, .long (lN (rt nx))), (6, .long (lN M))]) C d_M_step_61 (by decide) rfl ?_
          refine g_aload_n C rfl rfl d_M_step_63 ?_
          refine g_iload_n C rfl rfl d_M_step_64 ?_
          refine g_aload_n C rfl rfl d_M_step_65 ?_
          refine gf_M_63 C d_M_step_66 (by first | assumption | omega) (by repeat' first | assumption | exact up_eq _ _ _ | refine up_ne (by omega) ?_) (by rfl) ?_
          refine g_iload_n C rfl rfl d_M_step_69 ?_
          refine g_iald C d_M_step_70 (by first | assumption | omega) (by repeat' first | assumption | exact up_eq _ _ _ | refine up_ne (by omega) ?_) hin ?_
          rw [hcl, htz]
          refine g_callV C (c_M_depth p tz hn hM hP hB hp h5 h6) Y_M_depth m_829 s_M_depth m_827 rfl rfl ⟨by decide, by decide⟩ ⟨by decide, by decide⟩ (fun h => nomatch h) d_M_step_71 (by first | assumption | omega) (by repeat' first | assumption | exact up_eq _ _ _ | refine up_ne (by omega) ?_) rfl (Nat.le_of_ble_eq_true rfl) (fun ret sg71 hq => ?_)
          obtain ⟨rfl, rfl⟩ := hq
          rw [← hLe]
          refine g_lstore (lv' := [(15, .long (lN L)), (13, .long (lN T)), (0, .ref (ad o m)), (1, .int (nI p)), (2, .int (bz true)), (3, .int (bz false)), (4, .long (lN r)), (8, .int (iI ((nx : Int) - 40))), (9, .long (lN S)), (11, .long (lN (rt nx))), (6, .long (lN M))]) C d_M_step_74 (by decide) rfl ?_
          refine g_iload_n C rfl rfl d_M_step_76 ?_
          refine g_if_eq (tgt := 101) C d_M_step_77 (by decide) (fun j77 => ?_) (fun j77 => ?_)
          rotate_left
          · exact absurd rfl j77
          refine g_lload C rfl d_M_step_101 ?_
          refine g_lstore (lv' := [(17, .long (lN r)), (15, .long (lN L)), (13, .long (lN T)), (0, .ref (ad o m)), (1, .int (nI p)), (2, .int (bz true)), (3, .int (bz false)), (4, .long (lN r)), (8, .int (iI ((nx : Int) - 40))), (9, .long (lN S)), (11, .long (lN (rt nx))), (6, .long (lN M))]) C d_M_step_103 (by decide) rfl ?_
          refine g_iload_n C rfl rfl d_M_step_105 ?_
          refine g_iload_n C rfl rfl d_M_step_106 ?_
          refine g_icmp_ne (tgt := 141) C d_M_step_107 (by decide) (fun j107 => ?_) (fun j107 => ?_)
          rotate_left
          · exact absurd j107 (by decide)
          refine g_iload_n C rfl rfl d_M_step_141 ?_
          refine g_if_eq (tgt := 150) C d_M_step_142 (by decide) (fun j142 => ?_) (fun j142 => ?_)
          · exact absurd j142 (by decide)
          refine g_lload C rfl d_M_step_145 ?_
          refine g_goto (tgt := 152) C d_M_step_147 (by decide) ?_
          refine g_iload_n C rfl rfl d_M_step_152 ?_
          refine g_if_eq (tgt := 161) C d_M_step_153 (by decide) (fun j153 => ?_) (fun j153 => ?_)
          · exact absurd j153 (by decide)
          refine g_lload C rfl d_M_step_156 ?_
          refine g_goto (tgt := 163) C d_M_step_158 (by decide) ?_
          refine g_lload C rfl d_M_step_163 ?_
          refine g_iload_n C rfl rfl d_M_step_165 ?_
          refine g_callS C (c_M_far false T S L hd hS2 hL) Y_M_far m_778 m_777 ⟨by decide, by decide⟩ ⟨by decide, by decide⟩ (fun h => nomatch h) d_M_step_166 rfl (Nat.le_of_ble_eq_true rfl) (fun ret sg166 hq => ?_)
          obtain ⟨rfl, rfl⟩ := hq
          rw [show zFar false L T S = zOut true L S T from rfl]
          refine g_lstore (lv' := [(19, .long (lN (zOut true L S T))), (17, .long (lN r)), (15, .long (lN L)), (13, .long (lN T)), (0, .ref (ad o m)), (1, .int (nI p)), (2, .int (bz true)), (3, .int (bz false)), (4, .long (lN r)), (8, .int (iI ((nx : Int) - 40))), (9, .long (lN S)), (11, .long (lN (rt nx))), (6, .long (lN M))]) C d_M_step_169 (by decide) rfl ?_
          refine g_lload C rfl d_M_step_171 ?_
          refine g_lload C rfl d_M_step_173 ?_
          refine g_lcmp_lt (tgt := 184) C d_M_step_175 d_M_step_176 (by decide) (fun j175 => ?_) (fun j175 => ?_)
          · exact absurd ((pk_lLT hU63 hN3).mp j175) (Nat.not_lt.mpr hit)
          refine g_lload C rfl d_M_step_179 ?_
          refine g_goto (tgt := 195) C d_M_step_181 (by decide) ?_
          refine g_pick [4, 5, 6, 7, 8, 9, 10, 11, 2, 3] rfl ?_
          rw [hPT] at mid2
          exact mid2
        · have hPW : zWi true false L S r = P := (hPe.trans (pr_wiF hit)).symm
          have hL0 : 0 < L := L_pos_out (dn := true) (S := S) (T := T) (Nat.not_le.mp hit)
          refine g_lstore (lv' := [(13, .long (lN T)), (0, .ref (ad o m)), (1, .int (nI p)), (2, .int (bz true)), (3, .int (bz false)), (4, .long (lN r)), (8, .int (iI ((nx : Int) - 40))), (9, .long (lN S)), (11, .long (lN (rt nx))), (6, .long (lN M))]) C d_M_step_61 (by decide) rfl ?_
          refine g_aload_n C rfl rfl d_M_step_63 ?_
          refine g_iload_n C rfl rfl d_M_step_64 ?_
          refine g_aload_n C rfl rfl d_M_step_65 ?_
          refine gf_M_63 C d_M_step_66 (by first | assumption | omega) (by repeat' first | assumption | exact up_eq _ _ _ | refine up_ne (by omega) ?_) (by rfl) ?_
          refine g_iload_n C rfl rfl d_M_step_69 ?_
          refine g_iald C d_M_step_70 (by first | assumption | omega) (by repeat' first | assumption | exact up_eq _ _ _ | refine up_ne (by omega) ?_) hin ?_
          rw [hcl, htz]
          refine g_callV C (c_M_depth p tz hn hM hP hB hp h5 h6) Y_M_depth m_829 s_M_depth m_827 rfl rfl ⟨by decide, by decide⟩ ⟨by decide, by decide⟩ (fun h => nomatch h) d_M_step_71 (by first | assumption | omega) (by repeat' first | assumption | exact up_eq _ _ _ | refine up_ne (by omega) ?_) rfl (Nat.le_of_ble_eq_true rfl) (fun ret sg71 hq => ?_)
          obtain ⟨rfl, rfl⟩ := hq
          rw [← hLe]
          refine g_lstore (lv' := [(15, .long (lN L)), (13, .long (lN T)), (0, .ref (ad o m)), (1, .int (nI p)), (2, .int (bz true)), (3, .int (bz false)), (4, .long (lN r)), (8, .int (iI ((nx : Int) - 40))), (9, .long (lN S)), (11, .long (lN (rt nx))), (6, .long (lN M))]) C d_M_step_74 (by decide) rfl ?_
          refine g_iload_n C rfl rfl d_M_step_76 ?_
          refine g_if_eq (tgt := 101) C d_M_step_77 (by decide) (fun j77 => ?_) (fun j77 => ?_)
          rotate_left
          · exact absurd rfl j77
          refine g_lload C rfl d_M_step_101 ?_
          refine g_lstore (lv' := [(17, .long (lN r)), (15, .long (lN L)), (13, .long (lN T)), (0, .ref (ad o m)), (1, .int (nI p)), (2, .int (bz true)), (3, .int (bz false)), (4, .long (lN r)), (8, .int (iI ((nx : Int) - 40))), (9, .long (lN S)), (11, .long (lN (rt nx))), (6, .long (lN M))]) C d_M_step_103 (by decide) rfl ?_
          refine g_iload_n C rfl rfl d_M_step_105 ?_
          refine g_iload_n C rfl rfl d_M_step_106 ?_
          refine g_icmp_ne (tgt := 141) C d_M_step_107 (by decide) (fun j107 => ?_) (fun j107 => ?_)
          rotate_left
          · exact absurd j107 (by decide)
          refine g_iload_n C rfl rfl d_M_step_141 ?_
          refine g_if_eq (tgt := 150) C d_M_step_142 (by decide) (fun j142 => ?_) (fun j142 => ?_)
          · exact absurd j142 (by decide)
          refine g_lload C rfl d_M_step_145 ?_
          refine g_goto (tgt := 152) C d_M_step_147 (by decide) ?_
          refine g_iload_n C rfl rfl d_M_step_152 ?_
          refine g_if_eq (tgt := 161) C d_M_step_153 (by decide) (fun j153 => ?_) (fun j153 => ?_)
          · exact absurd j153 (by decide)
          refine g_lload C rfl d_M_step_156 ?_
          refine g_goto (tgt := 163) C d_M_step_158 (by decide) ?_
          refine g_lload C rfl d_M_step_163 ?_
          refine g_iload_n C rfl rfl d_M_step_165 ?_
          refine g_callS C (c_M_far false T S L hd hS2 hL) Y_M_far m_778 m_777 ⟨by decide, by decide⟩ ⟨by decide, by decide⟩ (fun h => nomatch h) d_M_step_166 rfl (Nat.le_of_ble_eq_true rfl) (fun ret sg166 hq => ?_)
          obtain ⟨rfl, rfl⟩ := hq
          rw [show zFar false L T S = zOut true L S T from rfl]
          refine g_lstore (lv' := [(19, .long (lN (zOut true L S T))), (17, .long (lN r)), (15, .long (lN L)), (13, .long (lN T)), (0, .ref (ad o m)), (1, .int (nI p)), (2, .int (bz true)), (3, .int (bz false)), (4, .long (lN r)), (8, .int (iI ((nx : Int) - 40))), (9, .long (lN S)), (11, .long (lN (rt nx))), (6, .long (lN M))]) C d_M_step_169 (by decide) rfl ?_
          refine g_lload C rfl d_M_step_171 ?_
          refine g_lload C rfl d_M_step_173 ?_
          refine g_lcmp_lt (tgt := 184) C d_M_step_175 d_M_step_176 (by decide) (fun j175 => ?_) (fun j175 => ?_)
          rotate_left
          · exact absurd ((pk_lLT hU63 hN3).mpr (Nat.not_le.mp hit)) j175
          refine g_iload_n C rfl rfl d_M_step_184 ?_
          refine g_iload_n C rfl rfl d_M_step_185 ?_
          refine g_lload C rfl d_M_step_186 ?_
          refine g_lload C rfl d_M_step_188 ?_
          refine g_lload C rfl d_M_step_190 ?_
          refine g_callS C (c_M_within true false S L r hL0 hL (by omega) hS2 (by omega) (fun _ _ => Nat.le_trans (dn_out (Nat.not_le.mp hit)) (Nat.sub_le _ _)) (fun _ q => absurd q (by decide))) Y_M_within m_837 m_836 ⟨by decide, by decide⟩ ⟨by decide, by decide⟩ (fun h => nomatch h) d_M_step_192 rfl (Nat.le_of_ble_eq_true rfl) (fun ret sg192 hq => ?_)
          obtain ⟨rfl, rfl⟩ := hq
          rw [hPW]
          refine g_pick [4, 5, 6, 7, 8, 9, 10, 11, 2, 3] rfl ?_
          exact mid2
      refine g_aload_n C rfl rfl d_M_step_0 ?_
      refine g_iload_n C rfl rfl d_M_step_1 ?_
      refine g_iload_n C rfl rfl d_M_step_2 ?_
      refine g_callV C (c_M_nextTick p tz true hn hM hP hB hA hp hnt htz n1 h5 h6 n2) Y_M_nextTick m_821 s_M_nextTick m_819 rfl rfl ⟨by decide, by decide⟩ ⟨by decide, by decide⟩ (fun h => nomatch h) d_M_step_3 (by first | assumption | omega) (by repeat' first | assumption | exact up_eq _ _ _ | refine up_ne (by omega) ?_) rfl (Nat.le_of_ble_eq_true rfl) (fun ret sg3 hq => ?_)
      obtain ⟨rfl, rfl⟩ := hq
      rw [← hnx]
      refine g_istore (lv' := [(8, .int (iI ((nx : Int) - 40))), (0, .ref (ad o m)), (1, .int (nI p)), (2, .int (bz true)), (3, .int (bz false)), (4, .long (lN r)), (6, .long (lN M))]) C d_M_step_6 (by decide) rfl ?_
      refine g_aload_n C rfl rfl d_M_step_8 ?_
      refine gf_M_60 C d_M_step_9 (by first | assumption | omega) (by repeat' first | assumption | exact up_eq _ _ _ | refine up_ne (by omega) ?_) (by rfl) ?_
      refine g_iload_n C rfl rfl d_M_step_12 ?_
      refine g_lald C d_M_step_13 (by first | assumption | omega) (by repeat' first | assumption | exact up_eq _ _ _ | refine up_ne (by omega) ?_) hin ?_
      rw [hcl, hSe]
      refine g_lstore (lv' := [(9, .long (lN S)), (8, .int (iI ((nx : Int) - 40))), (0, .ref (ad o m)), (1, .int (nI p)), (2, .int (bz true)), (3, .int (bz false)), (4, .long (lN r)), (6, .long (lN M))]) C d_M_step_14 (by decide) rfl ?_
      refine g_aload_n C rfl rfl d_M_step_16 ?_
      refine g_iload C rfl d_M_step_17 ?_
      refine g_callV C (c_M_rootOf ((nx : Int) - 40) hn hM hR (by omega) (by omega)) Y_M_rootOf m_761 s_M_rootOf m_759 rfl rfl ⟨by decide, by decide⟩ ⟨by decide, by decide⟩ (fun h => nomatch h) d_M_step_19 (by first | assumption | omega) (by repeat' first | assumption | exact up_eq _ _ _ | refine up_ne (by omega) ?_) rfl (Nat.le_of_ble_eq_true rfl) (fun ret sg19 hq => ?_)
      obtain ⟨rfl, rfl⟩ := hq
      rw [htx]
      refine g_lstore (lv' := [(11, .long (lN (rt nx))), (9, .long (lN S)), (8, .int (iI ((nx : Int) - 40))), (0, .ref (ad o m)), (1, .int (nI p)), (2, .int (bz true)), (3, .int (bz false)), (4, .long (lN r)), (6, .long (lN M))]) C d_M_step_22 (by decide) rfl ?_
      refine g_iload_n C rfl rfl d_M_step_24 ?_
      refine g_if_eq (tgt := 46) C d_M_step_25 (by decide) (fun j25 => ?_) (fun j25 => ?_)
      · exact absurd j25 (by decide)
      refine g_lload C rfl d_M_step_28 ?_
      refine g_lload C rfl d_M_step_30 ?_
      refine g_lcmp_le (tgt := 41) C d_M_step_32 d_M_step_33 (by decide) (fun j32 => ?_) (fun j32 => ?_)
      · refine g_lload C rfl d_M_step_41 ?_
        refine g_goto (tgt := 61) C d_M_step_43 (by decide) ?_
        refine g_pick [3, 4, 5, 6, 7, 2, 1, 0, 8] rfl ?_
        first | (have w : ¬ lN (rt nx) ≤ lN M := (by assumption); have v : T = rt nx := (by rw [hTe, zTg_t, Nat.max_eq_left (Nat.le_of_lt (Nat.not_le.mp (fun q => w ((pk_lLE hrx3 hM3).mpr q))))]); rw [v] at mid; exact mid) | (have w : lN (rt nx) ≤ lN M := (by assumption); have v : T = M := (by rw [hTe, zTg_t, Nat.max_eq_right ((pk_lLE hrx3 hM3).mp w)]); rw [v] at mid; exact mid)
      · refine g_lload C rfl d_M_step_36 ?_
        refine g_goto (tgt := 61) C d_M_step_38 (by decide) ?_
        refine g_pick [3, 4, 5, 6, 7, 2, 1, 0, 8] rfl ?_
        first | (have w : ¬ lN (rt nx) ≤ lN M := (by assumption); have v : T = rt nx := (by rw [hTe, zTg_t, Nat.max_eq_left (Nat.le_of_lt (Nat.not_le.mp (fun q => w ((pk_lLE hrx3 hM3).mpr q))))]); rw [v] at mid; exact mid) | (have w : lN (rt nx) ≤ lN M := (by assumption); have v : T = M := (by rw [hTe, zTg_t, Nat.max_eq_right ((pk_lLE hrx3 hM3).mp w)]); rw [v] at mid; exact mid)
  · cases dn
    · have mid3 : G K o n sg 0 0 300 [(0, .ref (ad o m)), (1, .int (nI p)), (2, .int (bz false)), (3, .int (bz true)), (4, .long (lN r)), (8, .int (iI ((nx : Int) - 40))), (9, .long (lN S)), (11, .long (lN (rt nx))), (15, .long (lN L)), (13, .long (lN T)), (21, .long (lN P)), (27, .long (lN I))] [.long (lN O)] := by
        by_cases hPT : P = T
        · have hat : decide (P = T) = true := decide_eq_true hPT
          rw [hat, zFe_tt, hIe] at hF
          refine g_lstore (lv' := [(29, .long (lN O)), (0, .ref (ad o m)), (1, .int (nI p)), (2, .int (bz false)), (3, .int (bz true)), (4, .long (lN r)), (8, .int (iI ((nx : Int) - 40))), (9, .long (lN S)), (11, .long (lN (rt nx))), (15, .long (lN L)), (13, .long (lN T)), (21, .long (lN P)), (27, .long (lN I))]) C d_M_step_300 (by decide) rfl ?_
          refine g_iload_n C rfl rfl d_M_step_302 ?_
          refine g_if_eq (tgt := 322) C d_M_step_303 (by decide) (fun j303 => ?_) (fun j303 => ?_)
          · exact absurd j303 (by decide)
          refine g_lload C rfl d_M_step_306 ?_
          refine g_lload C rfl d_M_step_308 ?_
          refine g_lcmp_eq (tgt := 322) C d_M_step_310 d_M_step_311 (by decide) (fun j310 => ?_) (fun j310 => ?_)
          rotate_left
          · exact absurd (congrArg lN hPT) j310
          refine g_lload C rfl d_M_step_322 ?_
          refine g_aload_n C rfl rfl d_M_step_324 ?_
          refine gf_M_22 C d_M_step_325 (by first | assumption | omega) (by repeat' first | assumption | exact up_eq _ _ _ | refine up_ne (by omega) ?_) (by rfl) ?_
          refine g_iload_n C rfl rfl d_M_step_328 ?_
          refine g_iald C d_M_step_329 (by first | assumption | omega) (by repeat' first | assumption | exact up_eq _ _ _ | refine up_ne (by omega) ?_) hin ?_
          rw [hcl, hfp]
          refine g_i2l C d_M_step_330 ?_
          rw [nI_l (by omega)]
          refine g_lmul C d_M_step_331 ?_
          rw [lN_mul]
          refine g_ldc2 C m_835 d_M_step_332 ?_
          refine g_aload_n C rfl rfl d_M_step_335 ?_
          refine gf_M_22 C d_M_step_336 (by first | assumption | omega) (by repeat' first | assumption | exact up_eq _ _ _ | refine up_ne (by omega) ?_) (by rfl) ?_
          refine g_iload_n C rfl rfl d_M_step_339 ?_
          refine g_iald C d_M_step_340 (by first | assumption | omega) (by repeat' first | assumption | exact up_eq _ _ _ | refine up_ne (by omega) ?_) hin ?_
          rw [hcl, hfp]
          refine g_i2l C d_M_step_341 ?_
          refine g_lsub C d_M_step_342 ?_
          rw [fee_l hf]
          refine g_iconst (v := 1) C rfl d_M_step_343 ?_
          refine g_callS C (c_M_quotient true (I * f) (1000 - f) (Nat.lt_of_le_of_lt (m_le hI hf) (by decide)) (by omega) (by omega)) Y_M_quotient m_771 m_770 ⟨by decide, by decide⟩ ⟨by decide, by decide⟩ (fun h => nomatch h) d_M_step_344 rfl (Nat.le_of_ble_eq_true rfl) (fun ret sg344 hq => ?_)
          obtain ⟨rfl, rfl⟩ := hq
          rw [show dv true (I * f) (1000 - f) = F from hF]
          refine g_lstore (lv' := [(31, .long (lN F)), (29, .long (lN O)), (0, .ref (ad o m)), (1, .int (nI p)), (2, .int (bz false)), (3, .int (bz true)), (4, .long (lN r)), (8, .int (iI ((nx : Int) - 40))), (9, .long (lN S)), (11, .long (lN (rt nx))), (15, .long (lN L)), (13, .long (lN T)), (21, .long (lN P)), (27, .long (lN I))]) C d_M_step_347 (by decide) rfl ?_
          refine g_pick [10, 2, 3, 4, 5, 6, 7, 8, 9, 12, 13, 1, 0] rfl ?_
          exact endx
        · have hat : decide (P = T) = false := decide_eq_false hPT
          rw [hat, zFe_tf, hIe] at hF
          refine g_lstore (lv' := [(29, .long (lN O)), (0, .ref (ad o m)), (1, .int (nI p)), (2, .int (bz false)), (3, .int (bz true)), (4, .long (lN r)), (8, .int (iI ((nx : Int) - 40))), (9, .long (lN S)), (11, .long (lN (rt nx))), (15, .long (lN L)), (13, .long (lN T)), (21, .long (lN P)), (27, .long (lN I))]) C d_M_step_300 (by decide) rfl ?_
          refine g_iload_n C rfl rfl d_M_step_302 ?_
          refine g_if_eq (tgt := 322) C d_M_step_303 (by decide) (fun j303 => ?_) (fun j303 => ?_)
          · exact absurd j303 (by decide)
          refine g_lload C rfl d_M_step_306 ?_
          refine g_lload C rfl d_M_step_308 ?_
          refine g_lcmp_eq (tgt := 322) C d_M_step_310 d_M_step_311 (by decide) (fun j310 => ?_) (fun j310 => ?_)
          · exact absurd ((pk_lEQ hP3 hT3).mp j310) hPT
          refine g_lload C rfl d_M_step_314 ?_
          refine g_lload C rfl d_M_step_316 ?_
          refine g_lsub C d_M_step_318 ?_
          rw [lN_sub (hin1 rfl), hF]
          refine g_goto (tgt := 347) C d_M_step_319 (by decide) ?_
          refine g_lstore (lv' := [(31, .long (lN F)), (29, .long (lN O)), (0, .ref (ad o m)), (1, .int (nI p)), (2, .int (bz false)), (3, .int (bz true)), (4, .long (lN r)), (8, .int (iI ((nx : Int) - 40))), (9, .long (lN S)), (11, .long (lN (rt nx))), (15, .long (lN L)), (13, .long (lN T)), (21, .long (lN P)), (27, .long (lN I))]) C d_M_step_347 (by decide) rfl ?_
          refine g_pick [10, 2, 3, 4, 5, 6, 7, 8, 9, 12, 13, 1, 0] rfl ?_
          exact endx
      have mid2 : G K o n sg 0 0 195 [(0, .ref (ad o m)), (1, .int (nI p)), (2, .int (bz false)), (3, .int (bz true)), (4, .long (lN r)), (8, .int (iI ((nx : Int) - 40))), (9, .long (lN S)), (11, .long (lN (rt nx))), (15, .long (lN L)), (13, .long (lN T))] [.long (lN P)] := by
        refine g_lstore (lv' := [(21, .long (lN P)), (0, .ref (ad o m)), (1, .int (nI p)), (2, .int (bz false)), (3, .int (bz true)), (4, .long (lN r)), (8, .int (iI ((nx : Int) - 40))), (9, .long (lN S)), (11, .long (lN (rt nx))), (15, .long (lN L)), (13, .long (lN T))]) C d_M_step_195 (by decide) rfl ?_
        refine g_iload_n C rfl rfl d_M_step_197 ?_
        refine g_if_eq (tgt := 206) C d_M_step_198 (by decide) (fun j198 => ?_) (fun j198 => ?_)
        rotate_left
        · exact absurd rfl j198
        refine g_lload C rfl d_M_step_206 ?_
        refine g_lstore (lv' := [(23, .long (lN S)), (21, .long (lN P)), (0, .ref (ad o m)), (1, .int (nI p)), (2, .int (bz false)), (3, .int (bz true)), (4, .long (lN r)), (8, .int (iI ((nx : Int) - 40))), (9, .long (lN S)), (11, .long (lN (rt nx))), (15, .long (lN L)), (13, .long (lN T))]) C d_M_step_208 (by decide) rfl ?_
        refine g_iload_n C rfl rfl d_M_step_210 ?_
        refine g_if_eq (tgt := 219) C d_M_step_211 (by decide) (fun j211 => ?_) (fun j211 => ?_)
        rotate_left
        · exact absurd rfl j211
        refine g_lload C rfl d_M_step_219 ?_
        refine g_lstore (lv' := [(25, .long (lN P)), (23, .long (lN S)), (21, .long (lN P)), (0, .ref (ad o m)), (1, .int (nI p)), (2, .int (bz false)), (3, .int (bz true)), (4, .long (lN r)), (8, .int (iI ((nx : Int) - 40))), (9, .long (lN S)), (11, .long (lN (rt nx))), (15, .long (lN L)), (13, .long (lN T))]) C d_M_step_221 (by decide) rfl ?_
        refine g_iload_n C rfl rfl d_M_step_223 ?_
        refine g_if_eq (tgt := 240) C d_M_step_224 (by decide) (fun j224 => ?_) (fun j224 => ?_)
        rotate_left
        · exact absurd rfl j224
        refine g_lload C rfl d_M_step_240 ?_
        refine g_lload C rfl d_M_step_242 ?_
        refine g_lload C rfl d_M_step_244 ?_
        refine g_iconst (v := 1) C rfl d_M_step_246 ?_
        refine g_callS C (c_M_far true S P L hdP hPb.2 hL) Y_M_far m_778 m_777 ⟨by decide, by decide⟩ ⟨by decide, by decide⟩ (fun h => nomatch h) d_M_step_247 rfl (Nat.le_of_ble_eq_true rfl) (fun ret sg247 hq => ?_)
        obtain ⟨rfl, rfl⟩ := hq
        rw [show zFar true L S P = I from hIe]
        refine g_lstore (lv' := [(27, .long (lN I)), (25, .long (lN P)), (23, .long (lN S)), (21, .long (lN P)), (0, .ref (ad o m)), (1, .int (nI p)), (2, .int (bz false)), (3, .int (bz true)), (4, .long (lN r)), (8, .int (iI ((nx : Int) - 40))), (9, .long (lN S)), (11, .long (lN (rt nx))), (15, .long (lN L)), (13, .long (lN T))]) C d_M_step_250 (by decide) rfl ?_
        refine g_iload_n C rfl rfl d_M_step_252 ?_
        refine g_if_eq (tgt := 269) C d_M_step_253 (by decide) (fun j253 => ?_) (fun j253 => ?_)
        rotate_left
        · exact absurd rfl j253
        refine g_lload C rfl d_M_step_269 ?_
        refine g_lload C rfl d_M_step_271 ?_
        refine g_lload C rfl d_M_step_273 ?_
        refine g_iconst (v := 0) C rfl d_M_step_275 ?_
        refine g_callS C (c_M_near false S P L (by omega) hdP hPb.2 hL) Y_M_near m_764 m_763 ⟨by decide, by decide⟩ ⟨by decide, by decide⟩ (fun h => nomatch h) d_M_step_276 rfl (Nat.le_of_ble_eq_true rfl) (fun ret sg276 hq => ?_)
        obtain ⟨rfl, rfl⟩ := hq
        rw [show zNear false L S P = zOut false L S P from rfl]
        rw [show zOut false L S P = O from zGot_t.symm.trans hOe]
        refine g_lstore (lv' := [(29, .long (lN O)), (27, .long (lN I)), (25, .long (lN P)), (23, .long (lN S)), (21, .long (lN P)), (0, .ref (ad o m)), (1, .int (nI p)), (2, .int (bz false)), (3, .int (bz true)), (4, .long (lN r)), (8, .int (iI ((nx : Int) - 40))), (9, .long (lN S)), (11, .long (lN (rt nx))), (15, .long (lN L)), (13, .long (lN T))]) C d_M_step_279 (by decide) rfl ?_
        refine g_iload_n C rfl rfl d_M_step_281 ?_
        refine g_if_ne (tgt := 298) C d_M_step_282 (by decide) (fun j282 => ?_) (fun j282 => ?_)
        rotate_left
        · exact absurd j282 (by decide)
        refine g_lload C rfl d_M_step_298 ?_
        refine g_pick [5, 6, 7, 8, 9, 10, 11, 12, 13, 14, 4, 1] rfl ?_
        exact mid3
      have hN3 : zIn false L S T < 2 ^ 63 := Nat.lt_of_le_of_lt (zIn_b hL hS hTb.1 hS2 hTb.2 hd) (by decide : 2100000000 < 2 ^ 63)
      have hU63 : (r * (1000 - f) / 1000) < 2 ^ 63 := by omega
      have mid : G K o n sg 0 0 61 [(0, .ref (ad o m)), (1, .int (nI p)), (2, .int (bz false)), (3, .int (bz true)), (4, .long (lN r)), (8, .int (iI ((nx : Int) - 40))), (9, .long (lN S)), (11, .long (lN (rt nx))), (6, .long (lN M))] [.long (lN T)] := by
        by_cases hit : zIn false L S T ≤ (r * (1000 - f) / 1000)
        · have hPT : P = T := hPe.trans (pr_tT hit)
          refine g_lstore (lv' := [(13, .long (lN T)), (0, .ref (ad o m)), (1, .int (nI p)), (2, .int (bz false)), (3, .int (bz true)), (4, .long (lN r)), (8, .int (iI ((nx : Int) - 40))), (9, .long (lN S)), (11, .long (lN (rt nx))), (6, .long (lN M))]) C d_M_step_61 (by decide) rfl ?_
          refine g_aload_n C rfl rfl d_M_step_63 ?_
          refine g_iload_n C rfl rfl d_M_step_64 ?_
          refine g_aload_n C rfl rfl d_M_step_65 ?_
          refine gf_M_63 C d_M_step_66 (by first | assumption | omega) (by repeat' first | assumption | exact up_eq _ _ _ | refine up_ne (by omega) ?_) (by rfl) ?_
          refine g_iload_n C rfl rfl d_M_step_69 ?_
          refine g_iald C d_M_step_70 (by first | assumption | omega) (by repeat' first | assumption | exact up_eq _ _ _ | refine up_ne (by omega) ?_) hin ?_
          rw [hcl, htz]
          refine g_callV C (c_M_depth p tz hn hM hP hB hp h5 h6) Y_M_depth m_829 s_M_depth m_827 rfl rfl ⟨by decide, by decide⟩ ⟨by decide, by decide⟩ (fun h => nomatch h) d_M_step_71 (by first | assumption | omega) (by repeat' first | assumption | exact up_eq _ _ _ | refine up_ne (by omega) ?_) rfl (Nat.le_of_ble_eq_true rfl) (fun ret sg71 hq => ?_)
          obtain ⟨rfl, rfl⟩ := hq
          rw [← hLe]
          refine g_lstore (lv' := [(15, .long (lN L)), (13, .long (lN T)), (0, .ref (ad o m)), (1, .int (nI p)), (2, .int (bz false)), (3, .int (bz true)), (4, .long (lN r)), (8, .int (iI ((nx : Int) - 40))), (9, .long (lN S)), (11, .long (lN (rt nx))), (6, .long (lN M))]) C d_M_step_74 (by decide) rfl ?_
          refine g_iload_n C rfl rfl d_M_step_76 ?_
          refine g_if_eq (tgt := 101) C d_M_step_77 (by decide) (fun j77 => ?_) (fun j77 => ?_)
          · exact absurd j77 (by decide)
          refine g_lload C rfl d_M_step_80 ?_
          refine g_ldc2 C m_835 d_M_step_82 ?_
          refine g_aload_n C rfl rfl d_M_step_85 ?_
          refine gf_M_22 C d_M_step_86 (by first | assumption | omega) (by repeat' first | assumption | exact up_eq _ _ _ | refine up_ne (by omega) ?_) (by rfl) ?_
          refine g_iload_n C rfl rfl d_M_step_89 ?_
          refine g_iald C d_M_step_90 (by first | assumption | omega) (by repeat' first | assumption | exact up_eq _ _ _ | refine up_ne (by omega) ?_) hin ?_
          rw [hcl, hfp]
          refine g_i2l C d_M_step_91 ?_
          refine g_lsub C d_M_step_92 ?_
          refine g_lmul C d_M_step_93 ?_
          refine g_ldc2 C m_835 d_M_step_94 ?_
          refine g_ldiv C (by decide) d_M_step_97 ?_
          rw [us_nl hrr hf]
          refine g_goto (tgt := 103) C d_M_step_98 (by decide) ?_
          refine g_lstore (lv' := [(17, .long (lN (r * (1000 - f) / 1000))), (15, .long (lN L)), (13, .long (lN T)), (0, .ref (ad o m)), (1, .int (nI p)), (2, .int (bz false)), (3, .int (bz true)), (4, .long (lN r)), (8, .int (iI ((nx : Int) - 40))), (9, .long (lN S)), (11, .long (lN (rt nx))), (6, .long (lN M))]) C d_M_step_103 (by decide) rfl ?_
          refine g_iload_n C rfl rfl d_M_step_105 ?_
          refine g_iload_n C rfl rfl d_M_step_106 ?_
          refine g_icmp_ne (tgt := 141) C d_M_step_107 (by decide) (fun j107 => ?_) (fun j107 => ?_)
          rotate_left
          · exact absurd j107 (by decide)
          refine g_iload_n C rfl rfl d_M_step_141 ?_
          refine g_if_eq (tgt := 150) C d_M_step_142 (by decide) (fun j142 => ?_) (fun j142 => ?_)
          rotate_left
          · exact absurd rfl j142
          refine g_lload C rfl d_M_step_150 ?_
          refine g_iload_n C rfl rfl d_M_step_152 ?_
          refine g_if_eq (tgt := 161) C d_M_step_153 (by decide) (fun j153 => ?_) (fun j153 => ?_)
          rotate_left
          · exact absurd rfl j153
          refine g_lload C rfl d_M_step_161 ?_
          refine g_lload C rfl d_M_step_163 ?_
          refine g_iload_n C rfl rfl d_M_step_165 ?_
          refine g_callS C (c_M_far true S T L hd hTb.2 hL) Y_M_far m_778 m_777 ⟨by decide, by decide⟩ ⟨by decide, by decide⟩ (fun h => nomatch h) d_M_step_166 rfl (Nat.le_of_ble_eq_true rfl) (fun ret sg166 hq => ?_)
          obtain ⟨rfl, rfl⟩ := hq
          rw [show zFar true L S T = zIn false L S T from rfl]
          refine g_lstore (lv' := [(19, .long (lN (zIn false L S T))), (17, .long (lN (r * (1000 - f) / 1000))), (15, .long (lN L)), (13, .long (lN T)), (0, .ref (ad o m)), (1, .int (nI p)), (2, .int (bz false)), (3, .int (bz true)), (4, .long (lN r)), (8, .int (iI ((nx : Int) - 40))), (9, .long (lN S)), (11, .long (lN (rt nx))), (6, .long (lN M))]) C d_M_step_169 (by decide) rfl ?_
          refine g_lload C rfl d_M_step_171 ?_
          refine g_lload C rfl d_M_step_173 ?_
          refine g_lcmp_lt (tgt := 184) C d_M_step_175 d_M_step_176 (by decide) (fun j175 => ?_) (fun j175 => ?_)
          · exact absurd ((pk_lLT hU63 hN3).mp j175) (Nat.not_lt.mpr hit)
          refine g_lload C rfl d_M_step_179 ?_
          refine g_goto (tgt := 195) C d_M_step_181 (by decide) ?_
          refine g_pick [4, 5, 6, 7, 8, 9, 10, 11, 2, 3] rfl ?_
          rw [hPT] at mid2
          exact mid2
        · have hPW : zWi false true L S (r * (1000 - f) / 1000) = P := (hPe.trans (pr_wiT hit)).symm
          have hL0 : 0 < L := L_pos_in (dn := false) (S := S) (T := T) (Nat.not_le.mp hit)
          refine g_lstore (lv' := [(13, .long (lN T)), (0, .ref (ad o m)), (1, .int (nI p)), (2, .int (bz false)), (3, .int (bz true)), (4, .long (lN r)), (8, .int (iI ((nx : Int) - 40))), (9, .long (lN S)), (11, .long (lN (rt nx))), (6, .long (lN M))]) C d_M_step_61 (by decide) rfl ?_
          refine g_aload_n C rfl rfl d_M_step_63 ?_
          refine g_iload_n C rfl rfl d_M_step_64 ?_
          refine g_aload_n C rfl rfl d_M_step_65 ?_
          refine gf_M_63 C d_M_step_66 (by first | assumption | omega) (by repeat' first | assumption | exact up_eq _ _ _ | refine up_ne (by omega) ?_) (by rfl) ?_
          refine g_iload_n C rfl rfl d_M_step_69 ?_
          refine g_iald C d_M_step_70 (by first | assumption | omega) (by repeat' first | assumption | exact up_eq _ _ _ | refine up_ne (by omega) ?_) hin ?_
          rw [hcl, htz]
          refine g_callV C (c_M_depth p tz hn hM hP hB hp h5 h6) Y_M_depth m_829 s_M_depth m_827 rfl rfl ⟨by decide, by decide⟩ ⟨by decide, by decide⟩ (fun h => nomatch h) d_M_step_71 (by first | assumption | omega) (by repeat' first | assumption | exact up_eq _ _ _ | refine up_ne (by omega) ?_) rfl (Nat.le_of_ble_eq_true rfl) (fun ret sg71 hq => ?_)
          obtain ⟨rfl, rfl⟩ := hq
          rw [← hLe]
          refine g_lstore (lv' := [(15, .long (lN L)), (13, .long (lN T)), (0, .ref (ad o m)), (1, .int (nI p)), (2, .int (bz false)), (3, .int (bz true)), (4, .long (lN r)), (8, .int (iI ((nx : Int) - 40))), (9, .long (lN S)), (11, .long (lN (rt nx))), (6, .long (lN M))]) C d_M_step_74 (by decide) rfl ?_
          refine g_iload_n C rfl rfl d_M_step_76 ?_
          refine g_if_eq (tgt := 101) C d_M_step_77 (by decide) (fun j77 => ?_) (fun j77 => ?_)
          · exact absurd j77 (by decide)
          refine g_lload C rfl d_M_step_80 ?_
          refine g_ldc2 C m_835 d_M_step_82 ?_
          refine g_aload_n C rfl rfl d_M_step_85 ?_
          refine gf_M_22 C d_M_step_86 (by first | assumption | omega) (by repeat' first | assumption | exact up_eq _ _ _ | refine up_ne (by omega) ?_) (by rfl) ?_
          refine g_iload_n C rfl rfl d_M_step_89 ?_
          refine g_iald C d_M_step_90 (by first | assumption | omega) (by repeat' first | assumption | exact up_eq _ _ _ | refine up_ne (by omega) ?_) hin ?_
          rw [hcl, hfp]
          refine g_i2l C d_M_step_91 ?_
          refine g_lsub C d_M_step_92 ?_
          refine g_lmul C d_M_step_93 ?_
          refine g_ldc2 C m_835 d_M_step_94 ?_
          refine g_ldiv C (by decide) d_M_step_97 ?_
          rw [us_nl hrr hf]
          refine g_goto (tgt := 103) C d_M_step_98 (by decide) ?_
          refine g_lstore (lv' := [(17, .long (lN (r * (1000 - f) / 1000))), (15, .long (lN L)), (13, .long (lN T)), (0, .ref (ad o m)), (1, .int (nI p)), (2, .int (bz false)), (3, .int (bz true)), (4, .long (lN r)), (8, .int (iI ((nx : Int) - 40))), (9, .long (lN S)), (11, .long (lN (rt nx))), (6, .long (lN M))]) C d_M_step_103 (by decide) rfl ?_
          refine g_iload_n C rfl rfl d_M_step_105 ?_
          refine g_iload_n C rfl rfl d_M_step_106 ?_
          refine g_icmp_ne (tgt := 141) C d_M_step_107 (by decide) (fun j107 => ?_) (fun j107 => ?_)
          rotate_left
          · exact absurd j107 (by decide)
          refine g_iload_n C rfl rfl d_M_step_141 ?_
          refine g_if_eq (tgt := 150) C d_M_step_142 (by decide) (fun j142 => ?_) (fun j142 => ?_)
          rotate_left
          · exact absurd rfl j142
          refine g_lload C rfl d_M_step_150 ?_
          refine g_iload_n C rfl rfl d_M_step_152 ?_
          refine g_if_eq (tgt := 161) C d_M_step_153 (by decide) (fun j153 => ?_) (fun j153 => ?_)
          rotate_left
          · exact absurd rfl j153
          refine g_lload C rfl d_M_step_161 ?_
          refine g_lload C rfl d_M_step_163 ?_
          refine g_iload_n C rfl rfl d_M_step_165 ?_
          refine g_callS C (c_M_far true S T L hd hTb.2 hL) Y_M_far m_778 m_777 ⟨by decide, by decide⟩ ⟨by decide, by decide⟩ (fun h => nomatch h) d_M_step_166 rfl (Nat.le_of_ble_eq_true rfl) (fun ret sg166 hq => ?_)
          obtain ⟨rfl, rfl⟩ := hq
          rw [show zFar true L S T = zIn false L S T from rfl]
          refine g_lstore (lv' := [(19, .long (lN (zIn false L S T))), (17, .long (lN (r * (1000 - f) / 1000))), (15, .long (lN L)), (13, .long (lN T)), (0, .ref (ad o m)), (1, .int (nI p)), (2, .int (bz false)), (3, .int (bz true)), (4, .long (lN r)), (8, .int (iI ((nx : Int) - 40))), (9, .long (lN S)), (11, .long (lN (rt nx))), (6, .long (lN M))]) C d_M_step_169 (by decide) rfl ?_
          refine g_lload C rfl d_M_step_171 ?_
          refine g_lload C rfl d_M_step_173 ?_
          refine g_lcmp_lt (tgt := 184) C d_M_step_175 d_M_step_176 (by decide) (fun j175 => ?_) (fun j175 => ?_)
          rotate_left
          · exact absurd ((pk_lLT hU63 hN3).mpr (Nat.not_le.mp hit)) j175
          refine g_iload_n C rfl rfl d_M_step_184 ?_
          refine g_iload_n C rfl rfl d_M_step_185 ?_
          refine g_lload C rfl d_M_step_186 ?_
          refine g_lload C rfl d_M_step_188 ?_
          refine g_lload C rfl d_M_step_190 ?_
          refine g_callS C (c_M_within false true S L (r * (1000 - f) / 1000) hL0 hL (by omega) hS2 (by omega) (fun q => absurd q (by decide)) (fun q => absurd q (by decide))) Y_M_within m_837 m_836 ⟨by decide, by decide⟩ ⟨by decide, by decide⟩ (fun h => nomatch h) d_M_step_192 rfl (Nat.le_of_ble_eq_true rfl) (fun ret sg192 hq => ?_)
          obtain ⟨rfl, rfl⟩ := hq
          rw [hPW]
          refine g_pick [4, 5, 6, 7, 8, 9, 10, 11, 2, 3] rfl ?_
          exact mid2
      refine g_aload_n C rfl rfl d_M_step_0 ?_
      refine g_iload_n C rfl rfl d_M_step_1 ?_
      refine g_iload_n C rfl rfl d_M_step_2 ?_
      refine g_callV C (c_M_nextTick p tz false hn hM hP hB hA hp hnt htz n1 h5 h6 n2) Y_M_nextTick m_821 s_M_nextTick m_819 rfl rfl ⟨by decide, by decide⟩ ⟨by decide, by decide⟩ (fun h => nomatch h) d_M_step_3 (by first | assumption | omega) (by repeat' first | assumption | exact up_eq _ _ _ | refine up_ne (by omega) ?_) rfl (Nat.le_of_ble_eq_true rfl) (fun ret sg3 hq => ?_)
      obtain ⟨rfl, rfl⟩ := hq
      rw [← hnx]
      refine g_istore (lv' := [(8, .int (iI ((nx : Int) - 40))), (0, .ref (ad o m)), (1, .int (nI p)), (2, .int (bz false)), (3, .int (bz true)), (4, .long (lN r)), (6, .long (lN M))]) C d_M_step_6 (by decide) rfl ?_
      refine g_aload_n C rfl rfl d_M_step_8 ?_
      refine gf_M_60 C d_M_step_9 (by first | assumption | omega) (by repeat' first | assumption | exact up_eq _ _ _ | refine up_ne (by omega) ?_) (by rfl) ?_
      refine g_iload_n C rfl rfl d_M_step_12 ?_
      refine g_lald C d_M_step_13 (by first | assumption | omega) (by repeat' first | assumption | exact up_eq _ _ _ | refine up_ne (by omega) ?_) hin ?_
      rw [hcl, hSe]
      refine g_lstore (lv' := [(9, .long (lN S)), (8, .int (iI ((nx : Int) - 40))), (0, .ref (ad o m)), (1, .int (nI p)), (2, .int (bz false)), (3, .int (bz true)), (4, .long (lN r)), (6, .long (lN M))]) C d_M_step_14 (by decide) rfl ?_
      refine g_aload_n C rfl rfl d_M_step_16 ?_
      refine g_iload C rfl d_M_step_17 ?_
      refine g_callV C (c_M_rootOf ((nx : Int) - 40) hn hM hR (by omega) (by omega)) Y_M_rootOf m_761 s_M_rootOf m_759 rfl rfl ⟨by decide, by decide⟩ ⟨by decide, by decide⟩ (fun h => nomatch h) d_M_step_19 (by first | assumption | omega) (by repeat' first | assumption | exact up_eq _ _ _ | refine up_ne (by omega) ?_) rfl (Nat.le_of_ble_eq_true rfl) (fun ret sg19 hq => ?_)
      obtain ⟨rfl, rfl⟩ := hq
      rw [htx]
      refine g_lstore (lv' := [(11, .long (lN (rt nx))), (9, .long (lN S)), (8, .int (iI ((nx : Int) - 40))), (0, .ref (ad o m)), (1, .int (nI p)), (2, .int (bz false)), (3, .int (bz true)), (4, .long (lN r)), (6, .long (lN M))]) C d_M_step_22 (by decide) rfl ?_
      refine g_iload_n C rfl rfl d_M_step_24 ?_
      refine g_if_eq (tgt := 46) C d_M_step_25 (by decide) (fun j25 => ?_) (fun j25 => ?_)
      rotate_left
      · exact absurd rfl j25
      refine g_lload C rfl d_M_step_46 ?_
      refine g_lload C rfl d_M_step_48 ?_
      refine g_lcmp_ge (tgt := 59) C d_M_step_50 d_M_step_51 (by decide) (fun j50 => ?_) (fun j50 => ?_)
      · refine g_lload C rfl d_M_step_59 ?_
        refine g_pick [3, 4, 5, 6, 7, 2, 1, 0, 8] rfl ?_
        first | (have w : ¬ lN M ≤ lN (rt nx) := (by assumption); have v : T = rt nx := (by rw [hTe, zTg_f, Nat.min_eq_left (Nat.le_of_lt (Nat.not_le.mp (fun q => w ((pk_lLE hM3 hrx3).mpr q))))]); rw [v] at mid; exact mid) | (have w : lN M ≤ lN (rt nx) := (by assumption); have v : T = M := (by rw [hTe, zTg_f, Nat.min_eq_right ((pk_lLE hM3 hrx3).mp w)]); rw [v] at mid; exact mid)
      · refine g_lload C rfl d_M_step_54 ?_
        refine g_goto (tgt := 61) C d_M_step_56 (by decide) ?_
        refine g_pick [3, 4, 5, 6, 7, 2, 1, 0, 8] rfl ?_
        first | (have w : ¬ lN M ≤ lN (rt nx) := (by assumption); have v : T = rt nx := (by rw [hTe, zTg_f, Nat.min_eq_left (Nat.le_of_lt (Nat.not_le.mp (fun q => w ((pk_lLE hM3 hrx3).mpr q))))]); rw [v] at mid; exact mid) | (have w : lN M ≤ lN (rt nx) := (by assumption); have v : T = M := (by rw [hTe, zTg_f, Nat.min_eq_right ((pk_lLE hM3 hrx3).mp w)]); rw [v] at mid; exact mid)
    · have mid3 : G K o n sg 0 0 300 [(0, .ref (ad o m)), (1, .int (nI p)), (2, .int (bz true)), (3, .int (bz true)), (4, .long (lN r)), (8, .int (iI ((nx : Int) - 40))), (9, .long (lN S)), (11, .long (lN (rt nx))), (15, .long (lN L)), (13, .long (lN T)), (21, .long (lN P)), (27, .long (lN I))] [.long (lN O)] := by
        by_cases hPT : P = T
        · have hat : decide (P = T) = true := decide_eq_true hPT
          rw [hat, zFe_tt, hIe] at hF
          refine g_lstore (lv' := [(29, .long (lN O)), (0, .ref (ad o m)), (1, .int (nI p)), (2, .int (bz true)), (3, .int (bz true)), (4, .long (lN r)), (8, .int (iI ((nx : Int) - 40))), (9, .long (lN S)), (11, .long (lN (rt nx))), (15, .long (lN L)), (13, .long (lN T)), (21, .long (lN P)), (27, .long (lN I))]) C d_M_step_300 (by decide) rfl ?_
          refine g_iload_n C rfl rfl d_M_step_302 ?_
          refine g_if_eq (tgt := 322) C d_M_step_303 (by decide) (fun j303 => ?_) (fun j303 => ?_)
          · exact absurd j303 (by decide)
          refine g_lload C rfl d_M_step_306 ?_
          refine g_lload C rfl d_M_step_308 ?_
          refine g_lcmp_eq (tgt := 322) C d_M_step_310 d_M_step_311 (by decide) (fun j310 => ?_) (fun j310 => ?_)
          rotate_left
          · exact absurd (congrArg lN hPT) j310
          refine g_lload C rfl d_M_step_322 ?_
          refine g_aload_n C rfl rfl d_M_step_324 ?_
          refine gf_M_22 C d_M_step_325 (by first | assumption | omega) (by repeat' first | assumption | exact up_eq _ _ _ | refine up_ne (by omega) ?_) (by rfl) ?_
          refine g_iload_n C rfl rfl d_M_step_328 ?_
          refine g_iald C d_M_step_329 (by first | assumption | omega) (by repeat' first | assumption | exact up_eq _ _ _ | refine up_ne (by omega) ?_) hin ?_
          rw [hcl, hfp]
          refine g_i2l C d_M_step_330 ?_
          rw [nI_l (by omega)]
          refine g_lmul C d_M_step_331 ?_
          rw [lN_mul]
          refine g_ldc2 C m_835 d_M_step_332 ?_
          refine g_aload_n C rfl rfl d_M_step_335 ?_
          refine gf_M_22 C d_M_step_336 (by first | assumption | omega) (by repeat' first | assumption | exact up_eq _ _ _ | refine up_ne (by omega) ?_) (by rfl) ?_
          refine g_iload_n C rfl rfl d_M_step_339 ?_
          refine g_iald C d_M_step_340 (by first | assumption | omega) (by repeat' first | assumption | exact up_eq _ _ _ | refine up_ne (by omega) ?_) hin ?_
          rw [hcl, hfp]
          refine g_i2l C d_M_step_341 ?_
          refine g_lsub C d_M_step_342 ?_
          rw [fee_l hf]
          refine g_iconst (v := 1) C rfl d_M_step_343 ?_
          refine g_callS C (c_M_quotient true (I * f) (1000 - f) (Nat.lt_of_le_of_lt (m_le hI hf) (by decide)) (by omega) (by omega)) Y_M_quotient m_771 m_770 ⟨by decide, by decide⟩ ⟨by decide, by decide⟩ (fun h => nomatch h) d_M_step_344 rfl (Nat.le_of_ble_eq_true rfl) (fun ret sg344 hq => ?_)
          obtain ⟨rfl, rfl⟩ := hq
          rw [show dv true (I * f) (1000 - f) = F from hF]
          refine g_lstore (lv' := [(31, .long (lN F)), (29, .long (lN O)), (0, .ref (ad o m)), (1, .int (nI p)), (2, .int (bz true)), (3, .int (bz true)), (4, .long (lN r)), (8, .int (iI ((nx : Int) - 40))), (9, .long (lN S)), (11, .long (lN (rt nx))), (15, .long (lN L)), (13, .long (lN T)), (21, .long (lN P)), (27, .long (lN I))]) C d_M_step_347 (by decide) rfl ?_
          refine g_pick [10, 2, 3, 4, 5, 6, 7, 8, 9, 12, 13, 1, 0] rfl ?_
          exact endx
        · have hat : decide (P = T) = false := decide_eq_false hPT
          rw [hat, zFe_tf, hIe] at hF
          refine g_lstore (lv' := [(29, .long (lN O)), (0, .ref (ad o m)), (1, .int (nI p)), (2, .int (bz true)), (3, .int (bz true)), (4, .long (lN r)), (8, .int (iI ((nx : Int) - 40))), (9, .long (lN S)), (11, .long (lN (rt nx))), (15, .long (lN L)), (13, .long (lN T)), (21, .long (lN P)), (27, .long (lN I))]) C d_M_step_300 (by decide) rfl ?_
          refine g_iload_n C rfl rfl d_M_step_302 ?_
          refine g_if_eq (tgt := 322) C d_M_step_303 (by decide) (fun j303 => ?_) (fun j303 => ?_)
          · exact absurd j303 (by decide)
          refine g_lload C rfl d_M_step_306 ?_
          refine g_lload C rfl d_M_step_308 ?_
          refine g_lcmp_eq (tgt := 322) C d_M_step_310 d_M_step_311 (by decide) (fun j310 => ?_) (fun j310 => ?_)
          · exact absurd ((pk_lEQ hP3 hT3).mp j310) hPT
          refine g_lload C rfl d_M_step_314 ?_
          refine g_lload C rfl d_M_step_316 ?_
          refine g_lsub C d_M_step_318 ?_
          rw [lN_sub (hin1 rfl), hF]
          refine g_goto (tgt := 347) C d_M_step_319 (by decide) ?_
          refine g_lstore (lv' := [(31, .long (lN F)), (29, .long (lN O)), (0, .ref (ad o m)), (1, .int (nI p)), (2, .int (bz true)), (3, .int (bz true)), (4, .long (lN r)), (8, .int (iI ((nx : Int) - 40))), (9, .long (lN S)), (11, .long (lN (rt nx))), (15, .long (lN L)), (13, .long (lN T)), (21, .long (lN P)), (27, .long (lN I))]) C d_M_step_347 (by decide) rfl ?_
          refine g_pick [10, 2, 3, 4, 5, 6, 7, 8, 9, 12, 13, 1, 0] rfl ?_
          exact endx
      have mid2 : G K o n sg 0 0 195 [(0, .ref (ad o m)), (1, .int (nI p)), (2, .int (bz true)), (3, .int (bz true)), (4, .long (lN r)), (8, .int (iI ((nx : Int) - 40))), (9, .long (lN S)), (11, .long (lN (rt nx))), (15, .long (lN L)), (13, .long (lN T))] [.long (lN P)] := by
        refine g_lstore (lv' := [(21, .long (lN P)), (0, .ref (ad o m)), (1, .int (nI p)), (2, .int (bz true)), (3, .int (bz true)), (4, .long (lN r)), (8, .int (iI ((nx : Int) - 40))), (9, .long (lN S)), (11, .long (lN (rt nx))), (15, .long (lN L)), (13, .long (lN T))]) C d_M_step_195 (by decide) rfl ?_
        refine g_iload_n C rfl rfl d_M_step_197 ?_
        refine g_if_eq (tgt := 206) C d_M_step_198 (by decide) (fun j198 => ?_) (fun j198 => ?_)
        · exact absurd j198 (by decide)
        refine g_lload C rfl d_M_step_201 ?_
        refine g_goto (tgt := 208) C d_M_step_203 (by decide) ?_
        refine g_lstore (lv' := [(23, .long (lN P)), (21, .long (lN P)), (0, .ref (ad o m)), (1, .int (nI p)), (2, .int (bz true)), (3, .int (bz true)), (4, .long (lN r)), (8, .int (iI ((nx : Int) - 40))), (9, .long (lN S)), (11, .long (lN (rt nx))), (15, .long (lN L)), (13, .long (lN T))]) C d_M_step_208 (by decide) rfl ?_
        refine g_iload_n C rfl rfl d_M_step_210 ?_
        refine g_if_eq (tgt := 219) C d_M_step_211 (by decide) (fun j211 => ?_) (fun j211 => ?_)
        · exact absurd j211 (by decide)
        refine g_lload C rfl d_M_step_214 ?_
        refine g_goto (tgt := 221) C d_M_step_216 (by decide) ?_
        refine g_lstore (lv' := [(25, .long (lN S)), (23, .long (lN P)), (21, .long (lN P)), (0, .ref (ad o m)), (1, .int (nI p)), (2, .int (bz true)), (3, .int (bz true)), (4, .long (lN r)), (8, .int (iI ((nx : Int) - 40))), (9, .long (lN S)), (11, .long (lN (rt nx))), (15, .long (lN L)), (13, .long (lN T))]) C d_M_step_221 (by decide) rfl ?_
        refine g_iload_n C rfl rfl d_M_step_223 ?_
        refine g_if_eq (tgt := 240) C d_M_step_224 (by decide) (fun j224 => ?_) (fun j224 => ?_)
        · exact absurd j224 (by decide)
        refine g_lload C rfl d_M_step_227 ?_
        refine g_lload C rfl d_M_step_229 ?_
        refine g_lload C rfl d_M_step_231 ?_
        refine g_iconst (v := 1) C rfl d_M_step_233 ?_
        refine g_callS C (c_M_near true P S L (by omega) hdP hS2 hL) Y_M_near m_764 m_763 ⟨by decide, by decide⟩ ⟨by decide, by decide⟩ (fun h => nomatch h) d_M_step_234 rfl (Nat.le_of_ble_eq_true rfl) (fun ret sg234 hq => ?_)
        obtain ⟨rfl, rfl⟩ := hq
        rw [show zNear true L P S = I from hIe]
        refine g_goto (tgt := 250) C d_M_step_237 (by decide) ?_
        refine g_lstore (lv' := [(27, .long (lN I)), (25, .long (lN S)), (23, .long (lN P)), (21, .long (lN P)), (0, .ref (ad o m)), (1, .int (nI p)), (2, .int (bz true)), (3, .int (bz true)), (4, .long (lN r)), (8, .int (iI ((nx : Int) - 40))), (9, .long (lN S)), (11, .long (lN (rt nx))), (15, .long (lN L)), (13, .long (lN T))]) C d_M_step_250 (by decide) rfl ?_
        refine g_iload_n C rfl rfl d_M_step_252 ?_
        refine g_if_eq (tgt := 269) C d_M_step_253 (by decide) (fun j253 => ?_) (fun j253 => ?_)
        · exact absurd j253 (by decide)
        refine g_lload C rfl d_M_step_256 ?_
        refine g_lload C rfl d_M_step_258 ?_
        refine g_lload C rfl d_M_step_260 ?_
        refine g_iconst (v := 0) C rfl d_M_step_262 ?_
        refine g_callS C (c_M_far false P S L hdP hS2 hL) Y_M_far m_778 m_777 ⟨by decide, by decide⟩ ⟨by decide, by decide⟩ (fun h => nomatch h) d_M_step_263 rfl (Nat.le_of_ble_eq_true rfl) (fun ret sg263 hq => ?_)
        obtain ⟨rfl, rfl⟩ := hq
        rw [show zFar false L P S = zOut true L S P from rfl]
        refine g_goto (tgt := 279) C d_M_step_266 (by decide) ?_
        rw [show zOut true L S P = O from zGot_t.symm.trans hOe]
        refine g_lstore (lv' := [(29, .long (lN O)), (27, .long (lN I)), (25, .long (lN S)), (23, .long (lN P)), (21, .long (lN P)), (0, .ref (ad o m)), (1, .int (nI p)), (2, .int (bz true)), (3, .int (bz true)), (4, .long (lN r)), (8, .int (iI ((nx : Int) - 40))), (9, .long (lN S)), (11, .long (lN (rt nx))), (15, .long (lN L)), (13, .long (lN T))]) C d_M_step_279 (by decide) rfl ?_
        refine g_iload_n C rfl rfl d_M_step_281 ?_
        refine g_if_ne (tgt := 298) C d_M_step_282 (by decide) (fun j282 => ?_) (fun j282 => ?_)
        rotate_left
        · exact absurd j282 (by decide)
        refine g_lload C rfl d_M_step_298 ?_
        refine g_pick [5, 6, 7, 8, 9, 10, 11, 12, 13, 14, 4, 1] rfl ?_
        exact mid3
      have hN3 : zIn true L S T < 2 ^ 63 := Nat.lt_of_le_of_lt (zIn_b hL hS hTb.1 hS2 hTb.2 hd) (by decide : 2100000000 < 2 ^ 63)
      have hU63 : (r * (1000 - f) / 1000) < 2 ^ 63 := by omega
      have mid : G K o n sg 0 0 61 [(0, .ref (ad o m)), (1, .int (nI p)), (2, .int (bz true)), (3, .int (bz true)), (4, .long (lN r)), (8, .int (iI ((nx : Int) - 40))), (9, .long (lN S)), (11, .long (lN (rt nx))), (6, .long (lN M))] [.long (lN T)] := by
        by_cases hit : zIn true L S T ≤ (r * (1000 - f) / 1000)
        · have hPT : P = T := hPe.trans (pr_tT hit)
          refine g_lstore (lv' := [(13, .long (lN T)), (0, .ref (ad o m)), (1, .int (nI p)), (2, .int (bz true)), (3, .int (bz true)), (4, .long (lN r)), (8, .int (iI ((nx : Int) - 40))), (9, .long (lN S)), (11, .long (lN (rt nx))), (6, .long (lN M))]) C d_M_step_61 (by decide) rfl ?_
          refine g_aload_n C rfl rfl d_M_step_63 ?_
          refine g_iload_n C rfl rfl d_M_step_64 ?_
          refine g_aload_n C rfl rfl d_M_step_65 ?_
          refine gf_M_63 C d_M_step_66 (by first | assumption | omega) (by repeat' first | assumption | exact up_eq _ _ _ | refine up_ne (by omega) ?_) (by rfl) ?_
          refine g_iload_n C rfl rfl d_M_step_69 ?_
          refine g_iald C d_M_step_70 (by first | assumption | omega) (by repeat' first | assumption | exact up_eq _ _ _ | refine up_ne (by omega) ?_) hin ?_
          rw [hcl, htz]
          refine g_callV C (c_M_depth p tz hn hM hP hB hp h5 h6) Y_M_depth m_829 s_M_depth m_827 rfl rfl ⟨by decide, by decide⟩ ⟨by decide, by decide⟩ (fun h => nomatch h) d_M_step_71 (by first | assumption | omega) (by repeat' first | assumption | exact up_eq _ _ _ | refine up_ne (by omega) ?_) rfl (Nat.le_of_ble_eq_true rfl) (fun ret sg71 hq => ?_)
          obtain ⟨rfl, rfl⟩ := hq
          rw [← hLe]
          refine g_lstore (lv' := [(15, .long (lN L)), (13, .long (lN T)), (0, .ref (ad o m)), (1, .int (nI p)), (2, .int (bz true)), (3, .int (bz true)), (4, .long (lN r)), (8, .int (iI ((nx : Int) - 40))), (9, .long (lN S)), (11, .long (lN (rt nx))), (6, .long (lN M))]) C d_M_step_74 (by decide) rfl ?_
          refine g_iload_n C rfl rfl d_M_step_76 ?_
          refine g_if_eq (tgt := 101) C d_M_step_77 (by decide) (fun j77 => ?_) (fun j77 => ?_)
          · exact absurd j77 (by decide)
          refine g_lload C rfl d_M_step_80 ?_
          refine g_ldc2 C m_835 d_M_step_82 ?_
          refine g_aload_n C rfl rfl d_M_step_85 ?_
          refine gf_M_22 C d_M_step_86 (by first | assumption | omega) (by repeat' first | assumption | exact up_eq _ _ _ | refine up_ne (by omega) ?_) (by rfl) ?_
          refine g_iload_n C rfl rfl d_M_step_89 ?_
          refine g_iald C d_M_step_90 (by first | assumption | omega) (by repeat' first | assumption | exact up_eq _ _ _ | refine up_ne (by omega) ?_) hin ?_
          rw [hcl, hfp]
          refine g_i2l C d_M_step_91 ?_
          refine g_lsub C d_M_step_92 ?_
          refine g_lmul C d_M_step_93 ?_
          refine g_ldc2 C m_835 d_M_step_94 ?_
          refine g_ldiv C (by decide) d_M_step_97 ?_
          rw [us_nl hrr hf]
          refine g_goto (tgt := 103) C d_M_step_98 (by decide) ?_
          refine g_lstore (lv' := [(17, .long (lN (r * (1000 - f) / 1000))), (15, .long (lN L)), (13, .long (lN T)), (0, .ref (ad o m)), (1, .int (nI p)), (2, .int (bz true)), (3, .int (bz true)), (4, .long (lN r)), (8, .int (iI ((nx : Int) - 40))), (9, .long (lN S)), (11, .long (lN (rt nx))), (6, .long (lN M))]) C d_M_step_103 (by decide) rfl ?_
          refine g_iload_n C rfl rfl d_M_step_105 ?_
          refine g_iload_n C rfl rfl d_M_step_106 ?_
          refine g_icmp_ne (tgt := 141) C d_M_step_107 (by decide) (fun j107 => ?_) (fun j107 => ?_)
          · exact absurd rfl j107
          refine g_iload_n C rfl rfl d_M_step_110 ?_
          refine g_if_eq (tgt := 119) C d_M_step_111 (by decide) (fun j111 => ?_) (fun j111 => ?_)
          · exact absurd j111 (by decide)
          refine g_lload C rfl d_M_step_114 ?_
          refine g_goto (tgt := 121) C d_M_step_116 (by decide) ?_
          refine g_iload_n C rfl rfl d_M_step_121 ?_
          refine g_if_eq (tgt := 130) C d_M_step_122 (by decide) (fun j122 => ?_) (fun j122 => ?_)
          · exact absurd j122 (by decide)
          refine g_lload C rfl d_M_step_125 ?_
          refine g_goto (tgt := 132) C d_M_step_127 (by decide) ?_
          refine g_lload C rfl d_M_step_132 ?_
          refine g_iload_n C rfl rfl d_M_step_134 ?_
          refine g_callS C (c_M_near true T S L (by omega) hd hS2 hL) Y_M_near m_764 m_763 ⟨by decide, by decide⟩ ⟨by decide, by decide⟩ (fun h => nomatch h) d_M_step_135 rfl (Nat.le_of_ble_eq_true rfl) (fun ret sg135 hq => ?_)
          obtain ⟨rfl, rfl⟩ := hq
          rw [show zNear true L T S = zIn true L S T from rfl]
          refine g_goto (tgt := 169) C d_M_step_138 (by decide) ?_
          refine g_lstore (lv' := [(19, .long (lN (zIn true L S T))), (17, .long (lN (r * (1000 - f) / 1000))), (15, .long (lN L)), (13, .long (lN T)), (0, .ref (ad o m)), (1, .int (nI p)), (2, .int (bz true)), (3, .int (bz true)), (4, .long (lN r)), (8, .int (iI ((nx : Int) - 40))), (9, .long (lN S)), (11, .long (lN (rt nx))), (6, .long (lN M))]) C d_M_step_169 (by decide) rfl ?_
          refine g_lload C rfl d_M_step_171 ?_
          refine g_lload C rfl d_M_step_173 ?_
          refine g_lcmp_lt (tgt := 184) C d_M_step_175 d_M_step_176 (by decide) (fun j175 => ?_) (fun j175 => ?_)
          · exact absurd ((pk_lLT hU63 hN3).mp j175) (Nat.not_lt.mpr hit)
          refine g_lload C rfl d_M_step_179 ?_
          refine g_goto (tgt := 195) C d_M_step_181 (by decide) ?_
          refine g_pick [4, 5, 6, 7, 8, 9, 10, 11, 2, 3] rfl ?_
          rw [hPT] at mid2
          exact mid2
        · have hPW : zWi true true L S (r * (1000 - f) / 1000) = P := (hPe.trans (pr_wiT hit)).symm
          have hL0 : 0 < L := L_pos_in (dn := true) (S := S) (T := T) (Nat.not_le.mp hit)
          refine g_lstore (lv' := [(13, .long (lN T)), (0, .ref (ad o m)), (1, .int (nI p)), (2, .int (bz true)), (3, .int (bz true)), (4, .long (lN r)), (8, .int (iI ((nx : Int) - 40))), (9, .long (lN S)), (11, .long (lN (rt nx))), (6, .long (lN M))]) C d_M_step_61 (by decide) rfl ?_
          refine g_aload_n C rfl rfl d_M_step_63 ?_
          refine g_iload_n C rfl rfl d_M_step_64 ?_
          refine g_aload_n C rfl rfl d_M_step_65 ?_
          refine gf_M_63 C d_M_step_66 (by first | assumption | omega) (by repeat' first | assumption | exact up_eq _ _ _ | refine up_ne (by omega) ?_) (by rfl) ?_
          refine g_iload_n C rfl rfl d_M_step_69 ?_
          refine g_iald C d_M_step_70 (by first | assumption | omega) (by repeat' first | assumption | exact up_eq _ _ _ | refine up_ne (by omega) ?_) hin ?_
          rw [hcl, htz]
          refine g_callV C (c_M_depth p tz hn hM hP hB hp h5 h6) Y_M_depth m_829 s_M_depth m_827 rfl rfl ⟨by decide, by decide⟩ ⟨by decide, by decide⟩ (fun h => nomatch h) d_M_step_71 (by first | assumption | omega) (by repeat' first | assumption | exact up_eq _ _ _ | refine up_ne (by omega) ?_) rfl (Nat.le_of_ble_eq_true rfl) (fun ret sg71 hq => ?_)
          obtain ⟨rfl, rfl⟩ := hq
          rw [← hLe]
          refine g_lstore (lv' := [(15, .long (lN L)), (13, .long (lN T)), (0, .ref (ad o m)), (1, .int (nI p)), (2, .int (bz true)), (3, .int (bz true)), (4, .long (lN r)), (8, .int (iI ((nx : Int) - 40))), (9, .long (lN S)), (11, .long (lN (rt nx))), (6, .long (lN M))]) C d_M_step_74 (by decide) rfl ?_
          refine g_iload_n C rfl rfl d_M_step_76 ?_
          refine g_if_eq (tgt := 101) C d_M_step_77 (by decide) (fun j77 => ?_) (fun j77 => ?_)
          · exact absurd j77 (by decide)
          refine g_lload C rfl d_M_step_80 ?_
          refine g_ldc2 C m_835 d_M_step_82 ?_
          refine g_aload_n C rfl rfl d_M_step_85 ?_
          refine gf_M_22 C d_M_step_86 (by first | assumption | omega) (by repeat' first | assumption | exact up_eq _ _ _ | refine up_ne (by omega) ?_) (by rfl) ?_
          refine g_iload_n C rfl rfl d_M_step_89 ?_
          refine g_iald C d_M_step_90 (by first | assumption | omega) (by repeat' first | assumption | exact up_eq _ _ _ | refine up_ne (by omega) ?_) hin ?_
          rw [hcl, hfp]
          refine g_i2l C d_M_step_91 ?_
          refine g_lsub C d_M_step_92 ?_
          refine g_lmul C d_M_step_93 ?_
          refine g_ldc2 C m_835 d_M_step_94 ?_
          refine g_ldiv C (by decide) d_M_step_97 ?_
          rw [us_nl hrr hf]
          refine g_goto (tgt := 103) C d_M_step_98 (by decide) ?_
          refine g_lstore (lv' := [(17, .long (lN (r * (1000 - f) / 1000))), (15, .long (lN L)), (13, .long (lN T)), (0, .ref (ad o m)), (1, .int (nI p)), (2, .int (bz true)), (3, .int (bz true)), (4, .long (lN r)), (8, .int (iI ((nx : Int) - 40))), (9, .long (lN S)), (11, .long (lN (rt nx))), (6, .long (lN M))]) C d_M_step_103 (by decide) rfl ?_
          refine g_iload_n C rfl rfl d_M_step_105 ?_
          refine g_iload_n C rfl rfl d_M_step_106 ?_
          refine g_icmp_ne (tgt := 141) C d_M_step_107 (by decide) (fun j107 => ?_) (fun j107 => ?_)
          · exact absurd rfl j107
          refine g_iload_n C rfl rfl d_M_step_110 ?_
          refine g_if_eq (tgt := 119) C d_M_step_111 (by decide) (fun j111 => ?_) (fun j111 => ?_)
          · exact absurd j111 (by decide)
          refine g_lload C rfl d_M_step_114 ?_
          refine g_goto (tgt := 121) C d_M_step_116 (by decide) ?_
          refine g_iload_n C rfl rfl d_M_step_121 ?_
          refine g_if_eq (tgt := 130) C d_M_step_122 (by decide) (fun j122 => ?_) (fun j122 => ?_)
          · exact absurd j122 (by decide)
          refine g_lload C rfl d_M_step_125 ?_
          refine g_goto (tgt := 132) C d_M_step_127 (by decide) ?_
          refine g_lload C rfl d_M_step_132 ?_
          refine g_iload_n C rfl rfl d_M_step_134 ?_
          refine g_callS C (c_M_near true T S L (by omega) hd hS2 hL) Y_M_near m_764 m_763 ⟨by decide, by decide⟩ ⟨by decide, by decide⟩ (fun h => nomatch h) d_M_step_135 rfl (Nat.le_of_ble_eq_true rfl) (fun ret sg135 hq => ?_)
          obtain ⟨rfl, rfl⟩ := hq
          rw [show zNear true L T S = zIn true L S T from rfl]
          refine g_goto (tgt := 169) C d_M_step_138 (by decide) ?_
          refine g_lstore (lv' := [(19, .long (lN (zIn true L S T))), (17, .long (lN (r * (1000 - f) / 1000))), (15, .long (lN L)), (13, .long (lN T)), (0, .ref (ad o m)), (1, .int (nI p)), (2, .int (bz true)), (3, .int (bz true)), (4, .long (lN r)), (8, .int (iI ((nx : Int) - 40))), (9, .long (lN S)), (11, .long (lN (rt nx))), (6, .long (lN M))]) C d_M_step_169 (by decide) rfl ?_
          refine g_lload C rfl d_M_step_171 ?_
          refine g_lload C rfl d_M_step_173 ?_
          refine g_lcmp_lt (tgt := 184) C d_M_step_175 d_M_step_176 (by decide) (fun j175 => ?_) (fun j175 => ?_)
          rotate_left
          · exact absurd ((pk_lLT hU63 hN3).mpr (Nat.not_le.mp hit)) j175
          refine g_iload_n C rfl rfl d_M_step_184 ?_
          refine g_iload_n C rfl rfl d_M_step_185 ?_
          refine g_lload C rfl d_M_step_186 ?_
          refine g_lload C rfl d_M_step_188 ?_
          refine g_lload C rfl d_M_step_190 ?_
          refine g_callS C (c_M_within true true S L (r * (1000 - f) / 1000) hL0 hL (by omega) hS2 (by omega) (fun q => absurd q (by decide)) (fun q => absurd q (by decide))) Y_M_within m_837 m_836 ⟨by decide, by decide⟩ ⟨by decide, by decide⟩ (fun h => nomatch h) d_M_step_192 rfl (Nat.le_of_ble_eq_true rfl) (fun ret sg192 hq => ?_)
          obtain ⟨rfl, rfl⟩ := hq
          rw [hPW]
          refine g_pick [4, 5, 6, 7, 8, 9, 10, 11, 2, 3] rfl ?_
          exact mid2
      refine g_aload_n C rfl rfl d_M_step_0 ?_
      refine g_iload_n C rfl rfl d_M_step_1 ?_
      refine g_iload_n C rfl rfl d_M_step_2 ?_
      refine g_callV C (c_M_nextTick p tz true hn hM hP hB hA hp hnt htz n1 h5 h6 n2) Y_M_nextTick m_821 s_M_nextTick m_819 rfl rfl ⟨by decide, by decide⟩ ⟨by decide, by decide⟩ (fun h => nomatch h) d_M_step_3 (by first | assumption | omega) (by repeat' first | assumption | exact up_eq _ _ _ | refine up_ne (by omega) ?_) rfl (Nat.le_of_ble_eq_true rfl) (fun ret sg3 hq => ?_)
      obtain ⟨rfl, rfl⟩ := hq
      rw [← hnx]
      refine g_istore (lv' := [(8, .int (iI ((nx : Int) - 40))), (0, .ref (ad o m)), (1, .int (nI p)), (2, .int (bz true)), (3, .int (bz true)), (4, .long (lN r)), (6, .long (lN M))]) C d_M_step_6 (by decide) rfl ?_
      refine g_aload_n C rfl rfl d_M_step_8 ?_
      refine gf_M_60 C d_M_step_9 (by first | assumption | omega) (by repeat' first | assumption | exact up_eq _ _ _ | refine up_ne (by omega) ?_) (by rfl) ?_
      refine g_iload_n C rfl rfl d_M_step_12 ?_
      refine g_lald C d_M_step_13 (by first | assumption | omega) (by repeat' first | assumption | exact up_eq _ _ _ | refine up_ne (by omega) ?_) hin ?_
      rw [hcl, hSe]
      refine g_lstore (lv' := [(9, .long (lN S)), (8, .int (iI ((nx : Int) - 40))), (0, .ref (ad o m)), (1, .int (nI p)), (2, .int (bz true)), (3, .int (bz true)), (4, .long (lN r)), (6, .long (lN M))]) C d_M_step_14 (by decide) rfl ?_
      refine g_aload_n C rfl rfl d_M_step_16 ?_
      refine g_iload C rfl d_M_step_17 ?_
      refine g_callV C (c_M_rootOf ((nx : Int) - 40) hn hM hR (by omega) (by omega)) Y_M_rootOf m_761 s_M_rootOf m_759 rfl rfl ⟨by decide, by decide⟩ ⟨by decide, by decide⟩ (fun h => nomatch h) d_M_step_19 (by first | assumption | omega) (by repeat' first | assumption | exact up_eq _ _ _ | refine up_ne (by omega) ?_) rfl (Nat.le_of_ble_eq_true rfl) (fun ret sg19 hq => ?_)
      obtain ⟨rfl, rfl⟩ := hq
      rw [htx]
      refine g_lstore (lv' := [(11, .long (lN (rt nx))), (9, .long (lN S)), (8, .int (iI ((nx : Int) - 40))), (0, .ref (ad o m)), (1, .int (nI p)), (2, .int (bz true)), (3, .int (bz true)), (4, .long (lN r)), (6, .long (lN M))]) C d_M_step_22 (by decide) rfl ?_
      refine g_iload_n C rfl rfl d_M_step_24 ?_
      refine g_if_eq (tgt := 46) C d_M_step_25 (by decide) (fun j25 => ?_) (fun j25 => ?_)
      · exact absurd j25 (by decide)
      refine g_lload C rfl d_M_step_28 ?_
      refine g_lload C rfl d_M_step_30 ?_
      refine g_lcmp_le (tgt := 41) C d_M_step_32 d_M_step_33 (by decide) (fun j32 => ?_) (fun j32 => ?_)
      · refine g_lload C rfl d_M_step_41 ?_
        refine g_goto (tgt := 61) C d_M_step_43 (by decide) ?_
        refine g_pick [3, 4, 5, 6, 7, 2, 1, 0, 8] rfl ?_
        first | (have w : ¬ lN (rt nx) ≤ lN M := (by assumption); have v : T = rt nx := (by rw [hTe, zTg_t, Nat.max_eq_left (Nat.le_of_lt (Nat.not_le.mp (fun q => w ((pk_lLE hrx3 hM3).mpr q))))]); rw [v] at mid; exact mid) | (have w : lN (rt nx) ≤ lN M := (by assumption); have v : T = M := (by rw [hTe, zTg_t, Nat.max_eq_right ((pk_lLE hrx3 hM3).mp w)]); rw [v] at mid; exact mid)
      · refine g_lload C rfl d_M_step_36 ?_
        refine g_goto (tgt := 61) C d_M_step_38 (by decide) ?_
        refine g_pick [3, 4, 5, 6, 7, 2, 1, 0, 8] rfl ?_
        first | (have w : ¬ lN (rt nx) ≤ lN M := (by assumption); have v : T = rt nx := (by rw [hTe, zTg_t, Nat.max_eq_left (Nat.le_of_lt (Nat.not_le.mp (fun q => w ((pk_lLE hrx3 hM3).mpr q))))]); rw [v] at mid; exact mid) | (have w : lN (rt nx) ≤ lN M := (by assumption); have v : T = M := (by rw [hTe, zTg_t, Nat.max_eq_right ((pk_lLE hrx3 hM3).mp w)]); rw [v] at mid; exact mid)

