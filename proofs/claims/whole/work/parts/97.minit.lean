-- THE REFERENCE IS MADE
def M0 (s : Nat → va_E) (o m : Nat) : Prop := isM s o m 0 0 ∧ s (m + 2) = eJ 12 (fun _ => 0) ∧ s (m + 3) = eJ 3 (fun _ => 0) ∧ s (m + 4) = eJ 3 (fun _ => 0) ∧ s (m + 7) = eI 2 (fun _ => 0) ∧ s (m + 8) = eJ 4 (fun _ => 0) ∧ s (m + 9) = eZ 12 (fun _ => 0) ∧ s (m + 10) = eI 12 (fun _ => 0) ∧ s (m + 11) = eI 12 (fun _ => 0) ∧ s (m + 12) = eI 12 (fun _ => 0) ∧ s (m + 13) = eI 12 (fun _ => 0) ∧ s (m + 14) = eJ 12 (fun _ => 0) ∧ s (m + 15) = eJ 24 (fun _ => 0) ∧ s (m + 16) = eJ 24 (fun _ => 0) ∧ s (m + 17) = eJ 2 (fun _ => 0) ∧ s (m + 18) = eI 2 (fun _ => 0) ∧ s (m + 19) = eJ 2 (fun _ => 0) ∧ s (m + 20) = eJ 2 (fun _ => 0) ∧ s (m + 21) = eJ 2 (fun _ => 0) ∧ s (m + 22) = eJ 12 (fun _ => 0)
theorem M0_mv {s s' : Nat → va_E} {o m : Nat} (h : M0 s o m) (e : ∀ j, m ≤ j → j ≤ m + 22 → j ≠ m + 1 → j ≠ m + 5 → j ≠ m + 6 → s' j = s j) : M0 s' o m := by
  obtain ⟨h0, h2, h3, h4, h7, h8, h9, h10, h11, h12, h13, h14, h15, h16, h17, h18, h19, h20, h21, h22⟩ := h
  exact ⟨(e m (by omega) (by omega) (by omega) (by omega) (by omega)).trans h0, (e (m + 2) (by omega) (by omega) (by omega) (by omega) (by omega)).trans h2, (e (m + 3) (by omega) (by omega) (by omega) (by omega) (by omega)).trans h3, (e (m + 4) (by omega) (by omega) (by omega) (by omega) (by omega)).trans h4, (e (m + 7) (by omega) (by omega) (by omega) (by omega) (by omega)).trans h7, (e (m + 8) (by omega) (by omega) (by omega) (by omega) (by omega)).trans h8, (e (m + 9) (by omega) (by omega) (by omega) (by omega) (by omega)).trans h9, (e (m + 10) (by omega) (by omega) (by omega) (by omega) (by omega)).trans h10, (e (m + 11) (by omega) (by omega) (by omega) (by omega) (by omega)).trans h11, (e (m + 12) (by omega) (by omega) (by omega) (by omega) (by omega)).trans h12, (e (m + 13) (by omega) (by omega) (by omega) (by omega) (by omega)).trans h13, (e (m + 14) (by omega) (by omega) (by omega) (by omega) (by omega)).trans h14, (e (m + 15) (by omega) (by omega) (by omega) (by omega) (by omega)).trans h15, (e (m + 16) (by omega) (by omega) (by omega) (by omega) (by omega)).trans h16, (e (m + 17) (by omega) (by omega) (by omega) (by omega) (by omega)).trans h17, (e (m + 18) (by omega) (by omega) (by omega) (by omega) (by omega)).trans h18, (e (m + 19) (by omega) (by omega) (by omega) (by omega) (by omega)).trans h19, (e (m + 20) (by omega) (by omega) (by omega) (by omega) (by omega)).trans h20, (e (m + 21) (by omega) (by omega) (by omega) (by omega) (by omega)).trans h21, (e (m + 22) (by omega) (by omega) (by omega) (by omega) (by omega)).trans h22⟩
theorem th0 {f1 f2 : Int32} : (fun _ => 0) = fun i => bz (zth (Z0 f1 f2) i) := by
  funext i
  have e : zth (Z0 f1 f2) i = false := by
    show decide (0 < 0 ∨ ¬ (0 : Int64) = 0 ∨ ¬ (0 : Int64) = 0) = false
    decide
  rw [e]
  rfl
theorem fe0 {f1 f2 : Int32} : upd (upd (fun _ => 0) 0 (nI (zF f1))) 1 (nI (zF f2)) = fun i => nI (zfee (Z0 f1 f2) i) := by
  show upd (upd (fun i => nI ((fun _ => 0) i)) 0 (nI (zF f1))) 1 (nI (zF f2)) = _
  rw [updN_i, updN_i]
  rfl
theorem pr0 {f1 f2 : Int32} : vp_updL (vp_updL (fun _ => 0) 0 (lN 4294967296)) 1 (lN 4294967296) = fun i => lN (zpr (Z0 f1 f2) i) := by
  show vp_updL (vp_updL (fun i => lN ((fun _ => 0) i)) 0 (lN 4294967296)) 1 (lN 4294967296) = _
  rw [updN_l, updN_l]
  rfl
theorem MW0 {s : Nat → va_E} {o m : Nat} {f1 f2 : Int32} (h : M0 s o m) (hR : isMR s m) (h5 : s (m + 5) = eI 2 (upd (upd (fun _ => 0) 0 (nI (zF f1))) 1 (nI (zF f2)))) (h6 : s (m + 6) = eJ 2 (vp_updL (vp_updL (fun _ => 0) 0 (lN 4294967296)) 1 (lN 4294967296))) : MW s o m 0 (Z0 f1 f2) := by
  obtain ⟨h0, h2, h3, h4, h7, h8, h9, h10, h11, h12, h13, h14, h15, h16, h17, h18, h19, h20, h21, h22⟩ := h
  rw [fe0] at h5
  rw [pr0 (f1 := f1) (f2 := f2)] at h6
  rw [th0 (f1 := f1) (f2 := f2)] at h9
  exact ⟨h0, ⟨hR, h2, h3, h4, h5, h6, h7, h8, ⟨h9, h10, h11, h12, h13, h14⟩, h15, h16⟩, ⟨_, _, _, _, _, _, h17, h18, h19, h20, h21, h22⟩⟩
set_option maxHeartbeats 16000000 in
theorem M_rest {K : GX} {o m : Nat} {sg : Nat → va_E} {f1 f2 : Int32} (C : GOk K b_M_init 4 y_M_init.cls (gRm 2 40 22 251) o) (hr : (xM K).sig.returnType = none) (hnm : (xM K).name = y_M_init.name) (E : GEnd K o (m + 23) 22 251 (fun r s => none = r ∧ MW s o m 0 (Z0 f1 f2) ∧ ∀ j, j < m → s j = sg j)) : ∀ (s : Nat → va_E), M0 s o m → s (m + 1) = eJ 81 (fun _ => 0) → s (m + 5) = eI 2 (fun _ => 0) → s (m + 6) = eJ 2 (fun _ => 0) → (∀ j, j < m → s j = sg j) → G K o (m + 23) s 22 251 169 [(0, .ref (ad o m)), (1, .int f1), (2, .int f2)] [] := by
  have i0 : vp_in (0 : Int32) 2 := vp_in_nI (n := 0) (by decide) (by decide)
  have i1 : vp_in (1 : Int32) 2 := vp_in_nI (n := 1) (by decide) (by decide)
  have z0 : (0 : Int32).toNatClampNeg = 0 := rfl
  have z1 : (1 : Int32).toNatClampNeg = 1 := rfl
  have st4 : ∀ (k i : Nat), i + k = 40 → ∀ (x : Int32) (s : Nat → va_E) (f : Nat → Int64), x = nI i → M0 s o m → s (m + 1) = eJ 81 f → (∀ j, 40 ≤ j + i → j ≤ 40 + i → f j = lN (rt j)) → s (m + 5) = eI 2 (upd (upd (fun _ => 0) 0 (nI (zF f1))) 1 (nI (zF f2))) → s (m + 6) = eJ 2 (fun _ => 0) → (∀ j, j < m → s j = sg j) → G K o (m + 23) s 22 251 233 [(0, .ref (ad o m)), (3, .int x)] [] := by
    intro k
    induction k with
    | zero =>
      intro i hk x s f hx h1 h2 hf h5 h6 hF
      have hi : i = 40 := by omega
      subst hi hx
      have e0 : s m = _ := h1.1
      refine g_iload_n C rfl rfl d_M_init_233 ?_
      refine g_bipush (v := 40) C rfl d_M_init_234 ?_
      refine g_icmp_ge (tgt := 309) C d_M_init_236 (by decide) (fun j236 => ?_) (fun j236 => ?_)
      rotate_left
      · exact absurd (by decide) j236
      refine g_aload_n C rfl rfl d_M_init_309 ?_
      refine gf_M_26 C d_M_init_310 (by first | assumption | omega) (by repeat' first | assumption | exact up_eq _ _ _ | refine up_ne (by omega) ?_) (by rfl) ?_
      refine g_iconst (v := 0) C rfl d_M_init_313 ?_
      refine g_ldc2 C m_640 d_M_init_314 ?_
      refine g_last C d_M_init_317 (by first | assumption | omega) (by repeat' first | assumption | exact up_eq _ _ _ | refine up_ne (by omega) ?_) i0 ?_
      rw [z0]
      refine g_aload_n C rfl rfl d_M_init_318 ?_
      refine gf_M_26 C d_M_init_319 (by first | assumption | omega) (by repeat' first | assumption | exact up_eq _ _ _ | refine up_ne (by omega) ?_) (by rfl) ?_
      refine g_iconst (v := 1) C rfl d_M_init_322 ?_
      refine g_ldc2 C m_640 d_M_init_323 ?_
      refine g_last C d_M_init_326 (by first | assumption | omega) (by repeat' first | assumption | exact up_eq _ _ _ | refine up_ne (by omega) ?_) i1 ?_
      rw [z1]
      refine g_vret C E hr d_M_init_327 ?_
      exact ⟨rfl, MW0 (M0_mv h1 (fun j a b c d e => up_ne e (up_ne e rfl))) ⟨f, up_ne (by omega) (up_ne (by omega) h2), fun i hi => hf i (by omega) (by omega)⟩ (up_ne (by omega) (up_ne (by omega) h5)) (up_eq _ _ _), fun j q => up_ne (by omega) (up_ne (by omega) (hF j q))⟩
    | succ k ih =>
      intro i hk x s f hx h1 h2 hf h5 h6 hF
      subst hx
      have e0 : s m = _ := h1.1
      have a1 : (41 : Int32) + nI i = nI (41 + i) := nI_add 41 i
      have a2 : (40 : Int32) + nI i = nI (40 + i) := nI_add 40 i
      have a3 : (39 : Int32) - nI i = nI (39 - i) := by rw [← iI_nat i, show (39 : Int32) = iI 39 from by decide, iI_sub, ← iI_nat]; congr 1; omega
      have a4 : (40 : Int32) - nI i = nI (40 - i) := by rw [← iI_nat i, show (40 : Int32) = iI 40 from by decide, iI_sub, ← iI_nat]; congr 1; omega
      have c1 : (nI (41 + i)).toNatClampNeg = 41 + i := nI_clamp (by omega)
      have c2 : (nI (40 + i)).toNatClampNeg = 40 + i := nI_clamp (by omega)
      have c3 : (nI (39 - i)).toNatClampNeg = 39 - i := nI_clamp (by omega)
      have c4 : (nI (40 - i)).toNatClampNeg = 40 - i := nI_clamp (by omega)
      have f2' := hf (40 + i) (by omega) (by omega)
      have f4' := hf (40 - i) (by omega) (by omega)
      have u1 : lN (rt (40 + i)) + lN (rt (40 + i)) / 32 = lN (rt (41 + i)) := by rw [l_up (by omega) (by omega)]; congr 2; omega
      have u2 : lN (rt (40 - i)) - lN (rt (40 - i)) / 33 = lN (rt (39 - i)) := by rw [show 40 - i = (39 - i) + 1 by omega]; exact l_dn (by omega)
      refine g_iload_n C rfl rfl d_M_init_233 ?_
      refine g_bipush (v := 40) C rfl d_M_init_234 ?_
      refine g_icmp_ge (tgt := 309) C d_M_init_236 (by decide) (fun j236 => ?_) (fun j236 => ?_)
      · exact absurd j236 (nI_ge (b := 40) (by omega) (by omega))
      refine g_aload_n C rfl rfl d_M_init_239 ?_
      refine gf_M_7 C d_M_init_240 (by first | assumption | omega) (by repeat' first | assumption | exact up_eq _ _ _ | refine up_ne (by omega) ?_) (by rfl) ?_
      refine g_bipush (v := 41) C rfl d_M_init_243 ?_
      refine g_iload_n C rfl rfl d_M_init_245 ?_
      refine g_iadd C d_M_init_246 ?_
      refine g_aload_n C rfl rfl d_M_init_247 ?_
      refine gf_M_7 C d_M_init_248 (by first | assumption | omega) (by repeat' first | assumption | exact up_eq _ _ _ | refine up_ne (by omega) ?_) (by rfl) ?_
      refine g_bipush (v := 40) C rfl d_M_init_251 ?_
      refine g_iload_n C rfl rfl d_M_init_253 ?_
      refine g_iadd C d_M_init_254 ?_
      rw [a2]
      refine g_lald C d_M_init_255 (by first | assumption | omega) (by repeat' first | assumption | exact up_eq _ _ _ | refine up_ne (by omega) ?_) (vp_in_nI (by omega) (by decide)) ?_
      rw [c2, f2']
      refine g_aload_n C rfl rfl d_M_init_256 ?_
      refine gf_M_7 C d_M_init_257 (by first | assumption | omega) (by repeat' first | assumption | exact up_eq _ _ _ | refine up_ne (by omega) ?_) (by rfl) ?_
      refine g_bipush (v := 40) C rfl d_M_init_260 ?_
      refine g_iload_n C rfl rfl d_M_init_262 ?_
      refine g_iadd C d_M_init_263 ?_
      rw [a2]
      refine g_lald C d_M_init_264 (by first | assumption | omega) (by repeat' first | assumption | exact up_eq _ _ _ | refine up_ne (by omega) ?_) (vp_in_nI (by omega) (by decide)) ?_
      rw [c2, f2']
      refine g_ldc2 C m_641 d_M_init_265 ?_
      refine g_ldiv C (by first | assumption | decide) d_M_init_268 ?_
      refine g_ladd C d_M_init_269 ?_
      rw [u1, a1]
      refine g_last C d_M_init_270 (by first | assumption | omega) (by repeat' first | assumption | exact up_eq _ _ _ | refine up_ne (by omega) ?_) (vp_in_nI (by omega) (by decide)) ?_
      rw [c1]
      refine g_aload_n C rfl rfl d_M_init_271 ?_
      refine gf_M_7 C d_M_init_272 (by first | assumption | omega) (by repeat' first | assumption | exact up_eq _ _ _ | refine up_ne (by omega) ?_) (by rfl) ?_
      refine g_bipush (v := 39) C rfl d_M_init_275 ?_
      refine g_iload_n C rfl rfl d_M_init_277 ?_
      refine g_isub C d_M_init_278 ?_
      refine g_aload_n C rfl rfl d_M_init_279 ?_
      refine gf_M_7 C d_M_init_280 (by first | assumption | omega) (by repeat' first | assumption | exact up_eq _ _ _ | refine up_ne (by omega) ?_) (by rfl) ?_
      refine g_bipush (v := 40) C rfl d_M_init_283 ?_
      refine g_iload_n C rfl rfl d_M_init_285 ?_
      refine g_isub C d_M_init_286 ?_
      rw [a4]
      refine g_lald C d_M_init_287 (by first | assumption | omega) (by repeat' first | assumption | exact up_eq _ _ _ | refine up_ne (by omega) ?_) (vp_in_nI (by omega) (by decide)) ?_
      rw [c4, pk_unL (by omega), f4']
      refine g_aload_n C rfl rfl d_M_init_288 ?_
      refine gf_M_7 C d_M_init_289 (by first | assumption | omega) (by repeat' first | assumption | exact up_eq _ _ _ | refine up_ne (by omega) ?_) (by rfl) ?_
      refine g_bipush (v := 40) C rfl d_M_init_292 ?_
      refine g_iload_n C rfl rfl d_M_init_294 ?_
      refine g_isub C d_M_init_295 ?_
      rw [a4]
      refine g_lald C d_M_init_296 (by first | assumption | omega) (by repeat' first | assumption | exact up_eq _ _ _ | refine up_ne (by omega) ?_) (vp_in_nI (by omega) (by decide)) ?_
      rw [c4, pk_unL (by omega), f4']
      refine g_ldc2 C m_642 d_M_init_297 ?_
      refine g_ldiv C (by first | assumption | decide) d_M_init_300 ?_
      refine g_lsub C d_M_init_301 ?_
      rw [u2, a3]
      refine g_last C d_M_init_302 (by first | assumption | omega) (by repeat' first | assumption | exact up_eq _ _ _ | refine up_ne (by omega) ?_) (vp_in_nI (by omega) (by decide)) ?_
      rw [c3]
      obtain ⟨y, e_y⟩ : ∃ y : Int32, ((nI i)) + Int32.ofInt 1 = y := ⟨_, rfl⟩
      refine g_iinc (lv' := [(3, .int y), (0, .ref (ad o m))]) C d_M_init_303 rfl e_y (by decide) rfl ?_
      refine g_goto (tgt := 233) C d_M_init_306 (by decide) ?_
      refine g_pick [1, 0] rfl ?_
      exact ih (i + 1) (by omega) _ _ (vp_updL (vp_updL f (41 + i) (lN (rt (41 + i)))) (39 - i) (lN (rt (39 - i)))) (by rw [← e_y]; exact nI_1 i) (M0_mv h1 (fun j a b c d e => up_ne c (up_ne c rfl))) (up_eq _ _ _) (fun j q1 q2 => by by_cases e : j = 39 - i; (rw [e, pk_usL]); (rw [pk_unL e]; by_cases e2 : j = 41 + i; (rw [e2, pk_usL]); (rw [pk_unL e2]; exact hf j (by omega) (by omega)))) (up_ne (by omega) (up_ne (by omega) h5)) (up_ne (by omega) (up_ne (by omega) h6)) (fun j q => up_ne (by omega) (up_ne (by omega) (hF j q)))
  have st3 : ∀ (v : Int32) (s : Nat → va_E), v = nI (zF f2) → M0 s o m → s (m + 1) = eJ 81 (fun _ => 0) → s (m + 5) = eI 2 (upd (fun _ => 0) 0 (nI (zF f1))) → s (m + 6) = eJ 2 (fun _ => 0) → (∀ j, j < m → s j = sg j) → G K o (m + 23) s 22 251 220 [(0, .ref (ad o m))] [.int v, .int 1, .ref (ad o (m + 5))] := by
    intro v s hv h1 h2 h5 h6 hF
    subst hv
    have e0 : s m = _ := h1.1
    refine g_iast C d_M_init_220 (by first | assumption | omega) (by repeat' first | assumption | exact up_eq _ _ _ | refine up_ne (by omega) ?_) i1 ?_
    rw [z1]
    refine g_aload_n C rfl rfl d_M_init_221 ?_
    refine gf_M_7 C d_M_init_222 (by first | assumption | omega) (by repeat' first | assumption | exact up_eq _ _ _ | refine up_ne (by omega) ?_) (by rfl) ?_
    refine g_bipush (v := 40) C rfl d_M_init_225 ?_
    refine g_ldc2 C m_640 d_M_init_227 ?_
    refine g_last C d_M_init_230 (by first | assumption | omega) (by repeat' first | assumption | exact up_eq _ _ _ | refine up_ne (by omega) ?_) (vp_in_nI (n := 40) (by decide) (by decide)) ?_
    refine g_iconst (v := 0) C rfl d_M_init_231 ?_
    refine g_topi (fun y e_y => ?_)
    refine g_istore_n (lv' := [(3, .int y), (0, .ref (ad o m))]) C d_M_init_232 rfl (by decide) rfl ?_
    refine g_pick [1, 0] rfl ?_
    exact st4 40 0 rfl _ _ (vp_updL (fun _ => 0) 40 4294967296) e_y (M0_mv h1 (fun j a b c d e => up_ne c (up_ne d rfl))) (up_eq _ _ _) (fun j q1 q2 => by rw [show j = 40 by omega, pk_usL]; exact rt_40l) (up_ne (by omega) (up_eq _ _ _)) (up_ne (by omega) (up_ne (by omega) h6)) (fun j q => up_ne (by omega) (up_ne (by omega) (hF j q)))
  have st2 : ∀ (v : Int32) (s : Nat → va_E), v = nI (zF f1) → M0 s o m → s (m + 1) = eJ 81 (fun _ => 0) → s (m + 5) = eI 2 (fun _ => 0) → s (m + 6) = eJ 2 (fun _ => 0) → (∀ j, j < m → s j = sg j) → G K o (m + 23) s 22 251 194 [(0, .ref (ad o m)), (2, .int f2)] [.int v, .int 0, .ref (ad o (m + 5))] := by
    intro v s hv h1 h2 h5 h6 hF
    subst hv
    have e0 : s m = _ := h1.1
    refine g_iast C d_M_init_194 (by first | assumption | omega) (by repeat' first | assumption | exact up_eq _ _ _ | refine up_ne (by omega) ?_) i0 ?_
    rw [z0]
    refine g_aload_n C rfl rfl d_M_init_195 ?_
    refine gf_M_22 C d_M_init_196 (by first | assumption | omega) (by repeat' first | assumption | exact up_eq _ _ _ | refine up_ne (by omega) ?_) (by rfl) ?_
    refine g_iconst (v := 1) C rfl d_M_init_199 ?_
    refine g_iload_n C rfl rfl d_M_init_200 ?_
    refine g_if_ge (tgt := 208) C d_M_init_201 (by decide) (fun j201 => ?_) (fun j201 => ?_)
    · refine g_iload_n C rfl rfl d_M_init_208 ?_
      refine g_bipush (v := 100) C rfl d_M_init_209 ?_
      refine g_icmp_le (tgt := 219) C d_M_init_211 (by decide) (fun j211 => ?_) (fun j211 => ?_)
      · refine g_iload_n C rfl rfl d_M_init_219 ?_
        refine g_pick [0] rfl ?_
        exact st3 _ _ (by first | (have w : f2 < 0 := (by first | assumption | exact Int32.not_le.mp (by assumption)); exact (zF_lt w).symm) | (have w : ¬ f2 ≤ 100 := (by assumption); exact (zF_gt (Int32.not_lt.mpr (by assumption)) w).symm) | (have w : f2 ≤ 100 := (by assumption); exact (zF_in (Int32.not_lt.mpr (by assumption)) w).symm)) (M0_mv h1 (fun j a b c d e => up_ne d rfl)) (up_ne (by omega) h2) (up_eq _ _ _) (up_ne (by omega) h6) (fun j q => up_ne (by omega) (hF j q))
      · refine g_bipush (v := 100) C rfl d_M_init_214 ?_
        refine g_goto (tgt := 220) C d_M_init_216 (by decide) ?_
        refine g_pick [0] rfl ?_
        exact st3 _ _ (by first | (have w : f2 < 0 := (by first | assumption | exact Int32.not_le.mp (by assumption)); exact (zF_lt w).symm) | (have w : ¬ f2 ≤ 100 := (by assumption); exact (zF_gt (Int32.not_lt.mpr (by assumption)) w).symm) | (have w : f2 ≤ 100 := (by assumption); exact (zF_in (Int32.not_lt.mpr (by assumption)) w).symm)) (M0_mv h1 (fun j a b c d e => up_ne d rfl)) (up_ne (by omega) h2) (up_eq _ _ _) (up_ne (by omega) h6) (fun j q => up_ne (by omega) (hF j q))
    · refine g_iconst (v := 0) C rfl d_M_init_204 ?_
      refine g_goto (tgt := 220) C d_M_init_205 (by decide) ?_
      refine g_pick [0] rfl ?_
      exact st3 _ _ (by first | (have w : f2 < 0 := (by first | assumption | exact Int32.not_le.mp (by assumption)); exact (zF_lt w).symm) | (have w : ¬ f2 ≤ 100 := (by assumption); exact (zF_gt (Int32.not_lt.mpr (by assumption)) w).symm) | (have w : f2 ≤ 100 := (by assumption); exact (zF_in (Int32.not_lt.mpr (by assumption)) w).symm)) (M0_mv h1 (fun j a b c d e => up_ne d rfl)) (up_ne (by omega) h2) (up_eq _ _ _) (up_ne (by omega) h6) (fun j q => up_ne (by omega) (hF j q))
  intro s h1 h2 h5 h6 hF
  have e0 : s m = _ := h1.1
  refine g_aload_n C rfl rfl d_M_init_169 ?_
  refine gf_M_22 C d_M_init_170 (by first | assumption | omega) (by repeat' first | assumption | exact up_eq _ _ _ | refine up_ne (by omega) ?_) (by rfl) ?_
  refine g_iconst (v := 0) C rfl d_M_init_173 ?_
  refine g_iload_n C rfl rfl d_M_init_174 ?_
  refine g_if_ge (tgt := 182) C d_M_init_175 (by decide) (fun j175 => ?_) (fun j175 => ?_)
  · refine g_iload_n C rfl rfl d_M_init_182 ?_
    refine g_bipush (v := 100) C rfl d_M_init_183 ?_
    refine g_icmp_le (tgt := 193) C d_M_init_185 (by decide) (fun j185 => ?_) (fun j185 => ?_)
    · refine g_iload_n C rfl rfl d_M_init_193 ?_
      refine g_pick [0, 2] rfl ?_
      exact st2 _ _ (by first | (have w : f1 < 0 := (by first | assumption | exact Int32.not_le.mp (by assumption)); exact (zF_lt w).symm) | (have w : ¬ f1 ≤ 100 := (by assumption); exact (zF_gt (Int32.not_lt.mpr (by assumption)) w).symm) | (have w : f1 ≤ 100 := (by assumption); exact (zF_in (Int32.not_lt.mpr (by assumption)) w).symm)) h1 h2 h5 h6 hF
    · refine g_bipush (v := 100) C rfl d_M_init_188 ?_
      refine g_goto (tgt := 194) C d_M_init_190 (by decide) ?_
      refine g_pick [0, 2] rfl ?_
      exact st2 _ _ (by first | (have w : f1 < 0 := (by first | assumption | exact Int32.not_le.mp (by assumption)); exact (zF_lt w).symm) | (have w : ¬ f1 ≤ 100 := (by assumption); exact (zF_gt (Int32.not_lt.mpr (by assumption)) w).symm) | (have w : f1 ≤ 100 := (by assumption); exact (zF_in (Int32.not_lt.mpr (by assumption)) w).symm)) h1 h2 h5 h6 hF
  · refine g_iconst (v := 0) C rfl d_M_init_178 ?_
    refine g_goto (tgt := 194) C d_M_init_179 (by decide) ?_
    refine g_pick [0, 2] rfl ?_
    exact st2 _ _ (by first | (have w : f1 < 0 := (by first | assumption | exact Int32.not_le.mp (by assumption)); exact (zF_lt w).symm) | (have w : ¬ f1 ≤ 100 := (by assumption); exact (zF_gt (Int32.not_lt.mpr (by assumption)) w).symm) | (have w : f1 ≤ 100 := (by assumption); exact (zF_in (Int32.not_lt.mpr (by assumption)) w).symm)) h1 h2 h5 h6 hF
set_option maxHeartbeats 16000000 in
theorem c_M_init {l : Launch} {o : Nat} {sg : Nat → va_E} (f1 f2 : Int32) (h : sg 64 = eO 1 [.int 0, .null, .null, .null, .null, .null, .null, .null, .null, .null, .null, .null, .null, .null, .null, .null, .null, .null, .null, .null, .null, .null, .null, .long 0]) : GM l y_M_init b_M_init 4 none 2 40 22 251 o 65 87 sg true [.ref (ad o 64), .int f1, .int f2] (fun r s => none = r ∧ MW s o 64 0 (Z0 f1 f2) ∧ ∀ j, j < 64 → s j = sg j) := by
  refine GM_of (by decide) (Nat.le_of_ble_eq_true rfl) ?_
  intro K C hl hz hr hnm E
  have hz0 := hz rfl
  show G K o 65 sg 0 0 0 [(0, .ref (ad o 64)), (1, .int f1), (2, .int f2)] []
  have rest := M_rest (m := 64) (f1 := f1) (f2 := f2) C hr hnm E

  have t154 : ∀ (s : Nat → va_E), s 64 = eO 1 [.int 0, .ref (ad o 65), .ref (ad o 66), .ref (ad o 67), .ref (ad o 68), .ref (ad o 69), .ref (ad o 70), .ref (ad o 71), .ref (ad o 72), .ref (ad o 73), .ref (ad o 74), .ref (ad o 75), .ref (ad o 76), .ref (ad o 77), .ref (ad o 78), .ref (ad o 79), .ref (ad o 80), .ref (ad o 81), .ref (ad o 82), .ref (ad o 83), .ref (ad o 84), .null, .null, .long 0] → s 65 = eJ 81 (fun _ => 0) → s 66 = eJ 12 (fun _ => 0) → s 67 = eJ 3 (fun _ => 0) → s 68 = eJ 3 (fun _ => 0) → s 69 = eI 2 (fun _ => 0) → s 70 = eJ 2 (fun _ => 0) → s 71 = eI 2 (fun _ => 0) → s 72 = eJ 4 (fun _ => 0) → s 73 = eZ 12 (fun _ => 0) → s 74 = eI 12 (fun _ => 0) → s 75 = eI 12 (fun _ => 0) → s 76 = eI 12 (fun _ => 0) → s 77 = eI 12 (fun _ => 0) → s 78 = eJ 12 (fun _ => 0) → s 79 = eJ 24 (fun _ => 0) → s 80 = eJ 24 (fun _ => 0) → s 81 = eJ 2 (fun _ => 0) → s 82 = eI 2 (fun _ => 0) → s 83 = eJ 2 (fun _ => 0) → s 84 = eJ 2 (fun _ => 0) → (∀ j, j < 64 → s j = sg j) → G K o 85 s 20 237 154 [(0, .ref (ad o 64)), (1, .int f1), (2, .int f2)] [] := by
    intro s h0 h1 h2 h3 h4 h5 h6 h7 h8 h9 h10 h11 h12 h13 h14 h15 h16 h17 h18 h19 h20 hF
    refine g_aload_n C rfl rfl d_M_init_154 ?_
    refine g_iconst (v := 2) C rfl d_M_init_155 ?_
    refine g_newJ C 2 (by decide) (by decide) (by decide) d_M_init_156 (by omega) (by decide) (by decide) ?_
    refine pf_M_72 C d_M_init_158 hnm rfl rfl (by first | assumption | omega) (by repeat' first | assumption | exact up_eq _ _ _ | refine up_ne (by omega) ?_) (by exact Nat.le_of_ble_eq_true rfl) ?_
    refine g_aload_n C rfl rfl d_M_init_161 ?_
    refine g_bipush (v := 12) C rfl d_M_init_162 ?_
    refine g_newJ C 12 (by decide) (by decide) (by decide) d_M_init_164 (by omega) (by decide) (by decide) ?_
    refine pf_M_75 C d_M_init_166 hnm rfl rfl (by first | assumption | omega) (by repeat' first | assumption | exact up_eq _ _ _ | refine up_ne (by omega) ?_) (by exact Nat.le_of_ble_eq_true rfl) ?_
    exact rest _ ⟨by unfold isM; exact up_eq _ _ _, up_ne (by decide) (up_ne (by decide) (up_ne (by decide) (up_ne (by decide) (h2)))), up_ne (by decide) (up_ne (by decide) (up_ne (by decide) (up_ne (by decide) (h3)))), up_ne (by decide) (up_ne (by decide) (up_ne (by decide) (up_ne (by decide) (h4)))), up_ne (by decide) (up_ne (by decide) (up_ne (by decide) (up_ne (by decide) (h7)))), up_ne (by decide) (up_ne (by decide) (up_ne (by decide) (up_ne (by decide) (h8)))), up_ne (by decide) (up_ne (by decide) (up_ne (by decide) (up_ne (by decide) (h9)))), up_ne (by decide) (up_ne (by decide) (up_ne (by decide) (up_ne (by decide) (h10)))), up_ne (by decide) (up_ne (by decide) (up_ne (by decide) (up_ne (by decide) (h11)))), up_ne (by decide) (up_ne (by decide) (up_ne (by decide) (up_ne (by decide) (h12)))), up_ne (by decide) (up_ne (by decide) (up_ne (by decide) (up_ne (by decide) (h13)))), up_ne (by decide) (up_ne (by decide) (up_ne (by decide) (up_ne (by decide) (h14)))), up_ne (by decide) (up_ne (by decide) (up_ne (by decide) (up_ne (by decide) (h15)))), up_ne (by decide) (up_ne (by decide) (up_ne (by decide) (up_ne (by decide) (h16)))), up_ne (by decide) (up_ne (by decide) (up_ne (by decide) (up_ne (by decide) (h17)))), up_ne (by decide) (up_ne (by decide) (up_ne (by decide) (up_ne (by decide) (h18)))), up_ne (by decide) (up_ne (by decide) (up_ne (by decide) (up_ne (by decide) (h19)))), up_ne (by decide) (up_ne (by decide) (up_ne (by decide) (up_ne (by decide) (h20)))), up_ne (by decide) (up_ne (by decide) (up_ne (by decide) (up_eq _ _ _))), up_ne (by decide) (up_eq _ _ _)⟩ (up_ne (by decide) (up_ne (by decide) (up_ne (by decide) (up_ne (by decide) (h1))))) (up_ne (by decide) (up_ne (by decide) (up_ne (by decide) (up_ne (by decide) (h5))))) (up_ne (by decide) (up_ne (by decide) (up_ne (by decide) (up_ne (by decide) (h6))))) (fun j q => up_ne (by omega) (up_ne (by omega) (up_ne (by omega) (up_ne (by omega) (hF j q)))))
  have t133 : ∀ (s : Nat → va_E), s 64 = eO 1 [.int 0, .ref (ad o 65), .ref (ad o 66), .ref (ad o 67), .ref (ad o 68), .ref (ad o 69), .ref (ad o 70), .ref (ad o 71), .ref (ad o 72), .ref (ad o 73), .ref (ad o 74), .ref (ad o 75), .ref (ad o 76), .ref (ad o 77), .ref (ad o 78), .ref (ad o 79), .ref (ad o 80), .ref (ad o 81), .null, .null, .null, .null, .null, .long 0] → s 65 = eJ 81 (fun _ => 0) → s 66 = eJ 12 (fun _ => 0) → s 67 = eJ 3 (fun _ => 0) → s 68 = eJ 3 (fun _ => 0) → s 69 = eI 2 (fun _ => 0) → s 70 = eJ 2 (fun _ => 0) → s 71 = eI 2 (fun _ => 0) → s 72 = eJ 4 (fun _ => 0) → s 73 = eZ 12 (fun _ => 0) → s 74 = eI 12 (fun _ => 0) → s 75 = eI 12 (fun _ => 0) → s 76 = eI 12 (fun _ => 0) → s 77 = eI 12 (fun _ => 0) → s 78 = eJ 12 (fun _ => 0) → s 79 = eJ 24 (fun _ => 0) → s 80 = eJ 24 (fun _ => 0) → s 81 = eJ 2 (fun _ => 0) → (∀ j, j < 64 → s j = sg j) → G K o 82 s 17 231 133 [(0, .ref (ad o 64)), (1, .int f1), (2, .int f2)] [] := by
    intro s h0 h1 h2 h3 h4 h5 h6 h7 h8 h9 h10 h11 h12 h13 h14 h15 h16 h17 hF
    refine g_aload_n C rfl rfl d_M_init_133 ?_
    refine g_iconst (v := 2) C rfl d_M_init_134 ?_
    refine g_newI C 2 (by decide) (by decide) (by decide) d_M_init_135 (by omega) (by decide) (by decide) ?_
    refine pf_M_63 C d_M_init_137 hnm rfl rfl (by first | assumption | omega) (by repeat' first | assumption | exact up_eq _ _ _ | refine up_ne (by omega) ?_) (by exact Nat.le_of_ble_eq_true rfl) ?_
    refine g_aload_n C rfl rfl d_M_init_140 ?_
    refine g_iconst (v := 2) C rfl d_M_init_141 ?_
    refine g_newJ C 2 (by decide) (by decide) (by decide) d_M_init_142 (by omega) (by decide) (by decide) ?_
    refine pf_M_66 C d_M_init_144 hnm rfl rfl (by first | assumption | omega) (by repeat' first | assumption | exact up_eq _ _ _ | refine up_ne (by omega) ?_) (by exact Nat.le_of_ble_eq_true rfl) ?_
    refine g_aload_n C rfl rfl d_M_init_147 ?_
    refine g_iconst (v := 2) C rfl d_M_init_148 ?_
    refine g_newJ C 2 (by decide) (by decide) (by decide) d_M_init_149 (by omega) (by decide) (by decide) ?_
    refine pf_M_69 C d_M_init_151 hnm rfl rfl (by first | assumption | omega) (by repeat' first | assumption | exact up_eq _ _ _ | refine up_ne (by omega) ?_) (by exact Nat.le_of_ble_eq_true rfl) ?_
    exact t154 _ (up_eq _ _ _) (up_ne (by decide) (up_ne (by decide) (up_ne (by decide) (up_ne (by decide) (up_ne (by decide) (up_ne (by decide) (h1))))))) (up_ne (by decide) (up_ne (by decide) (up_ne (by decide) (up_ne (by decide) (up_ne (by decide) (up_ne (by decide) (h2))))))) (up_ne (by decide) (up_ne (by decide) (up_ne (by decide) (up_ne (by decide) (up_ne (by decide) (up_ne (by decide) (h3))))))) (up_ne (by decide) (up_ne (by decide) (up_ne (by decide) (up_ne (by decide) (up_ne (by decide) (up_ne (by decide) (h4))))))) (up_ne (by decide) (up_ne (by decide) (up_ne (by decide) (up_ne (by decide) (up_ne (by decide) (up_ne (by decide) (h5))))))) (up_ne (by decide) (up_ne (by decide) (up_ne (by decide) (up_ne (by decide) (up_ne (by decide) (up_ne (by decide) (h6))))))) (up_ne (by decide) (up_ne (by decide) (up_ne (by decide) (up_ne (by decide) (up_ne (by decide) (up_ne (by decide) (h7))))))) (up_ne (by decide) (up_ne (by decide) (up_ne (by decide) (up_ne (by decide) (up_ne (by decide) (up_ne (by decide) (h8))))))) (up_ne (by decide) (up_ne (by decide) (up_ne (by decide) (up_ne (by decide) (up_ne (by decide) (up_ne (by decide) (h9))))))) (up_ne (by decide) (up_ne (by decide) (up_ne (by decide) (up_ne (by decide) (up_ne (by decide) (up_ne (by decide) (h10))))))) (up_ne (by decide) (up_ne (by decide) (up_ne (by decide) (up_ne (by decide) (up_ne (by decide) (up_ne (by decide) (h11))))))) (up_ne (by decide) (up_ne (by decide) (up_ne (by decide) (up_ne (by decide) (up_ne (by decide) (up_ne (by decide) (h12))))))) (up_ne (by decide) (up_ne (by decide) (up_ne (by decide) (up_ne (by decide) (up_ne (by decide) (up_ne (by decide) (h13))))))) (up_ne (by decide) (up_ne (by decide) (up_ne (by decide) (up_ne (by decide) (up_ne (by decide) (up_ne (by decide) (h14))))))) (up_ne (by decide) (up_ne (by decide) (up_ne (by decide) (up_ne (by decide) (up_ne (by decide) (up_ne (by decide) (h15))))))) (up_ne (by decide) (up_ne (by decide) (up_ne (by decide) (up_ne (by decide) (up_ne (by decide) (up_ne (by decide) (h16))))))) (up_ne (by decide) (up_ne (by decide) (up_ne (by decide) (up_ne (by decide) (up_ne (by decide) (up_ne (by decide) (h17))))))) (up_ne (by decide) (up_ne (by decide) (up_ne (by decide) (up_ne (by decide) (up_ne (by decide) (up_eq _ _ _)))))) (up_ne (by decide) (up_ne (by decide) (up_ne (by decide) (up_eq _ _ _)))) (up_ne (by decide) (up_eq _ _ _)) (fun j q => up_ne (by omega) (up_ne (by omega) (up_ne (by omega) (up_ne (by omega) (up_ne (by omega) (up_ne (by omega) (hF j q)))))))
  have t110 : ∀ (s : Nat → va_E), s 64 = eO 1 [.int 0, .ref (ad o 65), .ref (ad o 66), .ref (ad o 67), .ref (ad o 68), .ref (ad o 69), .ref (ad o 70), .ref (ad o 71), .ref (ad o 72), .ref (ad o 73), .ref (ad o 74), .ref (ad o 75), .ref (ad o 76), .ref (ad o 77), .ref (ad o 78), .null, .null, .null, .null, .null, .null, .null, .null, .long 0] → s 65 = eJ 81 (fun _ => 0) → s 66 = eJ 12 (fun _ => 0) → s 67 = eJ 3 (fun _ => 0) → s 68 = eJ 3 (fun _ => 0) → s 69 = eI 2 (fun _ => 0) → s 70 = eJ 2 (fun _ => 0) → s 71 = eI 2 (fun _ => 0) → s 72 = eJ 4 (fun _ => 0) → s 73 = eZ 12 (fun _ => 0) → s 74 = eI 12 (fun _ => 0) → s 75 = eI 12 (fun _ => 0) → s 76 = eI 12 (fun _ => 0) → s 77 = eI 12 (fun _ => 0) → s 78 = eJ 12 (fun _ => 0) → (∀ j, j < 64 → s j = sg j) → G K o 79 s 14 181 110 [(0, .ref (ad o 64)), (1, .int f1), (2, .int f2)] [] := by
    intro s h0 h1 h2 h3 h4 h5 h6 h7 h8 h9 h10 h11 h12 h13 h14 hF
    refine g_aload_n C rfl rfl d_M_init_110 ?_
    refine g_bipush (v := 24) C rfl d_M_init_111 ?_
    refine g_newJ C 24 (by decide) (by decide) (by decide) d_M_init_113 (by omega) (by decide) (by decide) ?_
    refine pf_M_54 C d_M_init_115 hnm rfl rfl (by first | assumption | omega) (by repeat' first | assumption | exact up_eq _ _ _ | refine up_ne (by omega) ?_) (by exact Nat.le_of_ble_eq_true rfl) ?_
    refine g_aload_n C rfl rfl d_M_init_118 ?_
    refine g_bipush (v := 24) C rfl d_M_init_119 ?_
    refine g_newJ C 24 (by decide) (by decide) (by decide) d_M_init_121 (by omega) (by decide) (by decide) ?_
    refine pf_M_57 C d_M_init_123 hnm rfl rfl (by first | assumption | omega) (by repeat' first | assumption | exact up_eq _ _ _ | refine up_ne (by omega) ?_) (by exact Nat.le_of_ble_eq_true rfl) ?_
    refine g_aload_n C rfl rfl d_M_init_126 ?_
    refine g_iconst (v := 2) C rfl d_M_init_127 ?_
    refine g_newJ C 2 (by decide) (by decide) (by decide) d_M_init_128 (by omega) (by decide) (by decide) ?_
    refine pf_M_60 C d_M_init_130 hnm rfl rfl (by first | assumption | omega) (by repeat' first | assumption | exact up_eq _ _ _ | refine up_ne (by omega) ?_) (by exact Nat.le_of_ble_eq_true rfl) ?_
    exact t133 _ (up_eq _ _ _) (up_ne (by decide) (up_ne (by decide) (up_ne (by decide) (up_ne (by decide) (up_ne (by decide) (up_ne (by decide) (h1))))))) (up_ne (by decide) (up_ne (by decide) (up_ne (by decide) (up_ne (by decide) (up_ne (by decide) (up_ne (by decide) (h2))))))) (up_ne (by decide) (up_ne (by decide) (up_ne (by decide) (up_ne (by decide) (up_ne (by decide) (up_ne (by decide) (h3))))))) (up_ne (by decide) (up_ne (by decide) (up_ne (by decide) (up_ne (by decide) (up_ne (by decide) (up_ne (by decide) (h4))))))) (up_ne (by decide) (up_ne (by decide) (up_ne (by decide) (up_ne (by decide) (up_ne (by decide) (up_ne (by decide) (h5))))))) (up_ne (by decide) (up_ne (by decide) (up_ne (by decide) (up_ne (by decide) (up_ne (by decide) (up_ne (by decide) (h6))))))) (up_ne (by decide) (up_ne (by decide) (up_ne (by decide) (up_ne (by decide) (up_ne (by decide) (up_ne (by decide) (h7))))))) (up_ne (by decide) (up_ne (by decide) (up_ne (by decide) (up_ne (by decide) (up_ne (by decide) (up_ne (by decide) (h8))))))) (up_ne (by decide) (up_ne (by decide) (up_ne (by decide) (up_ne (by decide) (up_ne (by decide) (up_ne (by decide) (h9))))))) (up_ne (by decide) (up_ne (by decide) (up_ne (by decide) (up_ne (by decide) (up_ne (by decide) (up_ne (by decide) (h10))))))) (up_ne (by decide) (up_ne (by decide) (up_ne (by decide) (up_ne (by decide) (up_ne (by decide) (up_ne (by decide) (h11))))))) (up_ne (by decide) (up_ne (by decide) (up_ne (by decide) (up_ne (by decide) (up_ne (by decide) (up_ne (by decide) (h12))))))) (up_ne (by decide) (up_ne (by decide) (up_ne (by decide) (up_ne (by decide) (up_ne (by decide) (up_ne (by decide) (h13))))))) (up_ne (by decide) (up_ne (by decide) (up_ne (by decide) (up_ne (by decide) (up_ne (by decide) (up_ne (by decide) (h14))))))) (up_ne (by decide) (up_ne (by decide) (up_ne (by decide) (up_ne (by decide) (up_ne (by decide) (up_eq _ _ _)))))) (up_ne (by decide) (up_ne (by decide) (up_ne (by decide) (up_eq _ _ _)))) (up_ne (by decide) (up_eq _ _ _)) (fun j q => up_ne (by omega) (up_ne (by omega) (up_ne (by omega) (up_ne (by omega) (up_ne (by omega) (up_ne (by omega) (hF j q)))))))
  have t86 : ∀ (s : Nat → va_E), s 64 = eO 1 [.int 0, .ref (ad o 65), .ref (ad o 66), .ref (ad o 67), .ref (ad o 68), .ref (ad o 69), .ref (ad o 70), .ref (ad o 71), .ref (ad o 72), .ref (ad o 73), .ref (ad o 74), .ref (ad o 75), .null, .null, .null, .null, .null, .null, .null, .null, .null, .null, .null, .long 0] → s 65 = eJ 81 (fun _ => 0) → s 66 = eJ 12 (fun _ => 0) → s 67 = eJ 3 (fun _ => 0) → s 68 = eJ 3 (fun _ => 0) → s 69 = eI 2 (fun _ => 0) → s 70 = eJ 2 (fun _ => 0) → s 71 = eI 2 (fun _ => 0) → s 72 = eJ 4 (fun _ => 0) → s 73 = eZ 12 (fun _ => 0) → s 74 = eI 12 (fun _ => 0) → s 75 = eI 12 (fun _ => 0) → (∀ j, j < 64 → s j = sg j) → G K o 76 s 11 145 86 [(0, .ref (ad o 64)), (1, .int f1), (2, .int f2)] [] := by
    intro s h0 h1 h2 h3 h4 h5 h6 h7 h8 h9 h10 h11 hF
    refine g_aload_n C rfl rfl d_M_init_86 ?_
    refine g_bipush (v := 12) C rfl d_M_init_87 ?_
    refine g_newI C 12 (by decide) (by decide) (by decide) d_M_init_89 (by omega) (by decide) (by decide) ?_
    refine pf_M_45 C d_M_init_91 hnm rfl rfl (by first | assumption | omega) (by repeat' first | assumption | exact up_eq _ _ _ | refine up_ne (by omega) ?_) (by exact Nat.le_of_ble_eq_true rfl) ?_
    refine g_aload_n C rfl rfl d_M_init_94 ?_
    refine g_bipush (v := 12) C rfl d_M_init_95 ?_
    refine g_newI C 12 (by decide) (by decide) (by decide) d_M_init_97 (by omega) (by decide) (by decide) ?_
    refine pf_M_48 C d_M_init_99 hnm rfl rfl (by first | assumption | omega) (by repeat' first | assumption | exact up_eq _ _ _ | refine up_ne (by omega) ?_) (by exact Nat.le_of_ble_eq_true rfl) ?_
    refine g_aload_n C rfl rfl d_M_init_102 ?_
    refine g_bipush (v := 12) C rfl d_M_init_103 ?_
    refine g_newJ C 12 (by decide) (by decide) (by decide) d_M_init_105 (by omega) (by decide) (by decide) ?_
    refine pf_M_51 C d_M_init_107 hnm rfl rfl (by first | assumption | omega) (by repeat' first | assumption | exact up_eq _ _ _ | refine up_ne (by omega) ?_) (by exact Nat.le_of_ble_eq_true rfl) ?_
    exact t110 _ (up_eq _ _ _) (up_ne (by decide) (up_ne (by decide) (up_ne (by decide) (up_ne (by decide) (up_ne (by decide) (up_ne (by decide) (h1))))))) (up_ne (by decide) (up_ne (by decide) (up_ne (by decide) (up_ne (by decide) (up_ne (by decide) (up_ne (by decide) (h2))))))) (up_ne (by decide) (up_ne (by decide) (up_ne (by decide) (up_ne (by decide) (up_ne (by decide) (up_ne (by decide) (h3))))))) (up_ne (by decide) (up_ne (by decide) (up_ne (by decide) (up_ne (by decide) (up_ne (by decide) (up_ne (by decide) (h4))))))) (up_ne (by decide) (up_ne (by decide) (up_ne (by decide) (up_ne (by decide) (up_ne (by decide) (up_ne (by decide) (h5))))))) (up_ne (by decide) (up_ne (by decide) (up_ne (by decide) (up_ne (by decide) (up_ne (by decide) (up_ne (by decide) (h6))))))) (up_ne (by decide) (up_ne (by decide) (up_ne (by decide) (up_ne (by decide) (up_ne (by decide) (up_ne (by decide) (h7))))))) (up_ne (by decide) (up_ne (by decide) (up_ne (by decide) (up_ne (by decide) (up_ne (by decide) (up_ne (by decide) (h8))))))) (up_ne (by decide) (up_ne (by decide) (up_ne (by decide) (up_ne (by decide) (up_ne (by decide) (up_ne (by decide) (h9))))))) (up_ne (by decide) (up_ne (by decide) (up_ne (by decide) (up_ne (by decide) (up_ne (by decide) (up_ne (by decide) (h10))))))) (up_ne (by decide) (up_ne (by decide) (up_ne (by decide) (up_ne (by decide) (up_ne (by decide) (up_ne (by decide) (h11))))))) (up_ne (by decide) (up_ne (by decide) (up_ne (by decide) (up_ne (by decide) (up_ne (by decide) (up_eq _ _ _)))))) (up_ne (by decide) (up_ne (by decide) (up_ne (by decide) (up_eq _ _ _)))) (up_ne (by decide) (up_eq _ _ _)) (fun j q => up_ne (by omega) (up_ne (by omega) (up_ne (by omega) (up_ne (by omega) (up_ne (by omega) (up_ne (by omega) (hF j q)))))))
  have t62 : ∀ (s : Nat → va_E), s 64 = eO 1 [.int 0, .ref (ad o 65), .ref (ad o 66), .ref (ad o 67), .ref (ad o 68), .ref (ad o 69), .ref (ad o 70), .ref (ad o 71), .ref (ad o 72), .null, .null, .null, .null, .null, .null, .null, .null, .null, .null, .null, .null, .null, .null, .long 0] → s 65 = eJ 81 (fun _ => 0) → s 66 = eJ 12 (fun _ => 0) → s 67 = eJ 3 (fun _ => 0) → s 68 = eJ 3 (fun _ => 0) → s 69 = eI 2 (fun _ => 0) → s 70 = eJ 2 (fun _ => 0) → s 71 = eI 2 (fun _ => 0) → s 72 = eJ 4 (fun _ => 0) → (∀ j, j < 64 → s j = sg j) → G K o 73 s 8 109 62 [(0, .ref (ad o 64)), (1, .int f1), (2, .int f2)] [] := by
    intro s h0 h1 h2 h3 h4 h5 h6 h7 h8 hF
    refine g_aload_n C rfl rfl d_M_init_62 ?_
    refine g_bipush (v := 12) C rfl d_M_init_63 ?_
    refine g_newZ C 12 (by decide) (by decide) (by decide) d_M_init_65 (by omega) (by decide) (by decide) ?_
    refine pf_M_35 C d_M_init_67 hnm rfl rfl (by first | assumption | omega) (by repeat' first | assumption | exact up_eq _ _ _ | refine up_ne (by omega) ?_) (by exact Nat.le_of_ble_eq_true rfl) ?_
    refine g_aload_n C rfl rfl d_M_init_70 ?_
    refine g_bipush (v := 12) C rfl d_M_init_71 ?_
    refine g_newI C 12 (by decide) (by decide) (by decide) d_M_init_73 (by omega) (by decide) (by decide) ?_
    refine pf_M_39 C d_M_init_75 hnm rfl rfl (by first | assumption | omega) (by repeat' first | assumption | exact up_eq _ _ _ | refine up_ne (by omega) ?_) (by exact Nat.le_of_ble_eq_true rfl) ?_
    refine g_aload_n C rfl rfl d_M_init_78 ?_
    refine g_bipush (v := 12) C rfl d_M_init_79 ?_
    refine g_newI C 12 (by decide) (by decide) (by decide) d_M_init_81 (by omega) (by decide) (by decide) ?_
    refine pf_M_42 C d_M_init_83 hnm rfl rfl (by first | assumption | omega) (by repeat' first | assumption | exact up_eq _ _ _ | refine up_ne (by omega) ?_) (by exact Nat.le_of_ble_eq_true rfl) ?_
    exact t86 _ (up_eq _ _ _) (up_ne (by decide) (up_ne (by decide) (up_ne (by decide) (up_ne (by decide) (up_ne (by decide) (up_ne (by decide) (h1))))))) (up_ne (by decide) (up_ne (by decide) (up_ne (by decide) (up_ne (by decide) (up_ne (by decide) (up_ne (by decide) (h2))))))) (up_ne (by decide) (up_ne (by decide) (up_ne (by decide) (up_ne (by decide) (up_ne (by decide) (up_ne (by decide) (h3))))))) (up_ne (by decide) (up_ne (by decide) (up_ne (by decide) (up_ne (by decide) (up_ne (by decide) (up_ne (by decide) (h4))))))) (up_ne (by decide) (up_ne (by decide) (up_ne (by decide) (up_ne (by decide) (up_ne (by decide) (up_ne (by decide) (h5))))))) (up_ne (by decide) (up_ne (by decide) (up_ne (by decide) (up_ne (by decide) (up_ne (by decide) (up_ne (by decide) (h6))))))) (up_ne (by decide) (up_ne (by decide) (up_ne (by decide) (up_ne (by decide) (up_ne (by decide) (up_ne (by decide) (h7))))))) (up_ne (by decide) (up_ne (by decide) (up_ne (by decide) (up_ne (by decide) (up_ne (by decide) (up_ne (by decide) (h8))))))) (up_ne (by decide) (up_ne (by decide) (up_ne (by decide) (up_ne (by decide) (up_ne (by decide) (up_eq _ _ _)))))) (up_ne (by decide) (up_ne (by decide) (up_ne (by decide) (up_eq _ _ _)))) (up_ne (by decide) (up_eq _ _ _)) (fun j q => up_ne (by omega) (up_ne (by omega) (up_ne (by omega) (up_ne (by omega) (up_ne (by omega) (up_ne (by omega) (hF j q)))))))
  have t34 : ∀ (s : Nat → va_E), s 64 = eO 1 [.int 0, .ref (ad o 65), .ref (ad o 66), .ref (ad o 67), .ref (ad o 68), .null, .null, .null, .null, .null, .null, .null, .null, .null, .null, .null, .null, .null, .null, .null, .null, .null, .null, .long 0] → s 65 = eJ 81 (fun _ => 0) → s 66 = eJ 12 (fun _ => 0) → s 67 = eJ 3 (fun _ => 0) → s 68 = eJ 3 (fun _ => 0) → (∀ j, j < 64 → s j = sg j) → G K o 69 s 4 99 34 [(0, .ref (ad o 64)), (1, .int f1), (2, .int f2)] [] := by
    intro s h0 h1 h2 h3 h4 hF
    refine g_aload_n C rfl rfl d_M_init_34 ?_
    refine g_iconst (v := 2) C rfl d_M_init_35 ?_
    refine g_newI C 2 (by decide) (by decide) (by decide) d_M_init_36 (by omega) (by decide) (by decide) ?_
    refine pf_M_22 C d_M_init_38 hnm rfl rfl (by first | assumption | omega) (by repeat' first | assumption | exact up_eq _ _ _ | refine up_ne (by omega) ?_) (by exact Nat.le_of_ble_eq_true rfl) ?_
    refine g_aload_n C rfl rfl d_M_init_41 ?_
    refine g_iconst (v := 2) C rfl d_M_init_42 ?_
    refine g_newJ C 2 (by decide) (by decide) (by decide) d_M_init_43 (by omega) (by decide) (by decide) ?_
    refine pf_M_26 C d_M_init_45 hnm rfl rfl (by first | assumption | omega) (by repeat' first | assumption | exact up_eq _ _ _ | refine up_ne (by omega) ?_) (by exact Nat.le_of_ble_eq_true rfl) ?_
    refine g_aload_n C rfl rfl d_M_init_48 ?_
    refine g_iconst (v := 2) C rfl d_M_init_49 ?_
    refine g_newI C 2 (by decide) (by decide) (by decide) d_M_init_50 (by omega) (by decide) (by decide) ?_
    refine pf_M_29 C d_M_init_52 hnm rfl rfl (by first | assumption | omega) (by repeat' first | assumption | exact up_eq _ _ _ | refine up_ne (by omega) ?_) (by exact Nat.le_of_ble_eq_true rfl) ?_
    refine g_aload_n C rfl rfl d_M_init_55 ?_
    refine g_iconst (v := 4) C rfl d_M_init_56 ?_
    refine g_newJ C 4 (by decide) (by decide) (by decide) d_M_init_57 (by omega) (by decide) (by decide) ?_
    refine pf_M_32 C d_M_init_59 hnm rfl rfl (by first | assumption | omega) (by repeat' first | assumption | exact up_eq _ _ _ | refine up_ne (by omega) ?_) (by exact Nat.le_of_ble_eq_true rfl) ?_
    exact t62 _ (up_eq _ _ _) (up_ne (by decide) (up_ne (by decide) (up_ne (by decide) (up_ne (by decide) (up_ne (by decide) (up_ne (by decide) (up_ne (by decide) (up_ne (by decide) (h1))))))))) (up_ne (by decide) (up_ne (by decide) (up_ne (by decide) (up_ne (by decide) (up_ne (by decide) (up_ne (by decide) (up_ne (by decide) (up_ne (by decide) (h2))))))))) (up_ne (by decide) (up_ne (by decide) (up_ne (by decide) (up_ne (by decide) (up_ne (by decide) (up_ne (by decide) (up_ne (by decide) (up_ne (by decide) (h3))))))))) (up_ne (by decide) (up_ne (by decide) (up_ne (by decide) (up_ne (by decide) (up_ne (by decide) (up_ne (by decide) (up_ne (by decide) (up_ne (by decide) (h4))))))))) (up_ne (by decide) (up_ne (by decide) (up_ne (by decide) (up_ne (by decide) (up_ne (by decide) (up_ne (by decide) (up_ne (by decide) (up_eq _ _ _)))))))) (up_ne (by decide) (up_ne (by decide) (up_ne (by decide) (up_ne (by decide) (up_ne (by decide) (up_eq _ _ _)))))) (up_ne (by decide) (up_ne (by decide) (up_ne (by decide) (up_eq _ _ _)))) (up_ne (by decide) (up_eq _ _ _)) (fun j q => up_ne (by omega) (up_ne (by omega) (up_ne (by omega) (up_ne (by omega) (up_ne (by omega) (up_ne (by omega) (up_ne (by omega) (up_ne (by omega) (hF j q)))))))))
  have t4 : ∀ (s : Nat → va_E), s 64 = eO 1 [.int 0, .null, .null, .null, .null, .null, .null, .null, .null, .null, .null, .null, .null, .null, .null, .null, .null, .null, .null, .null, .null, .null, .null, .long 0] → (∀ j, j < 64 → s j = sg j) → G K o 65 s 0 0 4 [(0, .ref (ad o 64)), (1, .int f1), (2, .int f2)] [] := by
    intro s h0 hF
    refine g_aload_n C rfl rfl d_M_init_4 ?_
    refine g_bipush (v := 81) C rfl d_M_init_5 ?_
    refine g_newJ C 81 (by decide) (by decide) (by decide) d_M_init_7 (by omega) (by decide) (by decide) ?_
    refine pf_M_7 C d_M_init_9 hnm rfl rfl (by first | assumption | omega) (by repeat' first | assumption | exact up_eq _ _ _ | refine up_ne (by omega) ?_) (by exact Nat.le_of_ble_eq_true rfl) ?_
    refine g_aload_n C rfl rfl d_M_init_12 ?_
    refine g_bipush (v := 12) C rfl d_M_init_13 ?_
    refine g_newJ C 12 (by decide) (by decide) (by decide) d_M_init_15 (by omega) (by decide) (by decide) ?_
    refine pf_M_13 C d_M_init_17 hnm rfl rfl (by first | assumption | omega) (by repeat' first | assumption | exact up_eq _ _ _ | refine up_ne (by omega) ?_) (by exact Nat.le_of_ble_eq_true rfl) ?_
    refine g_aload_n C rfl rfl d_M_init_20 ?_
    refine g_iconst (v := 3) C rfl d_M_init_21 ?_
    refine g_newJ C 3 (by decide) (by decide) (by decide) d_M_init_22 (by omega) (by decide) (by decide) ?_
    refine pf_M_16 C d_M_init_24 hnm rfl rfl (by first | assumption | omega) (by repeat' first | assumption | exact up_eq _ _ _ | refine up_ne (by omega) ?_) (by exact Nat.le_of_ble_eq_true rfl) ?_
    refine g_aload_n C rfl rfl d_M_init_27 ?_
    refine g_iconst (v := 3) C rfl d_M_init_28 ?_
    refine g_newJ C 3 (by decide) (by decide) (by decide) d_M_init_29 (by omega) (by decide) (by decide) ?_
    refine pf_M_19 C d_M_init_31 hnm rfl rfl (by first | assumption | omega) (by repeat' first | assumption | exact up_eq _ _ _ | refine up_ne (by omega) ?_) (by exact Nat.le_of_ble_eq_true rfl) ?_
    exact t34 _ (up_eq _ _ _) (up_ne (by decide) (up_ne (by decide) (up_ne (by decide) (up_ne (by decide) (up_ne (by decide) (up_ne (by decide) (up_ne (by decide) (up_eq _ _ _)))))))) (up_ne (by decide) (up_ne (by decide) (up_ne (by decide) (up_ne (by decide) (up_ne (by decide) (up_eq _ _ _)))))) (up_ne (by decide) (up_ne (by decide) (up_ne (by decide) (up_eq _ _ _)))) (up_ne (by decide) (up_eq _ _ _)) (fun j q => up_ne (by omega) (up_ne (by omega) (up_ne (by omega) (up_ne (by omega) (up_ne (by omega) (up_ne (by omega) (up_ne (by omega) (up_ne (by omega) (hF j q)))))))))
  refine g_aload_n C rfl rfl d_M_init_0 ?_
  refine g_objInit C m_639 gi_obj gc_obj d_M_init_1 (by decide) (Nat.le_of_ble_eq_true rfl) ?_
  exact t4 sg h (fun j q => rfl)

