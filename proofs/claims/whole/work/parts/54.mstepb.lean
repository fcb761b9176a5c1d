-- WHAT A STEP OF THE REFERENCE ADDS
def riU (b : Nat → Bool) (g : Int64) (ri : Nat → Int64) (k : Nat) (i : Nat) : Int64 := if i < k ∧ b i = true then ri i + g else ri i
theorem pk_usL {f : Nat → Int64} {k : Nat} {x : Int64} : vp_updL f k x k = x := if_pos rfl
theorem pk_unL {f : Nat → Int64} {k : Nat} {x : Int64} {j : Nat} (h : j ≠ k) : vp_updL f k x j = f j := if_neg h
theorem riU_0 (b : Nat → Bool) (g : Int64) (ri : Nat → Int64) : riU b g ri 0 = ri := by
  funext i
  exact if_neg (fun q => by omega)
theorem riU_t {b : Nat → Bool} {g : Int64} {ri : Nat → Int64} {i : Nat} (h : b i = true) : vp_updL (riU b g ri i) i (riU b g ri i i + g) = riU b g ri (i + 1) := by
  funext j
  by_cases e : j = i
  · subst e
    rw [pk_usL]
    unfold riU
    rw [if_neg (fun q => by omega), if_pos ⟨by omega, h⟩]
  · rw [pk_unL e]
    unfold riU
    by_cases c : j < i ∧ b j = true
    · rw [if_pos c, if_pos ⟨by omega, c.2⟩]
    · rw [if_neg c, if_neg (fun q => c ⟨by omega, q.2⟩)]
theorem riU_f {b : Nat → Bool} {g : Int64} {ri : Nat → Int64} {i : Nat} (h : b i = false) : vp_updL (riU b g ri i) i (riU b g ri i i) = riU b g ri (i + 1) := by
  funext j
  by_cases e : j = i
  · subst e
    rw [pk_usL]
    unfold riU
    rw [if_neg (fun q => by omega), if_neg (fun q => by rw [h] at q; exact absurd q.2 (by decide))]
  · rw [pk_unL e]
    unfold riU
    by_cases c : j < i ∧ b j = true
    · rw [if_pos c, if_pos ⟨by omega, c.2⟩]
    · rw [if_neg c, if_neg (fun q => c ⟨by omega, q.2⟩)]
theorem riU_n {b : Nat → Bool} {ri : Nat → Int64} {k : Nat} : riU b 0 ri k = ri := by
  funext i
  unfold riU
  split
  · exact Int64.add_zero _
  · rfl
theorem updL_id {f : Nat → Int64} {k : Nat} : vp_updL f k (f k + 0) = f := by
  funext j
  by_cases e : j = k
  · subst e; rw [pk_usL, Int64.add_zero]
  · exact pk_unL e
set_option maxHeartbeats 4000000 in
theorem m_stepB {K : GX} {o n : Nat} {s : Nat → va_E} {m : Nat} {t0 : Int32} {la : Int64} {th : Nat → Bool} {ow pl : Nat → Nat} {lo hi : Nat → Int} {am : Nat → Nat} {np ng tk gt ri : Nat → Int64} {nt : Nat → Int32} {dn ex : Bool} {p r S L P I O F nx RS : Nat} {tz : Int} {post : Option Value → (Nat → va_E) → Prop} (C : GOk K b_M_step 36 y_M_step.cls (gRm 4 100 0 0) o) (E : GEnd K o n 0 0 post) (hr : (xM K).sig.returnType = some .long) (hn : m + 22 < n) (hM : isM s o m t0 la) (hR : isMR s m) (hP : isMP s m th ow pl lo hi am) (hB : pBd pl lo hi) (hnp : s (m + 17) = eJ 2 np) (hnt : s (m + 18) = eI 2 nt) (hng : s (m + 19) = eJ 2 ng) (htk : s (m + 20) = eJ 2 tk) (hgt : s (m + 21) = eJ 2 gt) (hri : s (m + 22) = eJ 12 ri) (hp : p < 2) (htz : nt p = iI tz) (h5 : -41 ≤ tz) (h6 : tz ≤ 40) (hnx : nx ≤ 80) (hP0 : rt 0 ≤ P) (hP2 : P ≤ rt 80) (hS2 : S < 2 ^ 63) (hL : L ≤ 600000000) (hF : F ≤ 2100000000) (hrs : if ex = true then I + F ≤ r ∧ RS = r - (I + F) else O ≤ r ∧ RS = r - O)
    (hpost : ∀ s', s' (m + 17) = eJ 2 (vp_updL np p (lN P)) → s' (m + 18) = eI 2 (upd nt p (iI (zTk dn P S ((nx : Int) - 40) tz))) → s' (m + 19) = eJ 2 (vp_updL ng p (ng p + lN (F * 4294967296 / L))) → s' (m + 20) = eJ 2 (vp_updL tk p (tk p + lN (I + F))) → s' (m + 21) = eJ 2 (vp_updL gt p (gt p + lN O)) → s' (m + 22) = eJ 12 (riU (mIn th pl lo hi p tz) (lN (F * 4294967296 / L)) ri 12) → (∀ j, j < m + 17 ∨ m + 22 < j → s' j = s j) → post (some (.long (lN RS))) s') : G K o n s 0 0 349 ((15, .long (lN L)) :: [(0, .ref (ad o m)), (1, .int (nI p)), (2, .int (bz dn)), (3, .int (bz ex)), (4, .long (lN r)), (8, .int (iI ((nx : Int) - 40))), (9, .long (lN S)), (11, .long (lN (rt nx))), (21, .long (lN P)), (27, .long (lN I)), (29, .long (lN O)), (31, .long (lN F))]) [] := by
  have hm1 : s m = _ := hM
  have hcl : (nI p).toNatClampNeg = p := nI_clamp (by omega)
  have hin : vp_in (nI p) 2 := vp_in_nI hp (by decide)
  have hL3 : L < 2 ^ 63 := by omega
  have endx : ∀ s2, s2 (m + 17) = eJ 2 np → s2 (m + 18) = eI 2 nt → s2 (m + 19) = eJ 2 (vp_updL ng p (ng p + lN (F * 4294967296 / L))) → s2 (m + 20) = eJ 2 (vp_updL tk p (tk p + lN (I + F))) → s2 (m + 21) = eJ 2 (vp_updL gt p (gt p + lN O)) → s2 (m + 22) = eJ 12 (riU (mIn th pl lo hi p tz) (lN (F * 4294967296 / L)) ri 12) → (∀ j, j < m + 17 ∨ m + 22 < j → s2 j = s j) → G K o n s2 0 0 462 [(0, .ref (ad o m)), (1, .int (nI p)), (2, .int (bz dn)), (3, .int (bz ex)), (4, .long (lN r)), (8, .int (iI ((nx : Int) - 40))), (9, .long (lN S)), (11, .long (lN (rt nx))), (21, .long (lN P)), (27, .long (lN I)), (29, .long (lN O)), (31, .long (lN F))] [] := by
    intro s2 q1 q2 q3 q4 q5 q6 q7
    obtain ⟨f, r1, r2⟩ := id hR
    exact m_stepD C E hr hn ((q7 m (by omega)).trans hM) ⟨f, (q7 (m + 1) (by omega)).trans r1, r2⟩ q1 q2 hp htz hnx hP0 hP2 hS2 hrs (fun s' a b c => hpost s' a b ((c _ (by omega) (by omega)).trans q3) ((c _ (by omega) (by omega)).trans q4) ((c _ (by omega) (by omega)).trans q5) ((c _ (by omega) (by omega)).trans q6) (fun j d => (c j (by omega) (by omega)).trans (q7 j d)))
  by_cases hL0 : L = 0
  · refine g_aload_n C rfl rfl d_M_step_349 ?_
    refine gf_M_69 C d_M_step_350 (by first | assumption | omega) (by repeat' first | assumption | exact up_eq _ _ _ | refine up_ne (by omega) ?_) (by rfl) ?_
    refine g_iload_n C rfl rfl d_M_step_353 ?_
    refine g_dup2 C rfl rfl d_M_step_354 ?_
    refine g_lald C d_M_step_355 (by first | assumption | omega) (by repeat' first | assumption | exact up_eq _ _ _ | refine up_ne (by omega) ?_) hin ?_
    refine g_lload C rfl d_M_step_356 ?_
    refine g_lload C rfl d_M_step_358 ?_
    refine g_ladd C d_M_step_360 ?_
    rw [lN_add]
    refine g_ladd C d_M_step_361 ?_
    refine g_last C d_M_step_362 (by first | assumption | omega) (by repeat' first | assumption | exact up_eq _ _ _ | refine up_ne (by omega) ?_) hin ?_
    rw [hcl]
    refine g_aload_n C rfl rfl d_M_step_363 ?_
    refine gf_M_72 C d_M_step_364 (by first | assumption | omega) (by repeat' first | assumption | exact up_eq _ _ _ | refine up_ne (by omega) ?_) (by rfl) ?_
    refine g_iload_n C rfl rfl d_M_step_367 ?_
    refine g_dup2 C rfl rfl d_M_step_368 ?_
    refine g_lald C d_M_step_369 (by first | assumption | omega) (by repeat' first | assumption | exact up_eq _ _ _ | refine up_ne (by omega) ?_) hin ?_
    refine g_lload C rfl d_M_step_370 ?_
    refine g_ladd C d_M_step_372 ?_
    refine g_last C d_M_step_373 (by first | assumption | omega) (by repeat' first | assumption | exact up_eq _ _ _ | refine up_ne (by omega) ?_) hin ?_
    rw [hcl]
    refine g_lload C rfl d_M_step_374 ?_
    refine g_lconst (v := 0) C rfl d_M_step_376 ?_
    refine g_lcmp_eq (tgt := 462) C d_M_step_377 d_M_step_378 (by decide) (fun j377 => ?_) (fun j377 => ?_)
    rotate_left
    · exact absurd (by rw [hL0]; rfl) j377
    refine g_pick [1, 2, 3, 4, 5, 6, 7, 8, 9, 10, 11, 12] rfl ?_
    have hz : lN (F * 4294967296 / L) = 0 := by rw [hL0, Nat.div_zero]; rfl
    exact endx _ (by repeat' first | assumption | exact up_eq _ _ _ | refine up_ne (by omega) ?_) (by repeat' first | assumption | exact up_eq _ _ _ | refine up_ne (by omega) ?_) (by rw [hz, updL_id]; exact (by repeat' first | assumption | exact up_eq _ _ _ | refine up_ne (by omega) ?_)) (by repeat' first | assumption | exact up_eq _ _ _ | refine up_ne (by omega) ?_) (by repeat' first | assumption | exact up_eq _ _ _ | refine up_ne (by omega) ?_) (by rw [hz, riU_n]; exact (by repeat' first | assumption | exact up_eq _ _ _ | refine up_ne (by omega) ?_)) (fun j a => by repeat' first | exact rfl | refine up_ne (by omega) ?_)
  · have hb0 : ¬ lN L = 0 := fun h => by rw [lN_ne0 hL3] at h; omega
    have loop : ∀ (k i : Nat), i + k = 12 → ∀ (s2 : Nat → va_E) (x : Int32), x = nI i → s2 (m + 17) = eJ 2 np → s2 (m + 18) = eI 2 nt → s2 (m + 19) = eJ 2 (vp_updL ng p (ng p + lN (F * 4294967296 / L))) → s2 (m + 20) = eJ 2 (vp_updL tk p (tk p + lN (I + F))) → s2 (m + 21) = eJ 2 (vp_updL gt p (gt p + lN O)) → s2 (m + 22) = eJ 12 (riU (mIn th pl lo hi p tz) (lN (F * 4294967296 / L)) ri i) → (∀ j, j < m + 17 ∨ m + 22 < j → s2 j = s j) → G K o n s2 0 0 406 ((35, .int x) :: (33, .long (lN (F * 4294967296 / L))) :: [(0, .ref (ad o m)), (1, .int (nI p)), (2, .int (bz dn)), (3, .int (bz ex)), (4, .long (lN r)), (8, .int (iI ((nx : Int) - 40))), (9, .long (lN S)), (11, .long (lN (rt nx))), (21, .long (lN P)), (27, .long (lN I)), (29, .long (lN O)), (31, .long (lN F))]) [] := by
      intro k
      induction k with
      | zero =>
        intro i hi2 s2 x ex2 q1 q2 q3 q4 q5 q6 q7
        have hi3 : i = 12 := by omega
        subst hi3
        refine g_iload C rfl d_M_step_406 ?_
        refine g_bipush (v := 12) C rfl d_M_step_408 ?_
        refine g_icmp_ge (tgt := 462) C d_M_step_410 (by decide) (fun j410 => ?_) (fun j410 => ?_)
        rotate_left
        · exact absurd (by rw [ex2]; decide) j410
        refine g_pick [2, 3, 4, 5, 6, 7, 8, 9, 10, 11, 12, 13] rfl ?_
        exact endx s2 q1 q2 q3 q4 q5 q6 q7
      | succ k ih =>
        intro i hi2 s2 x ex2 q1 q2 q3 q4 q5 q6 q7
        have hi3 : i < 12 := by omega
        have hci : (nI i).toNatClampNeg = i := nI_clamp (by omega)
        have sM : isM s2 o m t0 la := (q7 m (by omega)).trans hM
        have sm1 : s2 m = _ := sM
        have sP : isMP s2 m th ow pl lo hi am := ⟨(q7 _ (by omega)).trans hP.1, (q7 _ (by omega)).trans hP.2.1, (q7 _ (by omega)).trans hP.2.2.1, (q7 _ (by omega)).trans hP.2.2.2.1, (q7 _ (by omega)).trans hP.2.2.2.2.1, (q7 _ (by omega)).trans hP.2.2.2.2.2⟩
        have hix : vp_in (nI i) 12 := vp_in_nI hi3 (by decide)
        rw [ex2]
        refine g_iload C rfl d_M_step_406 ?_
        refine g_bipush (v := 12) C rfl d_M_step_408 ?_
        refine g_icmp_ge (tgt := 462) C d_M_step_410 (by decide) (fun j410 => ?_) (fun j410 => ?_)
        · exact absurd j410 (nI_ge (a := i) (b := 12) hi3 (by decide))
        refine g_aload_n C rfl rfl d_M_step_413 ?_
        refine gf_M_75 C d_M_step_414 (by first | assumption | omega) (by repeat' first | assumption | exact up_eq _ _ _ | refine up_ne (by omega) ?_) (by rfl) ?_
        refine g_iload C rfl d_M_step_417 ?_
        refine g_aload_n C rfl rfl d_M_step_419 ?_
        refine g_iload C rfl d_M_step_420 ?_
        refine g_iload_n C rfl rfl d_M_step_422 ?_
        refine g_aload_n C rfl rfl d_M_step_423 ?_
        refine gf_M_63 C d_M_step_424 (by first | assumption | omega) (by repeat' first | assumption | exact up_eq _ _ _ | refine up_ne (by omega) ?_) (by rfl) ?_
        refine g_iload_n C rfl rfl d_M_step_427 ?_
        refine g_iald C d_M_step_428 (by first | assumption | omega) (by repeat' first | assumption | exact up_eq _ _ _ | refine up_ne (by omega) ?_) hin ?_
        rw [hcl, htz]
        refine g_callV C (c_M_inRange i p tz hn sM sP hB hi3 hp h5 h6) Y_M_inRange m_833 s_M_inRange m_831 rfl rfl ⟨by decide, by decide⟩ ⟨by decide, by decide⟩ (fun h => nomatch h) d_M_step_429 (by first | assumption | omega) (by repeat' first | assumption | exact up_eq _ _ _ | refine up_ne (by omega) ?_) rfl (Nat.le_of_ble_eq_true rfl) (fun ret sg429 hq => ?_)
        obtain ⟨rfl, rfl⟩ := hq
        refine g_if_eq (tgt := 448) C d_M_step_432 (by decide) (fun j432 => ?_) (fun j432 => ?_)
        · refine g_aload_n C rfl rfl d_M_step_448 ?_
          refine gf_M_75 C d_M_step_449 (by first | assumption | omega) (by repeat' first | assumption | exact up_eq _ _ _ | refine up_ne (by omega) ?_) (by rfl) ?_
          refine g_iload C rfl d_M_step_452 ?_
          refine g_lald C d_M_step_454 (by first | assumption | omega) (by repeat' first | assumption | exact up_eq _ _ _ | refine up_ne (by omega) ?_) hix ?_
          try rw [hci]
          refine g_last C d_M_step_455 (by first | assumption | omega) (by repeat' first | assumption | exact up_eq _ _ _ | refine up_ne (by omega) ?_) hix ?_
          rw [hci]
          obtain ⟨y, e_y⟩ : ∃ y : Int32, ((nI i)) + Int32.ofInt 1 = y := ⟨_, rfl⟩
          refine g_iinc (lv' := [(35, .int y), (33, .long (lN (F * 4294967296 / L))), (0, .ref (ad o m)), (1, .int (nI p)), (2, .int (bz dn)), (3, .int (bz ex)), (4, .long (lN r)), (8, .int (iI ((nx : Int) - 40))), (9, .long (lN S)), (11, .long (lN (rt nx))), (21, .long (lN P)), (27, .long (lN I)), (29, .long (lN O)), (31, .long (lN F))]) C d_M_step_456 rfl e_y (by decide) rfl ?_
          refine g_goto (tgt := 406) C d_M_step_459 (by decide) ?_
          refine g_pick [0, 1, 2, 3, 4, 5, 6, 7, 8, 9, 10, 11, 12, 13] rfl ?_
          first | (have hb := nb0 j432; exact ih (i + 1) (by omega) _ _ (by rw [← e_y]; exact nI_1 i) (up_ne (by omega) q1) (up_ne (by omega) q2) (up_ne (by omega) q3) (up_ne (by omega) q4) (up_ne (by omega) q5) (by rw [← riU_t hb]; exact up_eq _ _ _) (fun j a => up_ne (by omega) (q7 j a))) | (have hb := (bz_eq0 _).mp j432; exact ih (i + 1) (by omega) _ _ (by rw [← e_y]; exact nI_1 i) (up_ne (by omega) q1) (up_ne (by omega) q2) (up_ne (by omega) q3) (up_ne (by omega) q4) (up_ne (by omega) q5) (by rw [← riU_f hb]; exact up_eq _ _ _) (fun j a => up_ne (by omega) (q7 j a)))
        · refine g_aload_n C rfl rfl d_M_step_435 ?_
          refine gf_M_75 C d_M_step_436 (by first | assumption | omega) (by repeat' first | assumption | exact up_eq _ _ _ | refine up_ne (by omega) ?_) (by rfl) ?_
          refine g_iload C rfl d_M_step_439 ?_
          refine g_lald C d_M_step_441 (by first | assumption | omega) (by repeat' first | assumption | exact up_eq _ _ _ | refine up_ne (by omega) ?_) hix ?_
          rw [hci]
          refine g_lload C rfl d_M_step_442 ?_
          refine g_ladd C d_M_step_444 ?_
          refine g_goto (tgt := 455) C d_M_step_445 (by decide) ?_
          try rw [hci]
          refine g_last C d_M_step_455 (by first | assumption | omega) (by repeat' first | assumption | exact up_eq _ _ _ | refine up_ne (by omega) ?_) hix ?_
          rw [hci]
          obtain ⟨y, e_y⟩ : ∃ y : Int32, ((nI i)) + Int32.ofInt 1 = y := ⟨_, rfl⟩
          refine g_iinc (lv' := [(35, .int y), (33, .long (lN (F * 4294967296 / L))), (0, .ref (ad o m)), (1, .int (nI p)), (2, .int (bz dn)), (3, .int (bz ex)), (4, .long (lN r)), (8, .int (iI ((nx : Int) - 40))), (9, .long (lN S)), (11, .long (lN (rt nx))), (21, .long (lN P)), (27, .long (lN I)), (29, .long (lN O)), (31, .long (lN F))]) C d_M_step_456 rfl e_y (by decide) rfl ?_
          refine g_goto (tgt := 406) C d_M_step_459 (by decide) ?_
          refine g_pick [0, 1, 2, 3, 4, 5, 6, 7, 8, 9, 10, 11, 12, 13] rfl ?_
          first | (have hb := nb0 j432; exact ih (i + 1) (by omega) _ _ (by rw [← e_y]; exact nI_1 i) (up_ne (by omega) q1) (up_ne (by omega) q2) (up_ne (by omega) q3) (up_ne (by omega) q4) (up_ne (by omega) q5) (by rw [← riU_t hb]; exact up_eq _ _ _) (fun j a => up_ne (by omega) (q7 j a))) | (have hb := (bz_eq0 _).mp j432; exact ih (i + 1) (by omega) _ _ (by rw [← e_y]; exact nI_1 i) (up_ne (by omega) q1) (up_ne (by omega) q2) (up_ne (by omega) q3) (up_ne (by omega) q4) (up_ne (by omega) q5) (by rw [← riU_f hb]; exact up_eq _ _ _) (fun j a => up_ne (by omega) (q7 j a)))
    refine g_aload_n C rfl rfl d_M_step_349 ?_
    refine gf_M_69 C d_M_step_350 (by first | assumption | omega) (by repeat' first | assumption | exact up_eq _ _ _ | refine up_ne (by omega) ?_) (by rfl) ?_
    refine g_iload_n C rfl rfl d_M_step_353 ?_
    refine g_dup2 C rfl rfl d_M_step_354 ?_
    refine g_lald C d_M_step_355 (by first | assumption | omega) (by repeat' first | assumption | exact up_eq _ _ _ | refine up_ne (by omega) ?_) hin ?_
    refine g_lload C rfl d_M_step_356 ?_
    refine g_lload C rfl d_M_step_358 ?_
    refine g_ladd C d_M_step_360 ?_
    rw [lN_add]
    refine g_ladd C d_M_step_361 ?_
    refine g_last C d_M_step_362 (by first | assumption | omega) (by repeat' first | assumption | exact up_eq _ _ _ | refine up_ne (by omega) ?_) hin ?_
    rw [hcl]
    refine g_aload_n C rfl rfl d_M_step_363 ?_
    refine gf_M_72 C d_M_step_364 (by first | assumption | omega) (by repeat' first | assumption | exact up_eq _ _ _ | refine up_ne (by omega) ?_) (by rfl) ?_
    refine g_iload_n C rfl rfl d_M_step_367 ?_
    refine g_dup2 C rfl rfl d_M_step_368 ?_
    refine g_lald C d_M_step_369 (by first | assumption | omega) (by repeat' first | assumption | exact up_eq _ _ _ | refine up_ne (by omega) ?_) hin ?_
    refine g_lload C rfl d_M_step_370 ?_
    refine g_ladd C d_M_step_372 ?_
    refine g_last C d_M_step_373 (by first | assumption | omega) (by repeat' first | assumption | exact up_eq _ _ _ | refine up_ne (by omega) ?_) hin ?_
    rw [hcl]
    refine g_lload C rfl d_M_step_374 ?_
    refine g_lconst (v := 0) C rfl d_M_step_376 ?_
    refine g_lcmp_eq (tgt := 462) C d_M_step_377 d_M_step_378 (by decide) (fun j377 => ?_) (fun j377 => ?_)
    · exact absurd j377 hb0
    refine g_lload C rfl d_M_step_381 ?_
    refine g_ldc2 C m_640 d_M_step_383 ?_
    refine g_lmul C d_M_step_386 ?_
    rw [show (4294967296 : Int64) = lN 4294967296 from rfl, lN_mul]
    refine g_lload C rfl d_M_step_387 ?_
    refine g_ldiv C hb0 d_M_step_389 ?_
    rw [pk_lDiv (big_r hF) (by omega) hL3]
    refine g_lstore (lv' := [(33, .long (lN (F * 4294967296 / L))), (15, .long (lN L)), (0, .ref (ad o m)), (1, .int (nI p)), (2, .int (bz dn)), (3, .int (bz ex)), (4, .long (lN r)), (8, .int (iI ((nx : Int) - 40))), (9, .long (lN S)), (11, .long (lN (rt nx))), (21, .long (lN P)), (27, .long (lN I)), (29, .long (lN O)), (31, .long (lN F))]) C d_M_step_390 (by decide) rfl ?_
    refine g_aload_n C rfl rfl d_M_step_392 ?_
    refine gf_M_66 C d_M_step_393 (by first | assumption | omega) (by repeat' first | assumption | exact up_eq _ _ _ | refine up_ne (by omega) ?_) (by rfl) ?_
    refine g_iload_n C rfl rfl d_M_step_396 ?_
    refine g_dup2 C rfl rfl d_M_step_397 ?_
    refine g_lald C d_M_step_398 (by first | assumption | omega) (by repeat' first | assumption | exact up_eq _ _ _ | refine up_ne (by omega) ?_) hin ?_
    refine g_lload C rfl d_M_step_399 ?_
    refine g_ladd C d_M_step_401 ?_
    refine g_last C d_M_step_402 (by first | assumption | omega) (by repeat' first | assumption | exact up_eq _ _ _ | refine up_ne (by omega) ?_) hin ?_
    rw [hcl]
    refine g_iconst (v := 0) C rfl d_M_step_403 ?_
    refine g_topi (fun x e_x => ?_)
    refine g_istore (lv' := [(35, .int x), (33, .long (lN (F * 4294967296 / L))), (15, .long (lN L)), (0, .ref (ad o m)), (1, .int (nI p)), (2, .int (bz dn)), (3, .int (bz ex)), (4, .long (lN r)), (8, .int (iI ((nx : Int) - 40))), (9, .long (lN S)), (11, .long (lN (rt nx))), (21, .long (lN P)), (27, .long (lN I)), (29, .long (lN O)), (31, .long (lN F))]) C d_M_step_404 (by decide) rfl ?_
    refine g_pick [0, 1, 3, 4, 5, 6, 7, 8, 9, 10, 11, 12, 13, 14] rfl ?_
    exact loop 12 0 rfl _ _ e_x (by repeat' first | assumption | exact up_eq _ _ _ | refine up_ne (by omega) ?_) (by repeat' first | assumption | exact up_eq _ _ _ | refine up_ne (by omega) ?_) (by repeat' first | assumption | exact up_eq _ _ _ | refine up_ne (by omega) ?_) (by repeat' first | assumption | exact up_eq _ _ _ | refine up_ne (by omega) ?_) (by repeat' first | assumption | exact up_eq _ _ _ | refine up_ne (by omega) ?_) (by rw [riU_0]; exact (by repeat' first | assumption | exact up_eq _ _ _ | refine up_ne (by omega) ?_)) (fun j a => by repeat' first | exact rfl | refine up_ne (by omega) ?_)

