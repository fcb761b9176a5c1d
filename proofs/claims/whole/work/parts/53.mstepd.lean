-- THE END OF THE REFERENCE'S STEP: price, tick, what is left
theorem upd_id {f : Nat → Int32} {k : Nat} {x : Int32} (h : f k = x) : upd f k x = f := by
  funext j
  by_cases e : j = k
  · subst e; rw [pk_us, h]
  · exact pk_un e
set_option maxHeartbeats 4000000 in
theorem m_stepD {K : GX} {o n : Nat} {s : Nat → va_E} {m : Nat} {t0 : Int32} {la : Int64} {np : Nat → Int64} {nt : Nat → Int32} {dn ex : Bool} {p r S P I O F nx RS : Nat} {tz : Int} {post : Option Value → (Nat → va_E) → Prop} (C : GOk K b_M_step 36 y_M_step.cls (gRm 4 100 0 0) o) (E : GEnd K o n 0 0 post) (hr : (xM K).sig.returnType = some .long) (hn : m + 22 < n) (hM : isM s o m t0 la) (hR : isMR s m) (hnp : s (m + 17) = eJ 2 np) (hnt : s (m + 18) = eI 2 nt) (hp : p < 2) (htz : nt p = iI tz) (hnx : nx ≤ 80) (hP0 : rt 0 ≤ P) (hP2 : P ≤ rt 80) (hS2 : S < 2 ^ 63) (hrs : if ex = true then I + F ≤ r ∧ RS = r - (I + F) else O ≤ r ∧ RS = r - O)
    (hpost : ∀ s', s' (m + 17) = eJ 2 (vp_updL np p (lN P)) → s' (m + 18) = eI 2 (upd nt p (iI (zTk dn P S ((nx : Int) - 40) tz))) → (∀ j, j ≠ m + 17 → j ≠ m + 18 → s' j = s j) → post (some (.long (lN RS))) s') : G K o n s 0 0 462 [(0, .ref (ad o m)), (1, .int (nI p)), (2, .int (bz dn)), (3, .int (bz ex)), (4, .long (lN r)), (8, .int (iI ((nx : Int) - 40))), (9, .long (lN S)), (11, .long (lN (rt nx))), (21, .long (lN P)), (27, .long (lN I)), (29, .long (lN O)), (31, .long (lN F))] [] := by
  have ht80 := rt_top
  have hP3 : P < 2 ^ 63 := by omega
  have hrn3 : rt nx < 2 ^ 63 := Nat.lt_trans (rt_up hnx) (by decide)
  have hm1 : s m = _ := hM
  have hcl : (nI p).toNatClampNeg = p := nI_clamp (by omega)
  have hin : vp_in (nI p) 2 := vp_in_nI hp (by decide)
  have hR1 : ∀ s', (∀ j, j ≠ m + 17 → j ≠ m + 18 → s' j = s j) → isMR s' m := fun s' hs => by
    obtain ⟨f, h1, h2⟩ := hR
    exact ⟨f, (hs (m + 1) (by omega) (by omega)).trans h1, h2⟩
  have endx : ∀ s', s' (m + 17) = eJ 2 (vp_updL np p (lN P)) → s' (m + 18) = eI 2 (upd nt p (iI (zTk dn P S ((nx : Int) - 40) tz))) → (∀ j, j ≠ m + 17 → j ≠ m + 18 → s' j = s j) → G K o n s' 0 0 559 [(0, .ref (ad o m)), (1, .int (nI p)), (2, .int (bz dn)), (3, .int (bz ex)), (4, .long (lN r)), (8, .int (iI ((nx : Int) - 40))), (9, .long (lN S)), (11, .long (lN (rt nx))), (21, .long (lN P)), (27, .long (lN I)), (29, .long (lN O)), (31, .long (lN F))] [] := by
    intro s' q1 q2 q3
    have q4 := hpost s' q1 q2 q3
    cases ex
    · obtain ⟨h1, h2⟩ := hrs
      refine g_iload_n C rfl rfl d_M_step_559 ?_
      refine g_if_eq (tgt := 574) C d_M_step_560 (by decide) (fun j560 => ?_) (fun j560 => ?_)
      rotate_left
      · exact absurd rfl j560
      refine g_lload C rfl d_M_step_574 ?_
      refine g_lload C rfl d_M_step_576 ?_
      refine g_lsub C d_M_step_578 ?_
      rw [lN_sub h1, ← h2]
      refine g_lret C E hr d_M_step_579 q4
    · obtain ⟨h1, h2⟩ := hrs
      refine g_iload_n C rfl rfl d_M_step_559 ?_
      refine g_if_eq (tgt := 574) C d_M_step_560 (by decide) (fun j560 => ?_) (fun j560 => ?_)
      · exact absurd j560 (by decide)
      refine g_lload C rfl d_M_step_563 ?_
      refine g_lload C rfl d_M_step_565 ?_
      refine g_lsub C d_M_step_567 ?_
      refine g_lload C rfl d_M_step_568 ?_
      refine g_lsub C d_M_step_570 ?_
      refine g_goto (tgt := 579) C d_M_step_571 (by decide) ?_
      rw [lN_sub (show I ≤ r by omega), lN_sub (show F ≤ r - I by omega), show r - I - F = RS by omega]
      refine g_lret C E hr d_M_step_579 q4
  by_cases hH : P = rt nx
  · cases dn
    · refine g_lload C rfl d_M_step_462 ?_
      refine g_lload C rfl d_M_step_464 ?_
      refine g_lcmp_eq (tgt := 474) C d_M_step_466 d_M_step_467 (by decide) (fun j466 => ?_) (fun j466 => ?_)
      · refine g_iconst (v := 0) C rfl d_M_step_474 ?_
        refine g_topi (fun mv e_mv => ?_)
        refine g_istore (lv' := [(33, .int mv), (0, .ref (ad o m)), (1, .int (nI p)), (2, .int (bz false)), (3, .int (bz ex)), (4, .long (lN r)), (8, .int (iI ((nx : Int) - 40))), (9, .long (lN S)), (11, .long (lN (rt nx))), (21, .long (lN P)), (27, .long (lN I)), (29, .long (lN O)), (31, .long (lN F))]) C d_M_step_475 (by decide) rfl ?_
        refine g_aload_n C rfl rfl d_M_step_477 ?_
        refine gf_M_60 C d_M_step_478 (by first | assumption | omega) (by repeat' first | assumption | exact up_eq _ _ _ | refine up_ne (by omega) ?_) (by rfl) ?_
        refine g_iload_n C rfl rfl d_M_step_481 ?_
        refine g_lload C rfl d_M_step_482 ?_
        refine g_last C d_M_step_484 (by first | assumption | omega) (by repeat' first | assumption | exact up_eq _ _ _ | refine up_ne (by omega) ?_) hin ?_
        rw [hcl]
        refine g_lload C rfl d_M_step_485 ?_
        refine g_lload C rfl d_M_step_487 ?_
        refine g_lcmp_ne (tgt := 515) C d_M_step_489 d_M_step_490 (by decide) (fun j489 => ?_) (fun j489 => ?_)
        · exact absurd (congrArg lN hH) j489
        refine g_aload_n C rfl rfl d_M_step_493 ?_
        refine gf_M_63 C d_M_step_494 (by first | assumption | omega) (by repeat' first | assumption | exact up_eq _ _ _ | refine up_ne (by omega) ?_) (by rfl) ?_
        refine g_iload_n C rfl rfl d_M_step_497 ?_
        refine g_iload_n C rfl rfl d_M_step_498 ?_
        refine g_if_eq (tgt := 509) C d_M_step_499 (by decide) (fun j499 => ?_) (fun j499 => ?_)
        rotate_left
        · exact absurd rfl j499
        refine g_iload C rfl d_M_step_509 ?_
        refine g_iast C d_M_step_511 (by first | assumption | omega) (by repeat' first | assumption | exact up_eq _ _ _ | refine up_ne (by omega) ?_) hin ?_
        rw [hcl]
        refine g_goto (tgt := 559) C d_M_step_512 (by decide) ?_
        refine g_pick [1, 2, 3, 4, 5, 6, 7, 8, 9, 10, 11, 12] rfl ?_
        exact endx _ (by repeat' first | assumption | exact up_eq _ _ _ | refine up_ne (by omega) ?_) (by rw [zTk_hit hH, if_neg (show ¬ false = true by decide)]; exact (by repeat' first | assumption | exact up_eq _ _ _ | refine up_ne (by omega) ?_)) (fun j a b => by repeat' first | exact rfl | refine up_ne (by omega) ?_)
      · refine g_iconst (v := 1) C rfl d_M_step_470 ?_
        refine g_goto (tgt := 475) C d_M_step_471 (by decide) ?_
        refine g_topi (fun mv e_mv => ?_)
        refine g_istore (lv' := [(33, .int mv), (0, .ref (ad o m)), (1, .int (nI p)), (2, .int (bz false)), (3, .int (bz ex)), (4, .long (lN r)), (8, .int (iI ((nx : Int) - 40))), (9, .long (lN S)), (11, .long (lN (rt nx))), (21, .long (lN P)), (27, .long (lN I)), (29, .long (lN O)), (31, .long (lN F))]) C d_M_step_475 (by decide) rfl ?_
        refine g_aload_n C rfl rfl d_M_step_477 ?_
        refine gf_M_60 C d_M_step_478 (by first | assumption | omega) (by repeat' first | assumption | exact up_eq _ _ _ | refine up_ne (by omega) ?_) (by rfl) ?_
        refine g_iload_n C rfl rfl d_M_step_481 ?_
        refine g_lload C rfl d_M_step_482 ?_
        refine g_last C d_M_step_484 (by first | assumption | omega) (by repeat' first | assumption | exact up_eq _ _ _ | refine up_ne (by omega) ?_) hin ?_
        rw [hcl]
        refine g_lload C rfl d_M_step_485 ?_
        refine g_lload C rfl d_M_step_487 ?_
        refine g_lcmp_ne (tgt := 515) C d_M_step_489 d_M_step_490 (by decide) (fun j489 => ?_) (fun j489 => ?_)
        · exact absurd (congrArg lN hH) j489
        refine g_aload_n C rfl rfl d_M_step_493 ?_
        refine gf_M_63 C d_M_step_494 (by first | assumption | omega) (by repeat' first | assumption | exact up_eq _ _ _ | refine up_ne (by omega) ?_) (by rfl) ?_
        refine g_iload_n C rfl rfl d_M_step_497 ?_
        refine g_iload_n C rfl rfl d_M_step_498 ?_
        refine g_if_eq (tgt := 509) C d_M_step_499 (by decide) (fun j499 => ?_) (fun j499 => ?_)
        rotate_left
        · exact absurd rfl j499
        refine g_iload C rfl d_M_step_509 ?_
        refine g_iast C d_M_step_511 (by first | assumption | omega) (by repeat' first | assumption | exact up_eq _ _ _ | refine up_ne (by omega) ?_) hin ?_
        rw [hcl]
        refine g_goto (tgt := 559) C d_M_step_512 (by decide) ?_
        refine g_pick [1, 2, 3, 4, 5, 6, 7, 8, 9, 10, 11, 12] rfl ?_
        exact endx _ (by repeat' first | assumption | exact up_eq _ _ _ | refine up_ne (by omega) ?_) (by rw [zTk_hit hH, if_neg (show ¬ false = true by decide)]; exact (by repeat' first | assumption | exact up_eq _ _ _ | refine up_ne (by omega) ?_)) (fun j a b => by repeat' first | exact rfl | refine up_ne (by omega) ?_)
    · refine g_lload C rfl d_M_step_462 ?_
      refine g_lload C rfl d_M_step_464 ?_
      refine g_lcmp_eq (tgt := 474) C d_M_step_466 d_M_step_467 (by decide) (fun j466 => ?_) (fun j466 => ?_)
      · refine g_iconst (v := 0) C rfl d_M_step_474 ?_
        refine g_topi (fun mv e_mv => ?_)
        refine g_istore (lv' := [(33, .int mv), (0, .ref (ad o m)), (1, .int (nI p)), (2, .int (bz true)), (3, .int (bz ex)), (4, .long (lN r)), (8, .int (iI ((nx : Int) - 40))), (9, .long (lN S)), (11, .long (lN (rt nx))), (21, .long (lN P)), (27, .long (lN I)), (29, .long (lN O)), (31, .long (lN F))]) C d_M_step_475 (by decide) rfl ?_
        refine g_aload_n C rfl rfl d_M_step_477 ?_
        refine gf_M_60 C d_M_step_478 (by first | assumption | omega) (by repeat' first | assumption | exact up_eq _ _ _ | refine up_ne (by omega) ?_) (by rfl) ?_
        refine g_iload_n C rfl rfl d_M_step_481 ?_
        refine g_lload C rfl d_M_step_482 ?_
        refine g_last C d_M_step_484 (by first | assumption | omega) (by repeat' first | assumption | exact up_eq _ _ _ | refine up_ne (by omega) ?_) hin ?_
        rw [hcl]
        refine g_lload C rfl d_M_step_485 ?_
        refine g_lload C rfl d_M_step_487 ?_
        refine g_lcmp_ne (tgt := 515) C d_M_step_489 d_M_step_490 (by decide) (fun j489 => ?_) (fun j489 => ?_)
        · exact absurd (congrArg lN hH) j489
        refine g_aload_n C rfl rfl d_M_step_493 ?_
        refine gf_M_63 C d_M_step_494 (by first | assumption | omega) (by repeat' first | assumption | exact up_eq _ _ _ | refine up_ne (by omega) ?_) (by rfl) ?_
        refine g_iload_n C rfl rfl d_M_step_497 ?_
        refine g_iload_n C rfl rfl d_M_step_498 ?_
        refine g_if_eq (tgt := 509) C d_M_step_499 (by decide) (fun j499 => ?_) (fun j499 => ?_)
        · exact absurd j499 (by decide)
        refine g_iload C rfl d_M_step_502 ?_
        refine g_iconst (v := 1) C rfl d_M_step_504 ?_
        refine g_isub C d_M_step_505 ?_
        refine g_goto (tgt := 511) C d_M_step_506 (by decide) ?_
        refine g_iast C d_M_step_511 (by first | assumption | omega) (by repeat' first | assumption | exact up_eq _ _ _ | refine up_ne (by omega) ?_) hin ?_
        rw [hcl, show (1 : Int32) = iI 1 from rfl, iI_sub, show ((nx : Int) - 40 - 1) = (nx : Int) - 41 by omega]
        refine g_goto (tgt := 559) C d_M_step_512 (by decide) ?_
        refine g_pick [1, 2, 3, 4, 5, 6, 7, 8, 9, 10, 11, 12] rfl ?_
        exact endx _ (by repeat' first | assumption | exact up_eq _ _ _ | refine up_ne (by omega) ?_) (by rw [zTk_hit hH, if_pos (show true = true from rfl)]; exact (by repeat' first | assumption | exact up_eq _ _ _ | refine up_ne (by omega) ?_)) (fun j a b => by repeat' first | exact rfl | refine up_ne (by omega) ?_)
      · refine g_iconst (v := 1) C rfl d_M_step_470 ?_
        refine g_goto (tgt := 475) C d_M_step_471 (by decide) ?_
        refine g_topi (fun mv e_mv => ?_)
        refine g_istore (lv' := [(33, .int mv), (0, .ref (ad o m)), (1, .int (nI p)), (2, .int (bz true)), (3, .int (bz ex)), (4, .long (lN r)), (8, .int (iI ((nx : Int) - 40))), (9, .long (lN S)), (11, .long (lN (rt nx))), (21, .long (lN P)), (27, .long (lN I)), (29, .long (lN O)), (31, .long (lN F))]) C d_M_step_475 (by decide) rfl ?_
        refine g_aload_n C rfl rfl d_M_step_477 ?_
        refine gf_M_60 C d_M_step_478 (by first | assumption | omega) (by repeat' first | assumption | exact up_eq _ _ _ | refine up_ne (by omega) ?_) (by rfl) ?_
        refine g_iload_n C rfl rfl d_M_step_481 ?_
        refine g_lload C rfl d_M_step_482 ?_
        refine g_last C d_M_step_484 (by first | assumption | omega) (by repeat' first | assumption | exact up_eq _ _ _ | refine up_ne (by omega) ?_) hin ?_
        rw [hcl]
        refine g_lload C rfl d_M_step_485 ?_
        refine g_lload C rfl d_M_step_487 ?_
        refine g_lcmp_ne (tgt := 515) C d_M_step_489 d_M_step_490 (by decide) (fun j489 => ?_) (fun j489 => ?_)
        · exact absurd (congrArg lN hH) j489
        refine g_aload_n C rfl rfl d_M_step_493 ?_
        refine gf_M_63 C d_M_step_494 (by first | assumption | omega) (by repeat' first | assumption | exact up_eq _ _ _ | refine up_ne (by omega) ?_) (by rfl) ?_
        refine g_iload_n C rfl rfl d_M_step_497 ?_
        refine g_iload_n C rfl rfl d_M_step_498 ?_
        refine g_if_eq (tgt := 509) C d_M_step_499 (by decide) (fun j499 => ?_) (fun j499 => ?_)
        · exact absurd j499 (by decide)
        refine g_iload C rfl d_M_step_502 ?_
        refine g_iconst (v := 1) C rfl d_M_step_504 ?_
        refine g_isub C d_M_step_505 ?_
        refine g_goto (tgt := 511) C d_M_step_506 (by decide) ?_
        refine g_iast C d_M_step_511 (by first | assumption | omega) (by repeat' first | assumption | exact up_eq _ _ _ | refine up_ne (by omega) ?_) hin ?_
        rw [hcl, show (1 : Int32) = iI 1 from rfl, iI_sub, show ((nx : Int) - 40 - 1) = (nx : Int) - 41 by omega]
        refine g_goto (tgt := 559) C d_M_step_512 (by decide) ?_
        refine g_pick [1, 2, 3, 4, 5, 6, 7, 8, 9, 10, 11, 12] rfl ?_
        exact endx _ (by repeat' first | assumption | exact up_eq _ _ _ | refine up_ne (by omega) ?_) (by rw [zTk_hit hH, if_pos (show true = true from rfl)]; exact (by repeat' first | assumption | exact up_eq _ _ _ | refine up_ne (by omega) ?_)) (fun j a b => by repeat' first | exact rfl | refine up_ne (by omega) ?_)
  · have hH2 : ¬ lN P = lN (rt nx) := fun q => hH ((pk_lEQ hP3 hrn3).mp q)
    by_cases hPS : P = S
    · refine g_lload C rfl d_M_step_462 ?_
      refine g_lload C rfl d_M_step_464 ?_
      refine g_lcmp_eq (tgt := 474) C d_M_step_466 d_M_step_467 (by decide) (fun j466 => ?_) (fun j466 => ?_)
      rotate_left
      · exact absurd (congrArg lN hPS) j466
      refine g_iconst (v := 0) C rfl d_M_step_474 ?_
      refine g_topi (fun mv e_mv => ?_)
      refine g_istore (lv' := [(33, .int mv), (0, .ref (ad o m)), (1, .int (nI p)), (2, .int (bz dn)), (3, .int (bz ex)), (4, .long (lN r)), (8, .int (iI ((nx : Int) - 40))), (9, .long (lN S)), (11, .long (lN (rt nx))), (21, .long (lN P)), (27, .long (lN I)), (29, .long (lN O)), (31, .long (lN F))]) C d_M_step_475 (by decide) rfl ?_
      refine g_aload_n C rfl rfl d_M_step_477 ?_
      refine gf_M_60 C d_M_step_478 (by first | assumption | omega) (by repeat' first | assumption | exact up_eq _ _ _ | refine up_ne (by omega) ?_) (by rfl) ?_
      refine g_iload_n C rfl rfl d_M_step_481 ?_
      refine g_lload C rfl d_M_step_482 ?_
      refine g_last C d_M_step_484 (by first | assumption | omega) (by repeat' first | assumption | exact up_eq _ _ _ | refine up_ne (by omega) ?_) hin ?_
      rw [hcl]
      refine g_lload C rfl d_M_step_485 ?_
      refine g_lload C rfl d_M_step_487 ?_
      refine g_lcmp_ne (tgt := 515) C d_M_step_489 d_M_step_490 (by decide) (fun j489 => ?_) (fun j489 => ?_)
      rotate_left
      · exact absurd j489 hH2
      refine g_iload C rfl d_M_step_515 ?_
      refine g_if_eq (tgt := 559) C d_M_step_517 (by decide) (fun j517 => ?_) (fun j517 => ?_)
      rotate_left
      · exact absurd e_mv j517
      refine g_pick [1, 2, 3, 4, 5, 6, 7, 8, 9, 10, 11, 12] rfl ?_
      exact endx _ (by repeat' first | assumption | exact up_eq _ _ _ | refine up_ne (by omega) ?_) (by rw [zTk_st hH hPS, upd_id htz]; exact (by repeat' first | assumption | exact up_eq _ _ _ | refine up_ne (by omega) ?_)) (fun j a b => by repeat' first | exact rfl | refine up_ne (by omega) ?_)
    · obtain ⟨g1, g2, g3⟩ := gIb_spec 80 P hP0
      have tick : ∀ (k i : Nat), i + k = gIb 80 P → ∀ (s' : Nat → va_E) (x mv : Int32), x = iI ((i : Int) - 40) → s' (m + 17) = eJ 2 (vp_updL np p (lN P)) → s' (m + 18) = eI 2 nt → (∀ j, j ≠ m + 17 → j ≠ m + 18 → s' j = s j) → G K o n s' 0 0 524 ((34, .int x) :: (33, .int mv) :: [(0, .ref (ad o m)), (1, .int (nI p)), (2, .int (bz dn)), (3, .int (bz ex)), (4, .long (lN r)), (8, .int (iI ((nx : Int) - 40))), (9, .long (lN S)), (11, .long (lN (rt nx))), (21, .long (lN P)), (27, .long (lN I)), (29, .long (lN O)), (31, .long (lN F))]) [] := by
        intro k
        induction k with
        | zero =>
          intro i hi s' x mv ex2 q1 q2 q3
          have hi2 : i = gIb 80 P := by omega
          have sM : isM s' o m t0 la := (q3 m (by omega) (by omega)).trans hM
          have sm1 : s' m = _ := sM
          have sR := hR1 s' q3
          rw [ex2]
          by_cases h80 : i = 80
          · refine g_iload C rfl d_M_step_524 ?_
            refine g_bipush (v := 40) C rfl d_M_step_526 ?_
            refine g_icmp_ge (tgt := 551) C d_M_step_528 (by decide) (fun j528 => ?_) (fun j528 => ?_)
            rotate_left
            · exact absurd (by rw [h80]; decide) j528
            refine g_aload_n C rfl rfl d_M_step_551 ?_
            refine gf_M_63 C d_M_step_552 (by first | assumption | omega) (by repeat' first | assumption | exact up_eq _ _ _ | refine up_ne (by omega) ?_) (by rfl) ?_
            refine g_iload_n C rfl rfl d_M_step_555 ?_
            refine g_iload C rfl d_M_step_556 ?_
            refine g_iast C d_M_step_558 (by first | assumption | omega) (by repeat' first | assumption | exact up_eq _ _ _ | refine up_ne (by omega) ?_) hin ?_
            rw [hcl]
            refine g_pick [2, 3, 4, 5, 6, 7, 8, 9, 10, 11, 12, 13] rfl ?_
            exact endx _ (by repeat' first | assumption | exact up_eq _ _ _ | refine up_ne (by omega) ?_) (by rw [zTk_no hH hPS, ← hi2]; exact (by repeat' first | assumption | exact up_eq _ _ _ | refine up_ne (by omega) ?_)) (fun j a b => (up_ne b (q3 j a b)))
          · have hlt := g3 (i + 1) (by omega) (by omega)
            have htx : tx ((i : Int) - 40 + 1) = i + 1 := by unfold tx; omega
            have h63 : rt (i + 1) < 2 ^ 63 := Nat.lt_trans (rt_up (by omega)) (by decide)
            refine g_iload C rfl d_M_step_524 ?_
            refine g_bipush (v := 40) C rfl d_M_step_526 ?_
            refine g_icmp_ge (tgt := 551) C d_M_step_528 (by decide) (fun j528 => ?_) (fun j528 => ?_)
            · exact absurd j528 (by rw [show (40 : Int32) = iI 40 from rfl, iI_le (by omega) (by omega) (by omega) (by omega)]; omega)
            refine g_aload_n C rfl rfl d_M_step_531 ?_
            refine g_iload C rfl d_M_step_532 ?_
            refine g_iconst (v := 1) C rfl d_M_step_534 ?_
            refine g_iadd C d_M_step_535 ?_
            rw [show (1 : Int32) = iI 1 from rfl, iI_add]
            refine g_callV C (c_M_rootOf ((i : Int) - 40 + 1) hn sM sR (by omega) (by omega)) Y_M_rootOf m_761 s_M_rootOf m_759 rfl rfl ⟨by decide, by decide⟩ ⟨by decide, by decide⟩ (fun h => nomatch h) d_M_step_536 (by first | assumption | omega) (by repeat' first | assumption | exact up_eq _ _ _ | refine up_ne (by omega) ?_) rfl (Nat.le_of_ble_eq_true rfl) (fun ret sg536 hq => ?_)
            obtain ⟨rfl, rfl⟩ := hq
            rw [htx]
            refine g_lload C rfl d_M_step_539 ?_
            refine g_lcmp_gt (tgt := 551) C d_M_step_541 d_M_step_542 (by decide) (fun j541 => ?_) (fun j541 => ?_)
            rotate_left
            · exact absurd ((pk_lLT hP3 h63).mpr hlt) j541
            refine g_aload_n C rfl rfl d_M_step_551 ?_
            refine gf_M_63 C d_M_step_552 (by first | assumption | omega) (by repeat' first | assumption | exact up_eq _ _ _ | refine up_ne (by omega) ?_) (by rfl) ?_
            refine g_iload_n C rfl rfl d_M_step_555 ?_
            refine g_iload C rfl d_M_step_556 ?_
            refine g_iast C d_M_step_558 (by first | assumption | omega) (by repeat' first | assumption | exact up_eq _ _ _ | refine up_ne (by omega) ?_) hin ?_
            rw [hcl]
            refine g_pick [2, 3, 4, 5, 6, 7, 8, 9, 10, 11, 12, 13] rfl ?_
            exact endx _ (by repeat' first | assumption | exact up_eq _ _ _ | refine up_ne (by omega) ?_) (by rw [zTk_no hH hPS, ← hi2]; exact (by repeat' first | assumption | exact up_eq _ _ _ | refine up_ne (by omega) ?_)) (fun j a b => (up_ne b (q3 j a b)))
        | succ k ih =>
          intro i hi s' x mv ex2 q1 q2 q3
          have sM : isM s' o m t0 la := (q3 m (by omega) (by omega)).trans hM
          have sm1 : s' m = _ := sM
          have sR := hR1 s' q3
          have hle := Nat.le_trans (rt_le (i := i + 1) (j := gIb 80 P) (by omega) g1) g2
          have htx : tx ((i : Int) - 40 + 1) = i + 1 := by unfold tx; omega
          have h63 : rt (i + 1) < 2 ^ 63 := Nat.lt_trans (rt_up (by omega)) (by decide)
          rw [ex2]
          refine g_iload C rfl d_M_step_524 ?_
          refine g_bipush (v := 40) C rfl d_M_step_526 ?_
          refine g_icmp_ge (tgt := 551) C d_M_step_528 (by decide) (fun j528 => ?_) (fun j528 => ?_)
          · exact absurd j528 (by rw [show (40 : Int32) = iI 40 from rfl, iI_le (by omega) (by omega) (by omega) (by omega)]; omega)
          refine g_aload_n C rfl rfl d_M_step_531 ?_
          refine g_iload C rfl d_M_step_532 ?_
          refine g_iconst (v := 1) C rfl d_M_step_534 ?_
          refine g_iadd C d_M_step_535 ?_
          rw [show (1 : Int32) = iI 1 from rfl, iI_add]
          refine g_callV C (c_M_rootOf ((i : Int) - 40 + 1) hn sM sR (by omega) (by omega)) Y_M_rootOf m_761 s_M_rootOf m_759 rfl rfl ⟨by decide, by decide⟩ ⟨by decide, by decide⟩ (fun h => nomatch h) d_M_step_536 (by first | assumption | omega) (by repeat' first | assumption | exact up_eq _ _ _ | refine up_ne (by omega) ?_) rfl (Nat.le_of_ble_eq_true rfl) (fun ret sg536 hq => ?_)
          obtain ⟨rfl, rfl⟩ := hq
          rw [htx]
          refine g_lload C rfl d_M_step_539 ?_
          refine g_lcmp_gt (tgt := 551) C d_M_step_541 d_M_step_542 (by decide) (fun j541 => ?_) (fun j541 => ?_)
          · exact absurd ((pk_lLT hP3 h63).mp j541) (by omega)
          obtain ⟨y, e_y⟩ : ∃ y : Int32, ((iI ((i : Int) - 40))) + Int32.ofInt 1 = y := ⟨_, rfl⟩
          refine g_iinc (lv' := [(34, .int y), (33, .int mv), (0, .ref (ad o m)), (1, .int (nI p)), (2, .int (bz dn)), (3, .int (bz ex)), (4, .long (lN r)), (8, .int (iI ((nx : Int) - 40))), (9, .long (lN S)), (11, .long (lN (rt nx))), (21, .long (lN P)), (27, .long (lN I)), (29, .long (lN O)), (31, .long (lN F))]) C d_M_step_545 rfl e_y (by decide) rfl ?_
          refine g_goto (tgt := 524) C d_M_step_548 (by decide) ?_
          exact ih (i + 1) (by omega) s' _ _ (by rw [← e_y]; exact (iI_add _ 1).trans (congrArg iI (by omega))) q1 q2 q3
      refine g_lload C rfl d_M_step_462 ?_
      refine g_lload C rfl d_M_step_464 ?_
      refine g_lcmp_eq (tgt := 474) C d_M_step_466 d_M_step_467 (by decide) (fun j466 => ?_) (fun j466 => ?_)
      · exact absurd j466 (fun q => hPS ((pk_lEQ hP3 hS2).mp q))
      refine g_iconst (v := 1) C rfl d_M_step_470 ?_
      refine g_goto (tgt := 475) C d_M_step_471 (by decide) ?_
      refine g_topi (fun mv e_mv => ?_)
      refine g_istore (lv' := [(33, .int mv), (0, .ref (ad o m)), (1, .int (nI p)), (2, .int (bz dn)), (3, .int (bz ex)), (4, .long (lN r)), (8, .int (iI ((nx : Int) - 40))), (9, .long (lN S)), (11, .long (lN (rt nx))), (21, .long (lN P)), (27, .long (lN I)), (29, .long (lN O)), (31, .long (lN F))]) C d_M_step_475 (by decide) rfl ?_
      refine g_aload_n C rfl rfl d_M_step_477 ?_
      refine gf_M_60 C d_M_step_478 (by first | assumption | omega) (by repeat' first | assumption | exact up_eq _ _ _ | refine up_ne (by omega) ?_) (by rfl) ?_
      refine g_iload_n C rfl rfl d_M_step_481 ?_
      refine g_lload C rfl d_M_step_482 ?_
      refine g_last C d_M_step_484 (by first | assumption | omega) (by repeat' first | assumption | exact up_eq _ _ _ | refine up_ne (by omega) ?_) hin ?_
      rw [hcl]
      refine g_lload C rfl d_M_step_485 ?_
      refine g_lload C rfl d_M_step_487 ?_
      refine g_lcmp_ne (tgt := 515) C d_M_step_489 d_M_step_490 (by decide) (fun j489 => ?_) (fun j489 => ?_)
      rotate_left
      · exact absurd j489 hH2
      refine g_iload C rfl d_M_step_515 ?_
      refine g_if_eq (tgt := 559) C d_M_step_517 (by decide) (fun j517 => ?_) (fun j517 => ?_)
      · exact absurd j517 (by rw [e_mv]; decide)
      refine g_bipush (v := -40) C rfl d_M_step_520 ?_
      refine g_topi (fun x e_x => ?_)
      refine g_istore (lv' := [(34, .int x), (33, .int mv), (0, .ref (ad o m)), (1, .int (nI p)), (2, .int (bz dn)), (3, .int (bz ex)), (4, .long (lN r)), (8, .int (iI ((nx : Int) - 40))), (9, .long (lN S)), (11, .long (lN (rt nx))), (21, .long (lN P)), (27, .long (lN I)), (29, .long (lN O)), (31, .long (lN F))]) C d_M_step_522 (by decide) rfl ?_
      exact tick (gIb 80 P) 0 (by omega) _ _ _ e_x (by repeat' first | assumption | exact up_eq _ _ _ | refine up_ne (by omega) ?_) (by repeat' first | assumption | exact up_eq _ _ _ | refine up_ne (by omega) ?_) (fun j a b => by repeat' first | exact rfl | refine up_ne (by omega) ?_)

