-- SUMS OVER THE PLACES OF A POOL
def wsum (Z : ZS) (p : Nat) (c : Nat → Nat) : Nat → Nat
  | 0 => 0
  | k + 1 => wsum Z p c k + (if zpl Z k = p then zam Z k * c k else 0)
theorem wsum_step {Z : ZS} {p d : Nat} {tz : Int} {c c' : Nat → Nat} (n : Nat) (h : ∀ i, i < n → zpl Z i = p → 0 < zam Z i → c' i = c i + (if zlo Z i ≤ tz ∧ tz < zhi Z i then d else 0)) : wsum Z p c' n = wsum Z p c n + dsum (inB Z p tz) (zam Z) n * d := by
  induction n with
  | zero => unfold wsum dsum; omega
  | succ n ih =>
    have h1 := ih (fun i a => h i (by omega))
    unfold wsum dsum
    rw [h1, Nat.add_mul]
    by_cases hp : zpl Z n = p
    · rw [if_pos hp, if_pos hp]
      by_cases ha : zam Z n = 0
      · rw [ha]
        simp
      · have h2 := h n (by omega) hp (by omega)
        by_cases q : zlo Z n ≤ tz ∧ tz < zhi Z n
        · rw [if_pos (show inB Z p tz n = true from decide_eq_true ⟨hp, q⟩), h2, if_pos q, Nat.mul_add]
          omega
        · rw [if_neg (show ¬ inB Z p tz n = true from fun e => q (of_decide_eq_true e).2), h2, if_neg q, Nat.add_zero]
          omega
    · rw [if_neg hp, if_neg hp, if_neg (show ¬ inB Z p tz n = true from fun e => hp (of_decide_eq_true e).1)]
      omega
/-- a swap's books, in whole numbers -/
def RunB (Z : ZS) (p : Nat) (dn ex : Bool) (S0 R N : Nat) (y : Y7) (pd gt : Nat) (ri : Nat → Nat) : Prop := y.1.2.2.2.1 = lN pd ∧ y.1.2.2.2.2 = lN gt ∧ (∀ i, i < 12 → zpl Z i = p → 0 < zam Z i → y.2.2 i = lN (ri i)) ∧ pd ≤ N * 4200000000 ∧ wsum Z p (fun i => ph (sdN dn) y.1.1 (zlo Z i) (zhi Z i)) 12 + KK * wsum Z p ri 12 ≤ wsum Z p (fun i => ph (sdN dn) S0 (zlo Z i) (zhi Z i)) 12 + UU * pd ∧ wsum Z p (fun i => ph (1 - sdN dn) y.1.1 (zlo Z i) (zhi Z i)) 12 + UU * gt ≤ wsum Z p (fun i => ph (1 - sdN dn) S0 (zlo Z i) (zhi Z i)) 12 ∧ (ex = true → pd + y.1.2.2.1 ≤ R)
theorem gs_le {dn ex : Bool} {L S P r : Nat} : zGot dn ex L S P r ≤ zOut dn L S P := by
  cases ex
  · rw [zGot_f]; exact Nat.min_le_right _ _
  · rw [zGot_t]; exact Nat.le_refl _
theorem lin1 {a a' k w w' b u pd zi F ld lx kf : Nat} (h1 : a' = a + ld) (h2 : w' = w + lx) (h3 : a + k * w ≤ b + u * pd) (h4 : ld ≤ u * zi) (h5 : k * lx ≤ kf) (h6 : kf = u * F) : a' + k * w' ≤ b + u * (pd + (zi + F)) := by
  subst h1 h2
  rw [Nat.mul_add, Nat.mul_add, Nat.mul_add]
  omega
theorem lin2 {a a' b u gt g zo ld : Nat} (h1 : a = a' + ld) (h3 : a + u * gt ≤ b) (h4 : u * zo ≤ ld) (h5 : g ≤ zo) : a' + u * (gt + g) ≤ b := by
  have := Nat.mul_le_mul_left u h5
  rw [Nat.mul_add]
  omega
theorem tk_rest {dn : Bool} {f L S T r : Nat} (hf : f ≤ 100) (hS : 0 < S) (hT : 0 < T) (hd : if dn = true then T ≤ S else S ≤ T) : zIn dn L S (zPr dn true f L S T r) + zFe dn true (decide (zPr dn true f L S T r = T)) f L S (zPr dn true f L S T r) r ≤ r := by
  have h1 := zPr_in (L := L) (f := f) (r := r) hS hT hd
  have h2 := us_le (r := r) (f := f)
  by_cases e : zPr dn true f L S T r = T
  · rw [decide_eq_true e, zFe_tt]
    exact fee_ok hf h1
  · rw [decide_eq_false e, zFe_tf]
    omega
theorem run_books {Z : ZS} {p : Nat} {dn ex : Bool} {f M S0 R : Nat} (hA : ∀ i, i < 12 → zam Z i ≤ 50000000) (hB : pBd (zpl Z) (zlo Z) (zhi Z)) (hO : ∀ i, i < 12 → 0 < zam Z i → zlo Z i < zhi Z i) (hf : f ≤ 100) (hM : rt 0 ≤ M) (hM2 : M ≤ rt 80) (n : Nat) : ∀ (N : Nat) (y : Y7) (pd gt : Nat) (ri : Nat → Nat), QI dn M y.1 → RunB Z p dn ex S0 R N y pd gt ri → QI dn M (mRun dn ex f M (zset Z p) (mIn (zth Z) (zpl Z) (zlo Z) (zhi Z) p) (zdep Z p) n y).1 ∧ ∃ pd' gt' ri', RunB Z p dn ex S0 R (N + n) (mRun dn ex f M (zset Z p) (mIn (zth Z) (zpl Z) (zlo Z) (zhi Z) p) (zdep Z p) n y) pd' gt' ri' := by
  induction n with
  | zero => intro N y pd gt ri hI h; exact ⟨hI, pd, gt, ri, h⟩
  | succ n ih =>
    intro N y pd gt ri hI h
    by_cases hd : zDn M y.1
    · rw [mRun_done hd]
      obtain ⟨g1, g2, g3, g4, g5, g6, g7⟩ := h
      exact ⟨hI, pd, gt, ri, g1, g2, g3, Nat.le_trans g4 (Nat.mul_le_mul_right _ (by omega)), g5, g6, g7⟩
    · rw [mRun_go hd, show N + (n + 1) = (N + 1) + n by omega]
      obtain ⟨hlt, hT0, hdd, hrg⟩ := zQ_facts (ex := ex) (f := f) (st := zset Z p) (dep := zdep Z p) hM hM2 hI hd
      have hQ := (zQ_ok (ex := ex) (f := f) (st := zset Z p) (dep := zdep Z p) hM hM2 hI hd).1
      obtain ⟨g1, g2, g3, g4, g5, g6, g7⟩ := h
      have hk := hI.1
      have hL : zdep Z p y.1.2.1 ≤ 600000000 := mDep_le hA
      have hst := fun i (hi : i < 12) (hp : zpl Z i = p) (ha : 0 < zam Z i) => ph_step (st := zset Z p) hk hM hM2 hlt rfl rfl hrg (hB i hi).2.1 (hO i hi ha) (hB i hi).2.2.2.2 (zset_iff.mpr ⟨i, hi, hp, ha, Or.inl (tx_sub (hB i hi).2.1).symm⟩) (zset_iff.mpr ⟨i, hi, hp, ha, Or.inr (tx_sub (hB i hi).2.2.2.1).symm⟩)
      have hPk := hQ.1
      have hP1 : 1254299944 ≤ zPq dn ex f M (zset Z p) (zdep Z p) y.1 := hPk.2.2.1
      have hP2 : zPq dn ex f M (zset Z p) (zdep Z p) y.1 < 14706804615 := hPk.2.2.2.1
      have hS1 := hk.2.2.1
      have hS2 := hk.2.2.2.1
      have hdr : if dn = true then zPq dn ex f M (zset Z p) (zdep Z p) y.1 ≤ y.1.1 else y.1.1 ≤ zPq dn ex f M (zset Z p) (zdep Z p) y.1 := by
        cases dn
        · exact hrg.1
        · exact hrg.2
      have hin := zIn_b (dn := dn) hL hS1 hP1 hS2 hP2 hdr
      have hfe : zFq dn ex f M (zset Z p) (zdep Z p) y.1 ≤ 2100000000 := zFe_b hf hI.2.1 hin
      have hup := zIn_up (dn := dn) (L := zdep Z p y.1.2.1) (S := y.1.1) (P := zPq dn ex f M (zset Z p) (zdep Z p) y.1) (by omega) (by omega) (by omega) hdr
      have hou := zOut_dn' (dn := dn) (L := zdep Z p y.1.2.1) (S := y.1.1) (P := zPq dn ex f M (zset Z p) (zdep Z p) y.1) (by omega) (by omega) (by omega) hdr
      have hX := Nat.mul_div_le (zFq dn ex f M (zset Z p) (zdep Z p) y.1 * 4294967296) (zdep Z p y.1.2.1)
      refine ih (N + 1) _ (pd + (zIn dn (zdep Z p y.1.2.1) y.1.1 (zPq dn ex f M (zset Z p) (zdep Z p) y.1) + zFq dn ex f M (zset Z p) (zdep Z p) y.1)) (gt + zGot dn ex (zdep Z p y.1.2.1) y.1.1 (zPq dn ex f M (zset Z p) (zdep Z p) y.1) y.1.2.2.1) (fun i => ri i + (if zlo Z i ≤ y.1.2.1 ∧ y.1.2.1 < zhi Z i then zFq dn ex f M (zset Z p) (zdep Z p) y.1 * 4294967296 / zdep Z p y.1.2.1 else 0)) hQ ⟨?_, ?_, ?_, ?_, ?_, ?_, ?_⟩
      · show y.1.2.2.2.1 + lN (zIn dn (zdep Z p y.1.2.1) y.1.1 (zPq dn ex f M (zset Z p) (zdep Z p) y.1) + zFq dn ex f M (zset Z p) (zdep Z p) y.1) = _
        rw [g1, lN_add]
      · show y.1.2.2.2.2 + lN (zGot dn ex (zdep Z p y.1.2.1) y.1.1 (zPq dn ex f M (zset Z p) (zdep Z p) y.1) y.1.2.2.1) = _
        rw [g2, lN_add]
      · intro i hi hp ha
        show riU (mIn (zth Z) (zpl Z) (zlo Z) (zhi Z) p y.1.2.1) (lN (zFq dn ex f M (zset Z p) (zdep Z p) y.1 * 4294967296 / zdep Z p y.1.2.1)) y.2.2 12 i = _
        have hmi : mIn (zth Z) (zpl Z) (zlo Z) (zhi Z) p y.1.2.1 i = decide (zlo Z i ≤ y.1.2.1 ∧ y.1.2.1 < zhi Z i) := by
          unfold mIn
          rw [show zth Z i = true from swB_t ha, Bool.true_and]
          simp only [hp, true_and]
        show _ = lN (ri i + (if zlo Z i ≤ y.1.2.1 ∧ y.1.2.1 < zhi Z i then zFq dn ex f M (zset Z p) (zdep Z p) y.1 * 4294967296 / zdep Z p y.1.2.1 else 0))
        unfold riU
        rw [hmi, g3 i hi hp ha]
        by_cases c : zlo Z i ≤ y.1.2.1 ∧ y.1.2.1 < zhi Z i
        · rw [if_pos c, decide_eq_true c, if_pos (c := i < 12 ∧ true = true) ⟨hi, rfl⟩, lN_add]
        · rw [if_neg c, decide_eq_false c, if_neg (c := i < 12 ∧ false = true) (fun q => by cases q.2), Nat.add_zero]
      · rw [Nat.add_mul]
        omega
      · refine lin1 (wsum_step 12 (fun i hi hp ha => (hst i hi hp ha).1)) (wsum_step (c := ri) 12 (fun i hi hp ha => rfl)) g5 (by rw [← zdep_eq]; exact hup) (kf := KK * (zFq dn ex f M (zset Z p) (zdep Z p) y.1 * 4294967296)) (by rw [← zdep_eq]; exact Nat.mul_le_mul_left KK hX) ?_
        unfold UU
        rw [Nat.mul_comm (zFq dn ex f M (zset Z p) (zdep Z p) y.1), Nat.mul_assoc]
      · exact lin2 (wsum_step 12 (fun i hi hp ha => (hst i hi hp ha).2.2)) g6 (by rw [← zdep_eq]; exact hou) gs_le
      · intro hx
        subst hx
        have g8 := g7 rfl
        have ht := tk_rest (dn := dn) (f := f) (L := zdep Z p y.1.2.1) (r := y.1.2.2.1) hf (by omega : 0 < y.1.1) hT0 hdd
        show pd + (zIn dn (zdep Z p y.1.2.1) y.1.1 (zPq dn true f M (zset Z p) (zdep Z p) y.1) + zFq dn true f M (zset Z p) (zdep Z p) y.1) + zRs dn true (decide (zPq dn true f M (zset Z p) (zdep Z p) y.1 = zTg dn (zNx dn (zset Z p) y.1.2.1) M)) f (zdep Z p y.1.2.1) y.1.1 (zPq dn true f M (zset Z p) (zdep Z p) y.1) y.1.2.2.1 ≤ R
        rw [zRs_t]
        unfold zFq
        unfold zPq at *
        omega
theorem work_books {Z : ZS} {p : Nat} {dn ex : Bool} {r M : Nat} (hA : ∀ i, i < 12 → zam Z i ≤ 50000000) (hB : pBd (zpl Z) (zlo Z) (zhi Z)) (hO : ∀ i, i < 12 → 0 < zam Z i → zlo Z i < zhi Z i) (hf : zfee Z p ≤ 100) (hM : rt 0 ≤ M) (hM2 : M ≤ rt 80) (hI : QI dn M (zpr Z p, ztk Z p, r, 0, 0)) : QI dn M (zWork Z p dn ex r M).1 ∧ ∃ pd gt ri, RunB Z p dn ex (zpr Z p) r 100 (zWork Z p dn ex r M) pd gt ri := by
  have h0 : wsum Z p (fun _ => 0) 12 = 0 := by
    have : ∀ n, wsum Z p (fun _ => 0) n = 0 := fun n => by
      induction n with
      | zero => rfl
      | succ n ih => unfold wsum; rw [ih]; split <;> simp
    exact this 12
  have h := run_books (ex := ex) (S0 := zpr Z p) hA hB hO hf (R := r) hM hM2 100 0 ((zpr Z p, ztk Z p, r, 0, 0), 0, fun _ => 0) 0 0 (fun _ => 0) hI ⟨lN_0.symm, lN_0.symm, fun i _ _ _ => lN_0.symm, Nat.zero_le _, by rw [h0, Nat.mul_zero, Nat.mul_zero]; exact Nat.le_refl _, by rw [Nat.mul_zero]; exact Nat.le_refl _, fun _ => by rw [Nat.zero_add]; exact Nat.le_refl _⟩
  rw [Nat.zero_add] at h
  exact h

