-- EVERY CALL: class and reference answer alike
theorem keepW {sg : Nat → va_E} {o : Nat} {Z : ZS} (hW : EW sg o Z) : ∀ s, s = sg → EW s o Z ∧ efr sg s := fun s h => by subst h; exact ⟨hW, fun _ _ => rfl⟩
theorem keepR {sg : Nat → va_E} {o : Nat} {Z : ZS} {v : Value} (hW : EW sg o Z) : ∀ r s, gR (some v) sg r s → some v = r ∧ EW s o Z ∧ efr sg s := fun r s h => by
  obtain ⟨h1, h2⟩ := h
  subst h2
  exact ⟨h1, hW, fun _ _ => rfl⟩
theorem nneg {x : Int32} (h : ¬ x < 0) : ∃ X, X < 2 ^ 31 ∧ x = nI X := by
  rw [Int32.lt_iff_toInt_lt] at h
  have e0 : (0 : Int32).toInt = 0 := by decide
  have h2 := x.toInt_lt
  refine ⟨x.toInt.toNat, by omega, ?_⟩
  rw [← iI_nat, Int.toNat_of_nonneg (by omega)]
  exact iI_of x
theorem okT_int {t : Int32} (h : okT t) : ∃ z, -40 ≤ z ∧ z ≤ 40 ∧ t = iI z := by
  obtain ⟨h1, h2⟩ := h
  rw [Int32.le_iff_toInt_le] at h1 h2
  have e1 : (-40 : Int32).toInt = -40 := by decide
  have e2 : (40 : Int32).toInt = 40 := by decide
  exact ⟨t.toInt, by omega, by omega, iI_of t⟩
theorem amt {x : Int32} (h0 : ¬ x = 0) (h1 : ¬ x < -100000000) (h2 : ¬ 100000000 < x) : ∃ ex r, 0 < r ∧ r ≤ 100000000 ∧ x = zAmt ex r := by
  rw [Int32.lt_iff_toInt_lt] at h1 h2
  have e1 : (-100000000 : Int32).toInt = -100000000 := by decide
  have e2 : (100000000 : Int32).toInt = 100000000 := by decide
  have h3 : x.toInt ≠ 0 := fun q => h0 (Int32.toInt_inj.mp (by rw [q]; decide))
  by_cases c : 0 < x.toInt
  · refine ⟨true, x.toInt.toNat, by omega, by omega, ?_⟩
    show x = nI x.toInt.toNat
    rw [← iI_nat, Int.toNat_of_nonneg (by omega)]
    exact iI_of x
  · refine ⟨false, (-x.toInt).toNat, by omega, by omega, ?_⟩
    show x = -nI (-x.toInt).toNat
    rw [ng_i, Int.toNat_of_nonneg (by omega), Int.neg_neg]
    exact iI_of x
theorem place_q {Z : ZS} {a p q L : Nat} {lo hi : Int} (hB : pBd (zpl Z) (zlo Z) (zhi Z)) (hp : p < 2) (h1 : -40 ≤ lo) (hlh : lo < hi) (h2 : hi ≤ 40) (hL : zHad Z (zFind Z (nI a) (nI p) (iI lo) (iI hi)) + L ≤ 50000000) (h3 : zPlace Z (zFind Z (nI a) (nI p) (iI lo) (iI hi)) = some q) : q < 12 ∧ zam Z q + L ≤ 50000000 ∧ ((zpl Z q = p ∧ zlo Z q = lo ∧ zhi Z q = hi) ∨ (zam Z q = 0 ∧ zod Z (2 * q) = 0 ∧ zod Z (2 * q + 1) = 0)) := by
  rcases opt_or (zFind Z (nI a) (nI p) (iI lo) (iI hi)) with e | ⟨k, e⟩
  · rw [e] at hL h3
    have hL : 0 + L ≤ 50000000 := hL
    have e2 : fnd (fun i => !zth Z i) 12 = some q := h3
    have hq := (fnd_some e2).1
    have hnt : zth Z q = false := by have z := (fnd_some e2).2; exact (Bool.not_eq_true' _).mp z
    obtain ⟨z1, z2, z3⟩ := swB_f hnt
    exact ⟨hq, by omega, Or.inr ⟨z1, z2, z3⟩⟩
  · rw [e] at hL h3
    have hL : zam Z k + L ≤ 50000000 := hL
    have hkq : k = q := Option.some.inj h3
    subst hkq
    obtain ⟨hk, g1, g3, g4⟩ := find_at hB hp h1 hlh h2 e
    exact ⟨hk, hL, Or.inl g4⟩
theorem op_give {l : Launch} {o : Nat} {sg : Nat → va_E} {Z : ZS} (hfl : l.flags = flags0) (hI : IvZ Z) (hW : EW sg o Z) {g87 : Nat → Int64} (h87 : sg 87 = eJ 1 g87) (a b c : Int32) : ∃ (k : Nat) (v : Int64) (w : Int64) (Z' : ZS), IvZ Z' ∧ (k = 0 → v = w) ∧ k ≤ 4 ∧ GMW l y_L_give b_L_give 6 (some .int) hh_give 8 144 1 6 o 88 88 sg [.ref (ad o 0), .int a, .int b, .int c, .ref (ad o 87)] (wPost sg o k v Z') ∧ ∀ (sg' : Nat → va_E) (t0 : Int32), MW sg' o 64 t0 Z → GM l y_M_give b_M_give 4 (some .long) 2 32 0 0 o 88 88 sg' false [.ref (ad o 64), .int a, .int b, .int c] (fun r0 s => some (.long w) = r0 ∧ MW s o 64 (nI k) Z' ∧ mfr sg' s 64) := by
  by_cases h1 : okI a 4 ∧ okI b 3
  · obtain ⟨A, hA4, rfl⟩ := okI_nat (c := 4) (by decide) h1.1
    obtain ⟨T, ht, rfl⟩ := okI_nat (c := 3) (by decide) h1.2
    by_cases h2 : c < 0 ∨ ¬ zgiv Z T + c.toInt64 ≤ 100000000
    · exact ⟨2, 0, 0, Z, hI, (fun q => absurd q (by decide)), by decide, w_give2 (nI A) (nI T) c hW h87 (t_E_give2 (Z := Z) hfl A T c (by decide) hW hA4 ht h2) (keepW hW) 0, fun sg' t0 hM => e_M_give2 A T c (by decide) hM hA4 ht h2⟩
    · have h3 : ¬ c < 0 := fun q => h2 (Or.inl q)
      have h4 : zgiv Z T + c.toInt64 ≤ 100000000 := Classical.byContradiction (fun q => h2 (Or.inr q))
      obtain ⟨X, hX, rfl⟩ := nneg h3
      have e := nI_l hX
      refine ⟨0, _, _, zGive Z A T (nI X).toInt64, ?_, fun _ => rfl, by decide, w_give0 (nI A) (nI T) (nI X) hW h87 (c_E_give A T (nI X) (by decide) hW hA4 ht h3 h4) (fun r s h => h), fun sg' t0 hM => c_M_give A T (nI X) (by decide) hM hA4 ht h3 h4⟩
      rw [e] at h4 ⊢
      exact Iv_give hI hA4 ht hX h4
  · exact ⟨1, 0, 0, Z, hI, (fun q => absurd q (by decide)), by decide, w_give1 a b c hW h87 (t_E_give1 (Z := Z) hfl a b c h1) (keepW hW) 0, fun sg' t0 hM => e_M_give1 a b c (by decide) hM h1⟩
theorem op_balance {l : Launch} {o : Nat} {sg : Nat → va_E} {Z : ZS} (hfl : l.flags = flags0) (hI : IvZ Z) (hW : EW sg o Z) {g87 : Nat → Int64} (h87 : sg 87 = eJ 1 g87) (a b : Int32) : ∃ (k : Nat) (v : Int64) (w : Int64) (Z' : ZS), IvZ Z' ∧ (k = 0 → v = w) ∧ k ≤ 4 ∧ GMW l y_L_balance b_L_balance 5 (some .int) hh_balance 8 143 1 6 o 88 88 sg [.ref (ad o 0), .int a, .int b, .ref (ad o 87)] (wPost sg o k v Z') ∧ ∀ (sg' : Nat → va_E) (t0 : Int32), MW sg' o 64 t0 Z → GM l y_M_balance b_M_balance 3 (some .long) 2 32 0 0 o 88 88 sg' false [.ref (ad o 64), .int a, .int b] (fun r0 s => some (.long w) = r0 ∧ MW s o 64 (nI k) Z' ∧ mfr sg' s 64) := by
  by_cases h1 : okI a 4 ∧ okI b 3
  · obtain ⟨A, hA4, rfl⟩ := okI_nat (c := 4) (by decide) h1.1
    obtain ⟨T, ht, rfl⟩ := okI_nat (c := 3) (by decide) h1.2
    exact ⟨0, _, _, Z, hI, fun _ => rfl, by decide, w_balance0 (nI A) (nI T) hW h87 (c_E_balance A T (by decide) hW hA4 ht) (keepR hW), fun sg' t0 hM => c_M_balance A T (by decide) hM hA4 ht⟩
  · exact ⟨1, 0, 0, Z, hI, (fun q => absurd q (by decide)), by decide, w_balance1 a b hW h87 (t_E_balance1 (Z := Z) hfl a b h1) (keepW hW) 0, fun sg' t0 hM => e_M_balance a b (by decide) hM h1⟩
theorem op_price {l : Launch} {o : Nat} {sg : Nat → va_E} {Z : ZS} (hfl : l.flags = flags0) (hI : IvZ Z) (hW : EW sg o Z) {g87 : Nat → Int64} (h87 : sg 87 = eJ 1 g87) (a : Int32) : ∃ (k : Nat) (v : Int64) (w : Int64) (Z' : ZS), IvZ Z' ∧ (k = 0 → v = w) ∧ k ≤ 4 ∧ GMW l y_L_price b_L_price 4 (some .int) hh_price 8 142 1 6 o 88 88 sg [.ref (ad o 0), .int a, .ref (ad o 87)] (wPost sg o k v Z') ∧ ∀ (sg' : Nat → va_E) (t0 : Int32), MW sg' o 64 t0 Z → GM l y_M_price b_M_price 2 (some .long) 2 32 0 0 o 88 88 sg' false [.ref (ad o 64), .int a] (fun r0 s => some (.long w) = r0 ∧ MW s o 64 (nI k) Z' ∧ mfr sg' s 64) := by
  by_cases h1 : okI a 2
  · obtain ⟨p, hp, rfl⟩ := okI_nat (c := 2) (by decide) h1
    exact ⟨0, _, _, Z, hI, fun _ => rfl, by decide, w_price0 (nI p) hW h87 (c_E_price p (by decide) hW hp) (keepR hW), fun sg' t0 hM => c_M_price p (by decide) hM hp⟩
  · exact ⟨1, 0, 0, Z, hI, (fun q => absurd q (by decide)), by decide, w_price1 a hW h87 (t_E_price (Z := Z) hfl a h1) (keepW hW) 0, fun sg' t0 hM => e_M_price a (by decide) hM h1⟩
theorem op_tick {l : Launch} {o : Nat} {sg : Nat → va_E} {Z : ZS} (hfl : l.flags = flags0) (hI : IvZ Z) (hW : EW sg o Z) {g87 : Nat → Int64} (h87 : sg 87 = eJ 1 g87) (a : Int32) : ∃ (k : Nat) (v : Int64) (w : Int32) (Z' : ZS), IvZ Z' ∧ (k = 0 → v = w.toInt64) ∧ k ≤ 4 ∧ GMW l y_L_tick b_L_tick 4 (some .int) hh_tick 8 142 1 6 o 88 88 sg [.ref (ad o 0), .int a, .ref (ad o 87)] (wPost sg o k v Z') ∧ ∀ (sg' : Nat → va_E) (t0 : Int32), MW sg' o 64 t0 Z → GM l y_M_tick b_M_tick 2 (some .int) 2 32 0 0 o 88 88 sg' false [.ref (ad o 64), .int a] (fun r0 s => some (.int w) = r0 ∧ MW s o 64 (nI k) Z' ∧ mfr sg' s 64) := by
  by_cases h1 : okI a 2
  · obtain ⟨p, hp, rfl⟩ := okI_nat (c := 2) (by decide) h1
    exact ⟨0, _, _, Z, hI, fun _ => rfl, by decide, w_tick0 (nI p) hW h87 (c_E_tick p (by decide) hW hp) (keepR hW), fun sg' t0 hM => c_M_tick p (by decide) hM hp⟩
  · exact ⟨1, 0, 0, Z, hI, (fun q => absurd q (by decide)), by decide, w_tick1 a hW h87 (t_E_tick (Z := Z) hfl a h1) (keepW hW) 0, fun sg' t0 hM => e_M_tick a (by decide) hM h1⟩
theorem op_liquidity {l : Launch} {o : Nat} {sg : Nat → va_E} {Z : ZS} (hfl : l.flags = flags0) (hI : IvZ Z) (hW : EW sg o Z) {g87 : Nat → Int64} (h87 : sg 87 = eJ 1 g87) (a : Int32) : ∃ (k : Nat) (v : Int64) (w : Int32) (Z' : ZS), IvZ Z' ∧ (k = 0 → v = w.toInt64) ∧ k ≤ 4 ∧ GMW l y_L_liquidity b_L_liquidity 4 (some .int) hh_liquidity 8 142 1 6 o 88 88 sg [.ref (ad o 0), .int a, .ref (ad o 87)] (wPost sg o k v Z') ∧ ∀ (sg' : Nat → va_E) (t0 : Int32), MW sg' o 64 t0 Z → GM l y_M_liquidity b_M_liquidity 2 (some .int) 3 60 0 0 o 88 88 sg' false [.ref (ad o 64), .int a] (fun r0 s => some (.int w) = r0 ∧ MW s o 64 (nI k) Z' ∧ mfr sg' s 64) := by
  by_cases h1 : okI a 2
  · obtain ⟨p, hp, rfl⟩ := okI_nat (c := 2) (by decide) h1
    exact ⟨0, _, _, Z, hI, fun _ => rfl, by decide, w_liquidity0 (nI p) hW h87 (c_E_liquidity p (by decide) hW hp) (keepR hW), fun sg' t0 hM => c_M_liquidity p (by decide) hM hp hI.1.1 (hI.1.2.2.2.1 p hp).1 (hI.1.2.2.2.1 p hp).2.1⟩
  · exact ⟨1, 0, 0, Z, hI, (fun q => absurd q (by decide)), by decide, w_liquidity1 a hW h87 (t_E_liquidity (Z := Z) hfl a h1) (keepW hW) 0, fun sg' t0 hM => e_M_liquidity a (by decide) hM h1⟩
theorem op_held {l : Launch} {o : Nat} {sg : Nat → va_E} {Z : ZS} (hfl : l.flags = flags0) (hI : IvZ Z) (hW : EW sg o Z) {g87 : Nat → Int64} (h87 : sg 87 = eJ 1 g87) (a : Int32) : ∃ (k : Nat) (v : Int64) (w : Int64) (Z' : ZS), IvZ Z' ∧ (k = 0 → v = w) ∧ k ≤ 4 ∧ GMW l y_L_held b_L_held 4 (some .int) hh_held 8 142 1 6 o 88 88 sg [.ref (ad o 0), .int a, .ref (ad o 87)] (wPost sg o k v Z') ∧ ∀ (sg' : Nat → va_E) (t0 : Int32), MW sg' o 64 t0 Z → GM l y_M_held b_M_held 2 (some .long) 2 32 0 0 o 88 88 sg' false [.ref (ad o 64), .int a] (fun r0 s => some (.long w) = r0 ∧ MW s o 64 (nI k) Z' ∧ mfr sg' s 64) := by
  by_cases h1 : okI a 3
  · obtain ⟨p, hp, rfl⟩ := okI_nat (c := 3) (by decide) h1
    exact ⟨0, _, _, Z, hI, fun _ => rfl, by decide, w_held0 (nI p) hW h87 (c_E_held p (by decide) hW hp) (keepR hW), fun sg' t0 hM => c_M_held p (by decide) hM hp⟩
  · exact ⟨1, 0, 0, Z, hI, (fun q => absurd q (by decide)), by decide, w_held1 a hW h87 (t_E_held (Z := Z) hfl a h1) (keepW hW) 0, fun sg' t0 hM => e_M_held a (by decide) hM h1⟩
theorem op_growth {l : Launch} {o : Nat} {sg : Nat → va_E} {Z : ZS} (hfl : l.flags = flags0) (hI : IvZ Z) (hW : EW sg o Z) {g87 : Nat → Int64} (h87 : sg 87 = eJ 1 g87) (a b : Int32) : ∃ (k : Nat) (v : Int64) (w : Int64) (Z' : ZS), IvZ Z' ∧ (k = 0 → v = w) ∧ k ≤ 4 ∧ GMW l y_L_growth b_L_growth 5 (some .int) hh_growth 8 143 1 6 o 88 88 sg [.ref (ad o 0), .int a, .int b, .ref (ad o 87)] (wPost sg o k v Z') ∧ ∀ (sg' : Nat → va_E) (t0 : Int32), MW sg' o 64 t0 Z → GM l y_M_growth b_M_growth 3 (some .long) 2 32 0 0 o 88 88 sg' false [.ref (ad o 64), .int a, .int b] (fun r0 s => some (.long w) = r0 ∧ MW s o 64 (nI k) Z' ∧ mfr sg' s 64) := by
  by_cases h1 : okI a 2 ∧ okI b 2
  · obtain ⟨p, hp, rfl⟩ := okI_nat (c := 2) (by decide) h1.1
    obtain ⟨s, hs, rfl⟩ := okI_nat (c := 2) (by decide) h1.2
    exact ⟨0, _, _, Z, hI, fun _ => rfl, by decide, w_growth0 (nI p) (nI s) hW h87 (c_E_growth p s (by decide) hW hp hs) (keepR hW), fun sg' t0 hM => c_M_growth p s (by decide) hM hp hs⟩
  · exact ⟨1, 0, 0, Z, hI, (fun q => absurd q (by decide)), by decide, w_growth1 a b hW h87 (t_E_growth (Z := Z) hfl a b h1) (keepW hW) 0, fun sg' t0 hM => e_M_growth a b (by decide) hM h1⟩
theorem op_collect {l : Launch} {o : Nat} {sg : Nat → va_E} {Z : ZS} (hfl : l.flags = flags0) (hI : IvZ Z) (hW : EW sg o Z) {g87 : Nat → Int64} (h87 : sg 87 = eJ 1 g87) (a b c d : Int32) : ∃ (k : Nat) (v : Int64) (w : Int64) (Z' : ZS), IvZ Z' ∧ (k = 0 → v = w) ∧ k ≤ 4 ∧ GMW l y_L_collect b_L_collect 7 (some .int) hh_collect 9 173 1 6 o 88 88 sg [.ref (ad o 0), .int a, .int b, .int c, .int d, .ref (ad o 87)] (wPost sg o k v Z') ∧ ∀ (sg' : Nat → va_E) (t0 : Int32), MW sg' o 64 t0 Z → GM l y_M_collect b_M_collect 10 (some .long) 3 55 0 0 o 88 88 sg' false [.ref (ad o 64), .int a, .int b, .int c, .int d] (fun r0 s => some (.long w) = r0 ∧ MW s o 64 (nI k) Z' ∧ mfr sg' s 64) := by
  have hA := hI.1.2.1
  have hB := hI.1.1
  by_cases h1 : okPl a b c d
  · obtain ⟨A, hA4, rfl⟩ := okI_nat (c := 4) (by decide) h1.1
    obtain ⟨p, hp, rfl⟩ := okI_nat (c := 2) (by decide) h1.2.1
    rcases opt_or (zFind Z (nI A) (nI p) c d) with e | ⟨k, e⟩
    · exact ⟨2, 0, 0, Z, hI, (fun q => absurd q (by decide)), by decide, w_collect2 (nI A) (nI p) c d hW h87 (t_E_coll2 (Z := Z) hfl (nI A) (nI p) c d (by decide) hW hA h1 e) (keepW hW) 0, fun sg' t0 hM => e_M_coll2 (nI A) (nI p) c d (by decide) hM h1 e⟩
    · have hk := (fnd_some e).1
      have hmi := (fnd_some e).2
      obtain ⟨g1, g2⟩ := Bool.and_eq_true_iff.mp (show (zth Z k && _) = true from hmi)
      obtain ⟨g3, g4, g5, g6⟩ := of_decide_eq_true g2
      have hpl : zpl Z k = p := (nI_eq (by have := (hB k hk).1; omega) (by omega)).mp g4
      exact ⟨0, _, _, zColl Z A p k, Iv_coll hI hA4 hp hk hpl, fun _ => rfl, by decide, w_collect0 (nI A) (nI p) c d hW h87 (c_E_collect A p k c d (by decide) hW hA hA4 hp h1 e) (fun r s h => h), fun sg' t0 hM => c_M_collect A p k c d (by decide) hM hA4 hp h1 e (by have := hA k hk; omega)⟩
  · exact ⟨1, 0, 0, Z, hI, (fun q => absurd q (by decide)), by decide, w_collect1 a b c d hW h87 (t_E_coll1 (Z := Z) hfl a b c d h1) (keepW hW) 0, fun sg' t0 hM => e_M_coll1 a b c d (by decide) hM h1⟩
theorem op_burn {l : Launch} {o : Nat} {sg : Nat → va_E} {Z : ZS} (hfl : l.flags = flags0) (hI : IvZ Z) (hW : EW sg o Z) {g87 : Nat → Int64} (h87 : sg 87 = eJ 1 g87) (a b c d x : Int32) : ∃ (k : Nat) (v : Int64) (w : Int32) (Z' : ZS), IvZ Z' ∧ (k = 0 → v = w.toInt64) ∧ k ≤ 4 ∧ GMW l y_L_burn b_L_burn 8 (some .int) hh_burn 9 170 1 6 o 88 88 sg [.ref (ad o 0), .int a, .int b, .int c, .int d, .int x, .ref (ad o 87)] (wPost sg o k v Z') ∧ ∀ (sg' : Nat → va_E) (t0 : Int32), MW sg' o 64 t0 Z → GM l y_M_burn b_M_burn 7 (some .int) 5 126 0 0 o 88 88 sg' false [.ref (ad o 64), .int a, .int b, .int c, .int d, .int x] (fun r0 s => some (.int w) = r0 ∧ MW s o 64 (nI k) Z' ∧ mfr sg' s 64) := by
  have hA := hI.1.2.1
  have hB := hI.1.1
  by_cases h1 : okPl a b c d
  · by_cases h2 : d ≤ c ∨ x < 0
    · exact ⟨2, 0, 0, Z, hI, (fun q => absurd q (by decide)), by decide, w_burn2 a b c d x hW h87 (t_E_burn2 (Z := Z) hfl a b c d x h1 h2) (keepW hW) 0, fun sg' t0 hM => e_M_burn2 a b c d x (by decide) hM h1 h2⟩
    · have h3 : ¬ d ≤ c := fun q => h2 (Or.inl q)
      have h4 : ¬ x < 0 := fun q => h2 (Or.inr q)
      rcases opt_or (zFind Z a b c d) with e | ⟨k, e⟩
      · exact ⟨3, 0, 0, Z, hI, (fun q => absurd q (by decide)), by decide, w_burn3 a b c d x hW h87 (t_E_burn3 (Z := Z) hfl a b c d x (by decide) hW hA h1 h3 h4 e) (keepW hW) 0, fun sg' t0 hM => e_M_burn3 a b c d x (by decide) hM h1 h3 h4 e⟩
      · by_cases h5 : x.toInt64 ≤ lN (zam Z k)
        · obtain ⟨A, hA4, rfl⟩ := okI_nat (c := 4) (by decide) h1.1
          obtain ⟨p, hp, rfl⟩ := okI_nat (c := 2) (by decide) h1.2.1
          obtain ⟨lo, l1, l2, rfl⟩ := okT_int h1.2.2.1
          obtain ⟨hi, l3, l4, rfl⟩ := okT_int h1.2.2.2
          obtain ⟨X, hX, rfl⟩ := nneg h4
          have hlh : lo < hi := by
            rw [iI_le (by omega) (by omega) (by omega) (by omega)] at h3
            omega
          obtain ⟨hk, g1, g3, g4⟩ := find_at hB hp l1 hlh l4 e
          have hXa : X ≤ zam Z k := by
            rw [nI_l hX] at h5
            exact (pk_lLE (by omega) (by have := hA k hk; omega)).mp h5
          have hT := hI.1.2.2.2.1 p hp
          exact ⟨0, _, _, zBurn Z p k X lo hi, Iv_burn hI hp hk l1 hlh l4 hXa g4, fun _ => rfl, by decide, w_burn0 _ _ _ _ _ hW h87 (c_E_burn A p k X lo hi (by decide) hW hA hB hA4 hp l1 hlh l4 e hXa hT) (fun r s h => h), fun sg' t0 hM => c_M_burn A p k X lo hi (by decide) hM hA4 hp l1 hlh l4 e hXa (hA k hk) hT⟩
        · exact ⟨4, 0, 0, Z, hI, (fun q => absurd q (by decide)), by decide, w_burn4 a b c d x hW h87 (t_E_burn4 (Z := Z) hfl a b c d x k (by decide) hW hA h1 h3 h4 e h5) (keepW hW) 0, fun sg' t0 hM => e_M_burn4 a b c d x k (by decide) hM h1 h3 h4 e h5⟩
  · exact ⟨1, 0, 0, Z, hI, (fun q => absurd q (by decide)), by decide, w_burn1 a b c d x hW h87 (t_E_burn1 (Z := Z) hfl a b c d x h1) (keepW hW) 0, fun sg' t0 hM => e_M_burn1 a b c d x (by decide) hM h1⟩
theorem op_mint {l : Launch} {o : Nat} {sg : Nat → va_E} {Z : ZS} (hfl : l.flags = flags0) (hI : IvZ Z) (hW : EW sg o Z) {g87 : Nat → Int64} (h87 : sg 87 = eJ 1 g87) (a b c d x : Int32) : ∃ (k : Nat) (v : Int64) (w : Int32) (Z' : ZS), IvZ Z' ∧ (k = 0 → v = w.toInt64) ∧ k ≤ 4 ∧ GMW l y_L_mint b_L_mint 8 (some .int) hh_mint 9 175 1 6 o 88 88 sg [.ref (ad o 0), .int a, .int b, .int c, .int d, .int x, .ref (ad o 87)] (wPost sg o k v Z') ∧ ∀ (sg' : Nat → va_E) (t0 : Int32), MW sg' o 64 t0 Z → GM l y_M_mint b_M_mint 15 (some .int) 5 126 0 0 o 88 88 sg' false [.ref (ad o 64), .int a, .int b, .int c, .int d, .int x] (fun r0 s => some (.int w) = r0 ∧ MW s o 64 (nI k) Z' ∧ mfr sg' s 64) := by
  have hA := hI.1.2.1
  have hB := hI.1.1
  by_cases h1 : okPl a b c d
  · by_cases h2 : d ≤ c ∨ x < 1 ∨ 50000000 < x ∨ ¬ lN (zHad Z (zFind Z a b c d)) + x.toInt64 ≤ 50000000
    · exact ⟨2, 0, 0, Z, hI, (fun q => absurd q (by decide)), by decide, w_mint2 a b c d x hW h87 (t_E_mint2 (Z := Z) hfl a b c d x (by decide) hW hA h1 h2) (keepW hW) 0, fun sg' t0 hM => e_M_mint2 a b c d x (by decide) hM h1 h2⟩
    · have h3 : ¬ d ≤ c := fun q => h2 (Or.inl q)
      obtain ⟨X, x1, x2, rfl⟩ := x32 (fun q => h2 (Or.inr (Or.inl q))) (fun q => h2 (Or.inr (Or.inr (Or.inl q))))
      have h4 : lN (zHad Z (zFind Z a b c d)) + (nI X).toInt64 ≤ 50000000 := Classical.byContradiction (fun q => h2 (Or.inr (Or.inr (Or.inr q))))
      obtain ⟨A, hA4, rfl⟩ := okI_nat (c := 4) (by decide) h1.1
      obtain ⟨p, hp, rfl⟩ := okI_nat (c := 2) (by decide) h1.2.1
      obtain ⟨lo, l1, l2, rfl⟩ := okT_int h1.2.2.1
      obtain ⟨hi, l3, l4, rfl⟩ := okT_int h1.2.2.2
      have hlh : lo < hi := by
        rw [iI_le (by omega) (by omega) (by omega) (by omega)] at h3
        omega
      have hhad : zHad Z (zFind Z (nI A) (nI p) (iI lo) (iI hi)) ≤ 50000000 := by
        rcases opt_or (zFind Z (nI A) (nI p) (iI lo) (iI hi)) with e | ⟨k, e⟩
        · rw [e]; exact Nat.zero_le _
        · rw [e]; exact hA k (fnd_some e).1
      have hL : zHad Z (zFind Z (nI A) (nI p) (iI lo) (iI hi)) + X ≤ 50000000 := by
        rw [nI_l (by omega), lN_add] at h4
        exact (pk_lLE (b := 50000000) (by omega) (by decide)).mp h4
      have hT := hI.1.2.2.2.1 p hp
      by_cases h5 : zPlace Z (zFind Z (nI A) (nI p) (iI lo) (iI hi)) = none ∨ zbal Z (A * 3 + p) < lN (zWN true X (zpr Z p) (ztk Z p) lo hi) ∨ zbal Z (A * 3 + (p + 1)) < lN (zWF true X (zpr Z p) (ztk Z p) lo hi)
      · exact ⟨3, 0, 0, Z, hI, (fun q => absurd q (by decide)), by decide, w_mint3 _ _ _ _ _ hW h87 (t_E_mint3 (Z := Z) hfl A p X lo hi (by decide) hW hA hB hA4 hp l1 hlh l4 x1 hL hT h5) (keepW hW) 0, fun sg' t0 hM => e_M_mint3 A p X lo hi (by decide) hM hA4 hp l1 hlh l4 x1 hL hT h5⟩
      · rcases opt_or (zPlace Z (zFind Z (nI A) (nI p) (iI lo) (iI hi))) with e | ⟨q, e⟩
        · exact absurd (Or.inl e) h5
        · obtain ⟨hq, hqL, hQ⟩ := place_q hB hp l1 hlh l4 hL e
          have b1 : ¬ zbal Z (A * 3 + p) < lN (zWN true X (zpr Z p) (ztk Z p) lo hi) := fun z => h5 (Or.inr (Or.inl z))
          have b2 : ¬ zbal Z (A * 3 + (p + 1)) < lN (zWF true X (zpr Z p) (ztk Z p) lo hi) := fun z => h5 (Or.inr (Or.inr z))
          exact ⟨0, _, _, _, Iv_mint hI hA4 hp hq l1 hlh l4 hqL hQ b1 b2, fun _ => rfl, by decide, w_mint0 _ _ _ _ _ hW h87 (c_E_mint A p X lo hi (by decide) hW hA hB hA4 hp l1 hlh l4 x1 hL hT q e b1 b2) (fun r s h => h), fun sg' t0 hM => c_M_mint A p X lo hi (by decide) hM hA4 hp l1 hlh l4 x1 hL hT q e b1 b2⟩
  · exact ⟨1, 0, 0, Z, hI, (fun q => absurd q (by decide)), by decide, w_mint1 a b c d x hW h87 (t_E_mint1 (Z := Z) hfl a b c d x h1) (keepW hW) 0, fun sg' t0 hM => e_M_mint1 a b c d x (by decide) hM h1⟩
theorem op_swap {l : Launch} {o : Nat} {sg : Nat → va_E} {Z : ZS} (hfl : l.flags = flags0) (hI : IvZ Z) (hW : EW sg o Z) {g87 : Nat → Int64} (h87 : sg 87 = eJ 1 g87) (a b : Int32) (dn : Bool) (d x : Int32) : ∃ (k : Nat) (v : Int64) (w : Int64) (Z' : ZS), IvZ Z' ∧ (k = 0 → v = w) ∧ k ≤ 4 ∧ GMW l y_L_swap b_L_swap 8 (some .int) hh_swap 8 199 1 6 o 88 88 sg [.ref (ad o 0), .int a, .int b, .int (bz dn), .int d, .int x, .ref (ad o 87)] (wPost sg o k v Z') ∧ ∀ (sg' : Nat → va_E) (t0 : Int32), MW sg' o 64 t0 Z → GM l y_M_swap b_M_swap 10 (some .long) 6 184 0 0 o 88 88 sg' false [.ref (ad o 64), .int a, .int b, .int (bz dn), .int d, .int x] (fun r0 s => some (.long w) = r0 ∧ MW s o 64 (nI k) Z' ∧ mfr sg' s 64) := by
  have hA := hI.1.2.1
  have hB := hI.1.1
  have hO := hI.1.2.2.2.2
  by_cases h1 : okI a 4 ∧ okI b 2 ∧ okT x
  · obtain ⟨A, hA4, rfl⟩ := okI_nat (c := 4) (by decide) h1.1
    obtain ⟨p, hp, rfl⟩ := okI_nat (c := 2) (by decide) h1.2.1
    obtain ⟨z, l1, l2, rfl⟩ := okT_int h1.2.2
    have hT := hI.1.2.2.2.1 p hp
    have hf := hI.1.2.2.1 p hp
    by_cases h2 : d = 0 ∨ d < -100000000 ∨ 100000000 < d ∨ ¬ (if dn = true then rt (tx z) < zpr Z p else zpr Z p < rt (tx z))
    · exact ⟨2, 0, 0, Z, hI, (fun q => absurd q (by decide)), by decide, w_swap2 _ _ _ _ _ hW h87 (t_E_swap2 (Z := Z) hfl A p dn d z (by decide) hW hA4 hp l1 l2 hT h2) (keepW hW) 0, fun sg' t0 hM => e_M_swap2 A p dn d z (by decide) hM hA4 hp l1 l2 hT h2⟩
    · obtain ⟨ex, r, r0, r1, rfl⟩ := amt (fun q => h2 (Or.inl q)) (fun q => h2 (Or.inr (Or.inl q))) (fun q => h2 (Or.inr (Or.inr (Or.inl q))))
      have hMS : if dn = true then rt (tx z) < zpr Z p else zpr Z p < rt (tx z) := Classical.byContradiction (fun q => h2 (Or.inr (Or.inr (Or.inr q))))
      have hQI : QI dn (rt (tx z)) (zpr Z p, ztk Z p, r, 0, 0) := ⟨hT, r1, by cases dn; exact Nat.le_of_lt hMS; exact Nat.le_of_lt hMS⟩
      by_cases h3 : zbal Z (A * 3 + (p + sdN dn)) < (zWork Z p dn ex r (rt (tx z))).1.2.2.2.1
      · exact ⟨3, 0, 0, Z, hI, (fun q => absurd q (by decide)), by decide, w_swap3 _ _ _ _ _ hW h87 (t_E_swap3 (Z := Z) hfl A p dn ex r z (by decide) hW hA4 hp l1 l2 hT hA hB hO hf r0 r1 hMS h3) (fun s h => h) 0, fun sg' t0 hM => e_M_swap3 A p dn ex r z (by decide) hM hB hA hf hA4 hp l1 l2 hT r0 r1 hMS h3⟩
      · exact ⟨0, _, _, _, Iv_la (Iv_carry hI hA4 hp (rt_lo l2) (rt_hi l2) hQI h3), fun _ => rfl, by decide, w_swap0 _ _ _ _ _ hW h87 (c_E_swap A p dn ex r z (by decide) hW hA4 hp l1 l2 hT hA hB hO hf r0 r1 hMS h3) (fun r s h => h), fun sg' t0 hM => c_M_swap A p dn ex r z (by decide) hM hB hA hf hA4 hp l1 l2 hT r0 r1 hMS h3⟩
  · exact ⟨1, 0, 0, Z, hI, (fun q => absurd q (by decide)), by decide, w_swap1 _ _ _ _ _ hW h87 (t_E_swap1 (Z := Z) hfl a b dn d x h1) (keepW hW) 0, fun sg' t0 hM => e_M_swap1 a b dn d x (by decide) hM h1⟩
theorem op_route {l : Launch} {o : Nat} {sg : Nat → va_E} {Z : ZS} (hfl : l.flags = flags0) (hI : IvZ Z) (hW : EW sg o Z) {g87 : Nat → Int64} (h87 : sg 87 = eJ 1 g87) (a b c : Int32) : ∃ (k : Nat) (v : Int64) (w : Int64) (Z' : ZS), IvZ Z' ∧ (k = 0 → v = w) ∧ k ≤ 4 ∧ GMW l y_L_route b_L_route 6 (some .int) hh_route 8 197 1 6 o 88 88 sg [.ref (ad o 0), .int a, .int b, .int c, .ref (ad o 87)] (wPost sg o k v Z') ∧ ∀ (sg' : Nat → va_E) (t0 : Int32), MW sg' o 64 t0 Z → GM l y_M_route b_M_route 6 (some .long) 6 184 0 0 o 88 88 sg' false [.ref (ad o 64), .int a, .int b, .int c] (fun r0 s => some (.long w) = r0 ∧ MW s o 64 (nI k) Z' ∧ mfr sg' s 64) := by
  have hA := hI.1.2.1
  have hB := hI.1.1
  have hO := hI.1.2.2.2.2
  have hf := hI.1.2.2.1
  have hT := hI.1.2.2.2.1
  by_cases h1 : okI a 4
  · obtain ⟨A, hA4, rfl⟩ := okI_nat (c := 4) (by decide) h1
    by_cases h2 : b < 1 ∨ ¬ b ≤ 100000000
    · exact ⟨2, 0, 0, Z, hI, (fun q => absurd q (by decide)), by decide, w_route2 _ _ _ hW h87 (t_E_route2 (Z := Z) hfl A b c hA4 h2) (keepW hW) 0, fun sg' t0 hM => e_M_route2 A b c (by decide) hM hA4 h2⟩
    · have h3 : ¬ b < 1 := fun q => h2 (Or.inl q)
      have h4 : b ≤ 100000000 := Classical.byContradiction (fun q => h2 (Or.inr q))
      obtain ⟨r, hr0, hr1, rfl⟩ : ∃ r, 0 < r ∧ r ≤ 100000000 ∧ b = nI r := by
        rw [Int32.lt_iff_toInt_lt] at h3
        rw [Int32.le_iff_toInt_le] at h4
        have e1 : (1 : Int32).toInt = 1 := by decide
        have e2 : (100000000 : Int32).toInt = 100000000 := by decide
        refine ⟨b.toInt.toNat, by omega, by omega, ?_⟩
        rw [← iI_nat, Int.toNat_of_nonneg (by omega)]
        exact iI_of b
      by_cases h5 : zpr Z 0 = rt 0 ∨ zpr Z 1 = rt 0
      · exact ⟨3, 0, 0, Z, hI, (fun q => absurd q (by decide)), by decide, w_route3 _ _ _ hW h87 (t_E_route3a (Z := Z) hfl A r c (by decide) hW hA4 hr0 hr1 hT h5) (keepW hW) 0, fun sg' t0 hM => e_M_route3a A r c (by decide) hM hA4 hr0 hr1 h5⟩
      · have p0 : ¬ zpr Z 0 = rt 0 := fun q => h5 (Or.inl q)
        have p1 : ¬ zpr Z 1 = rt 0 := fun q => h5 (Or.inr q)
        have hQ0 : QI true (rt 0) (zpr Z 0, ztk Z 0, r, 0, 0) := ⟨hT 0 (by decide), hr1, rt_pos0 (hT 0 (by decide))⟩
        by_cases h6 : zbal Z (A * 3) < (zWork Z 0 true true r (rt 0)).1.2.2.2.1 ∨ (zWork Z 0 true true r (rt 0)).1.2.2.2.2 = 0
        · exact ⟨3, 0, 0, Z, hI, (fun q => absurd q (by decide)), by decide, w_route3 _ _ _ hW h87 (t_E_route3b (Z := Z) hfl A r c (by decide) hW hA4 hr0 hr1 hT hB hA hO hf p0 p1 h6) (fun s h => h) 0, fun sg' t0 hM => e_M_route3b A r c (by decide) hM hA4 hr0 hr1 hB hA hf hT p0 p1 h6⟩
        · have h7 : ¬ zbal Z (A * 3) < (zWork Z 0 true true r (rt 0)).1.2.2.2.1 := fun q => h6 (Or.inl q)
          have h8 : ¬ (zWork Z 0 true true r (rt 0)).1.2.2.2.2 = 0 := fun q => h6 (Or.inr q)
          obtain ⟨g0, hg, hg0⟩ := sv_got (ex := true) hI.2 hA hB hO (hf 0 (by decide)) (by decide) (Nat.le_refl _) (rt_le (by decide) (Nat.le_refl 80)) hQ0
          have hQ1 : QI true (rt 0) (zpr Z 1, ztk Z 1, g0, 0, 0) := ⟨hT 1 (by decide), hg0, rt_pos0 (hT 1 (by decide))⟩
          by_cases h9 : (zWork Z 1 true true g0 (rt 0)).1.2.2.2.2 < c.toInt64
          · exact ⟨3, 0, 0, Z, hI, (fun q => absurd q (by decide)), by decide, w_route3 _ _ _ hW h87 (t_E_route3c (Z := Z) hfl A r c (by decide) hW hA4 hr0 hr1 hT hB hA hO hf p0 p1 g0 hg hg0 h7 h8 h9) (fun s h => h) 0, fun sg' t0 hM => e_M_route3c A r c (by decide) hM hA4 hr0 hr1 hB hA hf hT p0 p1 g0 hg hg0 h7 h8 h9⟩
          · exact ⟨0, _, _, _, Iv_la (Iv_route hI hA4 hQ0 hQ1 h7 hg hg0), fun _ => rfl, by decide, w_route0 _ _ _ hW h87 (c_E_route A r c (by decide) hW hA4 hr0 hr1 hT hB hA hO hf p0 p1 g0 hg hg0 h7 h8 h9) (fun r s h => h), fun sg' t0 hM => c_M_route A r c (by decide) hM hA4 hr0 hr1 hB hA hf hT p0 p1 g0 hg hg0 h7 h8 h9⟩
  · exact ⟨1, 0, 0, Z, hI, (fun q => absurd q (by decide)), by decide, w_route1 a b c hW h87 (t_E_route1 (Z := Z) hfl a b c h1) (keepW hW) 0, fun sg' t0 hM => e_M_route1 a b c (by decide) hM h1⟩

