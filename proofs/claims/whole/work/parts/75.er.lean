-- ONE PLACE OF THE CLASS'S WORLD CHANGED
theorem sFa_n {fa : Nat → Int64} {k i s : Nat} (h : i ≠ k) (hs : s < 2) : sFa fa k (2 * i + s) = fa (2 * i + s) := by
  unfold sFa
  rw [pk_unL (by omega), pk_unL (by omega)]
theorem sFa_z {fa : Nat → Int64} {k s : Nat} (hs : s < 2) : sFa fa k (2 * k + s) = 0 := by
  unfold sFa
  rcases (show s = 0 ∨ s = 1 by omega) with e | e
  · subst e; rw [pk_unL (by omega)]; exact pk_usL
  · subst e; exact pk_usL
theorem sOd_0t {od fa : Nat → Int64} {a : Int64} {k : Nat} : sOd od fa a k (2 * k) = od (2 * k) + shr (fa (2 * k)) a := (pk_unL (by omega)).trans pk_usL
theorem sOd_1t {od fa : Nat → Int64} {a : Int64} {k : Nat} : sOd od fa a k (2 * k + 1) = od (2 * k + 1) + shr (fa (2 * k + 1)) a := pk_usL
theorem zAdd2_0t {od : Nat → Int64} {x y : Int64} {k : Nat} : zAdd2 od k x y (2 * k) = od (2 * k) + x := (pk_unL (by omega)).trans pk_usL
theorem zAdd2_1t {od : Nat → Int64} {x y : Int64} {k : Nat} : zAdd2 od k x y (2 * k + 1) = od (2 * k + 1) + y := pk_usL
theorem zNear_00 {a b : Nat} : zNear false 0 a b = 0 := by simp [zNear, dv_0]
theorem zFar_00 {a b : Nat} : zFar false 0 a b = 0 := by simp [zFar, dv_0]
theorem zWN_0 {S : Nat} {tz lo hi : Int} : zWN false 0 S tz lo hi = 0 := by
  unfold zWN
  split
  · rfl
  · exact zNear_00
theorem zWF_0 {S : Nat} {tz lo hi : Int} : zWF false 0 S tz lo hi = 0 := by
  unfold zWF
  split
  · rfl
  · exact zFar_00
theorem nI_subn {a b : Nat} (h : b ≤ a) : nI a + -nI b = nI (a - b) := by
  have e : nI a = nI (a - b) + nI b := by rw [nI_add, Nat.sub_add_cancel h]
  rw [e, Int32.add_assoc, Int32.add_right_neg, Int32.add_zero]
theorem find_at {Z : ZS} {a p k : Nat} {lo hi : Int} (hB : pBd (zpl Z) (zlo Z) (zhi Z)) (hp : p < 2) (h1 : -40 ≤ lo) (hlh : lo < hi) (h2 : hi ≤ 40) (hf : zFind Z (nI a) (nI p) (iI lo) (iI hi) = some k) : k < 12 ∧ zth Z k = true ∧ nI (zow Z k) = nI a ∧ zpl Z k = p ∧ zlo Z k = lo ∧ zhi Z k = hi := by
  have hk := (fnd_some hf).1
  have hmi := (fnd_some hf).2
  obtain ⟨g1, g2⟩ := Bool.and_eq_true_iff.mp (show (zth Z k && _) = true from hmi)
  obtain ⟨g3, g4, g5, g6⟩ := of_decide_eq_true g2
  obtain ⟨b1, b2, b3, b4, b5⟩ := hB k hk
  exact ⟨hk, g1, g3, (nI_eq (by omega) (by omega)).mp g4, (iI_eq (by omega) (by omega) (by omega) (by omega)).mp g5, (iI_eq (by omega) (by omega) (by omega) (by omega)).mp g6⟩
theorem PlUp_mint {Z : ZS} {a p q L A B : Nat} {lo hi : Int} (h : (zpl Z q = p ∧ zlo Z q = lo ∧ zhi Z q = hi) ∨ zam Z q = 0) : PlUp Z (zMint Z a p q L A B lo hi) p q lo hi := ⟨rfl, ⟨updN_s, updZ_s, updZ_s⟩, h, fun i hi => ⟨updN_n hi, updZ_n hi, updZ_n hi, updN_n hi, fun s hs => sFa_n hi hs⟩, fun s hs => sFa_z hs⟩
theorem PlUp_burn {Z : ZS} {p q L : Nat} {lo hi : Int} (h : zpl Z q = p ∧ zlo Z q = lo ∧ zhi Z q = hi) : PlUp Z (zBurn Z p q L lo hi) p q lo hi := ⟨rfl, h, Or.inl h, fun i hi => ⟨rfl, rfl, rfl, updN_n hi, fun s hs => sFa_n hi hs⟩, fun s hs => sFa_z hs⟩
theorem ER_place {sg s : Nat → va_E} {o : Nat} {Z Z' : ZS} {p q : Nat} {lo hi : Int} {d : Int32} {c : Bool} {gr ne : Nat → Int32} {g ou : Nat → Int64} {pr2 : Int64} {tz2 : Int} {lq2 : Int32} {g2 oo2 : Nat → Int64} {ins owd : Nat → Nat → Int64} {insn owdn : Nat → Int64} (h : PlUp Z Z' p q lo hi) (hq : q < 12) (hp : p < 2) (hd : nI (zam Z q) + d = nI (zam Z' q)) (hA : ∀ i, i < 12 → zam Z i ≤ 50000000) (hA' : ∀ i, i < 12 → zam Z' i ≤ 50000000) (hB : pBd (zpl Z) (zlo Z) (zhi Z)) (h1 : -40 ≤ lo) (hlh : lo < hi) (h2 : hi ≤ 40) (hES : ES sg o Z ins owd) (hE : ∀ r, r < 2 → EP sg o Z ins r) (he : EPin Z p ins gr ne g ou) (hP : isP s o (10 + 9 * p) 4 (zfee Z p) (cN c p) (cN (!c) p) (aGr gr lo hi d) (aNeZ gr ne lo hi d)) (hC : isC s o (cN c p) (lN (zpr Z p)) (ztk Z p) (aLq (ztk Z p) lo hi (nI (zdep Z p (ztk Z p))) d) g (aOuZ gr (ztk Z p) g ou lo hi d)) (hD : isC sg o (cN (!c) p) pr2 tz2 lq2 g2 oo2) (hS : isS s o (28 + 3 * q) (nI (zow Z' q)) (nI (zpl Z' q)) (iI (zlo Z' q)) (iI (zhi Z' q)) (nI (zam Z' q)) insn owdn) (hin : ∀ t, t < 2 → insn t = cIns (ztk Z p) g (aOu gr (ztk Z p) g ou lo hi d) t lo hi) (hod : owdn 0 = zod Z' (2 * q) ∧ owdn 1 = zod Z' (2 * q + 1)) (hoth : ∀ i, i < 12 → i ≠ q → zow Z' i = zow Z i ∧ zod Z' (2 * i) = zod Z (2 * i) ∧ zod Z' (2 * i + 1) = zod Z (2 * i + 1)) (hF : ∀ k, k ≠ 10 + 9 * p + 1 → k ≠ 10 + 9 * p + 2 → k ≠ cN c p → k ≠ cN c p + 2 → (k < 28 + 3 * q ∨ 28 + 3 * q + 3 ≤ k) → s k = sg k) : ∃ ins' owd', ES s o Z' ins' owd' ∧ ∀ r, r < 2 → EP s o Z' ins' r := by
  have hb := cN_b c p
  refine ⟨updO ins q insn, updO owd q owdn, ?_, ?_⟩
  · refine ES_up (Z := Z) hES (by rw [updO_s, updO_s]; exact hS) (hF _ (by omega) (by omega) (by omega) (by omega) (by omega)) (fun j a b c => hF j (by omega) (by omega) (by omega) (by omega) (by omega)) (by rw [updO_s]; exact hod) (fun i q1 q2 => ?_)
    obtain ⟨z1, z2, z3, z4, z5⟩ := h.2.2.2.1 i q2
    obtain ⟨y1, y2, y3⟩ := hoth i q1 q2
    exact ⟨y1, z1, z2, z3, z4, updO_n q2, updO_n q2, y2, y3⟩
  · intro r hr
    by_cases e : r = p
    · subst e
      exact EP_add h hq hd hA hA' hB h1 hlh h2 he (fun t ht => by rw [updO_s]; exact hin t ht) (fun i hi => updO_n hi) hP hC (isC_m hD (fun j a b => hF j (by omega) (by omega) (by omega) (by omega) (by omega)))
    · exact EP_mv (EP_other h hq hd (fun x => e x.symm) (fun i hi => updO_n hi) (hE r hr)) (fun j a b => hF j (by omega) (by omega) (by omega) (by omega) (by omega))
theorem owed_set {Z : ZS} {p q : Nat} {lo hi : Int} {g ou : Nat → Int64} {ins : Nat → Nat → Int64} {s : Nat} (hPQ : zpl Z q = p ∧ zlo Z q = lo ∧ zhi Z q = hi) (hq : q < 12) (hA : ∀ i, i < 12 → zam Z i ≤ 50000000) (hI : InOk Z p ins g ou) (hs : s < 2) : shr (cIns (ztk Z p) g ou s lo hi - ins q s) (nI (zam Z q)).toInt64 = shr (zfa Z (2 * q + s)) (lN (zam Z q)) := by
  have hAq := hA q hq
  rw [nI_l (by omega)]
  by_cases h0 : zam Z q = 0
  · rw [h0]
    exact (shr_0 _).trans (shr_0 _).symm
  · obtain ⟨z1, z2, z3⟩ := hPQ
    have e := hI q hq z1 (by omega) s hs
    rw [z2, z3] at e
    rw [e]
theorem ER_settle {sg s : Nat → va_E} {o : Nat} {Z Z' : ZS} {p q : Nat} {lo hi : Int} {c : Bool} {gr ne : Nat → Int32} {g ou : Nat → Int64} {pr2 : Int64} {tz2 : Int} {lq2 : Int32} {g2 oo2 : Nat → Int64} {ins owd : Nat → Nat → Int64} {insn owdn : Nat → Int64} (h : PlUp Z Z' p q lo hi) (hq : q < 12) (hp : p < 2) (hd : nI (zam Z q) + 0 = nI (zam Z' q)) (hES : ES sg o Z ins owd) (hE : ∀ r, r < 2 → EP sg o Z ins r) (he : EPin Z p ins gr ne g ou) (hP : isP sg o (10 + 9 * p) 4 (zfee Z p) (cN c p) (cN (!c) p) gr ne) (hC : isC sg o (cN c p) (lN (zpr Z p)) (ztk Z p) (nI (zdep Z p (ztk Z p))) g ou) (hD : isC sg o (cN (!c) p) pr2 tz2 lq2 g2 oo2) (hS : isS s o (28 + 3 * q) (nI (zow Z' q)) (nI (zpl Z' q)) (iI (zlo Z' q)) (iI (zhi Z' q)) (nI (zam Z' q)) insn owdn) (hin : ∀ t, t < 2 → insn t = cIns (ztk Z p) g ou t lo hi) (hod : owdn 0 = zod Z' (2 * q) ∧ owdn 1 = zod Z' (2 * q + 1)) (hoth : ∀ i, i < 12 → i ≠ q → zow Z' i = zow Z i ∧ zod Z' (2 * i) = zod Z (2 * i) ∧ zod Z' (2 * i + 1) = zod Z (2 * i + 1)) (hF : ∀ k, (k < 28 + 3 * q ∨ 28 + 3 * q + 3 ≤ k) → s k = sg k) : ∃ ins' owd', ES s o Z' ins' owd' ∧ ∀ r, r < 2 → EP s o Z' ins' r := by
  have hb := cN_b c p
  refine ⟨updO ins q insn, updO owd q owdn, ?_, ?_⟩
  · refine ES_up (Z := Z) hES (by rw [updO_s, updO_s]; exact hS) (hF _ (by omega)) (fun j a b c => hF j (by omega)) (by rw [updO_s]; exact hod) (fun i q1 q2 => ?_)
    obtain ⟨z1, z2, z3, z4, z5⟩ := h.2.2.2.1 i q2
    obtain ⟨y1, y2, y3⟩ := hoth i q1 q2
    exact ⟨y1, z1, z2, z3, z4, updO_n q2, updO_n q2, y2, y3⟩
  · intro r hr
    by_cases e : r = p
    · subst e
      have f1 : zfee Z' = zfee Z := congrArg (fun x => x.1) h.1
      have f2 : zpr Z' = zpr Z := congrArg (fun x => x.2.1) h.1
      have f3 : ztk Z' = ztk Z := congrArg (fun x => x.2.2.1) h.1
      have f4 : zgw Z' = zgw Z := congrArg (fun x => x.2.2.2) h.1
      have f5 := zdep_up (r := r) (tz := ztk Z r) h hq hd
      rw [ite_self, Int32.add_zero] at f5
      refine ⟨c, gr, ne, g, ou, pr2, tz2, lq2, g2, oo2, ?_, ?_, isC_m hD (fun j a b => hF j (by omega)), ?_, ?_, ?_⟩
      · rw [f1]; exact isP_mv hP (fun j a b => hF j (by omega))
      · rw [f2, f3, f5]; exact isC_m hC (fun j a b => hF j (by omega))
      · intro t ht
        rw [f4]
        exact he.1 t ht
      · intro i hi
        have e1 := loN_up (i := i) (r := r) h hq hd
        have e2 := hiN_up (i := i) (r := r) h hq hd
        rw [ite_self, Int32.add_zero] at e1 e2
        rw [← nI_add, e1, e2, nI_add]
        exact he.2.1 i hi
      · intro i hi2 q1 q2 t ht
        obtain ⟨h0, ⟨z1, z2, z3⟩, h4, h5, h6⟩ := h
        by_cases e : i = q
        · subst e
          rw [f3, z2, z3, h6 t ht, updO_s, hin t ht]
          exact Int64.sub_self _
        · obtain ⟨z1, z2, z3, z4, z5⟩ := h5 i e
          rw [z1] at q1
          rw [z4] at q2
          rw [f3, z2, z3, z5 t ht, updO_n e]
          exact he.2.2 i hi2 q1 q2 t ht
    · exact EP_mv (EP_other h hq hd (fun x => e x.symm) (fun i hi => updO_n hi) (hE r hr)) (fun j a b => hF j (by omega))
theorem ER_all {s : Nat → va_E} {o : Nat} {Z : ZS} {ins : Nat → Nat → Int64} (h0 : EP s o Z ins 0) (h1 : EP s o Z ins 1) : ∀ r, r < 2 → EP s o Z ins r := by
  intro r hr
  rcases (show r = 0 ∨ r = 1 by omega) with q | q
  · subst q; exact h0
  · subst q; exact h1
theorem x32 {x : Int32} (h1 : ¬ x < 1) (h2 : ¬ 50000000 < x) : ∃ X, 1 ≤ X ∧ X ≤ 50000000 ∧ x = nI X := by
  rw [Int32.lt_iff_toInt_lt] at h1 h2
  have e1 : (1 : Int32).toInt = 1 := by decide
  have e2 : (50000000 : Int32).toInt = 50000000 := by decide
  refine ⟨x.toInt.toNat, by omega, by omega, ?_⟩
  rw [← iI_nat, Int.toNat_of_nonneg (by omega)]
  exact iI_of x

