-- WHAT EVERY CALL KEEPS
theorem wsum_add {Z : ZS} {p : Nat} {c d c' : Nat → Nat} (n : Nat) (h : ∀ i, i < n → zpl Z i = p → c' i = c i + d i) : wsum Z p c' n = wsum Z p c n + wsum Z p d n := by
  induction n with
  | zero => rfl
  | succ n ih =>
    have h1 := ih (fun i a => h i (by omega))
    unfold wsum
    rw [h1]
    by_cases hp : zpl Z n = p
    · rw [if_pos hp, if_pos hp, if_pos hp, h n (by omega) hp, Nat.mul_add]
      omega
    · rw [if_neg hp, if_neg hp, if_neg hp]
      omega
theorem wsum_c {Z : ZS} {p : Nat} {c c' : Nat → Nat} (n : Nat) (h : ∀ i, i < n → zpl Z i = p → c' i = c i) : wsum Z p c' n = wsum Z p c n := by
  induction n with
  | zero => rfl
  | succ n ih =>
    have h1 := ih (fun i a => h i (by omega))
    unfold wsum
    rw [h1]
    by_cases hp : zpl Z n = p
    · rw [if_pos hp, if_pos hp, h n (by omega) hp]
    · rw [if_neg hp, if_neg hp]
theorem sm_split {Z : ZS} {p s S : Nat} {od fa : Nat → Nat} (n : Nat) : sm (fun i => if zpl Z i = p then zam Z i * ph s S (zlo Z i) (zhi Z i) + UU * od (2 * i + s) + KK * (zam Z i * fa (2 * i + s)) else 0) n = wsum Z p (fun i => ph s S (zlo Z i) (zhi Z i)) n + UU * sm (fun i => if zpl Z i = p then od (2 * i + s) else 0) n + KK * wsum Z p (fun i => fa (2 * i + s)) n := by
  induction n with
  | zero => unfold sm wsum; rw [Nat.mul_zero, Nat.mul_zero]
  | succ n ih =>
    unfold sm wsum
    rw [ih]
    by_cases hp : zpl Z n = p
    · rw [if_pos hp, if_pos hp, if_pos hp, if_pos hp, Nat.mul_add, Nat.mul_add]
      omega
    · rw [if_neg hp, if_neg hp, if_neg hp, if_neg hp, Nat.add_zero, Nat.add_zero, Nat.add_zero, Nat.add_zero]
theorem ob_split {Z : ZS} {p s : Nat} {od fa : Nat → Nat} : sm (ob Z od fa p s) 12 = wsum Z p (fun i => ph s (zpr Z p) (zlo Z i) (zhi Z i)) 12 + UU * sm (fun i => if zpl Z i = p then od (2 * i + s) else 0) 12 + KK * wsum Z p (fun i => fa (2 * i + s)) 12 := sm_split 12
def faR (Z : ZS) (p sd : Nat) (fa ri : Nat → Nat) (j : Nat) : Nat := if j % 2 = sd ∧ zpl Z (j / 2) = p then fa j + ri (j / 2) else fa j
theorem faR_t {Z : ZS} {p sd i : Nat} {fa ri : Nat → Nat} (hs : sd < 2) (hp : zpl Z i = p) : faR Z p sd fa ri (2 * i + sd) = fa (2 * i + sd) + ri i := by
  unfold faR
  rw [show (2 * i + sd) % 2 = sd by omega, show (2 * i + sd) / 2 = i by omega, if_pos ⟨rfl, hp⟩]
theorem faR_f {Z : ZS} {p sd i s : Nat} {fa ri : Nat → Nat} (hs : s < 2) (hp : ¬ (s = sd ∧ zpl Z i = p)) : faR Z p sd fa ri (2 * i + s) = fa (2 * i + s) := by
  unfold faR
  rw [show (2 * i + s) % 2 = s by omega, show (2 * i + s) / 2 = i by omega, if_neg hp]
theorem ob_carry {Z : ZS} {a p : Nat} {dn : Bool} {w : Y7} {od fa : Nat → Nat} {r s : Nat} : sm (ob (zCarry Z a p dn w) od fa r s) 12 = wsum Z r (fun i => ph s (updN (zpr Z) p w.1.1 r) (zlo Z i) (zhi Z i)) 12 + UU * sm (fun i => if zpl Z i = r then od (2 * i + s) else 0) 12 + KK * wsum Z r (fun i => fa (2 * i + s)) 12 := sm_split (Z := Z) 12
theorem sv_got {Z : ZS} {p : Nat} {dn ex : Bool} {r M : Nat} (hS : Solv Z) (hA : ∀ i, i < 12 → zam Z i ≤ 50000000) (hB : pBd (zpl Z) (zlo Z) (zhi Z)) (hO : ∀ i, i < 12 → 0 < zam Z i → zlo Z i < zhi Z i) (hf : zfee Z p ≤ 100) (hp : p < 2) (hM : rt 0 ≤ M) (hM2 : M ≤ rt 80) (hI : QI dn M (zpr Z p, ztk Z p, r, 0, 0)) : ∃ gt, (zWork Z p dn ex r M).1.2.2.2.2 = lN gt ∧ gt ≤ 100000000 := by
  obtain ⟨h, od, fa, hLed, hP⟩ := hS
  obtain ⟨hQ, pd, gt, ri, g1, g2, g3, g4, g5, g6, g7⟩ := work_books (ex := ex) hA hB hO hf hM hM2 hI
  have hs : 1 - sdN dn < 2 := by omega
  have e1 := hP.2.2 p hp (1 - sdN dn) hs
  rw [ob_split] at e1
  have e2 := led_le hLed hp hs
  exact ⟨gt, g2, Nat.le_trans (U_le (by omega)) e2⟩
theorem sv_carry {Z : ZS} {a p : Nat} {dn ex : Bool} {r M : Nat} (hS : Solv Z) (hA : ∀ i, i < 12 → zam Z i ≤ 50000000) (hB : pBd (zpl Z) (zlo Z) (zhi Z)) (hO : ∀ i, i < 12 → 0 < zam Z i → zlo Z i < zhi Z i) (hf : zfee Z p ≤ 100) (ha : a < 4) (hp : p < 2) (hM : rt 0 ≤ M) (hM2 : M ≤ rt 80) (hI : QI dn M (zpr Z p, ztk Z p, r, 0, 0)) (hb : ¬ zbal Z (a * 3 + (p + sdN dn)) < (zWork Z p dn ex r M).1.2.2.2.1) : Solv (zCarry Z a p dn (zWork Z p dn ex r M)) := by
  obtain ⟨h, od, fa, hLed, hP⟩ := hS
  obtain ⟨hQ, pd, gt, ri, g1, g2, g3, g4, g5, g6, g7⟩ := work_books (ex := ex) hA hB hO hf hM hM2 hI
  have hsd := sdN_lt dn
  have hs : 1 - sdN dn < 2 := by omega
  have e1 := hP.2.2 p hp (1 - sdN dn) hs
  rw [ob_split] at e1
  have e2 := hP.2.2 p hp (sdN dn) hsd
  rw [ob_split] at e2
  have hgt : gt ≤ h p (1 - sdN dn) := U_le (by omega)
  generalize zWork Z p dn ex r M = w at *
  rw [g1] at hb
  have l1 := led_in hLed ha hp hsd (show pd < 2 ^ 63 by omega) hb
  have hne : ¬ (p = p ∧ 1 - sdN dn = sdN dn) := by omega
  have l2 := led_out (a := a) (x := gt) l1 ha hp hs (by rw [updH_n hne]; exact hgt)
  refine ⟨updH (updH h p (sdN dn) (h p (sdN dn) + pd)) p (1 - sdN dn) (updH h p (sdN dn) (h p (sdN dn) + pd) p (1 - sdN dn) - gt), od, faR Z p (sdN dn) fa ri, ?_, hP.1, ?_, ?_⟩
  · show Led (pyB (zbal Z) a (p + sdN dn) (p + 1 - sdN dn) w.1.2.2.2.1 w.1.2.2.2.2) (zgiv Z) (pyH (zhol Z) (p + sdN dn) (p + 1 - sdN dn) w.1.2.2.2.1 w.1.2.2.2.2) _
    rw [g1, g2, show p + 1 - sdN dn = p + (1 - sdN dn) by omega]
    exact l2
  · intro i hi ha s hs
    show faC (bThP (zth Z) (zpl Z) p) (sdN dn) w.2.2 (zfa Z) 12 (2 * i + s) = _
    unfold faC
    rw [show (2 * i + s) % 2 = s by omega, show (2 * i + s) / 2 = i by omega]
    have hbt : bThP (zth Z) (zpl Z) p i = decide (zpl Z i = p) := by
      unfold bThP
      rw [show zth Z i = true from swB_t ha, Bool.true_and]
    rw [hbt]
    by_cases c : s = sdN dn ∧ zpl Z i = p
    · obtain ⟨c1, c2⟩ := c
      subst c1
      rw [if_pos ⟨rfl, hi, decide_eq_true c2⟩, faR_t hsd c2, hP.2.1 i hi ha _ hsd, g3 i hi c2 ha, lN_add]
    · rw [if_neg (fun x => c ⟨x.1, of_decide_eq_true x.2.2⟩), faR_f hs c]
      exact hP.2.1 i hi ha s hs
  · intro q hq s hs2
    rw [ob_carry]
    by_cases c : q = p
    · subst c
      rw [updN_s]
      by_cases c2 : s = sdN dn
      · subst c2
        rw [updH_n (by omega), updH_s, wsum_add (c := fun i => fa (2 * i + sdN dn)) (d := ri) 12 (fun i _ hpl => faR_t hsd hpl), Nat.mul_add, Nat.mul_add]
        omega
      · have c3 : s = 1 - sdN dn := by omega
        subst c3
        rw [updH_s, updH_n hne, wsum_c (c := fun i => fa (2 * i + (1 - sdN dn))) 12 (fun i _ hpl => faR_f hs (fun x => c2 x.1)), Nat.mul_sub]
        omega
    · rw [updN_n c, updH_n (fun x => c x.1), updH_n (fun x => c x.1), wsum_c (c := fun i => fa (2 * i + s)) 12 (fun i _ hpl => faR_f hs2 (fun x => c (hpl.symm.trans x.2))), ← ob_split]
      exact hP.2.2 q hq s hs2
/-- what holds between two calls -/
def IvZ (Z : ZS) : Prop := ZB Z ∧ Solv Z
theorem Iv_give {Z : ZS} {a t X : Nat} (h : IvZ Z) (ha : a < 4) (ht : t < 3) (hX : X < 2 ^ 31) (hg : zgiv Z t + lN X ≤ 100000000) : IvZ (zGive Z a t (lN X)) := by
  obtain ⟨hb, H, od, fa, hL, hP⟩ := h
  exact ⟨hb, H, od, fa, led_give hL ha ht hX hg, hP⟩
theorem Iv_coll {Z : ZS} {a p k : Nat} (h : IvZ Z) (ha : a < 4) (hp : p < 2) (hk : k < 12) (hQ : zpl Z k = p) : IvZ (zColl Z a p k) := ⟨h.1, sv_coll h.2 ha hp hk hQ⟩
theorem Iv_burn {Z : ZS} {p q L : Nat} {lo hi : Int} (h : IvZ Z) (hp : p < 2) (hq : q < 12) (h1 : -40 ≤ lo) (hlh : lo < hi) (h2 : hi ≤ 40) (hL : L ≤ zam Z q) (hQ : zpl Z q = p ∧ zlo Z q = lo ∧ zhi Z q = hi) : IvZ (zBurn Z p q L lo hi) := by
  obtain ⟨⟨b1, b2, b3, b4, b5⟩, hS⟩ := h
  refine ⟨⟨b1, fun i hi => ?_, b3, b4, fun i hi ha => ?_⟩, sv_burn hS b2 hp hq h1 hlh h2 hL (b4 p hp) hQ⟩
  · show updN (zam Z) q (zam Z q - L) i ≤ _
    by_cases e : i = q
    · subst e; rw [updN_s]; have := b2 i hi; omega
    · rw [updN_n e]; exact b2 i hi
  · have ha2 : 0 < updN (zam Z) q (zam Z q - L) i := ha
    by_cases e : i = q
    · subst e
      rw [updN_s] at ha2
      exact b5 i hi (by omega)
    · rw [updN_n e] at ha2
      exact b5 i hi ha2
theorem Iv_mint {Z : ZS} {a p q L : Nat} {lo hi : Int} (h : IvZ Z) (ha : a < 4) (hp : p < 2) (hq : q < 12) (h1 : -40 ≤ lo) (hlh : lo < hi) (h2 : hi ≤ 40) (hL : zam Z q + L ≤ 50000000) (hQ : (zpl Z q = p ∧ zlo Z q = lo ∧ zhi Z q = hi) ∨ (zam Z q = 0 ∧ zod Z (2 * q) = 0 ∧ zod Z (2 * q + 1) = 0)) (h4 : ¬ zbal Z (a * 3 + p) < lN (zWN true L (zpr Z p) (ztk Z p) lo hi)) (h5 : ¬ zbal Z (a * 3 + (p + 1)) < lN (zWF true L (zpr Z p) (ztk Z p) lo hi)) : IvZ (zMint Z a p q L (zWN true L (zpr Z p) (ztk Z p) lo hi) (zWF true L (zpr Z p) (ztk Z p) lo hi) lo hi) := by
  obtain ⟨⟨b1, b2, b3, b4, b5⟩, hS⟩ := h
  refine ⟨⟨fun i hi3 => ?_, fun i hi3 => ?_, b3, b4, fun i hi3 ha3 => ?_⟩, sv_mint hS b2 b1 ha hp hq h1 hlh h2 (by omega) (b4 p hp) hQ h4 h5⟩
  · show updN (zpl Z) q p i < 2 ∧ -40 ≤ updZ (zlo Z) q lo i ∧ updZ (zlo Z) q lo i ≤ 40 ∧ -40 ≤ updZ (zhi Z) q hi i ∧ updZ (zhi Z) q hi i ≤ 40
    by_cases e : i = q
    · subst e
      rw [updN_s, updZ_s, updZ_s]
      omega
    · rw [updN_n e, updZ_n e, updZ_n e]
      exact b1 i hi3
  · show updN (zam Z) q (zam Z q + L) i ≤ _
    by_cases e : i = q
    · subst e; rw [updN_s]; exact hL
    · rw [updN_n e]; exact b2 i hi3
  · show updZ (zlo Z) q lo i < updZ (zhi Z) q hi i
    have ha2 : 0 < updN (zam Z) q (zam Z q + L) i := ha3
    by_cases e : i = q
    · subst e
      rw [updZ_s, updZ_s]
      exact hlh
    · rw [updN_n e] at ha2
      rw [updZ_n e, updZ_n e]
      exact b5 i hi3 ha2
theorem Iv_carry {Z : ZS} {a p : Nat} {dn ex : Bool} {r M : Nat} (h : IvZ Z) (ha : a < 4) (hp : p < 2) (hM : rt 0 ≤ M) (hM2 : M ≤ rt 80) (hI : QI dn M (zpr Z p, ztk Z p, r, 0, 0)) (hb : ¬ zbal Z (a * 3 + (p + sdN dn)) < (zWork Z p dn ex r M).1.2.2.2.1) : IvZ (zCarry Z a p dn (zWork Z p dn ex r M)) := by
  obtain ⟨⟨b1, b2, b3, b4, b5⟩, hS⟩ := h
  have hQ := (work_books (ex := ex) b2 b1 b5 (b3 p hp) hM hM2 hI).1
  refine ⟨⟨b1, b2, b3, fun q hq => ?_, b5⟩, sv_carry hS b2 b1 b5 (b3 p hp) ha hp hM hM2 hI hb⟩
  show TkOk (updN (zpr Z) p (zWork Z p dn ex r M).1.1 q) (updZ (ztk Z) p (zWork Z p dn ex r M).1.2.1 q)
  by_cases e : q = p
  · subst e
    rw [updN_s, updZ_s]
    exact hQ.1
  · rw [updN_n e, updZ_n e]
    exact b4 q hq
theorem Iv_la {Z : ZS} {la : Int64} (h : IvZ Z) : IvZ (zLa Z la) := h
/-- what is paid for an amount to be taken in is not more than the amount -/
theorem paid_le {Z : ZS} {p : Nat} {dn : Bool} {r M : Nat} (h : IvZ Z) (hp : p < 2) (hM : rt 0 ≤ M) (hM2 : M ≤ rt 80) (hI : QI dn M (zpr Z p, ztk Z p, r, 0, 0)) : ∃ pd, (zWork Z p dn true r M).1.2.2.2.1 = lN pd ∧ pd ≤ r := by
  obtain ⟨⟨b1, b2, b3, b4, b5⟩, hS⟩ := h
  obtain ⟨hQ, pd, gt, ri, g1, g2, g3, g4, g5, g6, g7⟩ := work_books (ex := true) b2 b1 b5 (b3 p hp) hM hM2 hI
  have := g7 rfl
  exact ⟨pd, g1, by omega⟩
theorem Iv_route {Z : ZS} {a r g0 : Nat} (h : IvZ Z) (ha : a < 4) (hI0 : QI true (rt 0) (zpr Z 0, ztk Z 0, r, 0, 0)) (hI1 : QI true (rt 0) (zpr Z 1, ztk Z 1, g0, 0, 0)) (hb : ¬ zbal Z (a * 3) < (zWork Z 0 true true r (rt 0)).1.2.2.2.1) (hg : (zWork Z 0 true true r (rt 0)).1.2.2.2.2 = lN g0) (hg0 : g0 ≤ 100000000) : IvZ (zCarry (zCarry Z a 0 true (zWork Z 0 true true r (rt 0))) a 1 true (zWork Z 1 true true g0 (rt 0))) := by
  have hM2 : rt 0 ≤ rt 80 := rt_le (by decide) (Nat.le_refl 80)
  have h1 := Iv_carry (ex := true) (a := a) h ha (show 0 < 2 by decide) (Nat.le_refl _) hM2 hI0 hb
  obtain ⟨pd, p1, p2⟩ := paid_le h (show 1 < 2 by decide) (Nat.le_refl _) hM2 hI1
  have hw := zWork_c1 (Z := Z) (a := a) (w := zWork Z 0 true true r (rt 0)) (dn := true) (ex := true) (r := g0) (M := rt 0)
  have e0 := hw
  rw [← hw]
  refine Iv_carry (ex := true) (a := a) h1 ha (show 1 < 2 by decide) (Nat.le_refl _) hM2 hI1 ?_
  rw [hw, p1]
  show ¬ pyB (zbal Z) a (0 + sdN true) (0 + 1 - sdN true) (zWork Z 0 true true r (rt 0)).1.2.2.2.1 (zWork Z 0 true true r (rt 0)).1.2.2.2.2 (a * 3 + 1) < lN pd
  rw [hg]
  unfold pyB
  show ¬ vp_updL (vp_updL (zbal Z) (a * 3 + 0) _) (a * 3 + 1) (vp_updL (zbal Z) (a * 3 + 0) _ (a * 3 + 1) + lN g0) (a * 3 + 1) < lN pd
  rw [pk_usL, pk_unL (by omega)]
  obtain ⟨hb2, H, od, fa, ⟨bn, gn, l1, l2, l3, l4⟩, hP⟩ := h
  have e1 := l1 (a * 3 + 1) (by omega)
  have e2 := bsum_ge (bn := bn) (t := 1) ha (by decide)
  have e3 := l4 1 (by decide)
  have e4 := (l2 1 (by decide)).2
  rw [e1, lN_add]
  exact fun q => absurd ((pk_lLT (by omega) (by omega)).mp q) (by omega)

