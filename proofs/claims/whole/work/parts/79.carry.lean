-- WHAT A SWAP LEAVES IN THE CLASS
theorem sdN_lt (dn : Bool) : sdN dn < 2 := by cases dn <;> decide
theorem EPin_carry {Z : ZS} {p : Nat} {ins : Nat → Nat → Int64} {gr ne : Nat → Int32} {g ou : Nat → Int64} {dn ex : Bool} {r M : Nat} {xf : X7} (he : EPin Z p ins gr ne g ou) (hA : ∀ i, i < 12 → zam Z i ≤ 50000000) (hB : pBd (zpl Z) (zlo Z) (zhi Z)) (hO : ∀ i, i < 12 → 0 < zam Z i → zlo Z i < zhi Z i) (hM : rt 0 ≤ M) (hM2 : M ≤ rt 80) (hI : QI dn M (zpr Z p, ztk Z p, r, 0, 0)) (hxf : xf = cRun dn ex (zfee Z p) M (zset Z p) gr (zdep Z p) 100 ((zpr Z p, ztk Z p, r, 0, 0), g, ou)) : xf.1 = (zWork Z p dn ex r M).1 ∧ ∀ a, EPin (zCarry Z a p dn (zWork Z p dn ex r M)) p ins gr ne xf.2.1 xf.2.2 := by
  obtain ⟨r1, r2, r3⟩ := run_eq (ex := ex) (f := zfee Z p) (g0 := g) (c0 := fun i s => cIns (ztk Z p) g ou s (zlo Z i) (zhi Z i)) (DepOk_of hA hO he.2.1).2.1 hB hO hM hM2 100 ((zpr Z p, ztk Z p, r, 0, 0), g, ou) ((zpr Z p, ztk Z p, r, 0, 0), 0, fun _ => 0) rfl hI (fun s _ => by rw [ite_self, Int64.add_zero]) (fun i _ _ _ s _ => by rw [ite_self, Int64.add_zero])
  rw [← hxf] at r1 r2 r3
  have hw : mRun dn ex (zfee Z p) M (zset Z p) (mIn (zth Z) (zpl Z) (zlo Z) (zhi Z) p) (zdep Z p) 100 ((zpr Z p, ztk Z p, r, 0, 0), 0, fun _ => 0) = zWork Z p dn ex r M := rfl
  rw [hw] at r1 r2 r3
  generalize zWork Z p dn ex r M = w at *
  refine ⟨r1, fun a => ⟨fun s hs => ?_, he.2.1, fun i hi hp ha s hs => ?_⟩⟩
  · rw [r2 s hs, he.1 s hs]
    show _ = vp_updL (zgw Z) (2 * p + sdN dn) (zgw Z (2 * p + sdN dn) + w.2.1) (2 * p + s)
    by_cases e : s = sdN dn
    · rw [if_pos e, e, pk_usL]
    · rw [if_neg e, pk_unL (by omega), Int64.add_zero]
  · have h0 := r3 i hi hp ha s hs
    show cIns (updZ (ztk Z) p w.1.2.1 p) xf.2.1 xf.2.2 s (zlo Z i) (zhi Z i) - ins i s = faC (bThP (zth Z) (zpl Z) p) (sdN dn) w.2.2 (zfa Z) 12 (2 * i + s)
    rw [updZ_s, ← r1, h0, i64_c, he.2.2 i hi hp ha s hs]
    unfold faC
    rw [show (2 * i + s) % 2 = s by omega, show (2 * i + s) / 2 = i by omega]
    have hb : bThP (zth Z) (zpl Z) p i = true := by
      unfold bThP
      rw [show zth Z i = true from swB_t ha, Bool.true_and]
      exact decide_eq_true hp
    by_cases e : s = sdN dn
    · rw [if_pos e, if_pos ⟨e, hi, hb⟩]
    · rw [if_neg e, if_neg (fun q => e q.1), Int64.add_zero]
theorem EPin_carry' {Z : ZS} {p r a : Nat} {dn : Bool} {w : Y7} {ins : Nat → Nat → Int64} {gr ne : Nat → Int32} {g ou : Nat → Int64} (hr : r ≠ p) (he : EPin Z r ins gr ne g ou) : EPin (zCarry Z a p dn w) r ins gr ne g ou := by
  have hs2 := sdN_lt dn
  refine ⟨fun s hs => ?_, he.2.1, fun i hi hp ha s hs => ?_⟩
  · show _ = vp_updL (zgw Z) (2 * p + sdN dn) (zgw Z (2 * p + sdN dn) + w.2.1) (2 * r + s)
    rw [pk_unL (by omega)]
    exact he.1 s hs
  · have hp' : zpl Z i = r := hp
    show cIns (updZ (ztk Z) p w.1.2.1 r) g ou s (zlo Z i) (zhi Z i) - ins i s = faC (bThP (zth Z) (zpl Z) p) (sdN dn) w.2.2 (zfa Z) 12 (2 * i + s)
    rw [updZ_n hr, he.2.2 i hi hp ha s hs]
    unfold faC
    rw [show (2 * i + s) / 2 = i by omega, if_neg (fun q => ?_)]
    have q3 := q.2.2
    unfold bThP at q3
    rw [hp', decide_eq_false hr, Bool.and_false] at q3
    cases q3

