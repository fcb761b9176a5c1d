-- THE CLASS'S AND THE REFERENCE'S BOOKS OF A SWAP
theorem anyb_t {b : Nat → Bool} {n : Nat} : anyb b n = true ↔ ∃ k, k < n ∧ b k = true := by
  induction n with
  | zero => exact ⟨fun h => (by cases h), fun ⟨k, h, _⟩ => by omega⟩
  | succ n ih =>
    unfold anyb
    rw [Bool.or_eq_true, ih]
    constructor
    · rintro (⟨k, h1, h2⟩ | h)
      · exact ⟨k, by omega, h2⟩
      · exact ⟨n, by omega, h⟩
    · rintro ⟨k, h1, h2⟩
      by_cases e : k = n
      · subst e; exact Or.inr h2
      · exact Or.inl ⟨k, by omega, h2⟩
theorem dsum_0 {b : Nat → Bool} {am : Nat → Nat} {n : Nat} (h : ∀ k, k < n → b k = true → am k = 0) : dsum b am n = 0 := by
  induction n with
  | zero => rfl
  | succ n ih =>
    unfold dsum
    rw [ih (fun k a c => h k (by omega) c)]
    by_cases e : b n = true
    · rw [if_pos e, h n (by omega) e]
    · rw [if_neg e]
theorem dsum_4 {b1 b2 b3 b4 : Nat → Bool} {am : Nat → Nat} {n : Nat} (h : ∀ k, k < n → (if b1 k = true then am k else 0) + (if b2 k = true then am k else 0) = (if b3 k = true then am k else 0) + (if b4 k = true then am k else 0)) : dsum b1 am n + dsum b2 am n = dsum b3 am n + dsum b4 am n := by
  induction n with
  | zero => rfl
  | succ n ih =>
    have h1 := ih (fun k a => h k (by omega))
    have h2 := h n (by omega)
    unfold dsum
    omega
theorem zset_iff {Z : ZS} {p i : Nat} : zset Z p i = true ↔ ∃ k, k < 12 ∧ zpl Z k = p ∧ 0 < zam Z k ∧ (zlo Z k = (i : Int) - 40 ∨ zhi Z k = (i : Int) - 40) := by
  unfold zset mSet
  rw [anyb_t]
  constructor
  · rintro ⟨k, h1, h2⟩
    obtain ⟨-, h4⟩ := Bool.and_eq_true_iff.mp (show (zth Z k && _) = true from h2)
    exact ⟨k, h1, of_decide_eq_true h4⟩
  · rintro ⟨k, h1, h2⟩
    refine ⟨k, h1, ?_⟩
    show (zth Z k && _) = true
    rw [show zth Z k = true from swB_t h2.2.1, Bool.true_and]
    exact decide_eq_true h2
theorem DepOk_of {Z : ZS} {p : Nat} {gr ne : Nat → Int32} (hA : ∀ i, i < 12 → zam Z i ≤ 50000000) (hO : ∀ i, i < 12 → 0 < zam Z i → zlo Z i < zhi Z i) (hG : GrOk Z p gr ne) : DepOk (zset Z p) gr ne (zdep Z p) := by
  have hs : ∀ i, zset Z p i = true ↔ ¬ (loN Z p i + hiN Z p i = 0) := by
    intro i
    rw [zset_iff]
    constructor
    · rintro ⟨k, h1, h2, h3, h4⟩
      rcases h4 with e | e
      · have := dsum_pos (b := loB Z p ((i : Int) - 40)) (am := zam Z) h1 (decide_eq_true ⟨h2, e⟩)
        unfold loN
        omega
      · have := dsum_pos (b := hiB Z p ((i : Int) - 40)) (am := zam Z) h1 (decide_eq_true ⟨h2, e⟩)
        unfold hiN
        omega
    · intro h
      refine Classical.byContradiction (fun q => h ?_)
      have h1 : loN Z p i = 0 := dsum_0 (fun k a b => by
        obtain ⟨c1, c2⟩ := of_decide_eq_true b
        rcases Nat.eq_zero_or_pos (zam Z k) with e | e
        · exact e
        · exact absurd ⟨k, a, c1, e, Or.inl c2⟩ q)
      have h2 : hiN Z p i = 0 := dsum_0 (fun k a b => by
        obtain ⟨c1, c2⟩ := of_decide_eq_true b
        rcases Nat.eq_zero_or_pos (zam Z k) with e | e
        · exact e
        · exact absurd ⟨k, a, c1, e, Or.inr c2⟩ q)
      omega
  refine ⟨fun tz => mDep_le hA, fun i hi => ?_, fun i hi => ?_, fun i hi h => ?_⟩
  · rw [hs i, (hG i hi).1]
    have b1 := loN_le (p := p) (i := i) hA
    have b2 := hiN_le (p := p) (i := i) hA
    constructor
    · intro h
      exact nI_ne0 (by omega) (by omega)
    · intro h e
      rw [e] at h
      exact h rfl
  · have h4 : zdep Z p ((i : Int) - 41) + loN Z p i = zdep Z p ((i : Int) - 40) + hiN Z p i := by
      rw [zdep_eq, zdep_eq]
      refine dsum_4 (fun k hk => ?_)
      rcases Nat.eq_zero_or_pos (zam Z k) with e | e
      · rw [e]; simp
      · have := hO k hk e
        unfold inB loB hiB
        by_cases hp : zpl Z k = p
        · simp only [hp, true_and, decide_eq_true_eq]
          by_cases c1 : zlo Z k = (i : Int) - 40
          · rw [if_neg (by omega), if_pos c1, if_pos (by omega), if_neg (by omega)]; omega
          · by_cases c2 : zhi Z k = (i : Int) - 40
            · rw [if_pos (by omega), if_neg c1, if_neg (by omega), if_pos c2]; omega
            · rw [if_neg c1, if_neg c2]
              by_cases c3 : zlo Z k ≤ (i : Int) - 40 ∧ (i : Int) - 40 < zhi Z k
              · rw [if_pos (by omega), if_pos c3]
              · rw [if_neg (by omega), if_neg c3]
        · simp only [hp, false_and, decide_false, if_neg (show ¬ false = true by decide)]
    rw [(hG i hi).2, Int32.sub_eq_add_neg, ← Int32.add_assoc, nI_add, h4, ← nI_add, Int32.add_assoc, Int32.add_right_neg, Int32.add_zero]
  · have h0 : loN Z p i + hiN Z p i = 0 := Classical.byContradiction (fun q => by rw [(hs i).mpr q] at h; cases h)
    rw [(hG i hi).2, show loN Z p i = 0 by omega, show hiN Z p i = 0 by omega]
    rfl
/-- on which side of a set tick the tick is, behind a step -/
theorem sd_next {dn : Bool} {st : Nat → Bool} {S M nx T P : Nat} {tz z : Int} (h : TkOk S tz) (hM : rt 0 ≤ M) (hM2 : M ≤ rt 80) (hMS : if dn = true then M < S else S < M) (hnx : nx = zNx dn st tz) (hTe : T = zTg dn nx M) (hrg : if dn = true then T ≤ P ∧ P ≤ S else S ≤ P ∧ P ≤ T) (h1 : -40 ≤ z) (h2 : z ≤ 40) (hs : st (tx z) = true) : ((P = rt nx ∧ z = (nx : Int) - 40) → ((zTk dn P S ((nx : Int) - 40) tz < z ∧ z ≤ tz) ∨ (z ≤ zTk dn P S ((nx : Int) - 40) tz ∧ tz < z))) ∧ (¬ (P = rt nx ∧ z = (nx : Int) - 40) → (z ≤ zTk dn P S ((nx : Int) - 40) tz ↔ z ≤ tz)) := by
  obtain ⟨n1, n2, n3, n4⟩ := nx_ok (st := st) h hM hM2 hMS
  obtain ⟨t1, t2, t3⟩ := tk_next h hM hM2 hMS hnx hTe hrg
  have k1 := h.1
  have k2 := h.2.1
  rw [← hnx] at n3 n4
  have hz : ((tx z : Nat) : Int) = z + 40 := by unfold tx; omega
  cases dn
  · simp only [if_neg (show ¬ false = true by decide)] at n4 t3
    rw [zNx_f] at hnx
    obtain ⟨u1, u2⟩ := nUp_st st (39 - tz).toNat (by omega)
    rw [← hnx] at u1 u2
    have hu : ¬ (tz + 41 ≤ ((tx z : Nat) : Int) ∧ tx z < nx) := fun q => by
      have := u2 (tx z) (by omega) q.2
      rw [hs] at this
      cases this
    constructor
    · rintro ⟨g1, g2⟩
      have e : zTk false P S ((nx : Int) - 40) tz = (nx : Int) - 40 := (zTk_hit g1).trans (if_neg (by decide))
      rw [e]
      omega
    · intro g
      by_cases hH : P = rt nx
      · have hne : ¬ z = (nx : Int) - 40 := fun q => g ⟨hH, q⟩
        omega
      · have := t3.2.2 hH
        omega
  · simp only [if_true] at n4 t3
    rw [zNx_t] at hnx
    obtain ⟨u1, u2⟩ := nDn_st st (tx tz)
    rw [← hnx] at u1 u2
    have k3 := n1 rfl
    have hw : ((tx tz : Nat) : Int) = tz + 40 := by unfold tx; omega
    have hu : ¬ (nx < tx z ∧ tx z ≤ tx tz) := fun q => by
      have := u2 (tx z) q.1 q.2
      rw [hs] at this
      cases this
    constructor
    · rintro ⟨g1, g2⟩
      have e : zTk true P S ((nx : Int) - 40) tz = (nx : Int) - 41 := (zTk_hit g1).trans (if_pos rfl)
      rw [e]
      omega
    · intro g
      by_cases hH : P = rt nx
      · have hne : ¬ z = (nx : Int) - 40 := fun q => g ⟨hH, q⟩
        have e : zTk true P S ((nx : Int) - 40) tz = (nx : Int) - 41 := (zTk_hit hH).trans (if_pos rfl)
        omega
      · have := t3.2.2 hH
        omega
theorem sub_sub' (a b : Int64) : a - (a - b) = b := by
  simp only [Int64.sub_eq_add_neg, Int64.neg_add, Int64.neg_neg]
  rw [← Int64.add_assoc, Int64.add_right_neg, Int64.zero_add]
theorem oTurn_at {g ou : Nat → Int64} {z : Int} {s : Nat} (hs : s < 2) : oTurn g ou z (sl s z) = g s - ou (sl s z) := by
  unfold oTurn ou2
  rcases (show s = 0 ∨ s = 1 by omega) with e | e
  · subst e
    rw [pk_unL (by unfold sl; omega), pk_usL]
  · subst e
    exact pk_usL
theorem zOu_z {gr : Nat → Int32} {P nx : Nat} {g ou : Nat → Int64} {z : Int} {s : Nat} (hs : s < 2) (hn : nx ≤ 80) (h1 : -40 ≤ z) (h2 : z ≤ 40) (hg : ¬ gr (tx z) = 0) : zOu gr P ((nx : Int) - 40) g ou (sl s z) = if P = rt nx ∧ z = (nx : Int) - 40 then g s - ou (sl s z) else ou (sl s z) := by
  unfold zOu
  rw [tx_nx]
  by_cases e : z = (nx : Int) - 40
  · subst e
    rw [tx_nx] at hg
    by_cases hP : P = rt nx
    · rw [if_pos ⟨hP, hg⟩, if_pos ⟨hP, rfl⟩, oTurn_at hs]
    · rw [if_neg (fun q => hP q.1), if_neg (fun q => hP q.1)]
  · rw [if_neg (c := P = rt nx ∧ z = (nx : Int) - 40) (fun q => e q.2)]
    split
    · exact ou2_n hs (by omega) (by omega) h1 h2 e
    · rfl
theorem cIns_next {dn : Bool} {st : Nat → Bool} {gr : Nat → Int32} {g ou : Nat → Int64} {S M nx T P s : Nat} {tz lo hi : Int} (h : TkOk S tz) (hM : rt 0 ≤ M) (hM2 : M ≤ rt 80) (hMS : if dn = true then M < S else S < M) (hnx : nx = zNx dn st tz) (hTe : T = zTg dn nx M) (hrg : if dn = true then T ≤ P ∧ P ≤ S else S ≤ P ∧ P ≤ T) (hst : ∀ i, i ≤ 80 → (st i = true ↔ ¬ gr i = 0)) (hs : s < 2) (l1 : -40 ≤ lo) (l2 : lo ≤ 40) (l3 : -40 ≤ hi) (l4 : hi ≤ 40) (s1 : st (tx lo) = true) (s2 : st (tx hi) = true) : cIns (zTk dn P S ((nx : Int) - 40) tz) g (zOu gr P ((nx : Int) - 40) g ou) s lo hi = cIns tz g ou s lo hi := by
  have hn80 : nx ≤ 80 := by rw [hnx]; exact zNx_le h.2.1
  have a1 := sd_next h hM hM2 hMS hnx hTe hrg l1 l2 s1
  have a2 := sd_next h hM hM2 hMS hnx hTe hrg l3 l4 s2
  have o1 := zOu_z (P := P) (g := g) (ou := ou) hs hn80 l1 l2 ((hst _ (tx_le l2)).mp s1)
  have o2 := zOu_z (P := P) (g := g) (ou := ou) hs hn80 l3 l4 ((hst _ (tx_le l4)).mp s2)
  generalize zTk dn P S ((nx : Int) - 40) tz = tz' at *
  unfold cIns
  congr 1
  · congr 1
    unfold cBel
    rw [o1]
    by_cases c : P = rt nx ∧ lo = (nx : Int) - 40
    · rw [if_pos c]
      rcases a1.1 c with q | q
      · rw [if_pos q.1, if_neg (by omega), sub_sub']
      · rw [if_neg (by omega), if_pos q.2]
    · rw [if_neg c]
      have := a1.2 c
      by_cases d : tz < lo
      · rw [if_pos d, if_pos (by omega)]
      · rw [if_neg d, if_neg (by omega)]
  · unfold cAbv
    rw [o2]
    by_cases c : P = rt nx ∧ hi = (nx : Int) - 40
    · rw [if_pos c]
      rcases a2.1 c with q | q
      · rw [if_neg (by omega), if_pos q.2]
      · rw [if_pos q.1, if_neg (by omega), sub_sub']
    · rw [if_neg c]
      have := a2.2 c
      by_cases d : hi ≤ tz
      · rw [if_pos d, if_pos (by omega)]
      · rw [if_neg d, if_neg (by omega)]
theorem i64_c (a b x : Int64) : a + x - b = a - b + x := by
  rw [Int64.sub_eq_add_neg, Int64.sub_eq_add_neg, Int64.add_assoc, Int64.add_comm x, ← Int64.add_assoc]
theorem cIns_g {tz lo hi : Int} {g g' ou : Nat → Int64} {s : Nat} {x : Int64} (hlh : lo < hi) (hg : g' s = g s + x) : cIns tz g' ou s lo hi = cIns tz g ou s lo hi + (if lo ≤ tz ∧ tz < hi then x else 0) := by
  unfold cIns cBel cAbv
  rw [hg]
  by_cases c1 : tz < lo
  · rw [if_pos c1, if_pos c1, if_neg (show ¬ hi ≤ tz by omega), if_neg (show ¬ hi ≤ tz by omega), if_neg (by omega), Int64.add_zero, sub_sub', sub_sub']
  · rw [if_neg c1, if_neg c1]
    by_cases c2 : hi ≤ tz
    · rw [if_pos c2, if_pos c2, if_neg (by omega), Int64.add_zero]
      generalize g s = G
      generalize ou (sl s lo) = A
      generalize ou (sl s hi) = B
      have e : ∀ Y : Int64, Y - A - (Y - B) = B - A := fun Y => by
        simp only [Int64.sub_eq_add_neg, Int64.neg_add, Int64.neg_neg]
        rw [Int64.add_comm (-Y) B, ← Int64.add_assoc, Int64.add_assoc Y (-A) B, Int64.add_comm (-A) B, Int64.add_comm Y, Int64.add_assoc (B + -A), Int64.add_right_neg, Int64.add_zero]
      rw [e, e]
    · rw [if_neg c2, if_neg c2, if_pos (by omega), i64_c, i64_c]
theorem gUp_at {dn : Bool} {L F s : Nat} {g : Nat → Int64} : gUp dn L g F s = g s + (if s = sdN dn then lN (F * 4294967296 / L) else 0) := by
  unfold gUp sdN
  by_cases hL : L = 0
  · rw [if_pos hL, hL, Nat.div_zero]
    rw [lN_0, ite_self, Int64.add_zero]
  · rw [if_neg hL]
    by_cases e : s = if dn = true then 0 else 1
    · rw [if_pos e, e, pk_usL]
    · rw [if_neg e, pk_unL e, Int64.add_zero]
/-- class and reference, run alike -/
theorem run_eq {Z : ZS} {p : Nat} {dn ex : Bool} {f M : Nat} {gr : Nat → Int32} {g0 : Nat → Int64} {c0 : Nat → Nat → Int64} (hst : ∀ i, i ≤ 80 → (zset Z p i = true ↔ ¬ gr i = 0)) (hB : pBd (zpl Z) (zlo Z) (zhi Z)) (hO : ∀ i, i < 12 → 0 < zam Z i → zlo Z i < zhi Z i) (hM : rt 0 ≤ M) (hM2 : M ≤ rt 80) (n : Nat) : ∀ (x : X7) (y : Y7), x.1 = y.1 → QI dn M x.1 → (∀ s, s < 2 → x.2.1 s = g0 s + (if s = sdN dn then y.2.1 else 0)) → (∀ i, i < 12 → zpl Z i = p → 0 < zam Z i → ∀ s, s < 2 → cIns x.1.2.1 x.2.1 x.2.2 s (zlo Z i) (zhi Z i) = c0 i s + (if s = sdN dn then y.2.2 i else 0)) → (cRun dn ex f M (zset Z p) gr (zdep Z p) n x).1 = (mRun dn ex f M (zset Z p) (mIn (zth Z) (zpl Z) (zlo Z) (zhi Z) p) (zdep Z p) n y).1 ∧ (∀ s, s < 2 → (cRun dn ex f M (zset Z p) gr (zdep Z p) n x).2.1 s = g0 s + (if s = sdN dn then (mRun dn ex f M (zset Z p) (mIn (zth Z) (zpl Z) (zlo Z) (zhi Z) p) (zdep Z p) n y).2.1 else 0)) ∧ (∀ i, i < 12 → zpl Z i = p → 0 < zam Z i → ∀ s, s < 2 → cIns (cRun dn ex f M (zset Z p) gr (zdep Z p) n x).1.2.1 (cRun dn ex f M (zset Z p) gr (zdep Z p) n x).2.1 (cRun dn ex f M (zset Z p) gr (zdep Z p) n x).2.2 s (zlo Z i) (zhi Z i) = c0 i s + (if s = sdN dn then (mRun dn ex f M (zset Z p) (mIn (zth Z) (zpl Z) (zlo Z) (zhi Z) p) (zdep Z p) n y).2.2 i else 0)) := by
  induction n with
  | zero => intro x y h1 _ h3 h4; exact ⟨h1, h3, h4⟩
  | succ n ih =>
    intro x y h1 hI h3 h4
    by_cases hd : zDn M x.1
    · rw [cRun_done hd, mRun_done (show zDn M y.1 from h1 ▸ hd)]
      exact ⟨h1, h3, h4⟩
    · rw [cRun_go hd, mRun_go (show ¬ zDn M y.1 from h1 ▸ hd)]
      obtain ⟨hlt, hT0, hdd, hrg⟩ := zQ_facts (ex := ex) (f := f) (st := zset Z p) (dep := zdep Z p) hM hM2 hI hd
      refine ih _ _ ?_ (zQ_ok hM hM2 hI hd).1 ?_ ?_
      · show zQ dn ex f M (zset Z p) (zdep Z p) x.1 = zQ dn ex f M (zset Z p) (zdep Z p) y.1
        rw [h1]
      · intro s hs
        show gUp dn (zdep Z p x.1.2.1) x.2.1 (zFq dn ex f M (zset Z p) (zdep Z p) x.1) s = g0 s + (if s = sdN dn then y.2.1 + lN (zFq dn ex f M (zset Z p) (zdep Z p) y.1 * 4294967296 / zdep Z p y.1.2.1) else 0)
        rw [gUp_at, h3 s hs, h1]
        by_cases e : s = sdN dn
        · rw [if_pos e, if_pos e, if_pos e, Int64.add_assoc]
        · rw [if_neg e, if_neg e, if_neg e, Int64.add_zero]
      · intro i hi hp ha s hs
        obtain ⟨b1, b2, b3, b4, b5⟩ := hB i hi
        have hlh := hO i hi ha
        have s1 : zset Z p (tx (zlo Z i)) = true := zset_iff.mpr ⟨i, hi, hp, ha, Or.inl (tx_sub b2).symm⟩
        have s2 : zset Z p (tx (zhi Z i)) = true := zset_iff.mpr ⟨i, hi, hp, ha, Or.inr (tx_sub b4).symm⟩
        show cIns (zTk dn (zPq dn ex f M (zset Z p) (zdep Z p) x.1) x.1.1 ((zNx dn (zset Z p) x.1.2.1 : Int) - 40) x.1.2.1) (gUp dn (zdep Z p x.1.2.1) x.2.1 (zFq dn ex f M (zset Z p) (zdep Z p) x.1)) (zOu gr (zPq dn ex f M (zset Z p) (zdep Z p) x.1) ((zNx dn (zset Z p) x.1.2.1 : Int) - 40) (gUp dn (zdep Z p x.1.2.1) x.2.1 (zFq dn ex f M (zset Z p) (zdep Z p) x.1)) x.2.2) s (zlo Z i) (zhi Z i) = c0 i s + (if s = sdN dn then riU (mIn (zth Z) (zpl Z) (zlo Z) (zhi Z) p y.1.2.1) (lN (zFq dn ex f M (zset Z p) (zdep Z p) y.1 * 4294967296 / zdep Z p y.1.2.1)) y.2.2 12 i else 0)
        rw [cIns_next hI.1 hM hM2 hlt rfl rfl hrg hst hs b2 b3 b4 b5 s1 s2, cIns_g (g := x.2.1) hlh gUp_at, h4 i hi hp ha s hs, ← h1]
        generalize lN (zFq dn ex f M (zset Z p) (zdep Z p) x.1 * 4294967296 / zdep Z p x.1.2.1) = X
        have hmi : mIn (zth Z) (zpl Z) (zlo Z) (zhi Z) p x.1.2.1 i = decide (zlo Z i ≤ x.1.2.1 ∧ x.1.2.1 < zhi Z i) := by
          unfold mIn
          rw [show zth Z i = true from swB_t ha, Bool.true_and]
          simp only [hp, true_and]
        unfold riU
        rw [hmi]
        by_cases c : zlo Z i ≤ x.1.2.1 ∧ x.1.2.1 < zhi Z i
        · rw [if_pos c, decide_eq_true c, if_pos (c := i < 12 ∧ true = true) ⟨hi, rfl⟩]
          by_cases e : s = sdN dn
          · rw [if_pos e, if_pos e, if_pos e, Int64.add_assoc]
          · rw [if_neg e, if_neg e, if_neg e, Int64.add_zero]
        · rw [if_neg c, decide_eq_false c, if_neg (c := i < 12 ∧ false = true) (fun q => by cases q.2), Int64.add_zero]

