-- A PLACE'S AMOUNT CHANGES: WHAT THE POOL KEEPS
theorem dsum_q {b b' : Nat → Bool} {am am' : Nat → Nat} {q n : Nat} (hq : q < n) (h : ∀ k, k < n → k ≠ q → b k = b' k ∧ am k = am' k) : dsum b' am' n + (if b q = true then am q else 0) = dsum b am n + (if b' q = true then am' q else 0) := by
  induction n with
  | zero => omega
  | succ n ih =>
    unfold dsum
    by_cases e : q = n
    · subst e
      have e1 : dsum b am q = dsum b' am' q := dsum_congr q (fun k hk => by rw [(h k (by omega) (by omega)).1, (h k (by omega) (by omega)).2])
      rw [e1]
      omega
    · have h1 := ih (by omega) (fun k a c => h k (by omega) c)
      have h2 := h n (by omega) (by omega)
      rw [h2.1, h2.2]
      omega
theorem nI_shift {X X' x x' : Nat} {d : Int32} (h : X' + x = X + x') (hd : nI x + d = nI x') : nI X' = nI X + d := by
  have h1 : nI X' + nI x = nI X + d + nI x := by
    rw [nI_add, h, ← nI_add, ← hd, Int32.add_assoc, Int32.add_comm (nI x) d]
  exact (Int32.add_left_inj (nI x)).mp h1
theorem dsum_d {b b' : Nat → Bool} {am am' : Nat → Nat} {q : Nat} {d : Int32} (hq : q < 12) (h : ∀ k, k < 12 → k ≠ q → b k = b' k ∧ am k = am' k) (hb : b q = b' q ∨ am q = 0) (hd : nI (am q) + d = nI (am' q)) : nI (dsum b' am' 12) = nI (dsum b am 12) + (if b' q = true then d else 0) := by
  have h1 := dsum_q (n := 12) hq h
  have h3 : (if b q = true then am q else 0) = if b' q = true then am q else 0 := by
    rcases hb with e | e
    · rw [e]
    · rw [e]
      split <;> split <;> rfl
  rw [h3] at h1
  cases hb' : b' q
  · rw [hb'] at h1
    simp only [if_neg (show ¬ false = true by decide), Nat.add_zero] at h1 ⊢
    rw [h1, Int32.add_zero]
  · rw [hb'] at h1
    simp only [if_true] at h1 ⊢
    exact nI_shift h1 hd
def PlUp (Z Z' : ZS) (p q : Nat) (lo hi : Int) : Prop := Z'.2.1 = Z.2.1 ∧ (zpl Z' q = p ∧ zlo Z' q = lo ∧ zhi Z' q = hi) ∧ ((zpl Z q = p ∧ zlo Z q = lo ∧ zhi Z q = hi) ∨ zam Z q = 0) ∧ (∀ i, i ≠ q → zpl Z' i = zpl Z i ∧ zlo Z' i = zlo Z i ∧ zhi Z' i = zhi Z i ∧ zam Z' i = zam Z i ∧ ∀ s, s < 2 → zfa Z' (2 * i + s) = zfa Z (2 * i + s)) ∧ ∀ s, s < 2 → zfa Z' (2 * q + s) = 0
theorem loN_up {Z Z' : ZS} {p q i r : Nat} {lo hi : Int} {d : Int32} (h : PlUp Z Z' p q lo hi) (hq : q < 12) (hd : nI (zam Z q) + d = nI (zam Z' q)) : nI (loN Z' r i) = nI (loN Z r i) + (if p = r ∧ lo = (i : Int) - 40 then d else 0) := by
  obtain ⟨h0, ⟨h1, h2, h3⟩, h4, h5, h6⟩ := h
  have e := dsum_d (b := loB Z r ((i : Int) - 40)) (b' := loB Z' r ((i : Int) - 40)) (am := zam Z) (am' := zam Z') hq (fun k _ hk => ⟨by unfold loB; rw [(h5 k hk).1, (h5 k hk).2.1], (h5 k hk).2.2.2.1.symm⟩) (h4.elim (fun g => Or.inl (by unfold loB; rw [h1, h2, g.1, g.2.1])) Or.inr) hd
  unfold loN
  rw [e]
  congr 1
  unfold loB
  rw [h1, h2]
  by_cases c : p = r ∧ lo = (i : Int) - 40
  · rw [if_pos c, decide_eq_true c, if_pos rfl]
  · rw [if_neg c, decide_eq_false c, if_neg (by decide)]
theorem hiN_up {Z Z' : ZS} {p q i r : Nat} {lo hi : Int} {d : Int32} (h : PlUp Z Z' p q lo hi) (hq : q < 12) (hd : nI (zam Z q) + d = nI (zam Z' q)) : nI (hiN Z' r i) = nI (hiN Z r i) + (if p = r ∧ hi = (i : Int) - 40 then d else 0) := by
  obtain ⟨h0, ⟨h1, h2, h3⟩, h4, h5, h6⟩ := h
  have e := dsum_d (b := hiB Z r ((i : Int) - 40)) (b' := hiB Z' r ((i : Int) - 40)) (am := zam Z) (am' := zam Z') hq (fun k _ hk => ⟨by unfold hiB; rw [(h5 k hk).1, (h5 k hk).2.2.1], (h5 k hk).2.2.2.1.symm⟩) (h4.elim (fun g => Or.inl (by unfold hiB; rw [h1, h3, g.1, g.2.2])) Or.inr) hd
  unfold hiN
  rw [e]
  congr 1
  unfold hiB
  rw [h1, h3]
  by_cases c : p = r ∧ hi = (i : Int) - 40
  · rw [if_pos c, decide_eq_true c, if_pos rfl]
  · rw [if_neg c, decide_eq_false c, if_neg (by decide)]
theorem zdep_up {Z Z' : ZS} {p q r : Nat} {lo hi tz : Int} {d : Int32} (h : PlUp Z Z' p q lo hi) (hq : q < 12) (hd : nI (zam Z q) + d = nI (zam Z' q)) : nI (zdep Z' r tz) = nI (zdep Z r tz) + (if p = r ∧ lo ≤ tz ∧ tz < hi then d else 0) := by
  obtain ⟨h0, ⟨h1, h2, h3⟩, h4, h5, h6⟩ := h
  have e := dsum_d (b := inB Z r tz) (b' := inB Z' r tz) (am := zam Z) (am' := zam Z') hq (fun k _ hk => ⟨by unfold inB; rw [(h5 k hk).1, (h5 k hk).2.1, (h5 k hk).2.2.1], (h5 k hk).2.2.2.1.symm⟩) (h4.elim (fun g => Or.inl (by unfold inB; rw [h1, h2, h3, g.1, g.2.1, g.2.2])) Or.inr) hd
  rw [zdep_eq, zdep_eq, e]
  congr 1
  unfold inB
  rw [h1, h2, h3]
  by_cases c : p = r ∧ lo ≤ tz ∧ tz < hi
  · rw [if_pos c, decide_eq_true c, if_pos rfl]
  · rw [if_neg c, decide_eq_false c, if_neg (by decide)]
/-- what a pool keeps of a place that isn't its own -/
theorem EPin_other {Z Z' : ZS} {p q r : Nat} {lo hi : Int} {d : Int32} {ins ins' : Nat → Nat → Int64} {gr ne : Nat → Int32} {g ou : Nat → Int64} (h : PlUp Z Z' p q lo hi) (hq : q < 12) (hd : nI (zam Z q) + d = nI (zam Z' q)) (hpr : p ≠ r) (hi' : ∀ i, i ≠ q → ins' i = ins i) (he : EPin Z r ins gr ne g ou) : EPin Z' r ins' gr ne g ou := by
  have f3 : ztk Z' = ztk Z := congrArg (fun x => x.2.2.1) h.1
  have f4 : zgw Z' = zgw Z := congrArg (fun x => x.2.2.2) h.1
  refine ⟨fun s hs => by rw [f4]; exact he.1 s hs, fun i hi => ?_, fun i hi2 q1 q2 s hs => ?_⟩
  · have e1 := loN_up (i := i) (r := r) h hq hd
    have e2 := hiN_up (i := i) (r := r) h hq hd
    rw [if_neg (fun c => hpr c.1), Int32.add_zero] at e1 e2
    rw [← nI_add, e1, e2, nI_add]
    exact he.2.1 i hi
  · obtain ⟨h0, ⟨h1, h2, h3⟩, h4, h5, h6⟩ := h
    by_cases e : i = q
    · subst e; exact absurd (h1.symm.trans q1) hpr
    · obtain ⟨z1, z2, z3, z4, z5⟩ := h5 i e
      rw [z1] at q1
      rw [z4] at q2
      rw [f3, z2, z3, z5 s hs, hi' i e]
      exact he.2.2 i hi2 q1 q2 s hs
theorem EP_other {s : Nat → va_E} {o : Nat} {Z Z' : ZS} {p q r : Nat} {lo hi : Int} {d : Int32} {ins ins' : Nat → Nat → Int64} (h : PlUp Z Z' p q lo hi) (hq : q < 12) (hd : nI (zam Z q) + d = nI (zam Z' q)) (hpr : p ≠ r) (hi' : ∀ i, i ≠ q → ins' i = ins i) (he : EP s o Z ins r) : EP s o Z' ins' r := by
  obtain ⟨c, gr, ne, g, ou, pr2, tz2, lq2, g2, oo2, e1, e2, e3, e4⟩ := he
  have f1 : zfee Z' = zfee Z := congrArg (fun x => x.1) h.1
  have f2 : zpr Z' = zpr Z := congrArg (fun x => x.2.1) h.1
  have f3 : ztk Z' = ztk Z := congrArg (fun x => x.2.2.1) h.1
  have f5 := zdep_up (r := r) (tz := ztk Z r) h hq hd
  rw [if_neg (fun c => hpr c.1), Int32.add_zero] at f5
  exact ⟨c, gr, ne, g, ou, pr2, tz2, lq2, g2, oo2, by rw [f1]; exact e1, by rw [f2, f3, f5]; exact e2, e3, EPin_other h hq hd hpr hi' e4⟩
theorem sl_ne {s t : Nat} {z w : Int} (hs : s < 2) (ht : t < 2) (h1 : -40 ≤ z) (h2 : z ≤ 40) (h3 : -40 ≤ w) (h4 : w ≤ 40) (h : z ≠ w) : sl s z ≠ sl t w := by
  unfold sl
  omega
theorem ou2_n {ou : Nat → Int64} {z w : Int} {a b : Int64} {s : Nat} (hs : s < 2) (h1 : -40 ≤ z) (h2 : z ≤ 40) (h3 : -40 ≤ w) (h4 : w ≤ 40) (h : w ≠ z) : ou2 ou z a b (sl s w) = ou (sl s w) := by
  unfold ou2
  rw [pk_unL (sl_ne hs (by decide) h3 h4 h1 h2 h), pk_unL (sl_ne hs (by decide) h3 h4 h1 h2 h)]
theorem oSet_n {gr : Nat → Int32} {tz : Int} {g ou : Nat → Int64} {z w : Int} {s : Nat} (hs : s < 2) (h1 : -40 ≤ z) (h2 : z ≤ 40) (h3 : -40 ≤ w) (h4 : w ≤ 40) (h : w ≠ z ∨ ¬ gr (tx w) = 0) : oSet gr tz g ou z (sl s w) = ou (sl s w) := by
  unfold oSet
  by_cases e : w = z
  · subst e
    rw [if_neg (h.elim (fun q => absurd rfl q) id)]
  · split
    · exact ou2_n hs h1 h2 h3 h4 e
    · rfl
theorem oClr_n {gr : Nat → Int32} {ou : Nat → Int64} {z w : Int} {s : Nat} (hs : s < 2) (h1 : -40 ≤ z) (h2 : z ≤ 40) (h3 : -40 ≤ w) (h4 : w ≤ 40) (h : w ≠ z ∨ ¬ gr (tx w) = 0) : oClr gr ou z (sl s w) = ou (sl s w) := by
  unfold oClr
  by_cases e : w = z
  · subst e
    rw [if_neg (h.elim (fun q => absurd rfl q) id)]
  · split
    · exact ou2_n hs h1 h2 h3 h4 e
    · rfl
theorem cIns_eq {tz : Int} {g ou ou' : Nat → Int64} {s : Nat} {lo hi : Int} (h1 : ou' (sl s lo) = ou (sl s lo)) (h2 : ou' (sl s hi) = ou (sl s hi)) : cIns tz g ou' s lo hi = cIns tz g ou s lo hi := by
  unfold cIns cBel cAbv
  rw [h1, h2]
theorem tx_ne {z w : Int} (h1 : -40 ≤ z) (h3 : -40 ≤ w) (h : z ≠ w) : tx z ≠ tx w := by unfold tx; omega
theorem dsum_pos {b : Nat → Bool} {am : Nat → Nat} {n k : Nat} (hk : k < n) (hb : b k = true) : am k ≤ dsum b am n := by
  induction n with
  | zero => omega
  | succ n ih =>
    unfold dsum
    by_cases e : k = n
    · subst e; rw [if_pos hb]; omega
    · have := ih (by omega); omega
theorem loN_le {Z : ZS} {p i : Nat} (hA : ∀ i, i < 12 → zam Z i ≤ 50000000) : loN Z p i ≤ 600000000 := dsum_le 12 hA
theorem hiN_le {Z : ZS} {p i : Nat} (hA : ∀ i, i < 12 → zam Z i ≤ 50000000) : hiN Z p i ≤ 600000000 := dsum_le 12 hA
theorem tx_sub {z : Int} (h : -40 ≤ z) : ((tx z : Nat) : Int) - 40 = z := by unfold tx; omega
/-- a tick at which a place with an amount begins or ends is set -/
theorem gr_ne0 {Z : ZS} {p k : Nat} {gr ne : Nat → Int32} {z : Int} (hG : GrOk Z p gr ne) (hA : ∀ i, i < 12 → zam Z i ≤ 50000000) (hk : k < 12) (hp : zpl Z k = p) (h0 : 0 < zam Z k) (h1 : -40 ≤ z) (h2 : z ≤ 40) (hz : zlo Z k = z ∨ zhi Z k = z) : ¬ gr (tx z) = 0 := by
  have h := (hG (tx z) (tx_le h2)).1
  have b1 := loN_le (p := p) (i := tx z) hA
  have b2 := hiN_le (p := p) (i := tx z) hA
  have h3 : 0 < loN Z p (tx z) + hiN Z p (tx z) := by
    rcases hz with e | e
    · have := dsum_pos (b := loB Z p (((tx z : Nat) : Int) - 40)) (am := zam Z) hk (decide_eq_true ⟨hp, by rw [tx_sub h1]; exact e⟩)
      unfold loN
      omega
    · have := dsum_pos (b := hiB Z p (((tx z : Nat) : Int) - 40)) (am := zam Z) hk (decide_eq_true ⟨hp, by rw [tx_sub h1]; exact e⟩)
      unfold hiN
      omega
  rw [h]
  exact nI_ne0 h3 (by omega)

