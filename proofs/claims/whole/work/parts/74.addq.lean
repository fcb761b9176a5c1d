-- A PLACE'S AMOUNT CHANGES: THE POOL'S OWN BOOKS
theorem aGr1_at {gr : Nat → Int32} {lo : Int} {d : Int32} {i : Nat} : aGr1 gr lo d i = gr i + (if i = tx lo then d else 0) := by
  unfold aGr1
  by_cases e : i = tx lo
  · rw [if_pos e, e, pk_us]
  · rw [if_neg e, pk_un e, Int32.add_zero]
theorem aGr_at {gr : Nat → Int32} {lo hi : Int} {d : Int32} {i : Nat} : aGr gr lo hi d i = gr i + (if i = tx lo then d else 0) + (if i = tx hi then d else 0) := by
  unfold aGr
  by_cases e : i = tx hi
  · rw [if_pos e, e, pk_us, aGr1_at]
  · rw [if_neg e, pk_un e, Int32.add_zero, aGr1_at]
theorem aNe_at {ne : Nat → Int32} {lo hi : Int} {d : Int32} {i : Nat} : aNe ne lo hi d i = ne i + (if i = tx lo then d else 0) - (if i = tx hi then d else 0) := by
  unfold aNe
  by_cases e : i = tx hi
  · rw [if_pos e, e, pk_us, aGr1_at]
  · rw [if_neg e, pk_un e, Int32.sub_zero, aGr1_at]
theorem at_tx {i : Nat} {z : Int} {p : Nat} (h : -40 ≤ z) : (p = p ∧ z = (i : Int) - 40) ↔ i = tx z := by
  unfold tx
  constructor
  · intro q; omega
  · intro q; exact ⟨rfl, by omega⟩
theorem if_tx {i : Nat} {z : Int} {p : Nat} {d : Int32} (h : -40 ≤ z) : (if p = p ∧ z = (i : Int) - 40 then d else 0) = if i = tx z then d else 0 := by
  by_cases e : i = tx z
  · rw [if_pos e, if_pos ((at_tx h).mpr e)]
  · rw [if_neg e, if_neg (fun q => e ((at_tx h).mp q))]
theorem nClr_or {gr ne : Nat → Int32} {z : Int} {i : Nat} : nClr gr ne z i = ne i ∨ (gr i = 0 ∧ nClr gr ne z i = 0) := by
  unfold nClr
  by_cases h : gr (tx z) = 0
  · rw [if_pos h]
    by_cases e : i = tx z
    · right
      subst e
      exact ⟨h, pk_us⟩
    · left
      exact pk_un e
  · rw [if_neg h]
    exact Or.inl rfl
theorem i4 (a b c d : Int32) : a + b + c + d = a + c + (b + d) := by
  rw [Int32.add_assoc a b c, Int32.add_comm b c, ← Int32.add_assoc a c b, Int32.add_assoc (a + c) b d]
theorem i4s (a b c d : Int32) : a - b + c - d = a + c - (b + d) := by
  simp only [Int32.sub_eq_add_neg, Int32.neg_add]
  exact i4 a (-b) c (-d)
theorem GrOk_add {Z Z' : ZS} {p q : Nat} {lo hi : Int} {d : Int32} {gr ne : Nat → Int32} (h : PlUp Z Z' p q lo hi) (hq : q < 12) (hd : nI (zam Z q) + d = nI (zam Z' q)) (hA : ∀ i, i < 12 → zam Z' i ≤ 50000000) (h1 : -40 ≤ lo) (hlh : lo < hi) (hG : GrOk Z p gr ne) : GrOk Z' p (aGr gr lo hi d) (aNeZ gr ne lo hi d) := by
  have key : ∀ i, i ≤ 80 → aGr gr lo hi d i = nI (loN Z' p i + hiN Z' p i) ∧ aNe ne lo hi d i = nI (loN Z' p i) - nI (hiN Z' p i) := by
    intro i hi2
    have e1 := loN_up (i := i) (r := p) h hq hd
    have e2 := hiN_up (i := i) (r := p) h hq hd
    obtain ⟨g1, g2⟩ := hG i hi2
    rw [if_tx h1] at e1
    rw [if_tx (show -40 ≤ hi by omega)] at e2
    rw [aGr_at, aNe_at, g1, g2, ← nI_add, ← nI_add, e1, e2]
    exact ⟨i4 _ _ _ _, i4s _ _ _ _⟩
  intro i hi2
  obtain ⟨k1, k2⟩ := key i hi2
  refine ⟨k1, ?_⟩
  have b1 := loN_le (p := p) (i := i) hA
  have b2 := hiN_le (p := p) (i := i) hA
  have hz : aGr gr lo hi d i = 0 → nI (loN Z' p i) - nI (hiN Z' p i) = 0 := fun e => by
    rw [k1] at e
    have h3 : loN Z' p i + hiN Z' p i = 0 := (nI_eq (b := 0) (by omega) (by decide)).mp e
    rw [show loN Z' p i = 0 by omega, show hiN Z' p i = 0 by omega]
    rfl
  unfold aNeZ
  rcases nClr_or (gr := aGr gr lo hi d) (ne := nClr (aGr gr lo hi d) (aNe ne lo hi d) lo) (z := hi) (i := i) with e | ⟨e, e2⟩
  · rw [e]
    rcases nClr_or (gr := aGr gr lo hi d) (ne := aNe ne lo hi d) (z := lo) (i := i) with e | ⟨e, e2⟩
    · rw [e, k2]
    · rw [e2, hz e]
  · rw [e2, hz e]
theorem aOu_n {gr : Nat → Int32} {tz : Int} {g ou : Nat → Int64} {lo hi w : Int} {d : Int32} {s : Nat} (hs : s < 2) (h1 : -40 ≤ lo) (hlh : lo < hi) (h2 : hi ≤ 40) (h3 : -40 ≤ w) (h4 : w ≤ 40) (hw : ¬ gr (tx w) = 0) : aOu gr tz g ou lo hi d (sl s w) = ou (sl s w) := by
  unfold aOu
  rw [oSet_n hs (by omega) h2 h3 h4, oSet_n hs h1 (by omega) h3 h4 (Or.inr hw)]
  by_cases e : w = hi
  · right
    rw [aGr1_at, e, if_neg (tx_ne (by omega) h1 (by omega)), Int32.add_zero, ← e]
    exact hw
  · exact Or.inl e
theorem aOuZ_n {gr : Nat → Int32} {tz : Int} {g ou : Nat → Int64} {lo hi w : Int} {d : Int32} {s : Nat} (hs : s < 2) (h1 : -40 ≤ lo) (hlh : lo < hi) (h2 : hi ≤ 40) (h3 : -40 ≤ w) (h4 : w ≤ 40) (hw : ¬ aGr gr lo hi d (tx w) = 0) : aOuZ gr tz g ou lo hi d (sl s w) = aOu gr tz g ou lo hi d (sl s w) := by
  unfold aOuZ
  rw [oClr_n hs (by omega) h2 h3 h4 (Or.inr hw), oClr_n hs h1 (by omega) h3 h4 (Or.inr hw)]
theorem InOk_add {Z Z' : ZS} {p q : Nat} {lo hi : Int} {d : Int32} {gr ne : Nat → Int32} {g ou : Nat → Int64} {ins ins' : Nat → Nat → Int64} (h : PlUp Z Z' p q lo hi) (hq : q < 12) (hd : nI (zam Z q) + d = nI (zam Z' q)) (hA : ∀ i, i < 12 → zam Z i ≤ 50000000) (hA' : ∀ i, i < 12 → zam Z' i ≤ 50000000) (hB : pBd (zpl Z) (zlo Z) (zhi Z)) (h1 : -40 ≤ lo) (hlh : lo < hi) (h2 : hi ≤ 40) (hG : GrOk Z p gr ne) (hI : InOk Z p ins g ou) (hi1 : ∀ s, s < 2 → ins' q s = cIns (ztk Z p) g (aOu gr (ztk Z p) g ou lo hi d) s lo hi) (hi2 : ∀ i, i ≠ q → ins' i = ins i) : InOk Z' p ins' g (aOuZ gr (ztk Z p) g ou lo hi d) := by
  have hG' := GrOk_add h hq hd hA' h1 hlh hG
  have f3 : ztk Z' = ztk Z := congrArg (fun x => x.2.2.1) h.1
  obtain ⟨h0, ⟨z1, z2, z3⟩, h4, h5, h6⟩ := h
  intro i hi3 hp hpos s hs
  rw [f3]
  by_cases e : i = q
  · subst e
    rw [z2, z3, hi1 s hs, h6 s hs]
    rw [cIns_eq (ou := aOu gr (ztk Z p) g ou lo hi d) (aOuZ_n hs h1 hlh h2 h1 (by omega) (gr_ne0 hG' hA' hi3 hp hpos h1 (by omega) (Or.inl z2))) (aOuZ_n hs h1 hlh h2 (by omega) h2 (gr_ne0 hG' hA' hi3 hp hpos (by omega) h2 (Or.inr z3)))]
    exact Int64.sub_self _
  · obtain ⟨y1, y2, y3, y4, y5⟩ := h5 i e
    obtain ⟨b1, b2, b3, b4, b5⟩ := hB i hi3
    rw [y2, y3, y5 s hs, hi2 i e]
    have hp0 : zpl Z i = p := y1.symm.trans hp
    have hpos0 : 0 < zam Z i := by rw [← y4]; exact hpos
    rw [cIns_eq (ou := ou) ((aOuZ_n hs h1 hlh h2 b2 b3 (gr_ne0 hG' hA' hi3 hp hpos b2 b3 (Or.inl y2))).trans (aOu_n hs h1 hlh h2 b2 b3 (gr_ne0 hG hA hi3 hp0 hpos0 b2 b3 (Or.inl rfl)))) ((aOuZ_n hs h1 hlh h2 b4 b5 (gr_ne0 hG' hA' hi3 hp hpos b4 b5 (Or.inr y3))).trans (aOu_n hs h1 hlh h2 b4 b5 (gr_ne0 hG hA hi3 hp0 hpos0 b4 b5 (Or.inr rfl))))]
    exact hI i hi3 hp0 hpos0 s hs
theorem owed_add {Z : ZS} {p q : Nat} {lo hi : Int} {d : Int32} {gr ne : Nat → Int32} {g ou : Nat → Int64} {ins : Nat → Nat → Int64} {s : Nat} (hPQ : (zpl Z q = p ∧ zlo Z q = lo ∧ zhi Z q = hi) ∨ zam Z q = 0) (hq : q < 12) (hA : ∀ i, i < 12 → zam Z i ≤ 50000000) (h1 : -40 ≤ lo) (hlh : lo < hi) (h2 : hi ≤ 40) (hG : GrOk Z p gr ne) (hI : InOk Z p ins g ou) (hs : s < 2) : shr (cIns (ztk Z p) g (aOu gr (ztk Z p) g ou lo hi d) s lo hi - ins q s) (nI (zam Z q)).toInt64 = shr (zfa Z (2 * q + s)) (lN (zam Z q)) := by
  have hAq := hA q hq
  rw [nI_l (by omega)]
  by_cases h0 : zam Z q = 0
  · rw [h0]
    exact (shr_0 _).trans (shr_0 _).symm
  · obtain ⟨z1, z2, z3⟩ := hPQ.elim id (fun e => absurd e h0)
    rw [cIns_eq (ou := ou) (aOu_n hs h1 hlh h2 h1 (by omega) (gr_ne0 hG hA hq z1 (by omega) h1 (by omega) (Or.inl z2))) (aOu_n hs h1 hlh h2 (by omega) h2 (gr_ne0 hG hA hq z1 (by omega) (by omega) h2 (Or.inr z3)))]
    have e := hI q hq z1 (by omega) s hs
    rw [z2, z3] at e
    rw [e]
theorem aLq_dep {Z Z' : ZS} {p q : Nat} {lo hi : Int} {d : Int32} (h : PlUp Z Z' p q lo hi) (hq : q < 12) (hd : nI (zam Z q) + d = nI (zam Z' q)) : aLq (ztk Z p) lo hi (nI (zdep Z p (ztk Z p))) d = nI (zdep Z' p (ztk Z' p)) := by
  have f3 : ztk Z' = ztk Z := congrArg (fun x => x.2.2.1) h.1
  rw [f3, zdep_up (r := p) (tz := ztk Z p) h hq hd]
  unfold aLq
  by_cases c : lo ≤ ztk Z p ∧ ztk Z p < hi
  · rw [if_pos c, if_pos ⟨rfl, c⟩]
  · rw [if_neg c, if_neg (fun q => c q.2), Int32.add_zero]
/-- the pool whose place it is, behind the change -/
theorem EP_add {s : Nat → va_E} {o : Nat} {Z Z' : ZS} {p q : Nat} {lo hi : Int} {d : Int32} {c : Bool} {gr ne : Nat → Int32} {g ou : Nat → Int64} {pr2 : Int64} {tz2 : Int} {lq2 : Int32} {g2 oo2 : Nat → Int64} {ins ins' : Nat → Nat → Int64} (h : PlUp Z Z' p q lo hi) (hq : q < 12) (hd : nI (zam Z q) + d = nI (zam Z' q)) (hA : ∀ i, i < 12 → zam Z i ≤ 50000000) (hA' : ∀ i, i < 12 → zam Z' i ≤ 50000000) (hB : pBd (zpl Z) (zlo Z) (zhi Z)) (h1 : -40 ≤ lo) (hlh : lo < hi) (h2 : hi ≤ 40) (he : EPin Z p ins gr ne g ou) (hi1 : ∀ s, s < 2 → ins' q s = cIns (ztk Z p) g (aOu gr (ztk Z p) g ou lo hi d) s lo hi) (hi2 : ∀ i, i ≠ q → ins' i = ins i) (hP : isP s o (10 + 9 * p) 4 (zfee Z p) (cN c p) (cN (!c) p) (aGr gr lo hi d) (aNeZ gr ne lo hi d)) (hC : isC s o (cN c p) (lN (zpr Z p)) (ztk Z p) (aLq (ztk Z p) lo hi (nI (zdep Z p (ztk Z p))) d) g (aOuZ gr (ztk Z p) g ou lo hi d)) (hD : isC s o (cN (!c) p) pr2 tz2 lq2 g2 oo2) : EP s o Z' ins' p := by
  have f1 : zfee Z' = zfee Z := congrArg (fun x => x.1) h.1
  have f2 : zpr Z' = zpr Z := congrArg (fun x => x.2.1) h.1
  have f3 : ztk Z' = ztk Z := congrArg (fun x => x.2.2.1) h.1
  have f4 : zgw Z' = zgw Z := congrArg (fun x => x.2.2.2) h.1
  rw [aLq_dep h hq hd] at hC
  refine ⟨c, _, _, g, _, pr2, tz2, lq2, g2, oo2, by rw [f1]; exact hP, by rw [f2]; rw [f3] at hC ⊢; exact hC, hD, ?_, GrOk_add h hq hd hA' h1 hlh he.2.1, InOk_add h hq hd hA hA' hB h1 hlh h2 he.2.1 he.2.2 hi1 hi2⟩
  intro s hs
  rw [f4]
  exact he.1 s hs

