-- THE CLASS'S WORLD THAT HOLDS A STATE
def cN (c : Bool) (p : Nat) : Nat := 13 + 9 * p + (if c = true then 3 else 0)
theorem cN_b (c : Bool) (p : Nat) : (cN c p = 13 + 9 * p ∧ cN (!c) p = 16 + 9 * p) ∨ (cN c p = 16 + 9 * p ∧ cN (!c) p = 13 + 9 * p) := by
  cases c
  · exact Or.inl ⟨rfl, by show 13 + 9 * p + 3 = _; omega⟩
  · exact Or.inr ⟨by show 13 + 9 * p + 3 = _; omega, rfl⟩
def zdep (Z : ZS) (p : Nat) (tz : Int) : Nat := mDep (zth Z) (zpl Z) (zlo Z) (zhi Z) (zam Z) p tz
def zset (Z : ZS) (p i : Nat) : Bool := mSet (zth Z) (zpl Z) (zlo Z) (zhi Z) (zam Z) p i
def loB (Z : ZS) (p : Nat) (z : Int) (k : Nat) : Bool := decide (zpl Z k = p ∧ zlo Z k = z)
def hiB (Z : ZS) (p : Nat) (z : Int) (k : Nat) : Bool := decide (zpl Z k = p ∧ zhi Z k = z)
def loN (Z : ZS) (p i : Nat) : Nat := dsum (loB Z p ((i : Int) - 40)) (zam Z) 12
def hiN (Z : ZS) (p i : Nat) : Nat := dsum (hiB Z p ((i : Int) - 40)) (zam Z) 12
def GrOk (Z : ZS) (p : Nat) (gr ne : Nat → Int32) : Prop := ∀ i, i ≤ 80 → gr i = nI (loN Z p i + hiN Z p i) ∧ ne i = nI (loN Z p i) - nI (hiN Z p i)
def InOk (Z : ZS) (p : Nat) (ins : Nat → Nat → Int64) (g ou : Nat → Int64) : Prop := ∀ i, i < 12 → zpl Z i = p → 0 < zam Z i → ∀ s, s < 2 → cIns (ztk Z p) g ou s (zlo Z i) (zhi Z i) - ins i s = zfa Z (2 * i + s)
def EPin (Z : ZS) (p : Nat) (ins : Nat → Nat → Int64) (gr ne : Nat → Int32) (g ou : Nat → Int64) : Prop := (∀ s, s < 2 → g s = zgw Z (2 * p + s)) ∧ GrOk Z p gr ne ∧ InOk Z p ins g ou
def EP (s : Nat → va_E) (o : Nat) (Z : ZS) (ins : Nat → Nat → Int64) (p : Nat) : Prop := ∃ (c : Bool) (gr ne : Nat → Int32) (g ou : Nat → Int64) (pr2 : Int64) (tz2 : Int) (lq2 : Int32) (g2 oo2 : Nat → Int64), isP s o (10 + 9 * p) 4 (zfee Z p) (cN c p) (cN (!c) p) gr ne ∧ isC s o (cN c p) (lN (zpr Z p)) (ztk Z p) (nI (zdep Z p (ztk Z p))) g ou ∧ isC s o (cN (!c) p) pr2 tz2 lq2 g2 oo2 ∧ EPin Z p ins gr ne g ou
def ETr (s : Nat → va_E) (o k : Nat) : Prop := ∃ w1 w2 w3 w4 w5 w6 w7 w8 : Value, s k = eO 6 [.ref (ad o 4), w1, w2, w3, w4, w5, w6, w7, w8]
def EQ (s : Nat → va_E) (o : Nat) : Prop := ∃ f : Nat → Option Nat, s 6 = eQ 3 2 f ∧ ∀ p, p < 2 → f p = some (ad o (10 + 9 * p))
def ES (s : Nat → va_E) (o : Nat) (Z : ZS) (ins owd : Nat → Nat → Int64) : Prop := isPs s o (fun i => nI (zow Z i)) (fun i => nI (zpl Z i)) (fun i => iI (zlo Z i)) (fun i => iI (zhi Z i)) (fun i => nI (zam Z i)) ins owd ∧ ∀ i, i < 12 → owd i 0 = zod Z (2 * i) ∧ owd i 1 = zod Z (2 * i + 1)
def ER (s : Nat → va_E) (o : Nat) (Z : ZS) : Prop := isR s o 4 ∧ EQ s o ∧ ETr s o 8 ∧ ETr s o 9 ∧ ∃ ins owd, ES s o Z ins owd ∧ EP s o Z ins 0 ∧ EP s o Z ins 1
def EW (s : Nat → va_E) (o : Nat) (Z : ZS) : Prop := isE s o (zla Z) ∧ s 1 = eJ 12 (zbal Z) ∧ s 2 = eJ 3 (zgiv Z) ∧ s 3 = eJ 3 (zhol Z) ∧ ER s o Z
def ZB (Z : ZS) : Prop := pBd (zpl Z) (zlo Z) (zhi Z) ∧ (∀ i, i < 12 → zam Z i ≤ 50000000) ∧ (∀ p, p < 2 → zfee Z p ≤ 100) ∧ (∀ p, p < 2 → TkOk (zpr Z p) (ztk Z p)) ∧ ∀ i, i < 12 → 0 < zam Z i → zlo Z i < zhi Z i
theorem isC_m {s s' : Nat → va_E} {o c : Nat} {pr : Int64} {tz : Int} {lq : Int32} {g ou : Nat → Int64} (h : isC s o c pr tz lq g ou) (e : ∀ j, c ≤ j → j ≤ c + 2 → s' j = s j) : isC s' o c pr tz lq g ou := ⟨(e _ (by omega) (by omega)).trans h.1, (e _ (by omega) (by omega)).trans h.2.1, (e _ (by omega) (by omega)).trans h.2.2⟩
theorem isS_m {s s' : Nat → va_E} {o q : Nat} {ow pl lo hi am : Int32} {ins owd : Nat → Int64} (h : isS s o q ow pl lo hi am ins owd) (e : ∀ j, q ≤ j → j ≤ q + 2 → s' j = s j) : isS s' o q ow pl lo hi am ins owd := ⟨(e _ (by omega) (by omega)).trans h.1, (e _ (by omega) (by omega)).trans h.2.1, (e _ (by omega) (by omega)).trans h.2.2⟩
theorem EP_mv {s s' : Nat → va_E} {o p : Nat} {Z : ZS} {ins : Nat → Nat → Int64} (h : EP s o Z ins p) (e : ∀ j, 10 + 9 * p ≤ j → j ≤ 18 + 9 * p → s' j = s j) : EP s' o Z ins p := by
  obtain ⟨c, gr, ne, g, ou, pr2, tz2, lq2, g2, oo2, h1, h2, h3, h4⟩ := h
  have hb := cN_b c p
  exact ⟨c, gr, ne, g, ou, pr2, tz2, lq2, g2, oo2, isP_mv h1 (fun j q1 q2 => e j (by omega) (by omega)), isC_m h2 (fun j q1 q2 => e j (by omega) (by omega)), isC_m h3 (fun j q1 q2 => e j (by omega) (by omega)), h4⟩
theorem isPs_mv {s s' : Nat → va_E} {o : Nat} {ow pl lo hi am : Nat → Int32} {ins owd : Nat → Nat → Int64} (h : isPs s o ow pl lo hi am ins owd) (e7 : s' 7 = s 7) (e : ∀ j, 28 ≤ j → j ≤ 63 → s' j = s j) : isPs s' o ow pl lo hi am ins owd := by
  obtain ⟨f, h1, h2, h3⟩ := h
  exact ⟨f, e7.trans h1, h2, fun i hi => isS_m (h3 i hi) (fun j q1 q2 => e j (by omega) (by omega))⟩
theorem ER_mv {s s' : Nat → va_E} {o : Nat} {Z : ZS} (h : ER s o Z) (e : ∀ j, 4 ≤ j → j ≤ 63 → s' j = s j) : ER s' o Z := by
  obtain ⟨h1, ⟨f, h2, h3⟩, ⟨w1, w2, w3, w4, w5, w6, w7, w8, h4⟩, ⟨v1, v2, v3, v4, v5, v6, v7, v8, h5⟩, ins, owd, h6, h7, h8⟩ := h
  exact ⟨isR_mv h1 (fun j q1 q2 => e j (by omega) (by omega)), ⟨f, (e _ (by omega) (by omega)).trans h2, h3⟩, ⟨w1, w2, w3, w4, w5, w6, w7, w8, (e _ (by omega) (by omega)).trans h4⟩, ⟨v1, v2, v3, v4, v5, v6, v7, v8, (e _ (by omega) (by omega)).trans h5⟩, ins, owd, ⟨isPs_mv h6.1 (e _ (by omega) (by omega)) (fun j q1 q2 => e j (by omega) (by omega)), h6.2⟩, EP_mv h7 (fun j q1 q2 => e j (by omega) (by omega)), EP_mv h8 (fun j q1 q2 => e j (by omega) (by omega))⟩
theorem EP_at {s : Nat → va_E} {o p : Nat} {Z : ZS} (h : ER s o Z) (hp : p < 2) : ∃ ins, EP s o Z ins p := by
  obtain ⟨-, -, -, -, ins, owd, -, h7, h8⟩ := h
  rcases (show p = 0 ∨ p = 1 by omega) with q | q
  · subst q; exact ⟨ins, h7⟩
  · subst q; exact ⟨ins, h8⟩
def efr (sg s : Nat → va_E) : Prop := ∀ j, 64 ≤ j → s j = sg j
theorem fnd_congr {b b' : Nat → Bool} (h : ∀ i, i < 12 → b i = b' i) (k : Nat) : fnd b k = fnd b' k := by
  induction k with
  | zero => rfl
  | succ k ih =>
    unfold fnd
    rw [h (11 - k) (by omega), ih]
theorem pNone_th {Z : ZS} {owd : Nat → Nat → Int64} {i : Nat} (hA : zam Z i ≤ 50000000) (h : owd i 0 = zod Z (2 * i) ∧ owd i 1 = zod Z (2 * i + 1)) : pNone (fun i => nI (zam Z i)) owd i = !zth Z i := by
  unfold pNone zth swB
  rw [h.1, h.2]
  by_cases h0 : zam Z i = 0
  · by_cases h1 : zod Z (2 * i) = 0
    · by_cases h2 : zod Z (2 * i + 1) = 0
      · rw [decide_eq_true ⟨by show nI (zam Z i) = 0; rw [h0]; rfl, h1, h2⟩, decide_eq_false (fun q => q.elim (fun q => by omega) (fun q => q.elim (fun q => q h1) (fun q => q h2)))]; rfl
      · rw [decide_eq_false (fun q => h2 q.2.2), decide_eq_true (Or.inr (Or.inr h2))]; rfl
    · rw [decide_eq_false (fun q => h1 q.2.1), decide_eq_true (Or.inr (Or.inl h1))]; rfl
  · rw [decide_eq_false (fun q => nI_ne0 (by omega) (by omega) q.1), decide_eq_true (Or.inl (by omega))]; rfl
theorem find_eq {Z : ZS} {owd : Nat → Nat → Int64} (hA : ∀ i, i < 12 → zam Z i ≤ 50000000) (h : ∀ i, i < 12 → owd i 0 = zod Z (2 * i) ∧ owd i 1 = zod Z (2 * i + 1)) (a b c d : Int32) : fnd (fun i => !pNone (fun i => nI (zam Z i)) owd i && pIs (fun i => nI (zow Z i)) (fun i => nI (zpl Z i)) (fun i => iI (zlo Z i)) (fun i => iI (zhi Z i)) a b c d i) 12 = zFind Z a b c d := fnd_congr (fun i hi => by
  show (!pNone (fun i => nI (zam Z i)) owd i && _) = _
  rw [pNone_th (hA i hi) (h i hi), Bool.not_not]
  rfl) 12
theorem free_eq {Z : ZS} {owd : Nat → Nat → Int64} (hA : ∀ i, i < 12 → zam Z i ≤ 50000000) (h : ∀ i, i < 12 → owd i 0 = zod Z (2 * i) ∧ owd i 1 = zod Z (2 * i + 1)) : fnd (pNone (fun i => nI (zam Z i)) owd) 12 = fnd (fun i => !zth Z i) 12 := fnd_congr (fun i hi => pNone_th (hA i hi) (h i hi)) 12

