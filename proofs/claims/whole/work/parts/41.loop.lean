-- STEPS ONE BEHIND ANOTHER
theorem nDn_st (st : Nat → Bool) (i : Nat) : (nDn st i = 0 ∨ st (nDn st i) = true) ∧ ∀ j, nDn st i < j → j ≤ i → st j = false := by
  induction i with
  | zero => exact ⟨Or.inl rfl, fun j h1 h2 => by unfold nDn at h1; omega⟩
  | succ i ih =>
    unfold nDn
    by_cases h : st (i + 1) = true
    · rw [if_pos h]
      exact ⟨Or.inr h, fun j h1 h2 => by omega⟩
    · rw [if_neg h]
      refine ⟨ih.1, fun j h1 h2 => ?_⟩
      rcases Nat.lt_or_ge i j with h3 | h3
      · have : j = i + 1 := by omega
        subst this
        exact Bool.eq_false_iff.mpr h
      · exact ih.2 j h1 h3
theorem nUp_st (st : Nat → Bool) (k : Nat) (hk : k ≤ 80) : (nUp st k = 80 ∨ st (nUp st k) = true) ∧ ∀ j, 80 - k ≤ j → j < nUp st k → st j = false := by
  induction k with
  | zero => exact ⟨Or.inl rfl, fun j h1 h2 => by unfold nUp at h2; omega⟩
  | succ k ih =>
    unfold nUp
    by_cases h : st (79 - k) = true
    · rw [if_pos h]
      exact ⟨Or.inr h, fun j h1 h2 => by omega⟩
    · rw [if_neg h]
      refine ⟨(ih (by omega)).1, fun j h1 h2 => ?_⟩
      rcases Nat.lt_or_ge j (80 - k) with h3 | h3
      · have : j = 79 - k := by omega
        subst this
        exact Bool.eq_false_iff.mpr h
      · exact (ih (by omega)).2 j h3 h2
theorem gIb_spec (i P : Nat) (h0 : rt 0 ≤ P) : gIb i P ≤ i ∧ rt (gIb i P) ≤ P ∧ ∀ j, gIb i P < j → j ≤ i → P < rt j := by
  induction i with
  | zero => exact ⟨Nat.le_refl _, h0, fun j h1 h2 => by unfold gIb at h1; omega⟩
  | succ i ih =>
    unfold gIb
    by_cases h : rt (i + 1) ≤ P
    · rw [if_pos h]
      exact ⟨Nat.le_refl _, h, fun j h1 h2 => by omega⟩
    · rw [if_neg h]
      refine ⟨by omega, ih.2.1, fun j h1 h2 => ?_⟩
      rcases Nat.lt_or_ge i j with h3 | h3
      · have : j = i + 1 := by omega
        subst this
        omega
      · exact ih.2.2 j h1 h3
/-- depths, set ticks, net: how they belong together -/
def DepOk (st : Nat → Bool) (gr ne : Nat → Int32) (dep : Int → Nat) : Prop := (∀ tz, dep tz ≤ 600000000) ∧ (∀ i, i ≤ 80 → (st i = true ↔ ¬ gr i = 0)) ∧ (∀ i : Nat, i ≤ 80 → nI (dep ((i : Int) - 41)) + ne i = nI (dep ((i : Int) - 40))) ∧ ∀ i, i ≤ 80 → st i = false → ne i = 0
theorem dep_flat {st : Nat → Bool} {gr ne : Nat → Int32} {dep : Int → Nat} (h : DepOk st gr ne dep) {a : Int} (ha : -41 ≤ a) (m : Nat) (hm : a + m ≤ 40) (hs : ∀ j : Nat, a + 41 ≤ (j : Int) → (j : Int) ≤ a + m + 40 → st j = false) : dep (a + m) = dep a := by
  induction m with
  | zero => congr 1; omega
  | succ m ih =>
    have e1 := ih (by omega) (fun j h1 h2 => hs j h1 (by omega))
    have hi : (a + m + 41).toNat ≤ 80 := by omega
    have h3 := h.2.2.1 (a + m + 41).toNat hi
    have h4 := h.2.2.2 (a + m + 41).toNat hi (hs _ (by omega) (by omega))
    rw [h4, Int32.add_zero, show (((a + m + 41).toNat : Nat) : Int) - 41 = a + m by omega, show (((a + m + 41).toNat : Nat) : Int) - 40 = a + ((m + 1 : Nat) : Int) by omega] at h3
    have h5 := (nI_eq (by have := h.1 (a + m); omega) (by have := h.1 (a + ((m + 1 : Nat) : Int)); omega)).mp h3
    rw [← h5, e1]
theorem dep_same {st : Nat → Bool} {gr ne : Nat → Int32} {dep : Int → Nat} (h : DepOk st gr ne dep) {a b : Int} (ha : -41 ≤ a) (hab : a ≤ b) (hb : b ≤ 40) (hs : ∀ j : Nat, a + 41 ≤ (j : Int) → (j : Int) ≤ b + 40 → st j = false) : dep b = dep a := by
  have := dep_flat h ha (b - a).toNat (by omega) (fun j h1 h2 => hs j h1 (by omega))
  rw [← this]
  congr 1
  omega
/-- price and tick agree -/
def TkOk (S : Nat) (tz : Int) : Prop := -41 ≤ tz ∧ tz ≤ 40 ∧ 1254299944 ≤ S ∧ S < 14706804615 ∧ (-40 ≤ tz → rt (tx tz) ≤ S) ∧ (tz ≤ 39 → S ≤ rt (tx (tz + 1)))
theorem rt_z : rt 0 = 1254299944 := by decide +kernel
/-- what a step finds, and what it leaves -/
theorem nx_ok {dn : Bool} {st : Nat → Bool} {S M : Nat} {tz : Int} (h : TkOk S tz) (hM : rt 0 ≤ M) (hM2 : M ≤ rt 80) (hMS : if dn = true then M < S else S < M) : (dn = true → -40 ≤ tz) ∧ (dn = false → tz ≤ 39) ∧ (if dn = true then rt (zNx dn st tz) ≤ S else S ≤ rt (zNx dn st tz)) ∧ (if dn = true then (zNx dn st tz : Int) ≤ tz + 40 else tz + 41 ≤ (zNx dn st tz : Int)) := by
  obtain ⟨h1, h2, h3, h4, h5, h6⟩ := h
  cases dn
  · have hS : S < M := hMS
    have ht : tz ≤ 39 := by
      rcases Int.lt_or_le 39 tz with q | q
      · have e : tz = 40 := by omega
        have := h5 (by omega)
        rw [e, show tx 40 = 80 from rfl] at this
        omega
      · exact q
    have hn := nUp_le st (39 - tz).toNat
    refine ⟨fun q => (by cases q), fun _ => ht, ?_, ?_⟩
    · show S ≤ rt (zNx false st tz)
      rw [zNx_f]
      exact Nat.le_trans (h6 ht) (rt_le (by unfold tx; omega) hn.2)
    · show tz + 41 ≤ (zNx false st tz : Int)
      rw [zNx_f]
      omega
  · have hS : M < S := hMS
    have ht : -40 ≤ tz := by
      rcases Int.lt_or_le tz (-40) with q | q
      · have e : tz = -41 := by omega
        have := h6 (by omega)
        rw [e, show tx (-41 + 1) = 0 from rfl] at this
        omega
      · exact q
    have hn := nDn_le st (tx tz)
    refine ⟨fun _ => ht, fun q => (by cases q), ?_, ?_⟩
    · show rt (zNx true st tz) ≤ S
      rw [zNx_t]
      exact Nat.le_trans (rt_le hn (tx_le h2)) (h5 ht)
    · show (zNx true st tz : Int) ≤ tz + 40
      rw [zNx_t]
      unfold tx at hn ⊢
      omega
theorem tx_nx {nx : Nat} : tx ((nx : Int) - 40) = nx := by unfold tx; omega
theorem zTk_hit {dn : Bool} {P S nx : Nat} {tz : Int} (h : P = rt nx) : zTk dn P S ((nx : Int) - 40) tz = if dn = true then (nx : Int) - 41 else (nx : Int) - 40 := by
  rw [zTk, tx_nx, if_pos h]
  cases dn
  · rfl
  · show (nx : Int) - 40 - 1 = _
    simp only [if_true]
    omega
theorem zTk_no {dn : Bool} {P S nx : Nat} {tz : Int} (h : ¬ P = rt nx) (h2 : ¬ P = S) : zTk dn P S ((nx : Int) - 40) tz = (gIb 80 P : Nat) - 40 := by
  rw [zTk, tx_nx, if_neg h, if_neg h2]
theorem zTk_st {dn : Bool} {P S nx : Nat} {tz : Int} (h : ¬ P = rt nx) (h2 : P = S) : zTk dn P S ((nx : Int) - 40) tz = tz := by
  rw [zTk, tx_nx, if_neg h, if_pos h2]
theorem tk_next {dn : Bool} {st : Nat → Bool} {S M nx T P : Nat} {tz : Int} (h : TkOk S tz) (hM : rt 0 ≤ M) (hM2 : M ≤ rt 80) (hMS : if dn = true then M < S else S < M) (hnx : nx = zNx dn st tz) (hTe : T = zTg dn nx M) (hrg : if dn = true then T ≤ P ∧ P ≤ S else S ≤ P ∧ P ≤ T) :
    TkOk P (zTk dn P S ((nx : Int) - 40) tz) ∧ (if dn = true then M ≤ P else P ≤ M) ∧ (if dn = true then (nx : Int) - 41 ≤ zTk dn P S ((nx : Int) - 40) tz ∧ zTk dn P S ((nx : Int) - 40) tz ≤ tz ∧ (¬ P = rt nx → (nx : Int) - 40 ≤ zTk dn P S ((nx : Int) - 40) tz) else zTk dn P S ((nx : Int) - 40) tz ≤ (nx : Int) - 40 ∧ tz ≤ zTk dn P S ((nx : Int) - 40) tz ∧ (¬ P = rt nx → zTk dn P S ((nx : Int) - 40) tz < (nx : Int) - 40)) := by
  obtain ⟨n1, n2, n3, n4⟩ := nx_ok (st := st) h hM hM2 hMS
  obtain ⟨h1, h2, h3, h4, h5, h6⟩ := h
  rw [← hnx] at n3 n4
  have hnx80 : nx ≤ 80 := by rw [hnx]; exact zNx_le h2
  have hz := rt_z
  have ht := rt_top
  cases dn
  · simp only [if_neg (show ¬ false = true by decide)] at hMS n3 n4 hrg ⊢
    have hT : T = min (rt nx) M := by rw [hTe, zTg_f]
    have hTM : T ≤ M := by rw [hT]; exact Nat.min_le_right _ _
    have hTn : T ≤ rt nx := by rw [hT]; exact Nat.min_le_left _ _
    have hrn := rt_le hnx80 (Nat.le_refl 80)
    have hPM : P ≤ M := by omega
    by_cases hH : P = rt nx
    · rw [zTk_hit hH]
      simp only [if_neg (show ¬ false = true by decide)]
      refine ⟨⟨by omega, by omega, by omega, by omega, fun _ => by rw [tx_nx, hH]; exact Nat.le_refl _, fun q => by rw [hH]; exact rt_le (by unfold tx; omega) (tx_le (by omega))⟩, hPM, by omega, by omega, fun q => absurd hH q⟩
    · by_cases hPS : P = S
      · rw [zTk_st hH hPS]
        refine ⟨⟨h1, h2, by omega, by omega, fun q => by rw [hPS]; exact h5 q, fun q => by rw [hPS]; exact h6 q⟩, hPM, ?_, by omega, fun _ => ?_⟩
        · omega
        · omega
      · rw [zTk_no hH hPS]
        obtain ⟨g1, g2, g3⟩ := gIb_spec 80 P (by omega)
        have hlt : (gIb 80 P) < nx := by
          rcases Nat.lt_or_ge (gIb 80 P) nx with q | q
          · exact q
          · have := rt_le q g1; omega
        have hge : tz + 40 ≤ (gIb 80 P : Int) := by
          rcases Int.lt_or_le ((gIb 80 P : Nat) : Int) (tz + 40) with q | q
          · have h7 := h5 (by omega)
            have h8 := g3 (tx tz) (by unfold tx; omega) (tx_le h2)
            omega
          · exact q
        refine ⟨⟨by omega, by omega, by omega, by omega, fun _ => by rw [tx_nx]; exact g2, fun q => ?_⟩, hPM, by omega, by omega, fun _ => by omega⟩
        have := g3 (tx (((gIb 80 P : Nat) : Int) - 40 + 1)) (by unfold tx; omega) (tx_le (by omega))
        omega
  · simp only [if_true] at hMS n3 n4 hrg ⊢
    have hT : T = max (rt nx) M := by rw [hTe, zTg_t]
    have hTM : M ≤ T := by rw [hT]; exact Nat.le_max_right _ _
    have hTn : rt nx ≤ T := by rw [hT]; exact Nat.le_max_left _ _
    have hPM : M ≤ P := by omega
    have hrn := rt_le (Nat.zero_le nx) hnx80
    by_cases hH : P = rt nx
    · rw [zTk_hit hH]
      simp only [if_true]
      refine ⟨⟨by omega, by omega, by omega, by omega, fun q => by rw [hH]; exact rt_le (by unfold tx; omega) hnx80, fun q => by rw [hH, show tx ((nx : Int) - 41 + 1) = nx by unfold tx; omega]; exact Nat.le_refl _⟩, hPM, by omega, by omega, fun q => absurd hH q⟩
    · by_cases hPS : P = S
      · rw [zTk_st hH hPS]
        refine ⟨⟨h1, h2, by omega, by omega, fun q => by rw [hPS]; exact h5 q, fun q => by rw [hPS]; exact h6 q⟩, hPM, ?_, by omega, fun _ => ?_⟩
        · omega
        · omega
      · rw [zTk_no hH hPS]
        obtain ⟨g1, g2, g3⟩ := gIb_spec 80 P (by omega)
        have hge : nx ≤ (gIb 80 P) := by
          rcases Nat.lt_or_ge (gIb 80 P) nx with q | q
          · have := g3 nx q hnx80; omega
          · exact q
        have hle : (gIb 80 P : Int) ≤ tz + 40 := by
          rcases Int.lt_or_le (tz + 40) ((gIb 80 P : Nat) : Int) with q | q
          · have h7 := h6 (by omega)
            have h8 := rt_le (i := tx (tz + 1)) (j := gIb 80 P) (by unfold tx; omega) g1
            omega
          · exact q
        refine ⟨⟨by omega, by omega, by omega, by omega, fun _ => by rw [tx_nx]; exact g2, fun q => ?_⟩, hPM, by omega, by omega, fun _ => by omega⟩
        have := g3 (tx (((gIb 80 P : Nat) : Int) - 40 + 1)) (by unfold tx; omega) (tx_le (by omega))
        omega
