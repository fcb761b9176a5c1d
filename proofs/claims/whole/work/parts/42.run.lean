-- THE STATE OF A SWAP: price, tick, rest, paid, got
abbrev Q5 : Type := Nat × Int × Nat × Int64 × Int64
def zPq (dn ex : Bool) (f M : Nat) (st : Nat → Bool) (dep : Int → Nat) (q : Q5) : Nat := zPr dn ex f (dep q.2.1) q.1 (zTg dn (zNx dn st q.2.1) M) q.2.2.1
def zFq (dn ex : Bool) (f M : Nat) (st : Nat → Bool) (dep : Int → Nat) (q : Q5) : Nat := zFe dn ex (decide (zPq dn ex f M st dep q = zTg dn (zNx dn st q.2.1) M)) f (dep q.2.1) q.1 (zPq dn ex f M st dep q) q.2.2.1
def zQ (dn ex : Bool) (f M : Nat) (st : Nat → Bool) (dep : Int → Nat) (q : Q5) : Q5 :=
  (zPq dn ex f M st dep q, zTk dn (zPq dn ex f M st dep q) q.1 ((zNx dn st q.2.1 : Int) - 40) q.2.1,
   zRs dn ex (decide (zPq dn ex f M st dep q = zTg dn (zNx dn st q.2.1) M)) f (dep q.2.1) q.1 (zPq dn ex f M st dep q) q.2.2.1,
   q.2.2.2.1 + lN (zIn dn (dep q.2.1) q.1 (zPq dn ex f M st dep q) + zFq dn ex f M st dep q),
   q.2.2.2.2 + lN (zGot dn ex (dep q.2.1) q.1 (zPq dn ex f M st dep q) q.2.2.1))
def zDn (M : Nat) (q : Q5) : Prop := q.2.2.1 = 0 ∨ q.1 = M
def zMu (dn : Bool) (q : Q5) : Nat := if dn = true then (q.2.1 + 41).toNat else (40 - q.2.1).toNat
def QI (dn : Bool) (M : Nat) (q : Q5) : Prop := TkOk q.1 q.2.1 ∧ q.2.2.1 ≤ 100000000 ∧ (if dn = true then M ≤ q.1 else q.1 ≤ M)
theorem zRs_le {dn ex at_ : Bool} {f L S P r : Nat} : zRs dn ex at_ f L S P r ≤ r := by
  unfold zRs
  split <;> exact Nat.sub_le _ _
theorem zRs_t {dn at_ : Bool} {f L S P r : Nat} : zRs dn true at_ f L S P r = r - (zIn dn L S P + zFe dn true at_ f L S P r) := if_pos rfl
theorem zRs_f {dn at_ : Bool} {f L S P r : Nat} : zRs dn false at_ f L S P r = r - zGot dn false L S P r := if_neg (by decide)
theorem rs_zero {dn ex : Bool} {f L S T P r : Nat} (hS : 0 < S) (hT : 0 < T) (hd : if dn = true then T ≤ S else S ≤ T) (hP : P = zPr dn ex f L S T r) (h : ¬ P = T) : zRs dn ex false f L S P r = 0 := by
  cases ex
  · rw [zRs_f, zGot_f]
    rw [zPr_f] at hP
    have hn : ¬ zOut dn L S T ≤ r := fun q => h (by rw [hP]; exact if_pos q)
    have := (prOut_ok hS hT hd (Nat.not_le.mp hn)).2
    rw [← hP] at this
    rw [Nat.min_eq_left this]
    exact Nat.sub_self r
  · rw [zRs_t, zFe_tf]
    have h1 : zIn dn L S P ≤ r := by
      rw [hP]
      exact Nat.le_trans (zPr_in hS hT hd) us_le
    omega
theorem zQ_facts {dn ex : Bool} {f M : Nat} {st : Nat → Bool} {dep : Int → Nat} {q : Q5} (hM : rt 0 ≤ M) (hM2 : M ≤ rt 80) (hI : QI dn M q) (hn : ¬ zDn M q) :
    (if dn = true then M < q.1 else q.1 < M) ∧ 0 < zTg dn (zNx dn st q.2.1) M ∧ (if dn = true then zTg dn (zNx dn st q.2.1) M ≤ q.1 else q.1 ≤ zTg dn (zNx dn st q.2.1) M) ∧ (if dn = true then zTg dn (zNx dn st q.2.1) M ≤ zPq dn ex f M st dep q ∧ zPq dn ex f M st dep q ≤ q.1 else q.1 ≤ zPq dn ex f M st dep q ∧ zPq dn ex f M st dep q ≤ zTg dn (zNx dn st q.2.1) M) := by
  obtain ⟨hk, hr, hms⟩ := hI
  have hSM : ¬ q.1 = M := fun e => hn (Or.inr e)
  have hz := rt_z
  have hlt : if dn = true then M < q.1 else q.1 < M := by
    cases dn
    · have : q.1 ≤ M := hms
      show q.1 < M
      omega
    · have : M ≤ q.1 := hms
      show M < q.1
      omega
  obtain ⟨n1, n2, n3, n4⟩ := nx_ok (st := st) hk hM hM2 hlt
  have hnp := rt_pos (zNx_le (dn := dn) (st := st) hk.2.1)
  have hT0 : 0 < zTg dn (zNx dn st q.2.1) M := by
    unfold zTg
    split
    · exact Nat.lt_of_lt_of_le hnp (Nat.le_max_left _ _)
    · exact Nat.lt_min.mpr ⟨hnp, by omega⟩
  have hd : if dn = true then zTg dn (zNx dn st q.2.1) M ≤ q.1 else q.1 ≤ zTg dn (zNx dn st q.2.1) M := by
    cases dn
    · show q.1 ≤ zTg false _ M
      rw [zTg_f]
      exact Nat.le_min.mpr ⟨n3, hms⟩
    · show zTg true _ M ≤ q.1
      rw [zTg_t]
      exact Nat.max_le.mpr ⟨n3, hms⟩
  exact ⟨hlt, hT0, hd, zPr_range (by have := hk.2.2.1; omega) hT0 hd⟩
theorem zQ_ok {dn ex : Bool} {f M : Nat} {st : Nat → Bool} {dep : Int → Nat} {q : Q5} (hM : rt 0 ≤ M) (hM2 : M ≤ rt 80) (hI : QI dn M q) (hn : ¬ zDn M q) : QI dn M (zQ dn ex f M st dep q) ∧ (zDn M (zQ dn ex f M st dep q) ∨ zMu dn (zQ dn ex f M st dep q) < zMu dn q) := by
  obtain ⟨hlt, hT0, hd, hrg⟩ := zQ_facts (ex := ex) (f := f) (st := st) (dep := dep) hM hM2 hI hn
  obtain ⟨hk, hr, hms⟩ := hI
  obtain ⟨t1, t2, t3⟩ := tk_next hk hM hM2 hlt rfl rfl hrg
  obtain ⟨n1, n2, n3, n4⟩ := nx_ok (st := st) hk hM hM2 hlt
  refine ⟨⟨t1, Nat.le_trans zRs_le hr, t2⟩, ?_⟩
  by_cases hPT : zPq dn ex f M st dep q = zTg dn (zNx dn st q.2.1) M
  · by_cases hTM : zTg dn (zNx dn st q.2.1) M = M
    · exact Or.inl (Or.inr (hPT.trans hTM))
    · refine Or.inr ?_
      have hH : zPq dn ex f M st dep q = rt (zNx dn st q.2.1) := by
        rw [hPT]
        cases dn
        · rw [zTg_f] at hTM ⊢
          omega
        · rw [zTg_t] at hTM ⊢
          omega
      unfold zMu
      cases dn
      · show (40 - (zQ false ex f M st dep q).2.1).toNat < (40 - q.2.1).toNat
        have e : (zQ false ex f M st dep q).2.1 = (zNx false st q.2.1 : Int) - 40 := (zTk_hit hH).trans (if_neg (by decide))
        have n5 : q.2.1 + 41 ≤ (zNx false st q.2.1 : Int) := n4
        have n6 := n2 rfl
        rw [e]
        omega
      · show ((zQ true ex f M st dep q).2.1 + 41).toNat < (q.2.1 + 41).toNat
        have e : (zQ true ex f M st dep q).2.1 = (zNx true st q.2.1 : Int) - 41 := (zTk_hit hH).trans (if_pos rfl)
        have n5 : (zNx true st q.2.1 : Int) ≤ q.2.1 + 40 := n4
        have n6 := n1 rfl
        rw [e]
        omega
  · refine Or.inl (Or.inl ?_)
    show zRs dn ex (decide (zPq dn ex f M st dep q = zTg dn (zNx dn st q.2.1) M)) f (dep q.2.1) q.1 (zPq dn ex f M st dep q) q.2.2.1 = 0
    rw [decide_eq_false hPT]
    exact rs_zero (by have := hk.2.2.1; omega) hT0 hd rfl hPT
theorem zMu_le {dn : Bool} {M : Nat} {q : Q5} (h : QI dn M q) : zMu dn q < 100 := by
  have h1 := h.1.1
  have h2 := h.1.2.1
  unfold zMu
  split <;> omega
-- the class's own state beside it: growths and outsides
abbrev X7 : Type := Q5 × (Nat → Int64) × (Nat → Int64)
def cQ (dn ex : Bool) (f M : Nat) (st : Nat → Bool) (gr : Nat → Int32) (dep : Int → Nat) (x : X7) : X7 :=
  (zQ dn ex f M st dep x.1, gUp dn (dep x.1.2.1) x.2.1 (zFq dn ex f M st dep x.1), zOu gr (zPq dn ex f M st dep x.1) ((zNx dn st x.1.2.1 : Int) - 40) (gUp dn (dep x.1.2.1) x.2.1 (zFq dn ex f M st dep x.1)) x.2.2)
noncomputable def cRun (dn ex : Bool) (f M : Nat) (st : Nat → Bool) (gr : Nat → Int32) (dep : Int → Nat) : Nat → X7 → X7
  | 0, x => x
  | n + 1, x => if x.1.2.2.1 = 0 ∨ x.1.1 = M then x else cRun dn ex f M st gr dep n (cQ dn ex f M st gr dep x)
theorem cRun_done {dn ex : Bool} {f M : Nat} {st : Nat → Bool} {gr : Nat → Int32} {dep : Int → Nat} {x : X7} (h : zDn M x.1) (n : Nat) : cRun dn ex f M st gr dep n x = x := by
  cases n with
  | zero => rfl
  | succ n => exact if_pos h
theorem cRun_go {dn ex : Bool} {f M : Nat} {st : Nat → Bool} {gr : Nat → Int32} {dep : Int → Nat} {x : X7} (h : ¬ zDn M x.1) (n : Nat) : cRun dn ex f M st gr dep (n + 1) x = cRun dn ex f M st gr dep n (cQ dn ex f M st gr dep x) := if_neg h
/-- the liquidity that the class keeps is the depth, behind a step too -/
theorem lq_next {dn : Bool} {st : Nat → Bool} {gr ne : Nat → Int32} {dep : Int → Nat} {S M nx T P : Nat} {tz : Int} (hD : DepOk st gr ne dep) (h : TkOk S tz) (hM : rt 0 ≤ M) (hM2 : M ≤ rt 80) (hMS : if dn = true then M < S else S < M) (hnx : nx = zNx dn st tz) (hTe : T = zTg dn nx M) (hrg : if dn = true then T ≤ P ∧ P ≤ S else S ≤ P ∧ P ≤ T) : zLq dn gr ne P ((nx : Int) - 40) (nI (dep tz)) = nI (dep (zTk dn P S ((nx : Int) - 40) tz)) := by
  obtain ⟨n1, n2, n3, n4⟩ := nx_ok (st := st) h hM hM2 hMS
  obtain ⟨t1, t2, t3⟩ := tk_next h hM hM2 hMS hnx hTe hrg
  have hnx80 : nx ≤ 80 := by rw [hnx]; exact zNx_le h.2.1
  rw [← hnx] at n3 n4
  have h1 := h.1
  have h2 := h.2.1
  unfold zLq
  rw [tx_nx]
  by_cases hH : P = rt nx
  · rw [zTk_hit hH]
    by_cases hG : gr nx = 0
    · have hs : st nx = false := Bool.eq_false_iff.mpr (fun q => (hD.2.1 nx hnx80).mp q hG)
      rw [if_neg (fun q => q.2 hG)]
      congr 1
      cases dn
      · simp only [if_neg (show ¬ false = true by decide)] at n4 ⊢
        rw [zNx_f] at hnx
        obtain ⟨u1, u2⟩ := nUp_st st (39 - tz).toNat (by omega)
        rw [← hnx] at u1 u2
        refine (dep_same hD h1 (by omega) (by omega) (fun j a b => ?_)).symm
        rcases Nat.lt_or_ge j nx with q | q
        · exact u2 j (by omega) q
        · have : j = nx := by omega
          subst this; exact hs
      · simp only [if_true] at n4 ⊢
        rw [zNx_t] at hnx
        obtain ⟨u1, u2⟩ := nDn_st st (tx tz)
        rw [← hnx] at u1 u2
        refine dep_same hD (by omega) (by omega) h2 (fun j a b => ?_)
        rcases Nat.lt_or_ge nx j with q | q
        · exact u2 j q (by unfold tx; omega)
        · have : j = nx := by omega
          subst this; exact hs
    · rw [if_pos ⟨hH, hG⟩]
      have hx := hD.2.2.1 nx hnx80
      cases dn
      · simp only [if_neg (show ¬ false = true by decide)] at n4 ⊢
        rw [lqX_f, tx_nx, ← hx]
        congr 2
        rw [zNx_f] at hnx
        obtain ⟨u1, u2⟩ := nUp_st st (39 - tz).toNat (by omega)
        rw [← hnx] at u1 u2
        exact (dep_same hD h1 (by omega) (by omega) (fun j a b => u2 j (by omega) (by omega))).symm
      · simp only [if_true] at n4 ⊢
        rw [lqX_t, tx_nx]
        rw [zNx_t] at hnx
        obtain ⟨u1, u2⟩ := nDn_st st (tx tz)
        rw [← hnx] at u1 u2
        have e : dep tz = dep ((nx : Int) - 40) := dep_same hD (by omega) (by omega) h2 (fun j a b => u2 j (by omega) (by unfold tx; omega))
        rw [e, ← hx, Int32.add_assoc, Int32.add_right_neg, Int32.add_zero]
  · rw [if_neg (fun q => hH q.1)]
    congr 1
    cases dn
    · simp only [if_neg (show ¬ false = true by decide)] at n4 t3
      have t4 := t3.2.2 hH
      rw [zNx_f] at hnx
      obtain ⟨u1, u2⟩ := nUp_st st (39 - tz).toNat (by omega)
      rw [← hnx] at u1 u2
      exact (dep_same hD h1 t3.2.1 t1.2.1 (fun j a b => u2 j (by omega) (by omega))).symm
    · simp only [if_true] at n4 t3
      have t4 := t3.2.2 hH
      rw [zNx_t] at hnx
      obtain ⟨u1, u2⟩ := nDn_st st (tx tz)
      rw [← hnx] at u1 u2
      exact dep_same hD t1.1 t3.2.1 h2 (fun j a b => u2 j (by omega) (by unfold tx; omega))
