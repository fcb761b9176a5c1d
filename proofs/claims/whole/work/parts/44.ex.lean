-- THE EXCHANGE: its own object, its small methods
def isE (sg : Nat → va_E) (o : Nat) (la : Int64) : Prop := sg 0 = eO 0 [.ref (ad o 1), .ref (ad o 2), .ref (ad o 3), .ref (ad o 4), .ref (ad o 6), .ref (ad o 7), .ref (ad o 8), .ref (ad o 9), .long la]
theorem c_E_account {l : Launch} {o n : Nat} {sg : Nat → va_E} (a t : Nat) : GM l y_E_account b_E_account 2 (some .int) 1 12 0 0 o n n sg false [.int (nI a), .int (nI t)] (gR (some (.int (nI (a * 3 + t)))) sg) := by
  refine GM_of (by decide) (Nat.le_of_ble_eq_true rfl) ?_
  intro K C hl hz hr hnm E
  show G K o n sg 0 0 0 [(0, .int (nI a)), (1, .int (nI t))] []
  refine g_iload_n C rfl rfl d_E_account_0 ?_
  refine g_iconst (v := 3) C rfl d_E_account_1 ?_
  refine g_imul C d_E_account_2 ?_
  refine g_iload_n C rfl rfl d_E_account_3 ?_
  refine g_iadd C d_E_account_4 ?_
  refine g_iret C E hr d_E_account_5 ⟨congrArg (fun q => some (Value.int q)) (by rw [show (3 : Int32) = nI 3 from rfl, pk_mul, nI_add]), rfl⟩
theorem c_E_lacks {l : Launch} {o n : Nat} {sg : Nat → va_E} {la : Int64} {bal : Nat → Int64} (a t : Nat) (x : Int64) (hn : 64 ≤ n) (hE : isE sg o la) (hb : sg 1 = eJ 12 bal) (ha : a < 4) (ht : t < 3) : GM l y_E_lacks b_E_lacks 5 (some .boolean) 2 33 0 0 o n n sg false [.ref (ad o 0), .int (nI a), .int (nI t), .long x] (gR (some (.int (bz (decide (bal (a * 3 + t) < x))))) sg) := by
  have he1 : sg 0 = _ := hE
  refine GM_of (by decide) (Nat.le_of_ble_eq_true rfl) ?_
  intro K C hl hz hr hnm E
  show G K o n sg 0 0 0 [(0, .ref (ad o 0)), (1, .int (nI a)), (2, .int (nI t)), (3, .long x)] []
  refine g_aload_n C rfl rfl d_E_lacks_0 ?_
  refine gf_E_9 C d_E_lacks_1 (by first | assumption | omega) (by repeat' first | assumption | exact up_eq _ _ _ | refine up_ne (by omega) ?_) (by rfl) ?_
  refine g_iload_n C rfl rfl d_E_lacks_4 ?_
  refine g_iload_n C rfl rfl d_E_lacks_5 ?_
  refine g_callS C (c_E_account a t) Y_E_account m_325 m_324 ⟨by decide, by decide⟩ ⟨by decide, by decide⟩ (fun h => nomatch h) d_E_lacks_6 rfl (Nat.le_of_ble_eq_true rfl) (fun ret sg6 hq => ?_)
  obtain ⟨rfl, rfl⟩ := hq
  refine g_lald C d_E_lacks_9 (by first | assumption | omega) (by repeat' first | assumption | exact up_eq _ _ _ | refine up_ne (by omega) ?_) (vp_in_nI (by omega) (by decide)) ?_
  rw [nI_clamp (by omega)]
  refine g_lload_n C rfl rfl d_E_lacks_10 ?_
  refine g_lcmp_ge (tgt := 19) C d_E_lacks_11 d_E_lacks_12 (by decide) (fun j11 => ?_) (fun j11 => ?_)
  · refine g_iconst (v := 0) C rfl d_E_lacks_19 ?_
    refine g_zret C E hr d_E_lacks_20 rfl ?_
    refine ⟨congrArg (fun q => some (Value.int q)) ?_, rfl⟩
    first | (rw [decide_eq_false (fun w => absurd (Int64.not_lt.mpr j11) (fun z => z w))]; rfl) | (rw [decide_eq_true (Int64.not_le.mp j11)]; rfl)
  · refine g_iconst (v := 1) C rfl d_E_lacks_15 ?_
    refine g_goto (tgt := 20) C d_E_lacks_16 (by decide) ?_
    refine g_zret C E hr d_E_lacks_20 rfl ?_
    refine ⟨congrArg (fun q => some (Value.int q)) ?_, rfl⟩
    first | (rw [decide_eq_false (fun w => absurd (Int64.not_lt.mpr j11) (fun z => z w))]; rfl) | (rw [decide_eq_true (Int64.not_le.mp j11)]; rfl)
theorem c_E_payIn {l : Launch} {o n : Nat} {sg : Nat → va_E} {la : Int64} {bal hol : Nat → Int64} (a t : Nat) (x : Int64) (hn : 64 ≤ n) (hE : isE sg o la) (hb : sg 1 = eJ 12 bal) (hh : sg 3 = eJ 3 hol) (ha : a < 4) (ht : t < 3) : GM l y_E_payIn b_E_payIn 5 none 2 33 0 0 o n n sg false [.ref (ad o 0), .int (nI a), .int (nI t), .long x] (gR none (va_up (va_up sg 1 (eJ 12 (vp_updL bal (a * 3 + t) (bal (a * 3 + t) - x)))) 3 (eJ 3 (vp_updL hol t (hol t + x))))) := by
  have he1 : sg 0 = _ := hE
  refine GM_of (by decide) (Nat.le_of_ble_eq_true rfl) ?_
  intro K C hl hz hr hnm E
  show G K o n sg 0 0 0 [(0, .ref (ad o 0)), (1, .int (nI a)), (2, .int (nI t)), (3, .long x)] []
  refine g_aload_n C rfl rfl d_E_payIn_0 ?_
  refine gf_E_9 C d_E_payIn_1 (by first | assumption | omega) (by repeat' first | assumption | exact up_eq _ _ _ | refine up_ne (by omega) ?_) (by rfl) ?_
  refine g_iload_n C rfl rfl d_E_payIn_4 ?_
  refine g_iload_n C rfl rfl d_E_payIn_5 ?_
  refine g_callS C (c_E_account a t) Y_E_account m_325 m_324 ⟨by decide, by decide⟩ ⟨by decide, by decide⟩ (fun h => nomatch h) d_E_payIn_6 rfl (Nat.le_of_ble_eq_true rfl) (fun ret sg6 hq => ?_)
  obtain ⟨rfl, rfl⟩ := hq
  refine g_dup2 C rfl rfl d_E_payIn_9 ?_
  refine g_lald C d_E_payIn_10 (by first | assumption | omega) (by repeat' first | assumption | exact up_eq _ _ _ | refine up_ne (by omega) ?_) (vp_in_nI (by omega) (by decide)) ?_
  refine g_lload_n C rfl rfl d_E_payIn_11 ?_
  refine g_lsub C d_E_payIn_12 ?_
  refine g_last C d_E_payIn_13 (by first | assumption | omega) (by repeat' first | assumption | exact up_eq _ _ _ | refine up_ne (by omega) ?_) (vp_in_nI (by omega) (by decide)) ?_
  rw [nI_clamp (n := a * 3 + t) (by omega)]
  refine g_aload_n C rfl rfl d_E_payIn_14 ?_
  refine gf_E_16 C d_E_payIn_15 (by first | assumption | omega) (by repeat' first | assumption | exact up_eq _ _ _ | refine up_ne (by omega) ?_) (by rfl) ?_
  refine g_iload_n C rfl rfl d_E_payIn_18 ?_
  refine g_dup2 C rfl rfl d_E_payIn_19 ?_
  refine g_lald C d_E_payIn_20 (by first | assumption | omega) (by repeat' first | assumption | exact up_eq _ _ _ | refine up_ne (by omega) ?_) (vp_in_nI ht (by decide)) ?_
  refine g_lload_n C rfl rfl d_E_payIn_21 ?_
  refine g_ladd C d_E_payIn_22 ?_
  refine g_last C d_E_payIn_23 (by first | assumption | omega) (by repeat' first | assumption | exact up_eq _ _ _ | refine up_ne (by omega) ?_) (vp_in_nI ht (by decide)) ?_
  rw [nI_clamp (n := t) (by omega)]
  refine g_vret C E hr d_E_payIn_24 ⟨rfl, rfl⟩
theorem c_E_payOut {l : Launch} {o n : Nat} {sg : Nat → va_E} {la : Int64} {bal hol : Nat → Int64} (a t : Nat) (x : Int64) (hn : 64 ≤ n) (hE : isE sg o la) (hb : sg 1 = eJ 12 bal) (hh : sg 3 = eJ 3 hol) (ha : a < 4) (ht : t < 3) : GM l y_E_payOut b_E_payOut 5 none 2 33 0 0 o n n sg false [.ref (ad o 0), .int (nI a), .int (nI t), .long x] (gR none (va_up (va_up sg 1 (eJ 12 (vp_updL bal (a * 3 + t) (bal (a * 3 + t) + x)))) 3 (eJ 3 (vp_updL hol t (hol t - x))))) := by
  have he1 : sg 0 = _ := hE
  refine GM_of (by decide) (Nat.le_of_ble_eq_true rfl) ?_
  intro K C hl hz hr hnm E
  show G K o n sg 0 0 0 [(0, .ref (ad o 0)), (1, .int (nI a)), (2, .int (nI t)), (3, .long x)] []
  refine g_aload_n C rfl rfl d_E_payOut_0 ?_
  refine gf_E_9 C d_E_payOut_1 (by first | assumption | omega) (by repeat' first | assumption | exact up_eq _ _ _ | refine up_ne (by omega) ?_) (by rfl) ?_
  refine g_iload_n C rfl rfl d_E_payOut_4 ?_
  refine g_iload_n C rfl rfl d_E_payOut_5 ?_
  refine g_callS C (c_E_account a t) Y_E_account m_325 m_324 ⟨by decide, by decide⟩ ⟨by decide, by decide⟩ (fun h => nomatch h) d_E_payOut_6 rfl (Nat.le_of_ble_eq_true rfl) (fun ret sg6 hq => ?_)
  obtain ⟨rfl, rfl⟩ := hq
  refine g_dup2 C rfl rfl d_E_payOut_9 ?_
  refine g_lald C d_E_payOut_10 (by first | assumption | omega) (by repeat' first | assumption | exact up_eq _ _ _ | refine up_ne (by omega) ?_) (vp_in_nI (by omega) (by decide)) ?_
  refine g_lload_n C rfl rfl d_E_payOut_11 ?_
  refine g_ladd C d_E_payOut_12 ?_
  refine g_last C d_E_payOut_13 (by first | assumption | omega) (by repeat' first | assumption | exact up_eq _ _ _ | refine up_ne (by omega) ?_) (vp_in_nI (by omega) (by decide)) ?_
  rw [nI_clamp (n := a * 3 + t) (by omega)]
  refine g_aload_n C rfl rfl d_E_payOut_14 ?_
  refine gf_E_16 C d_E_payOut_15 (by first | assumption | omega) (by repeat' first | assumption | exact up_eq _ _ _ | refine up_ne (by omega) ?_) (by rfl) ?_
  refine g_iload_n C rfl rfl d_E_payOut_18 ?_
  refine g_dup2 C rfl rfl d_E_payOut_19 ?_
  refine g_lald C d_E_payOut_20 (by first | assumption | omega) (by repeat' first | assumption | exact up_eq _ _ _ | refine up_ne (by omega) ?_) (vp_in_nI ht (by decide)) ?_
  refine g_lload_n C rfl rfl d_E_payOut_21 ?_
  refine g_lsub C d_E_payOut_22 ?_
  refine g_last C d_E_payOut_23 (by first | assumption | omega) (by repeat' first | assumption | exact up_eq _ _ _ | refine up_ne (by omega) ?_) (vp_in_nI ht (by decide)) ?_
  rw [nI_clamp (n := t) (by omega)]
  refine g_vret C E hr d_E_payOut_24 ⟨rfl, rfl⟩
theorem c_E_keep {l : Launch} {o n : Nat} {sg : Nat → va_E} {la : Int64} {bal hol : Nat → Int64} {k kr kp kc f kn kt : Nat} {gr ne : Nat → Int32} {dn ex : Bool} {rest lim paid got : Int64} (a t1 t2 : Nat) (hn : 64 ≤ n) (hk : 8 ≤ k) (hkp : k < kp) (hp : kp + 2 < n) (hE : isE sg o la) (hb : sg 1 = eJ 12 bal) (hh : sg 3 = eJ 3 hol) (hT : isT sg o k kr kp kc dn ex rest lim paid got) (hP : isP sg o kp kr f kn kt gr ne) (ha : a < 4) (ht1 : t1 < 3) (ht2 : t2 < 3) : GM l y_E_keep b_E_keep 5 none 3 57 0 0 o n n sg false [.ref (ad o 0), .ref (ad o k), .int (nI a), .int (nI t1), .int (nI t2)] (fun r s => none = r ∧ isP s o kp kr f kt kn gr ne ∧ s 1 = eJ 12 (vp_updL (vp_updL bal (a * 3 + t1) (bal (a * 3 + t1) - paid)) (a * 3 + t2) (vp_updL bal (a * 3 + t1) (bal (a * 3 + t1) - paid) (a * 3 + t2) + got)) ∧ s 3 = eJ 3 (vp_updL (vp_updL hol t1 (hol t1 + paid)) t2 (vp_updL hol t1 (hol t1 + paid) t2 - got)) ∧ ∀ j, j ≠ 1 → j ≠ 3 → j ≠ kp → s j = sg j) := by
  have he1 : sg 0 = _ := hE
  have hk1 : sg k = _ := hT
  have hp1 := hP.1
  refine GM_of (by decide) (Nat.le_of_ble_eq_true rfl) ?_
  intro K C hl hz hr hnm E
  show G K o n sg 0 0 0 [(0, .ref (ad o 0)), (1, .ref (ad o k)), (2, .int (nI a)), (3, .int (nI t1)), (4, .int (nI t2))] []
  refine g_aload_n C rfl rfl d_E_keep_0 ?_
  refine gf_E_183 C d_E_keep_1 (by first | assumption | omega) (by repeat' first | assumption | exact up_eq _ _ _ | refine up_ne (by omega) ?_) (by rfl) ?_
  refine g_callV C (c_P_keepTrial hp hP) Y_P_keepTrial m_589 m_590 m_588 rfl rfl ⟨by decide, by decide⟩ ⟨by decide, by decide⟩ (fun h => nomatch h) d_E_keep_4 (by first | assumption | omega) (by repeat' first | assumption | exact up_eq _ _ _ | refine up_ne (by omega) ?_) rfl (Nat.le_of_ble_eq_true rfl) (fun ret sg4 hq => ?_)
  obtain ⟨rfl, uP, uF⟩ := hq
  have u0 : isE sg4 o la := (uF 0 (by omega)).trans hE
  have u1 := (uF 1 (by omega)).trans hb
  have u3 := (uF 3 (by omega)).trans hh
  have uk : sg4 k = _ := (uF k (by omega)).trans hk1
  have u00 : sg4 0 = _ := u0
  refine g_aload_n C rfl rfl d_E_keep_7 ?_
  refine g_iload_n C rfl rfl d_E_keep_8 ?_
  refine g_iload_n C rfl rfl d_E_keep_9 ?_
  refine g_aload_n C rfl rfl d_E_keep_10 ?_
  refine gf_E_148 C d_E_keep_11 (by first | assumption | omega) (by repeat' first | assumption | exact up_eq _ _ _ | refine up_ne (by omega) ?_) (by rfl) ?_
  refine g_callV C (c_E_payIn a t1 paid hn u0 u1 u3 ha ht1) Y_E_payIn m_451 s_E_payIn m_449 rfl rfl ⟨by decide, by decide⟩ ⟨by decide, by decide⟩ (fun h => nomatch h) d_E_keep_14 (by first | assumption | omega) (by repeat' first | assumption | exact up_eq _ _ _ | refine up_ne (by omega) ?_) rfl (Nat.le_of_ble_eq_true rfl) (fun ret sg14 hq => ?_)
  obtain ⟨rfl, rfl⟩ := hq
  refine g_aload_n C rfl rfl d_E_keep_17 ?_
  refine g_iload_n C rfl rfl d_E_keep_18 ?_
  refine g_iload C rfl d_E_keep_19 ?_
  refine g_aload_n C rfl rfl d_E_keep_21 ?_
  refine gf_E_155 C d_E_keep_22 (by first | assumption | omega) (by repeat' first | assumption | exact up_eq _ _ _ | refine up_ne (by omega) ?_) (by rfl) ?_
  refine g_callV C (c_E_payOut a t2 got hn (la := la) (by unfold isE; exact (by repeat' first | assumption | exact up_eq _ _ _ | refine up_ne (by omega) ?_)) (by repeat' first | assumption | exact up_eq _ _ _ | refine up_ne (by omega) ?_) (by repeat' first | assumption | exact up_eq _ _ _ | refine up_ne (by omega) ?_) ha ht2) Y_E_payOut m_486 s_E_payOut m_484 rfl rfl ⟨by decide, by decide⟩ ⟨by decide, by decide⟩ (fun h => nomatch h) d_E_keep_25 (by first | assumption | omega) (by repeat' first | assumption | exact up_eq _ _ _ | refine up_ne (by omega) ?_) rfl (Nat.le_of_ble_eq_true rfl) (fun ret sg25 hq => ?_)
  obtain ⟨rfl, rfl⟩ := hq
  refine g_vret C E hr d_E_keep_28 ⟨rfl, isP_mv uP (fun j q1 q2 => by repeat' first | exact rfl | refine up_ne (by omega) ?_), (by repeat' first | assumption | exact up_eq _ _ _ | refine up_ne (by omega) ?_), (by repeat' first | assumption | exact up_eq _ _ _ | refine up_ne (by omega) ?_), fun j q1 q2 q3 => (by repeat' first | exact rfl | refine up_ne (by omega) ?_ : _ = sg4 j).trans (uF j (by omega))⟩
-- FINDING A POSITION
/-- the first of twelve places at which b holds -/
def fnd (b : Nat → Bool) : Nat → Option Nat
  | 0 => none
  | k + 1 => if b (11 - k) = true then some (11 - k) else fnd b k
theorem fnd_lt {b : Nat → Bool} {k i : Nat} (hk : k ≤ 12) (h : fnd b k = some i) : i < 12 ∧ b i = true ∧ 12 - k ≤ i := by
  induction k with
  | zero => cases h
  | succ k ih =>
    unfold fnd at h
    by_cases hb : b (11 - k) = true
    · rw [if_pos hb] at h
      cases h
      exact ⟨by omega, hb, by omega⟩
    · rw [if_neg hb] at h
      have := ih (by omega) h
      exact ⟨this.1, this.2.1, by omega⟩
def posA (o : Nat) : Nat → Option Nat := fun i => some (ad o (28 + 3 * i))
def pRef (o : Nat) (r : Option Nat) : Value := match r with
  | none => .null
  | some i => .ref (ad o (28 + 3 * i))
def isPs (sg : Nat → va_E) (o : Nat) (ow pl lo hi am : Nat → Int32) (ins owd : Nat → Nat → Int64) : Prop := ∃ f : Nat → Option Nat, sg 7 = eQ 4 12 f ∧ (∀ i, i < 12 → f i = some (ad o (28 + 3 * i))) ∧ ∀ i, i < 12 → isS sg o (28 + 3 * i) (ow i) (pl i) (lo i) (hi i) (am i) (ins i) (owd i)
def pNone (am : Nat → Int32) (owd : Nat → Nat → Int64) (i : Nat) : Bool := decide (am i = 0 ∧ owd i 0 = 0 ∧ owd i 1 = 0)
def pIs (ow pl lo hi : Nat → Int32) (a b c d : Int32) (i : Nat) : Bool := decide (ow i = a ∧ pl i = b ∧ lo i = c ∧ hi i = d)
theorem c_E_findFree {l : Launch} {o n : Nat} {sg : Nat → va_E} {la : Int64} {ow pl lo hi am : Nat → Int32} {ins owd : Nat → Nat → Int64} (hn : 64 ≤ n) (hE : isE sg o la) (hS : isPs sg o ow pl lo hi am ins owd) : GM l y_E_findFree b_E_findFree 2 (some (.object "RangeExchange$Position")) 2 32 0 0 o n n sg false [.ref (ad o 0)] (gR (some (pRef o (fnd (pNone am owd) 12))) sg) := by
  have he1 : sg 0 = _ := hE
  obtain ⟨f, hf1, hf2, hf3⟩ := hS
  refine GM_of (by decide) (Nat.le_of_ble_eq_true rfl) ?_
  intro K C hl hz hr hnm E
  show G K o n sg 0 0 0 [(0, .ref (ad o 0))] []
  have loop : ∀ k : Nat, k ≤ 12 → fnd (pNone am owd) k = fnd (pNone am owd) 12 → ∀ x : Int32, x = nI (12 - k) → G K o n sg 0 0 2 [(1, .int x), (0, .ref (ad o 0))] [] := by
    intro k
    induction k with
    | zero =>
      intro hk hg x ex
      refine g_iload_n C rfl rfl d_E_findFree_2 ?_
      refine g_bipush (v := 12) C rfl d_E_findFree_3 ?_
      refine g_icmp_ge (tgt := 33) C d_E_findFree_5 (by decide) (fun j5 => ?_) (fun j5 => ?_)
      rotate_left
      · exact absurd (by rw [ex]; decide) j5
      refine g_null C d_E_findFree_33 ?_
      refine g_aret C E hr (Or.inl ⟨_, rfl⟩) d_E_findFree_34 (Or.inl rfl) ?_
      exact ⟨by rw [← hg]; rfl, rfl⟩
    | succ k ih =>
      intro hk hg x ex
      have ex2 : x = nI (11 - k) := by rw [ex]; congr 1; omega
      have hi : 11 - k < 12 := by omega
      have hfi : f (nI (11 - k)).toNatClampNeg = some (ad o (28 + 3 * (11 - k))) := by rw [nI_clamp (by omega)]; exact hf2 _ hi
      have hs := hf3 (11 - k) hi
      have hs1 := hs.1
      rw [ex2]
      refine g_iload_n C rfl rfl d_E_findFree_2 ?_
      refine g_bipush (v := 12) C rfl d_E_findFree_3 ?_
      refine g_icmp_ge (tgt := 33) C d_E_findFree_5 (by decide) (fun j5 => ?_) (fun j5 => ?_)
      · exact absurd j5 (nI_ge (a := 11 - k) (b := 12) (by omega) (by decide))
      refine g_aload_n C rfl rfl d_E_findFree_8 ?_
      refine gf_E_34 C d_E_findFree_9 (by first | assumption | omega) (by repeat' first | assumption | exact up_eq _ _ _ | refine up_ne (by omega) ?_) (by rfl) ?_
      refine g_iload_n C rfl rfl d_E_findFree_12 ?_
      refine g_aldq C d_E_findFree_13 4 (fun _ => rfl) (by first | assumption | omega) (by repeat' first | assumption | exact up_eq _ _ _ | refine up_ne (by omega) ?_) (vp_in_nI hi (by decide)) hfi ?_
      refine g_callV C (c_S_isNone (by omega) hs) Y_S_isNone m_222 m_223 m_221 rfl rfl ⟨by decide, by decide⟩ ⟨by decide, by decide⟩ (fun h => nomatch h) d_E_findFree_14 (by first | assumption | omega) (by repeat' first | assumption | exact up_eq _ _ _ | refine up_ne (by omega) ?_) rfl (Nat.le_of_ble_eq_true rfl) (fun ret sg14 hq => ?_)
      obtain ⟨rfl, rfl⟩ := hq
      refine g_if_eq (tgt := 27) C d_E_findFree_17 (by decide) (fun j17 => ?_) (fun j17 => ?_)
      · obtain ⟨y, e_y⟩ : ∃ y : Int32, ((nI (11 - k))) + Int32.ofInt 1 = y := ⟨_, rfl⟩
        refine g_iinc (lv' := [(1, .int y), (0, .ref (ad o 0))]) C d_E_findFree_27 rfl e_y (by decide) rfl ?_
        refine g_goto (tgt := 2) C d_E_findFree_30 (by decide) ?_
        exact ih (by omega) (by rw [← hg, fnd, if_neg (fun q => absurd ((bz_eq0 _).mp j17) (by rw [show decide _ = true from q]; decide))]) _ (by rw [← e_y]; exact (nI_1 _).trans (congrArg nI (by omega)))
      · refine g_aload_n C rfl rfl d_E_findFree_20 ?_
        refine gf_E_34 C d_E_findFree_21 (by first | assumption | omega) (by repeat' first | assumption | exact up_eq _ _ _ | refine up_ne (by omega) ?_) (by rfl) ?_
        refine g_iload_n C rfl rfl d_E_findFree_24 ?_
        refine g_aldq C d_E_findFree_25 4 (fun _ => rfl) (by first | assumption | omega) (by repeat' first | assumption | exact up_eq _ _ _ | refine up_ne (by omega) ?_) (vp_in_nI hi (by decide)) hfi ?_
        refine g_aret C E hr (Or.inl ⟨_, rfl⟩) d_E_findFree_26 (Or.inr ⟨_, rfl⟩) ?_
        exact ⟨by rw [← hg, fnd, if_pos (show pNone am owd (11 - k) = true from Bool.not_eq_false _ ▸ (fun q => j17 ((bz_eq0 _).mpr q)))]; rfl, rfl⟩
  refine g_iconst (v := 0) C rfl d_E_findFree_0 ?_
  refine g_topi (fun x e_x => ?_)
  refine g_istore_n (lv' := [(1, .int x), (0, .ref (ad o 0))]) C d_E_findFree_1 rfl (by decide) rfl ?_
  exact loop 12 (by omega) rfl _ e_x
theorem c_E_find {l : Launch} {o n : Nat} {sg : Nat → va_E} {la : Int64} {ow pl lo hi am : Nat → Int32} {ins owd : Nat → Nat → Int64} (a b c d : Int32) (hn : 64 ≤ n) (hE : isE sg o la) (hS : isPs sg o ow pl lo hi am ins owd) : GM l y_E_find b_E_find 6 (some (.object "RangeExchange$Position")) 2 36 0 0 o n n sg false [.ref (ad o 0), .int a, .int b, .int c, .int d] (gR (some (pRef o (fnd (fun i => !pNone am owd i && pIs ow pl lo hi a b c d i) 12))) sg) := by
  have he1 : sg 0 = _ := hE
  obtain ⟨f, hf1, hf2, hf3⟩ := hS
  refine GM_of (by decide) (Nat.le_of_ble_eq_true rfl) ?_
  intro K C hl hz hr hnm E
  show G K o n sg 0 0 0 [(0, .ref (ad o 0)), (1, .int a), (2, .int b), (3, .int c), (4, .int d)] []
  have loop : ∀ k : Nat, k ≤ 12 → fnd (fun i => !pNone am owd i && pIs ow pl lo hi a b c d i) k = fnd (fun i => !pNone am owd i && pIs ow pl lo hi a b c d i) 12 → ∀ x : Int32, x = nI (12 - k) → G K o n sg 0 0 3 [(5, .int x), (0, .ref (ad o 0)), (1, .int a), (2, .int b), (3, .int c), (4, .int d)] [] := by
    intro k
    induction k with
    | zero =>
      intro hk hg x ex
      refine g_iload C rfl d_E_find_3 ?_
      refine g_bipush (v := 12) C rfl d_E_find_5 ?_
      refine g_icmp_ge (tgt := 55) C d_E_find_7 (by decide) (fun j7 => ?_) (fun j7 => ?_)
      rotate_left
      · exact absurd (by rw [ex]; decide) j7
      refine g_null C d_E_find_55 ?_
      refine g_aret C E hr (Or.inl ⟨_, rfl⟩) d_E_find_56 (Or.inl rfl) ?_
      exact ⟨by rw [← hg]; rfl, rfl⟩
    | succ k ih =>
      intro hk hg x ex
      have ex2 : x = nI (11 - k) := by rw [ex]; congr 1; omega
      have hi2 : 11 - k < 12 := by omega
      have hfi : f (nI (11 - k)).toNatClampNeg = some (ad o (28 + 3 * (11 - k))) := by rw [nI_clamp (by omega)]; exact hf2 _ hi2
      have hs := hf3 (11 - k) hi2
      have hs1 := hs.1
      rw [ex2]
      refine g_iload C rfl d_E_find_3 ?_
      refine g_bipush (v := 12) C rfl d_E_find_5 ?_
      refine g_icmp_ge (tgt := 55) C d_E_find_7 (by decide) (fun j7 => ?_) (fun j7 => ?_)
      · exact absurd j7 (nI_ge (a := 11 - k) (b := 12) (by omega) (by decide))
      refine g_aload_n C rfl rfl d_E_find_10 ?_
      refine gf_E_34 C d_E_find_11 (by first | assumption | omega) (by repeat' first | assumption | exact up_eq _ _ _ | refine up_ne (by omega) ?_) (by rfl) ?_
      refine g_iload C rfl d_E_find_14 ?_
      refine g_aldq C d_E_find_16 4 (fun _ => rfl) (by first | assumption | omega) (by repeat' first | assumption | exact up_eq _ _ _ | refine up_ne (by omega) ?_) (vp_in_nI hi2 (by decide)) hfi ?_
      refine g_callV C (c_S_isNone (by omega) hs) Y_S_isNone m_222 m_223 m_221 rfl rfl ⟨by decide, by decide⟩ ⟨by decide, by decide⟩ (fun h => nomatch h) d_E_find_17 (by first | assumption | omega) (by repeat' first | assumption | exact up_eq _ _ _ | refine up_ne (by omega) ?_) rfl (Nat.le_of_ble_eq_true rfl) (fun ret sg17 hq => ?_)
      obtain ⟨rfl, rfl⟩ := hq
      refine g_if_ne (tgt := 49) C d_E_find_20 (by decide) (fun j20 => ?_) (fun j20 => ?_)
      · obtain ⟨y, e_y⟩ : ∃ y : Int32, ((nI (11 - k))) + Int32.ofInt 1 = y := ⟨_, rfl⟩
        refine g_iinc (lv' := [(5, .int y), (0, .ref (ad o 0)), (1, .int a), (2, .int b), (3, .int c), (4, .int d)]) C d_E_find_49 rfl e_y (by decide) rfl ?_
        refine g_goto (tgt := 3) C d_E_find_52 (by decide) ?_
        refine g_pick [0, 1, 2, 3, 4, 5] rfl ?_
        refine ih (by omega) ?_ _ (by rw [← e_y]; exact (nI_1 _).trans (congrArg nI (by omega)))
        first | (rw [← hg, fnd, if_neg (by rw [show pIs ow pl lo hi a b c d (11 - k) = false from (bz_eq0 _).mp j38, Bool.and_false]; decide)]) | (rw [← hg, fnd, if_neg (by rw [show pNone am owd (11 - k) = true from Bool.not_eq_false _ ▸ (fun q => j20 ((bz_eq0 _).mpr q))]; exact fun q => absurd q Bool.false_ne_true)])
      · refine g_aload_n C rfl rfl d_E_find_23 ?_
        refine gf_E_34 C d_E_find_24 (by first | assumption | omega) (by repeat' first | assumption | exact up_eq _ _ _ | refine up_ne (by omega) ?_) (by rfl) ?_
        refine g_iload C rfl d_E_find_27 ?_
        refine g_aldq C d_E_find_29 4 (fun _ => rfl) (by first | assumption | omega) (by repeat' first | assumption | exact up_eq _ _ _ | refine up_ne (by omega) ?_) (vp_in_nI hi2 (by decide)) hfi ?_
        refine g_iload_n C rfl rfl d_E_find_30 ?_
        refine g_iload_n C rfl rfl d_E_find_31 ?_
        refine g_iload_n C rfl rfl d_E_find_32 ?_
        refine g_iload C rfl d_E_find_33 ?_
        refine g_callV C (c_S_isOf a b c d (by omega) hs) Y_S_isOf m_226 m_227 m_225 rfl rfl ⟨by decide, by decide⟩ ⟨by decide, by decide⟩ (fun h => nomatch h) d_E_find_35 (by first | assumption | omega) (by repeat' first | assumption | exact up_eq _ _ _ | refine up_ne (by omega) ?_) rfl (Nat.le_of_ble_eq_true rfl) (fun ret sg35 hq => ?_)
        obtain ⟨rfl, rfl⟩ := hq
        refine g_if_eq (tgt := 49) C d_E_find_38 (by decide) (fun j38 => ?_) (fun j38 => ?_)
        · obtain ⟨y, e_y⟩ : ∃ y : Int32, ((nI (11 - k))) + Int32.ofInt 1 = y := ⟨_, rfl⟩
          refine g_iinc (lv' := [(5, .int y), (0, .ref (ad o 0)), (1, .int a), (2, .int b), (3, .int c), (4, .int d)]) C d_E_find_49 rfl e_y (by decide) rfl ?_
          refine g_goto (tgt := 3) C d_E_find_52 (by decide) ?_
          refine g_pick [0, 1, 2, 3, 4, 5] rfl ?_
          refine ih (by omega) ?_ _ (by rw [← e_y]; exact (nI_1 _).trans (congrArg nI (by omega)))
          first | (rw [← hg, fnd, if_neg (by rw [show pIs ow pl lo hi a b c d (11 - k) = false from (bz_eq0 _).mp j38, Bool.and_false]; decide)]) | (rw [← hg, fnd, if_neg (by rw [show pNone am owd (11 - k) = true from Bool.not_eq_false _ ▸ (fun q => j20 ((bz_eq0 _).mpr q))]; exact fun q => absurd q Bool.false_ne_true)])
        · refine g_aload_n C rfl rfl d_E_find_41 ?_
          refine gf_E_34 C d_E_find_42 (by first | assumption | omega) (by repeat' first | assumption | exact up_eq _ _ _ | refine up_ne (by omega) ?_) (by rfl) ?_
          refine g_iload C rfl d_E_find_45 ?_
          refine g_aldq C d_E_find_47 4 (fun _ => rfl) (by first | assumption | omega) (by repeat' first | assumption | exact up_eq _ _ _ | refine up_ne (by omega) ?_) (vp_in_nI hi2 (by decide)) hfi ?_
          refine g_aret C E hr (Or.inl ⟨_, rfl⟩) d_E_find_48 (Or.inr ⟨_, rfl⟩) ?_
          exact ⟨by rw [← hg, fnd, if_pos (by rw [show pNone am owd (11 - k) = false from (bz_eq0 _).mp j20, show pIs ow pl lo hi a b c d (11 - k) = true from Bool.not_eq_false _ ▸ (fun q => j38 ((bz_eq0 _).mpr q))]; rfl)]; rfl, rfl⟩
  refine g_iconst (v := 0) C rfl d_E_find_0 ?_
  refine g_topi (fun x e_x => ?_)
  refine g_istore (lv' := [(5, .int x), (0, .ref (ad o 0)), (1, .int a), (2, .int b), (3, .int c), (4, .int d)]) C d_E_find_1 (by decide) rfl ?_
  exact loop 12 (by omega) rfl _ e_x

