-- THE REFERENCE'S OBJECT
def isM (sg : Nat → va_E) (o m : Nat) (th : Int32) (la : Int64) : Prop := sg m = eO 1 [.int th, .ref (ad o (m + 1)), .ref (ad o (m + 2)), .ref (ad o (m + 3)), .ref (ad o (m + 4)), .ref (ad o (m + 5)), .ref (ad o (m + 6)), .ref (ad o (m + 7)), .ref (ad o (m + 8)), .ref (ad o (m + 9)), .ref (ad o (m + 10)), .ref (ad o (m + 11)), .ref (ad o (m + 12)), .ref (ad o (m + 13)), .ref (ad o (m + 14)), .ref (ad o (m + 15)), .ref (ad o (m + 16)), .ref (ad o (m + 17)), .ref (ad o (m + 18)), .ref (ad o (m + 19)), .ref (ad o (m + 20)), .ref (ad o (m + 21)), .ref (ad o (m + 22)), .long la]
def isMR (sg : Nat → va_E) (m : Nat) : Prop := ∃ f : Nat → Int64, sg (m + 1) = eJ 81 f ∧ ∀ i, i ≤ 80 → f i = lN (rt i)
/-- the twelve positions as the reference keeps them -/
def isMP (sg : Nat → va_E) (m : Nat) (th : Nat → Bool) (ow pl : Nat → Nat) (lo hi : Nat → Int) (am : Nat → Nat) : Prop := sg (m + 9) = eZ 12 (fun i => bz (th i)) ∧ sg (m + 10) = eI 12 (fun i => nI (ow i)) ∧ sg (m + 11) = eI 12 (fun i => nI (pl i)) ∧ sg (m + 12) = eI 12 (fun i => iI (lo i)) ∧ sg (m + 13) = eI 12 (fun i => iI (hi i)) ∧ sg (m + 14) = eJ 12 (fun i => lN (am i))
theorem c_M_rootOf {l : Launch} {o n : Nat} {sg : Nat → va_E} {m : Nat} {th : Int32} {la : Int64} (z : Int) (hn : m + 22 < n) (hM : isM sg o m th la) (hR : isMR sg m) (h3 : -40 ≤ z) (h4 : z ≤ 40) : GM l y_M_rootOf b_M_rootOf 2 (some .long) 1 12 0 0 o n n sg false [.ref (ad o m), .int (iI z)] (gR (some (.long (lN (rt (tx z))))) sg) := by
  have hm1 : sg m = _ := hM
  obtain ⟨f, hf1, hf2⟩ := hR
  refine GM_of (by decide) (Nat.le_of_ble_eq_true rfl) ?_
  intro K C hl hz hr hnm E
  show G K o n sg 0 0 0 [(0, .ref (ad o m)), (1, .int (iI z))] []
  refine g_aload_n C rfl rfl d_M_rootOf_0 ?_
  refine gf_M_7 C d_M_rootOf_1 (by first | assumption | omega) (by repeat' first | assumption | exact up_eq _ _ _ | refine up_ne (by omega) ?_) (by rfl) ?_
  refine g_iload_n C rfl rfl d_M_rootOf_4 ?_
  refine g_bipush (v := 40) C rfl d_M_rootOf_5 ?_
  refine g_iadd C d_M_rootOf_7 ?_
  rw [show (40 : Int32) = iI 40 from rfl, iI_add]
  refine g_lald C d_M_rootOf_8 (by first | assumption | omega) (by repeat' first | assumption | exact up_eq _ _ _ | refine up_ne (by omega) ?_) (tx_in h3 h4) ?_
  rw [tx_cl h3 h4, hf2 _ (tx_le h4)]
  refine g_lret C E hr d_M_rootOf_9 ⟨rfl, rfl⟩
theorem c_M_isOwner {l : Launch} {o n : Nat} {sg : Nat → va_E} (i : Int32) : GM l y_M_isOwner b_M_isOwner 1 (some .boolean) 1 12 0 0 o n n sg false [.int i] (gR (some (.int (bz (decide (¬ i < 0 ∧ i < 4))))) sg) := by
  refine GM_of (by decide) (Nat.le_of_ble_eq_true rfl) ?_
  intro K C hl hz hr hnm E
  show G K o n sg 0 0 0 [(0, .int i)] []
  refine g_iload_n C rfl rfl d_M_isOwner_0 ?_
  refine g_if_lt (tgt := 13) C d_M_isOwner_1 (by decide) (fun j1 => ?_) (fun j1 => ?_)
  · refine g_iconst (v := 0) C rfl d_M_isOwner_13 ?_
    refine g_zret C E hr d_M_isOwner_14 rfl ?_
    refine ⟨congrArg (fun z => some (Value.int z)) ?_, rfl⟩
    first | (rw [decide_eq_true ⟨j1, Int32.not_le.mp j6⟩]; rfl) | (rw [decide_eq_false (fun z => absurd (Int32.not_lt.mpr j6) (fun w => w z.2))]; rfl) | (rw [decide_eq_false (fun z => z.1 j1)]; rfl)
  · refine g_iload_n C rfl rfl d_M_isOwner_4 ?_
    refine g_iconst (v := 4) C rfl d_M_isOwner_5 ?_
    refine g_icmp_ge (tgt := 13) C d_M_isOwner_6 (by decide) (fun j6 => ?_) (fun j6 => ?_)
    · refine g_iconst (v := 0) C rfl d_M_isOwner_13 ?_
      refine g_zret C E hr d_M_isOwner_14 rfl ?_
      refine ⟨congrArg (fun z => some (Value.int z)) ?_, rfl⟩
      first | (rw [decide_eq_true ⟨j1, Int32.not_le.mp j6⟩]; rfl) | (rw [decide_eq_false (fun z => absurd (Int32.not_lt.mpr j6) (fun w => w z.2))]; rfl) | (rw [decide_eq_false (fun z => z.1 j1)]; rfl)
    · refine g_iconst (v := 1) C rfl d_M_isOwner_9 ?_
      refine g_goto (tgt := 14) C d_M_isOwner_10 (by decide) ?_
      refine g_zret C E hr d_M_isOwner_14 rfl ?_
      refine ⟨congrArg (fun z => some (Value.int z)) ?_, rfl⟩
      first | (rw [decide_eq_true ⟨j1, Int32.not_le.mp j6⟩]; rfl) | (rw [decide_eq_false (fun z => absurd (Int32.not_lt.mpr j6) (fun w => w z.2))]; rfl) | (rw [decide_eq_false (fun z => z.1 j1)]; rfl)
theorem c_M_isToken {l : Launch} {o n : Nat} {sg : Nat → va_E} (i : Int32) : GM l y_M_isToken b_M_isToken 1 (some .boolean) 1 12 0 0 o n n sg false [.int i] (gR (some (.int (bz (decide (¬ i < 0 ∧ i < 3))))) sg) := by
  refine GM_of (by decide) (Nat.le_of_ble_eq_true rfl) ?_
  intro K C hl hz hr hnm E
  show G K o n sg 0 0 0 [(0, .int i)] []
  refine g_iload_n C rfl rfl d_M_isToken_0 ?_
  refine g_if_lt (tgt := 13) C d_M_isToken_1 (by decide) (fun j1 => ?_) (fun j1 => ?_)
  · refine g_iconst (v := 0) C rfl d_M_isToken_13 ?_
    refine g_zret C E hr d_M_isToken_14 rfl ?_
    refine ⟨congrArg (fun z => some (Value.int z)) ?_, rfl⟩
    first | (rw [decide_eq_true ⟨j1, Int32.not_le.mp j6⟩]; rfl) | (rw [decide_eq_false (fun z => absurd (Int32.not_lt.mpr j6) (fun w => w z.2))]; rfl) | (rw [decide_eq_false (fun z => z.1 j1)]; rfl)
  · refine g_iload_n C rfl rfl d_M_isToken_4 ?_
    refine g_iconst (v := 3) C rfl d_M_isToken_5 ?_
    refine g_icmp_ge (tgt := 13) C d_M_isToken_6 (by decide) (fun j6 => ?_) (fun j6 => ?_)
    · refine g_iconst (v := 0) C rfl d_M_isToken_13 ?_
      refine g_zret C E hr d_M_isToken_14 rfl ?_
      refine ⟨congrArg (fun z => some (Value.int z)) ?_, rfl⟩
      first | (rw [decide_eq_true ⟨j1, Int32.not_le.mp j6⟩]; rfl) | (rw [decide_eq_false (fun z => absurd (Int32.not_lt.mpr j6) (fun w => w z.2))]; rfl) | (rw [decide_eq_false (fun z => z.1 j1)]; rfl)
    · refine g_iconst (v := 1) C rfl d_M_isToken_9 ?_
      refine g_goto (tgt := 14) C d_M_isToken_10 (by decide) ?_
      refine g_zret C E hr d_M_isToken_14 rfl ?_
      refine ⟨congrArg (fun z => some (Value.int z)) ?_, rfl⟩
      first | (rw [decide_eq_true ⟨j1, Int32.not_le.mp j6⟩]; rfl) | (rw [decide_eq_false (fun z => absurd (Int32.not_lt.mpr j6) (fun w => w z.2))]; rfl) | (rw [decide_eq_false (fun z => z.1 j1)]; rfl)
theorem two_i {i : Int32} : (¬ i < 0 ∧ i < 2) ↔ (i = 0 ∨ i = 1) := by
  constructor
  · rintro ⟨h1, h2⟩
    obtain ⟨j, hj, rfl⟩ := nI_of h1
    have h3 : nI j < nI 2 := h2
    rw [nI_ltI hj (by decide)] at h3
    rcases (show j = 0 ∨ j = 1 by omega) with rfl | rfl
    · exact Or.inl rfl
    · exact Or.inr rfl
  · rintro (rfl | rfl) <;> decide
theorem c_M_isPool {l : Launch} {o n : Nat} {sg : Nat → va_E} (i : Int32) : GM l y_M_isPool b_M_isPool 1 (some .boolean) 1 12 0 0 o n n sg false [.int i] (gR (some (.int (bz (decide (¬ i < 0 ∧ i < 2))))) sg) := by
  refine GM_of (by decide) (Nat.le_of_ble_eq_true rfl) ?_
  intro K C hl hz hr hnm E
  show G K o n sg 0 0 0 [(0, .int i)] []
  refine g_iload_n C rfl rfl d_M_isPool_0 ?_
  refine g_if_eq (tgt := 9) C d_M_isPool_1 (by decide) (fun j1 => ?_) (fun j1 => ?_)
  · refine g_iconst (v := 1) C rfl d_M_isPool_9 ?_
    refine g_goto (tgt := 14) C d_M_isPool_10 (by decide) ?_
    refine g_zret C E hr d_M_isPool_14 rfl ?_
    refine ⟨congrArg (fun z => some (Value.int z)) ?_, rfl⟩
    first | (rw [decide_eq_true (two_i.mpr (Or.inl j1))]; rfl) | (rw [decide_eq_true (two_i.mpr (Or.inr j6))]; rfl) | (rw [decide_eq_false (fun z => (two_i.mp z).elim j1 j6)]; rfl)
  · refine g_iload_n C rfl rfl d_M_isPool_4 ?_
    refine g_iconst (v := 1) C rfl d_M_isPool_5 ?_
    refine g_icmp_ne (tgt := 13) C d_M_isPool_6 (by decide) (fun j6 => ?_) (fun j6 => ?_)
    · refine g_iconst (v := 0) C rfl d_M_isPool_13 ?_
      refine g_zret C E hr d_M_isPool_14 rfl ?_
      refine ⟨congrArg (fun z => some (Value.int z)) ?_, rfl⟩
      first | (rw [decide_eq_true (two_i.mpr (Or.inl j1))]; rfl) | (rw [decide_eq_true (two_i.mpr (Or.inr j6))]; rfl) | (rw [decide_eq_false (fun z => (two_i.mp z).elim j1 j6)]; rfl)
    · refine g_iconst (v := 1) C rfl d_M_isPool_9 ?_
      refine g_goto (tgt := 14) C d_M_isPool_10 (by decide) ?_
      refine g_zret C E hr d_M_isPool_14 rfl ?_
      refine ⟨congrArg (fun z => some (Value.int z)) ?_, rfl⟩
      first | (rw [decide_eq_true (two_i.mpr (Or.inl j1))]; rfl) | (rw [decide_eq_true (two_i.mpr (Or.inr j6))]; rfl) | (rw [decide_eq_false (fun z => (two_i.mp z).elim j1 j6)]; rfl)
theorem c_M_isTick {l : Launch} {o n : Nat} {sg : Nat → va_E} (t : Int32) : GM l y_M_isTick b_M_isTick 1 (some .boolean) 1 12 0 0 o n n sg false [.int t] (gR (some (.int (bz (decide (-40 ≤ t ∧ t ≤ 40))))) sg) := by
  refine GM_of (by decide) (Nat.le_of_ble_eq_true rfl) ?_
  intro K C hl hz hr hnm E
  show G K o n sg 0 0 0 [(0, .int t)] []
  refine g_iload_n C rfl rfl d_M_isTick_0 ?_
  refine g_bipush (v := -40) C rfl d_M_isTick_1 ?_
  refine g_icmp_lt (tgt := 16) C d_M_isTick_3 (by decide) (fun j3 => ?_) (fun j3 => ?_)
  · refine g_iconst (v := 0) C rfl d_M_isTick_16 ?_
    refine g_zret C E hr d_M_isTick_17 rfl ?_
    refine ⟨congrArg (fun z => some (Value.int z)) ?_, rfl⟩
    first | (rw [decide_eq_true ⟨Int32.not_lt.mp j3, Int32.not_lt.mp j9⟩]; rfl) | (rw [decide_eq_false (fun z => absurd j9 (Int32.not_lt.mpr z.2))]; rfl) | (rw [decide_eq_false (fun z => absurd j3 (Int32.not_lt.mpr z.1))]; rfl)
  · refine g_iload_n C rfl rfl d_M_isTick_6 ?_
    refine g_bipush (v := 40) C rfl d_M_isTick_7 ?_
    refine g_icmp_gt (tgt := 16) C d_M_isTick_9 (by decide) (fun j9 => ?_) (fun j9 => ?_)
    · refine g_iconst (v := 0) C rfl d_M_isTick_16 ?_
      refine g_zret C E hr d_M_isTick_17 rfl ?_
      refine ⟨congrArg (fun z => some (Value.int z)) ?_, rfl⟩
      first | (rw [decide_eq_true ⟨Int32.not_lt.mp j3, Int32.not_lt.mp j9⟩]; rfl) | (rw [decide_eq_false (fun z => absurd j9 (Int32.not_lt.mpr z.2))]; rfl) | (rw [decide_eq_false (fun z => absurd j3 (Int32.not_lt.mpr z.1))]; rfl)
    · refine g_iconst (v := 1) C rfl d_M_isTick_12 ?_
      refine g_goto (tgt := 17) C d_M_isTick_13 (by decide) ?_
      refine g_zret C E hr d_M_isTick_17 rfl ?_
      refine ⟨congrArg (fun z => some (Value.int z)) ?_, rfl⟩
      first | (rw [decide_eq_true ⟨Int32.not_lt.mp j3, Int32.not_lt.mp j9⟩]; rfl) | (rw [decide_eq_false (fun z => absurd j9 (Int32.not_lt.mpr z.2))]; rfl) | (rw [decide_eq_false (fun z => absurd j3 (Int32.not_lt.mpr z.1))]; rfl)
def bPl (a b c d : Int32) : Bool := decide (¬ a < 0 ∧ a < 4) && (decide (¬ b < 0 ∧ b < 2) && (decide (-40 ≤ c ∧ c ≤ 40) && decide (-40 ≤ d ∧ d ≤ 40)))
theorem nb0 {x : Bool} (h : ¬ bz x = 0) : x = true := by cases x; exact absurd rfl h; rfl
theorem c_M_all {l : Launch} {o n : Nat} {sg : Nat → va_E} (a b c d : Int32) : GM l y_M_all b_M_all 4 (some .boolean) 2 32 0 0 o n n sg false [.int a, .int b, .int c, .int d] (gR (some (.int (bz (bPl a b c d)))) sg) := by
  refine GM_of (by decide) (Nat.le_of_ble_eq_true rfl) ?_
  intro K C hl hz hr hnm E
  show G K o n sg 0 0 0 [(0, .int a), (1, .int b), (2, .int c), (3, .int d)] []
  refine g_iload_n C rfl rfl d_M_all_0 ?_
  refine g_callS C (c_M_isOwner a) Y_M_isOwner m_726 m_725 ⟨by decide, by decide⟩ ⟨by decide, by decide⟩ (fun h => nomatch h) d_M_all_1 rfl (Nat.le_of_ble_eq_true rfl) (fun ret sg1 hq => ?_)
  obtain ⟨rfl, rfl⟩ := hq
  refine g_if_eq (tgt := 32) C d_M_all_4 (by decide) (fun j4 => ?_) (fun j4 => ?_)
  · refine g_iconst (v := 0) C rfl d_M_all_32 ?_
    refine g_zret C E hr d_M_all_33 rfl ?_
    refine ⟨congrArg (fun z => some (Value.int z)) ?_, rfl⟩
    first | (rw [bPl, nb0 j4, nb0 j11, nb0 j18, nb0 j25]; rfl) | (rw [bPl, nb0 j4, nb0 j11, nb0 j18, (bz_eq0 _).mp j25]; rfl) | (rw [bPl, nb0 j4, nb0 j11, (bz_eq0 _).mp j18]; rfl) | (rw [bPl, nb0 j4, (bz_eq0 _).mp j11]; rfl) | (rw [bPl, (bz_eq0 _).mp j4]; rfl)
  · refine g_iload_n C rfl rfl d_M_all_7 ?_
    refine g_callS C (c_M_isPool b) Y_M_isPool m_744 m_743 ⟨by decide, by decide⟩ ⟨by decide, by decide⟩ (fun h => nomatch h) d_M_all_8 rfl (Nat.le_of_ble_eq_true rfl) (fun ret sg8 hq => ?_)
    obtain ⟨rfl, rfl⟩ := hq
    refine g_if_eq (tgt := 32) C d_M_all_11 (by decide) (fun j11 => ?_) (fun j11 => ?_)
    · refine g_iconst (v := 0) C rfl d_M_all_32 ?_
      refine g_zret C E hr d_M_all_33 rfl ?_
      refine ⟨congrArg (fun z => some (Value.int z)) ?_, rfl⟩
      first | (rw [bPl, nb0 j4, nb0 j11, nb0 j18, nb0 j25]; rfl) | (rw [bPl, nb0 j4, nb0 j11, nb0 j18, (bz_eq0 _).mp j25]; rfl) | (rw [bPl, nb0 j4, nb0 j11, (bz_eq0 _).mp j18]; rfl) | (rw [bPl, nb0 j4, (bz_eq0 _).mp j11]; rfl) | (rw [bPl, (bz_eq0 _).mp j4]; rfl)
    · refine g_iload_n C rfl rfl d_M_all_14 ?_
      refine g_callS C (c_M_isTick c) Y_M_isTick m_747 m_746 ⟨by decide, by decide⟩ ⟨by decide, by decide⟩ (fun h => nomatch h) d_M_all_15 rfl (Nat.le_of_ble_eq_true rfl) (fun ret sg15 hq => ?_)
      obtain ⟨rfl, rfl⟩ := hq
      refine g_if_eq (tgt := 32) C d_M_all_18 (by decide) (fun j18 => ?_) (fun j18 => ?_)
      · refine g_iconst (v := 0) C rfl d_M_all_32 ?_
        refine g_zret C E hr d_M_all_33 rfl ?_
        refine ⟨congrArg (fun z => some (Value.int z)) ?_, rfl⟩
        first | (rw [bPl, nb0 j4, nb0 j11, nb0 j18, nb0 j25]; rfl) | (rw [bPl, nb0 j4, nb0 j11, nb0 j18, (bz_eq0 _).mp j25]; rfl) | (rw [bPl, nb0 j4, nb0 j11, (bz_eq0 _).mp j18]; rfl) | (rw [bPl, nb0 j4, (bz_eq0 _).mp j11]; rfl) | (rw [bPl, (bz_eq0 _).mp j4]; rfl)
      · refine g_iload_n C rfl rfl d_M_all_21 ?_
        refine g_callS C (c_M_isTick d) Y_M_isTick m_747 m_746 ⟨by decide, by decide⟩ ⟨by decide, by decide⟩ (fun h => nomatch h) d_M_all_22 rfl (Nat.le_of_ble_eq_true rfl) (fun ret sg22 hq => ?_)
        obtain ⟨rfl, rfl⟩ := hq
        refine g_if_eq (tgt := 32) C d_M_all_25 (by decide) (fun j25 => ?_) (fun j25 => ?_)
        · refine g_iconst (v := 0) C rfl d_M_all_32 ?_
          refine g_zret C E hr d_M_all_33 rfl ?_
          refine ⟨congrArg (fun z => some (Value.int z)) ?_, rfl⟩
          first | (rw [bPl, nb0 j4, nb0 j11, nb0 j18, nb0 j25]; rfl) | (rw [bPl, nb0 j4, nb0 j11, nb0 j18, (bz_eq0 _).mp j25]; rfl) | (rw [bPl, nb0 j4, nb0 j11, (bz_eq0 _).mp j18]; rfl) | (rw [bPl, nb0 j4, (bz_eq0 _).mp j11]; rfl) | (rw [bPl, (bz_eq0 _).mp j4]; rfl)
        · refine g_iconst (v := 1) C rfl d_M_all_28 ?_
          refine g_goto (tgt := 33) C d_M_all_29 (by decide) ?_
          refine g_zret C E hr d_M_all_33 rfl ?_
          refine ⟨congrArg (fun z => some (Value.int z)) ?_, rfl⟩
          first | (rw [bPl, nb0 j4, nb0 j11, nb0 j18, nb0 j25]; rfl) | (rw [bPl, nb0 j4, nb0 j11, nb0 j18, (bz_eq0 _).mp j25]; rfl) | (rw [bPl, nb0 j4, nb0 j11, (bz_eq0 _).mp j18]; rfl) | (rw [bPl, nb0 j4, (bz_eq0 _).mp j11]; rfl) | (rw [bPl, (bz_eq0 _).mp j4]; rfl)
theorem c_M_pay {l : Launch} {o n : Nat} {sg : Nat → va_E} {m : Nat} {th : Int32} {la : Int64} {bal hol : Nat → Int64} (a t : Nat) (x : Int64) (hn : m + 22 < n) (hM : isM sg o m th la) (hb : sg (m + 2) = eJ 12 bal) (hh : sg (m + 4) = eJ 3 hol) (ha : a < 4) (ht : t < 3) : GM l y_M_pay b_M_pay 5 none 1 12 0 0 o n n sg false [.ref (ad o m), .int (nI a), .int (nI t), .long x] (gR none (va_up (va_up sg (m + 2) (eJ 12 (vp_updL bal (a * 3 + t) (bal (a * 3 + t) - x)))) (m + 4) (eJ 3 (vp_updL hol t (hol t + x))))) := by
  have hm1 : sg m = _ := hM
  refine GM_of (by decide) (Nat.le_of_ble_eq_true rfl) ?_
  intro K C hl hz hr hnm E
  show G K o n sg 0 0 0 [(0, .ref (ad o m)), (1, .int (nI a)), (2, .int (nI t)), (3, .long x)] []
  refine g_aload_n C rfl rfl d_M_pay_0 ?_
  refine gf_M_13 C d_M_pay_1 (by first | assumption | omega) (by repeat' first | assumption | exact up_eq _ _ _ | refine up_ne (by omega) ?_) (by rfl) ?_
  refine g_iconst (v := 3) C rfl d_M_pay_4 ?_
  refine g_iload_n C rfl rfl d_M_pay_5 ?_
  refine g_imul C d_M_pay_6 ?_
  refine g_iload_n C rfl rfl d_M_pay_7 ?_
  refine g_iadd C d_M_pay_8 ?_
  rw [show (3 : Int32) = nI 3 from rfl, pk_mul, nI_add, Nat.mul_comm 3 a]
  refine g_dup2 C rfl rfl d_M_pay_9 ?_
  refine g_lald C d_M_pay_10 (by first | assumption | omega) (by repeat' first | assumption | exact up_eq _ _ _ | refine up_ne (by omega) ?_) (vp_in_nI (by omega) (by decide)) ?_
  refine g_lload_n C rfl rfl d_M_pay_11 ?_
  refine g_lsub C d_M_pay_12 ?_
  refine g_last C d_M_pay_13 (by first | assumption | omega) (by repeat' first | assumption | exact up_eq _ _ _ | refine up_ne (by omega) ?_) (vp_in_nI (by omega) (by decide)) ?_
  rw [nI_clamp (n := a * 3 + t) (by omega)]
  refine g_aload_n C rfl rfl d_M_pay_14 ?_
  refine gf_M_19 C d_M_pay_15 (by first | assumption | omega) (by repeat' first | assumption | exact up_eq _ _ _ | refine up_ne (by omega) ?_) (by rfl) ?_
  refine g_iload_n C rfl rfl d_M_pay_18 ?_
  refine g_dup2 C rfl rfl d_M_pay_19 ?_
  refine g_lald C d_M_pay_20 (by first | assumption | omega) (by repeat' first | assumption | exact up_eq _ _ _ | refine up_ne (by omega) ?_) (vp_in_nI ht (by decide)) ?_
  refine g_lload_n C rfl rfl d_M_pay_21 ?_
  refine g_ladd C d_M_pay_22 ?_
  refine g_last C d_M_pay_23 (by first | assumption | omega) (by repeat' first | assumption | exact up_eq _ _ _ | refine up_ne (by omega) ?_) (vp_in_nI ht (by decide)) ?_
  rw [nI_clamp (n := t) (by omega)]
  refine g_vret C E hr d_M_pay_24 ⟨rfl, rfl⟩
def mIs (th : Nat → Bool) (ow pl : Nat → Nat) (lo hi : Nat → Int) (a b c d : Int32) (i : Nat) : Bool := th i && decide (nI (ow i) = a ∧ nI (pl i) = b ∧ iI (lo i) = c ∧ iI (hi i) = d)
def mRef (r : Option Nat) : Int32 := match r with
  | none => -1
  | some i => nI i
theorem c_M_find {l : Launch} {o n : Nat} {sg : Nat → va_E} {m : Nat} {t0 : Int32} {la : Int64} {th : Nat → Bool} {ow pl : Nat → Nat} {lo hi : Nat → Int} {am : Nat → Nat} (a b c d : Int32) (hn : m + 22 < n) (hM : isM sg o m t0 la) (hP : isMP sg m th ow pl lo hi am) : GM l y_M_find b_M_find 6 (some .int) 1 12 0 0 o n n sg false [.ref (ad o m), .int a, .int b, .int c, .int d] (gR (some (.int (mRef (fnd (mIs th ow pl lo hi a b c d) 12)))) sg) := by
  have hm1 : sg m = _ := hM
  obtain ⟨p1, p2, p3, p4, p5, p6⟩ := hP
  refine GM_of (by decide) (Nat.le_of_ble_eq_true rfl) ?_
  intro K C hl hz hr hnm E
  show G K o n sg 0 0 0 [(0, .ref (ad o m)), (1, .int a), (2, .int b), (3, .int c), (4, .int d)] []
  have loop : ∀ k : Nat, k ≤ 12 → fnd (mIs th ow pl lo hi a b c d) k = fnd (mIs th ow pl lo hi a b c d) 12 → ∀ x : Int32, x = nI (12 - k) → G K o n sg 0 0 3 [(5, .int x), (0, .ref (ad o m)), (1, .int a), (2, .int b), (3, .int c), (4, .int d)] [] := by
    intro k
    induction k with
    | zero =>
      intro hk hg x ex
      refine g_iload C rfl d_M_find_3 ?_
      refine g_bipush (v := 12) C rfl d_M_find_5 ?_
      refine g_icmp_ge (tgt := 74) C d_M_find_7 (by decide) (fun j7 => ?_) (fun j7 => ?_)
      rotate_left
      · exact absurd (by rw [ex]; decide) j7
      refine g_iconst (v := -1) C rfl d_M_find_74 ?_
      refine g_iret C E hr d_M_find_75 ?_
      exact ⟨by rw [← hg]; rfl, rfl⟩
    | succ k ih =>
      intro hk hg x ex
      have ex2 : x = nI (11 - k) := by rw [ex]; congr 1; omega
      have hi2 : 11 - k < 12 := by omega
      have hcl : (nI (11 - k)).toNatClampNeg = 11 - k := nI_clamp (by omega)
      have hin : vp_in (nI (11 - k)) 12 := vp_in_nI hi2 (by decide)
      rw [ex2]
      refine g_iload C rfl d_M_find_3 ?_
      refine g_bipush (v := 12) C rfl d_M_find_5 ?_
      refine g_icmp_ge (tgt := 74) C d_M_find_7 (by decide) (fun j7 => ?_) (fun j7 => ?_)
      · exact absurd j7 (nI_ge (a := 11 - k) (b := 12) (by omega) (by decide))
      refine g_aload_n C rfl rfl d_M_find_10 ?_
      refine gf_M_35 C d_M_find_11 (by first | assumption | omega) (by repeat' first | assumption | exact up_eq _ _ _ | refine up_ne (by omega) ?_) (by rfl) ?_
      refine g_iload C rfl d_M_find_14 ?_
      refine g_zald C d_M_find_16 (by first | assumption | omega) (by repeat' first | assumption | exact up_eq _ _ _ | refine up_ne (by omega) ?_) hin ?_
      refine g_if_eq (tgt := 68) C d_M_find_17 (by decide) (fun j17 => ?_) (fun j17 => ?_)
      · obtain ⟨y, e_y⟩ : ∃ y : Int32, ((nI (11 - k))) + Int32.ofInt 1 = y := ⟨_, rfl⟩
        refine g_iinc (lv' := [(5, .int y), (0, .ref (ad o m)), (1, .int a), (2, .int b), (3, .int c), (4, .int d)]) C d_M_find_68 rfl e_y (by decide) rfl ?_
        refine g_goto (tgt := 3) C d_M_find_71 (by decide) ?_
        refine g_pick [0, 1, 2, 3, 4, 5] rfl ?_
        refine ih (by omega) ?_ _ (by rw [← e_y]; exact (nI_1 _).trans (congrArg nI (by omega)))
        rw [← hg, fnd, if_neg]
        intro w
        rw [mIs, Bool.and_eq_true] at w
        have w2 := of_decide_eq_true w.2
        first | (rw [hcl] at j62; exact j62 w2.2.2.2) | (rw [hcl] at j50; exact j50 w2.2.2.1) | (rw [hcl] at j39; exact j39 w2.2.1) | (rw [hcl] at j28; exact j28 w2.1) | (rw [hcl] at j17; have w3 := (bz_eq0 _).mp j17; rw [w.1] at w3; cases w3)
      · refine g_aload_n C rfl rfl d_M_find_20 ?_
        refine gf_M_39 C d_M_find_21 (by first | assumption | omega) (by repeat' first | assumption | exact up_eq _ _ _ | refine up_ne (by omega) ?_) (by rfl) ?_
        refine g_iload C rfl d_M_find_24 ?_
        refine g_iald C d_M_find_26 (by first | assumption | omega) (by repeat' first | assumption | exact up_eq _ _ _ | refine up_ne (by omega) ?_) hin ?_
        refine g_iload_n C rfl rfl d_M_find_27 ?_
        refine g_icmp_ne (tgt := 68) C d_M_find_28 (by decide) (fun j28 => ?_) (fun j28 => ?_)
        · obtain ⟨y, e_y⟩ : ∃ y : Int32, ((nI (11 - k))) + Int32.ofInt 1 = y := ⟨_, rfl⟩
          refine g_iinc (lv' := [(5, .int y), (0, .ref (ad o m)), (1, .int a), (2, .int b), (3, .int c), (4, .int d)]) C d_M_find_68 rfl e_y (by decide) rfl ?_
          refine g_goto (tgt := 3) C d_M_find_71 (by decide) ?_
          refine g_pick [0, 1, 2, 3, 4, 5] rfl ?_
          refine ih (by omega) ?_ _ (by rw [← e_y]; exact (nI_1 _).trans (congrArg nI (by omega)))
          rw [← hg, fnd, if_neg]
          intro w
          rw [mIs, Bool.and_eq_true] at w
          have w2 := of_decide_eq_true w.2
          first | (rw [hcl] at j62; exact j62 w2.2.2.2) | (rw [hcl] at j50; exact j50 w2.2.2.1) | (rw [hcl] at j39; exact j39 w2.2.1) | (rw [hcl] at j28; exact j28 w2.1) | (rw [hcl] at j17; have w3 := (bz_eq0 _).mp j17; rw [w.1] at w3; cases w3)
        · refine g_aload_n C rfl rfl d_M_find_31 ?_
          refine gf_M_42 C d_M_find_32 (by first | assumption | omega) (by repeat' first | assumption | exact up_eq _ _ _ | refine up_ne (by omega) ?_) (by rfl) ?_
          refine g_iload C rfl d_M_find_35 ?_
          refine g_iald C d_M_find_37 (by first | assumption | omega) (by repeat' first | assumption | exact up_eq _ _ _ | refine up_ne (by omega) ?_) hin ?_
          refine g_iload_n C rfl rfl d_M_find_38 ?_
          refine g_icmp_ne (tgt := 68) C d_M_find_39 (by decide) (fun j39 => ?_) (fun j39 => ?_)
          · obtain ⟨y, e_y⟩ : ∃ y : Int32, ((nI (11 - k))) + Int32.ofInt 1 = y := ⟨_, rfl⟩
            refine g_iinc (lv' := [(5, .int y), (0, .ref (ad o m)), (1, .int a), (2, .int b), (3, .int c), (4, .int d)]) C d_M_find_68 rfl e_y (by decide) rfl ?_
            refine g_goto (tgt := 3) C d_M_find_71 (by decide) ?_
            refine g_pick [0, 1, 2, 3, 4, 5] rfl ?_
            refine ih (by omega) ?_ _ (by rw [← e_y]; exact (nI_1 _).trans (congrArg nI (by omega)))
            rw [← hg, fnd, if_neg]
            intro w
            rw [mIs, Bool.and_eq_true] at w
            have w2 := of_decide_eq_true w.2
            first | (rw [hcl] at j62; exact j62 w2.2.2.2) | (rw [hcl] at j50; exact j50 w2.2.2.1) | (rw [hcl] at j39; exact j39 w2.2.1) | (rw [hcl] at j28; exact j28 w2.1) | (rw [hcl] at j17; have w3 := (bz_eq0 _).mp j17; rw [w.1] at w3; cases w3)
          · refine g_aload_n C rfl rfl d_M_find_42 ?_
            refine gf_M_45 C d_M_find_43 (by first | assumption | omega) (by repeat' first | assumption | exact up_eq _ _ _ | refine up_ne (by omega) ?_) (by rfl) ?_
            refine g_iload C rfl d_M_find_46 ?_
            refine g_iald C d_M_find_48 (by first | assumption | omega) (by repeat' first | assumption | exact up_eq _ _ _ | refine up_ne (by omega) ?_) hin ?_
            refine g_iload_n C rfl rfl d_M_find_49 ?_
            refine g_icmp_ne (tgt := 68) C d_M_find_50 (by decide) (fun j50 => ?_) (fun j50 => ?_)
            · obtain ⟨y, e_y⟩ : ∃ y : Int32, ((nI (11 - k))) + Int32.ofInt 1 = y := ⟨_, rfl⟩
              refine g_iinc (lv' := [(5, .int y), (0, .ref (ad o m)), (1, .int a), (2, .int b), (3, .int c), (4, .int d)]) C d_M_find_68 rfl e_y (by decide) rfl ?_
              refine g_goto (tgt := 3) C d_M_find_71 (by decide) ?_
              refine g_pick [0, 1, 2, 3, 4, 5] rfl ?_
              refine ih (by omega) ?_ _ (by rw [← e_y]; exact (nI_1 _).trans (congrArg nI (by omega)))
              rw [← hg, fnd, if_neg]
              intro w
              rw [mIs, Bool.and_eq_true] at w
              have w2 := of_decide_eq_true w.2
              first | (rw [hcl] at j62; exact j62 w2.2.2.2) | (rw [hcl] at j50; exact j50 w2.2.2.1) | (rw [hcl] at j39; exact j39 w2.2.1) | (rw [hcl] at j28; exact j28 w2.1) | (rw [hcl] at j17; have w3 := (bz_eq0 _).mp j17; rw [w.1] at w3; cases w3)
            · refine g_aload_n C rfl rfl d_M_find_53 ?_
              refine gf_M_48 C d_M_find_54 (by first | assumption | omega) (by repeat' first | assumption | exact up_eq _ _ _ | refine up_ne (by omega) ?_) (by rfl) ?_
              refine g_iload C rfl d_M_find_57 ?_
              refine g_iald C d_M_find_59 (by first | assumption | omega) (by repeat' first | assumption | exact up_eq _ _ _ | refine up_ne (by omega) ?_) hin ?_
              refine g_iload C rfl d_M_find_60 ?_
              refine g_icmp_ne (tgt := 68) C d_M_find_62 (by decide) (fun j62 => ?_) (fun j62 => ?_)
              · obtain ⟨y, e_y⟩ : ∃ y : Int32, ((nI (11 - k))) + Int32.ofInt 1 = y := ⟨_, rfl⟩
                refine g_iinc (lv' := [(5, .int y), (0, .ref (ad o m)), (1, .int a), (2, .int b), (3, .int c), (4, .int d)]) C d_M_find_68 rfl e_y (by decide) rfl ?_
                refine g_goto (tgt := 3) C d_M_find_71 (by decide) ?_
                refine g_pick [0, 1, 2, 3, 4, 5] rfl ?_
                refine ih (by omega) ?_ _ (by rw [← e_y]; exact (nI_1 _).trans (congrArg nI (by omega)))
                rw [← hg, fnd, if_neg]
                intro w
                rw [mIs, Bool.and_eq_true] at w
                have w2 := of_decide_eq_true w.2
                first | (rw [hcl] at j62; exact j62 w2.2.2.2) | (rw [hcl] at j50; exact j50 w2.2.2.1) | (rw [hcl] at j39; exact j39 w2.2.1) | (rw [hcl] at j28; exact j28 w2.1) | (rw [hcl] at j17; have w3 := (bz_eq0 _).mp j17; rw [w.1] at w3; cases w3)
              · refine g_iload C rfl d_M_find_65 ?_
                refine g_iret C E hr d_M_find_67 ?_
                rw [hcl] at j17 j28 j39 j50 j62
                exact ⟨by rw [← hg, fnd, if_pos (by rw [mIs, nb0 j17, decide_eq_true ⟨j28, j39, j50, j62⟩]; rfl)]; rfl, rfl⟩
  refine g_iconst (v := 0) C rfl d_M_find_0 ?_
  refine g_topi (fun x e_x => ?_)
  refine g_istore (lv' := [(5, .int x), (0, .ref (ad o m)), (1, .int a), (2, .int b), (3, .int c), (4, .int d)]) C d_M_find_1 (by decide) rfl ?_
  exact loop 12 (by omega) rfl _ e_x
theorem c_M_free {l : Launch} {o n : Nat} {sg : Nat → va_E} {m : Nat} {t0 : Int32} {la : Int64} {th : Nat → Bool} {ow pl : Nat → Nat} {lo hi : Nat → Int} {am : Nat → Nat} (hn : m + 22 < n) (hM : isM sg o m t0 la) (hP : isMP sg m th ow pl lo hi am) : GM l y_M_free b_M_free 2 (some .int) 1 12 0 0 o n n sg false [.ref (ad o m)] (gR (some (.int (mRef (fnd (fun i => !th i) 12)))) sg) := by
  have hm1 : sg m = _ := hM
  obtain ⟨p1, p2, p3, p4, p5, p6⟩ := hP
  refine GM_of (by decide) (Nat.le_of_ble_eq_true rfl) ?_
  intro K C hl hz hr hnm E
  show G K o n sg 0 0 0 [(0, .ref (ad o m))] []
  have loop : ∀ k : Nat, k ≤ 12 → fnd (fun i => !th i) k = fnd (fun i => !th i) 12 → ∀ x : Int32, x = nI (12 - k) → G K o n sg 0 0 2 [(1, .int x), (0, .ref (ad o m))] [] := by
    intro k
    induction k with
    | zero =>
      intro hk hg x ex
      refine g_iload_n C rfl rfl d_M_free_2 ?_
      refine g_bipush (v := 12) C rfl d_M_free_3 ?_
      refine g_icmp_ge (tgt := 25) C d_M_free_5 (by decide) (fun j5 => ?_) (fun j5 => ?_)
      rotate_left
      · exact absurd (by rw [ex]; decide) j5
      refine g_iconst (v := -1) C rfl d_M_free_25 ?_
      refine g_iret C E hr d_M_free_26 ?_
      exact ⟨by rw [← hg]; rfl, rfl⟩
    | succ k ih =>
      intro hk hg x ex
      have ex2 : x = nI (11 - k) := by rw [ex]; congr 1; omega
      have hi2 : 11 - k < 12 := by omega
      have hcl : (nI (11 - k)).toNatClampNeg = 11 - k := nI_clamp (by omega)
      rw [ex2]
      refine g_iload_n C rfl rfl d_M_free_2 ?_
      refine g_bipush (v := 12) C rfl d_M_free_3 ?_
      refine g_icmp_ge (tgt := 25) C d_M_free_5 (by decide) (fun j5 => ?_) (fun j5 => ?_)
      · exact absurd j5 (nI_ge (a := 11 - k) (b := 12) (by omega) (by decide))
      refine g_aload_n C rfl rfl d_M_free_8 ?_
      refine gf_M_35 C d_M_free_9 (by first | assumption | omega) (by repeat' first | assumption | exact up_eq _ _ _ | refine up_ne (by omega) ?_) (by rfl) ?_
      refine g_iload_n C rfl rfl d_M_free_12 ?_
      refine g_zald C d_M_free_13 (by first | assumption | omega) (by repeat' first | assumption | exact up_eq _ _ _ | refine up_ne (by omega) ?_) (vp_in_nI hi2 (by decide)) ?_
      refine g_if_ne (tgt := 19) C d_M_free_14 (by decide) (fun j14 => ?_) (fun j14 => ?_)
      · obtain ⟨y, e_y⟩ : ∃ y : Int32, ((nI (11 - k))) + Int32.ofInt 1 = y := ⟨_, rfl⟩
        refine g_iinc (lv' := [(1, .int y), (0, .ref (ad o m))]) C d_M_free_19 rfl e_y (by decide) rfl ?_
        refine g_goto (tgt := 2) C d_M_free_22 (by decide) ?_
        rw [hcl] at j14
        exact ih (by omega) (by rw [← hg, fnd, if_neg (by rw [nb0 j14]; decide)]) _ (by rw [← e_y]; exact (nI_1 _).trans (congrArg nI (by omega)))
      · refine g_iload_n C rfl rfl d_M_free_17 ?_
        refine g_iret C E hr d_M_free_18 ?_
        rw [hcl] at j14
        exact ⟨by rw [← hg, fnd, if_pos (by rw [(bz_eq0 _).mp j14]; rfl)]; rfl, rfl⟩
  refine g_iconst (v := 0) C rfl d_M_free_0 ?_
  refine g_topi (fun x e_x => ?_)
  refine g_istore_n (lv' := [(1, .int x), (0, .ref (ad o m))]) C d_M_free_1 rfl (by decide) rfl ?_
  exact loop 12 (by omega) rfl _ e_x
def mIn (th : Nat → Bool) (pl : Nat → Nat) (lo hi : Nat → Int) (p : Nat) (tz : Int) (i : Nat) : Bool := th i && decide (pl i = p ∧ lo i ≤ tz ∧ tz < hi i)
/-- bounds that the positions' numbers keep -/
def pBd (pl : Nat → Nat) (lo hi : Nat → Int) : Prop := ∀ i, i < 12 → pl i < 2 ∧ -40 ≤ lo i ∧ lo i ≤ 40 ∧ -40 ≤ hi i ∧ hi i ≤ 40
theorem c_M_inRange {l : Launch} {o n : Nat} {sg : Nat → va_E} {m : Nat} {t0 : Int32} {la : Int64} {th : Nat → Bool} {ow pl : Nat → Nat} {lo hi : Nat → Int} {am : Nat → Nat} (i p : Nat) (tz : Int) (hn : m + 22 < n) (hM : isM sg o m t0 la) (hP : isMP sg m th ow pl lo hi am) (hB : pBd pl lo hi) (hi2 : i < 12) (hp : p < 2) (h5 : -41 ≤ tz) (h6 : tz ≤ 40) : GM l y_M_inRange b_M_inRange 4 (some .boolean) 1 12 0 0 o n n sg false [.ref (ad o m), .int (nI i), .int (nI p), .int (iI tz)] (gR (some (.int (bz (mIn th pl lo hi p tz i)))) sg) := by
  have hm1 : sg m = _ := hM
  obtain ⟨p1, p2, p3, p4, p5, p6⟩ := hP
  obtain ⟨b1, b2, b3, b4, b5⟩ := hB i hi2
  have hcl : (nI i).toNatClampNeg = i := nI_clamp (by omega)
  have hin : vp_in (nI i) 12 := vp_in_nI hi2 (by decide)
  refine GM_of (by decide) (Nat.le_of_ble_eq_true rfl) ?_
  intro K C hl hz hr hnm E
  show G K o n sg 0 0 0 [(0, .ref (ad o m)), (1, .int (nI i)), (2, .int (nI p)), (3, .int (iI tz))] []
  refine g_aload_n C rfl rfl d_M_inRange_0 ?_
  refine gf_M_35 C d_M_inRange_1 (by first | assumption | omega) (by repeat' first | assumption | exact up_eq _ _ _ | refine up_ne (by omega) ?_) (by rfl) ?_
  refine g_iload_n C rfl rfl d_M_inRange_4 ?_
  refine g_zald C d_M_inRange_5 (by first | assumption | omega) (by repeat' first | assumption | exact up_eq _ _ _ | refine up_ne (by omega) ?_) hin ?_
  rw [hcl]
  refine g_if_eq (tgt := 43) C d_M_inRange_6 (by decide) (fun j6 => ?_) (fun j6 => ?_)
  · refine g_iconst (v := 0) C rfl d_M_inRange_43 ?_
    refine g_zret C E hr d_M_inRange_44 rfl ?_
    refine ⟨congrArg (fun z => some (Value.int z)) ?_, rfl⟩
    first | (rw [mIn, nb0 j6, decide_eq_true ⟨(nI_eq (by omega) (by omega)).mp j16, Int.not_lt.mp (fun w => j26 ((iI_lt (by omega) (by omega) (by omega) (by omega)).mpr w)), Int.not_le.mp (fun w => j36 ((iI_le (by omega) (by omega) (by omega) (by omega)).mpr w))⟩]; rfl) | (rw [mIn, decide_eq_false (fun z => absurd ((iI_le (by omega) (by omega) (by omega) (by omega)).mp j36) (by omega)), Bool.and_false]; rfl) | (rw [mIn, decide_eq_false (fun z => absurd ((iI_lt (by omega) (by omega) (by omega) (by omega)).mp j26) (by omega)), Bool.and_false]; rfl) | (rw [mIn, decide_eq_false (fun z => j16 (by rw [z.1])), Bool.and_false]; rfl) | (rw [mIn, (bz_eq0 _).mp j6]; rfl)
  · refine g_aload_n C rfl rfl d_M_inRange_9 ?_
    refine gf_M_42 C d_M_inRange_10 (by first | assumption | omega) (by repeat' first | assumption | exact up_eq _ _ _ | refine up_ne (by omega) ?_) (by rfl) ?_
    refine g_iload_n C rfl rfl d_M_inRange_13 ?_
    refine g_iald C d_M_inRange_14 (by first | assumption | omega) (by repeat' first | assumption | exact up_eq _ _ _ | refine up_ne (by omega) ?_) hin ?_
    rw [hcl]
    refine g_iload_n C rfl rfl d_M_inRange_15 ?_
    refine g_icmp_ne (tgt := 43) C d_M_inRange_16 (by decide) (fun j16 => ?_) (fun j16 => ?_)
    · refine g_iconst (v := 0) C rfl d_M_inRange_43 ?_
      refine g_zret C E hr d_M_inRange_44 rfl ?_
      refine ⟨congrArg (fun z => some (Value.int z)) ?_, rfl⟩
      first | (rw [mIn, nb0 j6, decide_eq_true ⟨(nI_eq (by omega) (by omega)).mp j16, Int.not_lt.mp (fun w => j26 ((iI_lt (by omega) (by omega) (by omega) (by omega)).mpr w)), Int.not_le.mp (fun w => j36 ((iI_le (by omega) (by omega) (by omega) (by omega)).mpr w))⟩]; rfl) | (rw [mIn, decide_eq_false (fun z => absurd ((iI_le (by omega) (by omega) (by omega) (by omega)).mp j36) (by omega)), Bool.and_false]; rfl) | (rw [mIn, decide_eq_false (fun z => absurd ((iI_lt (by omega) (by omega) (by omega) (by omega)).mp j26) (by omega)), Bool.and_false]; rfl) | (rw [mIn, decide_eq_false (fun z => j16 (by rw [z.1])), Bool.and_false]; rfl) | (rw [mIn, (bz_eq0 _).mp j6]; rfl)
    · refine g_aload_n C rfl rfl d_M_inRange_19 ?_
      refine gf_M_45 C d_M_inRange_20 (by first | assumption | omega) (by repeat' first | assumption | exact up_eq _ _ _ | refine up_ne (by omega) ?_) (by rfl) ?_
      refine g_iload_n C rfl rfl d_M_inRange_23 ?_
      refine g_iald C d_M_inRange_24 (by first | assumption | omega) (by repeat' first | assumption | exact up_eq _ _ _ | refine up_ne (by omega) ?_) hin ?_
      rw [hcl]
      refine g_iload_n C rfl rfl d_M_inRange_25 ?_
      refine g_icmp_gt (tgt := 43) C d_M_inRange_26 (by decide) (fun j26 => ?_) (fun j26 => ?_)
      · refine g_iconst (v := 0) C rfl d_M_inRange_43 ?_
        refine g_zret C E hr d_M_inRange_44 rfl ?_
        refine ⟨congrArg (fun z => some (Value.int z)) ?_, rfl⟩
        first | (rw [mIn, nb0 j6, decide_eq_true ⟨(nI_eq (by omega) (by omega)).mp j16, Int.not_lt.mp (fun w => j26 ((iI_lt (by omega) (by omega) (by omega) (by omega)).mpr w)), Int.not_le.mp (fun w => j36 ((iI_le (by omega) (by omega) (by omega) (by omega)).mpr w))⟩]; rfl) | (rw [mIn, decide_eq_false (fun z => absurd ((iI_le (by omega) (by omega) (by omega) (by omega)).mp j36) (by omega)), Bool.and_false]; rfl) | (rw [mIn, decide_eq_false (fun z => absurd ((iI_lt (by omega) (by omega) (by omega) (by omega)).mp j26) (by omega)), Bool.and_false]; rfl) | (rw [mIn, decide_eq_false (fun z => j16 (by rw [z.1])), Bool.and_false]; rfl) | (rw [mIn, (bz_eq0 _).mp j6]; rfl)
      · refine g_iload_n C rfl rfl d_M_inRange_29 ?_
        refine g_aload_n C rfl rfl d_M_inRange_30 ?_
        refine gf_M_48 C d_M_inRange_31 (by first | assumption | omega) (by repeat' first | assumption | exact up_eq _ _ _ | refine up_ne (by omega) ?_) (by rfl) ?_
        refine g_iload_n C rfl rfl d_M_inRange_34 ?_
        refine g_iald C d_M_inRange_35 (by first | assumption | omega) (by repeat' first | assumption | exact up_eq _ _ _ | refine up_ne (by omega) ?_) hin ?_
        rw [hcl]
        refine g_icmp_ge (tgt := 43) C d_M_inRange_36 (by decide) (fun j36 => ?_) (fun j36 => ?_)
        · refine g_iconst (v := 0) C rfl d_M_inRange_43 ?_
          refine g_zret C E hr d_M_inRange_44 rfl ?_
          refine ⟨congrArg (fun z => some (Value.int z)) ?_, rfl⟩
          first | (rw [mIn, nb0 j6, decide_eq_true ⟨(nI_eq (by omega) (by omega)).mp j16, Int.not_lt.mp (fun w => j26 ((iI_lt (by omega) (by omega) (by omega) (by omega)).mpr w)), Int.not_le.mp (fun w => j36 ((iI_le (by omega) (by omega) (by omega) (by omega)).mpr w))⟩]; rfl) | (rw [mIn, decide_eq_false (fun z => absurd ((iI_le (by omega) (by omega) (by omega) (by omega)).mp j36) (by omega)), Bool.and_false]; rfl) | (rw [mIn, decide_eq_false (fun z => absurd ((iI_lt (by omega) (by omega) (by omega) (by omega)).mp j26) (by omega)), Bool.and_false]; rfl) | (rw [mIn, decide_eq_false (fun z => j16 (by rw [z.1])), Bool.and_false]; rfl) | (rw [mIn, (bz_eq0 _).mp j6]; rfl)
        · refine g_iconst (v := 1) C rfl d_M_inRange_39 ?_
          refine g_goto (tgt := 44) C d_M_inRange_40 (by decide) ?_
          refine g_zret C E hr d_M_inRange_44 rfl ?_
          refine ⟨congrArg (fun z => some (Value.int z)) ?_, rfl⟩
          first | (rw [mIn, nb0 j6, decide_eq_true ⟨(nI_eq (by omega) (by omega)).mp j16, Int.not_lt.mp (fun w => j26 ((iI_lt (by omega) (by omega) (by omega) (by omega)).mpr w)), Int.not_le.mp (fun w => j36 ((iI_le (by omega) (by omega) (by omega) (by omega)).mpr w))⟩]; rfl) | (rw [mIn, decide_eq_false (fun z => absurd ((iI_le (by omega) (by omega) (by omega) (by omega)).mp j36) (by omega)), Bool.and_false]; rfl) | (rw [mIn, decide_eq_false (fun z => absurd ((iI_lt (by omega) (by omega) (by omega) (by omega)).mp j26) (by omega)), Bool.and_false]; rfl) | (rw [mIn, decide_eq_false (fun z => j16 (by rw [z.1])), Bool.and_false]; rfl) | (rw [mIn, (bz_eq0 _).mp j6]; rfl)

