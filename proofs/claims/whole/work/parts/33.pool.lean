-- POOLS
def isP (sg : Nat → va_E) (o p kr fee kn kt : Nat) (gr ne : Nat → Int32) : Prop := sg p = eO 3 [.ref (ad o kr), .int (nI fee), .ref (ad o (p + 1)), .ref (ad o (p + 2)), .ref (ad o kn), .ref (ad o kt)] ∧ sg (p + 1) = eI 81 gr ∧ sg (p + 2) = eI 81 ne
theorem c_P_startTrial {l : Launch} {o n : Nat} {sg : Nat → va_E} {p kr fee c d : Nat} {gr ne : Nat → Int32} {pr pr2 : Int64} {tz tz2 : Int} {lq lq2 : Int32} {g ou g2 oo2 : Nat → Int64} (hp : p + 2 < n) (hc : c + 2 < n) (hd : d + 2 < n) (hcd : c + 3 ≤ d ∨ d + 3 ≤ c) (hP : isP sg o p kr fee d c gr ne) (hC : isC sg o c pr tz lq g ou) (hD : isC sg o d pr2 tz2 lq2 g2 oo2) : GM l y_P_startTrial b_P_startTrial 1 none 3 61 0 0 o n n sg false [.ref (ad o p)] (fun r s => none = r ∧ isC s o c pr2 tz2 lq2 g2 oo2 ∧ fr sg s c 3) := by
  obtain ⟨q1, q2, q3⟩ := hP
  have hc1 := hC.1
  have hd1 := hD.1
  refine GM_of (by decide) (Nat.le_of_ble_eq_true rfl) ?_
  intro K C hl hz hr hnm E
  show G K o n sg 0 0 0 [(0, .ref (ad o p))] []
  refine g_aload_n C rfl rfl d_P_startTrial_0 ?_
  refine gf_P_25 C d_P_startTrial_1 (by first | assumption | omega) (by repeat' first | assumption | exact up_eq _ _ _ | refine up_ne (by omega) ?_) (by rfl) ?_
  refine g_aload_n C rfl rfl d_P_startTrial_4 ?_
  refine gf_P_21 C d_P_startTrial_5 (by first | assumption | omega) (by repeat' first | assumption | exact up_eq _ _ _ | refine up_ne (by omega) ?_) (by rfl) ?_
  refine g_callV C (c_C_copy hc hd hcd hC hD) Y_C_copy m_511 m_512 m_510 rfl rfl ⟨by decide, by decide⟩ ⟨by decide, by decide⟩ (fun h => nomatch h) d_P_startTrial_8 (by first | assumption | omega) (by repeat' first | assumption | exact up_eq _ _ _ | refine up_ne (by omega) ?_) rfl (Nat.le_of_ble_eq_true rfl) (fun ret sg1 hq => ?_)
  obtain ⟨rfl, hq1, hq2⟩ := hq
  refine g_vret C E hr d_P_startTrial_11 ⟨rfl, hq1, hq2⟩
theorem c_P_keepTrial {l : Launch} {o n : Nat} {sg : Nat → va_E} {p kr fee kn kt : Nat} {gr ne : Nat → Int32} (hp : p + 2 < n) (hP : isP sg o p kr fee kn kt gr ne) : GM l y_P_keepTrial b_P_keepTrial 2 none 1 12 0 0 o n n sg false [.ref (ad o p)] (fun r s => none = r ∧ isP s o p kr fee kt kn gr ne ∧ fr sg s p 1) := by
  obtain ⟨q1, q2, q3⟩ := hP
  refine GM_of (by decide) (Nat.le_of_ble_eq_true rfl) ?_
  intro K C hl hz hr hnm E
  show G K o n sg 0 0 0 [(0, .ref (ad o p))] []
  refine g_aload_n C rfl rfl d_P_keepTrial_0 ?_
  refine gf_P_21 C d_P_keepTrial_1 (by first | assumption | omega) (by repeat' first | assumption | exact up_eq _ _ _ | refine up_ne (by omega) ?_) (by rfl) ?_
  refine g_astore_n (lv' := [(1, .ref (ad o kn)), (0, .ref (ad o p))]) C d_P_keepTrial_4 rfl (by decide) rfl ?_
  refine g_aload_n C rfl rfl d_P_keepTrial_5 ?_
  refine g_aload_n C rfl rfl d_P_keepTrial_6 ?_
  refine gf_P_25 C d_P_keepTrial_7 (by first | assumption | omega) (by repeat' first | assumption | exact up_eq _ _ _ | refine up_ne (by omega) ?_) (by rfl) ?_
  refine pf_P_21 C d_P_keepTrial_10 rfl rfl (by first | assumption | omega) (by repeat' first | assumption | exact up_eq _ _ _ | refine up_ne (by omega) ?_) (by exact Nat.le_of_ble_eq_true rfl) ?_
  refine g_aload_n C rfl rfl d_P_keepTrial_13 ?_
  refine g_aload_n C rfl rfl d_P_keepTrial_14 ?_
  refine pf_P_25 C d_P_keepTrial_15 rfl rfl (by first | assumption | omega) (by repeat' first | assumption | exact up_eq _ _ _ | refine up_ne (by omega) ?_) (by exact Nat.le_of_ble_eq_true rfl) ?_
  refine g_vret C E hr d_P_keepTrial_18 ⟨rfl, ⟨(by repeat' first | assumption | exact up_eq _ _ _ | refine up_ne (by omega) ?_), (by repeat' first | assumption | exact up_eq _ _ _ | refine up_ne (by omega) ?_), (by repeat' first | assumption | exact up_eq _ _ _ | refine up_ne (by omega) ?_)⟩, (by intro k hk; repeat' first | rfl | refine up_ne (by omega) ?_)⟩
theorem c_P_isAhead {l : Launch} {o n : Nat} {sg : Nat → va_E} {p kr fee kn kt : Nat} {gr ne : Nat → Int32} {pr : Int64} {tz : Int} {lq : Int32} {g ou : Nat → Int64} (x : Int64) (dn : Bool) (hp : p + 2 < n) (hc : kn + 2 < n) (hP : isP sg o p kr fee kn kt gr ne) (hC : isC sg o kn pr tz lq g ou) : GM l y_P_isAhead b_P_isAhead 4 (some .boolean) 1 12 0 0 o n n sg false [.ref (ad o p), .long x, .int (bz dn)] (gR (some (.int (bz (decide (if dn = true then x < pr else pr < x))))) sg) := by
  obtain ⟨q1, q2, q3⟩ := hP
  have hc1 := hC.1
  refine GM_of (by decide) (Nat.le_of_ble_eq_true rfl) ?_
  intro K C hl hz hr hnm E
  show G K o n sg 0 0 0 [(0, .ref (ad o p)), (1, .long x), (3, .int (bz dn))] []
  cases dn
  · refine g_iload_n C rfl rfl d_P_isAhead_0 ?_
    refine g_if_eq (tgt := 24) C d_P_isAhead_1 (by decide) (fun j1 => ?_) (fun j1 => ?_)
    rotate_left
    · exact absurd rfl j1
    refine g_lload_n C rfl rfl d_P_isAhead_24 ?_
    refine g_aload_n C rfl rfl d_P_isAhead_25 ?_
    refine gf_P_21 C d_P_isAhead_26 (by first | assumption | omega) (by repeat' first | assumption | exact up_eq _ _ _ | refine up_ne (by omega) ?_) (by rfl) ?_
    refine gf_P_49 C d_P_isAhead_29 (by first | assumption | omega) (by repeat' first | assumption | exact up_eq _ _ _ | refine up_ne (by omega) ?_) (by rfl) ?_
    refine g_lcmp_le (tgt := 40) C d_P_isAhead_32 d_P_isAhead_33 (by decide) (fun j32 => ?_) (fun j32 => ?_)
    · refine g_iconst (v := 0) C rfl d_P_isAhead_40 ?_
      refine g_zret C E hr d_P_isAhead_41 (by rfl) ?_
      refine ⟨congrArg (fun z => some (Value.int z)) ?_, rfl⟩
      first | (rw [decide_eq_false (fun z => absurd (Int64.not_lt.mpr j32) (fun w => w (by simpa using z)))]; rfl) | (rw [decide_eq_true (show (if false = true then x < pr else pr < x) from by simpa using (Int64.not_le.mp j32))]; rfl)
    · refine g_iconst (v := 1) C rfl d_P_isAhead_36 ?_
      refine g_goto (tgt := 41) C d_P_isAhead_37 (by decide) ?_
      refine g_zret C E hr d_P_isAhead_41 (by rfl) ?_
      refine ⟨congrArg (fun z => some (Value.int z)) ?_, rfl⟩
      first | (rw [decide_eq_false (fun z => absurd (Int64.not_lt.mpr j32) (fun w => w (by simpa using z)))]; rfl) | (rw [decide_eq_true (show (if false = true then x < pr else pr < x) from by simpa using (Int64.not_le.mp j32))]; rfl)
  · refine g_iload_n C rfl rfl d_P_isAhead_0 ?_
    refine g_if_eq (tgt := 24) C d_P_isAhead_1 (by decide) (fun j1 => ?_) (fun j1 => ?_)
    · exact absurd j1 (by decide)
    refine g_lload_n C rfl rfl d_P_isAhead_4 ?_
    refine g_aload_n C rfl rfl d_P_isAhead_5 ?_
    refine gf_P_21 C d_P_isAhead_6 (by first | assumption | omega) (by repeat' first | assumption | exact up_eq _ _ _ | refine up_ne (by omega) ?_) (by rfl) ?_
    refine gf_P_49 C d_P_isAhead_9 (by first | assumption | omega) (by repeat' first | assumption | exact up_eq _ _ _ | refine up_ne (by omega) ?_) (by rfl) ?_
    refine g_lcmp_ge (tgt := 20) C d_P_isAhead_12 d_P_isAhead_13 (by decide) (fun j12 => ?_) (fun j12 => ?_)
    · refine g_iconst (v := 0) C rfl d_P_isAhead_20 ?_
      refine g_goto (tgt := 41) C d_P_isAhead_21 (by decide) ?_
      refine g_zret C E hr d_P_isAhead_41 (by rfl) ?_
      refine ⟨congrArg (fun z => some (Value.int z)) ?_, rfl⟩
      first | (rw [decide_eq_false (fun z => absurd (Int64.not_lt.mpr j12) (fun w => w (by simpa using z)))]; rfl) | (rw [decide_eq_true (show (if true = true then x < pr else pr < x) from by simpa using (Int64.not_le.mp j12))]; rfl)
    · refine g_iconst (v := 1) C rfl d_P_isAhead_16 ?_
      refine g_goto (tgt := 41) C d_P_isAhead_17 (by decide) ?_
      refine g_zret C E hr d_P_isAhead_41 (by rfl) ?_
      refine ⟨congrArg (fun z => some (Value.int z)) ?_, rfl⟩
      first | (rw [decide_eq_false (fun z => absurd (Int64.not_lt.mpr j12) (fun w => w (by simpa using z)))]; rfl) | (rw [decide_eq_true (show (if true = true then x < pr else pr < x) from by simpa using (Int64.not_le.mp j12))]; rfl)
def tx (z : Int) : Nat := (z + 40).toNat
theorem tx_in {z : Int} (h3 : -40 ≤ z) (h4 : z ≤ 40) : vp_in (iI (z + 40)) 81 := iI_in (by omega) (by omega) (by decide)
theorem tx_cl {z : Int} (h3 : -40 ≤ z) (h4 : z ≤ 40) : (iI (z + 40)).toNatClampNeg = tx z := iI_cl (by omega) (by omega)
theorem c_P_isSet {l : Launch} {o n : Nat} {sg : Nat → va_E} {p kr fee kn kt : Nat} {gr ne : Nat → Int32} (z : Int) (hp : p + 2 < n) (hP : isP sg o p kr fee kn kt gr ne) (h3 : -40 ≤ z) (h4 : z ≤ 40) : GM l y_P_isSet b_P_isSet 2 (some .boolean) 1 12 0 0 o n n sg false [.ref (ad o p), .int (iI z)] (gR (some (.int (bz (decide (¬ gr (tx z) = 0))))) sg) := by
  obtain ⟨q1, q2, q3⟩ := hP
  refine GM_of (by decide) (Nat.le_of_ble_eq_true rfl) ?_
  intro K C hl hz hr hnm E
  show G K o n sg 0 0 0 [(0, .ref (ad o p)), (1, .int (iI z))] []
  refine g_aload_n C rfl rfl d_P_isSet_0 ?_
  refine gf_P_9 C d_P_isSet_1 (by first | assumption | omega) (by repeat' first | assumption | exact up_eq _ _ _ | refine up_ne (by omega) ?_) (by rfl) ?_
  refine g_iload_n C rfl rfl d_P_isSet_4 ?_
  refine g_bipush (v := -40) C rfl d_P_isSet_5 ?_
  refine g_isub C d_P_isSet_7 ?_
  rw [iI_m40]
  refine g_iald C d_P_isSet_8 (by first | assumption | omega) (by repeat' first | assumption | exact up_eq _ _ _ | refine up_ne (by omega) ?_) (tx_in h3 h4) ?_
  rw [tx_cl h3 h4]
  refine g_if_eq (tgt := 16) C d_P_isSet_9 (by decide) (fun j9 => ?_) (fun j9 => ?_)
  · refine g_iconst (v := 0) C rfl d_P_isSet_16 ?_
    refine g_zret C E hr d_P_isSet_17 (by rfl) ?_
    refine ⟨congrArg (fun z => some (Value.int z)) ?_, rfl⟩
    first | (rw [decide_eq_true j9]; rfl) | (rw [decide_eq_false (fun w => w j9)]; rfl)
  · refine g_iconst (v := 1) C rfl d_P_isSet_12 ?_
    refine g_goto (tgt := 17) C d_P_isSet_13 (by decide) ?_
    refine g_zret C E hr d_P_isSet_17 (by rfl) ?_
    refine ⟨congrArg (fun z => some (Value.int z)) ?_, rfl⟩
    first | (rw [decide_eq_true j9]; rfl) | (rw [decide_eq_false (fun w => w j9)]; rfl)
theorem c_P_netOf {l : Launch} {o n : Nat} {sg : Nat → va_E} {p kr fee kn kt : Nat} {gr ne : Nat → Int32} (z : Int) (hp : p + 2 < n) (hP : isP sg o p kr fee kn kt gr ne) (h3 : -40 ≤ z) (h4 : z ≤ 40) : GM l y_P_netOf b_P_netOf 2 (some .int) 1 12 0 0 o n n sg false [.ref (ad o p), .int (iI z)] (gR (some (.int (ne (tx z)))) sg) := by
  obtain ⟨q1, q2, q3⟩ := hP
  refine GM_of (by decide) (Nat.le_of_ble_eq_true rfl) ?_
  intro K C hl hz hr hnm E
  show G K o n sg 0 0 0 [(0, .ref (ad o p)), (1, .int (iI z))] []
  refine g_aload_n C rfl rfl d_P_netOf_0 ?_
  refine gf_P_15 C d_P_netOf_1 (by first | assumption | omega) (by repeat' first | assumption | exact up_eq _ _ _ | refine up_ne (by omega) ?_) (by rfl) ?_
  refine g_iload_n C rfl rfl d_P_netOf_4 ?_
  refine g_bipush (v := -40) C rfl d_P_netOf_5 ?_
  refine g_isub C d_P_netOf_7 ?_
  rw [iI_m40]
  refine g_iald C d_P_netOf_8 (by first | assumption | omega) (by repeat' first | assumption | exact up_eq _ _ _ | refine up_ne (by omega) ?_) (tx_in h3 h4) ?_
  rw [tx_cl h3 h4]
  refine g_iret C E hr d_P_netOf_9 ⟨rfl, rfl⟩
/-- the next tick's place, down and up; st says which are set -/
def nDn (st : Nat → Bool) : Nat → Nat
  | 0 => 0
  | i + 1 => if st (i + 1) = true then i + 1 else nDn st i
def nUp (st : Nat → Bool) : Nat → Nat
  | 0 => 80
  | k + 1 => if st (79 - k) = true then 79 - k else nUp st k
theorem nDn_le (st : Nat → Bool) (i : Nat) : nDn st i ≤ i := by
  induction i with
  | zero => exact Nat.le_refl _
  | succ i ih => unfold nDn; split <;> omega
theorem nUp_le (st : Nat → Bool) (k : Nat) : 80 - k ≤ nUp st k ∧ nUp st k ≤ 80 := by
  induction k with
  | zero => exact ⟨by unfold nUp; omega, by unfold nUp; omega⟩
  | succ k ih => unfold nUp; split <;> omega
theorem c_P_nextDown {l : Launch} {o n : Nat} {sg : Nat → va_E} {p kr fee kn kt : Nat} {gr ne : Nat → Int32} {st : Nat → Bool} (z : Int) (hp : p + 2 < n) (hP : isP sg o p kr fee kn kt gr ne) (hst : ∀ i, i ≤ 80 → (st i = true ↔ ¬ gr i = 0)) (h3 : -41 ≤ z) (h4 : z ≤ 40) : GM l y_P_nextDown b_P_nextDown 3 (some .int) 2 33 0 0 o n n sg false [.ref (ad o p), .int (iI z)] (gR (some (.int (iI ((nDn st (tx z) : Nat) - 40)))) sg) := by
  have q1 := hP.1
  refine GM_of (by decide) (Nat.le_of_ble_eq_true rfl) ?_
  intro K C hl hz hr hnm E
  show G K o n sg 0 0 0 [(0, .ref (ad o p)), (1, .int (iI z))] []
  have loop : ∀ i : Nat, i ≤ 80 → nDn st i = nDn st (tx z) → ∀ x : Int32, (x = iI ((i : Int) - 40) ∨ (i = 0 ∧ x = iI (-41))) → G K o n sg 0 0 2 [(2, .int x), (0, .ref (ad o p)), (1, .int (iI z))] [] := by
    intro i
    induction i with
    | zero =>
      intro hi hg x ex
      refine g_iload_n C rfl rfl d_P_nextDown_2 ?_
      refine g_bipush (v := -40) C rfl d_P_nextDown_3 ?_
      refine g_icmp_le (tgt := 24) C d_P_nextDown_5 (by decide) (fun j5 => ?_) (fun j5 => ?_)
      rotate_left
      · exact absurd (by rcases ex with e | e; rw [e]; decide; rw [e.2]; decide) j5
      refine g_bipush (v := -40) C rfl d_P_nextDown_24 ?_
      refine g_iret C E hr d_P_nextDown_26 ?_
      exact ⟨by rw [← hg]; rfl, rfl⟩
    | succ i ih =>
      intro hi hg x ex
      have ex2 : x = iI (((i + 1 : Nat) : Int) - 40) := by
        rcases ex with e | e
        · exact e
        · omega
      have htx : tx (((i + 1 : Nat) : Int) - 40) = i + 1 := by unfold tx; omega
      rw [ex2]
      refine g_iload_n C rfl rfl d_P_nextDown_2 ?_
      refine g_bipush (v := -40) C rfl d_P_nextDown_3 ?_
      refine g_icmp_le (tgt := 24) C d_P_nextDown_5 (by decide) (fun j5 => ?_) (fun j5 => ?_)
      · exact absurd j5 (by rw [m40, iI_le (by omega) (by omega) (by omega) (by omega)]; omega)
      refine g_aload_n C rfl rfl d_P_nextDown_8 ?_
      refine g_iload_n C rfl rfl d_P_nextDown_9 ?_
      refine g_callV C (c_P_isSet (((i + 1 : Nat) : Int) - 40) hp hP (by omega) (by omega)) Y_P_isSet m_410 m_411 m_409 rfl rfl ⟨by decide, by decide⟩ ⟨by decide, by decide⟩ (fun h => nomatch h) d_P_nextDown_10 (by first | assumption | omega) (by repeat' first | assumption | exact up_eq _ _ _ | refine up_ne (by omega) ?_) rfl (Nat.le_of_ble_eq_true rfl) (fun ret sg1 hq => ?_)
      obtain ⟨rfl, rfl⟩ := hq
      rw [htx]
      refine g_if_eq (tgt := 18) C d_P_nextDown_13 (by decide) (fun j13 => ?_) (fun j13 => ?_)
      · obtain ⟨y, e_y⟩ : ∃ y : Int32, ((iI (((i + 1 : Nat) : Int) - 40))) + Int32.ofInt (-1) = y := ⟨_, rfl⟩
        refine g_iinc (lv' := [(2, .int y), (0, .ref (ad o p)), (1, .int (iI z))]) C d_P_nextDown_18 rfl e_y (by decide) rfl ?_
        refine g_goto (tgt := 2) C d_P_nextDown_21 (by decide) ?_
        exact ih (by omega) (by rw [← hg, nDn, if_neg (fun w => absurd ((hst (i + 1) hi).mp w) (of_decide_eq_false ((bz_eq0 _).mp j13)))]) _ (Or.inl (by rw [← e_y]; exact (iI_add _ (-1)).trans (congrArg iI (by omega))))
      · refine g_iload_n C rfl rfl d_P_nextDown_16 ?_
        refine g_iret C E hr d_P_nextDown_17 ?_
        exact ⟨by rw [← hg, nDn, if_pos ((hst (i + 1) hi).mpr (fun w => j13 (by rw [w]; decide)))], rfl⟩
  refine g_iload_n C rfl rfl d_P_nextDown_0 ?_
  refine g_topi (fun x e_x => ?_)
  refine g_istore_n (lv' := [(2, .int x), (0, .ref (ad o p)), (1, .int (iI z))]) C d_P_nextDown_1 rfl (by decide) rfl ?_
  exact loop (tx z) (by unfold tx; omega) rfl _ (by rcases (show z = -41 ∨ -40 ≤ z by omega) with e | e; exact Or.inr ⟨by unfold tx; omega, by rw [e_x, e]⟩; exact Or.inl (by rw [e_x]; congr 1; unfold tx; omega))
theorem c_P_nextUp {l : Launch} {o n : Nat} {sg : Nat → va_E} {p kr fee kn kt : Nat} {gr ne : Nat → Int32} {st : Nat → Bool} (z : Int) (hp : p + 2 < n) (hP : isP sg o p kr fee kn kt gr ne) (hst : ∀ i, i ≤ 80 → (st i = true ↔ ¬ gr i = 0)) (h3 : -41 ≤ z) (h4 : z ≤ 39) : GM l y_P_nextUp b_P_nextUp 3 (some .int) 2 33 0 0 o n n sg false [.ref (ad o p), .int (iI z)] (gR (some (.int (iI ((nUp st (39 - z).toNat : Nat) - 40)))) sg) := by
  have q1 := hP.1
  refine GM_of (by decide) (Nat.le_of_ble_eq_true rfl) ?_
  intro K C hl hz hr hnm E
  show G K o n sg 0 0 0 [(0, .ref (ad o p)), (1, .int (iI z))] []
  have loop : ∀ k : Nat, k ≤ 80 → nUp st k = nUp st (39 - z).toNat → ∀ x : Int32, x = iI (40 - (k : Int)) → G K o n sg 0 0 4 [(2, .int x), (0, .ref (ad o p)), (1, .int (iI z))] [] := by
    intro k
    induction k with
    | zero =>
      intro hi hg x ex
      refine g_iload_n C rfl rfl d_P_nextUp_4 ?_
      refine g_bipush (v := 40) C rfl d_P_nextUp_5 ?_
      refine g_icmp_ge (tgt := 26) C d_P_nextUp_7 (by decide) (fun j7 => ?_) (fun j7 => ?_)
      rotate_left
      · exact absurd (by rw [ex]; decide) j7
      refine g_bipush (v := 40) C rfl d_P_nextUp_26 ?_
      refine g_iret C E hr d_P_nextUp_28 ?_
      exact ⟨by rw [← hg]; rfl, rfl⟩
    | succ k ih =>
      intro hi hg x ex
      have htx : tx (40 - ((k + 1 : Nat) : Int)) = 79 - k := by unfold tx; omega
      rw [ex]
      refine g_iload_n C rfl rfl d_P_nextUp_4 ?_
      refine g_bipush (v := 40) C rfl d_P_nextUp_5 ?_
      refine g_icmp_ge (tgt := 26) C d_P_nextUp_7 (by decide) (fun j7 => ?_) (fun j7 => ?_)
      · exact absurd j7 (by rw [show (40 : Int32) = iI 40 from rfl, iI_le (by omega) (by omega) (by omega) (by omega)]; omega)
      refine g_aload_n C rfl rfl d_P_nextUp_10 ?_
      refine g_iload_n C rfl rfl d_P_nextUp_11 ?_
      refine g_callV C (c_P_isSet (40 - ((k + 1 : Nat) : Int)) hp hP (by omega) (by omega)) Y_P_isSet m_410 m_411 m_409 rfl rfl ⟨by decide, by decide⟩ ⟨by decide, by decide⟩ (fun h => nomatch h) d_P_nextUp_12 (by first | assumption | omega) (by repeat' first | assumption | exact up_eq _ _ _ | refine up_ne (by omega) ?_) rfl (Nat.le_of_ble_eq_true rfl) (fun ret sg1 hq => ?_)
      obtain ⟨rfl, rfl⟩ := hq
      rw [htx]
      refine g_if_eq (tgt := 20) C d_P_nextUp_15 (by decide) (fun j15 => ?_) (fun j15 => ?_)
      · obtain ⟨y, e_y⟩ : ∃ y : Int32, ((iI (40 - ((k + 1 : Nat) : Int)))) + Int32.ofInt 1 = y := ⟨_, rfl⟩
        refine g_iinc (lv' := [(2, .int y), (0, .ref (ad o p)), (1, .int (iI z))]) C d_P_nextUp_20 rfl e_y (by decide) rfl ?_
        refine g_goto (tgt := 4) C d_P_nextUp_23 (by decide) ?_
        exact ih (by omega) (by rw [← hg, nUp, if_neg (fun w => absurd ((hst (79 - k) (by omega)).mp w) (of_decide_eq_false ((bz_eq0 _).mp j15)))]) _ (by rw [← e_y]; exact (iI_add _ 1).trans (congrArg iI (by omega)))
      · refine g_iload_n C rfl rfl d_P_nextUp_18 ?_
        refine g_iret C E hr d_P_nextUp_19 ?_
        exact ⟨by rw [← hg, nUp, if_pos ((hst (79 - k) (by omega)).mpr (fun w => j15 (by rw [w]; decide)))]; congr 3; omega, rfl⟩
  refine g_iload_n C rfl rfl d_P_nextUp_0 ?_
  refine g_iconst (v := 1) C rfl d_P_nextUp_1 ?_
  refine g_iadd C d_P_nextUp_2 ?_
  refine g_topi (fun x e_x => ?_)
  refine g_istore_n (lv' := [(2, .int x), (0, .ref (ad o p)), (1, .int (iI z))]) C d_P_nextUp_3 rfl (by decide) rfl ?_
  exact loop (39 - z).toNat (by omega) rfl _ (by rw [e_x]; exact (iI_add z 1).trans (congrArg iI (by omega)))

