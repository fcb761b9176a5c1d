theorem isS_mv {sg s : Nat → va_E} {o q : Nat} {ow pl lo hi am : Int32} {ins owd : Nat → Int64} (h : isS sg o q ow pl lo hi am ins owd) (hk : ∀ k, q ≤ k → k ≤ q + 2 → s k = sg k) : isS s o q ow pl lo hi am ins owd := ⟨(hk q (by omega) (by omega)).trans h.1, (hk (q + 1) (by omega) (by omega)).trans h.2.1, (hk (q + 2) (by omega) (by omega)).trans h.2.2⟩
theorem isC_mv {sg s : Nat → va_E} {o c : Nat} {pr : Int64} {tz : Int} {lq : Int32} {g ou : Nat → Int64} (h : isC sg o c pr tz lq g ou) (hk : ∀ k, c ≤ k → k ≤ c + 2 → s k = sg k) : isC s o c pr tz lq g ou := ⟨(hk c (by omega) (by omega)).trans h.1, (hk (c + 1) (by omega) (by omega)).trans h.2.1, (hk (c + 2) (by omega) (by omega)).trans h.2.2⟩
theorem isP_mv {sg s : Nat → va_E} {o p kr fee kn kt : Nat} {gr ne : Nat → Int32} (h : isP sg o p kr fee kn kt gr ne) (hk : ∀ k, p ≤ k → k ≤ p + 2 → s k = sg k) : isP s o p kr fee kn kt gr ne := ⟨(hk p (by omega) (by omega)).trans h.1, (hk (p + 1) (by omega) (by omega)).trans h.2.1, (hk (p + 2) (by omega) (by omega)).trans h.2.2⟩
theorem isR_mv {sg s : Nat → va_E} {o kr : Nat} (h : isR sg o kr) (hk : ∀ k, kr ≤ k → k ≤ kr + 1 → s k = sg k) : isR s o kr := by
  obtain ⟨h1, f, h2, h3⟩ := h
  exact ⟨(hk kr (by omega) (by omega)).trans h1, f, (hk (kr + 1) (by omega) (by omega)).trans h2, h3⟩
def aGr1 (gr : Nat → Int32) (lo : Int) (d : Int32) : Nat → Int32 := upd gr (tx lo) (gr (tx lo) + d)
def aGr (gr : Nat → Int32) (lo hi : Int) (d : Int32) : Nat → Int32 := upd (aGr1 gr lo d) (tx hi) (aGr1 gr lo d (tx hi) + d)
def aNe (ne : Nat → Int32) (lo hi : Int) (d : Int32) : Nat → Int32 := upd (aGr1 ne lo d) (tx hi) (aGr1 ne lo d (tx hi) - d)
/-- the outsides as the position is settled, and as they are left -/
def aOu (gr : Nat → Int32) (tz : Int) (g ou : Nat → Int64) (lo hi : Int) (d : Int32) : Nat → Int64 := oSet (aGr1 gr lo d) tz g (oSet gr tz g ou lo) hi
def aOuZ (gr : Nat → Int32) (tz : Int) (g ou : Nat → Int64) (lo hi : Int) (d : Int32) : Nat → Int64 := oClr (aGr gr lo hi d) (oClr (aGr gr lo hi d) (aOu gr tz g ou lo hi d) lo) hi
def aNeZ (gr ne : Nat → Int32) (lo hi : Int) (d : Int32) : Nat → Int32 := nClr (aGr gr lo hi d) (nClr (aGr gr lo hi d) (aNe ne lo hi d) lo) hi
def aLq (tz lo hi : Int) (lq d : Int32) : Int32 := if lo ≤ tz ∧ tz < hi then lq + d else lq
set_option maxHeartbeats 4000000 in
theorem c_P_add {l : Launch} {o n : Nat} {sg : Nat → va_E} {p q kr fee kn kt : Nat} {gr ne : Nat → Int32} {pr : Int64} {tz : Int} {lq : Int32} {g ou : Nat → Int64} {ow pl am : Int32} {lo hi : Int} {ins owd : Nat → Int64} (d : Int32) (hp : p + 2 < n) (hc : kn + 2 < n) (hpk : p + 3 ≤ kn) (hq : q + 2 < n) (hqp : q + 3 ≤ p ∨ kn + 3 ≤ q) (hP : isP sg o p kr fee kn kt gr ne) (hC : isC sg o kn pr tz lq g ou) (hS : isS sg o q ow pl (iI lo) (iI hi) am ins owd) (h1 : -40 ≤ lo) (hlh : lo < hi) (h4 : hi ≤ 40) (h5 : -41 ≤ tz) (h6 : tz ≤ 40) :
    GM l y_P_add b_P_add 3 none 5 104 0 0 o n n sg false [.ref (ad o p), .ref (ad o q), .int d] (fun r s => none = r ∧ isP s o p kr fee kn kt (aGr gr lo hi d) (aNeZ gr ne lo hi d) ∧ isC s o kn pr tz (aLq tz lo hi lq d) g (aOuZ gr tz g ou lo hi d) ∧ isS s o q ow pl (iI lo) (iI hi) (am + d) (fun i => cIns tz g (aOu gr tz g ou lo hi d) i lo hi) (fun i => owd i + shr (cIns tz g (aOu gr tz g ou lo hi d) i lo hi - ins i) am.toInt64) ∧ ∀ k, k ≠ p + 1 → k ≠ p + 2 → k ≠ kn → k ≠ kn + 2 → (k < q ∨ q + 3 ≤ k) → s k = sg k) := by
  obtain ⟨p1, p2, p3⟩ := id hP
  obtain ⟨c1, c2, c3⟩ := id hC
  obtain ⟨s1, s2, s3⟩ := id hS
  refine GM_of (by decide) (Nat.le_of_ble_eq_true rfl) ?_
  intro K C hl hz hr hnm E
  show G K o n sg 0 0 0 [(0, .ref (ad o p)), (1, .ref (ad o q)), (2, .int d)] []
  have tail : ∀ (t : Nat → va_E) (lqv : Int32), lqv = aLq tz lo hi lq d → isP t o p kr fee kn kt (aGr gr lo hi d) (aNe ne lo hi d) → isC t o kn pr tz lqv g (aOu gr tz g ou lo hi d) → isS t o q ow pl (iI lo) (iI hi) (am + d) (fun i => cIns tz g (aOu gr tz g ou lo hi d) i lo hi) (fun i => owd i + shr (cIns tz g (aOu gr tz g ou lo hi d) i lo hi - ins i) am.toInt64) → (∀ k, k ≠ p + 1 → k ≠ p + 2 → k ≠ kn → k ≠ kn + 2 → (k < q ∨ q + 3 ≤ k) → t k = sg k) → G K o n t 0 0 109 [(0, .ref (ad o p)), (1, .ref (ad o q)), (2, .int d)] [] := by
    intro t lqv hlq tP tC tS tF
    subst hlq
    obtain ⟨t1, t2, t3⟩ := id tS
    have tP1 := tP.1
    refine g_aload_n C rfl rfl d_P_add_109 ?_
    refine g_aload_n C rfl rfl d_P_add_110 ?_
    refine gf_P_75 C d_P_add_111 (by first | assumption | omega) (by repeat' first | assumption | exact up_eq _ _ _ | refine up_ne (by omega) ?_) (by rfl) ?_
    refine g_callV C (c_P_clearIfUnset lo hp hc hpk tP tC h1 (by omega)) Y_P_clearIfUnset m_443 s_P_clearIfUnset m_441 rfl rfl ⟨by decide, by decide⟩ ⟨by decide, by decide⟩ (fun h => nomatch h) d_P_add_114 (by first | assumption | omega) (by repeat' first | assumption | exact up_eq _ _ _ | refine up_ne (by omega) ?_) rfl (Nat.le_of_ble_eq_true rfl) (fun ret sg114 hq => ?_)
    obtain ⟨rfl, uP, uC, uF⟩ := hq
    have uS := isS_mv tS (fun k a b => uF k (by omega) (by omega))
    obtain ⟨u1, u2, u3⟩ := id uS
    have uP1 := uP.1
    refine g_aload_n C rfl rfl d_P_add_117 ?_
    refine g_aload_n C rfl rfl d_P_add_118 ?_
    refine gf_P_84 C d_P_add_119 (by first | assumption | omega) (by repeat' first | assumption | exact up_eq _ _ _ | refine up_ne (by omega) ?_) (by rfl) ?_
    refine g_callV C (c_P_clearIfUnset hi hp hc hpk uP uC (by omega) h4) Y_P_clearIfUnset m_443 s_P_clearIfUnset m_441 rfl rfl ⟨by decide, by decide⟩ ⟨by decide, by decide⟩ (fun h => nomatch h) d_P_add_122 (by first | assumption | omega) (by repeat' first | assumption | exact up_eq _ _ _ | refine up_ne (by omega) ?_) rfl (Nat.le_of_ble_eq_true rfl) (fun ret sg122 hq => ?_)
    obtain ⟨rfl, vP, vC, vF⟩ := hq
    refine g_vret C E hr d_P_add_125 ⟨rfl, vP, vC, isS_mv uS (fun k a b => vF k (by omega) (by omega)), fun k a1 a2 a3 a4 a5 => (vF k a2 a4).trans ((uF k a2 a4).trans (tF k a1 a2 a3 a4 a5))⟩
  refine g_aload_n C rfl rfl d_P_add_0 ?_
  refine g_aload_n C rfl rfl d_P_add_1 ?_
  refine gf_P_75 C d_P_add_2 (by first | assumption | omega) (by repeat' first | assumption | exact up_eq _ _ _ | refine up_ne (by omega) ?_) (by rfl) ?_
  refine g_iload_n C rfl rfl d_P_add_5 ?_
  refine g_callV C (c_P_growGross lo d hp hc hpk hP hC h1 (by omega) h5 h6) Y_P_growGross m_407 s_P_growGross m_405 rfl rfl ⟨by decide, by decide⟩ ⟨by decide, by decide⟩ (fun h => nomatch h) d_P_add_6 (by first | assumption | omega) (by repeat' first | assumption | exact up_eq _ _ _ | refine up_ne (by omega) ?_) rfl (Nat.le_of_ble_eq_true rfl) (fun ret sg6 hq => ?_)
  obtain ⟨rfl, aP, aC, aF⟩ := hq
  have aS := isS_mv hS (fun k a b => aF k (by omega) (by omega))
  obtain ⟨a1, a2, a3⟩ := id aS
  have aP1 := aP.1
  refine g_aload_n C rfl rfl d_P_add_9 ?_
  refine g_aload_n C rfl rfl d_P_add_10 ?_
  refine gf_P_84 C d_P_add_11 (by first | assumption | omega) (by repeat' first | assumption | exact up_eq _ _ _ | refine up_ne (by omega) ?_) (by rfl) ?_
  refine g_iload_n C rfl rfl d_P_add_14 ?_
  refine g_callV C (c_P_growGross hi d hp hc hpk aP aC (by omega) h4 h5 h6) Y_P_growGross m_407 s_P_growGross m_405 rfl rfl ⟨by decide, by decide⟩ ⟨by decide, by decide⟩ (fun h => nomatch h) d_P_add_15 (by first | assumption | omega) (by repeat' first | assumption | exact up_eq _ _ _ | refine up_ne (by omega) ?_) rfl (Nat.le_of_ble_eq_true rfl) (fun ret sg15 hq => ?_)
  obtain ⟨rfl, bP, bC, bF⟩ := hq
  have bS := isS_mv aS (fun k a b => bF k (by omega) (by omega))
  obtain ⟨b1, b2, b3⟩ := id bS
  obtain ⟨bP1, bP2, bP3⟩ := id bP
  obtain ⟨bC1, bC2, bC3⟩ := id bC
  refine g_aload_n C rfl rfl d_P_add_18 ?_
  refine gf_P_15 C d_P_add_19 (by first | assumption | omega) (by repeat' first | assumption | exact up_eq _ _ _ | refine up_ne (by omega) ?_) (by rfl) ?_
  refine g_aload_n C rfl rfl d_P_add_22 ?_
  refine gf_P_75 C d_P_add_23 (by first | assumption | omega) (by repeat' first | assumption | exact up_eq _ _ _ | refine up_ne (by omega) ?_) (by rfl) ?_
  refine g_bipush (v := -40) C rfl d_P_add_26 ?_
  refine g_isub C d_P_add_28 ?_
  rw [iI_m40]
  refine g_dup2 C rfl rfl d_P_add_29 ?_
  refine g_iald C d_P_add_30 (by first | assumption | omega) (by repeat' first | assumption | exact up_eq _ _ _ | refine up_ne (by omega) ?_) (tx_in h1 (by omega)) ?_
  refine g_iload_n C rfl rfl d_P_add_31 ?_
  refine g_iadd C d_P_add_32 ?_
  refine g_iast C d_P_add_33 (by first | assumption | omega) (by repeat' first | assumption | exact up_eq _ _ _ | refine up_ne (by omega) ?_) (tx_in h1 (by omega)) ?_
  rw [tx_cl h1 (by omega)]
  refine g_aload_n C rfl rfl d_P_add_34 ?_
  refine gf_P_15 C d_P_add_35 (by first | assumption | omega) (by repeat' first | assumption | exact up_eq _ _ _ | refine up_ne (by omega) ?_) (by rfl) ?_
  refine g_aload_n C rfl rfl d_P_add_38 ?_
  refine gf_P_84 C d_P_add_39 (by first | assumption | omega) (by repeat' first | assumption | exact up_eq _ _ _ | refine up_ne (by omega) ?_) (by rfl) ?_
  refine g_bipush (v := -40) C rfl d_P_add_42 ?_
  refine g_isub C d_P_add_44 ?_
  rw [iI_m40]
  refine g_dup2 C rfl rfl d_P_add_45 ?_
  refine g_iald C d_P_add_46 (by first | assumption | omega) (by repeat' first | assumption | exact up_eq _ _ _ | refine up_ne (by omega) ?_) (tx_in (by omega) h4) ?_
  refine g_iload_n C rfl rfl d_P_add_47 ?_
  refine g_isub C d_P_add_48 ?_
  refine g_iast C d_P_add_49 (by first | assumption | omega) (by repeat' first | assumption | exact up_eq _ _ _ | refine up_ne (by omega) ?_) (tx_in (by omega) h4) ?_
  rw [tx_cl (by omega) h4]
  refine g_aload_n C rfl rfl d_P_add_50 ?_
  refine g_aload_n C rfl rfl d_P_add_51 ?_
  refine gf_P_21 C d_P_add_52 (by first | assumption | omega) (by repeat' first | assumption | exact up_eq _ _ _ | refine up_ne (by omega) ?_) (by rfl) ?_
  refine g_callV C (c_S_settle hq hc (by omega) (ow := ow) (pl := pl) (lo := lo) (hi := hi) (am := am) (ins := ins) (owd := owd) (pr := pr) (tz := tz) (lq := lq) (g := g) (ou := aOu gr tz g ou lo hi d) ⟨(by repeat' first | assumption | exact up_eq _ _ _ | refine up_ne (by omega) ?_), (by repeat' first | assumption | exact up_eq _ _ _ | refine up_ne (by omega) ?_), (by repeat' first | assumption | exact up_eq _ _ _ | refine up_ne (by omega) ?_)⟩ ⟨(by repeat' first | assumption | exact up_eq _ _ _ | refine up_ne (by omega) ?_), (by repeat' first | assumption | exact up_eq _ _ _ | refine up_ne (by omega) ?_), (by repeat' first | assumption | exact up_eq _ _ _ | refine up_ne (by omega) ?_)⟩ h1 (by omega) (by omega) h4 h5 h6) Y_S_settle m_421 m_422 m_420 rfl rfl ⟨by decide, by decide⟩ ⟨by decide, by decide⟩ (fun h => nomatch h) d_P_add_55 (by first | assumption | omega) (by repeat' first | assumption | exact up_eq _ _ _ | refine up_ne (by omega) ?_) rfl (Nat.le_of_ble_eq_true rfl) (fun ret sg55 hq => ?_)
  obtain ⟨rfl, eS, eF⟩ := hq
  have eP : isP sg55 o p kr fee kn kt (aGr gr lo hi d) (aNe ne lo hi d) := ⟨(eF p (by omega)).trans (by repeat' first | assumption | exact up_eq _ _ _ | refine up_ne (by omega) ?_), (eF (p + 1) (by omega)).trans (by repeat' first | assumption | exact up_eq _ _ _ | refine up_ne (by omega) ?_), (eF (p + 2) (by omega)).trans (by repeat' first | assumption | exact up_eq _ _ _ | refine up_ne (by omega) ?_)⟩
  have eC : isC sg55 o kn pr tz lq g (aOu gr tz g ou lo hi d) := ⟨(eF kn (by omega)).trans (by repeat' first | assumption | exact up_eq _ _ _ | refine up_ne (by omega) ?_), (eF (kn + 1) (by omega)).trans (by repeat' first | assumption | exact up_eq _ _ _ | refine up_ne (by omega) ?_), (eF (kn + 2) (by omega)).trans (by repeat' first | assumption | exact up_eq _ _ _ | refine up_ne (by omega) ?_)⟩
  have eG : ∀ k, k ≠ p + 1 → k ≠ p + 2 → k ≠ kn + 2 → (k < q ∨ q + 3 ≤ k) → sg55 k = sg k := fun k a1 a2 a3 a4 => (eF k (by omega)).trans ((by repeat' first | exact rfl | refine up_ne (by omega) ?_ : _ = sg15 k).trans ((bF k a1 a3).trans (aF k a1 a3)))
  obtain ⟨e1, e2, e3⟩ := id eS
  obtain ⟨eP1, eP2, eP3⟩ := id eP
  obtain ⟨eC1, eC2, eC3⟩ := id eC
  refine g_aload_n C rfl rfl d_P_add_58 ?_
  refine g_dup C rfl d_P_add_59 ?_
  refine gf_P_90 C d_P_add_60 (by first | assumption | omega) (by repeat' first | assumption | exact up_eq _ _ _ | refine up_ne (by omega) ?_) (by rfl) ?_
  refine g_iload_n C rfl rfl d_P_add_63 ?_
  refine g_iadd C d_P_add_64 ?_
  refine pf_P_90 C d_P_add_65 rfl rfl (by first | assumption | omega) (by repeat' first | assumption | exact up_eq _ _ _ | refine up_ne (by omega) ?_) (by exact Nat.le_of_ble_eq_true rfl) ?_
  refine g_aload_n C rfl rfl d_P_add_68 ?_
  refine gf_P_75 C d_P_add_69 (by first | assumption | omega) (by repeat' first | assumption | exact up_eq _ _ _ | refine up_ne (by omega) ?_) (by rfl) ?_
  refine g_aload_n C rfl rfl d_P_add_72 ?_
  refine gf_P_21 C d_P_add_73 (by first | assumption | omega) (by repeat' first | assumption | exact up_eq _ _ _ | refine up_ne (by omega) ?_) (by rfl) ?_
  refine gf_P_57 C d_P_add_76 (by first | assumption | omega) (by repeat' first | assumption | exact up_eq _ _ _ | refine up_ne (by omega) ?_) (by rfl) ?_
  refine g_icmp_gt (tgt := 109) C d_P_add_79 (by decide) (fun j79 => ?_) (fun j79 => ?_)
  · first | exact tail _ lq (by rw [aLq, if_neg (fun w => absurd ((iI_lt (by omega) (by omega) (by omega) (by omega)).mp j79) (by omega))]) ⟨(by repeat' first | assumption | exact up_eq _ _ _ | refine up_ne (by omega) ?_), (by repeat' first | assumption | exact up_eq _ _ _ | refine up_ne (by omega) ?_), (by repeat' first | assumption | exact up_eq _ _ _ | refine up_ne (by omega) ?_)⟩ ⟨(by repeat' first | assumption | exact up_eq _ _ _ | refine up_ne (by omega) ?_), (by repeat' first | assumption | exact up_eq _ _ _ | refine up_ne (by omega) ?_), (by repeat' first | assumption | exact up_eq _ _ _ | refine up_ne (by omega) ?_)⟩ ⟨(by repeat' first | assumption | exact up_eq _ _ _ | refine up_ne (by omega) ?_), (by repeat' first | assumption | exact up_eq _ _ _ | refine up_ne (by omega) ?_), (by repeat' first | assumption | exact up_eq _ _ _ | refine up_ne (by omega) ?_)⟩ (fun k a1 a2 a3 a4 a5 => (up_ne (by omega) (eG k a1 a2 a4 a5))) | exact tail _ lq (by rw [aLq, if_neg (fun w => absurd ((iI_le (by omega) (by omega) (by omega) (by omega)).mp j93) (by omega))]) ⟨(by repeat' first | assumption | exact up_eq _ _ _ | refine up_ne (by omega) ?_), (by repeat' first | assumption | exact up_eq _ _ _ | refine up_ne (by omega) ?_), (by repeat' first | assumption | exact up_eq _ _ _ | refine up_ne (by omega) ?_)⟩ ⟨(by repeat' first | assumption | exact up_eq _ _ _ | refine up_ne (by omega) ?_), (by repeat' first | assumption | exact up_eq _ _ _ | refine up_ne (by omega) ?_), (by repeat' first | assumption | exact up_eq _ _ _ | refine up_ne (by omega) ?_)⟩ ⟨(by repeat' first | assumption | exact up_eq _ _ _ | refine up_ne (by omega) ?_), (by repeat' first | assumption | exact up_eq _ _ _ | refine up_ne (by omega) ?_), (by repeat' first | assumption | exact up_eq _ _ _ | refine up_ne (by omega) ?_)⟩ (fun k a1 a2 a3 a4 a5 => (up_ne (by omega) (eG k a1 a2 a4 a5))) | exact tail _ (lq + d) (by rw [aLq, if_pos ⟨Int.not_lt.mp (fun w => j79 ((iI_lt (by omega) (by omega) (by omega) (by omega)).mpr w)), Int.not_le.mp (fun w => j93 ((iI_le (by omega) (by omega) (by omega) (by omega)).mpr w))⟩]) ⟨(by repeat' first | assumption | exact up_eq _ _ _ | refine up_ne (by omega) ?_), (by repeat' first | assumption | exact up_eq _ _ _ | refine up_ne (by omega) ?_), (by repeat' first | assumption | exact up_eq _ _ _ | refine up_ne (by omega) ?_)⟩ ⟨(by repeat' first | assumption | exact up_eq _ _ _ | refine up_ne (by omega) ?_), (by repeat' first | assumption | exact up_eq _ _ _ | refine up_ne (by omega) ?_), (by repeat' first | assumption | exact up_eq _ _ _ | refine up_ne (by omega) ?_)⟩ ⟨(by repeat' first | assumption | exact up_eq _ _ _ | refine up_ne (by omega) ?_), (by repeat' first | assumption | exact up_eq _ _ _ | refine up_ne (by omega) ?_), (by repeat' first | assumption | exact up_eq _ _ _ | refine up_ne (by omega) ?_)⟩ (fun k a1 a2 a3 a4 a5 => (up_ne (by omega) (up_ne (by omega) (eG k a1 a2 a4 a5))))
  · refine g_aload_n C rfl rfl d_P_add_82 ?_
    refine gf_P_21 C d_P_add_83 (by first | assumption | omega) (by repeat' first | assumption | exact up_eq _ _ _ | refine up_ne (by omega) ?_) (by rfl) ?_
    refine gf_P_57 C d_P_add_86 (by first | assumption | omega) (by repeat' first | assumption | exact up_eq _ _ _ | refine up_ne (by omega) ?_) (by rfl) ?_
    refine g_aload_n C rfl rfl d_P_add_89 ?_
    refine gf_P_84 C d_P_add_90 (by first | assumption | omega) (by repeat' first | assumption | exact up_eq _ _ _ | refine up_ne (by omega) ?_) (by rfl) ?_
    refine g_icmp_ge (tgt := 109) C d_P_add_93 (by decide) (fun j93 => ?_) (fun j93 => ?_)
    · first | exact tail _ lq (by rw [aLq, if_neg (fun w => absurd ((iI_lt (by omega) (by omega) (by omega) (by omega)).mp j79) (by omega))]) ⟨(by repeat' first | assumption | exact up_eq _ _ _ | refine up_ne (by omega) ?_), (by repeat' first | assumption | exact up_eq _ _ _ | refine up_ne (by omega) ?_), (by repeat' first | assumption | exact up_eq _ _ _ | refine up_ne (by omega) ?_)⟩ ⟨(by repeat' first | assumption | exact up_eq _ _ _ | refine up_ne (by omega) ?_), (by repeat' first | assumption | exact up_eq _ _ _ | refine up_ne (by omega) ?_), (by repeat' first | assumption | exact up_eq _ _ _ | refine up_ne (by omega) ?_)⟩ ⟨(by repeat' first | assumption | exact up_eq _ _ _ | refine up_ne (by omega) ?_), (by repeat' first | assumption | exact up_eq _ _ _ | refine up_ne (by omega) ?_), (by repeat' first | assumption | exact up_eq _ _ _ | refine up_ne (by omega) ?_)⟩ (fun k a1 a2 a3 a4 a5 => (up_ne (by omega) (eG k a1 a2 a4 a5))) | exact tail _ lq (by rw [aLq, if_neg (fun w => absurd ((iI_le (by omega) (by omega) (by omega) (by omega)).mp j93) (by omega))]) ⟨(by repeat' first | assumption | exact up_eq _ _ _ | refine up_ne (by omega) ?_), (by repeat' first | assumption | exact up_eq _ _ _ | refine up_ne (by omega) ?_), (by repeat' first | assumption | exact up_eq _ _ _ | refine up_ne (by omega) ?_)⟩ ⟨(by repeat' first | assumption | exact up_eq _ _ _ | refine up_ne (by omega) ?_), (by repeat' first | assumption | exact up_eq _ _ _ | refine up_ne (by omega) ?_), (by repeat' first | assumption | exact up_eq _ _ _ | refine up_ne (by omega) ?_)⟩ ⟨(by repeat' first | assumption | exact up_eq _ _ _ | refine up_ne (by omega) ?_), (by repeat' first | assumption | exact up_eq _ _ _ | refine up_ne (by omega) ?_), (by repeat' first | assumption | exact up_eq _ _ _ | refine up_ne (by omega) ?_)⟩ (fun k a1 a2 a3 a4 a5 => (up_ne (by omega) (eG k a1 a2 a4 a5))) | exact tail _ (lq + d) (by rw [aLq, if_pos ⟨Int.not_lt.mp (fun w => j79 ((iI_lt (by omega) (by omega) (by omega) (by omega)).mpr w)), Int.not_le.mp (fun w => j93 ((iI_le (by omega) (by omega) (by omega) (by omega)).mpr w))⟩]) ⟨(by repeat' first | assumption | exact up_eq _ _ _ | refine up_ne (by omega) ?_), (by repeat' first | assumption | exact up_eq _ _ _ | refine up_ne (by omega) ?_), (by repeat' first | assumption | exact up_eq _ _ _ | refine up_ne (by omega) ?_)⟩ ⟨(by repeat' first | assumption | exact up_eq _ _ _ | refine up_ne (by omega) ?_), (by repeat' first | assumption | exact up_eq _ _ _ | refine up_ne (by omega) ?_), (by repeat' first | assumption | exact up_eq _ _ _ | refine up_ne (by omega) ?_)⟩ ⟨(by repeat' first | assumption | exact up_eq _ _ _ | refine up_ne (by omega) ?_), (by repeat' first | assumption | exact up_eq _ _ _ | refine up_ne (by omega) ?_), (by repeat' first | assumption | exact up_eq _ _ _ | refine up_ne (by omega) ?_)⟩ (fun k a1 a2 a3 a4 a5 => (up_ne (by omega) (up_ne (by omega) (eG k a1 a2 a4 a5))))
    · refine g_aload_n C rfl rfl d_P_add_96 ?_
      refine gf_P_21 C d_P_add_97 (by first | assumption | omega) (by repeat' first | assumption | exact up_eq _ _ _ | refine up_ne (by omega) ?_) (by rfl) ?_
      refine g_dup C rfl d_P_add_100 ?_
      refine gf_P_93 C d_P_add_101 (by first | assumption | omega) (by repeat' first | assumption | exact up_eq _ _ _ | refine up_ne (by omega) ?_) (by rfl) ?_
      refine g_iload_n C rfl rfl d_P_add_104 ?_
      refine g_iadd C d_P_add_105 ?_
      refine pf_P_93 C d_P_add_106 rfl rfl (by first | assumption | omega) (by repeat' first | assumption | exact up_eq _ _ _ | refine up_ne (by omega) ?_) (by exact Nat.le_of_ble_eq_true rfl) ?_
      first | exact tail _ lq (by rw [aLq, if_neg (fun w => absurd ((iI_lt (by omega) (by omega) (by omega) (by omega)).mp j79) (by omega))]) ⟨(by repeat' first | assumption | exact up_eq _ _ _ | refine up_ne (by omega) ?_), (by repeat' first | assumption | exact up_eq _ _ _ | refine up_ne (by omega) ?_), (by repeat' first | assumption | exact up_eq _ _ _ | refine up_ne (by omega) ?_)⟩ ⟨(by repeat' first | assumption | exact up_eq _ _ _ | refine up_ne (by omega) ?_), (by repeat' first | assumption | exact up_eq _ _ _ | refine up_ne (by omega) ?_), (by repeat' first | assumption | exact up_eq _ _ _ | refine up_ne (by omega) ?_)⟩ ⟨(by repeat' first | assumption | exact up_eq _ _ _ | refine up_ne (by omega) ?_), (by repeat' first | assumption | exact up_eq _ _ _ | refine up_ne (by omega) ?_), (by repeat' first | assumption | exact up_eq _ _ _ | refine up_ne (by omega) ?_)⟩ (fun k a1 a2 a3 a4 a5 => (up_ne (by omega) (eG k a1 a2 a4 a5))) | exact tail _ lq (by rw [aLq, if_neg (fun w => absurd ((iI_le (by omega) (by omega) (by omega) (by omega)).mp j93) (by omega))]) ⟨(by repeat' first | assumption | exact up_eq _ _ _ | refine up_ne (by omega) ?_), (by repeat' first | assumption | exact up_eq _ _ _ | refine up_ne (by omega) ?_), (by repeat' first | assumption | exact up_eq _ _ _ | refine up_ne (by omega) ?_)⟩ ⟨(by repeat' first | assumption | exact up_eq _ _ _ | refine up_ne (by omega) ?_), (by repeat' first | assumption | exact up_eq _ _ _ | refine up_ne (by omega) ?_), (by repeat' first | assumption | exact up_eq _ _ _ | refine up_ne (by omega) ?_)⟩ ⟨(by repeat' first | assumption | exact up_eq _ _ _ | refine up_ne (by omega) ?_), (by repeat' first | assumption | exact up_eq _ _ _ | refine up_ne (by omega) ?_), (by repeat' first | assumption | exact up_eq _ _ _ | refine up_ne (by omega) ?_)⟩ (fun k a1 a2 a3 a4 a5 => (up_ne (by omega) (eG k a1 a2 a4 a5))) | exact tail _ (lq + d) (by rw [aLq, if_pos ⟨Int.not_lt.mp (fun w => j79 ((iI_lt (by omega) (by omega) (by omega) (by omega)).mpr w)), Int.not_le.mp (fun w => j93 ((iI_le (by omega) (by omega) (by omega) (by omega)).mpr w))⟩]) ⟨(by repeat' first | assumption | exact up_eq _ _ _ | refine up_ne (by omega) ?_), (by repeat' first | assumption | exact up_eq _ _ _ | refine up_ne (by omega) ?_), (by repeat' first | assumption | exact up_eq _ _ _ | refine up_ne (by omega) ?_)⟩ ⟨(by repeat' first | assumption | exact up_eq _ _ _ | refine up_ne (by omega) ?_), (by repeat' first | assumption | exact up_eq _ _ _ | refine up_ne (by omega) ?_), (by repeat' first | assumption | exact up_eq _ _ _ | refine up_ne (by omega) ?_)⟩ ⟨(by repeat' first | assumption | exact up_eq _ _ _ | refine up_ne (by omega) ?_), (by repeat' first | assumption | exact up_eq _ _ _ | refine up_ne (by omega) ?_), (by repeat' first | assumption | exact up_eq _ _ _ | refine up_ne (by omega) ?_)⟩ (fun k a1 a2 a3 a4 a5 => (up_ne (by omega) (up_ne (by omega) (eG k a1 a2 a4 a5))))

