-- THE REFERENCE CARRIES A SWAP OUT
def faC (b : Nat → Bool) (sd : Nat) (ri fa : Nat → Int64) (k : Nat) (i : Nat) : Int64 := if i % 2 = sd ∧ i / 2 < k ∧ b (i / 2) = true then fa i + ri (i / 2) else fa i
theorem faC_0 (b : Nat → Bool) (sd : Nat) (ri fa : Nat → Int64) : faC b sd ri fa 0 = fa := by
  funext i
  exact if_neg (fun q => by omega)
theorem faC_t {b : Nat → Bool} {sd : Nat} {ri fa : Nat → Int64} {k : Nat} (hs : sd < 2) (h : b k = true) : vp_updL (faC b sd ri fa k) (2 * k + sd) (faC b sd ri fa k (2 * k + sd) + ri k) = faC b sd ri fa (k + 1) := by
  funext j
  by_cases e : j = 2 * k + sd
  · subst e
    rw [pk_usL]
    unfold faC
    have h1 : (2 * k + sd) / 2 = k := by omega
    have h2 : (2 * k + sd) % 2 = sd := by omega
    rw [h1, h2, if_neg (fun q => by omega), if_pos ⟨rfl, by omega, h⟩]
  · rw [pk_unL e]
    unfold faC
    by_cases c : j % 2 = sd ∧ j / 2 < k ∧ b (j / 2) = true
    · rw [if_pos c, if_pos ⟨c.1, by omega, c.2.2⟩]
    · rw [if_neg c, if_neg (fun q => c ⟨q.1, by omega, q.2.2⟩)]
theorem faC_f {b : Nat → Bool} {sd : Nat} {ri fa : Nat → Int64} {k : Nat} (h : ¬ b k = true) : faC b sd ri fa k = faC b sd ri fa (k + 1) := by
  funext j
  unfold faC
  by_cases c : j % 2 = sd ∧ j / 2 < k ∧ b (j / 2) = true
  · rw [if_pos c, if_pos ⟨c.1, by omega, c.2.2⟩]
  · rw [if_neg c, if_neg (fun q => c ⟨q.1, by
      rcases Nat.lt_or_ge (j / 2) k with g | g
      · exact g
      · have : j / 2 = k := by omega
        rw [this] at q
        exact absurd q.2.2 h, q.2.2⟩)]
def sdN (dn : Bool) : Nat := if dn = true then 0 else 1
def bThP (th : Nat → Bool) (pl : Nat → Nat) (p : Nat) (i : Nat) : Bool := th i && decide (pl i = p)
def pyB (bal : Nat → Int64) (a t1 t2 : Nat) (x y : Int64) : Nat → Int64 := vp_updL (vp_updL bal (a * 3 + t1) (bal (a * 3 + t1) - x)) (a * 3 + t2) (vp_updL bal (a * 3 + t1) (bal (a * 3 + t1) - x) (a * 3 + t2) + y)
def pyH (hol : Nat → Int64) (t1 t2 : Nat) (x y : Int64) : Nat → Int64 := vp_updL (vp_updL hol t1 (hol t1 + x)) t2 (vp_updL hol t1 (hol t1 + x) t2 - y)
theorem sub_ng (x y : Int64) : x - -y = x + y := by rw [Int64.sub_eq_add_neg, Int64.neg_neg]
theorem add_ng (x y : Int64) : x + -y = x - y := (Int64.sub_eq_add_neg x y).symm
set_option maxHeartbeats 4000000 in
theorem c_M_carryOut {l : Launch} {o n : Nat} {sg : Nat → va_E} {m : Nat} {t0 : Int32} {la : Int64} {th : Nat → Bool} {ow pl : Nat → Nat} {lo hi : Nat → Int} {am : Nat → Nat} {np ng tk gt ri pr bal hol gw fa : Nat → Int64} {nt tc : Nat → Int32} (a p : Nat) (dn : Bool) (hn : m + 22 < n) (hM : isM sg o m t0 la) (hP : isMP sg m th ow pl lo hi am) (hB : pBd pl lo hi) (hb : sg (m + 2) = eJ 12 bal) (hh : sg (m + 4) = eJ 3 hol) (hpr : sg (m + 6) = eJ 2 pr) (htc : sg (m + 7) = eI 2 tc) (hgw : sg (m + 8) = eJ 4 gw) (hfa : sg (m + 15) = eJ 24 fa) (hnp : sg (m + 17) = eJ 2 np) (hnt : sg (m + 18) = eI 2 nt) (hng : sg (m + 19) = eJ 2 ng) (htk : sg (m + 20) = eJ 2 tk) (hgt : sg (m + 21) = eJ 2 gt) (hri : sg (m + 22) = eJ 12 ri) (ha : a < 4) (hp : p < 2) :
    GM l y_M_carryOut b_M_carryOut 6 none 2 36 0 0 o n n sg false [.ref (ad o m), .int (nI a), .int (nI p), .int (bz dn)] (fun r0 s => none = r0 ∧ s (m + 2) = eJ 12 (pyB bal a (p + sdN dn) (p + 1 - sdN dn) (tk p) (gt p)) ∧ s (m + 4) = eJ 3 (pyH hol (p + sdN dn) (p + 1 - sdN dn) (tk p) (gt p)) ∧ s (m + 6) = eJ 2 (vp_updL pr p (np p)) ∧ s (m + 7) = eI 2 (upd tc p (nt p)) ∧ s (m + 8) = eJ 4 (vp_updL gw (2 * p + sdN dn) (gw (2 * p + sdN dn) + ng p)) ∧ s (m + 15) = eJ 24 (faC (bThP th pl p) (sdN dn) ri fa 12) ∧ ∀ j, j ≠ m + 2 → j ≠ m + 4 → j ≠ m + 6 → j ≠ m + 7 → j ≠ m + 8 → j ≠ m + 15 → s j = sg j) := by
  have hm1 : sg m = _ := hM
  obtain ⟨p1, p2, p3, p4, p5, p6⟩ := id hP
  have hcl : (nI p).toNatClampNeg = p := nI_clamp (by omega)
  have hin : vp_in (nI p) 2 := vp_in_nI hp (by decide)
  refine GM_of (by decide) (Nat.le_of_ble_eq_true rfl) ?_
  intro K C hl hz hr hnm E
  show G K o n sg 0 0 0 [(0, .ref (ad o m)), (1, .int (nI a)), (2, .int (nI p)), (3, .int (bz dn))] []
  have hsd : sdN dn < 2 := by cases dn <;> decide
  generalize hsde : sdN dn = sd at *
  have loop : ∀ (k i : Nat), i + k = 12 → ∀ (s : Nat → va_E) (x : Int32), x = nI i → s (m + 6) = eJ 2 (vp_updL pr p (np p)) → s (m + 7) = eI 2 (upd tc p (nt p)) → s (m + 8) = eJ 4 (vp_updL gw (2 * p + sd) (gw (2 * p + sd) + ng p)) → s (m + 15) = eJ 24 (faC (bThP th pl p) sd ri fa i) → (∀ j, j ≠ m + 6 → j ≠ m + 7 → j ≠ m + 8 → j ≠ m + 15 → s j = sg j) → G K o n s 0 0 58 [(5, .int x), (4, .int (nI sd)), (0, .ref (ad o m)), (1, .int (nI a)), (2, .int (nI p))] [] := by
    intro k
    induction k with
    | zero =>
      intro i hi2 s x ex2 q1 q2 q3 q4 q5
      have hi3 : i = 12 := by omega
      subst hi3
      have sM : isM s o m t0 la := (q5 m (by omega) (by omega) (by omega) (by omega)).trans hM
      have sm1 : s m = _ := sM
      have sb := (q5 (m + 2) (by omega) (by omega) (by omega) (by omega)).trans hb
      have sh := (q5 (m + 4) (by omega) (by omega) (by omega) (by omega)).trans hh
      have st := (q5 (m + 20) (by omega) (by omega) (by omega) (by omega)).trans htk
      have sg2 := (q5 (m + 21) (by omega) (by omega) (by omega) (by omega)).trans hgt
      refine g_iload C rfl d_M_carryOut_58 ?_
      refine g_bipush (v := 12) C rfl d_M_carryOut_60 ?_
      refine g_icmp_ge (tgt := 114) C d_M_carryOut_62 (by decide) (fun j62 => ?_) (fun j62 => ?_)
      rotate_left
      · exact absurd (by rw [ex2]; decide) j62
      refine g_aload_n C rfl rfl d_M_carryOut_114 ?_
      refine g_iload_n C rfl rfl d_M_carryOut_115 ?_
      refine g_iload_n C rfl rfl d_M_carryOut_116 ?_
      refine g_iload C rfl d_M_carryOut_117 ?_
      refine g_iadd C d_M_carryOut_119 ?_
      rw [nI_add]
      refine g_aload_n C rfl rfl d_M_carryOut_120 ?_
      refine gf_M_69 C d_M_carryOut_121 (by first | assumption | omega) (by repeat' first | assumption | exact up_eq _ _ _ | refine up_ne (by omega) ?_) (by rfl) ?_
      refine g_iload_n C rfl rfl d_M_carryOut_124 ?_
      refine g_lald C d_M_carryOut_125 (by first | assumption | omega) (by repeat' first | assumption | exact up_eq _ _ _ | refine up_ne (by omega) ?_) hin ?_
      rw [hcl]
      refine g_callV C (c_M_pay a (p + sd) (tk p) hn sM sb sh ha (by omega)) Y_M_pay m_791 s_M_pay m_789 rfl rfl ⟨by decide, by decide⟩ ⟨by decide, by decide⟩ (fun h => nomatch h) d_M_carryOut_126 (by first | assumption | omega) (by repeat' first | assumption | exact up_eq _ _ _ | refine up_ne (by omega) ?_) rfl (Nat.le_of_ble_eq_true rfl) (fun ret sg126 hq => ?_)
      obtain ⟨rfl, rfl⟩ := hq
      refine g_aload_n C rfl rfl d_M_carryOut_129 ?_
      refine g_iload_n C rfl rfl d_M_carryOut_130 ?_
      refine g_iload_n C rfl rfl d_M_carryOut_131 ?_
      refine g_iconst (v := 1) C rfl d_M_carryOut_132 ?_
      refine g_iadd C d_M_carryOut_133 ?_
      refine g_iload C rfl d_M_carryOut_134 ?_
      refine g_isub C d_M_carryOut_136 ?_
      rw [nI_1, show nI (p + 1) - nI sd = nI (p + 1 - sd) from pk_sub (by omega)]
      refine g_aload_n C rfl rfl d_M_carryOut_137 ?_
      refine gf_M_72 C d_M_carryOut_138 (by first | assumption | omega) (by repeat' first | assumption | exact up_eq _ _ _ | refine up_ne (by omega) ?_) (by rfl) ?_
      refine g_iload_n C rfl rfl d_M_carryOut_141 ?_
      refine g_lald C d_M_carryOut_142 (by first | assumption | omega) (by repeat' first | assumption | exact up_eq _ _ _ | refine up_ne (by omega) ?_) hin ?_
      rw [hcl]
      refine g_lneg C d_M_carryOut_143 ?_
      refine g_callV C (c_M_pay (th := t0) (la := la) (bal := vp_updL bal (a * 3 + (p + sd)) (bal (a * 3 + (p + sd)) - tk p)) (hol := vp_updL hol (p + sd) (hol (p + sd) + tk p)) a (p + 1 - sd) (-gt p) hn (by unfold isM; exact (by repeat' first | assumption | exact up_eq _ _ _ | refine up_ne (by omega) ?_)) (by repeat' first | assumption | exact up_eq _ _ _ | refine up_ne (by omega) ?_) (by repeat' first | assumption | exact up_eq _ _ _ | refine up_ne (by omega) ?_) ha (by omega)) Y_M_pay m_791 s_M_pay m_789 rfl rfl ⟨by decide, by decide⟩ ⟨by decide, by decide⟩ (fun h => nomatch h) d_M_carryOut_144 (by first | assumption | omega) (by repeat' first | assumption | exact up_eq _ _ _ | refine up_ne (by omega) ?_) rfl (Nat.le_of_ble_eq_true rfl) (fun ret sg144 hq => ?_)
      obtain ⟨rfl, rfl⟩ := hq
      refine g_vret C E hr d_M_carryOut_147 ?_
      exact ⟨rfl, by rw [sub_ng]; exact (by repeat' first | assumption | exact up_eq _ _ _ | refine up_ne (by omega) ?_), by rw [add_ng]; exact (by repeat' first | assumption | exact up_eq _ _ _ | refine up_ne (by omega) ?_), (by repeat' first | assumption | exact up_eq _ _ _ | refine up_ne (by omega) ?_), (by repeat' first | assumption | exact up_eq _ _ _ | refine up_ne (by omega) ?_), (by repeat' first | assumption | exact up_eq _ _ _ | refine up_ne (by omega) ?_), (by repeat' first | assumption | exact up_eq _ _ _ | refine up_ne (by omega) ?_), fun j a1 a2 a3 a4 a5 a6 => (by repeat' first | exact rfl | refine up_ne (by omega) ?_ : _ = s j).trans (q5 j a3 a4 a5 a6)⟩
    | succ k ih =>
      intro i hi2 s x ex2 q1 q2 q3 q4 q5
      have hi3 : i < 12 := by omega
      have hci : (nI i).toNatClampNeg = i := nI_clamp (by omega)
      have hc2 : (nI (2 * i + sd)).toNatClampNeg = 2 * i + sd := nI_clamp (by omega)
      have hix : vp_in (nI i) 12 := vp_in_nI hi3 (by decide)
      have hi24 : vp_in (nI (2 * i + sd)) 24 := vp_in_nI (by omega) (by decide)
      have sm1 : s m = _ := (q5 m (by omega) (by omega) (by omega) (by omega)).trans hM
      have sp1 := (q5 (m + 9) (by omega) (by omega) (by omega) (by omega)).trans p1
      have sp3 := (q5 (m + 11) (by omega) (by omega) (by omega) (by omega)).trans p3
      have sri := (q5 (m + 22) (by omega) (by omega) (by omega) (by omega)).trans hri
      have hpl := (hB i hi3).1
      rw [ex2]
      refine g_iload C rfl d_M_carryOut_58 ?_
      refine g_bipush (v := 12) C rfl d_M_carryOut_60 ?_
      refine g_icmp_ge (tgt := 114) C d_M_carryOut_62 (by decide) (fun j62 => ?_) (fun j62 => ?_)
      · exact absurd j62 (nI_ge (a := i) (b := 12) hi3 (by decide))
      refine g_aload_n C rfl rfl d_M_carryOut_65 ?_
      refine gf_M_35 C d_M_carryOut_66 (by first | assumption | omega) (by repeat' first | assumption | exact up_eq _ _ _ | refine up_ne (by omega) ?_) (by rfl) ?_
      refine g_iload C rfl d_M_carryOut_69 ?_
      refine g_zald C d_M_carryOut_71 (by first | assumption | omega) (by repeat' first | assumption | exact up_eq _ _ _ | refine up_ne (by omega) ?_) hix ?_
      rw [hci]
      refine g_if_eq (tgt := 108) C d_M_carryOut_72 (by decide) (fun j72 => ?_) (fun j72 => ?_)
      · try rw [hc2]
        obtain ⟨y, e_y⟩ : ∃ y : Int32, ((nI i)) + Int32.ofInt 1 = y := ⟨_, rfl⟩
        refine g_iinc (lv' := [(5, .int y), (4, .int (nI sd)), (0, .ref (ad o m)), (1, .int (nI a)), (2, .int (nI p))]) C d_M_carryOut_108 rfl e_y (by decide) rfl ?_
        refine g_goto (tgt := 58) C d_M_carryOut_111 (by decide) ?_
        refine g_pick [0, 1, 2, 3, 4] rfl ?_
        first | (have w : bz (th i) = 0 := (by assumption); exact ih (i + 1) (by omega) _ _ (by rw [← e_y]; exact nI_1 i) q1 q2 q3 (by rw [← faC_f (fun q => by rw [bThP, (bz_eq0 _).mp w, Bool.false_and] at q; exact absurd q (by decide))]; exact q4) q5) | (have w : ¬ nI (pl i) = nI p := (by assumption); exact ih (i + 1) (by omega) _ _ (by rw [← e_y]; exact nI_1 i) q1 q2 q3 (by rw [← faC_f (by unfold bThP; rw [decide_eq_false (fun q => w (congrArg nI q)), Bool.and_false]; decide)]; exact q4) q5) | (have w : ¬ bz (th i) = 0 := (by assumption); have w2 : nI (pl i) = nI p := (by assumption); exact ih (i + 1) (by omega) _ _ (by rw [← e_y]; exact nI_1 i) (up_ne (by omega) q1) (up_ne (by omega) q2) (up_ne (by omega) q3) (by rw [← faC_t hsd (by unfold bThP; rw [nb0 w, decide_eq_true ((nI_eq (by omega) (by omega)).mp w2)]; rfl)]; exact up_eq _ _ _) (fun j a1 a2 a3 a4 => up_ne (by omega) (q5 j a1 a2 a3 a4)))
      · refine g_aload_n C rfl rfl d_M_carryOut_75 ?_
        refine gf_M_42 C d_M_carryOut_76 (by first | assumption | omega) (by repeat' first | assumption | exact up_eq _ _ _ | refine up_ne (by omega) ?_) (by rfl) ?_
        refine g_iload C rfl d_M_carryOut_79 ?_
        refine g_iald C d_M_carryOut_81 (by first | assumption | omega) (by repeat' first | assumption | exact up_eq _ _ _ | refine up_ne (by omega) ?_) hix ?_
        rw [hci]
        refine g_iload_n C rfl rfl d_M_carryOut_82 ?_
        refine g_icmp_ne (tgt := 108) C d_M_carryOut_83 (by decide) (fun j83 => ?_) (fun j83 => ?_)
        · try rw [hc2]
          obtain ⟨y, e_y⟩ : ∃ y : Int32, ((nI i)) + Int32.ofInt 1 = y := ⟨_, rfl⟩
          refine g_iinc (lv' := [(5, .int y), (4, .int (nI sd)), (0, .ref (ad o m)), (1, .int (nI a)), (2, .int (nI p))]) C d_M_carryOut_108 rfl e_y (by decide) rfl ?_
          refine g_goto (tgt := 58) C d_M_carryOut_111 (by decide) ?_
          refine g_pick [0, 1, 2, 3, 4] rfl ?_
          first | (have w : bz (th i) = 0 := (by assumption); exact ih (i + 1) (by omega) _ _ (by rw [← e_y]; exact nI_1 i) q1 q2 q3 (by rw [← faC_f (fun q => by rw [bThP, (bz_eq0 _).mp w, Bool.false_and] at q; exact absurd q (by decide))]; exact q4) q5) | (have w : ¬ nI (pl i) = nI p := (by assumption); exact ih (i + 1) (by omega) _ _ (by rw [← e_y]; exact nI_1 i) q1 q2 q3 (by rw [← faC_f (by unfold bThP; rw [decide_eq_false (fun q => w (congrArg nI q)), Bool.and_false]; decide)]; exact q4) q5) | (have w : ¬ bz (th i) = 0 := (by assumption); have w2 : nI (pl i) = nI p := (by assumption); exact ih (i + 1) (by omega) _ _ (by rw [← e_y]; exact nI_1 i) (up_ne (by omega) q1) (up_ne (by omega) q2) (up_ne (by omega) q3) (by rw [← faC_t hsd (by unfold bThP; rw [nb0 w, decide_eq_true ((nI_eq (by omega) (by omega)).mp w2)]; rfl)]; exact up_eq _ _ _) (fun j a1 a2 a3 a4 => up_ne (by omega) (q5 j a1 a2 a3 a4)))
        · refine g_aload_n C rfl rfl d_M_carryOut_86 ?_
          refine gf_M_54 C d_M_carryOut_87 (by first | assumption | omega) (by repeat' first | assumption | exact up_eq _ _ _ | refine up_ne (by omega) ?_) (by rfl) ?_
          refine g_iconst (v := 2) C rfl d_M_carryOut_90 ?_
          refine g_iload C rfl d_M_carryOut_91 ?_
          refine g_imul C d_M_carryOut_93 ?_
          refine g_iload C rfl d_M_carryOut_94 ?_
          refine g_iadd C d_M_carryOut_96 ?_
          rw [two_k, nI_add]
          refine g_dup2 C rfl rfl d_M_carryOut_97 ?_
          refine g_lald C d_M_carryOut_98 (by first | assumption | omega) (by repeat' first | assumption | exact up_eq _ _ _ | refine up_ne (by omega) ?_) hi24 ?_
          rw [hc2]
          refine g_aload_n C rfl rfl d_M_carryOut_99 ?_
          refine gf_M_75 C d_M_carryOut_100 (by first | assumption | omega) (by repeat' first | assumption | exact up_eq _ _ _ | refine up_ne (by omega) ?_) (by rfl) ?_
          refine g_iload C rfl d_M_carryOut_103 ?_
          refine g_lald C d_M_carryOut_105 (by first | assumption | omega) (by repeat' first | assumption | exact up_eq _ _ _ | refine up_ne (by omega) ?_) hix ?_
          rw [hci]
          refine g_ladd C d_M_carryOut_106 ?_
          refine g_last C d_M_carryOut_107 (by first | assumption | omega) (by repeat' first | assumption | exact up_eq _ _ _ | refine up_ne (by omega) ?_) hi24 ?_
          try rw [hc2]
          obtain ⟨y, e_y⟩ : ∃ y : Int32, ((nI i)) + Int32.ofInt 1 = y := ⟨_, rfl⟩
          refine g_iinc (lv' := [(5, .int y), (4, .int (nI sd)), (0, .ref (ad o m)), (1, .int (nI a)), (2, .int (nI p))]) C d_M_carryOut_108 rfl e_y (by decide) rfl ?_
          refine g_goto (tgt := 58) C d_M_carryOut_111 (by decide) ?_
          refine g_pick [0, 1, 2, 3, 4] rfl ?_
          first | (have w : bz (th i) = 0 := (by assumption); exact ih (i + 1) (by omega) _ _ (by rw [← e_y]; exact nI_1 i) q1 q2 q3 (by rw [← faC_f (fun q => by rw [bThP, (bz_eq0 _).mp w, Bool.false_and] at q; exact absurd q (by decide))]; exact q4) q5) | (have w : ¬ nI (pl i) = nI p := (by assumption); exact ih (i + 1) (by omega) _ _ (by rw [← e_y]; exact nI_1 i) q1 q2 q3 (by rw [← faC_f (by unfold bThP; rw [decide_eq_false (fun q => w (congrArg nI q)), Bool.and_false]; decide)]; exact q4) q5) | (have w : ¬ bz (th i) = 0 := (by assumption); have w2 : nI (pl i) = nI p := (by assumption); exact ih (i + 1) (by omega) _ _ (by rw [← e_y]; exact nI_1 i) (up_ne (by omega) q1) (up_ne (by omega) q2) (up_ne (by omega) q3) (by rw [← faC_t hsd (by unfold bThP; rw [nb0 w, decide_eq_true ((nI_eq (by omega) (by omega)).mp w2)]; rfl)]; exact up_eq _ _ _) (fun j a1 a2 a3 a4 => up_ne (by omega) (q5 j a1 a2 a3 a4)))
  have main : G K o n sg 0 0 11 [(4, .int (nI sd)), (0, .ref (ad o m)), (1, .int (nI a)), (2, .int (nI p))] [] := by
    have hc2 : (nI (2 * p + sd)).toNatClampNeg = 2 * p + sd := nI_clamp (by omega)
    have hi4 : vp_in (nI (2 * p + sd)) 4 := vp_in_nI (by omega) (by decide)
    refine g_aload_n C rfl rfl d_M_carryOut_11 ?_
    refine gf_M_26 C d_M_carryOut_12 (by first | assumption | omega) (by repeat' first | assumption | exact up_eq _ _ _ | refine up_ne (by omega) ?_) (by rfl) ?_
    refine g_iload_n C rfl rfl d_M_carryOut_15 ?_
    refine g_aload_n C rfl rfl d_M_carryOut_16 ?_
    refine gf_M_60 C d_M_carryOut_17 (by first | assumption | omega) (by repeat' first | assumption | exact up_eq _ _ _ | refine up_ne (by omega) ?_) (by rfl) ?_
    refine g_iload_n C rfl rfl d_M_carryOut_20 ?_
    refine g_lald C d_M_carryOut_21 (by first | assumption | omega) (by repeat' first | assumption | exact up_eq _ _ _ | refine up_ne (by omega) ?_) hin ?_
    rw [hcl]
    refine g_last C d_M_carryOut_22 (by first | assumption | omega) (by repeat' first | assumption | exact up_eq _ _ _ | refine up_ne (by omega) ?_) hin ?_
    rw [hcl]
    refine g_aload_n C rfl rfl d_M_carryOut_23 ?_
    refine gf_M_29 C d_M_carryOut_24 (by first | assumption | omega) (by repeat' first | assumption | exact up_eq _ _ _ | refine up_ne (by omega) ?_) (by rfl) ?_
    refine g_iload_n C rfl rfl d_M_carryOut_27 ?_
    refine g_aload_n C rfl rfl d_M_carryOut_28 ?_
    refine gf_M_63 C d_M_carryOut_29 (by first | assumption | omega) (by repeat' first | assumption | exact up_eq _ _ _ | refine up_ne (by omega) ?_) (by rfl) ?_
    refine g_iload_n C rfl rfl d_M_carryOut_32 ?_
    refine g_iald C d_M_carryOut_33 (by first | assumption | omega) (by repeat' first | assumption | exact up_eq _ _ _ | refine up_ne (by omega) ?_) hin ?_
    rw [hcl]
    refine g_iast C d_M_carryOut_34 (by first | assumption | omega) (by repeat' first | assumption | exact up_eq _ _ _ | refine up_ne (by omega) ?_) hin ?_
    rw [hcl]
    refine g_aload_n C rfl rfl d_M_carryOut_35 ?_
    refine gf_M_32 C d_M_carryOut_36 (by first | assumption | omega) (by repeat' first | assumption | exact up_eq _ _ _ | refine up_ne (by omega) ?_) (by rfl) ?_
    refine g_iconst (v := 2) C rfl d_M_carryOut_39 ?_
    refine g_iload_n C rfl rfl d_M_carryOut_40 ?_
    refine g_imul C d_M_carryOut_41 ?_
    refine g_iload C rfl d_M_carryOut_42 ?_
    refine g_iadd C d_M_carryOut_44 ?_
    rw [two_k, nI_add]
    refine g_dup2 C rfl rfl d_M_carryOut_45 ?_
    refine g_lald C d_M_carryOut_46 (by first | assumption | omega) (by repeat' first | assumption | exact up_eq _ _ _ | refine up_ne (by omega) ?_) hi4 ?_
    rw [hc2]
    refine g_aload_n C rfl rfl d_M_carryOut_47 ?_
    refine gf_M_66 C d_M_carryOut_48 (by first | assumption | omega) (by repeat' first | assumption | exact up_eq _ _ _ | refine up_ne (by omega) ?_) (by rfl) ?_
    refine g_iload_n C rfl rfl d_M_carryOut_51 ?_
    refine g_lald C d_M_carryOut_52 (by first | assumption | omega) (by repeat' first | assumption | exact up_eq _ _ _ | refine up_ne (by omega) ?_) hin ?_
    rw [hcl]
    refine g_ladd C d_M_carryOut_53 ?_
    refine g_last C d_M_carryOut_54 (by first | assumption | omega) (by repeat' first | assumption | exact up_eq _ _ _ | refine up_ne (by omega) ?_) hi4 ?_
    rw [hc2]
    refine g_iconst (v := 0) C rfl d_M_carryOut_55 ?_
    refine g_topi (fun x e_x => ?_)
    refine g_istore (lv' := [(5, .int x), (4, .int (nI sd)), (0, .ref (ad o m)), (1, .int (nI a)), (2, .int (nI p))]) C d_M_carryOut_56 (by decide) rfl ?_
    exact loop 12 0 rfl _ _ e_x (by repeat' first | assumption | exact up_eq _ _ _ | refine up_ne (by omega) ?_) (by repeat' first | assumption | exact up_eq _ _ _ | refine up_ne (by omega) ?_) (by repeat' first | assumption | exact up_eq _ _ _ | refine up_ne (by omega) ?_) (by rw [faC_0]; exact (by repeat' first | assumption | exact up_eq _ _ _ | refine up_ne (by omega) ?_)) (fun j a1 a2 a3 a4 => by repeat' first | exact rfl | refine up_ne (by omega) ?_)
  cases dn
  · refine g_iload_n C rfl rfl d_M_carryOut_0 ?_
    refine g_if_eq (tgt := 8) C d_M_carryOut_1 (by decide) (fun j1 => ?_) (fun j1 => ?_)
    rotate_left
    · exact absurd rfl j1
    refine g_iconst (v := 1) C rfl d_M_carryOut_8 ?_
    rw [show (1 : Int32) = nI sd from by rw [← hsde]; rfl]
    refine g_istore (lv' := [(4, .int (nI sd)), (0, .ref (ad o m)), (1, .int (nI a)), (2, .int (nI p)), (3, .int (bz false))]) C d_M_carryOut_9 (by decide) rfl ?_
    refine g_pick [0, 1, 2, 3] rfl ?_
    exact main
  · refine g_iload_n C rfl rfl d_M_carryOut_0 ?_
    refine g_if_eq (tgt := 8) C d_M_carryOut_1 (by decide) (fun j1 => ?_) (fun j1 => ?_)
    · exact absurd j1 (by decide)
    refine g_iconst (v := 0) C rfl d_M_carryOut_4 ?_
    refine g_goto (tgt := 9) C d_M_carryOut_5 (by decide) ?_
    rw [show (0 : Int32) = nI sd from by rw [← hsde]; rfl]
    refine g_istore (lv' := [(4, .int (nI sd)), (0, .ref (ad o m)), (1, .int (nI a)), (2, .int (nI p)), (3, .int (bz true))]) C d_M_carryOut_9 (by decide) rfl ?_
    refine g_pick [0, 1, 2, 3] rfl ?_
    exact main

