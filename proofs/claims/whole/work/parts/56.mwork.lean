-- THE REFERENCE'S SWAP TRIED
theorem upd2L {f : Nat → Int64} {k : Nat} {x y : Int64} : vp_updL (vp_updL f k x) k y = vp_updL f k y := by
  funext j
  by_cases e : j = k
  · subst e; rw [pk_usL, pk_usL]
  · rw [pk_unL e, pk_unL e, pk_unL e]
theorem upd2I {f : Nat → Int32} {k : Nat} {x y : Int32} : upd (upd f k x) k y = upd f k y := by
  funext j
  by_cases e : j = k
  · subst e; rw [pk_us, pk_us]
  · rw [pk_un e, pk_un e, pk_un e]
/-- the reference's own state beside a swap's: the growth so far, what rose at each place -/
abbrev Y7 : Type := Q5 × Int64 × (Nat → Int64)
def mQ (dn ex : Bool) (f M : Nat) (st : Nat → Bool) (b : Int → Nat → Bool) (dep : Int → Nat) (x : Y7) : Y7 :=
  (zQ dn ex f M st dep x.1, x.2.1 + lN (zFq dn ex f M st dep x.1 * 4294967296 / dep x.1.2.1), riU (b x.1.2.1) (lN (zFq dn ex f M st dep x.1 * 4294967296 / dep x.1.2.1)) x.2.2 12)
noncomputable def mRun (dn ex : Bool) (f M : Nat) (st : Nat → Bool) (b : Int → Nat → Bool) (dep : Int → Nat) : Nat → Y7 → Y7
  | 0, x => x
  | n + 1, x => if x.1.2.2.1 = 0 ∨ x.1.1 = M then x else mRun dn ex f M st b dep n (mQ dn ex f M st b dep x)
theorem mRun_done {dn ex : Bool} {f M : Nat} {st : Nat → Bool} {b : Int → Nat → Bool} {dep : Int → Nat} {x : Y7} (h : zDn M x.1) (n : Nat) : mRun dn ex f M st b dep n x = x := by
  cases n with
  | zero => rfl
  | succ n => exact if_pos h
theorem mRun_go {dn ex : Bool} {f M : Nat} {st : Nat → Bool} {b : Int → Nat → Bool} {dep : Int → Nat} {x : Y7} (h : ¬ zDn M x.1) (n : Nat) : mRun dn ex f M st b dep (n + 1) x = mRun dn ex f M st b dep n (mQ dn ex f M st b dep x) := if_neg h
def riZ (pl : Nat → Nat) (p : Nat) (ri : Nat → Int64) (k : Nat) (i : Nat) : Int64 := if i < k ∧ pl i = p then 0 else ri i
theorem riZ_0 (pl : Nat → Nat) (p : Nat) (ri : Nat → Int64) : riZ pl p ri 0 = ri := by
  funext i
  exact if_neg (fun q => by omega)
theorem riZ_t {pl : Nat → Nat} {p : Nat} {ri : Nat → Int64} {i : Nat} (h : pl i = p) : vp_updL (riZ pl p ri i) i 0 = riZ pl p ri (i + 1) := by
  funext j
  by_cases e : j = i
  · subst e
    rw [pk_usL]
    unfold riZ
    rw [if_pos ⟨by omega, h⟩]
  · rw [pk_unL e]
    unfold riZ
    by_cases c : j < i ∧ pl j = p
    · rw [if_pos c, if_pos ⟨by omega, c.2⟩]
    · rw [if_neg c, if_neg (fun q => c ⟨by omega, q.2⟩)]
theorem riZ_f {pl : Nat → Nat} {p : Nat} {ri : Nat → Int64} {i : Nat} (h : ¬ pl i = p) : vp_updL (riZ pl p ri i) i (riZ pl p ri i i) = riZ pl p ri (i + 1) := by
  funext j
  by_cases e : j = i
  · subst e
    rw [pk_usL]
    unfold riZ
    rw [if_neg (fun q => by omega), if_neg (fun q => h q.2)]
  · rw [pk_unL e]
    unfold riZ
    by_cases c : j < i ∧ pl j = p
    · rw [if_pos c, if_pos ⟨by omega, c.2⟩]
    · rw [if_neg c, if_neg (fun q => c ⟨by omega, q.2⟩)]
theorem isMP_mv {s s2 : Nat → va_E} {m : Nat} {th : Nat → Bool} {ow pl : Nat → Nat} {lo hi : Nat → Int} {am : Nat → Nat} (h : isMP s m th ow pl lo hi am) (e : ∀ j, m + 9 ≤ j → j ≤ m + 14 → s2 j = s j) : isMP s2 m th ow pl lo hi am := ⟨(e _ (by omega) (by omega)).trans h.1, (e _ (by omega) (by omega)).trans h.2.1, (e _ (by omega) (by omega)).trans h.2.2.1, (e _ (by omega) (by omega)).trans h.2.2.2.1, (e _ (by omega) (by omega)).trans h.2.2.2.2.1, (e _ (by omega) (by omega)).trans h.2.2.2.2.2⟩
theorem isMR_mv {s s2 : Nat → va_E} {m : Nat} (h : isMR s m) (e : s2 (m + 1) = s (m + 1)) : isMR s2 m := by
  obtain ⟨f, h1, h2⟩ := h
  exact ⟨f, e.trans h1, h2⟩
theorem dsum_le {b : Nat → Bool} {am : Nat → Nat} {c : Nat} (n : Nat) (h : ∀ i, i < n → am i ≤ c) : dsum b am n ≤ n * c := by
  induction n with
  | zero => exact Nat.zero_le _
  | succ n ih =>
    have h1 := ih (fun i q => h i (by omega))
    have h2 := h n (by omega)
    unfold dsum
    rw [Nat.add_mul, Nat.one_mul]
    split
    · omega
    · omega
def mDep (th : Nat → Bool) (pl : Nat → Nat) (lo hi : Nat → Int) (am : Nat → Nat) (p : Nat) (tz : Int) : Nat := dsum (mIn th pl lo hi p tz) am 12
theorem mDep_le {th : Nat → Bool} {pl : Nat → Nat} {lo hi : Nat → Int} {am : Nat → Nat} {p : Nat} {tz : Int} (h : ∀ i, i < 12 → am i ≤ 50000000) : mDep th pl lo hi am p tz ≤ 600000000 := dsum_le 12 h
set_option maxHeartbeats 8000000 in
theorem c_M_work {l : Launch} {o n : Nat} {sg : Nat → va_E} {m : Nat} {t0 : Int32} {la : Int64} {th : Nat → Bool} {ow pl : Nat → Nat} {lo hi : Nat → Int} {am : Nat → Nat} {np ng tk gt ri pr : Nat → Int64} {nt tc : Nat → Int32} {fee : Nat → Nat} {dn ex : Bool} {p r M S f : Nat} {tz : Int} {xf : Y7} (hn : m + 22 < n) (hM : isM sg o m t0 la) (hR : isMR sg m) (hP : isMP sg m th ow pl lo hi am) (hB : pBd pl lo hi) (hA : ∀ i, i < 12 → am i ≤ 50000000) (hfe : sg (m + 5) = eI 2 (fun i => nI (fee i))) (hpr : sg (m + 6) = eJ 2 pr) (htc : sg (m + 7) = eI 2 tc) (hnp : sg (m + 17) = eJ 2 np) (hnt : sg (m + 18) = eI 2 nt) (hng : sg (m + 19) = eJ 2 ng) (htk : sg (m + 20) = eJ 2 tk) (hgt : sg (m + 21) = eJ 2 gt) (hri : sg (m + 22) = eJ 12 ri) (hp : p < 2) (hfp : fee p = f) (hf : f ≤ 100) (hSe : pr p = lN S) (htz : tc p = iI tz) (hM0 : rt 0 ≤ M) (hM2 : M ≤ rt 80) (hI : QI dn M (S, tz, r, 0, 0)) (hxf : xf = mRun dn ex f M (mSet th pl lo hi am p) (mIn th pl lo hi p) (mDep th pl lo hi am p) 100 ((S, tz, r, 0, 0), 0, riZ pl p ri 12)) :
    GM l y_M_work b_M_work 10 none 5 155 0 0 o n n sg false [.ref (ad o m), .int (nI p), .int (bz dn), .int (bz ex), .long (lN r), .long (lN M)] (fun r0 s => none = r0 ∧ s (m + 17) = eJ 2 (vp_updL np p (lN xf.1.1)) ∧ s (m + 18) = eI 2 (upd nt p (iI xf.1.2.1)) ∧ s (m + 19) = eJ 2 (vp_updL ng p xf.2.1) ∧ s (m + 20) = eJ 2 (vp_updL tk p xf.1.2.2.2.1) ∧ s (m + 21) = eJ 2 (vp_updL gt p xf.1.2.2.2.2) ∧ s (m + 22) = eJ 12 xf.2.2 ∧ ∀ j, j < m + 17 ∨ m + 22 < j → s j = sg j) := by
  have hz0 := rt_z
  have ht80 := rt_top
  have hm1 : sg m = _ := hM
  have p3 := hP.2.2.1
  have hcl : (nI p).toNatClampNeg = p := nI_clamp (by omega)
  have hin : vp_in (nI p) 2 := vp_in_nI hp (by decide)
  refine GM_of (by decide) (Nat.le_of_ble_eq_true rfl) ?_
  intro K C hl hz hr hnm E
  show G K o n sg 0 0 0 [(0, .ref (ad o m)), (1, .int (nI p)), (2, .int (bz dn)), (3, .int (bz ex)), (4, .long (lN r)), (6, .long (lN M))] []
  have exit : ∀ (s : Nat → va_E) (x : Y7), zDn M x.1 → x = xf → QI dn M x.1 → s (m + 17) = eJ 2 (vp_updL np p (lN x.1.1)) → s (m + 18) = eI 2 (upd nt p (iI x.1.2.1)) → s (m + 19) = eJ 2 (vp_updL ng p x.2.1) → s (m + 20) = eJ 2 (vp_updL tk p x.1.2.2.2.1) → s (m + 21) = eJ 2 (vp_updL gt p x.1.2.2.2.2) → s (m + 22) = eJ 12 x.2.2 → (∀ j, j < m + 17 ∨ m + 22 < j → s j = sg j) → G K o n s 0 0 94 [(8, .long (lN x.1.2.2.1)), (0, .ref (ad o m)), (1, .int (nI p)), (2, .int (bz dn)), (3, .int (bz ex)), (6, .long (lN M))] [] := by
    intro s x hdn hx hq q1 q2 q3 q4 q5 q6 q7
    subst hx
    have sm1 : s m = _ := (q7 m (by omega)).trans hM
    have b1 : x.1.2.2.1 < 2 ^ 63 := Nat.lt_of_le_of_lt hq.2.1 (by decide)
    refine g_lload C rfl d_M_work_94 ?_
    refine g_lconst (v := 0) C rfl d_M_work_96 ?_
    refine g_lcmp_eq (tgt := 129) C d_M_work_97 d_M_work_98 (by decide) (fun j97 => ?_) (fun j97 => ?_)
    · refine g_vret C E hr d_M_work_129 ⟨rfl, q1, q2, q3, q4, q5, q6, q7⟩
    · refine g_aload_n C rfl rfl d_M_work_101 ?_
      refine gf_M_60 C d_M_work_102 (by first | assumption | omega) (by repeat' first | assumption | exact up_eq _ _ _ | refine up_ne (by omega) ?_) (by rfl) ?_
      refine g_iload_n C rfl rfl d_M_work_105 ?_
      refine g_lald C d_M_work_106 (by first | assumption | omega) (by repeat' first | assumption | exact up_eq _ _ _ | refine up_ne (by omega) ?_) hin ?_
      rw [hcl, pk_usL]
      refine g_lload C rfl d_M_work_107 ?_
      refine g_lcmp_eq (tgt := 129) C d_M_work_109 d_M_work_110 (by decide) (fun j109 => ?_) (fun j109 => ?_)
      · refine g_vret C E hr d_M_work_129 ⟨rfl, q1, q2, q3, q4, q5, q6, q7⟩
      · exact absurd hdn (fun q => q.elim (fun q => j97 ((lN_ne0 b1).mpr q)) (fun q => j109 (congrArg lN q)))
  have loop : ∀ (k : Nat) (s : Nat → va_E) (x : Y7), (zDn M x.1 ∨ zMu dn x.1 < k) → mRun dn ex f M (mSet th pl lo hi am p) (mIn th pl lo hi p) (mDep th pl lo hi am p) k x = xf → QI dn M x.1 → s (m + 17) = eJ 2 (vp_updL np p (lN x.1.1)) → s (m + 18) = eI 2 (upd nt p (iI x.1.2.1)) → s (m + 19) = eJ 2 (vp_updL ng p x.2.1) → s (m + 20) = eJ 2 (vp_updL tk p x.1.2.2.2.1) → s (m + 21) = eJ 2 (vp_updL gt p x.1.2.2.2.2) → s (m + 22) = eJ 12 x.2.2 → (∀ j, j < m + 17 ∨ m + 22 < j → s j = sg j) → G K o n s 0 0 94 [(8, .long (lN x.1.2.2.1)), (0, .ref (ad o m)), (1, .int (nI p)), (2, .int (bz dn)), (3, .int (bz ex)), (6, .long (lN M))] [] := by
    intro k
    induction k with
    | zero =>
      intro s x hd hx hq q1 q2 q3 q4 q5 q6 q7
      exact exit s x (hd.elim id (fun q => absurd q (Nat.not_lt_zero _))) hx hq q1 q2 q3 q4 q5 q6 q7
    | succ k ih =>
      intro s x hd hx hq q1 q2 q3 q4 q5 q6 q7
      by_cases hdn : zDn M x.1
      · exact exit s x hdn (by rw [mRun_done hdn] at hx; exact hx) hq q1 q2 q3 q4 q5 q6 q7
      · have sM : isM s o m t0 la := (q7 m (by omega)).trans hM
        have sm1 : s m = _ := sM
        have b1 : x.1.2.2.1 < 2 ^ 63 := Nat.lt_of_le_of_lt hq.2.1 (by decide)
        have b2 : x.1.1 < 2 ^ 63 := Nat.lt_trans hq.1.2.2.2.1 (by decide)
        have b3 : M < 2 ^ 63 := by omega
        have sP : isMP s m th ow pl lo hi am := isMP_mv hP (fun j a b => q7 j (by omega))
        have sR : isMR s m := isMR_mv hR (q7 _ (by omega))
        have sfe := (q7 (m + 5) (by omega)).trans hfe
        obtain ⟨hlt, hT0, hdd, hrg⟩ := zQ_facts (ex := ex) (f := f) (st := mSet th pl lo hi am p) (dep := mDep th pl lo hi am p) hM0 hM2 hq hdn
        obtain ⟨ok1, ok2⟩ := zQ_ok (ex := ex) (f := f) (st := mSet th pl lo hi am p) (dep := mDep th pl lo hi am p) hM0 hM2 hq hdn
        rw [mRun_go hdn] at hx
        refine g_lload C rfl d_M_work_94 ?_
        refine g_lconst (v := 0) C rfl d_M_work_96 ?_
        refine g_lcmp_eq (tgt := 129) C d_M_work_97 d_M_work_98 (by decide) (fun j97 => ?_) (fun j97 => ?_)
        · exact absurd (Or.inl ((lN_ne0 b1).mp j97)) hdn
        refine g_aload_n C rfl rfl d_M_work_101 ?_
        refine gf_M_60 C d_M_work_102 (by first | assumption | omega) (by repeat' first | assumption | exact up_eq _ _ _ | refine up_ne (by omega) ?_) (by rfl) ?_
        refine g_iload_n C rfl rfl d_M_work_105 ?_
        refine g_lald C d_M_work_106 (by first | assumption | omega) (by repeat' first | assumption | exact up_eq _ _ _ | refine up_ne (by omega) ?_) hin ?_
        rw [hcl, pk_usL]
        refine g_lload C rfl d_M_work_107 ?_
        refine g_lcmp_eq (tgt := 129) C d_M_work_109 d_M_work_110 (by decide) (fun j109 => ?_) (fun j109 => ?_)
        · exact absurd (Or.inr ((pk_lEQ b2 b3).mp j109)) hdn
        refine g_aload_n C rfl rfl d_M_work_113 ?_
        refine g_iload_n C rfl rfl d_M_work_114 ?_
        refine g_iload_n C rfl rfl d_M_work_115 ?_
        refine g_iload_n C rfl rfl d_M_work_116 ?_
        refine g_lload C rfl d_M_work_117 ?_
        refine g_lload C rfl d_M_work_119 ?_
        refine g_callV C (c_M_step (L := mDep th pl lo hi am p x.1.2.1) hn sM sR sP hB hA sfe q1 q2 q3 q4 q5 q6 hp hfp hf pk_usL pk_us hq.2.1 hq.1 hM0 hM2 hlt rfl (mDep_le hA) rfl rfl rfl) Y_M_step m_817 s_M_step m_815 rfl rfl ⟨by decide, by decide⟩ ⟨by decide, by decide⟩ (fun h => nomatch h) d_M_work_121 (by first | assumption | omega) (by repeat' first | assumption | exact up_eq _ _ _ | refine up_ne (by omega) ?_) rfl (Nat.le_of_ble_eq_true rfl) (fun ret sg121 hq => ?_)
        obtain ⟨rfl, e1, e2, e3, e4, e5, e6, e7⟩ := hq
        rw [upd2L] at e1
        rw [upd2I] at e2
        rw [upd2L, pk_usL] at e3
        rw [upd2L, pk_usL] at e4
        rw [upd2L, pk_usL] at e5
        refine g_lstore (lv' := [(8, .long (lN (zQ dn ex f M (mSet th pl lo hi am p) (mDep th pl lo hi am p) x.1).2.2.1)), (0, .ref (ad o m)), (1, .int (nI p)), (2, .int (bz dn)), (3, .int (bz ex)), (6, .long (lN M))]) C d_M_work_124 (by decide) rfl ?_
        refine g_goto (tgt := 94) C d_M_work_126 (by decide) ?_
        refine g_pick [0, 1, 2, 3, 4, 5] rfl ?_
        exact ih sg121 (mQ dn ex f M (mSet th pl lo hi am p) (mIn th pl lo hi p) (mDep th pl lo hi am p) x) (ok2.elim Or.inl (fun q => Or.inr (by rcases hd with d | d; exact absurd d hdn; show zMu dn (zQ dn ex f M (mSet th pl lo hi am p) (mDep th pl lo hi am p) x.1) < k; omega))) hx ok1 e1 e2 e3 e4 e5 e6 (fun j a => (e7 j a).trans (q7 j a))
  have hmu := zMu_le hI
  have zer : ∀ (k i : Nat), i + k = 12 → ∀ (s : Nat → va_E) (x : Int32), x = nI i → s (m + 17) = eJ 2 (vp_updL np p (lN S)) → s (m + 18) = eI 2 (upd nt p (iI tz)) → s (m + 19) = eJ 2 (vp_updL ng p 0) → s (m + 20) = eJ 2 (vp_updL tk p 0) → s (m + 21) = eJ 2 (vp_updL gt p 0) → s (m + 22) = eJ 12 (riZ pl p ri i) → (∀ j, j < m + 17 ∨ m + 22 < j → s j = sg j) → G K o n s 0 0 48 [(8, .int x), (0, .ref (ad o m)), (1, .int (nI p)), (2, .int (bz dn)), (3, .int (bz ex)), (4, .long (lN r)), (6, .long (lN M))] [] := by
    intro k
    induction k with
    | zero =>
      intro i hi2 s x ex2 q1 q2 q3 q4 q5 q6 q7
      have hi3 : i = 12 := by omega
      subst hi3
      refine g_iload C rfl d_M_work_48 ?_
      refine g_bipush (v := 12) C rfl d_M_work_50 ?_
      refine g_icmp_ge (tgt := 90) C d_M_work_52 (by decide) (fun j52 => ?_) (fun j52 => ?_)
      rotate_left
      · exact absurd (by rw [ex2]; decide) j52
      refine g_lload C rfl d_M_work_90 ?_
      refine g_lstore (lv' := [(8, .long (lN r)), (0, .ref (ad o m)), (1, .int (nI p)), (2, .int (bz dn)), (3, .int (bz ex)), (4, .long (lN r)), (6, .long (lN M))]) C d_M_work_92 (by decide) rfl ?_
      refine g_pick [0, 1, 2, 3, 4, 6] rfl ?_
      exact loop 100 s ((S, tz, r, 0, 0), 0, riZ pl p ri 12) (Or.inr hmu) hxf.symm hI q1 q2 q3 q4 q5 q6 q7
    | succ k ih =>
      intro i hi2 s x ex2 q1 q2 q3 q4 q5 q6 q7
      have hi3 : i < 12 := by omega
      have hci : (nI i).toNatClampNeg = i := nI_clamp (by omega)
      have hix : vp_in (nI i) 12 := vp_in_nI hi3 (by decide)
      have sm1 : s m = _ := (q7 m (by omega)).trans hM
      have sp3 := (q7 (m + 11) (by omega)).trans p3
      have hpl := (hB i hi3).1
      rw [ex2]
      refine g_iload C rfl d_M_work_48 ?_
      refine g_bipush (v := 12) C rfl d_M_work_50 ?_
      refine g_icmp_ge (tgt := 90) C d_M_work_52 (by decide) (fun j52 => ?_) (fun j52 => ?_)
      · exact absurd j52 (nI_ge (a := i) (b := 12) hi3 (by decide))
      refine g_aload_n C rfl rfl d_M_work_55 ?_
      refine gf_M_75 C d_M_work_56 (by first | assumption | omega) (by repeat' first | assumption | exact up_eq _ _ _ | refine up_ne (by omega) ?_) (by rfl) ?_
      refine g_iload C rfl d_M_work_59 ?_
      refine g_aload_n C rfl rfl d_M_work_61 ?_
      refine gf_M_42 C d_M_work_62 (by first | assumption | omega) (by repeat' first | assumption | exact up_eq _ _ _ | refine up_ne (by omega) ?_) (by rfl) ?_
      refine g_iload C rfl d_M_work_65 ?_
      refine g_iald C d_M_work_67 (by first | assumption | omega) (by repeat' first | assumption | exact up_eq _ _ _ | refine up_ne (by omega) ?_) hix ?_
      rw [hci]
      refine g_iload_n C rfl rfl d_M_work_68 ?_
      refine g_icmp_ne (tgt := 76) C d_M_work_69 (by decide) (fun j69 => ?_) (fun j69 => ?_)
      · refine g_aload_n C rfl rfl d_M_work_76 ?_
        refine gf_M_75 C d_M_work_77 (by first | assumption | omega) (by repeat' first | assumption | exact up_eq _ _ _ | refine up_ne (by omega) ?_) (by rfl) ?_
        refine g_iload C rfl d_M_work_80 ?_
        refine g_lald C d_M_work_82 (by first | assumption | omega) (by repeat' first | assumption | exact up_eq _ _ _ | refine up_ne (by omega) ?_) hix ?_
        try rw [hci]
        refine g_last C d_M_work_83 (by first | assumption | omega) (by repeat' first | assumption | exact up_eq _ _ _ | refine up_ne (by omega) ?_) hix ?_
        rw [hci]
        obtain ⟨y, e_y⟩ : ∃ y : Int32, ((nI i)) + Int32.ofInt 1 = y := ⟨_, rfl⟩
        refine g_iinc (lv' := [(8, .int y), (0, .ref (ad o m)), (1, .int (nI p)), (2, .int (bz dn)), (3, .int (bz ex)), (4, .long (lN r)), (6, .long (lN M))]) C d_M_work_84 rfl e_y (by decide) rfl ?_
        refine g_goto (tgt := 48) C d_M_work_87 (by decide) ?_
        refine g_pick [0, 1, 2, 3, 4, 5, 6] rfl ?_
        first | (have w : ¬ nI (pl i) = nI p := (by assumption); exact ih (i + 1) (by omega) _ _ (by rw [← e_y]; exact nI_1 i) (up_ne (by omega) q1) (up_ne (by omega) q2) (up_ne (by omega) q3) (up_ne (by omega) q4) (up_ne (by omega) q5) (by rw [← riZ_f (fun q => w (congrArg nI q))]; exact up_eq _ _ _) (fun j a => up_ne (by omega) (q7 j a))) | (have w : nI (pl i) = nI p := (by assumption); exact ih (i + 1) (by omega) _ _ (by rw [← e_y]; exact nI_1 i) (up_ne (by omega) q1) (up_ne (by omega) q2) (up_ne (by omega) q3) (up_ne (by omega) q4) (up_ne (by omega) q5) (by rw [← riZ_t ((nI_eq (by omega) (by omega)).mp w)]; exact up_eq _ _ _) (fun j a => up_ne (by omega) (q7 j a)))
      · refine g_lconst (v := 0) C rfl d_M_work_72 ?_
        refine g_goto (tgt := 83) C d_M_work_73 (by decide) ?_
        try rw [hci]
        refine g_last C d_M_work_83 (by first | assumption | omega) (by repeat' first | assumption | exact up_eq _ _ _ | refine up_ne (by omega) ?_) hix ?_
        rw [hci]
        obtain ⟨y, e_y⟩ : ∃ y : Int32, ((nI i)) + Int32.ofInt 1 = y := ⟨_, rfl⟩
        refine g_iinc (lv' := [(8, .int y), (0, .ref (ad o m)), (1, .int (nI p)), (2, .int (bz dn)), (3, .int (bz ex)), (4, .long (lN r)), (6, .long (lN M))]) C d_M_work_84 rfl e_y (by decide) rfl ?_
        refine g_goto (tgt := 48) C d_M_work_87 (by decide) ?_
        refine g_pick [0, 1, 2, 3, 4, 5, 6] rfl ?_
        first | (have w : ¬ nI (pl i) = nI p := (by assumption); exact ih (i + 1) (by omega) _ _ (by rw [← e_y]; exact nI_1 i) (up_ne (by omega) q1) (up_ne (by omega) q2) (up_ne (by omega) q3) (up_ne (by omega) q4) (up_ne (by omega) q5) (by rw [← riZ_f (fun q => w (congrArg nI q))]; exact up_eq _ _ _) (fun j a => up_ne (by omega) (q7 j a))) | (have w : nI (pl i) = nI p := (by assumption); exact ih (i + 1) (by omega) _ _ (by rw [← e_y]; exact nI_1 i) (up_ne (by omega) q1) (up_ne (by omega) q2) (up_ne (by omega) q3) (up_ne (by omega) q4) (up_ne (by omega) q5) (by rw [← riZ_t ((nI_eq (by omega) (by omega)).mp w)]; exact up_eq _ _ _) (fun j a => up_ne (by omega) (q7 j a)))
  refine g_aload_n C rfl rfl d_M_work_0 ?_
  refine gf_M_60 C d_M_work_1 (by first | assumption | omega) (by repeat' first | assumption | exact up_eq _ _ _ | refine up_ne (by omega) ?_) (by rfl) ?_
  refine g_iload_n C rfl rfl d_M_work_4 ?_
  refine g_aload_n C rfl rfl d_M_work_5 ?_
  refine gf_M_26 C d_M_work_6 (by first | assumption | omega) (by repeat' first | assumption | exact up_eq _ _ _ | refine up_ne (by omega) ?_) (by rfl) ?_
  refine g_iload_n C rfl rfl d_M_work_9 ?_
  refine g_lald C d_M_work_10 (by first | assumption | omega) (by repeat' first | assumption | exact up_eq _ _ _ | refine up_ne (by omega) ?_) hin ?_
  rw [hcl, hSe]
  refine g_last C d_M_work_11 (by first | assumption | omega) (by repeat' first | assumption | exact up_eq _ _ _ | refine up_ne (by omega) ?_) hin ?_
  rw [hcl]
  refine g_aload_n C rfl rfl d_M_work_12 ?_
  refine gf_M_63 C d_M_work_13 (by first | assumption | omega) (by repeat' first | assumption | exact up_eq _ _ _ | refine up_ne (by omega) ?_) (by rfl) ?_
  refine g_iload_n C rfl rfl d_M_work_16 ?_
  refine g_aload_n C rfl rfl d_M_work_17 ?_
  refine gf_M_29 C d_M_work_18 (by first | assumption | omega) (by repeat' first | assumption | exact up_eq _ _ _ | refine up_ne (by omega) ?_) (by rfl) ?_
  refine g_iload_n C rfl rfl d_M_work_21 ?_
  refine g_iald C d_M_work_22 (by first | assumption | omega) (by repeat' first | assumption | exact up_eq _ _ _ | refine up_ne (by omega) ?_) hin ?_
  rw [hcl, htz]
  refine g_iast C d_M_work_23 (by first | assumption | omega) (by repeat' first | assumption | exact up_eq _ _ _ | refine up_ne (by omega) ?_) hin ?_
  rw [hcl]
  refine g_aload_n C rfl rfl d_M_work_24 ?_
  refine gf_M_66 C d_M_work_25 (by first | assumption | omega) (by repeat' first | assumption | exact up_eq _ _ _ | refine up_ne (by omega) ?_) (by rfl) ?_
  refine g_iload_n C rfl rfl d_M_work_28 ?_
  refine g_lconst (v := 0) C rfl d_M_work_29 ?_
  refine g_last C d_M_work_30 (by first | assumption | omega) (by repeat' first | assumption | exact up_eq _ _ _ | refine up_ne (by omega) ?_) hin ?_
  rw [hcl]
  refine g_aload_n C rfl rfl d_M_work_31 ?_
  refine gf_M_69 C d_M_work_32 (by first | assumption | omega) (by repeat' first | assumption | exact up_eq _ _ _ | refine up_ne (by omega) ?_) (by rfl) ?_
  refine g_iload_n C rfl rfl d_M_work_35 ?_
  refine g_lconst (v := 0) C rfl d_M_work_36 ?_
  refine g_last C d_M_work_37 (by first | assumption | omega) (by repeat' first | assumption | exact up_eq _ _ _ | refine up_ne (by omega) ?_) hin ?_
  rw [hcl]
  refine g_aload_n C rfl rfl d_M_work_38 ?_
  refine gf_M_72 C d_M_work_39 (by first | assumption | omega) (by repeat' first | assumption | exact up_eq _ _ _ | refine up_ne (by omega) ?_) (by rfl) ?_
  refine g_iload_n C rfl rfl d_M_work_42 ?_
  refine g_lconst (v := 0) C rfl d_M_work_43 ?_
  refine g_last C d_M_work_44 (by first | assumption | omega) (by repeat' first | assumption | exact up_eq _ _ _ | refine up_ne (by omega) ?_) hin ?_
  rw [hcl]
  refine g_iconst (v := 0) C rfl d_M_work_45 ?_
  refine g_topi (fun x e_x => ?_)
  refine g_istore (lv' := [(8, .int x), (0, .ref (ad o m)), (1, .int (nI p)), (2, .int (bz dn)), (3, .int (bz ex)), (4, .long (lN r)), (6, .long (lN M))]) C d_M_work_46 (by decide) rfl ?_
  refine g_pick [0, 1, 2, 3, 4, 5, 6] rfl ?_
  exact zer 12 0 rfl _ _ e_x (by repeat' first | assumption | exact up_eq _ _ _ | refine up_ne (by omega) ?_) (by repeat' first | assumption | exact up_eq _ _ _ | refine up_ne (by omega) ?_) (by repeat' first | assumption | exact up_eq _ _ _ | refine up_ne (by omega) ?_) (by repeat' first | assumption | exact up_eq _ _ _ | refine up_ne (by omega) ?_) (by repeat' first | assumption | exact up_eq _ _ _ | refine up_ne (by omega) ?_) (by rw [riZ_0]; exact (by repeat' first | assumption | exact up_eq _ _ _ | refine up_ne (by omega) ?_)) (fun j a => by repeat' first | exact rfl | refine up_ne (by omega) ?_)

