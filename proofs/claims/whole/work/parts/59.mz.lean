-- ONE STATE FOR BOTH
abbrev ZA : Type := Int64 × (Nat → Int64) × (Nat → Int64) × (Nat → Int64)
abbrev ZQ : Type := (Nat → Nat) × (Nat → Nat) × (Nat → Int) × (Nat → Int64)
abbrev ZL : Type := (Nat → Nat) × (Nat → Nat) × (Nat → Int) × (Nat → Int) × (Nat → Nat) × (Nat → Int64) × (Nat → Int64)
abbrev ZS : Type := ZA × ZQ × ZL
abbrev zla (Z : ZS) : Int64 := Z.1.1
abbrev zbal (Z : ZS) : Nat → Int64 := Z.1.2.1
abbrev zgiv (Z : ZS) : Nat → Int64 := Z.1.2.2.1
abbrev zhol (Z : ZS) : Nat → Int64 := Z.1.2.2.2
abbrev zfee (Z : ZS) : Nat → Nat := Z.2.1.1
abbrev zpr (Z : ZS) : Nat → Nat := Z.2.1.2.1
abbrev ztk (Z : ZS) : Nat → Int := Z.2.1.2.2.1
abbrev zgw (Z : ZS) : Nat → Int64 := Z.2.1.2.2.2
abbrev zow (Z : ZS) : Nat → Nat := Z.2.2.1
abbrev zpl (Z : ZS) : Nat → Nat := Z.2.2.2.1
abbrev zlo (Z : ZS) : Nat → Int := Z.2.2.2.2.1
abbrev zhi (Z : ZS) : Nat → Int := Z.2.2.2.2.2.1
abbrev zam (Z : ZS) : Nat → Nat := Z.2.2.2.2.2.2.1
abbrev zfa (Z : ZS) : Nat → Int64 := Z.2.2.2.2.2.2.2.1
abbrev zod (Z : ZS) : Nat → Int64 := Z.2.2.2.2.2.2.2.2
def zth (Z : ZS) (i : Nat) : Bool := swB (zam Z i) (zod Z) i
/-- the reference's arrays that hold a state -/
def MA (s : Nat → va_E) (m : Nat) (Z : ZS) : Prop := isMR s m ∧ s (m + 2) = eJ 12 (zbal Z) ∧ s (m + 3) = eJ 3 (zgiv Z) ∧ s (m + 4) = eJ 3 (zhol Z) ∧ s (m + 5) = eI 2 (fun i => nI (zfee Z i)) ∧ s (m + 6) = eJ 2 (fun i => lN (zpr Z i)) ∧ s (m + 7) = eI 2 (fun i => iI (ztk Z i)) ∧ s (m + 8) = eJ 4 (zgw Z) ∧ isMP s m (zth Z) (zow Z) (zpl Z) (zlo Z) (zhi Z) (zam Z) ∧ s (m + 15) = eJ 24 (zfa Z) ∧ s (m + 16) = eJ 24 (zod Z)
def MX (s : Nat → va_E) (m : Nat) : Prop := ∃ (np : Nat → Int64) (nt : Nat → Int32) (ng tk gt ri : Nat → Int64), s (m + 17) = eJ 2 np ∧ s (m + 18) = eI 2 nt ∧ s (m + 19) = eJ 2 ng ∧ s (m + 20) = eJ 2 tk ∧ s (m + 21) = eJ 2 gt ∧ s (m + 22) = eJ 12 ri
def MW (s : Nat → va_E) (o m : Nat) (t : Int32) (Z : ZS) : Prop := isM s o m t (zla Z) ∧ MA s m Z ∧ MX s m
theorem MA_mv {s s' : Nat → va_E} {m : Nat} {Z : ZS} (h : MA s m Z) (e : ∀ j, m < j → j ≤ m + 16 → s' j = s j) : MA s' m Z := by
  obtain ⟨h1, h2, h3, h4, h5, h6, h7, h8, h9, h10, h11⟩ := h
  exact ⟨isMR_mv h1 (e _ (by omega) (by omega)), (e _ (by omega) (by omega)).trans h2, (e _ (by omega) (by omega)).trans h3, (e _ (by omega) (by omega)).trans h4, (e _ (by omega) (by omega)).trans h5, (e _ (by omega) (by omega)).trans h6, (e _ (by omega) (by omega)).trans h7, (e _ (by omega) (by omega)).trans h8, isMP_mv h9 (fun j a b => e j (by omega) (by omega)), (e _ (by omega) (by omega)).trans h10, (e _ (by omega) (by omega)).trans h11⟩
theorem MX_mv {s s' : Nat → va_E} {m : Nat} (h : MX s m) (e : ∀ j, m + 17 ≤ j → j ≤ m + 22 → s' j = s j) : MX s' m := by
  obtain ⟨np, nt, ng, tk, gt, ri, h1, h2, h3, h4, h5, h6⟩ := h
  exact ⟨np, nt, ng, tk, gt, ri, (e _ (by omega) (by omega)).trans h1, (e _ (by omega) (by omega)).trans h2, (e _ (by omega) (by omega)).trans h3, (e _ (by omega) (by omega)).trans h4, (e _ (by omega) (by omega)).trans h5, (e _ (by omega) (by omega)).trans h6⟩
theorem MW_up {s s' : Nat → va_E} {o m : Nat} {t c : Int32} {Z : ZS} (h : MW s o m t Z) (h0 : isM s' o m c (zla Z)) (e : ∀ j, m < j → j ≤ m + 22 → s' j = s j) : MW s' o m c Z := ⟨h0, MA_mv h.2.1 (fun j a b => e j a (by omega)), MX_mv h.2.2 (fun j a b => e j (by omega) b)⟩
def mfr (sg s : Nat → va_E) (m : Nat) : Prop := ∀ j, j < m ∨ m + 22 < j → s j = sg j
theorem okI_nat {a : Int32} {c : Nat} (hc : c < 2 ^ 31) (h : okI a (nI c)) : ∃ k, k < c ∧ a = nI k := by
  obtain ⟨k, h1, h2⟩ := nI_of h.1
  subst h2
  exact ⟨k, (nI_ltI h1 hc).mp h.2, rfl⟩
theorem nat_okI {k c : Nat} (hc : c < 2 ^ 31) (h : k < c) : okI (nI k) (nI c) := ⟨nI_pos (by omega), nI_lt h hc⟩
theorem bzd {p : Prop} {d : Decidable p} (h : p) : bz (decide p) = 1 := by rw [decide_eq_true h]; rfl
theorem bzn {p : Prop} {d : Decidable p} (h : ¬ p) : bz (decide p) = 0 := by rw [decide_eq_false h]; rfl
theorem ok4 {k : Nat} (h : k < 4) : ¬ nI k < 0 ∧ nI k < 4 := nat_okI (c := 4) (by decide) h
theorem ok3 {k : Nat} (h : k < 3) : ¬ nI k < 0 ∧ nI k < 3 := nat_okI (c := 3) (by decide) h
theorem ok2 {k : Nat} (h : k < 2) : ¬ nI k < 0 ∧ nI k < 2 := nat_okI (c := 2) (by decide) h
-- THE PLAIN CALLS OF THE REFERENCE
theorem c_M_thrown {l : Launch} {o n : Nat} {sg : Nat → va_E} {m : Nat} {t0 : Int32} {la : Int64} (hn : m + 22 < n) (hM : isM sg o m t0 la) : GM l y_M_thrown b_M_thrown 1 (some .int) 1 12 0 0 o n n sg false [.ref (ad o m)] (gR (some (.int t0)) sg) := by
  have hm1 : sg m = _ := hM
  refine GM_of (by decide) (Nat.le_of_ble_eq_true rfl) ?_
  intro K C hl hz hr hnm E
  show G K o n sg 0 0 0 [(0, .ref (ad o m))] []
  refine g_aload_n C rfl rfl d_M_thrown_0 ?_
  refine gf_M_84 C d_M_thrown_1 (by first | assumption | omega) (by repeat' first | assumption | exact up_eq _ _ _ | refine up_ne (by omega) ?_) (by rfl) ?_
  refine g_iret C E hr d_M_thrown_4 ⟨rfl, rfl⟩
theorem c_M_paid {l : Launch} {o n : Nat} {sg : Nat → va_E} {m : Nat} {t0 : Int32} {Z : ZS} (hn : m + 22 < n) (hW : MW sg o m t0 Z) : GM l y_M_paid b_M_paid 1 (some .long) 1 12 0 0 o n n sg false [.ref (ad o m)] (fun r0 s => some (.long (zla Z)) = r0 ∧ MW s o m 0 Z ∧ mfr sg s m) := by
  have hm1 : sg m = _ := hW.1
  refine GM_of (by decide) (Nat.le_of_ble_eq_true rfl) ?_
  intro K C hl hz hr hnm E
  show G K o n sg 0 0 0 [(0, .ref (ad o m))] []
  refine g_aload_n C rfl rfl d_M_paid_0 ?_
  refine g_iconst (v := 0) C rfl d_M_paid_1 ?_
  refine pf_M_84 C d_M_paid_2 rfl rfl (by first | assumption | omega) (by repeat' first | assumption | exact up_eq _ _ _ | refine up_ne (by omega) ?_) (by exact Nat.le_of_ble_eq_true rfl) ?_
  refine g_aload_n C rfl rfl d_M_paid_5 ?_
  refine gf_M_199 C d_M_paid_6 (by first | assumption | omega) (by repeat' first | assumption | exact up_eq _ _ _ | refine up_ne (by omega) ?_) (by rfl) ?_
  refine g_lret C E hr d_M_paid_9 ⟨rfl, MW_up hW (by unfold isM; exact (by repeat' first | assumption | exact up_eq _ _ _ | refine up_ne (by omega) ?_)) (fun j a b => by repeat' first | exact rfl | refine up_ne (by omega) ?_), fun j a => by repeat' first | exact rfl | refine up_ne (by omega) ?_⟩
theorem c_M_price {l : Launch} {o n : Nat} {sg : Nat → va_E} {m : Nat} {t0 : Int32} {Z : ZS} (p : Nat) (hn : m + 22 < n) (hW : MW sg o m t0 Z) (hp : p < 2) : GM l y_M_price b_M_price 2 (some .long) 2 32 0 0 o n n sg false [.ref (ad o m), .int (nI p)] (fun r0 s => some (.long (lN (zpr Z p))) = r0 ∧ MW s o m 0 Z ∧ mfr sg s m) := by
  have hm1 : sg m = _ := hW.1
  obtain ⟨a1, a2, a3, a4, a5, a6, a7, a8, a9, a10, a11⟩ := hW.2.1
  have hcl : (nI p).toNatClampNeg = p := nI_clamp (by omega)
  have hin : vp_in (nI p) 2 := vp_in_nI hp (by decide)
  refine GM_of (by decide) (Nat.le_of_ble_eq_true rfl) ?_
  intro K C hl hz hr hnm E
  show G K o n sg 0 0 0 [(0, .ref (ad o m)), (1, .int (nI p))] []
  refine g_aload_n C rfl rfl d_M_price_0 ?_
  refine g_iload_n C rfl rfl d_M_price_1 ?_
  refine g_callS C (c_M_isPool (nI p)) Y_M_isPool m_744 m_743 ⟨by decide, by decide⟩ ⟨by decide, by decide⟩ (fun h => nomatch h) d_M_price_2 rfl (Nat.le_of_ble_eq_true rfl) (fun ret sg2 hq => ?_)
  obtain ⟨rfl, rfl⟩ := hq
  refine g_if_eq (tgt := 12) C d_M_price_5 (by decide) (fun j5 => ?_) (fun j5 => ?_)
  · exact absurd (j5.symm.trans (bzd (ok2 hp))) (by decide)
  refine g_iconst (v := 0) C rfl d_M_price_8 ?_
  refine g_goto (tgt := 13) C d_M_price_9 (by decide) ?_
  refine pf_M_84 C d_M_price_13 rfl rfl (by first | assumption | omega) (by repeat' first | assumption | exact up_eq _ _ _ | refine up_ne (by omega) ?_) (by exact Nat.le_of_ble_eq_true rfl) ?_
  refine g_aload_n C rfl rfl d_M_price_16 ?_
  refine gf_M_84 C d_M_price_17 (by first | assumption | omega) (by repeat' first | assumption | exact up_eq _ _ _ | refine up_ne (by omega) ?_) (by rfl) ?_
  refine g_if_le (tgt := 27) C d_M_price_20 (by decide) (fun j20 => ?_) (fun j20 => ?_)
  rotate_left
  · exact absurd (by decide) j20
  refine g_aload_n C rfl rfl d_M_price_27 ?_
  refine gf_M_26 C d_M_price_28 (by first | assumption | omega) (by repeat' first | assumption | exact up_eq _ _ _ | refine up_ne (by omega) ?_) (by rfl) ?_
  refine g_iload_n C rfl rfl d_M_price_31 ?_
  refine g_lald C d_M_price_32 (by first | assumption | omega) (by repeat' first | assumption | exact up_eq _ _ _ | refine up_ne (by omega) ?_) hin ?_
  rw [hcl]
  refine g_lret C E hr d_M_price_33 ⟨rfl, MW_up hW (by unfold isM; exact (by repeat' first | assumption | exact up_eq _ _ _ | refine up_ne (by omega) ?_)) (fun j a b => by repeat' first | exact rfl | refine up_ne (by omega) ?_), fun j a => by repeat' first | exact rfl | refine up_ne (by omega) ?_⟩
theorem e_M_price {l : Launch} {o n : Nat} {sg : Nat → va_E} {m : Nat} {t0 : Int32} {Z : ZS} (i : Int32) (hn : m + 22 < n) (hW : MW sg o m t0 Z) (hp : ¬ okI i 2) : GM l y_M_price b_M_price 2 (some .long) 2 32 0 0 o n n sg false [.ref (ad o m), .int i] (fun r0 s => some (.long 0) = r0 ∧ MW s o m 1 Z ∧ mfr sg s m) := by
  have hm1 : sg m = _ := hW.1
  refine GM_of (by decide) (Nat.le_of_ble_eq_true rfl) ?_
  intro K C hl hz hr hnm E
  show G K o n sg 0 0 0 [(0, .ref (ad o m)), (1, .int i)] []
  refine g_aload_n C rfl rfl d_M_price_0 ?_
  refine g_iload_n C rfl rfl d_M_price_1 ?_
  refine g_callS C (c_M_isPool i) Y_M_isPool m_744 m_743 ⟨by decide, by decide⟩ ⟨by decide, by decide⟩ (fun h => nomatch h) d_M_price_2 rfl (Nat.le_of_ble_eq_true rfl) (fun ret sg2 hq => ?_)
  obtain ⟨rfl, rfl⟩ := hq
  refine g_if_eq (tgt := 12) C d_M_price_5 (by decide) (fun j5 => ?_) (fun j5 => ?_)
  rotate_left
  · exact absurd (bzn hp) j5
  refine g_iconst (v := 1) C rfl d_M_price_12 ?_
  refine pf_M_84 C d_M_price_13 rfl rfl (by first | assumption | omega) (by repeat' first | assumption | exact up_eq _ _ _ | refine up_ne (by omega) ?_) (by exact Nat.le_of_ble_eq_true rfl) ?_
  refine g_aload_n C rfl rfl d_M_price_16 ?_
  refine gf_M_84 C d_M_price_17 (by first | assumption | omega) (by repeat' first | assumption | exact up_eq _ _ _ | refine up_ne (by omega) ?_) (by rfl) ?_
  refine g_if_le (tgt := 27) C d_M_price_20 (by decide) (fun j20 => ?_) (fun j20 => ?_)
  · exact absurd j20 (by decide)
  refine g_lconst (v := 0) C rfl d_M_price_23 ?_
  refine g_goto (tgt := 33) C d_M_price_24 (by decide) ?_
  refine g_lret C E hr d_M_price_33 ⟨rfl, MW_up hW (by unfold isM; exact (by repeat' first | assumption | exact up_eq _ _ _ | refine up_ne (by omega) ?_)) (fun j a b => by repeat' first | exact rfl | refine up_ne (by omega) ?_), fun j a => by repeat' first | exact rfl | refine up_ne (by omega) ?_⟩
theorem c_M_tick {l : Launch} {o n : Nat} {sg : Nat → va_E} {m : Nat} {t0 : Int32} {Z : ZS} (p : Nat) (hn : m + 22 < n) (hW : MW sg o m t0 Z) (hp : p < 2) : GM l y_M_tick b_M_tick 2 (some .int) 2 32 0 0 o n n sg false [.ref (ad o m), .int (nI p)] (fun r0 s => some (.int (iI (ztk Z p))) = r0 ∧ MW s o m 0 Z ∧ mfr sg s m) := by
  have hm1 : sg m = _ := hW.1
  obtain ⟨a1, a2, a3, a4, a5, a6, a7, a8, a9, a10, a11⟩ := hW.2.1
  have hcl : (nI p).toNatClampNeg = p := nI_clamp (by omega)
  have hin : vp_in (nI p) 2 := vp_in_nI hp (by decide)
  refine GM_of (by decide) (Nat.le_of_ble_eq_true rfl) ?_
  intro K C hl hz hr hnm E
  show G K o n sg 0 0 0 [(0, .ref (ad o m)), (1, .int (nI p))] []
  refine g_aload_n C rfl rfl d_M_tick_0 ?_
  refine g_iload_n C rfl rfl d_M_tick_1 ?_
  refine g_callS C (c_M_isPool (nI p)) Y_M_isPool m_744 m_743 ⟨by decide, by decide⟩ ⟨by decide, by decide⟩ (fun h => nomatch h) d_M_tick_2 rfl (Nat.le_of_ble_eq_true rfl) (fun ret sg2 hq => ?_)
  obtain ⟨rfl, rfl⟩ := hq
  refine g_if_eq (tgt := 12) C d_M_tick_5 (by decide) (fun j5 => ?_) (fun j5 => ?_)
  · exact absurd (j5.symm.trans (bzd (ok2 hp))) (by decide)
  refine g_iconst (v := 0) C rfl d_M_tick_8 ?_
  refine g_goto (tgt := 13) C d_M_tick_9 (by decide) ?_
  refine pf_M_84 C d_M_tick_13 rfl rfl (by first | assumption | omega) (by repeat' first | assumption | exact up_eq _ _ _ | refine up_ne (by omega) ?_) (by exact Nat.le_of_ble_eq_true rfl) ?_
  refine g_aload_n C rfl rfl d_M_tick_16 ?_
  refine gf_M_84 C d_M_tick_17 (by first | assumption | omega) (by repeat' first | assumption | exact up_eq _ _ _ | refine up_ne (by omega) ?_) (by rfl) ?_
  refine g_if_le (tgt := 27) C d_M_tick_20 (by decide) (fun j20 => ?_) (fun j20 => ?_)
  rotate_left
  · exact absurd (by decide) j20
  refine g_aload_n C rfl rfl d_M_tick_27 ?_
  refine gf_M_29 C d_M_tick_28 (by first | assumption | omega) (by repeat' first | assumption | exact up_eq _ _ _ | refine up_ne (by omega) ?_) (by rfl) ?_
  refine g_iload_n C rfl rfl d_M_tick_31 ?_
  refine g_iald C d_M_tick_32 (by first | assumption | omega) (by repeat' first | assumption | exact up_eq _ _ _ | refine up_ne (by omega) ?_) hin ?_
  rw [hcl]
  refine g_iret C E hr d_M_tick_33 ⟨rfl, MW_up hW (by unfold isM; exact (by repeat' first | assumption | exact up_eq _ _ _ | refine up_ne (by omega) ?_)) (fun j a b => by repeat' first | exact rfl | refine up_ne (by omega) ?_), fun j a => by repeat' first | exact rfl | refine up_ne (by omega) ?_⟩
theorem e_M_tick {l : Launch} {o n : Nat} {sg : Nat → va_E} {m : Nat} {t0 : Int32} {Z : ZS} (i : Int32) (hn : m + 22 < n) (hW : MW sg o m t0 Z) (hp : ¬ okI i 2) : GM l y_M_tick b_M_tick 2 (some .int) 2 32 0 0 o n n sg false [.ref (ad o m), .int i] (fun r0 s => some (.int 0) = r0 ∧ MW s o m 1 Z ∧ mfr sg s m) := by
  have hm1 : sg m = _ := hW.1
  refine GM_of (by decide) (Nat.le_of_ble_eq_true rfl) ?_
  intro K C hl hz hr hnm E
  show G K o n sg 0 0 0 [(0, .ref (ad o m)), (1, .int i)] []
  refine g_aload_n C rfl rfl d_M_tick_0 ?_
  refine g_iload_n C rfl rfl d_M_tick_1 ?_
  refine g_callS C (c_M_isPool i) Y_M_isPool m_744 m_743 ⟨by decide, by decide⟩ ⟨by decide, by decide⟩ (fun h => nomatch h) d_M_tick_2 rfl (Nat.le_of_ble_eq_true rfl) (fun ret sg2 hq => ?_)
  obtain ⟨rfl, rfl⟩ := hq
  refine g_if_eq (tgt := 12) C d_M_tick_5 (by decide) (fun j5 => ?_) (fun j5 => ?_)
  rotate_left
  · exact absurd (bzn hp) j5
  refine g_iconst (v := 1) C rfl d_M_tick_12 ?_
  refine pf_M_84 C d_M_tick_13 rfl rfl (by first | assumption | omega) (by repeat' first | assumption | exact up_eq _ _ _ | refine up_ne (by omega) ?_) (by exact Nat.le_of_ble_eq_true rfl) ?_
  refine g_aload_n C rfl rfl d_M_tick_16 ?_
  refine gf_M_84 C d_M_tick_17 (by first | assumption | omega) (by repeat' first | assumption | exact up_eq _ _ _ | refine up_ne (by omega) ?_) (by rfl) ?_
  refine g_if_le (tgt := 27) C d_M_tick_20 (by decide) (fun j20 => ?_) (fun j20 => ?_)
  · exact absurd j20 (by decide)
  refine g_iconst (v := 0) C rfl d_M_tick_23 ?_
  refine g_goto (tgt := 33) C d_M_tick_24 (by decide) ?_
  refine g_iret C E hr d_M_tick_33 ⟨rfl, MW_up hW (by unfold isM; exact (by repeat' first | assumption | exact up_eq _ _ _ | refine up_ne (by omega) ?_)) (fun j a b => by repeat' first | exact rfl | refine up_ne (by omega) ?_), fun j a => by repeat' first | exact rfl | refine up_ne (by omega) ?_⟩
theorem c_M_held {l : Launch} {o n : Nat} {sg : Nat → va_E} {m : Nat} {t0 : Int32} {Z : ZS} (p : Nat) (hn : m + 22 < n) (hW : MW sg o m t0 Z) (hp : p < 3) : GM l y_M_held b_M_held 2 (some .long) 2 32 0 0 o n n sg false [.ref (ad o m), .int (nI p)] (fun r0 s => some (.long (zhol Z p)) = r0 ∧ MW s o m 0 Z ∧ mfr sg s m) := by
  have hm1 : sg m = _ := hW.1
  obtain ⟨a1, a2, a3, a4, a5, a6, a7, a8, a9, a10, a11⟩ := hW.2.1
  have hcl : (nI p).toNatClampNeg = p := nI_clamp (by omega)
  have hin : vp_in (nI p) 3 := vp_in_nI hp (by decide)
  refine GM_of (by decide) (Nat.le_of_ble_eq_true rfl) ?_
  intro K C hl hz hr hnm E
  show G K o n sg 0 0 0 [(0, .ref (ad o m)), (1, .int (nI p))] []
  refine g_aload_n C rfl rfl d_M_held_0 ?_
  refine g_iload_n C rfl rfl d_M_held_1 ?_
  refine g_callS C (c_M_isToken (nI p)) Y_M_isToken m_729 m_728 ⟨by decide, by decide⟩ ⟨by decide, by decide⟩ (fun h => nomatch h) d_M_held_2 rfl (Nat.le_of_ble_eq_true rfl) (fun ret sg2 hq => ?_)
  obtain ⟨rfl, rfl⟩ := hq
  refine g_if_eq (tgt := 12) C d_M_held_5 (by decide) (fun j5 => ?_) (fun j5 => ?_)
  · exact absurd (j5.symm.trans (bzd (ok3 hp))) (by decide)
  refine g_iconst (v := 0) C rfl d_M_held_8 ?_
  refine g_goto (tgt := 13) C d_M_held_9 (by decide) ?_
  refine pf_M_84 C d_M_held_13 rfl rfl (by first | assumption | omega) (by repeat' first | assumption | exact up_eq _ _ _ | refine up_ne (by omega) ?_) (by exact Nat.le_of_ble_eq_true rfl) ?_
  refine g_aload_n C rfl rfl d_M_held_16 ?_
  refine gf_M_84 C d_M_held_17 (by first | assumption | omega) (by repeat' first | assumption | exact up_eq _ _ _ | refine up_ne (by omega) ?_) (by rfl) ?_
  refine g_if_le (tgt := 27) C d_M_held_20 (by decide) (fun j20 => ?_) (fun j20 => ?_)
  rotate_left
  · exact absurd (by decide) j20
  refine g_aload_n C rfl rfl d_M_held_27 ?_
  refine gf_M_19 C d_M_held_28 (by first | assumption | omega) (by repeat' first | assumption | exact up_eq _ _ _ | refine up_ne (by omega) ?_) (by rfl) ?_
  refine g_iload_n C rfl rfl d_M_held_31 ?_
  refine g_lald C d_M_held_32 (by first | assumption | omega) (by repeat' first | assumption | exact up_eq _ _ _ | refine up_ne (by omega) ?_) hin ?_
  rw [hcl]
  refine g_lret C E hr d_M_held_33 ⟨rfl, MW_up hW (by unfold isM; exact (by repeat' first | assumption | exact up_eq _ _ _ | refine up_ne (by omega) ?_)) (fun j a b => by repeat' first | exact rfl | refine up_ne (by omega) ?_), fun j a => by repeat' first | exact rfl | refine up_ne (by omega) ?_⟩
theorem e_M_held {l : Launch} {o n : Nat} {sg : Nat → va_E} {m : Nat} {t0 : Int32} {Z : ZS} (i : Int32) (hn : m + 22 < n) (hW : MW sg o m t0 Z) (hp : ¬ okI i 3) : GM l y_M_held b_M_held 2 (some .long) 2 32 0 0 o n n sg false [.ref (ad o m), .int i] (fun r0 s => some (.long 0) = r0 ∧ MW s o m 1 Z ∧ mfr sg s m) := by
  have hm1 : sg m = _ := hW.1
  refine GM_of (by decide) (Nat.le_of_ble_eq_true rfl) ?_
  intro K C hl hz hr hnm E
  show G K o n sg 0 0 0 [(0, .ref (ad o m)), (1, .int i)] []
  refine g_aload_n C rfl rfl d_M_held_0 ?_
  refine g_iload_n C rfl rfl d_M_held_1 ?_
  refine g_callS C (c_M_isToken i) Y_M_isToken m_729 m_728 ⟨by decide, by decide⟩ ⟨by decide, by decide⟩ (fun h => nomatch h) d_M_held_2 rfl (Nat.le_of_ble_eq_true rfl) (fun ret sg2 hq => ?_)
  obtain ⟨rfl, rfl⟩ := hq
  refine g_if_eq (tgt := 12) C d_M_held_5 (by decide) (fun j5 => ?_) (fun j5 => ?_)
  rotate_left
  · exact absurd (bzn hp) j5
  refine g_iconst (v := 1) C rfl d_M_held_12 ?_
  refine pf_M_84 C d_M_held_13 rfl rfl (by first | assumption | omega) (by repeat' first | assumption | exact up_eq _ _ _ | refine up_ne (by omega) ?_) (by exact Nat.le_of_ble_eq_true rfl) ?_
  refine g_aload_n C rfl rfl d_M_held_16 ?_
  refine gf_M_84 C d_M_held_17 (by first | assumption | omega) (by repeat' first | assumption | exact up_eq _ _ _ | refine up_ne (by omega) ?_) (by rfl) ?_
  refine g_if_le (tgt := 27) C d_M_held_20 (by decide) (fun j20 => ?_) (fun j20 => ?_)
  · exact absurd j20 (by decide)
  refine g_lconst (v := 0) C rfl d_M_held_23 ?_
  refine g_goto (tgt := 33) C d_M_held_24 (by decide) ?_
  refine g_lret C E hr d_M_held_33 ⟨rfl, MW_up hW (by unfold isM; exact (by repeat' first | assumption | exact up_eq _ _ _ | refine up_ne (by omega) ?_)) (fun j a b => by repeat' first | exact rfl | refine up_ne (by omega) ?_), fun j a => by repeat' first | exact rfl | refine up_ne (by omega) ?_⟩
theorem c_M_liquidity {l : Launch} {o n : Nat} {sg : Nat → va_E} {m : Nat} {t0 : Int32} {Z : ZS} (p : Nat) (hn : m + 22 < n) (hW : MW sg o m t0 Z) (hp : p < 2) (hB : pBd (zpl Z) (zlo Z) (zhi Z)) (h5 : -41 ≤ ztk Z p) (h6 : ztk Z p ≤ 40) : GM l y_M_liquidity b_M_liquidity 2 (some .int) 3 60 0 0 o n n sg false [.ref (ad o m), .int (nI p)] (fun r0 s => some (.int (nI (mDep (zth Z) (zpl Z) (zlo Z) (zhi Z) (zam Z) p (ztk Z p)))) = r0 ∧ MW s o m 0 Z ∧ mfr sg s m) := by
  have hm1 : sg m = _ := hW.1
  obtain ⟨a1, a2, a3, a4, a5, a6, a7, a8, a9, a10, a11⟩ := hW.2.1
  have hcl : (nI p).toNatClampNeg = p := nI_clamp (by omega)
  have hin : vp_in (nI p) 2 := vp_in_nI hp (by decide)
  refine GM_of (by decide) (Nat.le_of_ble_eq_true rfl) ?_
  intro K C hl hz hr hnm E
  show G K o n sg 0 0 0 [(0, .ref (ad o m)), (1, .int (nI p))] []
  refine g_aload_n C rfl rfl d_M_liquidity_0 ?_
  refine g_iload_n C rfl rfl d_M_liquidity_1 ?_
  refine g_callS C (c_M_isPool (nI p)) Y_M_isPool m_744 m_743 ⟨by decide, by decide⟩ ⟨by decide, by decide⟩ (fun h => nomatch h) d_M_liquidity_2 rfl (Nat.le_of_ble_eq_true rfl) (fun ret sg2 hq => ?_)
  obtain ⟨rfl, rfl⟩ := hq
  refine g_if_eq (tgt := 12) C d_M_liquidity_5 (by decide) (fun j5 => ?_) (fun j5 => ?_)
  · exact absurd (j5.symm.trans (bzd (ok2 hp))) (by decide)
  refine g_iconst (v := 0) C rfl d_M_liquidity_8 ?_
  refine g_goto (tgt := 13) C d_M_liquidity_9 (by decide) ?_
  refine pf_M_84 C d_M_liquidity_13 rfl rfl (by first | assumption | omega) (by repeat' first | assumption | exact up_eq _ _ _ | refine up_ne (by omega) ?_) (by exact Nat.le_of_ble_eq_true rfl) ?_
  refine g_aload_n C rfl rfl d_M_liquidity_16 ?_
  refine gf_M_84 C d_M_liquidity_17 (by first | assumption | omega) (by repeat' first | assumption | exact up_eq _ _ _ | refine up_ne (by omega) ?_) (by rfl) ?_
  refine g_if_le (tgt := 27) C d_M_liquidity_20 (by decide) (fun j20 => ?_) (fun j20 => ?_)
  rotate_left
  · exact absurd (by decide) j20
  refine g_aload_n C rfl rfl d_M_liquidity_27 ?_
  refine g_iload_n C rfl rfl d_M_liquidity_28 ?_
  refine g_aload_n C rfl rfl d_M_liquidity_29 ?_
  refine gf_M_29 C d_M_liquidity_30 (by first | assumption | omega) (by repeat' first | assumption | exact up_eq _ _ _ | refine up_ne (by omega) ?_) (by rfl) ?_
  refine g_iload_n C rfl rfl d_M_liquidity_33 ?_
  refine g_iald C d_M_liquidity_34 (by first | assumption | omega) (by repeat' first | assumption | exact up_eq _ _ _ | refine up_ne (by omega) ?_) hin ?_
  rw [hcl]
  refine g_callV C (c_M_depth (t0 := 0) (la := zla Z) (th := zth Z) (ow := zow Z) (pl := zpl Z) (lo := zlo Z) (hi := zhi Z) (am := zam Z) p (ztk Z p) hn (by unfold isM; exact (by repeat' first | assumption | exact up_eq _ _ _ | refine up_ne (by omega) ?_)) (isMP_mv a9 (fun j a b => up_ne (by omega) rfl)) hB hp h5 h6) Y_M_depth m_829 s_M_depth m_827 rfl rfl ⟨by decide, by decide⟩ ⟨by decide, by decide⟩ (fun h => nomatch h) d_M_liquidity_35 (by first | assumption | omega) (by repeat' first | assumption | exact up_eq _ _ _ | refine up_ne (by omega) ?_) rfl (Nat.le_of_ble_eq_true rfl) (fun ret sg35 hq => ?_)
  obtain ⟨rfl, rfl⟩ := hq
  refine g_l2i C d_M_liquidity_38 ?_
  rw [lN_i]
  refine g_iret C E hr d_M_liquidity_39 ⟨rfl, MW_up hW (by unfold isM; exact (by repeat' first | assumption | exact up_eq _ _ _ | refine up_ne (by omega) ?_)) (fun j a b => by repeat' first | exact rfl | refine up_ne (by omega) ?_), fun j a => by repeat' first | exact rfl | refine up_ne (by omega) ?_⟩
theorem e_M_liquidity {l : Launch} {o n : Nat} {sg : Nat → va_E} {m : Nat} {t0 : Int32} {Z : ZS} (i : Int32) (hn : m + 22 < n) (hW : MW sg o m t0 Z) (hp : ¬ okI i 2) : GM l y_M_liquidity b_M_liquidity 2 (some .int) 3 60 0 0 o n n sg false [.ref (ad o m), .int i] (fun r0 s => some (.int 0) = r0 ∧ MW s o m 1 Z ∧ mfr sg s m) := by
  have hm1 : sg m = _ := hW.1
  refine GM_of (by decide) (Nat.le_of_ble_eq_true rfl) ?_
  intro K C hl hz hr hnm E
  show G K o n sg 0 0 0 [(0, .ref (ad o m)), (1, .int i)] []
  refine g_aload_n C rfl rfl d_M_liquidity_0 ?_
  refine g_iload_n C rfl rfl d_M_liquidity_1 ?_
  refine g_callS C (c_M_isPool i) Y_M_isPool m_744 m_743 ⟨by decide, by decide⟩ ⟨by decide, by decide⟩ (fun h => nomatch h) d_M_liquidity_2 rfl (Nat.le_of_ble_eq_true rfl) (fun ret sg2 hq => ?_)
  obtain ⟨rfl, rfl⟩ := hq
  refine g_if_eq (tgt := 12) C d_M_liquidity_5 (by decide) (fun j5 => ?_) (fun j5 => ?_)
  rotate_left
  · exact absurd (bzn hp) j5
  refine g_iconst (v := 1) C rfl d_M_liquidity_12 ?_
  refine pf_M_84 C d_M_liquidity_13 rfl rfl (by first | assumption | omega) (by repeat' first | assumption | exact up_eq _ _ _ | refine up_ne (by omega) ?_) (by exact Nat.le_of_ble_eq_true rfl) ?_
  refine g_aload_n C rfl rfl d_M_liquidity_16 ?_
  refine gf_M_84 C d_M_liquidity_17 (by first | assumption | omega) (by repeat' first | assumption | exact up_eq _ _ _ | refine up_ne (by omega) ?_) (by rfl) ?_
  refine g_if_le (tgt := 27) C d_M_liquidity_20 (by decide) (fun j20 => ?_) (fun j20 => ?_)
  · exact absurd j20 (by decide)
  refine g_iconst (v := 0) C rfl d_M_liquidity_23 ?_
  refine g_goto (tgt := 39) C d_M_liquidity_24 (by decide) ?_
  refine g_iret C E hr d_M_liquidity_39 ⟨rfl, MW_up hW (by unfold isM; exact (by repeat' first | assumption | exact up_eq _ _ _ | refine up_ne (by omega) ?_)) (fun j a b => by repeat' first | exact rfl | refine up_ne (by omega) ?_), fun j a => by repeat' first | exact rfl | refine up_ne (by omega) ?_⟩

