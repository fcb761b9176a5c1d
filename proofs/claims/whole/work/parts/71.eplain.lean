-- PLAIN CALLS OF THE CLASS
theorem c_E_paid {l : Launch} {o n : Nat} {sg : Nat → va_E} {Z : ZS} (hn : 64 ≤ n) (hW : EW sg o Z) : GM l y_E_paid b_E_paid 1 (some .long) 1 12 0 0 o n n sg false [.ref (ad o 0)] (gR (some (.long (zla Z))) sg) := by
  obtain ⟨h0, h1, h2, h3, hER⟩ := id hW
  have he1 : sg 0 = _ := h0
  refine GM_of (by decide) (Nat.le_of_ble_eq_true rfl) ?_
  intro K C hl hz hr hnm E
  show G K o n sg 0 0 0 [(0, .ref (ad o 0))] []
  refine g_aload_n C rfl rfl d_E_paid_0 ?_
  refine gf_E_50 C d_E_paid_1 (by first | assumption | omega) (by repeat' first | assumption | exact up_eq _ _ _ | refine up_ne (by omega) ?_) (by rfl) ?_
  refine g_lret C E hr d_E_paid_4 ⟨rfl, rfl⟩
theorem c_E_price {l : Launch} {o n : Nat} {sg : Nat → va_E} {Z : ZS} (p : Nat) (hn : 64 ≤ n) (hW : EW sg o Z) (hp : p < 2) : GM l y_E_price b_E_price 2 (some .long) 7 121 0 0 o n n sg false [.ref (ad o 0), .int (nI p)] (gR (some (.long (lN (zpr Z p)))) sg) := by
  obtain ⟨h0, h1, h2, h3, hER⟩ := id hW
  have he1 : sg 0 = _ := h0
  obtain ⟨f, hq1, hq2⟩ := hER.2.1
  obtain ⟨ins, c, gr, ne, g, ou, pr2, tz2, lq2, g2, oo2, e1, e2, e3, e4⟩ := EP_at hER hp
  have hb := cN_b c p
  have e11 := e1.1
  have e21 := e2.1
  have hcl : (nI p).toNatClampNeg = p := nI_clamp (by omega)
  have hin : vp_in (nI p) 2 := vp_in_nI hp (by decide)
  refine GM_of (by decide) (Nat.le_of_ble_eq_true rfl) ?_
  intro K C hl hz hr hnm E
  show G K o n sg 0 0 0 [(0, .ref (ad o 0)), (1, .int (nI p))] []
  refine g_iload_n C rfl rfl d_E_price_0 ?_
  refine g_iconst (v := 2) C rfl d_E_price_1 ?_
  refine g_callS C (c_E_requireIndex (nI p) 2 (ok2 hp)) Y_E_requireIndex m_242 m_241 ⟨by decide, by decide⟩ ⟨by decide, by decide⟩ (fun h => nomatch h) d_E_price_2 rfl (Nat.le_of_ble_eq_true rfl) (fun ret sg2 hq => ?_)
  obtain ⟨rfl, rfl⟩ := hq
  refine g_aload_n C rfl rfl d_E_price_5 ?_
  refine gf_E_28 C d_E_price_6 (by first | assumption | omega) (by repeat' first | assumption | exact up_eq _ _ _ | refine up_ne (by omega) ?_) (by rfl) ?_
  refine g_iload_n C rfl rfl d_E_price_9 ?_
  refine g_aldq C d_E_price_10 3 (fun _ => rfl) (by first | assumption | omega) (by repeat' first | assumption | exact up_eq _ _ _ | refine up_ne (by omega) ?_) hin (by rw [hcl]; exact hq2 p hp) ?_
  refine gf_E_116 C d_E_price_11 (by first | assumption | omega) (by repeat' first | assumption | exact up_eq _ _ _ | refine up_ne (by omega) ?_) (by rfl) ?_
  refine gf_E_158 C d_E_price_14 (by first | assumption | omega) (by repeat' first | assumption | exact up_eq _ _ _ | refine up_ne (by omega) ?_) (by rfl) ?_
  refine g_lret C E hr d_E_price_17 ⟨rfl, rfl⟩
theorem t_E_price {l : Launch} {o n : Nat} {sg : Nat → va_E} {Z : ZS} (hfl : l.flags = flags0) (i : Int32) (h : ¬ okI i 2) : GT l y_E_price b_E_price 2 (some .long) 7 121 o n sg [.ref (ad o 0), .int i] "java/lang/IndexOutOfBoundsException" (fun s => s = sg) := by
  refine GT_of (by decide) (Nat.le_of_ble_eq_true rfl) ?_
  intro K C hl ha hh ET
  have hfl2 : (xl K).flags = flags0 := by rw [hl]; exact hfl
  have htr := tr_off (by rw [hl]; exact hfl) ha
  show G K o n sg 0 0 0 [(0, .ref (ad o 0)), (1, .int i)] []
  refine g_iload_n C rfl rfl d_E_price_0 ?_
  refine g_iconst (v := 2) C rfl d_E_price_1 ?_
  exact g_callST C hh ET (t_E_requireIndex hfl2 i 2 (nokI h)) Y_E_requireIndex m_242 m_241 ⟨by decide, by decide⟩ ⟨by decide, by decide⟩ d_E_price_2 rfl (Nat.le_of_ble_eq_true rfl)
theorem c_E_tick {l : Launch} {o n : Nat} {sg : Nat → va_E} {Z : ZS} (p : Nat) (hn : 64 ≤ n) (hW : EW sg o Z) (hp : p < 2) : GM l y_E_tick b_E_tick 2 (some .int) 7 121 0 0 o n n sg false [.ref (ad o 0), .int (nI p)] (gR (some (.int (iI (ztk Z p)))) sg) := by
  obtain ⟨h0, h1, h2, h3, hER⟩ := id hW
  have he1 : sg 0 = _ := h0
  obtain ⟨f, hq1, hq2⟩ := hER.2.1
  obtain ⟨ins, c, gr, ne, g, ou, pr2, tz2, lq2, g2, oo2, e1, e2, e3, e4⟩ := EP_at hER hp
  have hb := cN_b c p
  have e11 := e1.1
  have e21 := e2.1
  have hcl : (nI p).toNatClampNeg = p := nI_clamp (by omega)
  have hin : vp_in (nI p) 2 := vp_in_nI hp (by decide)
  refine GM_of (by decide) (Nat.le_of_ble_eq_true rfl) ?_
  intro K C hl hz hr hnm E
  show G K o n sg 0 0 0 [(0, .ref (ad o 0)), (1, .int (nI p))] []
  refine g_iload_n C rfl rfl d_E_tick_0 ?_
  refine g_iconst (v := 2) C rfl d_E_tick_1 ?_
  refine g_callS C (c_E_requireIndex (nI p) 2 (ok2 hp)) Y_E_requireIndex m_242 m_241 ⟨by decide, by decide⟩ ⟨by decide, by decide⟩ (fun h => nomatch h) d_E_tick_2 rfl (Nat.le_of_ble_eq_true rfl) (fun ret sg2 hq => ?_)
  obtain ⟨rfl, rfl⟩ := hq
  refine g_aload_n C rfl rfl d_E_tick_5 ?_
  refine gf_E_28 C d_E_tick_6 (by first | assumption | omega) (by repeat' first | assumption | exact up_eq _ _ _ | refine up_ne (by omega) ?_) (by rfl) ?_
  refine g_iload_n C rfl rfl d_E_tick_9 ?_
  refine g_aldq C d_E_tick_10 3 (fun _ => rfl) (by first | assumption | omega) (by repeat' first | assumption | exact up_eq _ _ _ | refine up_ne (by omega) ?_) hin (by rw [hcl]; exact hq2 p hp) ?_
  refine gf_E_116 C d_E_tick_11 (by first | assumption | omega) (by repeat' first | assumption | exact up_eq _ _ _ | refine up_ne (by omega) ?_) (by rfl) ?_
  refine gf_E_163 C d_E_tick_14 (by first | assumption | omega) (by repeat' first | assumption | exact up_eq _ _ _ | refine up_ne (by omega) ?_) (by rfl) ?_
  refine g_iret C E hr d_E_tick_17 ⟨rfl, rfl⟩
theorem t_E_tick {l : Launch} {o n : Nat} {sg : Nat → va_E} {Z : ZS} (hfl : l.flags = flags0) (i : Int32) (h : ¬ okI i 2) : GT l y_E_tick b_E_tick 2 (some .int) 7 121 o n sg [.ref (ad o 0), .int i] "java/lang/IndexOutOfBoundsException" (fun s => s = sg) := by
  refine GT_of (by decide) (Nat.le_of_ble_eq_true rfl) ?_
  intro K C hl ha hh ET
  have hfl2 : (xl K).flags = flags0 := by rw [hl]; exact hfl
  have htr := tr_off (by rw [hl]; exact hfl) ha
  show G K o n sg 0 0 0 [(0, .ref (ad o 0)), (1, .int i)] []
  refine g_iload_n C rfl rfl d_E_tick_0 ?_
  refine g_iconst (v := 2) C rfl d_E_tick_1 ?_
  exact g_callST C hh ET (t_E_requireIndex hfl2 i 2 (nokI h)) Y_E_requireIndex m_242 m_241 ⟨by decide, by decide⟩ ⟨by decide, by decide⟩ d_E_tick_2 rfl (Nat.le_of_ble_eq_true rfl)
theorem c_E_liquidity {l : Launch} {o n : Nat} {sg : Nat → va_E} {Z : ZS} (p : Nat) (hn : 64 ≤ n) (hW : EW sg o Z) (hp : p < 2) : GM l y_E_liquidity b_E_liquidity 2 (some .int) 7 121 0 0 o n n sg false [.ref (ad o 0), .int (nI p)] (gR (some (.int (nI (zdep Z p (ztk Z p))))) sg) := by
  obtain ⟨h0, h1, h2, h3, hER⟩ := id hW
  have he1 : sg 0 = _ := h0
  obtain ⟨f, hq1, hq2⟩ := hER.2.1
  obtain ⟨ins, c, gr, ne, g, ou, pr2, tz2, lq2, g2, oo2, e1, e2, e3, e4⟩ := EP_at hER hp
  have hb := cN_b c p
  have e11 := e1.1
  have e21 := e2.1
  have hcl : (nI p).toNatClampNeg = p := nI_clamp (by omega)
  have hin : vp_in (nI p) 2 := vp_in_nI hp (by decide)
  refine GM_of (by decide) (Nat.le_of_ble_eq_true rfl) ?_
  intro K C hl hz hr hnm E
  show G K o n sg 0 0 0 [(0, .ref (ad o 0)), (1, .int (nI p))] []
  refine g_iload_n C rfl rfl d_E_liquidity_0 ?_
  refine g_iconst (v := 2) C rfl d_E_liquidity_1 ?_
  refine g_callS C (c_E_requireIndex (nI p) 2 (ok2 hp)) Y_E_requireIndex m_242 m_241 ⟨by decide, by decide⟩ ⟨by decide, by decide⟩ (fun h => nomatch h) d_E_liquidity_2 rfl (Nat.le_of_ble_eq_true rfl) (fun ret sg2 hq => ?_)
  obtain ⟨rfl, rfl⟩ := hq
  refine g_aload_n C rfl rfl d_E_liquidity_5 ?_
  refine gf_E_28 C d_E_liquidity_6 (by first | assumption | omega) (by repeat' first | assumption | exact up_eq _ _ _ | refine up_ne (by omega) ?_) (by rfl) ?_
  refine g_iload_n C rfl rfl d_E_liquidity_9 ?_
  refine g_aldq C d_E_liquidity_10 3 (fun _ => rfl) (by first | assumption | omega) (by repeat' first | assumption | exact up_eq _ _ _ | refine up_ne (by omega) ?_) hin (by rw [hcl]; exact hq2 p hp) ?_
  refine gf_E_116 C d_E_liquidity_11 (by first | assumption | omega) (by repeat' first | assumption | exact up_eq _ _ _ | refine up_ne (by omega) ?_) (by rfl) ?_
  refine gf_E_166 C d_E_liquidity_14 (by first | assumption | omega) (by repeat' first | assumption | exact up_eq _ _ _ | refine up_ne (by omega) ?_) (by rfl) ?_
  refine g_iret C E hr d_E_liquidity_17 ⟨rfl, rfl⟩
theorem t_E_liquidity {l : Launch} {o n : Nat} {sg : Nat → va_E} {Z : ZS} (hfl : l.flags = flags0) (i : Int32) (h : ¬ okI i 2) : GT l y_E_liquidity b_E_liquidity 2 (some .int) 7 121 o n sg [.ref (ad o 0), .int i] "java/lang/IndexOutOfBoundsException" (fun s => s = sg) := by
  refine GT_of (by decide) (Nat.le_of_ble_eq_true rfl) ?_
  intro K C hl ha hh ET
  have hfl2 : (xl K).flags = flags0 := by rw [hl]; exact hfl
  have htr := tr_off (by rw [hl]; exact hfl) ha
  show G K o n sg 0 0 0 [(0, .ref (ad o 0)), (1, .int i)] []
  refine g_iload_n C rfl rfl d_E_liquidity_0 ?_
  refine g_iconst (v := 2) C rfl d_E_liquidity_1 ?_
  exact g_callST C hh ET (t_E_requireIndex hfl2 i 2 (nokI h)) Y_E_requireIndex m_242 m_241 ⟨by decide, by decide⟩ ⟨by decide, by decide⟩ d_E_liquidity_2 rfl (Nat.le_of_ble_eq_true rfl)
theorem c_E_held {l : Launch} {o n : Nat} {sg : Nat → va_E} {Z : ZS} (t : Nat) (hn : 64 ≤ n) (hW : EW sg o Z) (ht : t < 3) : GM l y_E_held b_E_held 2 (some .long) 7 121 0 0 o n n sg false [.ref (ad o 0), .int (nI t)] (gR (some (.long (zhol Z t))) sg) := by
  obtain ⟨h0, h1, h2, h3, hER⟩ := id hW
  have he1 : sg 0 = _ := h0
  have hcl : (nI t).toNatClampNeg = t := nI_clamp (by omega)
  refine GM_of (by decide) (Nat.le_of_ble_eq_true rfl) ?_
  intro K C hl hz hr hnm E
  show G K o n sg 0 0 0 [(0, .ref (ad o 0)), (1, .int (nI t))] []
  refine g_iload_n C rfl rfl d_E_held_0 ?_
  refine g_iconst (v := 3) C rfl d_E_held_1 ?_
  refine g_callS C (c_E_requireIndex (nI t) 3 (ok3 ht)) Y_E_requireIndex m_242 m_241 ⟨by decide, by decide⟩ ⟨by decide, by decide⟩ (fun h => nomatch h) d_E_held_2 rfl (Nat.le_of_ble_eq_true rfl) (fun ret sg2 hq => ?_)
  obtain ⟨rfl, rfl⟩ := hq
  refine g_aload_n C rfl rfl d_E_held_5 ?_
  refine gf_E_16 C d_E_held_6 (by first | assumption | omega) (by repeat' first | assumption | exact up_eq _ _ _ | refine up_ne (by omega) ?_) (by rfl) ?_
  refine g_iload_n C rfl rfl d_E_held_9 ?_
  refine g_lald C d_E_held_10 (by first | assumption | omega) (by repeat' first | assumption | exact up_eq _ _ _ | refine up_ne (by omega) ?_) (vp_in_nI ht (by decide)) ?_
  rw [hcl]
  refine g_lret C E hr d_E_held_11 ⟨rfl, rfl⟩
theorem t_E_held {l : Launch} {o n : Nat} {sg : Nat → va_E} {Z : ZS} (hfl : l.flags = flags0) (i : Int32) (h : ¬ okI i 3) : GT l y_E_held b_E_held 2 (some .long) 7 121 o n sg [.ref (ad o 0), .int i] "java/lang/IndexOutOfBoundsException" (fun s => s = sg) := by
  refine GT_of (by decide) (Nat.le_of_ble_eq_true rfl) ?_
  intro K C hl ha hh ET
  have hfl2 : (xl K).flags = flags0 := by rw [hl]; exact hfl
  have htr := tr_off (by rw [hl]; exact hfl) ha
  show G K o n sg 0 0 0 [(0, .ref (ad o 0)), (1, .int i)] []
  refine g_iload_n C rfl rfl d_E_held_0 ?_
  refine g_iconst (v := 3) C rfl d_E_held_1 ?_
  exact g_callST C hh ET (t_E_requireIndex hfl2 i 3 (nokI h)) Y_E_requireIndex m_242 m_241 ⟨by decide, by decide⟩ ⟨by decide, by decide⟩ d_E_held_2 rfl (Nat.le_of_ble_eq_true rfl)
theorem c_E_growth {l : Launch} {o n : Nat} {sg : Nat → va_E} {Z : ZS} (p s : Nat) (hn : 64 ≤ n) (hW : EW sg o Z) (hp : p < 2) (hs : s < 2) : GM l y_E_growth b_E_growth 3 (some .long) 7 121 0 0 o n n sg false [.ref (ad o 0), .int (nI p), .int (nI s)] (gR (some (.long (zgw Z (2 * p + s)))) sg) := by
  obtain ⟨h0, h1, h2, h3, hER⟩ := id hW
  have he1 : sg 0 = _ := h0
  obtain ⟨f, hq1, hq2⟩ := hER.2.1
  obtain ⟨ins, c, gr, ne, g, ou, pr2, tz2, lq2, g2, oo2, e1, e2, e3, e4⟩ := EP_at hER hp
  have hb := cN_b c p
  have e11 := e1.1
  have e21 := e2.1
  have e22 := e2.2.1
  have hcl : (nI p).toNatClampNeg = p := nI_clamp (by omega)
  have hcs : (nI s).toNatClampNeg = s := nI_clamp (by omega)
  have hin : vp_in (nI p) 2 := vp_in_nI hp (by decide)
  refine GM_of (by decide) (Nat.le_of_ble_eq_true rfl) ?_
  intro K C hl hz hr hnm E
  show G K o n sg 0 0 0 [(0, .ref (ad o 0)), (1, .int (nI p)), (2, .int (nI s))] []
  refine g_iload_n C rfl rfl d_E_growth_0 ?_
  refine g_iconst (v := 2) C rfl d_E_growth_1 ?_
  refine g_callS C (c_E_requireIndex (nI p) 2 (ok2 hp)) Y_E_requireIndex m_242 m_241 ⟨by decide, by decide⟩ ⟨by decide, by decide⟩ (fun h => nomatch h) d_E_growth_2 rfl (Nat.le_of_ble_eq_true rfl) (fun ret sg2 hq => ?_)
  obtain ⟨rfl, rfl⟩ := hq
  refine g_iload_n C rfl rfl d_E_growth_5 ?_
  refine g_iconst (v := 2) C rfl d_E_growth_6 ?_
  refine g_callS C (c_E_requireIndex (nI s) 2 (ok2 hs)) Y_E_requireIndex m_242 m_241 ⟨by decide, by decide⟩ ⟨by decide, by decide⟩ (fun h => nomatch h) d_E_growth_7 rfl (Nat.le_of_ble_eq_true rfl) (fun ret sg7 hq => ?_)
  obtain ⟨rfl, rfl⟩ := hq
  refine g_aload_n C rfl rfl d_E_growth_10 ?_
  refine gf_E_28 C d_E_growth_11 (by first | assumption | omega) (by repeat' first | assumption | exact up_eq _ _ _ | refine up_ne (by omega) ?_) (by rfl) ?_
  refine g_iload_n C rfl rfl d_E_growth_14 ?_
  refine g_aldq C d_E_growth_15 3 (fun _ => rfl) (by first | assumption | omega) (by repeat' first | assumption | exact up_eq _ _ _ | refine up_ne (by omega) ?_) hin (by rw [hcl]; exact hq2 p hp) ?_
  refine gf_E_116 C d_E_growth_16 (by first | assumption | omega) (by repeat' first | assumption | exact up_eq _ _ _ | refine up_ne (by omega) ?_) (by rfl) ?_
  refine gf_E_169 C d_E_growth_19 (by first | assumption | omega) (by repeat' first | assumption | exact up_eq _ _ _ | refine up_ne (by omega) ?_) (by rfl) ?_
  refine g_iload_n C rfl rfl d_E_growth_22 ?_
  refine g_lald C d_E_growth_23 (by first | assumption | omega) (by repeat' first | assumption | exact up_eq _ _ _ | refine up_ne (by omega) ?_) (vp_in_nI hs (by decide)) ?_
  rw [hcs, e4.1 s hs]
  refine g_lret C E hr d_E_growth_24 ⟨rfl, rfl⟩
theorem t_E_growth {l : Launch} {o n : Nat} {sg : Nat → va_E} {Z : ZS} (hfl : l.flags = flags0) (p s : Int32) (h : ¬ (okI p 2 ∧ okI s 2)) : GT l y_E_growth b_E_growth 3 (some .long) 7 121 o n sg [.ref (ad o 0), .int p, .int s] "java/lang/IndexOutOfBoundsException" (fun s => s = sg) := by
  refine GT_of (by decide) (Nat.le_of_ble_eq_true rfl) ?_
  intro K C hl ha hh ET
  have hfl2 : (xl K).flags = flags0 := by rw [hl]; exact hfl
  have htr := tr_off (by rw [hl]; exact hfl) ha
  show G K o n sg 0 0 0 [(0, .ref (ad o 0)), (1, .int p), (2, .int s)] []
  by_cases h1 : okI p 2
  · refine g_iload_n C rfl rfl d_E_growth_0 ?_
    refine g_iconst (v := 2) C rfl d_E_growth_1 ?_
    refine g_callS C (c_E_requireIndex p 2 h1) Y_E_requireIndex m_242 m_241 ⟨by decide, by decide⟩ ⟨by decide, by decide⟩ (fun h => nomatch h) d_E_growth_2 rfl (Nat.le_of_ble_eq_true rfl) (fun ret sg2 hq => ?_)
    obtain ⟨rfl, rfl⟩ := hq
    refine g_iload_n C rfl rfl d_E_growth_5 ?_
    refine g_iconst (v := 2) C rfl d_E_growth_6 ?_
    exact g_callST C hh ET (t_E_requireIndex hfl2 s 2 (nokI (fun q => h ⟨h1, q⟩))) Y_E_requireIndex m_242 m_241 ⟨by decide, by decide⟩ ⟨by decide, by decide⟩ d_E_growth_7 rfl (Nat.le_of_ble_eq_true rfl)
  · refine g_iload_n C rfl rfl d_E_growth_0 ?_
    refine g_iconst (v := 2) C rfl d_E_growth_1 ?_
    exact g_callST C hh ET (t_E_requireIndex hfl2 p 2 (nokI h1)) Y_E_requireIndex m_242 m_241 ⟨by decide, by decide⟩ ⟨by decide, by decide⟩ d_E_growth_2 rfl (Nat.le_of_ble_eq_true rfl)
theorem c_E_balance {l : Launch} {o n : Nat} {sg : Nat → va_E} {Z : ZS} (a t : Nat) (hn : 64 ≤ n) (hW : EW sg o Z) (ha : a < 4) (ht : t < 3) : GM l y_E_balance b_E_balance 3 (some .long) 7 121 0 0 o n n sg false [.ref (ad o 0), .int (nI a), .int (nI t)] (gR (some (.long (zbal Z (a * 3 + t)))) sg) := by
  obtain ⟨h0, h1, h2, h3, hER⟩ := id hW
  have he1 : sg 0 = _ := h0
  refine GM_of (by decide) (Nat.le_of_ble_eq_true rfl) ?_
  intro K C hl hz hr hnm E
  show G K o n sg 0 0 0 [(0, .ref (ad o 0)), (1, .int (nI a)), (2, .int (nI t))] []
  refine g_iload_n C rfl rfl d_E_balance_0 ?_
  refine g_iconst (v := 4) C rfl d_E_balance_1 ?_
  refine g_callS C (c_E_requireIndex (nI a) 4 (ok4 ha)) Y_E_requireIndex m_242 m_241 ⟨by decide, by decide⟩ ⟨by decide, by decide⟩ (fun h => nomatch h) d_E_balance_2 rfl (Nat.le_of_ble_eq_true rfl) (fun ret sg2 hq => ?_)
  obtain ⟨rfl, rfl⟩ := hq
  refine g_iload_n C rfl rfl d_E_balance_5 ?_
  refine g_iconst (v := 3) C rfl d_E_balance_6 ?_
  refine g_callS C (c_E_requireIndex (nI t) 3 (ok3 ht)) Y_E_requireIndex m_242 m_241 ⟨by decide, by decide⟩ ⟨by decide, by decide⟩ (fun h => nomatch h) d_E_balance_7 rfl (Nat.le_of_ble_eq_true rfl) (fun ret sg7 hq => ?_)
  obtain ⟨rfl, rfl⟩ := hq
  refine g_aload_n C rfl rfl d_E_balance_10 ?_
  refine gf_E_9 C d_E_balance_11 (by first | assumption | omega) (by repeat' first | assumption | exact up_eq _ _ _ | refine up_ne (by omega) ?_) (by rfl) ?_
  refine g_iload_n C rfl rfl d_E_balance_14 ?_
  refine g_iload_n C rfl rfl d_E_balance_15 ?_
  refine g_callS C (c_E_account a t) Y_E_account m_325 m_324 ⟨by decide, by decide⟩ ⟨by decide, by decide⟩ (fun h => nomatch h) d_E_balance_16 rfl (Nat.le_of_ble_eq_true rfl) (fun ret sg16 hq => ?_)
  obtain ⟨rfl, rfl⟩ := hq
  refine g_lald C d_E_balance_19 (by first | assumption | omega) (by repeat' first | assumption | exact up_eq _ _ _ | refine up_ne (by omega) ?_) (vp_in_nI (by omega) (by decide)) ?_
  rw [nI_clamp (n := a * 3 + t) (by omega)]
  refine g_lret C E hr d_E_balance_20 ⟨rfl, rfl⟩
theorem t_E_balance1 {l : Launch} {o n : Nat} {sg : Nat → va_E} {Z : ZS} (hfl : l.flags = flags0) (a t : Int32) (h : ¬ (okI a 4 ∧ okI t 3)) : GT l y_E_balance b_E_balance 3 (some .long) 7 121 o n sg [.ref (ad o 0), .int a, .int t] "java/lang/IndexOutOfBoundsException" (fun s => s = sg) := by
  refine GT_of (by decide) (Nat.le_of_ble_eq_true rfl) ?_
  intro K C hl ha hh ET
  have hfl2 : (xl K).flags = flags0 := by rw [hl]; exact hfl
  have htr := tr_off (by rw [hl]; exact hfl) ha
  show G K o n sg 0 0 0 [(0, .ref (ad o 0)), (1, .int a), (2, .int t)] []
  by_cases h1 : okI a 4
  · refine g_iload_n C rfl rfl d_E_balance_0 ?_
    refine g_iconst (v := 4) C rfl d_E_balance_1 ?_
    refine g_callS C (c_E_requireIndex a 4 h1) Y_E_requireIndex m_242 m_241 ⟨by decide, by decide⟩ ⟨by decide, by decide⟩ (fun h => nomatch h) d_E_balance_2 rfl (Nat.le_of_ble_eq_true rfl) (fun ret sg2 hq => ?_)
    obtain ⟨rfl, rfl⟩ := hq
    refine g_iload_n C rfl rfl d_E_balance_5 ?_
    refine g_iconst (v := 3) C rfl d_E_balance_6 ?_
    exact g_callST C hh ET (t_E_requireIndex hfl2 t 3 (nokI (fun q => h ⟨h1, q⟩))) Y_E_requireIndex m_242 m_241 ⟨by decide, by decide⟩ ⟨by decide, by decide⟩ d_E_balance_7 rfl (Nat.le_of_ble_eq_true rfl)
  · refine g_iload_n C rfl rfl d_E_balance_0 ?_
    refine g_iconst (v := 4) C rfl d_E_balance_1 ?_
    exact g_callST C hh ET (t_E_requireIndex hfl2 a 4 (nokI h1)) Y_E_requireIndex m_242 m_241 ⟨by decide, by decide⟩ ⟨by decide, by decide⟩ d_E_balance_2 rfl (Nat.le_of_ble_eq_true rfl)
theorem t_E_give1 {l : Launch} {o n : Nat} {sg : Nat → va_E} {Z : ZS} (hfl : l.flags = flags0) (a t x : Int32) (h : ¬ (okI a 4 ∧ okI t 3)) : GT l y_E_give b_E_give 4 (some .long) 7 121 o n sg [.ref (ad o 0), .int a, .int t, .int x] "java/lang/IndexOutOfBoundsException" (fun s => s = sg) := by
  refine GT_of (by decide) (Nat.le_of_ble_eq_true rfl) ?_
  intro K C hl ha hh ET
  have hfl2 : (xl K).flags = flags0 := by rw [hl]; exact hfl
  have htr := tr_off (by rw [hl]; exact hfl) ha
  show G K o n sg 0 0 0 [(0, .ref (ad o 0)), (1, .int a), (2, .int t), (3, .int x)] []
  by_cases h1 : okI a 4
  · refine g_iload_n C rfl rfl d_E_give_0 ?_
    refine g_iconst (v := 4) C rfl d_E_give_1 ?_
    refine g_callS C (c_E_requireIndex a 4 h1) Y_E_requireIndex m_242 m_241 ⟨by decide, by decide⟩ ⟨by decide, by decide⟩ (fun h => nomatch h) d_E_give_2 rfl (Nat.le_of_ble_eq_true rfl) (fun ret sg2 hq => ?_)
    obtain ⟨rfl, rfl⟩ := hq
    refine g_iload_n C rfl rfl d_E_give_5 ?_
    refine g_iconst (v := 3) C rfl d_E_give_6 ?_
    exact g_callST C hh ET (t_E_requireIndex hfl2 t 3 (nokI (fun q => h ⟨h1, q⟩))) Y_E_requireIndex m_242 m_241 ⟨by decide, by decide⟩ ⟨by decide, by decide⟩ d_E_give_7 rfl (Nat.le_of_ble_eq_true rfl)
  · refine g_iload_n C rfl rfl d_E_give_0 ?_
    refine g_iconst (v := 4) C rfl d_E_give_1 ?_
    exact g_callST C hh ET (t_E_requireIndex hfl2 a 4 (nokI h1)) Y_E_requireIndex m_242 m_241 ⟨by decide, by decide⟩ ⟨by decide, by decide⟩ d_E_give_2 rfl (Nat.le_of_ble_eq_true rfl)
theorem t_E_give2 {l : Launch} {o n : Nat} {sg : Nat → va_E} {Z : ZS} (hfl : l.flags = flags0) (a t : Nat) (x : Int32) (hn : 64 ≤ n) (hW : EW sg o Z) (hA : a < 4) (ht : t < 3) (h : x < 0 ∨ ¬ zgiv Z t + x.toInt64 ≤ 100000000) : GT l y_E_give b_E_give 4 (some .long) 7 121 o n sg [.ref (ad o 0), .int (nI a), .int (nI t), .int x] "java/lang/IllegalArgumentException" (fun s => s = sg) := by
  obtain ⟨h0, h1, h2, h3, hER⟩ := id hW
  have he1 : sg 0 = _ := h0
  have hcl : (nI t).toNatClampNeg = t := nI_clamp (by omega)
  have hin : vp_in (nI t) 3 := vp_in_nI ht (by decide)
  refine GT_of (by decide) (Nat.le_of_ble_eq_true rfl) ?_
  intro K C hl ha hh ET
  have hfl2 : (xl K).flags = flags0 := by rw [hl]; exact hfl
  have htr := tr_off (by rw [hl]; exact hfl) ha
  show G K o n sg 0 0 0 [(0, .ref (ad o 0)), (1, .int (nI a)), (2, .int (nI t)), (3, .int x)] []
  refine g_iload_n C rfl rfl d_E_give_0 ?_
  refine g_iconst (v := 4) C rfl d_E_give_1 ?_
  refine g_callS C (c_E_requireIndex (nI a) 4 (ok4 hA)) Y_E_requireIndex m_242 m_241 ⟨by decide, by decide⟩ ⟨by decide, by decide⟩ (fun h => nomatch h) d_E_give_2 rfl (Nat.le_of_ble_eq_true rfl) (fun ret sg2 hq => ?_)
  obtain ⟨rfl, rfl⟩ := hq
  refine g_iload_n C rfl rfl d_E_give_5 ?_
  refine g_iconst (v := 3) C rfl d_E_give_6 ?_
  refine g_callS C (c_E_requireIndex (nI t) 3 (ok3 ht)) Y_E_requireIndex m_242 m_241 ⟨by decide, by decide⟩ ⟨by decide, by decide⟩ (fun h => nomatch h) d_E_give_7 rfl (Nat.le_of_ble_eq_true rfl) (fun ret sg7 hq => ?_)
  obtain ⟨rfl, rfl⟩ := hq
  refine g_iload_n C rfl rfl d_E_give_10 ?_
  refine g_if_lt (tgt := 30) C d_E_give_11 (by decide) (fun j11 => ?_) (fun j11 => ?_)
  · refine g_throw C ha hh ET htr gtw_A m_309 m_310 m_13 (by decide) d_E_give_30 d_E_give_33 d_E_give_34 d_E_give_37 (by decide) (Nat.le_of_ble_eq_true rfl) (by decide) (by decide) rfl
  · refine g_aload_n C rfl rfl d_E_give_14 ?_
    refine gf_E_13 C d_E_give_15 (by first | assumption | omega) (by repeat' first | assumption | exact up_eq _ _ _ | refine up_ne (by omega) ?_) (by rfl) ?_
    refine g_iload_n C rfl rfl d_E_give_18 ?_
    refine g_lald C d_E_give_19 (by first | assumption | omega) (by repeat' first | assumption | exact up_eq _ _ _ | refine up_ne (by omega) ?_) hin ?_
    rw [hcl]
    refine g_iload_n C rfl rfl d_E_give_20 ?_
    refine g_i2l C d_E_give_21 ?_
    refine g_ladd C d_E_give_22 ?_
    refine g_ldc2 C m_308 d_E_give_23 ?_
    refine g_lcmp_le (tgt := 38) C d_E_give_26 d_E_give_27 (by decide) (fun j26 => ?_) (fun j26 => ?_)
    · exact h.elim (fun q => absurd q j11) (fun q => absurd j26 q)
    refine g_throw C ha hh ET htr gtw_A m_309 m_310 m_13 (by decide) d_E_give_30 d_E_give_33 d_E_give_34 d_E_give_37 (by decide) (Nat.le_of_ble_eq_true rfl) (by decide) (by decide) rfl
theorem c_E_give {l : Launch} {o n : Nat} {sg : Nat → va_E} {Z : ZS} (a t : Nat) (x : Int32) (hn : 64 ≤ n) (hW : EW sg o Z) (ha : a < 4) (ht : t < 3) (hx : ¬ x < 0) (hg : zgiv Z t + x.toInt64 ≤ 100000000) : GM l y_E_give b_E_give 4 (some .long) 7 121 0 0 o n n sg false [.ref (ad o 0), .int (nI a), .int (nI t), .int x] (fun r0 s => some (.long (zbal Z (a * 3 + t) + x.toInt64)) = r0 ∧ EW s o (zGive Z a t x.toInt64) ∧ efr sg s) := by
  obtain ⟨h0, h1, h2, h3, hER⟩ := id hW
  have he1 : sg 0 = _ := h0
  have hcl : (nI t).toNatClampNeg = t := nI_clamp (by omega)
  have hin : vp_in (nI t) 3 := vp_in_nI ht (by decide)
  refine GM_of (by decide) (Nat.le_of_ble_eq_true rfl) ?_
  intro K C hl hz hr hnm E
  show G K o n sg 0 0 0 [(0, .ref (ad o 0)), (1, .int (nI a)), (2, .int (nI t)), (3, .int x)] []
  refine g_iload_n C rfl rfl d_E_give_0 ?_
  refine g_iconst (v := 4) C rfl d_E_give_1 ?_
  refine g_callS C (c_E_requireIndex (nI a) 4 (ok4 ha)) Y_E_requireIndex m_242 m_241 ⟨by decide, by decide⟩ ⟨by decide, by decide⟩ (fun h => nomatch h) d_E_give_2 rfl (Nat.le_of_ble_eq_true rfl) (fun ret sg2 hq => ?_)
  obtain ⟨rfl, rfl⟩ := hq
  refine g_iload_n C rfl rfl d_E_give_5 ?_
  refine g_iconst (v := 3) C rfl d_E_give_6 ?_
  refine g_callS C (c_E_requireIndex (nI t) 3 (ok3 ht)) Y_E_requireIndex m_242 m_241 ⟨by decide, by decide⟩ ⟨by decide, by decide⟩ (fun h => nomatch h) d_E_give_7 rfl (Nat.le_of_ble_eq_true rfl) (fun ret sg7 hq => ?_)
  obtain ⟨rfl, rfl⟩ := hq
  refine g_iload_n C rfl rfl d_E_give_10 ?_
  refine g_if_lt (tgt := 30) C d_E_give_11 (by decide) (fun j11 => ?_) (fun j11 => ?_)
  · exact absurd j11 hx
  refine g_aload_n C rfl rfl d_E_give_14 ?_
  refine gf_E_13 C d_E_give_15 (by first | assumption | omega) (by repeat' first | assumption | exact up_eq _ _ _ | refine up_ne (by omega) ?_) (by rfl) ?_
  refine g_iload_n C rfl rfl d_E_give_18 ?_
  refine g_lald C d_E_give_19 (by first | assumption | omega) (by repeat' first | assumption | exact up_eq _ _ _ | refine up_ne (by omega) ?_) hin ?_
  rw [hcl]
  refine g_iload_n C rfl rfl d_E_give_20 ?_
  refine g_i2l C d_E_give_21 ?_
  refine g_ladd C d_E_give_22 ?_
  refine g_ldc2 C m_308 d_E_give_23 ?_
  refine g_lcmp_le (tgt := 38) C d_E_give_26 d_E_give_27 (by decide) (fun j26 => ?_) (fun j26 => ?_)
  rotate_left
  · exact absurd hg j26
  refine g_aload_n C rfl rfl d_E_give_38 ?_
  refine gf_E_13 C d_E_give_39 (by first | assumption | omega) (by repeat' first | assumption | exact up_eq _ _ _ | refine up_ne (by omega) ?_) (by rfl) ?_
  refine g_iload_n C rfl rfl d_E_give_42 ?_
  refine g_dup2 C rfl rfl d_E_give_43 ?_
  refine g_lald C d_E_give_44 (by first | assumption | omega) (by repeat' first | assumption | exact up_eq _ _ _ | refine up_ne (by omega) ?_) hin ?_
  refine g_iload_n C rfl rfl d_E_give_45 ?_
  refine g_i2l C d_E_give_46 ?_
  refine g_ladd C d_E_give_47 ?_
  refine g_last C d_E_give_48 (by first | assumption | omega) (by repeat' first | assumption | exact up_eq _ _ _ | refine up_ne (by omega) ?_) hin ?_
  rw [hcl]
  refine g_aload_n C rfl rfl d_E_give_49 ?_
  refine gf_E_9 C d_E_give_50 (by first | assumption | omega) (by repeat' first | assumption | exact up_eq _ _ _ | refine up_ne (by omega) ?_) (by rfl) ?_
  refine g_iload_n C rfl rfl d_E_give_53 ?_
  refine g_iload_n C rfl rfl d_E_give_54 ?_
  refine g_callS C (c_E_account a t) Y_E_account m_325 m_324 ⟨by decide, by decide⟩ ⟨by decide, by decide⟩ (fun h => nomatch h) d_E_give_55 rfl (Nat.le_of_ble_eq_true rfl) (fun ret sg55 hq => ?_)
  obtain ⟨rfl, rfl⟩ := hq
  refine g_dup2 C rfl rfl d_E_give_58 ?_
  refine g_lald C d_E_give_59 (by first | assumption | omega) (by repeat' first | assumption | exact up_eq _ _ _ | refine up_ne (by omega) ?_) (vp_in_nI (by omega) (by decide)) ?_
  refine g_iload_n C rfl rfl d_E_give_60 ?_
  refine g_i2l C d_E_give_61 ?_
  refine g_ladd C d_E_give_62 ?_
  refine g_last C d_E_give_63 (by first | assumption | omega) (by repeat' first | assumption | exact up_eq _ _ _ | refine up_ne (by omega) ?_) (vp_in_nI (by omega) (by decide)) ?_
  rw [nI_clamp (n := a * 3 + t) (by omega)]
  refine g_aload_n C rfl rfl d_E_give_64 ?_
  refine gf_E_9 C d_E_give_65 (by first | assumption | omega) (by repeat' first | assumption | exact up_eq _ _ _ | refine up_ne (by omega) ?_) (by rfl) ?_
  refine g_iload_n C rfl rfl d_E_give_68 ?_
  refine g_iload_n C rfl rfl d_E_give_69 ?_
  refine g_callS C (c_E_account a t) Y_E_account m_325 m_324 ⟨by decide, by decide⟩ ⟨by decide, by decide⟩ (fun h => nomatch h) d_E_give_70 rfl (Nat.le_of_ble_eq_true rfl) (fun ret sg70 hq => ?_)
  obtain ⟨rfl, rfl⟩ := hq
  refine g_lald C d_E_give_73 (by first | assumption | omega) (by repeat' first | assumption | exact up_eq _ _ _ | refine up_ne (by omega) ?_) (vp_in_nI (by omega) (by decide)) ?_
  rw [nI_clamp (n := a * 3 + t) (by omega), pk_usL]
  refine g_lret C E hr d_E_give_74 ⟨rfl, ⟨by unfold isE; exact (by repeat' first | assumption | exact up_eq _ _ _ | refine up_ne (by omega) ?_), (by repeat' first | assumption | exact up_eq _ _ _ | refine up_ne (by omega) ?_), (by repeat' first | assumption | exact up_eq _ _ _ | refine up_ne (by omega) ?_), (by repeat' first | assumption | exact up_eq _ _ _ | refine up_ne (by omega) ?_), ER_mv (s := sg) (Z := zGive Z a t x.toInt64) hER (fun j q1 q2 => by repeat' first | exact rfl | refine up_ne (by omega) ?_)⟩, fun j q => by repeat' first | exact rfl | refine up_ne (by omega) ?_⟩
theorem c_E_pos0 {l : Launch} {o n : Nat} {sg : Nat → va_E} {Z : ZS} (a b c d x : Int32) (hn : 64 ≤ n) (hW : EW sg o Z) (hA : ∀ i, i < 12 → zam Z i ≤ 50000000) (h : zFind Z a b c d = none ∨ x < 0 ∨ 2 < x) : GM l y_E_position b_E_position 7 (some .long) 3 61 0 0 o n n sg false [.ref (ad o 0), .int a, .int b, .int c, .int d, .int x] (gR (some (.long 0)) sg) := by
  obtain ⟨h0, h1, h2, h3, hER⟩ := id hW
  have he1 : sg 0 = _ := h0
  obtain ⟨-, -, -, -, ins, owd, ⟨hS, ho⟩, -, -⟩ := hER
  have hfe := find_eq hA ho a b c d
  refine GM_of (by decide) (Nat.le_of_ble_eq_true rfl) ?_
  intro K C hl hz hr hnm E
  show G K o n sg 0 0 0 [(0, .ref (ad o 0)), (1, .int a), (2, .int b), (3, .int c), (4, .int d), (5, .int x)] []
  rcases opt_or (zFind Z a b c d) with e | ⟨k, e⟩
  · rw [e] at hfe
    refine g_aload_n C rfl rfl d_E_position_0 ?_
    refine g_iload_n C rfl rfl d_E_position_1 ?_
    refine g_iload_n C rfl rfl d_E_position_2 ?_
    refine g_iload_n C rfl rfl d_E_position_3 ?_
    refine g_iload C rfl d_E_position_4 ?_
    refine g_callV C (c_E_find a b c d hn h0 hS) Y_E_find m_219 s_E_find m_217 rfl rfl ⟨by decide, by decide⟩ ⟨by decide, by decide⟩ (fun h => nomatch h) d_E_position_6 (by first | assumption | omega) (by repeat' first | assumption | exact up_eq _ _ _ | refine up_ne (by omega) ?_) rfl (Nat.le_of_ble_eq_true rfl) (fun ret sg6 hq => ?_)
    obtain ⟨rfl, rfl⟩ := hq
    rw [hfe]
    refine g_astoreN (lv' := [(6, .null), (0, .ref (ad o 0)), (1, .int a), (2, .int b), (3, .int c), (4, .int d), (5, .int x)]) C d_E_position_9 (by decide) rfl ?_
    refine g_aloadN C rfl d_E_position_11 ?_
    refine g_ifnonnullN C d_E_position_13 ?_
    refine g_lconst (v := 0) C rfl d_E_position_16 ?_
    refine g_lret C E hr d_E_position_17 ⟨rfl, rfl⟩
  · rw [e] at hfe
    have hx : x.toInt < 0 ∨ 2 < x.toInt := h.elim (fun q => nomatch (e.symm.trans q)) (fun q => q.elim (fun q => Or.inl (Int32.lt_iff_toInt_lt.mp q)) (fun q => Or.inr (Int32.lt_iff_toInt_lt.mp q)))
    refine g_aload_n C rfl rfl d_E_position_0 ?_
    refine g_iload_n C rfl rfl d_E_position_1 ?_
    refine g_iload_n C rfl rfl d_E_position_2 ?_
    refine g_iload_n C rfl rfl d_E_position_3 ?_
    refine g_iload C rfl d_E_position_4 ?_
    refine g_callV C (c_E_find a b c d hn h0 hS) Y_E_find m_219 s_E_find m_217 rfl rfl ⟨by decide, by decide⟩ ⟨by decide, by decide⟩ (fun h => nomatch h) d_E_position_6 (by first | assumption | omega) (by repeat' first | assumption | exact up_eq _ _ _ | refine up_ne (by omega) ?_) rfl (Nat.le_of_ble_eq_true rfl) (fun ret sg6 hq => ?_)
    obtain ⟨rfl, rfl⟩ := hq
    rw [hfe]
    refine g_astore (lv' := [(6, .ref (ad o (28 + 3 * k))), (0, .ref (ad o 0)), (1, .int a), (2, .int b), (3, .int c), (4, .int d), (5, .int x)]) C d_E_position_9 (by decide) rfl ?_
    refine g_aload C rfl d_E_position_11 ?_
    refine g_ifnonnull (tgt := 18) C d_E_position_13 (by decide) ?_
    refine g_iload C rfl d_E_position_18 ?_
    refine g_tableOut (tgt := 71) C d_E_position_20 (hx) rfl ?_
    refine g_lconst (v := 0) C rfl d_E_position_71 ?_
    refine g_lret C E hr d_E_position_72 ⟨rfl, rfl⟩
theorem c_E_pos {l : Launch} {o n : Nat} {sg : Nat → va_E} {Z : ZS} (a b c d : Int32) (k w : Nat) (hn : 64 ≤ n) (hW : EW sg o Z) (hA : ∀ i, i < 12 → zam Z i ≤ 50000000) (h : zFind Z a b c d = some k) (hw : w ≤ 2) : GM l y_E_position b_E_position 7 (some .long) 3 61 0 0 o n n sg false [.ref (ad o 0), .int a, .int b, .int c, .int d, .int (nI w)] (gR (some (.long (if w = 0 then lN (zam Z k) else zod Z (2 * k + w - 1)))) sg) := by
  obtain ⟨h0, h1, h2, h3, hER⟩ := id hW
  have he1 : sg 0 = _ := h0
  obtain ⟨-, -, -, -, ins, owd, ⟨hS, ho⟩, -, -⟩ := hER
  have hfe := find_eq hA ho a b c d
  rw [h] at hfe
  have hk := (fnd_some h).1
  have hAk := hA k hk
  obtain ⟨f, hf1, hf2, hf3⟩ := id hS
  obtain ⟨s1, s2, s3⟩ := hf3 k hk
  refine GM_of (by decide) (Nat.le_of_ble_eq_true rfl) ?_
  intro K C hl hz hr hnm E
  show G K o n sg 0 0 0 [(0, .ref (ad o 0)), (1, .int a), (2, .int b), (3, .int c), (4, .int d), (5, .int (nI w))] []
  rcases (show w = 0 ∨ w = 1 ∨ w = 2 by omega) with q | q | q
  · subst q
    refine g_aload_n C rfl rfl d_E_position_0 ?_
    refine g_iload_n C rfl rfl d_E_position_1 ?_
    refine g_iload_n C rfl rfl d_E_position_2 ?_
    refine g_iload_n C rfl rfl d_E_position_3 ?_
    refine g_iload C rfl d_E_position_4 ?_
    refine g_callV C (c_E_find a b c d hn h0 hS) Y_E_find m_219 s_E_find m_217 rfl rfl ⟨by decide, by decide⟩ ⟨by decide, by decide⟩ (fun h => nomatch h) d_E_position_6 (by first | assumption | omega) (by repeat' first | assumption | exact up_eq _ _ _ | refine up_ne (by omega) ?_) rfl (Nat.le_of_ble_eq_true rfl) (fun ret sg6 hq => ?_)
    obtain ⟨rfl, rfl⟩ := hq
    rw [hfe]
    refine g_astore (lv' := [(6, .ref (ad o (28 + 3 * k))), (0, .ref (ad o 0)), (1, .int a), (2, .int b), (3, .int c), (4, .int d), (5, .int (nI 0))]) C d_E_position_9 (by decide) rfl ?_
    refine g_aload C rfl d_E_position_11 ?_
    refine g_ifnonnull (tgt := 18) C d_E_position_13 (by decide) ?_
    refine g_iload C rfl d_E_position_18 ?_
    refine g_tableIn (tgt := 48) C d_E_position_20 (by decide) (by decide) (by rfl) rfl ?_
    refine g_aload C rfl d_E_position_48 ?_
    refine gf_E_80 C d_E_position_50 (by first | assumption | omega) (by repeat' first | assumption | exact up_eq _ _ _ | refine up_ne (by omega) ?_) (by rfl) ?_
    refine g_i2l C d_E_position_53 ?_
    rw [nI_l (by omega)]
    refine g_lret C E hr d_E_position_54 ⟨rfl, rfl⟩
  · subst q
    refine g_aload_n C rfl rfl d_E_position_0 ?_
    refine g_iload_n C rfl rfl d_E_position_1 ?_
    refine g_iload_n C rfl rfl d_E_position_2 ?_
    refine g_iload_n C rfl rfl d_E_position_3 ?_
    refine g_iload C rfl d_E_position_4 ?_
    refine g_callV C (c_E_find a b c d hn h0 hS) Y_E_find m_219 s_E_find m_217 rfl rfl ⟨by decide, by decide⟩ ⟨by decide, by decide⟩ (fun h => nomatch h) d_E_position_6 (by first | assumption | omega) (by repeat' first | assumption | exact up_eq _ _ _ | refine up_ne (by omega) ?_) rfl (Nat.le_of_ble_eq_true rfl) (fun ret sg6 hq => ?_)
    obtain ⟨rfl, rfl⟩ := hq
    rw [hfe]
    refine g_astore (lv' := [(6, .ref (ad o (28 + 3 * k))), (0, .ref (ad o 0)), (1, .int a), (2, .int b), (3, .int c), (4, .int d), (5, .int (nI 1))]) C d_E_position_9 (by decide) rfl ?_
    refine g_aload C rfl d_E_position_11 ?_
    refine g_ifnonnull (tgt := 18) C d_E_position_13 (by decide) ?_
    refine g_iload C rfl d_E_position_18 ?_
    refine g_tableIn (tgt := 55) C d_E_position_20 (by decide) (by decide) (by rfl) rfl ?_
    refine g_aload C rfl d_E_position_55 ?_
    refine gf_E_124 C d_E_position_57 (by first | assumption | omega) (by repeat' first | assumption | exact up_eq _ _ _ | refine up_ne (by omega) ?_) (by rfl) ?_
    refine g_iconst (v := 0) C rfl d_E_position_60 ?_
    refine g_lald C d_E_position_61 (by first | assumption | omega) (by repeat' first | assumption | exact up_eq _ _ _ | refine up_ne (by omega) ?_) (vp_in_nI (n := 0) (by decide) (by decide)) ?_
    rw [show (0 : Int32).toNatClampNeg = 0 from rfl, (ho k hk).1]
    refine g_lret C E hr d_E_position_62 ⟨rfl, rfl⟩
  · subst q
    refine g_aload_n C rfl rfl d_E_position_0 ?_
    refine g_iload_n C rfl rfl d_E_position_1 ?_
    refine g_iload_n C rfl rfl d_E_position_2 ?_
    refine g_iload_n C rfl rfl d_E_position_3 ?_
    refine g_iload C rfl d_E_position_4 ?_
    refine g_callV C (c_E_find a b c d hn h0 hS) Y_E_find m_219 s_E_find m_217 rfl rfl ⟨by decide, by decide⟩ ⟨by decide, by decide⟩ (fun h => nomatch h) d_E_position_6 (by first | assumption | omega) (by repeat' first | assumption | exact up_eq _ _ _ | refine up_ne (by omega) ?_) rfl (Nat.le_of_ble_eq_true rfl) (fun ret sg6 hq => ?_)
    obtain ⟨rfl, rfl⟩ := hq
    rw [hfe]
    refine g_astore (lv' := [(6, .ref (ad o (28 + 3 * k))), (0, .ref (ad o 0)), (1, .int a), (2, .int b), (3, .int c), (4, .int d), (5, .int (nI 2))]) C d_E_position_9 (by decide) rfl ?_
    refine g_aload C rfl d_E_position_11 ?_
    refine g_ifnonnull (tgt := 18) C d_E_position_13 (by decide) ?_
    refine g_iload C rfl d_E_position_18 ?_
    refine g_tableIn (tgt := 63) C d_E_position_20 (by decide) (by decide) (by rfl) rfl ?_
    refine g_aload C rfl d_E_position_63 ?_
    refine gf_E_124 C d_E_position_65 (by first | assumption | omega) (by repeat' first | assumption | exact up_eq _ _ _ | refine up_ne (by omega) ?_) (by rfl) ?_
    refine g_iconst (v := 1) C rfl d_E_position_68 ?_
    refine g_lald C d_E_position_69 (by first | assumption | omega) (by repeat' first | assumption | exact up_eq _ _ _ | refine up_ne (by omega) ?_) (vp_in_nI (n := 1) (by decide) (by decide)) ?_
    rw [show (1 : Int32).toNatClampNeg = 1 from rfl, (ho k hk).2]
    refine g_lret C E hr d_E_position_70 ⟨rfl, rfl⟩

