-- WHAT IS ASKED OF ARGUMENTS
set_option maxRecDepth 20000 in
theorem gtw_I : GTw "RangeExchange" "java/lang/IndexOutOfBoundsException" 174 := by unfold GTw; decide +kernel
set_option maxRecDepth 20000 in
theorem gtw_A : GTw "RangeExchange" "java/lang/IllegalArgumentException" 66 := by unfold GTw; decide +kernel
set_option maxRecDepth 20000 in
theorem gtw_S : GTw "RangeExchange" "java/lang/IllegalStateException" 101 := by unfold GTw; decide +kernel
set_option maxRecDepth 20000 in
theorem gtw_N : GTw "RangeExchange" "java/util/NoSuchElementException" 115 := by unfold GTw; decide +kernel
theorem c_E_requireIndex {l : Launch} {o n : Nat} {sg : Nat → va_E} (i c : Int32) (h : ¬ i < 0 ∧ i < c) : GM l y_E_requireIndex b_E_requireIndex 2 none 6 100 0 0 o n n sg false [.int i, .int c] (gR none sg) := by
  refine GM_of (by decide) (Nat.le_of_ble_eq_true rfl) ?_
  intro K C hl hz hr hnm E
  show G K o n sg 0 0 0 [(0, .int i), (1, .int c)] []
  refine g_iload_n C rfl rfl d_E_requireIndex_0 ?_
  refine g_if_lt (tgt := 9) C d_E_requireIndex_1 (by decide) (fun j1 => ?_) (fun j1 => ?_)
  · exact absurd j1 h.1
  refine g_iload_n C rfl rfl d_E_requireIndex_4 ?_
  refine g_iload_n C rfl rfl d_E_requireIndex_5 ?_
  refine g_icmp_lt (tgt := 17) C d_E_requireIndex_6 (by decide) (fun j6 => ?_) (fun j6 => ?_)
  rotate_left
  · exact absurd h.2 j6
  refine g_vret C E hr d_E_requireIndex_17 ⟨rfl, rfl⟩
theorem t_E_requireIndex {l : Launch} (hfl : l.flags = flags0) {o n : Nat} {sg : Nat → va_E} (i c : Int32) (h : i < 0 ∨ c ≤ i) : GT l y_E_requireIndex b_E_requireIndex 2 none 6 100 o n sg [.int i, .int c] "java/lang/IndexOutOfBoundsException" (fun s => s = sg) := by
  refine GT_of (by decide) (Nat.le_of_ble_eq_true rfl) ?_
  intro K C hl ha hh ET
  have htr := tr_off (by rw [hl]; exact hfl) ha
  show G K o n sg 0 0 0 [(0, .int i), (1, .int c)] []
  refine g_iload_n C rfl rfl d_E_requireIndex_0 ?_
  refine g_if_lt (tgt := 9) C d_E_requireIndex_1 (by decide) (fun j1 => ?_) (fun j1 => ?_)
  · refine g_throw C ha hh ET htr gtw_I m_244 m_245 m_12 (by decide) d_E_requireIndex_9 d_E_requireIndex_12 d_E_requireIndex_13 d_E_requireIndex_16 (by decide) (Nat.le_of_ble_eq_true rfl) (by decide) (by decide) rfl
  · refine g_iload_n C rfl rfl d_E_requireIndex_4 ?_
    refine g_iload_n C rfl rfl d_E_requireIndex_5 ?_
    refine g_icmp_lt (tgt := 17) C d_E_requireIndex_6 (by decide) (fun j6 => ?_) (fun j6 => ?_)
    · exact absurd h (fun q => q.elim j1 (fun q => absurd j6 (Int32.not_lt.mpr q)))
    · refine g_throw C ha hh ET htr gtw_I m_244 m_245 m_12 (by decide) d_E_requireIndex_9 d_E_requireIndex_12 d_E_requireIndex_13 d_E_requireIndex_16 (by decide) (Nat.le_of_ble_eq_true rfl) (by decide) (by decide) rfl
theorem c_E_requireTick {l : Launch} {o n : Nat} {sg : Nat → va_E} (t : Int32) (h : -40 ≤ t ∧ t ≤ 40) : GM l y_E_requireTick b_E_requireTick 1 none 6 100 0 0 o n n sg false [.int t] (gR none sg) := by
  refine GM_of (by decide) (Nat.le_of_ble_eq_true rfl) ?_
  intro K C hl hz hr hnm E
  show G K o n sg 0 0 0 [(0, .int t)] []
  refine g_iload_n C rfl rfl d_E_requireTick_0 ?_
  refine g_bipush (v := -40) C rfl d_E_requireTick_1 ?_
  refine g_icmp_lt (tgt := 12) C d_E_requireTick_3 (by decide) (fun j3 => ?_) (fun j3 => ?_)
  · exact absurd j3 (Int32.not_lt.mpr h.1)
  refine g_iload_n C rfl rfl d_E_requireTick_6 ?_
  refine g_bipush (v := 40) C rfl d_E_requireTick_7 ?_
  refine g_icmp_le (tgt := 20) C d_E_requireTick_9 (by decide) (fun j9 => ?_) (fun j9 => ?_)
  rotate_left
  · exact absurd h.2 j9
  refine g_vret C E hr d_E_requireTick_20 ⟨rfl, rfl⟩
theorem t_E_requireTick {l : Launch} (hfl : l.flags = flags0) {o n : Nat} {sg : Nat → va_E} (t : Int32) (h : t < -40 ∨ 40 < t) : GT l y_E_requireTick b_E_requireTick 1 none 6 100 o n sg [.int t] "java/lang/IndexOutOfBoundsException" (fun s => s = sg) := by
  refine GT_of (by decide) (Nat.le_of_ble_eq_true rfl) ?_
  intro K C hl ha hh ET
  have htr := tr_off (by rw [hl]; exact hfl) ha
  show G K o n sg 0 0 0 [(0, .int t)] []
  refine g_iload_n C rfl rfl d_E_requireTick_0 ?_
  refine g_bipush (v := -40) C rfl d_E_requireTick_1 ?_
  refine g_icmp_lt (tgt := 12) C d_E_requireTick_3 (by decide) (fun j3 => ?_) (fun j3 => ?_)
  · refine g_throw C ha hh ET htr gtw_I m_244 m_245 m_12 (by decide) d_E_requireTick_12 d_E_requireTick_15 d_E_requireTick_16 d_E_requireTick_19 (by decide) (Nat.le_of_ble_eq_true rfl) (by decide) (by decide) rfl
  · refine g_iload_n C rfl rfl d_E_requireTick_6 ?_
    refine g_bipush (v := 40) C rfl d_E_requireTick_7 ?_
    refine g_icmp_le (tgt := 20) C d_E_requireTick_9 (by decide) (fun j9 => ?_) (fun j9 => ?_)
    · exact absurd h (fun q => q.elim j3 (fun q => absurd j9 (Int32.not_le.mpr q)))
    · refine g_throw C ha hh ET htr gtw_I m_244 m_245 m_12 (by decide) d_E_requireTick_12 d_E_requireTick_15 d_E_requireTick_16 d_E_requireTick_19 (by decide) (Nat.le_of_ble_eq_true rfl) (by decide) (by decide) rfl
def okI (i c : Int32) : Prop := ¬ i < 0 ∧ i < c
def okT (t : Int32) : Prop := -40 ≤ t ∧ t ≤ 40
theorem nokI {i c : Int32} (h : ¬ okI i c) : i < 0 ∨ c ≤ i := by
  by_cases h1 : i < 0
  · exact Or.inl h1
  · exact Or.inr (Int32.not_lt.mp (fun q => h ⟨h1, q⟩))
theorem nokT {t : Int32} (h : ¬ okT t) : t < -40 ∨ 40 < t := by
  by_cases h1 : t < -40
  · exact Or.inl h1
  · exact Or.inr (Int32.not_le.mp (fun q => h ⟨Int32.not_lt.mp h1, q⟩))
def okPl (a b c d : Int32) : Prop := okI a 4 ∧ okI b 2 ∧ okT c ∧ okT d
theorem c_E_requirePlace {l : Launch} {o n : Nat} {sg : Nat → va_E} (a b c d : Int32) (h : okPl a b c d) : GM l y_E_requirePlace b_E_requirePlace 4 none 7 121 0 0 o n n sg false [.int a, .int b, .int c, .int d] (gR none sg) := by
  refine GM_of (by decide) (Nat.le_of_ble_eq_true rfl) ?_
  intro K C hl hz hr hnm E
  show G K o n sg 0 0 0 [(0, .int a), (1, .int b), (2, .int c), (3, .int d)] []
  refine g_iload_n C rfl rfl d_E_requirePlace_0 ?_
  refine g_iconst (v := 4) C rfl d_E_requirePlace_1 ?_
  refine g_callS C (c_E_requireIndex a 4 h.1) Y_E_requireIndex m_242 m_241 ⟨by decide, by decide⟩ ⟨by decide, by decide⟩ (fun h => nomatch h) d_E_requirePlace_2 rfl (Nat.le_of_ble_eq_true rfl) (fun ret sg2 hq => ?_)
  obtain ⟨rfl, rfl⟩ := hq
  refine g_iload_n C rfl rfl d_E_requirePlace_5 ?_
  refine g_iconst (v := 2) C rfl d_E_requirePlace_6 ?_
  refine g_callS C (c_E_requireIndex b 2 h.2.1) Y_E_requireIndex m_242 m_241 ⟨by decide, by decide⟩ ⟨by decide, by decide⟩ (fun h => nomatch h) d_E_requirePlace_7 rfl (Nat.le_of_ble_eq_true rfl) (fun ret sg7 hq => ?_)
  obtain ⟨rfl, rfl⟩ := hq
  refine g_iload_n C rfl rfl d_E_requirePlace_10 ?_
  refine g_callS C (c_E_requireTick c h.2.2.1) Y_E_requireTick m_346 m_345 ⟨by decide, by decide⟩ ⟨by decide, by decide⟩ (fun h => nomatch h) d_E_requirePlace_11 rfl (Nat.le_of_ble_eq_true rfl) (fun ret sg11 hq => ?_)
  obtain ⟨rfl, rfl⟩ := hq
  refine g_iload_n C rfl rfl d_E_requirePlace_14 ?_
  refine g_callS C (c_E_requireTick d h.2.2.2) Y_E_requireTick m_346 m_345 ⟨by decide, by decide⟩ ⟨by decide, by decide⟩ (fun h => nomatch h) d_E_requirePlace_15 rfl (Nat.le_of_ble_eq_true rfl) (fun ret sg15 hq => ?_)
  obtain ⟨rfl, rfl⟩ := hq
  refine g_vret C E hr d_E_requirePlace_18 ⟨rfl, rfl⟩
theorem t_E_requirePlace {l : Launch} (hfl : l.flags = flags0) {o n : Nat} {sg : Nat → va_E} (a b c d : Int32) (h : ¬ okPl a b c d) : GT l y_E_requirePlace b_E_requirePlace 4 none 7 121 o n sg [.int a, .int b, .int c, .int d] "java/lang/IndexOutOfBoundsException" (fun s => s = sg) := by
  refine GT_of (by decide) (Nat.le_of_ble_eq_true rfl) ?_
  intro K C hl ha hh ET
  have hfl2 : (xl K).flags = flags0 := by rw [hl]; exact hfl
  show G K o n sg 0 0 0 [(0, .int a), (1, .int b), (2, .int c), (3, .int d)] []
  by_cases h1 : okI a 4
  · by_cases h2 : okI b 2
    · by_cases h3 : okT c
      · have h4 : ¬ okT d := fun q => h ⟨h1, h2, h3, q⟩
        refine g_iload_n C rfl rfl d_E_requirePlace_0 ?_
        refine g_iconst (v := 4) C rfl d_E_requirePlace_1 ?_
        refine g_callS C (c_E_requireIndex a 4 h1) Y_E_requireIndex m_242 m_241 ⟨by decide, by decide⟩ ⟨by decide, by decide⟩ (fun h => nomatch h) d_E_requirePlace_2 rfl (Nat.le_of_ble_eq_true rfl) (fun ret sg2 hq => ?_)
        obtain ⟨rfl, rfl⟩ := hq
        refine g_iload_n C rfl rfl d_E_requirePlace_5 ?_
        refine g_iconst (v := 2) C rfl d_E_requirePlace_6 ?_
        refine g_callS C (c_E_requireIndex b 2 h2) Y_E_requireIndex m_242 m_241 ⟨by decide, by decide⟩ ⟨by decide, by decide⟩ (fun h => nomatch h) d_E_requirePlace_7 rfl (Nat.le_of_ble_eq_true rfl) (fun ret sg7 hq => ?_)
        obtain ⟨rfl, rfl⟩ := hq
        refine g_iload_n C rfl rfl d_E_requirePlace_10 ?_
        refine g_callS C (c_E_requireTick c h3) Y_E_requireTick m_346 m_345 ⟨by decide, by decide⟩ ⟨by decide, by decide⟩ (fun h => nomatch h) d_E_requirePlace_11 rfl (Nat.le_of_ble_eq_true rfl) (fun ret sg11 hq => ?_)
        obtain ⟨rfl, rfl⟩ := hq
        refine g_iload_n C rfl rfl d_E_requirePlace_14 ?_
        exact g_callST C hh ET (t_E_requireTick hfl2 d (nokT h4)) Y_E_requireTick m_346 m_345 ⟨by decide, by decide⟩ ⟨by decide, by decide⟩ d_E_requirePlace_15 rfl (Nat.le_of_ble_eq_true rfl)
      · refine g_iload_n C rfl rfl d_E_requirePlace_0 ?_
        refine g_iconst (v := 4) C rfl d_E_requirePlace_1 ?_
        refine g_callS C (c_E_requireIndex a 4 h1) Y_E_requireIndex m_242 m_241 ⟨by decide, by decide⟩ ⟨by decide, by decide⟩ (fun h => nomatch h) d_E_requirePlace_2 rfl (Nat.le_of_ble_eq_true rfl) (fun ret sg2 hq => ?_)
        obtain ⟨rfl, rfl⟩ := hq
        refine g_iload_n C rfl rfl d_E_requirePlace_5 ?_
        refine g_iconst (v := 2) C rfl d_E_requirePlace_6 ?_
        refine g_callS C (c_E_requireIndex b 2 h2) Y_E_requireIndex m_242 m_241 ⟨by decide, by decide⟩ ⟨by decide, by decide⟩ (fun h => nomatch h) d_E_requirePlace_7 rfl (Nat.le_of_ble_eq_true rfl) (fun ret sg7 hq => ?_)
        obtain ⟨rfl, rfl⟩ := hq
        refine g_iload_n C rfl rfl d_E_requirePlace_10 ?_
        exact g_callST C hh ET (t_E_requireTick hfl2 c (nokT h3)) Y_E_requireTick m_346 m_345 ⟨by decide, by decide⟩ ⟨by decide, by decide⟩ d_E_requirePlace_11 rfl (Nat.le_of_ble_eq_true rfl)
    · refine g_iload_n C rfl rfl d_E_requirePlace_0 ?_
      refine g_iconst (v := 4) C rfl d_E_requirePlace_1 ?_
      refine g_callS C (c_E_requireIndex a 4 h1) Y_E_requireIndex m_242 m_241 ⟨by decide, by decide⟩ ⟨by decide, by decide⟩ (fun h => nomatch h) d_E_requirePlace_2 rfl (Nat.le_of_ble_eq_true rfl) (fun ret sg2 hq => ?_)
      obtain ⟨rfl, rfl⟩ := hq
      refine g_iload_n C rfl rfl d_E_requirePlace_5 ?_
      refine g_iconst (v := 2) C rfl d_E_requirePlace_6 ?_
      exact g_callST C hh ET (t_E_requireIndex hfl2 b 2 (nokI h2)) Y_E_requireIndex m_242 m_241 ⟨by decide, by decide⟩ ⟨by decide, by decide⟩ d_E_requirePlace_7 rfl (Nat.le_of_ble_eq_true rfl)
  · refine g_iload_n C rfl rfl d_E_requirePlace_0 ?_
    refine g_iconst (v := 4) C rfl d_E_requirePlace_1 ?_
    exact g_callST C hh ET (t_E_requireIndex hfl2 a 4 (nokI h1)) Y_E_requireIndex m_242 m_241 ⟨by decide, by decide⟩ ⟨by decide, by decide⟩ d_E_requirePlace_2 rfl (Nat.le_of_ble_eq_true rfl)

