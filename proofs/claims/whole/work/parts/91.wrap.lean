-- THE LAW'S WRAPPERS
def wPost (sg : Nat → va_E) (o c : Nat) (v : Int64) (Z : ZS) : Option Value → (Nat → va_E) → Prop := fun r s => some (.int (nI c)) = r ∧ EW s o Z ∧ (∃ f, s 87 = eJ 1 f ∧ (c = 0 → f 0 = v)) ∧ ∀ j, 64 ≤ j → j ≠ 87 → s j = sg j
theorem EW_mv {s s' : Nat → va_E} {o : Nat} {Z : ZS} (h : EW s o Z) (e : ∀ j, j < 64 → s' j = s j) : EW s' o Z := ⟨(e _ (by omega)).trans h.1, (e _ (by omega)).trans h.2.1, (e _ (by omega)).trans h.2.2.1, (e _ (by omega)).trans h.2.2.2.1, ER_mv h.2.2.2.2 (fun j a b => e j (by omega))⟩
abbrev hh_give : List (Nat × Nat × Nat × Nat) := [(0, 11, 14, 13), (0, 11, 18, 15)]
theorem YW_give : GYW y_L_give b_L_give 6 (some .int) hh_give 5 := ⟨m_234, m_0, by decide, by decide, by decide +kernel⟩
theorem w_give0 {l : Launch} {o : Nat} {sg : Nat → va_E} {Z : ZS} (a b c : Int32) (hW : EW sg o Z) {g87 : Nat → Int64} (h87 : sg 87 = eJ 1 g87) {v : Int64} {Z' : ZS} {PP : Option Value → (Nat → va_E) → Prop} (hM : GM l y_E_give b_E_give 4 (some .long) 7 121 0 0 o 88 88 sg false [.ref (ad o 0), .int a, .int b, .int c] PP) (hP : ∀ r s, PP r s → some (.long v) = r ∧ EW s o Z' ∧ efr sg s) : GMW l y_L_give b_L_give 6 (some .int) hh_give 8 144 1 6 o 88 88 sg [.ref (ad o 0), .int a, .int b, .int c, .ref (ad o 87)] (wPost sg o 0 (v) Z') := by
  have he1 : sg 0 = _ := hW.1
  refine GMW_of (by decide) (Nat.le_of_ble_eq_true rfl) ?_
  intro K C hl hr htab hNC E
  show G K o 88 sg 0 0 0 [(0, .ref (ad o 0)), (1, .int a), (2, .int b), (3, .int c), (4, .ref (ad o 87))] []
  subst hl
  refine g_aload C rfl d_L_give_0 ?_
  refine g_iconst (v := 0) C rfl d_L_give_2 ?_
  refine g_aload_n C rfl rfl d_L_give_3 ?_
  refine g_iload_n C rfl rfl d_L_give_4 ?_
  refine g_iload_n C rfl rfl d_L_give_5 ?_
  refine g_iload_n C rfl rfl d_L_give_6 ?_
  refine g_callV C (hM) Y_E_give m_238 m_239 m_237 rfl rfl ⟨by decide, by decide⟩ ⟨by decide, by decide⟩ (fun h => nomatch h) d_L_give_7 (by first | assumption | omega) (by repeat' first | assumption | exact up_eq _ _ _ | refine up_ne (by omega) ?_) rfl (Nat.le_of_ble_eq_true rfl) (fun ret sg7 hq => ?_)
  obtain hq := hq
  obtain ⟨rfl, hE, hF⟩ := hP _ _ hq
  have h87' := (hF 87 (by omega)).trans h87
  refine g_last C d_L_give_10 (by first | assumption | omega) (by repeat' first | assumption | exact up_eq _ _ _ | refine up_ne (by omega) ?_) (vp_in_nI (n := 0) (by decide) (by decide)) ?_
  refine g_goto (tgt := 22) C d_L_give_11 (by decide) ?_
  refine g_iconst (v := 0) C rfl d_L_give_22 ?_
  refine g_more (c2 := 1) (s2 := 6) (by decide) (by decide) ?_
  refine g_iret C E hr d_L_give_23 ?_
  exact ⟨rfl, EW_mv hE (fun j q => up_ne (by omega) rfl), ⟨_, up_eq _ _ _, fun _ => pk_usL⟩, fun j q1 q2 => (up_ne q2 rfl).trans (hF j q1)⟩
theorem w_give1 {l : Launch} {o : Nat} {sg : Nat → va_E} {Z : ZS} (a b c : Int32) (hW : EW sg o Z) {g87 : Nat → Int64} (h87 : sg 87 = eJ 1 g87) {PP : (Nat → va_E) → Prop} (hT : GT l y_E_give b_E_give 4 (some .long) 7 121 o 88 sg [.ref (ad o 0), .int a, .int b, .int c] "java/lang/IndexOutOfBoundsException" PP) (hP : ∀ s, PP s → EW s o Z ∧ efr sg s) (v : Int64) : GMW l y_L_give b_L_give 6 (some .int) hh_give 8 144 1 6 o 88 88 sg [.ref (ad o 0), .int a, .int b, .int c, .ref (ad o 87)] (wPost sg o 1 v Z) := by
  have he1 : sg 0 = _ := hW.1
  refine GMW_of (by decide) (Nat.le_of_ble_eq_true rfl) ?_
  intro K C hl hr htab hNC E
  show G K o 88 sg 0 0 0 [(0, .ref (ad o 0)), (1, .int a), (2, .int b), (3, .int c), (4, .ref (ad o 87))] []
  subst hl
  refine g_aload C rfl d_L_give_0 ?_
  refine g_iconst (v := 0) C rfl d_L_give_2 ?_
  refine g_aload_n C rfl rfl d_L_give_3 ?_
  refine g_iload_n C rfl rfl d_L_give_4 ?_
  refine g_iload_n C rfl rfl d_L_give_5 ?_
  refine g_iload_n C rfl rfl d_L_give_6 ?_
  refine g_callVC C hT Y_E_give m_238 m_239 m_237 rfl rfl ⟨by decide, by decide⟩ ⟨by decide, by decide⟩ d_L_give_7 (by omega) he1 rfl (Nat.le_of_ble_eq_true rfl) (pre := []) (x := ⟨0, 11, 14, 13⟩) (post' := [⟨0, 11, 18, 15⟩]) (by rw [htab]; rfl) (fun z hz => absurd hz List.not_mem_nil) hNC (by decide) (by decide) m_235 (fun sgt xa hq => ?_)
  obtain ⟨hE, hF⟩ := hP _ hq
  have h87' := (hF 87 (by omega)).trans h87
  refine g_astore (lv' := [(5, .ref xa), (0, .ref (ad o 0)), (1, .int a), (2, .int b), (3, .int c), (4, .ref (ad o 87))]) C d_L_give_14 (by decide) rfl ?_
  refine g_iconst (v := 1) C rfl d_L_give_16 ?_
  refine g_iret C E hr d_L_give_17 ?_
  exact ⟨rfl, hE, ⟨_, h87', fun q => absurd q (by decide)⟩, fun j q1 q2 => hF j q1⟩
theorem w_give2 {l : Launch} {o : Nat} {sg : Nat → va_E} {Z : ZS} (a b c : Int32) (hW : EW sg o Z) {g87 : Nat → Int64} (h87 : sg 87 = eJ 1 g87) {PP : (Nat → va_E) → Prop} (hT : GT l y_E_give b_E_give 4 (some .long) 7 121 o 88 sg [.ref (ad o 0), .int a, .int b, .int c] "java/lang/IllegalArgumentException" PP) (hP : ∀ s, PP s → EW s o Z ∧ efr sg s) (v : Int64) : GMW l y_L_give b_L_give 6 (some .int) hh_give 8 144 1 6 o 88 88 sg [.ref (ad o 0), .int a, .int b, .int c, .ref (ad o 87)] (wPost sg o 2 v Z) := by
  have he1 : sg 0 = _ := hW.1
  refine GMW_of (by decide) (Nat.le_of_ble_eq_true rfl) ?_
  intro K C hl hr htab hNC E
  show G K o 88 sg 0 0 0 [(0, .ref (ad o 0)), (1, .int a), (2, .int b), (3, .int c), (4, .ref (ad o 87))] []
  subst hl
  refine g_aload C rfl d_L_give_0 ?_
  refine g_iconst (v := 0) C rfl d_L_give_2 ?_
  refine g_aload_n C rfl rfl d_L_give_3 ?_
  refine g_iload_n C rfl rfl d_L_give_4 ?_
  refine g_iload_n C rfl rfl d_L_give_5 ?_
  refine g_iload_n C rfl rfl d_L_give_6 ?_
  refine g_callVC C hT Y_E_give m_238 m_239 m_237 rfl rfl ⟨by decide, by decide⟩ ⟨by decide, by decide⟩ d_L_give_7 (by omega) he1 rfl (Nat.le_of_ble_eq_true rfl) (pre := [⟨0, 11, 14, 13⟩]) (x := ⟨0, 11, 18, 15⟩) (post' := []) (by rw [htab]; rfl) (List.forall_mem_cons.mpr ⟨⟨by decide, by decide, "java/lang/IndexOutOfBoundsException", m_235, by decide +kernel⟩, (fun _ h => absurd h List.not_mem_nil)⟩) hNC (by decide) (by decide) m_236 (fun sgt xa hq => ?_)
  obtain ⟨hE, hF⟩ := hP _ hq
  have h87' := (hF 87 (by omega)).trans h87
  refine g_astore (lv' := [(5, .ref xa), (0, .ref (ad o 0)), (1, .int a), (2, .int b), (3, .int c), (4, .ref (ad o 87))]) C d_L_give_18 (by decide) rfl ?_
  refine g_iconst (v := 2) C rfl d_L_give_20 ?_
  refine g_iret C E hr d_L_give_21 ?_
  exact ⟨rfl, hE, ⟨_, h87', fun q => absurd q (by decide)⟩, fun j q1 q2 => hF j q1⟩
abbrev hh_balance : List (Nat × Nat × Nat × Nat) := [(0, 9, 12, 13)]
theorem YW_balance : GYW y_L_balance b_L_balance 5 (some .int) hh_balance 4 := ⟨m_329, m_0, by decide, by decide, by decide +kernel⟩
theorem w_balance0 {l : Launch} {o : Nat} {sg : Nat → va_E} {Z : ZS} (a b : Int32) (hW : EW sg o Z) {g87 : Nat → Int64} (h87 : sg 87 = eJ 1 g87) {v : Int64} {Z' : ZS} {PP : Option Value → (Nat → va_E) → Prop} (hM : GM l y_E_balance b_E_balance 3 (some .long) 7 121 0 0 o 88 88 sg false [.ref (ad o 0), .int a, .int b] PP) (hP : ∀ r s, PP r s → some (.long v) = r ∧ EW s o Z' ∧ efr sg s) : GMW l y_L_balance b_L_balance 5 (some .int) hh_balance 8 143 1 6 o 88 88 sg [.ref (ad o 0), .int a, .int b, .ref (ad o 87)] (wPost sg o 0 (v) Z') := by
  have he1 : sg 0 = _ := hW.1
  refine GMW_of (by decide) (Nat.le_of_ble_eq_true rfl) ?_
  intro K C hl hr htab hNC E
  show G K o 88 sg 0 0 0 [(0, .ref (ad o 0)), (1, .int a), (2, .int b), (3, .ref (ad o 87))] []
  subst hl
  refine g_aload_n C rfl rfl d_L_balance_0 ?_
  refine g_iconst (v := 0) C rfl d_L_balance_1 ?_
  refine g_aload_n C rfl rfl d_L_balance_2 ?_
  refine g_iload_n C rfl rfl d_L_balance_3 ?_
  refine g_iload_n C rfl rfl d_L_balance_4 ?_
  refine g_callV C (hM) Y_E_balance m_331 m_332 m_330 rfl rfl ⟨by decide, by decide⟩ ⟨by decide, by decide⟩ (fun h => nomatch h) d_L_balance_5 (by first | assumption | omega) (by repeat' first | assumption | exact up_eq _ _ _ | refine up_ne (by omega) ?_) rfl (Nat.le_of_ble_eq_true rfl) (fun ret sg5 hq => ?_)
  obtain hq := hq
  obtain ⟨rfl, hE, hF⟩ := hP _ _ hq
  have h87' := (hF 87 (by omega)).trans h87
  refine g_last C d_L_balance_8 (by first | assumption | omega) (by repeat' first | assumption | exact up_eq _ _ _ | refine up_ne (by omega) ?_) (vp_in_nI (n := 0) (by decide) (by decide)) ?_
  refine g_goto (tgt := 16) C d_L_balance_9 (by decide) ?_
  refine g_iconst (v := 0) C rfl d_L_balance_16 ?_
  refine g_more (c2 := 1) (s2 := 6) (by decide) (by decide) ?_
  refine g_iret C E hr d_L_balance_17 ?_
  exact ⟨rfl, EW_mv hE (fun j q => up_ne (by omega) rfl), ⟨_, up_eq _ _ _, fun _ => pk_usL⟩, fun j q1 q2 => (up_ne q2 rfl).trans (hF j q1)⟩
theorem w_balance1 {l : Launch} {o : Nat} {sg : Nat → va_E} {Z : ZS} (a b : Int32) (hW : EW sg o Z) {g87 : Nat → Int64} (h87 : sg 87 = eJ 1 g87) {PP : (Nat → va_E) → Prop} (hT : GT l y_E_balance b_E_balance 3 (some .long) 7 121 o 88 sg [.ref (ad o 0), .int a, .int b] "java/lang/IndexOutOfBoundsException" PP) (hP : ∀ s, PP s → EW s o Z ∧ efr sg s) (v : Int64) : GMW l y_L_balance b_L_balance 5 (some .int) hh_balance 8 143 1 6 o 88 88 sg [.ref (ad o 0), .int a, .int b, .ref (ad o 87)] (wPost sg o 1 v Z) := by
  have he1 : sg 0 = _ := hW.1
  refine GMW_of (by decide) (Nat.le_of_ble_eq_true rfl) ?_
  intro K C hl hr htab hNC E
  show G K o 88 sg 0 0 0 [(0, .ref (ad o 0)), (1, .int a), (2, .int b), (3, .ref (ad o 87))] []
  subst hl
  refine g_aload_n C rfl rfl d_L_balance_0 ?_
  refine g_iconst (v := 0) C rfl d_L_balance_1 ?_
  refine g_aload_n C rfl rfl d_L_balance_2 ?_
  refine g_iload_n C rfl rfl d_L_balance_3 ?_
  refine g_iload_n C rfl rfl d_L_balance_4 ?_
  refine g_callVC C hT Y_E_balance m_331 m_332 m_330 rfl rfl ⟨by decide, by decide⟩ ⟨by decide, by decide⟩ d_L_balance_5 (by omega) he1 rfl (Nat.le_of_ble_eq_true rfl) (pre := []) (x := ⟨0, 9, 12, 13⟩) (post' := []) (by rw [htab]; rfl) (fun z hz => absurd hz List.not_mem_nil) hNC (by decide) (by decide) m_235 (fun sgt xa hq => ?_)
  obtain ⟨hE, hF⟩ := hP _ hq
  have h87' := (hF 87 (by omega)).trans h87
  refine g_astore (lv' := [(4, .ref xa), (0, .ref (ad o 0)), (1, .int a), (2, .int b), (3, .ref (ad o 87))]) C d_L_balance_12 (by decide) rfl ?_
  refine g_iconst (v := 1) C rfl d_L_balance_14 ?_
  refine g_iret C E hr d_L_balance_15 ?_
  exact ⟨rfl, hE, ⟨_, h87', fun q => absurd q (by decide)⟩, fun j q1 q2 => hF j q1⟩
abbrev hh_mint : List (Nat × Nat × Nat × Nat) := [(0, 16, 19, 13), (0, 16, 23, 15), (0, 16, 27, 25)]
theorem YW_mint : GYW y_L_mint b_L_mint 8 (some .int) hh_mint 7 := ⟨m_336, m_0, by decide, by decide, by decide +kernel⟩
theorem w_mint0 {l : Launch} {o : Nat} {sg : Nat → va_E} {Z : ZS} (a b c d x : Int32) (hW : EW sg o Z) {g87 : Nat → Int64} (h87 : sg 87 = eJ 1 g87) {v : Int32} {Z' : ZS} {PP : Option Value → (Nat → va_E) → Prop} (hM : GM l y_E_mint b_E_mint 12 (some .int) 8 144 0 0 o 88 88 sg false [.ref (ad o 0), .int a, .int b, .int c, .int d, .int x] PP) (hP : ∀ r s, PP r s → some (.int v) = r ∧ EW s o Z' ∧ efr sg s) : GMW l y_L_mint b_L_mint 8 (some .int) hh_mint 9 175 1 6 o 88 88 sg [.ref (ad o 0), .int a, .int b, .int c, .int d, .int x, .ref (ad o 87)] (wPost sg o 0 (v.toInt64) Z') := by
  have he1 : sg 0 = _ := hW.1
  refine GMW_of (by decide) (Nat.le_of_ble_eq_true rfl) ?_
  intro K C hl hr htab hNC E
  show G K o 88 sg 0 0 0 [(0, .ref (ad o 0)), (1, .int a), (2, .int b), (3, .int c), (4, .int d), (5, .int x), (6, .ref (ad o 87))] []
  subst hl
  refine g_aload C rfl d_L_mint_0 ?_
  refine g_iconst (v := 0) C rfl d_L_mint_2 ?_
  refine g_aload_n C rfl rfl d_L_mint_3 ?_
  refine g_iload_n C rfl rfl d_L_mint_4 ?_
  refine g_iload_n C rfl rfl d_L_mint_5 ?_
  refine g_iload_n C rfl rfl d_L_mint_6 ?_
  refine g_iload C rfl d_L_mint_7 ?_
  refine g_iload C rfl d_L_mint_9 ?_
  refine g_callV C (hM) Y_E_mint m_339 m_340 m_338 rfl rfl ⟨by decide, by decide⟩ ⟨by decide, by decide⟩ (fun h => nomatch h) d_L_mint_11 (by first | assumption | omega) (by repeat' first | assumption | exact up_eq _ _ _ | refine up_ne (by omega) ?_) rfl (Nat.le_of_ble_eq_true rfl) (fun ret sg11 hq => ?_)
  obtain hq := hq
  obtain ⟨rfl, hE, hF⟩ := hP _ _ hq
  have h87' := (hF 87 (by omega)).trans h87
  refine g_i2l C d_L_mint_14 ?_
  refine g_last C d_L_mint_15 (by first | assumption | omega) (by repeat' first | assumption | exact up_eq _ _ _ | refine up_ne (by omega) ?_) (vp_in_nI (n := 0) (by decide) (by decide)) ?_
  refine g_goto (tgt := 31) C d_L_mint_16 (by decide) ?_
  refine g_iconst (v := 0) C rfl d_L_mint_31 ?_
  refine g_more (c2 := 1) (s2 := 6) (by decide) (by decide) ?_
  refine g_iret C E hr d_L_mint_32 ?_
  exact ⟨rfl, EW_mv hE (fun j q => up_ne (by omega) rfl), ⟨_, up_eq _ _ _, fun _ => pk_usL⟩, fun j q1 q2 => (up_ne q2 rfl).trans (hF j q1)⟩
theorem w_mint1 {l : Launch} {o : Nat} {sg : Nat → va_E} {Z : ZS} (a b c d x : Int32) (hW : EW sg o Z) {g87 : Nat → Int64} (h87 : sg 87 = eJ 1 g87) {PP : (Nat → va_E) → Prop} (hT : GT l y_E_mint b_E_mint 12 (some .int) 8 144 o 88 sg [.ref (ad o 0), .int a, .int b, .int c, .int d, .int x] "java/lang/IndexOutOfBoundsException" PP) (hP : ∀ s, PP s → EW s o Z ∧ efr sg s) (v : Int64) : GMW l y_L_mint b_L_mint 8 (some .int) hh_mint 9 175 1 6 o 88 88 sg [.ref (ad o 0), .int a, .int b, .int c, .int d, .int x, .ref (ad o 87)] (wPost sg o 1 v Z) := by
  have he1 : sg 0 = _ := hW.1
  refine GMW_of (by decide) (Nat.le_of_ble_eq_true rfl) ?_
  intro K C hl hr htab hNC E
  show G K o 88 sg 0 0 0 [(0, .ref (ad o 0)), (1, .int a), (2, .int b), (3, .int c), (4, .int d), (5, .int x), (6, .ref (ad o 87))] []
  subst hl
  refine g_aload C rfl d_L_mint_0 ?_
  refine g_iconst (v := 0) C rfl d_L_mint_2 ?_
  refine g_aload_n C rfl rfl d_L_mint_3 ?_
  refine g_iload_n C rfl rfl d_L_mint_4 ?_
  refine g_iload_n C rfl rfl d_L_mint_5 ?_
  refine g_iload_n C rfl rfl d_L_mint_6 ?_
  refine g_iload C rfl d_L_mint_7 ?_
  refine g_iload C rfl d_L_mint_9 ?_
  refine g_callVC C hT Y_E_mint m_339 m_340 m_338 rfl rfl ⟨by decide, by decide⟩ ⟨by decide, by decide⟩ d_L_mint_11 (by omega) he1 rfl (Nat.le_of_ble_eq_true rfl) (pre := []) (x := ⟨0, 16, 19, 13⟩) (post' := [⟨0, 16, 23, 15⟩, ⟨0, 16, 27, 25⟩]) (by rw [htab]; rfl) (fun z hz => absurd hz List.not_mem_nil) hNC (by decide) (by decide) m_235 (fun sgt xa hq => ?_)
  obtain ⟨hE, hF⟩ := hP _ hq
  have h87' := (hF 87 (by omega)).trans h87
  refine g_astore (lv' := [(7, .ref xa), (0, .ref (ad o 0)), (1, .int a), (2, .int b), (3, .int c), (4, .int d), (5, .int x), (6, .ref (ad o 87))]) C d_L_mint_19 (by decide) rfl ?_
  refine g_iconst (v := 1) C rfl d_L_mint_21 ?_
  refine g_iret C E hr d_L_mint_22 ?_
  exact ⟨rfl, hE, ⟨_, h87', fun q => absurd q (by decide)⟩, fun j q1 q2 => hF j q1⟩
theorem w_mint2 {l : Launch} {o : Nat} {sg : Nat → va_E} {Z : ZS} (a b c d x : Int32) (hW : EW sg o Z) {g87 : Nat → Int64} (h87 : sg 87 = eJ 1 g87) {PP : (Nat → va_E) → Prop} (hT : GT l y_E_mint b_E_mint 12 (some .int) 8 144 o 88 sg [.ref (ad o 0), .int a, .int b, .int c, .int d, .int x] "java/lang/IllegalArgumentException" PP) (hP : ∀ s, PP s → EW s o Z ∧ efr sg s) (v : Int64) : GMW l y_L_mint b_L_mint 8 (some .int) hh_mint 9 175 1 6 o 88 88 sg [.ref (ad o 0), .int a, .int b, .int c, .int d, .int x, .ref (ad o 87)] (wPost sg o 2 v Z) := by
  have he1 : sg 0 = _ := hW.1
  refine GMW_of (by decide) (Nat.le_of_ble_eq_true rfl) ?_
  intro K C hl hr htab hNC E
  show G K o 88 sg 0 0 0 [(0, .ref (ad o 0)), (1, .int a), (2, .int b), (3, .int c), (4, .int d), (5, .int x), (6, .ref (ad o 87))] []
  subst hl
  refine g_aload C rfl d_L_mint_0 ?_
  refine g_iconst (v := 0) C rfl d_L_mint_2 ?_
  refine g_aload_n C rfl rfl d_L_mint_3 ?_
  refine g_iload_n C rfl rfl d_L_mint_4 ?_
  refine g_iload_n C rfl rfl d_L_mint_5 ?_
  refine g_iload_n C rfl rfl d_L_mint_6 ?_
  refine g_iload C rfl d_L_mint_7 ?_
  refine g_iload C rfl d_L_mint_9 ?_
  refine g_callVC C hT Y_E_mint m_339 m_340 m_338 rfl rfl ⟨by decide, by decide⟩ ⟨by decide, by decide⟩ d_L_mint_11 (by omega) he1 rfl (Nat.le_of_ble_eq_true rfl) (pre := [⟨0, 16, 19, 13⟩]) (x := ⟨0, 16, 23, 15⟩) (post' := [⟨0, 16, 27, 25⟩]) (by rw [htab]; rfl) (List.forall_mem_cons.mpr ⟨⟨by decide, by decide, "java/lang/IndexOutOfBoundsException", m_235, by decide +kernel⟩, (fun _ h => absurd h List.not_mem_nil)⟩) hNC (by decide) (by decide) m_236 (fun sgt xa hq => ?_)
  obtain ⟨hE, hF⟩ := hP _ hq
  have h87' := (hF 87 (by omega)).trans h87
  refine g_astore (lv' := [(7, .ref xa), (0, .ref (ad o 0)), (1, .int a), (2, .int b), (3, .int c), (4, .int d), (5, .int x), (6, .ref (ad o 87))]) C d_L_mint_23 (by decide) rfl ?_
  refine g_iconst (v := 2) C rfl d_L_mint_25 ?_
  refine g_iret C E hr d_L_mint_26 ?_
  exact ⟨rfl, hE, ⟨_, h87', fun q => absurd q (by decide)⟩, fun j q1 q2 => hF j q1⟩
theorem w_mint3 {l : Launch} {o : Nat} {sg : Nat → va_E} {Z : ZS} (a b c d x : Int32) (hW : EW sg o Z) {g87 : Nat → Int64} (h87 : sg 87 = eJ 1 g87) {PP : (Nat → va_E) → Prop} (hT : GT l y_E_mint b_E_mint 12 (some .int) 8 144 o 88 sg [.ref (ad o 0), .int a, .int b, .int c, .int d, .int x] "java/lang/IllegalStateException" PP) (hP : ∀ s, PP s → EW s o Z ∧ efr sg s) (v : Int64) : GMW l y_L_mint b_L_mint 8 (some .int) hh_mint 9 175 1 6 o 88 88 sg [.ref (ad o 0), .int a, .int b, .int c, .int d, .int x, .ref (ad o 87)] (wPost sg o 3 v Z) := by
  have he1 : sg 0 = _ := hW.1
  refine GMW_of (by decide) (Nat.le_of_ble_eq_true rfl) ?_
  intro K C hl hr htab hNC E
  show G K o 88 sg 0 0 0 [(0, .ref (ad o 0)), (1, .int a), (2, .int b), (3, .int c), (4, .int d), (5, .int x), (6, .ref (ad o 87))] []
  subst hl
  refine g_aload C rfl d_L_mint_0 ?_
  refine g_iconst (v := 0) C rfl d_L_mint_2 ?_
  refine g_aload_n C rfl rfl d_L_mint_3 ?_
  refine g_iload_n C rfl rfl d_L_mint_4 ?_
  refine g_iload_n C rfl rfl d_L_mint_5 ?_
  refine g_iload_n C rfl rfl d_L_mint_6 ?_
  refine g_iload C rfl d_L_mint_7 ?_
  refine g_iload C rfl d_L_mint_9 ?_
  refine g_callVC C hT Y_E_mint m_339 m_340 m_338 rfl rfl ⟨by decide, by decide⟩ ⟨by decide, by decide⟩ d_L_mint_11 (by omega) he1 rfl (Nat.le_of_ble_eq_true rfl) (pre := [⟨0, 16, 19, 13⟩, ⟨0, 16, 23, 15⟩]) (x := ⟨0, 16, 27, 25⟩) (post' := []) (by rw [htab]; rfl) (List.forall_mem_cons.mpr ⟨⟨by decide, by decide, "java/lang/IndexOutOfBoundsException", m_235, by decide +kernel⟩, (List.forall_mem_cons.mpr ⟨⟨by decide, by decide, "java/lang/IllegalArgumentException", m_236, by decide +kernel⟩, (fun _ h => absurd h List.not_mem_nil)⟩)⟩) hNC (by decide) (by decide) m_337 (fun sgt xa hq => ?_)
  obtain ⟨hE, hF⟩ := hP _ hq
  have h87' := (hF 87 (by omega)).trans h87
  refine g_astore (lv' := [(7, .ref xa), (0, .ref (ad o 0)), (1, .int a), (2, .int b), (3, .int c), (4, .int d), (5, .int x), (6, .ref (ad o 87))]) C d_L_mint_27 (by decide) rfl ?_
  refine g_iconst (v := 3) C rfl d_L_mint_29 ?_
  refine g_iret C E hr d_L_mint_30 ?_
  exact ⟨rfl, hE, ⟨_, h87', fun q => absurd q (by decide)⟩, fun j q1 q2 => hF j q1⟩
abbrev hh_burn : List (Nat × Nat × Nat × Nat) := [(0, 16, 19, 13), (0, 16, 23, 15), (0, 16, 27, 30), (0, 16, 31, 25)]
theorem YW_burn : GYW y_L_burn b_L_burn 8 (some .int) hh_burn 7 := ⟨m_455, m_0, by decide, by decide, by decide +kernel⟩
theorem w_burn0 {l : Launch} {o : Nat} {sg : Nat → va_E} {Z : ZS} (a b c d x : Int32) (hW : EW sg o Z) {g87 : Nat → Int64} (h87 : sg 87 = eJ 1 g87) {v : Int32} {Z' : ZS} {PP : Option Value → (Nat → va_E) → Prop} (hM : GM l y_E_burn b_E_burn 7 (some .int) 8 144 0 0 o 88 88 sg false [.ref (ad o 0), .int a, .int b, .int c, .int d, .int x] PP) (hP : ∀ r s, PP r s → some (.int v) = r ∧ EW s o Z' ∧ efr sg s) : GMW l y_L_burn b_L_burn 8 (some .int) hh_burn 9 170 1 6 o 88 88 sg [.ref (ad o 0), .int a, .int b, .int c, .int d, .int x, .ref (ad o 87)] (wPost sg o 0 (v.toInt64) Z') := by
  have he1 : sg 0 = _ := hW.1
  refine GMW_of (by decide) (Nat.le_of_ble_eq_true rfl) ?_
  intro K C hl hr htab hNC E
  show G K o 88 sg 0 0 0 [(0, .ref (ad o 0)), (1, .int a), (2, .int b), (3, .int c), (4, .int d), (5, .int x), (6, .ref (ad o 87))] []
  subst hl
  refine g_aload C rfl d_L_burn_0 ?_
  refine g_iconst (v := 0) C rfl d_L_burn_2 ?_
  refine g_aload_n C rfl rfl d_L_burn_3 ?_
  refine g_iload_n C rfl rfl d_L_burn_4 ?_
  refine g_iload_n C rfl rfl d_L_burn_5 ?_
  refine g_iload_n C rfl rfl d_L_burn_6 ?_
  refine g_iload C rfl d_L_burn_7 ?_
  refine g_iload C rfl d_L_burn_9 ?_
  refine g_callV C (hM) Y_E_burn m_458 m_459 m_457 rfl rfl ⟨by decide, by decide⟩ ⟨by decide, by decide⟩ (fun h => nomatch h) d_L_burn_11 (by first | assumption | omega) (by repeat' first | assumption | exact up_eq _ _ _ | refine up_ne (by omega) ?_) rfl (Nat.le_of_ble_eq_true rfl) (fun ret sg11 hq => ?_)
  obtain hq := hq
  obtain ⟨rfl, hE, hF⟩ := hP _ _ hq
  have h87' := (hF 87 (by omega)).trans h87
  refine g_i2l C d_L_burn_14 ?_
  refine g_last C d_L_burn_15 (by first | assumption | omega) (by repeat' first | assumption | exact up_eq _ _ _ | refine up_ne (by omega) ?_) (vp_in_nI (n := 0) (by decide) (by decide)) ?_
  refine g_goto (tgt := 35) C d_L_burn_16 (by decide) ?_
  refine g_iconst (v := 0) C rfl d_L_burn_35 ?_
  refine g_more (c2 := 1) (s2 := 6) (by decide) (by decide) ?_
  refine g_iret C E hr d_L_burn_36 ?_
  exact ⟨rfl, EW_mv hE (fun j q => up_ne (by omega) rfl), ⟨_, up_eq _ _ _, fun _ => pk_usL⟩, fun j q1 q2 => (up_ne q2 rfl).trans (hF j q1)⟩
theorem w_burn1 {l : Launch} {o : Nat} {sg : Nat → va_E} {Z : ZS} (a b c d x : Int32) (hW : EW sg o Z) {g87 : Nat → Int64} (h87 : sg 87 = eJ 1 g87) {PP : (Nat → va_E) → Prop} (hT : GT l y_E_burn b_E_burn 7 (some .int) 8 144 o 88 sg [.ref (ad o 0), .int a, .int b, .int c, .int d, .int x] "java/lang/IndexOutOfBoundsException" PP) (hP : ∀ s, PP s → EW s o Z ∧ efr sg s) (v : Int64) : GMW l y_L_burn b_L_burn 8 (some .int) hh_burn 9 170 1 6 o 88 88 sg [.ref (ad o 0), .int a, .int b, .int c, .int d, .int x, .ref (ad o 87)] (wPost sg o 1 v Z) := by
  have he1 : sg 0 = _ := hW.1
  refine GMW_of (by decide) (Nat.le_of_ble_eq_true rfl) ?_
  intro K C hl hr htab hNC E
  show G K o 88 sg 0 0 0 [(0, .ref (ad o 0)), (1, .int a), (2, .int b), (3, .int c), (4, .int d), (5, .int x), (6, .ref (ad o 87))] []
  subst hl
  refine g_aload C rfl d_L_burn_0 ?_
  refine g_iconst (v := 0) C rfl d_L_burn_2 ?_
  refine g_aload_n C rfl rfl d_L_burn_3 ?_
  refine g_iload_n C rfl rfl d_L_burn_4 ?_
  refine g_iload_n C rfl rfl d_L_burn_5 ?_
  refine g_iload_n C rfl rfl d_L_burn_6 ?_
  refine g_iload C rfl d_L_burn_7 ?_
  refine g_iload C rfl d_L_burn_9 ?_
  refine g_callVC C hT Y_E_burn m_458 m_459 m_457 rfl rfl ⟨by decide, by decide⟩ ⟨by decide, by decide⟩ d_L_burn_11 (by omega) he1 rfl (Nat.le_of_ble_eq_true rfl) (pre := []) (x := ⟨0, 16, 19, 13⟩) (post' := [⟨0, 16, 23, 15⟩, ⟨0, 16, 27, 30⟩, ⟨0, 16, 31, 25⟩]) (by rw [htab]; rfl) (fun z hz => absurd hz List.not_mem_nil) hNC (by decide) (by decide) m_235 (fun sgt xa hq => ?_)
  obtain ⟨hE, hF⟩ := hP _ hq
  have h87' := (hF 87 (by omega)).trans h87
  refine g_astore (lv' := [(7, .ref xa), (0, .ref (ad o 0)), (1, .int a), (2, .int b), (3, .int c), (4, .int d), (5, .int x), (6, .ref (ad o 87))]) C d_L_burn_19 (by decide) rfl ?_
  refine g_iconst (v := 1) C rfl d_L_burn_21 ?_
  refine g_iret C E hr d_L_burn_22 ?_
  exact ⟨rfl, hE, ⟨_, h87', fun q => absurd q (by decide)⟩, fun j q1 q2 => hF j q1⟩
theorem w_burn2 {l : Launch} {o : Nat} {sg : Nat → va_E} {Z : ZS} (a b c d x : Int32) (hW : EW sg o Z) {g87 : Nat → Int64} (h87 : sg 87 = eJ 1 g87) {PP : (Nat → va_E) → Prop} (hT : GT l y_E_burn b_E_burn 7 (some .int) 8 144 o 88 sg [.ref (ad o 0), .int a, .int b, .int c, .int d, .int x] "java/lang/IllegalArgumentException" PP) (hP : ∀ s, PP s → EW s o Z ∧ efr sg s) (v : Int64) : GMW l y_L_burn b_L_burn 8 (some .int) hh_burn 9 170 1 6 o 88 88 sg [.ref (ad o 0), .int a, .int b, .int c, .int d, .int x, .ref (ad o 87)] (wPost sg o 2 v Z) := by
  have he1 : sg 0 = _ := hW.1
  refine GMW_of (by decide) (Nat.le_of_ble_eq_true rfl) ?_
  intro K C hl hr htab hNC E
  show G K o 88 sg 0 0 0 [(0, .ref (ad o 0)), (1, .int a), (2, .int b), (3, .int c), (4, .int d), (5, .int x), (6, .ref (ad o 87))] []
  subst hl
  refine g_aload C rfl d_L_burn_0 ?_
  refine g_iconst (v := 0) C rfl d_L_burn_2 ?_
  refine g_aload_n C rfl rfl d_L_burn_3 ?_
  refine g_iload_n C rfl rfl d_L_burn_4 ?_
  refine g_iload_n C rfl rfl d_L_burn_5 ?_
  refine g_iload_n C rfl rfl d_L_burn_6 ?_
  refine g_iload C rfl d_L_burn_7 ?_
  refine g_iload C rfl d_L_burn_9 ?_
  refine g_callVC C hT Y_E_burn m_458 m_459 m_457 rfl rfl ⟨by decide, by decide⟩ ⟨by decide, by decide⟩ d_L_burn_11 (by omega) he1 rfl (Nat.le_of_ble_eq_true rfl) (pre := [⟨0, 16, 19, 13⟩]) (x := ⟨0, 16, 23, 15⟩) (post' := [⟨0, 16, 27, 30⟩, ⟨0, 16, 31, 25⟩]) (by rw [htab]; rfl) (List.forall_mem_cons.mpr ⟨⟨by decide, by decide, "java/lang/IndexOutOfBoundsException", m_235, by decide +kernel⟩, (fun _ h => absurd h List.not_mem_nil)⟩) hNC (by decide) (by decide) m_236 (fun sgt xa hq => ?_)
  obtain ⟨hE, hF⟩ := hP _ hq
  have h87' := (hF 87 (by omega)).trans h87
  refine g_astore (lv' := [(7, .ref xa), (0, .ref (ad o 0)), (1, .int a), (2, .int b), (3, .int c), (4, .int d), (5, .int x), (6, .ref (ad o 87))]) C d_L_burn_23 (by decide) rfl ?_
  refine g_iconst (v := 2) C rfl d_L_burn_25 ?_
  refine g_iret C E hr d_L_burn_26 ?_
  exact ⟨rfl, hE, ⟨_, h87', fun q => absurd q (by decide)⟩, fun j q1 q2 => hF j q1⟩
theorem w_burn3 {l : Launch} {o : Nat} {sg : Nat → va_E} {Z : ZS} (a b c d x : Int32) (hW : EW sg o Z) {g87 : Nat → Int64} (h87 : sg 87 = eJ 1 g87) {PP : (Nat → va_E) → Prop} (hT : GT l y_E_burn b_E_burn 7 (some .int) 8 144 o 88 sg [.ref (ad o 0), .int a, .int b, .int c, .int d, .int x] "java/util/NoSuchElementException" PP) (hP : ∀ s, PP s → EW s o Z ∧ efr sg s) (v : Int64) : GMW l y_L_burn b_L_burn 8 (some .int) hh_burn 9 170 1 6 o 88 88 sg [.ref (ad o 0), .int a, .int b, .int c, .int d, .int x, .ref (ad o 87)] (wPost sg o 3 v Z) := by
  have he1 : sg 0 = _ := hW.1
  refine GMW_of (by decide) (Nat.le_of_ble_eq_true rfl) ?_
  intro K C hl hr htab hNC E
  show G K o 88 sg 0 0 0 [(0, .ref (ad o 0)), (1, .int a), (2, .int b), (3, .int c), (4, .int d), (5, .int x), (6, .ref (ad o 87))] []
  subst hl
  refine g_aload C rfl d_L_burn_0 ?_
  refine g_iconst (v := 0) C rfl d_L_burn_2 ?_
  refine g_aload_n C rfl rfl d_L_burn_3 ?_
  refine g_iload_n C rfl rfl d_L_burn_4 ?_
  refine g_iload_n C rfl rfl d_L_burn_5 ?_
  refine g_iload_n C rfl rfl d_L_burn_6 ?_
  refine g_iload C rfl d_L_burn_7 ?_
  refine g_iload C rfl d_L_burn_9 ?_
  refine g_callVC C hT Y_E_burn m_458 m_459 m_457 rfl rfl ⟨by decide, by decide⟩ ⟨by decide, by decide⟩ d_L_burn_11 (by omega) he1 rfl (Nat.le_of_ble_eq_true rfl) (pre := [⟨0, 16, 19, 13⟩, ⟨0, 16, 23, 15⟩]) (x := ⟨0, 16, 27, 30⟩) (post' := [⟨0, 16, 31, 25⟩]) (by rw [htab]; rfl) (List.forall_mem_cons.mpr ⟨⟨by decide, by decide, "java/lang/IndexOutOfBoundsException", m_235, by decide +kernel⟩, (List.forall_mem_cons.mpr ⟨⟨by decide, by decide, "java/lang/IllegalArgumentException", m_236, by decide +kernel⟩, (fun _ h => absurd h List.not_mem_nil)⟩)⟩) hNC (by decide) (by decide) m_456 (fun sgt xa hq => ?_)
  obtain ⟨hE, hF⟩ := hP _ hq
  have h87' := (hF 87 (by omega)).trans h87
  refine g_astore (lv' := [(7, .ref xa), (0, .ref (ad o 0)), (1, .int a), (2, .int b), (3, .int c), (4, .int d), (5, .int x), (6, .ref (ad o 87))]) C d_L_burn_27 (by decide) rfl ?_
  refine g_iconst (v := 3) C rfl d_L_burn_29 ?_
  refine g_iret C E hr d_L_burn_30 ?_
  exact ⟨rfl, hE, ⟨_, h87', fun q => absurd q (by decide)⟩, fun j q1 q2 => hF j q1⟩
theorem w_burn4 {l : Launch} {o : Nat} {sg : Nat → va_E} {Z : ZS} (a b c d x : Int32) (hW : EW sg o Z) {g87 : Nat → Int64} (h87 : sg 87 = eJ 1 g87) {PP : (Nat → va_E) → Prop} (hT : GT l y_E_burn b_E_burn 7 (some .int) 8 144 o 88 sg [.ref (ad o 0), .int a, .int b, .int c, .int d, .int x] "java/lang/IllegalStateException" PP) (hP : ∀ s, PP s → EW s o Z ∧ efr sg s) (v : Int64) : GMW l y_L_burn b_L_burn 8 (some .int) hh_burn 9 170 1 6 o 88 88 sg [.ref (ad o 0), .int a, .int b, .int c, .int d, .int x, .ref (ad o 87)] (wPost sg o 4 v Z) := by
  have he1 : sg 0 = _ := hW.1
  refine GMW_of (by decide) (Nat.le_of_ble_eq_true rfl) ?_
  intro K C hl hr htab hNC E
  show G K o 88 sg 0 0 0 [(0, .ref (ad o 0)), (1, .int a), (2, .int b), (3, .int c), (4, .int d), (5, .int x), (6, .ref (ad o 87))] []
  subst hl
  refine g_aload C rfl d_L_burn_0 ?_
  refine g_iconst (v := 0) C rfl d_L_burn_2 ?_
  refine g_aload_n C rfl rfl d_L_burn_3 ?_
  refine g_iload_n C rfl rfl d_L_burn_4 ?_
  refine g_iload_n C rfl rfl d_L_burn_5 ?_
  refine g_iload_n C rfl rfl d_L_burn_6 ?_
  refine g_iload C rfl d_L_burn_7 ?_
  refine g_iload C rfl d_L_burn_9 ?_
  refine g_callVC C hT Y_E_burn m_458 m_459 m_457 rfl rfl ⟨by decide, by decide⟩ ⟨by decide, by decide⟩ d_L_burn_11 (by omega) he1 rfl (Nat.le_of_ble_eq_true rfl) (pre := [⟨0, 16, 19, 13⟩, ⟨0, 16, 23, 15⟩, ⟨0, 16, 27, 30⟩]) (x := ⟨0, 16, 31, 25⟩) (post' := []) (by rw [htab]; rfl) (List.forall_mem_cons.mpr ⟨⟨by decide, by decide, "java/lang/IndexOutOfBoundsException", m_235, by decide +kernel⟩, (List.forall_mem_cons.mpr ⟨⟨by decide, by decide, "java/lang/IllegalArgumentException", m_236, by decide +kernel⟩, (List.forall_mem_cons.mpr ⟨⟨by decide, by decide, "java/util/NoSuchElementException", m_456, by decide +kernel⟩, (fun _ h => absurd h List.not_mem_nil)⟩)⟩)⟩) hNC (by decide) (by decide) m_337 (fun sgt xa hq => ?_)
  obtain ⟨hE, hF⟩ := hP _ hq
  have h87' := (hF 87 (by omega)).trans h87
  refine g_astore (lv' := [(7, .ref xa), (0, .ref (ad o 0)), (1, .int a), (2, .int b), (3, .int c), (4, .int d), (5, .int x), (6, .ref (ad o 87))]) C d_L_burn_31 (by decide) rfl ?_
  refine g_iconst (v := 4) C rfl d_L_burn_33 ?_
  refine g_iret C E hr d_L_burn_34 ?_
  exact ⟨rfl, hE, ⟨_, h87', fun q => absurd q (by decide)⟩, fun j q1 q2 => hF j q1⟩
abbrev hh_collect : List (Nat × Nat × Nat × Nat) := [(0, 13, 16, 13), (0, 13, 20, 30)]
theorem YW_collect : GYW y_L_collect b_L_collect 7 (some .int) hh_collect 6 := ⟨m_479, m_0, by decide, by decide, by decide +kernel⟩
theorem w_collect0 {l : Launch} {o : Nat} {sg : Nat → va_E} {Z : ZS} (a b c d : Int32) (hW : EW sg o Z) {g87 : Nat → Int64} (h87 : sg 87 = eJ 1 g87) {v : Int64} {Z' : ZS} {PP : Option Value → (Nat → va_E) → Prop} (hM : GM l y_E_collect b_E_collect 10 (some .long) 8 144 0 0 o 88 88 sg false [.ref (ad o 0), .int a, .int b, .int c, .int d] PP) (hP : ∀ r s, PP r s → some (.long v) = r ∧ EW s o Z' ∧ efr sg s) : GMW l y_L_collect b_L_collect 7 (some .int) hh_collect 9 173 1 6 o 88 88 sg [.ref (ad o 0), .int a, .int b, .int c, .int d, .ref (ad o 87)] (wPost sg o 0 (v) Z') := by
  have he1 : sg 0 = _ := hW.1
  refine GMW_of (by decide) (Nat.le_of_ble_eq_true rfl) ?_
  intro K C hl hr htab hNC E
  show G K o 88 sg 0 0 0 [(0, .ref (ad o 0)), (1, .int a), (2, .int b), (3, .int c), (4, .int d), (5, .ref (ad o 87))] []
  subst hl
  refine g_aload C rfl d_L_collect_0 ?_
  refine g_iconst (v := 0) C rfl d_L_collect_2 ?_
  refine g_aload_n C rfl rfl d_L_collect_3 ?_
  refine g_iload_n C rfl rfl d_L_collect_4 ?_
  refine g_iload_n C rfl rfl d_L_collect_5 ?_
  refine g_iload_n C rfl rfl d_L_collect_6 ?_
  refine g_iload C rfl d_L_collect_7 ?_
  refine g_callV C (hM) Y_E_collect m_481 m_482 m_480 rfl rfl ⟨by decide, by decide⟩ ⟨by decide, by decide⟩ (fun h => nomatch h) d_L_collect_9 (by first | assumption | omega) (by repeat' first | assumption | exact up_eq _ _ _ | refine up_ne (by omega) ?_) rfl (Nat.le_of_ble_eq_true rfl) (fun ret sg9 hq => ?_)
  obtain hq := hq
  obtain ⟨rfl, hE, hF⟩ := hP _ _ hq
  have h87' := (hF 87 (by omega)).trans h87
  refine g_last C d_L_collect_12 (by first | assumption | omega) (by repeat' first | assumption | exact up_eq _ _ _ | refine up_ne (by omega) ?_) (vp_in_nI (n := 0) (by decide) (by decide)) ?_
  refine g_goto (tgt := 24) C d_L_collect_13 (by decide) ?_
  refine g_iconst (v := 0) C rfl d_L_collect_24 ?_
  refine g_more (c2 := 1) (s2 := 6) (by decide) (by decide) ?_
  refine g_iret C E hr d_L_collect_25 ?_
  exact ⟨rfl, EW_mv hE (fun j q => up_ne (by omega) rfl), ⟨_, up_eq _ _ _, fun _ => pk_usL⟩, fun j q1 q2 => (up_ne q2 rfl).trans (hF j q1)⟩
theorem w_collect1 {l : Launch} {o : Nat} {sg : Nat → va_E} {Z : ZS} (a b c d : Int32) (hW : EW sg o Z) {g87 : Nat → Int64} (h87 : sg 87 = eJ 1 g87) {PP : (Nat → va_E) → Prop} (hT : GT l y_E_collect b_E_collect 10 (some .long) 8 144 o 88 sg [.ref (ad o 0), .int a, .int b, .int c, .int d] "java/lang/IndexOutOfBoundsException" PP) (hP : ∀ s, PP s → EW s o Z ∧ efr sg s) (v : Int64) : GMW l y_L_collect b_L_collect 7 (some .int) hh_collect 9 173 1 6 o 88 88 sg [.ref (ad o 0), .int a, .int b, .int c, .int d, .ref (ad o 87)] (wPost sg o 1 v Z) := by
  have he1 : sg 0 = _ := hW.1
  refine GMW_of (by decide) (Nat.le_of_ble_eq_true rfl) ?_
  intro K C hl hr htab hNC E
  show G K o 88 sg 0 0 0 [(0, .ref (ad o 0)), (1, .int a), (2, .int b), (3, .int c), (4, .int d), (5, .ref (ad o 87))] []
  subst hl
  refine g_aload C rfl d_L_collect_0 ?_
  refine g_iconst (v := 0) C rfl d_L_collect_2 ?_
  refine g_aload_n C rfl rfl d_L_collect_3 ?_
  refine g_iload_n C rfl rfl d_L_collect_4 ?_
  refine g_iload_n C rfl rfl d_L_collect_5 ?_
  refine g_iload_n C rfl rfl d_L_collect_6 ?_
  refine g_iload C rfl d_L_collect_7 ?_
  refine g_callVC C hT Y_E_collect m_481 m_482 m_480 rfl rfl ⟨by decide, by decide⟩ ⟨by decide, by decide⟩ d_L_collect_9 (by omega) he1 rfl (Nat.le_of_ble_eq_true rfl) (pre := []) (x := ⟨0, 13, 16, 13⟩) (post' := [⟨0, 13, 20, 30⟩]) (by rw [htab]; rfl) (fun z hz => absurd hz List.not_mem_nil) hNC (by decide) (by decide) m_235 (fun sgt xa hq => ?_)
  obtain ⟨hE, hF⟩ := hP _ hq
  have h87' := (hF 87 (by omega)).trans h87
  refine g_astore (lv' := [(6, .ref xa), (0, .ref (ad o 0)), (1, .int a), (2, .int b), (3, .int c), (4, .int d), (5, .ref (ad o 87))]) C d_L_collect_16 (by decide) rfl ?_
  refine g_iconst (v := 1) C rfl d_L_collect_18 ?_
  refine g_iret C E hr d_L_collect_19 ?_
  exact ⟨rfl, hE, ⟨_, h87', fun q => absurd q (by decide)⟩, fun j q1 q2 => hF j q1⟩
theorem w_collect2 {l : Launch} {o : Nat} {sg : Nat → va_E} {Z : ZS} (a b c d : Int32) (hW : EW sg o Z) {g87 : Nat → Int64} (h87 : sg 87 = eJ 1 g87) {PP : (Nat → va_E) → Prop} (hT : GT l y_E_collect b_E_collect 10 (some .long) 8 144 o 88 sg [.ref (ad o 0), .int a, .int b, .int c, .int d] "java/util/NoSuchElementException" PP) (hP : ∀ s, PP s → EW s o Z ∧ efr sg s) (v : Int64) : GMW l y_L_collect b_L_collect 7 (some .int) hh_collect 9 173 1 6 o 88 88 sg [.ref (ad o 0), .int a, .int b, .int c, .int d, .ref (ad o 87)] (wPost sg o 2 v Z) := by
  have he1 : sg 0 = _ := hW.1
  refine GMW_of (by decide) (Nat.le_of_ble_eq_true rfl) ?_
  intro K C hl hr htab hNC E
  show G K o 88 sg 0 0 0 [(0, .ref (ad o 0)), (1, .int a), (2, .int b), (3, .int c), (4, .int d), (5, .ref (ad o 87))] []
  subst hl
  refine g_aload C rfl d_L_collect_0 ?_
  refine g_iconst (v := 0) C rfl d_L_collect_2 ?_
  refine g_aload_n C rfl rfl d_L_collect_3 ?_
  refine g_iload_n C rfl rfl d_L_collect_4 ?_
  refine g_iload_n C rfl rfl d_L_collect_5 ?_
  refine g_iload_n C rfl rfl d_L_collect_6 ?_
  refine g_iload C rfl d_L_collect_7 ?_
  refine g_callVC C hT Y_E_collect m_481 m_482 m_480 rfl rfl ⟨by decide, by decide⟩ ⟨by decide, by decide⟩ d_L_collect_9 (by omega) he1 rfl (Nat.le_of_ble_eq_true rfl) (pre := [⟨0, 13, 16, 13⟩]) (x := ⟨0, 13, 20, 30⟩) (post' := []) (by rw [htab]; rfl) (List.forall_mem_cons.mpr ⟨⟨by decide, by decide, "java/lang/IndexOutOfBoundsException", m_235, by decide +kernel⟩, (fun _ h => absurd h List.not_mem_nil)⟩) hNC (by decide) (by decide) m_456 (fun sgt xa hq => ?_)
  obtain ⟨hE, hF⟩ := hP _ hq
  have h87' := (hF 87 (by omega)).trans h87
  refine g_astore (lv' := [(6, .ref xa), (0, .ref (ad o 0)), (1, .int a), (2, .int b), (3, .int c), (4, .int d), (5, .ref (ad o 87))]) C d_L_collect_20 (by decide) rfl ?_
  refine g_iconst (v := 2) C rfl d_L_collect_22 ?_
  refine g_iret C E hr d_L_collect_23 ?_
  exact ⟨rfl, hE, ⟨_, h87', fun q => absurd q (by decide)⟩, fun j q1 q2 => hF j q1⟩
abbrev hh_swap : List (Nat × Nat × Nat × Nat) := [(0, 15, 18, 13), (0, 15, 22, 15), (0, 15, 26, 25)]
theorem YW_swap : GYW y_L_swap b_L_swap 8 (some .int) hh_swap 7 := ⟨m_490, m_0, by decide, by decide, by decide +kernel⟩
theorem w_swap0 {l : Launch} {o : Nat} {sg : Nat → va_E} {Z : ZS} (a b c d x : Int32) (hW : EW sg o Z) {g87 : Nat → Int64} (h87 : sg 87 = eJ 1 g87) {v : Int64} {Z' : ZS} {PP : Option Value → (Nat → va_E) → Prop} (hM : GM l y_E_swap b_E_swap 8 (some .long) 7 172 0 0 o 88 88 sg false [.ref (ad o 0), .int a, .int b, .int c, .int d, .int x] PP) (hP : ∀ r s, PP r s → some (.long v) = r ∧ EW s o Z' ∧ efr sg s) : GMW l y_L_swap b_L_swap 8 (some .int) hh_swap 8 199 1 6 o 88 88 sg [.ref (ad o 0), .int a, .int b, .int c, .int d, .int x, .ref (ad o 87)] (wPost sg o 0 (v) Z') := by
  have he1 : sg 0 = _ := hW.1
  refine GMW_of (by decide) (Nat.le_of_ble_eq_true rfl) ?_
  intro K C hl hr htab hNC E
  show G K o 88 sg 0 0 0 [(0, .ref (ad o 0)), (1, .int a), (2, .int b), (3, .int c), (4, .int d), (5, .int x), (6, .ref (ad o 87))] []
  subst hl
  refine g_aload C rfl d_L_swap_0 ?_
  refine g_iconst (v := 0) C rfl d_L_swap_2 ?_
  refine g_aload_n C rfl rfl d_L_swap_3 ?_
  refine g_iload_n C rfl rfl d_L_swap_4 ?_
  refine g_iload_n C rfl rfl d_L_swap_5 ?_
  refine g_iload_n C rfl rfl d_L_swap_6 ?_
  refine g_iload C rfl d_L_swap_7 ?_
  refine g_iload C rfl d_L_swap_9 ?_
  refine g_callV C (hM) Y_E_swap m_492 m_493 m_491 rfl rfl ⟨by decide, by decide⟩ ⟨by decide, by decide⟩ (fun h => nomatch h) d_L_swap_11 (by first | assumption | omega) (by repeat' first | assumption | exact up_eq _ _ _ | refine up_ne (by omega) ?_) rfl (Nat.le_of_ble_eq_true rfl) (fun ret sg11 hq => ?_)
  obtain hq := hq
  obtain ⟨rfl, hE, hF⟩ := hP _ _ hq
  have h87' := (hF 87 (by omega)).trans h87
  refine g_last C d_L_swap_14 (by first | assumption | omega) (by repeat' first | assumption | exact up_eq _ _ _ | refine up_ne (by omega) ?_) (vp_in_nI (n := 0) (by decide) (by decide)) ?_
  refine g_goto (tgt := 30) C d_L_swap_15 (by decide) ?_
  refine g_iconst (v := 0) C rfl d_L_swap_30 ?_
  refine g_more (c2 := 1) (s2 := 6) (by decide) (by decide) ?_
  refine g_iret C E hr d_L_swap_31 ?_
  exact ⟨rfl, EW_mv hE (fun j q => up_ne (by omega) rfl), ⟨_, up_eq _ _ _, fun _ => pk_usL⟩, fun j q1 q2 => (up_ne q2 rfl).trans (hF j q1)⟩
theorem w_swap1 {l : Launch} {o : Nat} {sg : Nat → va_E} {Z : ZS} (a b c d x : Int32) (hW : EW sg o Z) {g87 : Nat → Int64} (h87 : sg 87 = eJ 1 g87) {PP : (Nat → va_E) → Prop} (hT : GT l y_E_swap b_E_swap 8 (some .long) 7 172 o 88 sg [.ref (ad o 0), .int a, .int b, .int c, .int d, .int x] "java/lang/IndexOutOfBoundsException" PP) (hP : ∀ s, PP s → EW s o Z ∧ efr sg s) (v : Int64) : GMW l y_L_swap b_L_swap 8 (some .int) hh_swap 8 199 1 6 o 88 88 sg [.ref (ad o 0), .int a, .int b, .int c, .int d, .int x, .ref (ad o 87)] (wPost sg o 1 v Z) := by
  have he1 : sg 0 = _ := hW.1
  refine GMW_of (by decide) (Nat.le_of_ble_eq_true rfl) ?_
  intro K C hl hr htab hNC E
  show G K o 88 sg 0 0 0 [(0, .ref (ad o 0)), (1, .int a), (2, .int b), (3, .int c), (4, .int d), (5, .int x), (6, .ref (ad o 87))] []
  subst hl
  refine g_aload C rfl d_L_swap_0 ?_
  refine g_iconst (v := 0) C rfl d_L_swap_2 ?_
  refine g_aload_n C rfl rfl d_L_swap_3 ?_
  refine g_iload_n C rfl rfl d_L_swap_4 ?_
  refine g_iload_n C rfl rfl d_L_swap_5 ?_
  refine g_iload_n C rfl rfl d_L_swap_6 ?_
  refine g_iload C rfl d_L_swap_7 ?_
  refine g_iload C rfl d_L_swap_9 ?_
  refine g_callVC C hT Y_E_swap m_492 m_493 m_491 rfl rfl ⟨by decide, by decide⟩ ⟨by decide, by decide⟩ d_L_swap_11 (by omega) he1 rfl (Nat.le_of_ble_eq_true rfl) (pre := []) (x := ⟨0, 15, 18, 13⟩) (post' := [⟨0, 15, 22, 15⟩, ⟨0, 15, 26, 25⟩]) (by rw [htab]; rfl) (fun z hz => absurd hz List.not_mem_nil) hNC (by decide) (by decide) m_235 (fun sgt xa hq => ?_)
  obtain ⟨hE, hF⟩ := hP _ hq
  have h87' := (hF 87 (by omega)).trans h87
  refine g_astore (lv' := [(7, .ref xa), (0, .ref (ad o 0)), (1, .int a), (2, .int b), (3, .int c), (4, .int d), (5, .int x), (6, .ref (ad o 87))]) C d_L_swap_18 (by decide) rfl ?_
  refine g_iconst (v := 1) C rfl d_L_swap_20 ?_
  refine g_iret C E hr d_L_swap_21 ?_
  exact ⟨rfl, hE, ⟨_, h87', fun q => absurd q (by decide)⟩, fun j q1 q2 => hF j q1⟩
theorem w_swap2 {l : Launch} {o : Nat} {sg : Nat → va_E} {Z : ZS} (a b c d x : Int32) (hW : EW sg o Z) {g87 : Nat → Int64} (h87 : sg 87 = eJ 1 g87) {PP : (Nat → va_E) → Prop} (hT : GT l y_E_swap b_E_swap 8 (some .long) 7 172 o 88 sg [.ref (ad o 0), .int a, .int b, .int c, .int d, .int x] "java/lang/IllegalArgumentException" PP) (hP : ∀ s, PP s → EW s o Z ∧ efr sg s) (v : Int64) : GMW l y_L_swap b_L_swap 8 (some .int) hh_swap 8 199 1 6 o 88 88 sg [.ref (ad o 0), .int a, .int b, .int c, .int d, .int x, .ref (ad o 87)] (wPost sg o 2 v Z) := by
  have he1 : sg 0 = _ := hW.1
  refine GMW_of (by decide) (Nat.le_of_ble_eq_true rfl) ?_
  intro K C hl hr htab hNC E
  show G K o 88 sg 0 0 0 [(0, .ref (ad o 0)), (1, .int a), (2, .int b), (3, .int c), (4, .int d), (5, .int x), (6, .ref (ad o 87))] []
  subst hl
  refine g_aload C rfl d_L_swap_0 ?_
  refine g_iconst (v := 0) C rfl d_L_swap_2 ?_
  refine g_aload_n C rfl rfl d_L_swap_3 ?_
  refine g_iload_n C rfl rfl d_L_swap_4 ?_
  refine g_iload_n C rfl rfl d_L_swap_5 ?_
  refine g_iload_n C rfl rfl d_L_swap_6 ?_
  refine g_iload C rfl d_L_swap_7 ?_
  refine g_iload C rfl d_L_swap_9 ?_
  refine g_callVC C hT Y_E_swap m_492 m_493 m_491 rfl rfl ⟨by decide, by decide⟩ ⟨by decide, by decide⟩ d_L_swap_11 (by omega) he1 rfl (Nat.le_of_ble_eq_true rfl) (pre := [⟨0, 15, 18, 13⟩]) (x := ⟨0, 15, 22, 15⟩) (post' := [⟨0, 15, 26, 25⟩]) (by rw [htab]; rfl) (List.forall_mem_cons.mpr ⟨⟨by decide, by decide, "java/lang/IndexOutOfBoundsException", m_235, by decide +kernel⟩, (fun _ h => absurd h List.not_mem_nil)⟩) hNC (by decide) (by decide) m_236 (fun sgt xa hq => ?_)
  obtain ⟨hE, hF⟩ := hP _ hq
  have h87' := (hF 87 (by omega)).trans h87
  refine g_astore (lv' := [(7, .ref xa), (0, .ref (ad o 0)), (1, .int a), (2, .int b), (3, .int c), (4, .int d), (5, .int x), (6, .ref (ad o 87))]) C d_L_swap_22 (by decide) rfl ?_
  refine g_iconst (v := 2) C rfl d_L_swap_24 ?_
  refine g_iret C E hr d_L_swap_25 ?_
  exact ⟨rfl, hE, ⟨_, h87', fun q => absurd q (by decide)⟩, fun j q1 q2 => hF j q1⟩
theorem w_swap3 {l : Launch} {o : Nat} {sg : Nat → va_E} {Z : ZS} (a b c d x : Int32) (hW : EW sg o Z) {g87 : Nat → Int64} (h87 : sg 87 = eJ 1 g87) {PP : (Nat → va_E) → Prop} (hT : GT l y_E_swap b_E_swap 8 (some .long) 7 172 o 88 sg [.ref (ad o 0), .int a, .int b, .int c, .int d, .int x] "java/lang/IllegalStateException" PP) (hP : ∀ s, PP s → EW s o Z ∧ efr sg s) (v : Int64) : GMW l y_L_swap b_L_swap 8 (some .int) hh_swap 8 199 1 6 o 88 88 sg [.ref (ad o 0), .int a, .int b, .int c, .int d, .int x, .ref (ad o 87)] (wPost sg o 3 v Z) := by
  have he1 : sg 0 = _ := hW.1
  refine GMW_of (by decide) (Nat.le_of_ble_eq_true rfl) ?_
  intro K C hl hr htab hNC E
  show G K o 88 sg 0 0 0 [(0, .ref (ad o 0)), (1, .int a), (2, .int b), (3, .int c), (4, .int d), (5, .int x), (6, .ref (ad o 87))] []
  subst hl
  refine g_aload C rfl d_L_swap_0 ?_
  refine g_iconst (v := 0) C rfl d_L_swap_2 ?_
  refine g_aload_n C rfl rfl d_L_swap_3 ?_
  refine g_iload_n C rfl rfl d_L_swap_4 ?_
  refine g_iload_n C rfl rfl d_L_swap_5 ?_
  refine g_iload_n C rfl rfl d_L_swap_6 ?_
  refine g_iload C rfl d_L_swap_7 ?_
  refine g_iload C rfl d_L_swap_9 ?_
  refine g_callVC C hT Y_E_swap m_492 m_493 m_491 rfl rfl ⟨by decide, by decide⟩ ⟨by decide, by decide⟩ d_L_swap_11 (by omega) he1 rfl (Nat.le_of_ble_eq_true rfl) (pre := [⟨0, 15, 18, 13⟩, ⟨0, 15, 22, 15⟩]) (x := ⟨0, 15, 26, 25⟩) (post' := []) (by rw [htab]; rfl) (List.forall_mem_cons.mpr ⟨⟨by decide, by decide, "java/lang/IndexOutOfBoundsException", m_235, by decide +kernel⟩, (List.forall_mem_cons.mpr ⟨⟨by decide, by decide, "java/lang/IllegalArgumentException", m_236, by decide +kernel⟩, (fun _ h => absurd h List.not_mem_nil)⟩)⟩) hNC (by decide) (by decide) m_337 (fun sgt xa hq => ?_)
  obtain ⟨hE, hF⟩ := hP _ hq
  have h87' := (hF 87 (by omega)).trans h87
  refine g_astore (lv' := [(7, .ref xa), (0, .ref (ad o 0)), (1, .int a), (2, .int b), (3, .int c), (4, .int d), (5, .int x), (6, .ref (ad o 87))]) C d_L_swap_26 (by decide) rfl ?_
  refine g_iconst (v := 3) C rfl d_L_swap_28 ?_
  refine g_iret C E hr d_L_swap_29 ?_
  exact ⟨rfl, hE, ⟨_, h87', fun q => absurd q (by decide)⟩, fun j q1 q2 => hF j q1⟩
abbrev hh_route : List (Nat × Nat × Nat × Nat) := [(0, 11, 14, 13), (0, 11, 18, 15), (0, 11, 22, 25)]
theorem YW_route : GYW y_L_route b_L_route 6 (some .int) hh_route 5 := ⟨m_594, m_0, by decide, by decide, by decide +kernel⟩
theorem w_route0 {l : Launch} {o : Nat} {sg : Nat → va_E} {Z : ZS} (a b c : Int32) (hW : EW sg o Z) {g87 : Nat → Int64} (h87 : sg 87 = eJ 1 g87) {v : Int64} {Z' : ZS} {PP : Option Value → (Nat → va_E) → Prop} (hM : GM l y_E_route b_E_route 6 (some .long) 7 172 0 0 o 88 88 sg false [.ref (ad o 0), .int a, .int b, .int c] PP) (hP : ∀ r s, PP r s → some (.long v) = r ∧ EW s o Z' ∧ efr sg s) : GMW l y_L_route b_L_route 6 (some .int) hh_route 8 197 1 6 o 88 88 sg [.ref (ad o 0), .int a, .int b, .int c, .ref (ad o 87)] (wPost sg o 0 (v) Z') := by
  have he1 : sg 0 = _ := hW.1
  refine GMW_of (by decide) (Nat.le_of_ble_eq_true rfl) ?_
  intro K C hl hr htab hNC E
  show G K o 88 sg 0 0 0 [(0, .ref (ad o 0)), (1, .int a), (2, .int b), (3, .int c), (4, .ref (ad o 87))] []
  subst hl
  refine g_aload C rfl d_L_route_0 ?_
  refine g_iconst (v := 0) C rfl d_L_route_2 ?_
  refine g_aload_n C rfl rfl d_L_route_3 ?_
  refine g_iload_n C rfl rfl d_L_route_4 ?_
  refine g_iload_n C rfl rfl d_L_route_5 ?_
  refine g_iload_n C rfl rfl d_L_route_6 ?_
  refine g_callV C (hM) Y_E_route m_596 m_597 m_595 rfl rfl ⟨by decide, by decide⟩ ⟨by decide, by decide⟩ (fun h => nomatch h) d_L_route_7 (by first | assumption | omega) (by repeat' first | assumption | exact up_eq _ _ _ | refine up_ne (by omega) ?_) rfl (Nat.le_of_ble_eq_true rfl) (fun ret sg7 hq => ?_)
  obtain hq := hq
  obtain ⟨rfl, hE, hF⟩ := hP _ _ hq
  have h87' := (hF 87 (by omega)).trans h87
  refine g_last C d_L_route_10 (by first | assumption | omega) (by repeat' first | assumption | exact up_eq _ _ _ | refine up_ne (by omega) ?_) (vp_in_nI (n := 0) (by decide) (by decide)) ?_
  refine g_goto (tgt := 26) C d_L_route_11 (by decide) ?_
  refine g_iconst (v := 0) C rfl d_L_route_26 ?_
  refine g_more (c2 := 1) (s2 := 6) (by decide) (by decide) ?_
  refine g_iret C E hr d_L_route_27 ?_
  exact ⟨rfl, EW_mv hE (fun j q => up_ne (by omega) rfl), ⟨_, up_eq _ _ _, fun _ => pk_usL⟩, fun j q1 q2 => (up_ne q2 rfl).trans (hF j q1)⟩
theorem w_route1 {l : Launch} {o : Nat} {sg : Nat → va_E} {Z : ZS} (a b c : Int32) (hW : EW sg o Z) {g87 : Nat → Int64} (h87 : sg 87 = eJ 1 g87) {PP : (Nat → va_E) → Prop} (hT : GT l y_E_route b_E_route 6 (some .long) 7 172 o 88 sg [.ref (ad o 0), .int a, .int b, .int c] "java/lang/IndexOutOfBoundsException" PP) (hP : ∀ s, PP s → EW s o Z ∧ efr sg s) (v : Int64) : GMW l y_L_route b_L_route 6 (some .int) hh_route 8 197 1 6 o 88 88 sg [.ref (ad o 0), .int a, .int b, .int c, .ref (ad o 87)] (wPost sg o 1 v Z) := by
  have he1 : sg 0 = _ := hW.1
  refine GMW_of (by decide) (Nat.le_of_ble_eq_true rfl) ?_
  intro K C hl hr htab hNC E
  show G K o 88 sg 0 0 0 [(0, .ref (ad o 0)), (1, .int a), (2, .int b), (3, .int c), (4, .ref (ad o 87))] []
  subst hl
  refine g_aload C rfl d_L_route_0 ?_
  refine g_iconst (v := 0) C rfl d_L_route_2 ?_
  refine g_aload_n C rfl rfl d_L_route_3 ?_
  refine g_iload_n C rfl rfl d_L_route_4 ?_
  refine g_iload_n C rfl rfl d_L_route_5 ?_
  refine g_iload_n C rfl rfl d_L_route_6 ?_
  refine g_callVC C hT Y_E_route m_596 m_597 m_595 rfl rfl ⟨by decide, by decide⟩ ⟨by decide, by decide⟩ d_L_route_7 (by omega) he1 rfl (Nat.le_of_ble_eq_true rfl) (pre := []) (x := ⟨0, 11, 14, 13⟩) (post' := [⟨0, 11, 18, 15⟩, ⟨0, 11, 22, 25⟩]) (by rw [htab]; rfl) (fun z hz => absurd hz List.not_mem_nil) hNC (by decide) (by decide) m_235 (fun sgt xa hq => ?_)
  obtain ⟨hE, hF⟩ := hP _ hq
  have h87' := (hF 87 (by omega)).trans h87
  refine g_astore (lv' := [(5, .ref xa), (0, .ref (ad o 0)), (1, .int a), (2, .int b), (3, .int c), (4, .ref (ad o 87))]) C d_L_route_14 (by decide) rfl ?_
  refine g_iconst (v := 1) C rfl d_L_route_16 ?_
  refine g_iret C E hr d_L_route_17 ?_
  exact ⟨rfl, hE, ⟨_, h87', fun q => absurd q (by decide)⟩, fun j q1 q2 => hF j q1⟩
theorem w_route2 {l : Launch} {o : Nat} {sg : Nat → va_E} {Z : ZS} (a b c : Int32) (hW : EW sg o Z) {g87 : Nat → Int64} (h87 : sg 87 = eJ 1 g87) {PP : (Nat → va_E) → Prop} (hT : GT l y_E_route b_E_route 6 (some .long) 7 172 o 88 sg [.ref (ad o 0), .int a, .int b, .int c] "java/lang/IllegalArgumentException" PP) (hP : ∀ s, PP s → EW s o Z ∧ efr sg s) (v : Int64) : GMW l y_L_route b_L_route 6 (some .int) hh_route 8 197 1 6 o 88 88 sg [.ref (ad o 0), .int a, .int b, .int c, .ref (ad o 87)] (wPost sg o 2 v Z) := by
  have he1 : sg 0 = _ := hW.1
  refine GMW_of (by decide) (Nat.le_of_ble_eq_true rfl) ?_
  intro K C hl hr htab hNC E
  show G K o 88 sg 0 0 0 [(0, .ref (ad o 0)), (1, .int a), (2, .int b), (3, .int c), (4, .ref (ad o 87))] []
  subst hl
  refine g_aload C rfl d_L_route_0 ?_
  refine g_iconst (v := 0) C rfl d_L_route_2 ?_
  refine g_aload_n C rfl rfl d_L_route_3 ?_
  refine g_iload_n C rfl rfl d_L_route_4 ?_
  refine g_iload_n C rfl rfl d_L_route_5 ?_
  refine g_iload_n C rfl rfl d_L_route_6 ?_
  refine g_callVC C hT Y_E_route m_596 m_597 m_595 rfl rfl ⟨by decide, by decide⟩ ⟨by decide, by decide⟩ d_L_route_7 (by omega) he1 rfl (Nat.le_of_ble_eq_true rfl) (pre := [⟨0, 11, 14, 13⟩]) (x := ⟨0, 11, 18, 15⟩) (post' := [⟨0, 11, 22, 25⟩]) (by rw [htab]; rfl) (List.forall_mem_cons.mpr ⟨⟨by decide, by decide, "java/lang/IndexOutOfBoundsException", m_235, by decide +kernel⟩, (fun _ h => absurd h List.not_mem_nil)⟩) hNC (by decide) (by decide) m_236 (fun sgt xa hq => ?_)
  obtain ⟨hE, hF⟩ := hP _ hq
  have h87' := (hF 87 (by omega)).trans h87
  refine g_astore (lv' := [(5, .ref xa), (0, .ref (ad o 0)), (1, .int a), (2, .int b), (3, .int c), (4, .ref (ad o 87))]) C d_L_route_18 (by decide) rfl ?_
  refine g_iconst (v := 2) C rfl d_L_route_20 ?_
  refine g_iret C E hr d_L_route_21 ?_
  exact ⟨rfl, hE, ⟨_, h87', fun q => absurd q (by decide)⟩, fun j q1 q2 => hF j q1⟩
theorem w_route3 {l : Launch} {o : Nat} {sg : Nat → va_E} {Z : ZS} (a b c : Int32) (hW : EW sg o Z) {g87 : Nat → Int64} (h87 : sg 87 = eJ 1 g87) {PP : (Nat → va_E) → Prop} (hT : GT l y_E_route b_E_route 6 (some .long) 7 172 o 88 sg [.ref (ad o 0), .int a, .int b, .int c] "java/lang/IllegalStateException" PP) (hP : ∀ s, PP s → EW s o Z ∧ efr sg s) (v : Int64) : GMW l y_L_route b_L_route 6 (some .int) hh_route 8 197 1 6 o 88 88 sg [.ref (ad o 0), .int a, .int b, .int c, .ref (ad o 87)] (wPost sg o 3 v Z) := by
  have he1 : sg 0 = _ := hW.1
  refine GMW_of (by decide) (Nat.le_of_ble_eq_true rfl) ?_
  intro K C hl hr htab hNC E
  show G K o 88 sg 0 0 0 [(0, .ref (ad o 0)), (1, .int a), (2, .int b), (3, .int c), (4, .ref (ad o 87))] []
  subst hl
  refine g_aload C rfl d_L_route_0 ?_
  refine g_iconst (v := 0) C rfl d_L_route_2 ?_
  refine g_aload_n C rfl rfl d_L_route_3 ?_
  refine g_iload_n C rfl rfl d_L_route_4 ?_
  refine g_iload_n C rfl rfl d_L_route_5 ?_
  refine g_iload_n C rfl rfl d_L_route_6 ?_
  refine g_callVC C hT Y_E_route m_596 m_597 m_595 rfl rfl ⟨by decide, by decide⟩ ⟨by decide, by decide⟩ d_L_route_7 (by omega) he1 rfl (Nat.le_of_ble_eq_true rfl) (pre := [⟨0, 11, 14, 13⟩, ⟨0, 11, 18, 15⟩]) (x := ⟨0, 11, 22, 25⟩) (post' := []) (by rw [htab]; rfl) (List.forall_mem_cons.mpr ⟨⟨by decide, by decide, "java/lang/IndexOutOfBoundsException", m_235, by decide +kernel⟩, (List.forall_mem_cons.mpr ⟨⟨by decide, by decide, "java/lang/IllegalArgumentException", m_236, by decide +kernel⟩, (fun _ h => absurd h List.not_mem_nil)⟩)⟩) hNC (by decide) (by decide) m_337 (fun sgt xa hq => ?_)
  obtain ⟨hE, hF⟩ := hP _ hq
  have h87' := (hF 87 (by omega)).trans h87
  refine g_astore (lv' := [(5, .ref xa), (0, .ref (ad o 0)), (1, .int a), (2, .int b), (3, .int c), (4, .ref (ad o 87))]) C d_L_route_22 (by decide) rfl ?_
  refine g_iconst (v := 3) C rfl d_L_route_24 ?_
  refine g_iret C E hr d_L_route_25 ?_
  exact ⟨rfl, hE, ⟨_, h87', fun q => absurd q (by decide)⟩, fun j q1 q2 => hF j q1⟩
abbrev hh_price : List (Nat × Nat × Nat × Nat) := [(0, 8, 11, 13)]
theorem YW_price : GYW y_L_price b_L_price 4 (some .int) hh_price 3 := ⟨m_601, m_0, by decide, by decide, by decide +kernel⟩
theorem w_price0 {l : Launch} {o : Nat} {sg : Nat → va_E} {Z : ZS} (a : Int32) (hW : EW sg o Z) {g87 : Nat → Int64} (h87 : sg 87 = eJ 1 g87) {v : Int64} {Z' : ZS} {PP : Option Value → (Nat → va_E) → Prop} (hM : GM l y_E_price b_E_price 2 (some .long) 7 121 0 0 o 88 88 sg false [.ref (ad o 0), .int a] PP) (hP : ∀ r s, PP r s → some (.long v) = r ∧ EW s o Z' ∧ efr sg s) : GMW l y_L_price b_L_price 4 (some .int) hh_price 8 142 1 6 o 88 88 sg [.ref (ad o 0), .int a, .ref (ad o 87)] (wPost sg o 0 (v) Z') := by
  have he1 : sg 0 = _ := hW.1
  refine GMW_of (by decide) (Nat.le_of_ble_eq_true rfl) ?_
  intro K C hl hr htab hNC E
  show G K o 88 sg 0 0 0 [(0, .ref (ad o 0)), (1, .int a), (2, .ref (ad o 87))] []
  subst hl
  refine g_aload_n C rfl rfl d_L_price_0 ?_
  refine g_iconst (v := 0) C rfl d_L_price_1 ?_
  refine g_aload_n C rfl rfl d_L_price_2 ?_
  refine g_iload_n C rfl rfl d_L_price_3 ?_
  refine g_callV C (hM) Y_E_price m_603 m_604 m_602 rfl rfl ⟨by decide, by decide⟩ ⟨by decide, by decide⟩ (fun h => nomatch h) d_L_price_4 (by first | assumption | omega) (by repeat' first | assumption | exact up_eq _ _ _ | refine up_ne (by omega) ?_) rfl (Nat.le_of_ble_eq_true rfl) (fun ret sg4 hq => ?_)
  obtain hq := hq
  obtain ⟨rfl, hE, hF⟩ := hP _ _ hq
  have h87' := (hF 87 (by omega)).trans h87
  refine g_last C d_L_price_7 (by first | assumption | omega) (by repeat' first | assumption | exact up_eq _ _ _ | refine up_ne (by omega) ?_) (vp_in_nI (n := 0) (by decide) (by decide)) ?_
  refine g_goto (tgt := 14) C d_L_price_8 (by decide) ?_
  refine g_iconst (v := 0) C rfl d_L_price_14 ?_
  refine g_more (c2 := 1) (s2 := 6) (by decide) (by decide) ?_
  refine g_iret C E hr d_L_price_15 ?_
  exact ⟨rfl, EW_mv hE (fun j q => up_ne (by omega) rfl), ⟨_, up_eq _ _ _, fun _ => pk_usL⟩, fun j q1 q2 => (up_ne q2 rfl).trans (hF j q1)⟩
theorem w_price1 {l : Launch} {o : Nat} {sg : Nat → va_E} {Z : ZS} (a : Int32) (hW : EW sg o Z) {g87 : Nat → Int64} (h87 : sg 87 = eJ 1 g87) {PP : (Nat → va_E) → Prop} (hT : GT l y_E_price b_E_price 2 (some .long) 7 121 o 88 sg [.ref (ad o 0), .int a] "java/lang/IndexOutOfBoundsException" PP) (hP : ∀ s, PP s → EW s o Z ∧ efr sg s) (v : Int64) : GMW l y_L_price b_L_price 4 (some .int) hh_price 8 142 1 6 o 88 88 sg [.ref (ad o 0), .int a, .ref (ad o 87)] (wPost sg o 1 v Z) := by
  have he1 : sg 0 = _ := hW.1
  refine GMW_of (by decide) (Nat.le_of_ble_eq_true rfl) ?_
  intro K C hl hr htab hNC E
  show G K o 88 sg 0 0 0 [(0, .ref (ad o 0)), (1, .int a), (2, .ref (ad o 87))] []
  subst hl
  refine g_aload_n C rfl rfl d_L_price_0 ?_
  refine g_iconst (v := 0) C rfl d_L_price_1 ?_
  refine g_aload_n C rfl rfl d_L_price_2 ?_
  refine g_iload_n C rfl rfl d_L_price_3 ?_
  refine g_callVC C hT Y_E_price m_603 m_604 m_602 rfl rfl ⟨by decide, by decide⟩ ⟨by decide, by decide⟩ d_L_price_4 (by omega) he1 rfl (Nat.le_of_ble_eq_true rfl) (pre := []) (x := ⟨0, 8, 11, 13⟩) (post' := []) (by rw [htab]; rfl) (fun z hz => absurd hz List.not_mem_nil) hNC (by decide) (by decide) m_235 (fun sgt xa hq => ?_)
  obtain ⟨hE, hF⟩ := hP _ hq
  have h87' := (hF 87 (by omega)).trans h87
  refine g_astore_n (lv' := [(3, .ref xa), (0, .ref (ad o 0)), (1, .int a), (2, .ref (ad o 87))]) C d_L_price_11 rfl (by decide) rfl ?_
  refine g_iconst (v := 1) C rfl d_L_price_12 ?_
  refine g_iret C E hr d_L_price_13 ?_
  exact ⟨rfl, hE, ⟨_, h87', fun q => absurd q (by decide)⟩, fun j q1 q2 => hF j q1⟩
abbrev hh_tick : List (Nat × Nat × Nat × Nat) := [(0, 9, 12, 13)]
theorem YW_tick : GYW y_L_tick b_L_tick 4 (some .int) hh_tick 3 := ⟨m_608, m_0, by decide, by decide, by decide +kernel⟩
theorem w_tick0 {l : Launch} {o : Nat} {sg : Nat → va_E} {Z : ZS} (a : Int32) (hW : EW sg o Z) {g87 : Nat → Int64} (h87 : sg 87 = eJ 1 g87) {v : Int32} {Z' : ZS} {PP : Option Value → (Nat → va_E) → Prop} (hM : GM l y_E_tick b_E_tick 2 (some .int) 7 121 0 0 o 88 88 sg false [.ref (ad o 0), .int a] PP) (hP : ∀ r s, PP r s → some (.int v) = r ∧ EW s o Z' ∧ efr sg s) : GMW l y_L_tick b_L_tick 4 (some .int) hh_tick 8 142 1 6 o 88 88 sg [.ref (ad o 0), .int a, .ref (ad o 87)] (wPost sg o 0 (v.toInt64) Z') := by
  have he1 : sg 0 = _ := hW.1
  refine GMW_of (by decide) (Nat.le_of_ble_eq_true rfl) ?_
  intro K C hl hr htab hNC E
  show G K o 88 sg 0 0 0 [(0, .ref (ad o 0)), (1, .int a), (2, .ref (ad o 87))] []
  subst hl
  refine g_aload_n C rfl rfl d_L_tick_0 ?_
  refine g_iconst (v := 0) C rfl d_L_tick_1 ?_
  refine g_aload_n C rfl rfl d_L_tick_2 ?_
  refine g_iload_n C rfl rfl d_L_tick_3 ?_
  refine g_callV C (hM) Y_E_tick m_610 m_611 m_609 rfl rfl ⟨by decide, by decide⟩ ⟨by decide, by decide⟩ (fun h => nomatch h) d_L_tick_4 (by first | assumption | omega) (by repeat' first | assumption | exact up_eq _ _ _ | refine up_ne (by omega) ?_) rfl (Nat.le_of_ble_eq_true rfl) (fun ret sg4 hq => ?_)
  obtain hq := hq
  obtain ⟨rfl, hE, hF⟩ := hP _ _ hq
  have h87' := (hF 87 (by omega)).trans h87
  refine g_i2l C d_L_tick_7 ?_
  refine g_last C d_L_tick_8 (by first | assumption | omega) (by repeat' first | assumption | exact up_eq _ _ _ | refine up_ne (by omega) ?_) (vp_in_nI (n := 0) (by decide) (by decide)) ?_
  refine g_goto (tgt := 15) C d_L_tick_9 (by decide) ?_
  refine g_iconst (v := 0) C rfl d_L_tick_15 ?_
  refine g_more (c2 := 1) (s2 := 6) (by decide) (by decide) ?_
  refine g_iret C E hr d_L_tick_16 ?_
  exact ⟨rfl, EW_mv hE (fun j q => up_ne (by omega) rfl), ⟨_, up_eq _ _ _, fun _ => pk_usL⟩, fun j q1 q2 => (up_ne q2 rfl).trans (hF j q1)⟩
theorem w_tick1 {l : Launch} {o : Nat} {sg : Nat → va_E} {Z : ZS} (a : Int32) (hW : EW sg o Z) {g87 : Nat → Int64} (h87 : sg 87 = eJ 1 g87) {PP : (Nat → va_E) → Prop} (hT : GT l y_E_tick b_E_tick 2 (some .int) 7 121 o 88 sg [.ref (ad o 0), .int a] "java/lang/IndexOutOfBoundsException" PP) (hP : ∀ s, PP s → EW s o Z ∧ efr sg s) (v : Int64) : GMW l y_L_tick b_L_tick 4 (some .int) hh_tick 8 142 1 6 o 88 88 sg [.ref (ad o 0), .int a, .ref (ad o 87)] (wPost sg o 1 v Z) := by
  have he1 : sg 0 = _ := hW.1
  refine GMW_of (by decide) (Nat.le_of_ble_eq_true rfl) ?_
  intro K C hl hr htab hNC E
  show G K o 88 sg 0 0 0 [(0, .ref (ad o 0)), (1, .int a), (2, .ref (ad o 87))] []
  subst hl
  refine g_aload_n C rfl rfl d_L_tick_0 ?_
  refine g_iconst (v := 0) C rfl d_L_tick_1 ?_
  refine g_aload_n C rfl rfl d_L_tick_2 ?_
  refine g_iload_n C rfl rfl d_L_tick_3 ?_
  refine g_callVC C hT Y_E_tick m_610 m_611 m_609 rfl rfl ⟨by decide, by decide⟩ ⟨by decide, by decide⟩ d_L_tick_4 (by omega) he1 rfl (Nat.le_of_ble_eq_true rfl) (pre := []) (x := ⟨0, 9, 12, 13⟩) (post' := []) (by rw [htab]; rfl) (fun z hz => absurd hz List.not_mem_nil) hNC (by decide) (by decide) m_235 (fun sgt xa hq => ?_)
  obtain ⟨hE, hF⟩ := hP _ hq
  have h87' := (hF 87 (by omega)).trans h87
  refine g_astore_n (lv' := [(3, .ref xa), (0, .ref (ad o 0)), (1, .int a), (2, .ref (ad o 87))]) C d_L_tick_12 rfl (by decide) rfl ?_
  refine g_iconst (v := 1) C rfl d_L_tick_13 ?_
  refine g_iret C E hr d_L_tick_14 ?_
  exact ⟨rfl, hE, ⟨_, h87', fun q => absurd q (by decide)⟩, fun j q1 q2 => hF j q1⟩
abbrev hh_liquidity : List (Nat × Nat × Nat × Nat) := [(0, 9, 12, 13)]
theorem YW_liquidity : GYW y_L_liquidity b_L_liquidity 4 (some .int) hh_liquidity 3 := ⟨m_615, m_0, by decide, by decide, by decide +kernel⟩
theorem w_liquidity0 {l : Launch} {o : Nat} {sg : Nat → va_E} {Z : ZS} (a : Int32) (hW : EW sg o Z) {g87 : Nat → Int64} (h87 : sg 87 = eJ 1 g87) {v : Int32} {Z' : ZS} {PP : Option Value → (Nat → va_E) → Prop} (hM : GM l y_E_liquidity b_E_liquidity 2 (some .int) 7 121 0 0 o 88 88 sg false [.ref (ad o 0), .int a] PP) (hP : ∀ r s, PP r s → some (.int v) = r ∧ EW s o Z' ∧ efr sg s) : GMW l y_L_liquidity b_L_liquidity 4 (some .int) hh_liquidity 8 142 1 6 o 88 88 sg [.ref (ad o 0), .int a, .ref (ad o 87)] (wPost sg o 0 (v.toInt64) Z') := by
  have he1 : sg 0 = _ := hW.1
  refine GMW_of (by decide) (Nat.le_of_ble_eq_true rfl) ?_
  intro K C hl hr htab hNC E
  show G K o 88 sg 0 0 0 [(0, .ref (ad o 0)), (1, .int a), (2, .ref (ad o 87))] []
  subst hl
  refine g_aload_n C rfl rfl d_L_liquidity_0 ?_
  refine g_iconst (v := 0) C rfl d_L_liquidity_1 ?_
  refine g_aload_n C rfl rfl d_L_liquidity_2 ?_
  refine g_iload_n C rfl rfl d_L_liquidity_3 ?_
  refine g_callV C (hM) Y_E_liquidity m_617 m_618 m_616 rfl rfl ⟨by decide, by decide⟩ ⟨by decide, by decide⟩ (fun h => nomatch h) d_L_liquidity_4 (by first | assumption | omega) (by repeat' first | assumption | exact up_eq _ _ _ | refine up_ne (by omega) ?_) rfl (Nat.le_of_ble_eq_true rfl) (fun ret sg4 hq => ?_)
  obtain hq := hq
  obtain ⟨rfl, hE, hF⟩ := hP _ _ hq
  have h87' := (hF 87 (by omega)).trans h87
  refine g_i2l C d_L_liquidity_7 ?_
  refine g_last C d_L_liquidity_8 (by first | assumption | omega) (by repeat' first | assumption | exact up_eq _ _ _ | refine up_ne (by omega) ?_) (vp_in_nI (n := 0) (by decide) (by decide)) ?_
  refine g_goto (tgt := 15) C d_L_liquidity_9 (by decide) ?_
  refine g_iconst (v := 0) C rfl d_L_liquidity_15 ?_
  refine g_more (c2 := 1) (s2 := 6) (by decide) (by decide) ?_
  refine g_iret C E hr d_L_liquidity_16 ?_
  exact ⟨rfl, EW_mv hE (fun j q => up_ne (by omega) rfl), ⟨_, up_eq _ _ _, fun _ => pk_usL⟩, fun j q1 q2 => (up_ne q2 rfl).trans (hF j q1)⟩
theorem w_liquidity1 {l : Launch} {o : Nat} {sg : Nat → va_E} {Z : ZS} (a : Int32) (hW : EW sg o Z) {g87 : Nat → Int64} (h87 : sg 87 = eJ 1 g87) {PP : (Nat → va_E) → Prop} (hT : GT l y_E_liquidity b_E_liquidity 2 (some .int) 7 121 o 88 sg [.ref (ad o 0), .int a] "java/lang/IndexOutOfBoundsException" PP) (hP : ∀ s, PP s → EW s o Z ∧ efr sg s) (v : Int64) : GMW l y_L_liquidity b_L_liquidity 4 (some .int) hh_liquidity 8 142 1 6 o 88 88 sg [.ref (ad o 0), .int a, .ref (ad o 87)] (wPost sg o 1 v Z) := by
  have he1 : sg 0 = _ := hW.1
  refine GMW_of (by decide) (Nat.le_of_ble_eq_true rfl) ?_
  intro K C hl hr htab hNC E
  show G K o 88 sg 0 0 0 [(0, .ref (ad o 0)), (1, .int a), (2, .ref (ad o 87))] []
  subst hl
  refine g_aload_n C rfl rfl d_L_liquidity_0 ?_
  refine g_iconst (v := 0) C rfl d_L_liquidity_1 ?_
  refine g_aload_n C rfl rfl d_L_liquidity_2 ?_
  refine g_iload_n C rfl rfl d_L_liquidity_3 ?_
  refine g_callVC C hT Y_E_liquidity m_617 m_618 m_616 rfl rfl ⟨by decide, by decide⟩ ⟨by decide, by decide⟩ d_L_liquidity_4 (by omega) he1 rfl (Nat.le_of_ble_eq_true rfl) (pre := []) (x := ⟨0, 9, 12, 13⟩) (post' := []) (by rw [htab]; rfl) (fun z hz => absurd hz List.not_mem_nil) hNC (by decide) (by decide) m_235 (fun sgt xa hq => ?_)
  obtain ⟨hE, hF⟩ := hP _ hq
  have h87' := (hF 87 (by omega)).trans h87
  refine g_astore_n (lv' := [(3, .ref xa), (0, .ref (ad o 0)), (1, .int a), (2, .ref (ad o 87))]) C d_L_liquidity_12 rfl (by decide) rfl ?_
  refine g_iconst (v := 1) C rfl d_L_liquidity_13 ?_
  refine g_iret C E hr d_L_liquidity_14 ?_
  exact ⟨rfl, hE, ⟨_, h87', fun q => absurd q (by decide)⟩, fun j q1 q2 => hF j q1⟩
abbrev hh_growth : List (Nat × Nat × Nat × Nat) := [(0, 9, 12, 13)]
theorem YW_growth : GYW y_L_growth b_L_growth 5 (some .int) hh_growth 4 := ⟨m_622, m_0, by decide, by decide, by decide +kernel⟩
theorem w_growth0 {l : Launch} {o : Nat} {sg : Nat → va_E} {Z : ZS} (a b : Int32) (hW : EW sg o Z) {g87 : Nat → Int64} (h87 : sg 87 = eJ 1 g87) {v : Int64} {Z' : ZS} {PP : Option Value → (Nat → va_E) → Prop} (hM : GM l y_E_growth b_E_growth 3 (some .long) 7 121 0 0 o 88 88 sg false [.ref (ad o 0), .int a, .int b] PP) (hP : ∀ r s, PP r s → some (.long v) = r ∧ EW s o Z' ∧ efr sg s) : GMW l y_L_growth b_L_growth 5 (some .int) hh_growth 8 143 1 6 o 88 88 sg [.ref (ad o 0), .int a, .int b, .ref (ad o 87)] (wPost sg o 0 (v) Z') := by
  have he1 : sg 0 = _ := hW.1
  refine GMW_of (by decide) (Nat.le_of_ble_eq_true rfl) ?_
  intro K C hl hr htab hNC E
  show G K o 88 sg 0 0 0 [(0, .ref (ad o 0)), (1, .int a), (2, .int b), (3, .ref (ad o 87))] []
  subst hl
  refine g_aload_n C rfl rfl d_L_growth_0 ?_
  refine g_iconst (v := 0) C rfl d_L_growth_1 ?_
  refine g_aload_n C rfl rfl d_L_growth_2 ?_
  refine g_iload_n C rfl rfl d_L_growth_3 ?_
  refine g_iload_n C rfl rfl d_L_growth_4 ?_
  refine g_callV C (hM) Y_E_growth m_624 m_625 m_623 rfl rfl ⟨by decide, by decide⟩ ⟨by decide, by decide⟩ (fun h => nomatch h) d_L_growth_5 (by first | assumption | omega) (by repeat' first | assumption | exact up_eq _ _ _ | refine up_ne (by omega) ?_) rfl (Nat.le_of_ble_eq_true rfl) (fun ret sg5 hq => ?_)
  obtain hq := hq
  obtain ⟨rfl, hE, hF⟩ := hP _ _ hq
  have h87' := (hF 87 (by omega)).trans h87
  refine g_last C d_L_growth_8 (by first | assumption | omega) (by repeat' first | assumption | exact up_eq _ _ _ | refine up_ne (by omega) ?_) (vp_in_nI (n := 0) (by decide) (by decide)) ?_
  refine g_goto (tgt := 16) C d_L_growth_9 (by decide) ?_
  refine g_iconst (v := 0) C rfl d_L_growth_16 ?_
  refine g_more (c2 := 1) (s2 := 6) (by decide) (by decide) ?_
  refine g_iret C E hr d_L_growth_17 ?_
  exact ⟨rfl, EW_mv hE (fun j q => up_ne (by omega) rfl), ⟨_, up_eq _ _ _, fun _ => pk_usL⟩, fun j q1 q2 => (up_ne q2 rfl).trans (hF j q1)⟩
theorem w_growth1 {l : Launch} {o : Nat} {sg : Nat → va_E} {Z : ZS} (a b : Int32) (hW : EW sg o Z) {g87 : Nat → Int64} (h87 : sg 87 = eJ 1 g87) {PP : (Nat → va_E) → Prop} (hT : GT l y_E_growth b_E_growth 3 (some .long) 7 121 o 88 sg [.ref (ad o 0), .int a, .int b] "java/lang/IndexOutOfBoundsException" PP) (hP : ∀ s, PP s → EW s o Z ∧ efr sg s) (v : Int64) : GMW l y_L_growth b_L_growth 5 (some .int) hh_growth 8 143 1 6 o 88 88 sg [.ref (ad o 0), .int a, .int b, .ref (ad o 87)] (wPost sg o 1 v Z) := by
  have he1 : sg 0 = _ := hW.1
  refine GMW_of (by decide) (Nat.le_of_ble_eq_true rfl) ?_
  intro K C hl hr htab hNC E
  show G K o 88 sg 0 0 0 [(0, .ref (ad o 0)), (1, .int a), (2, .int b), (3, .ref (ad o 87))] []
  subst hl
  refine g_aload_n C rfl rfl d_L_growth_0 ?_
  refine g_iconst (v := 0) C rfl d_L_growth_1 ?_
  refine g_aload_n C rfl rfl d_L_growth_2 ?_
  refine g_iload_n C rfl rfl d_L_growth_3 ?_
  refine g_iload_n C rfl rfl d_L_growth_4 ?_
  refine g_callVC C hT Y_E_growth m_624 m_625 m_623 rfl rfl ⟨by decide, by decide⟩ ⟨by decide, by decide⟩ d_L_growth_5 (by omega) he1 rfl (Nat.le_of_ble_eq_true rfl) (pre := []) (x := ⟨0, 9, 12, 13⟩) (post' := []) (by rw [htab]; rfl) (fun z hz => absurd hz List.not_mem_nil) hNC (by decide) (by decide) m_235 (fun sgt xa hq => ?_)
  obtain ⟨hE, hF⟩ := hP _ hq
  have h87' := (hF 87 (by omega)).trans h87
  refine g_astore (lv' := [(4, .ref xa), (0, .ref (ad o 0)), (1, .int a), (2, .int b), (3, .ref (ad o 87))]) C d_L_growth_12 (by decide) rfl ?_
  refine g_iconst (v := 1) C rfl d_L_growth_14 ?_
  refine g_iret C E hr d_L_growth_15 ?_
  exact ⟨rfl, hE, ⟨_, h87', fun q => absurd q (by decide)⟩, fun j q1 q2 => hF j q1⟩
abbrev hh_held : List (Nat × Nat × Nat × Nat) := [(0, 8, 11, 13)]
theorem YW_held : GYW y_L_held b_L_held 4 (some .int) hh_held 3 := ⟨m_629, m_0, by decide, by decide, by decide +kernel⟩
theorem w_held0 {l : Launch} {o : Nat} {sg : Nat → va_E} {Z : ZS} (a : Int32) (hW : EW sg o Z) {g87 : Nat → Int64} (h87 : sg 87 = eJ 1 g87) {v : Int64} {Z' : ZS} {PP : Option Value → (Nat → va_E) → Prop} (hM : GM l y_E_held b_E_held 2 (some .long) 7 121 0 0 o 88 88 sg false [.ref (ad o 0), .int a] PP) (hP : ∀ r s, PP r s → some (.long v) = r ∧ EW s o Z' ∧ efr sg s) : GMW l y_L_held b_L_held 4 (some .int) hh_held 8 142 1 6 o 88 88 sg [.ref (ad o 0), .int a, .ref (ad o 87)] (wPost sg o 0 (v) Z') := by
  have he1 : sg 0 = _ := hW.1
  refine GMW_of (by decide) (Nat.le_of_ble_eq_true rfl) ?_
  intro K C hl hr htab hNC E
  show G K o 88 sg 0 0 0 [(0, .ref (ad o 0)), (1, .int a), (2, .ref (ad o 87))] []
  subst hl
  refine g_aload_n C rfl rfl d_L_held_0 ?_
  refine g_iconst (v := 0) C rfl d_L_held_1 ?_
  refine g_aload_n C rfl rfl d_L_held_2 ?_
  refine g_iload_n C rfl rfl d_L_held_3 ?_
  refine g_callV C (hM) Y_E_held m_631 m_632 m_630 rfl rfl ⟨by decide, by decide⟩ ⟨by decide, by decide⟩ (fun h => nomatch h) d_L_held_4 (by first | assumption | omega) (by repeat' first | assumption | exact up_eq _ _ _ | refine up_ne (by omega) ?_) rfl (Nat.le_of_ble_eq_true rfl) (fun ret sg4 hq => ?_)
  obtain hq := hq
  obtain ⟨rfl, hE, hF⟩ := hP _ _ hq
  have h87' := (hF 87 (by omega)).trans h87
  refine g_last C d_L_held_7 (by first | assumption | omega) (by repeat' first | assumption | exact up_eq _ _ _ | refine up_ne (by omega) ?_) (vp_in_nI (n := 0) (by decide) (by decide)) ?_
  refine g_goto (tgt := 14) C d_L_held_8 (by decide) ?_
  refine g_iconst (v := 0) C rfl d_L_held_14 ?_
  refine g_more (c2 := 1) (s2 := 6) (by decide) (by decide) ?_
  refine g_iret C E hr d_L_held_15 ?_
  exact ⟨rfl, EW_mv hE (fun j q => up_ne (by omega) rfl), ⟨_, up_eq _ _ _, fun _ => pk_usL⟩, fun j q1 q2 => (up_ne q2 rfl).trans (hF j q1)⟩
theorem w_held1 {l : Launch} {o : Nat} {sg : Nat → va_E} {Z : ZS} (a : Int32) (hW : EW sg o Z) {g87 : Nat → Int64} (h87 : sg 87 = eJ 1 g87) {PP : (Nat → va_E) → Prop} (hT : GT l y_E_held b_E_held 2 (some .long) 7 121 o 88 sg [.ref (ad o 0), .int a] "java/lang/IndexOutOfBoundsException" PP) (hP : ∀ s, PP s → EW s o Z ∧ efr sg s) (v : Int64) : GMW l y_L_held b_L_held 4 (some .int) hh_held 8 142 1 6 o 88 88 sg [.ref (ad o 0), .int a, .ref (ad o 87)] (wPost sg o 1 v Z) := by
  have he1 : sg 0 = _ := hW.1
  refine GMW_of (by decide) (Nat.le_of_ble_eq_true rfl) ?_
  intro K C hl hr htab hNC E
  show G K o 88 sg 0 0 0 [(0, .ref (ad o 0)), (1, .int a), (2, .ref (ad o 87))] []
  subst hl
  refine g_aload_n C rfl rfl d_L_held_0 ?_
  refine g_iconst (v := 0) C rfl d_L_held_1 ?_
  refine g_aload_n C rfl rfl d_L_held_2 ?_
  refine g_iload_n C rfl rfl d_L_held_3 ?_
  refine g_callVC C hT Y_E_held m_631 m_632 m_630 rfl rfl ⟨by decide, by decide⟩ ⟨by decide, by decide⟩ d_L_held_4 (by omega) he1 rfl (Nat.le_of_ble_eq_true rfl) (pre := []) (x := ⟨0, 8, 11, 13⟩) (post' := []) (by rw [htab]; rfl) (fun z hz => absurd hz List.not_mem_nil) hNC (by decide) (by decide) m_235 (fun sgt xa hq => ?_)
  obtain ⟨hE, hF⟩ := hP _ hq
  have h87' := (hF 87 (by omega)).trans h87
  refine g_astore_n (lv' := [(3, .ref xa), (0, .ref (ad o 0)), (1, .int a), (2, .ref (ad o 87))]) C d_L_held_11 rfl (by decide) rfl ?_
  refine g_iconst (v := 1) C rfl d_L_held_12 ?_
  refine g_iret C E hr d_L_held_13 ?_
  exact ⟨rfl, hE, ⟨_, h87', fun q => absurd q (by decide)⟩, fun j q1 q2 => hF j q1⟩

