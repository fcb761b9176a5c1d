-- MAKING THINGS
section GN
variable {K : GX} {b : ByteArray} {nL : Nat} {own : String} {rm : Room} {o n : Nat} {sg : Nat → va_E} {cells slots pc : Nat} {lv : List (Nat × Value)} {rest : List Value}
theorem g_newJ (C : GOk K b nL own rm o) {N : Int32} (N' : Nat) (hn : ¬ N < 0) (hN : N.toNatClampNeg = N') (hb : N' * 8 ≤ 536870912) (d : decode b pc = .ok (.newarray .long, 2)) (hx : (xs K).heap.size + cells = o + n) (hc : cells + 1 ≤ rm.cells) (hs : slots + N' ≤ rm.slots) (k : G K o (n + 1) (va_up sg n (eJ N' (fun _ => 0))) (cells + 1) (slots + N') (pc + 2) lv (.ref (ad o n) :: rest)) : G K o n sg cells slots pc lv (.int N :: rest) := g_newa (atype := .long) (ty := .long) C 0 rfl rfl (fun _ => rfl) m_39 (a0 := (N', .inr (.inl (fun _ => 0)))) (fun cA => rfl) hn hN hb d hx hc hs k
theorem g_newI (C : GOk K b nL own rm o) {N : Int32} (N' : Nat) (hn : ¬ N < 0) (hN : N.toNatClampNeg = N') (hb : N' * 4 ≤ 536870912) (d : decode b pc = .ok (.newarray .int, 2)) (hx : (xs K).heap.size + cells = o + n) (hc : cells + 1 ≤ rm.cells) (hs : slots + N' ≤ rm.slots) (k : G K o (n + 1) (va_up sg n (eI N' (fun _ => 0))) (cells + 1) (slots + N') (pc + 2) lv (.ref (ad o n) :: rest)) : G K o n sg cells slots pc lv (.int N :: rest) := g_newa (atype := .int) (ty := .int) C 1 rfl rfl (fun _ => rfl) m_120 (a0 := (N', .inl (fun _ => 0))) (fun cA => rfl) hn hN hb d hx hc hs k
theorem g_newZ (C : GOk K b nL own rm o) {N : Int32} (N' : Nat) (hn : ¬ N < 0) (hN : N.toNatClampNeg = N') (hb : N' * 1 ≤ 536870912) (d : decode b pc = .ok (.newarray .boolean, 2)) (hx : (xs K).heap.size + cells = o + n) (hc : cells + 1 ≤ rm.cells) (hs : slots + N' ≤ rm.slots) (k : G K o (n + 1) (va_up sg n (eZ N' (fun _ => 0))) (cells + 1) (slots + N') (pc + 2) lv (.ref (ad o n) :: rest)) : G K o n sg cells slots pc lv (.int N :: rest) := g_newa (atype := .boolean) (ty := .boolean) C 2 rfl rfl (fun _ => rfl) m_716 (a0 := (N', .inl (fun _ => 0))) (fun cA => rfl) hn hN hb d hx hc hs k
end GN
theorem c_C_init {l : Launch} {o : Nat} {sg : Nat → va_E} (k : Nat) (h : sg k = eO 2 [.long 0, .int 0, .int 0, .null, .null]) : GM l y_C_init b_C_init 1 none 2 40 2 164 o (k + 1) (k + 1 + 1 + 1) sg true [.ref (ad o k)] (fun r s => none = r ∧ isC s o k (lN 4294967296) 0 (nI 0) (fun _ => 0) (fun _ => 0) ∧ ∀ j, j < k → s j = sg j) := by
  refine GM_of (by decide) (Nat.le_of_ble_eq_true rfl) ?_
  intro K C hl hz hr hnm E
  have hz0 := hz rfl
  show G K o (k + 1) sg 0 0 0 [(0, .ref (ad o k))] []
  refine g_aload_n C rfl rfl d_C_init_0 ?_
  refine g_objInit C m_91 gi_obj gc_obj d_C_init_1 (by decide) (Nat.le_of_ble_eq_true rfl) ?_
  refine g_aload_n C rfl rfl d_C_init_4 ?_
  refine g_ldc2 C m_92 d_C_init_5 ?_
  refine pf_C_11 C d_C_init_8 rfl rfl (by first | assumption | omega) (by repeat' first | assumption | exact up_eq _ _ _ | refine up_ne (by omega) ?_) (by exact Nat.le_of_ble_eq_true rfl) ?_
  refine g_aload_n C rfl rfl d_C_init_11 ?_
  refine g_iconst (v := 0) C rfl d_C_init_12 ?_
  refine pf_C_17 C d_C_init_13 rfl rfl (by first | assumption | omega) (by repeat' first | assumption | exact up_eq _ _ _ | refine up_ne (by omega) ?_) (by exact Nat.le_of_ble_eq_true rfl) ?_
  refine g_aload_n C rfl rfl d_C_init_16 ?_
  refine g_iconst (v := 0) C rfl d_C_init_17 ?_
  refine pf_C_21 C d_C_init_18 rfl rfl (by first | assumption | omega) (by repeat' first | assumption | exact up_eq _ _ _ | refine up_ne (by omega) ?_) (by exact Nat.le_of_ble_eq_true rfl) ?_
  refine g_aload_n C rfl rfl d_C_init_21 ?_
  refine g_iconst (v := 2) C rfl d_C_init_22 ?_
  refine g_newJ C 2 (by decide) (by decide) (by decide) d_C_init_23 (by omega) (by decide) (by decide) ?_
  refine pf_C_24 C d_C_init_25 hnm rfl rfl (by first | assumption | omega) (by repeat' first | assumption | exact up_eq _ _ _ | refine up_ne (by omega) ?_) (by exact Nat.le_of_ble_eq_true rfl) ?_
  refine g_aload_n C rfl rfl d_C_init_28 ?_
  refine g_sipush (v := 162) C rfl d_C_init_29 ?_
  refine g_newJ C 162 (by decide) (by decide) (by decide) d_C_init_32 (by omega) (by decide) (by decide) ?_
  refine pf_C_28 C d_C_init_34 hnm rfl rfl (by first | assumption | omega) (by repeat' first | assumption | exact up_eq _ _ _ | refine up_ne (by omega) ?_) (by exact Nat.le_of_ble_eq_true rfl) ?_
  refine g_vret C E hr d_C_init_37 ⟨rfl, ⟨(by repeat' first | assumption | exact up_eq _ _ _ | refine up_ne (by omega) ?_), (by repeat' first | assumption | exact up_eq _ _ _ | refine up_ne (by omega) ?_), (by repeat' first | assumption | exact up_eq _ _ _ | refine up_ne (by omega) ?_)⟩, fun j q => by repeat' first | exact rfl | refine up_ne (by omega) ?_⟩
theorem c_S_init {l : Launch} {o : Nat} {sg : Nat → va_E} (k : Nat) (h : sg k = eO 4 [.int 0, .int 0, .int 0, .int 0, .int 0, .null, .null]) : GM l y_S_init b_S_init 1 none 2 40 2 4 o (k + 1) (k + 1 + 1 + 1) sg true [.ref (ad o k)] (fun r s => none = r ∧ isS s o k 0 0 0 0 0 (fun _ => 0) (fun _ => 0) ∧ ∀ j, j < k → s j = sg j) := by
  refine GM_of (by decide) (Nat.le_of_ble_eq_true rfl) ?_
  intro K C hl hz hr hnm E
  have hz0 := hz rfl
  show G K o (k + 1) sg 0 0 0 [(0, .ref (ad o k))] []
  refine g_aload_n C rfl rfl d_S_init_0 ?_
  refine g_objInit C m_153 gi_obj gc_obj d_S_init_1 (by decide) (Nat.le_of_ble_eq_true rfl) ?_
  refine g_aload_n C rfl rfl d_S_init_4 ?_
  refine g_iconst (v := 2) C rfl d_S_init_5 ?_
  refine g_newJ C 2 (by decide) (by decide) (by decide) d_S_init_6 (by omega) (by decide) (by decide) ?_
  refine pf_S_9 C d_S_init_8 hnm rfl rfl (by first | assumption | omega) (by repeat' first | assumption | exact up_eq _ _ _ | refine up_ne (by omega) ?_) (by exact Nat.le_of_ble_eq_true rfl) ?_
  refine g_aload_n C rfl rfl d_S_init_11 ?_
  refine g_iconst (v := 2) C rfl d_S_init_12 ?_
  refine g_newJ C 2 (by decide) (by decide) (by decide) d_S_init_13 (by omega) (by decide) (by decide) ?_
  refine pf_S_15 C d_S_init_15 hnm rfl rfl (by first | assumption | omega) (by repeat' first | assumption | exact up_eq _ _ _ | refine up_ne (by omega) ?_) (by exact Nat.le_of_ble_eq_true rfl) ?_
  refine g_vret C E hr d_S_init_18 ⟨rfl, ⟨(by repeat' first | assumption | exact up_eq _ _ _ | refine up_ne (by omega) ?_), (by repeat' first | assumption | exact up_eq _ _ _ | refine up_ne (by omega) ?_), (by repeat' first | assumption | exact up_eq _ _ _ | refine up_ne (by omega) ?_)⟩, fun j q => by repeat' first | exact rfl | refine up_ne (by omega) ?_⟩
theorem c_T_init {l : Launch} {o n : Nat} {sg : Nat → va_E} (k : Nat) (hk : k < n) (h : sg k = eO 6 [.null, .null, .null, .int 0, .int 0, .long 0, .long 0, .long 0, .long 0]) : GM l y_T_init b_T_init 2 none 2 40 0 0 o n n sg false [.ref (ad o k), .ref (ad o 4)] (fun r s => none = r ∧ ETr s o k ∧ ∀ j, j ≠ k → s j = sg j) := by
  refine GM_of (by decide) (Nat.le_of_ble_eq_true rfl) ?_
  intro K C hl hz hr hnm E
  show G K o n sg 0 0 0 [(0, .ref (ad o k)), (1, .ref (ad o 4))] []
  refine g_aload_n C rfl rfl d_T_init_0 ?_
  refine g_objInit C m_49 gi_obj gc_obj d_T_init_1 (by decide) (Nat.le_of_ble_eq_true rfl) ?_
  refine g_aload_n C rfl rfl d_T_init_4 ?_
  refine g_aload_n C rfl rfl d_T_init_5 ?_
  refine pf_T_9 C d_T_init_6 hnm rfl rfl (by first | assumption | omega) (by repeat' first | assumption | exact up_eq _ _ _ | refine up_ne (by omega) ?_) (by exact Nat.le_of_ble_eq_true rfl) ?_
  refine g_vret C E hr d_T_init_9 ⟨rfl, ⟨_, _, _, _, _, _, _, _, up_eq _ _ _⟩, fun j q => up_ne q rfl⟩

