-- THE LAW: its loop, its start
theorem and15 (x : Int32) : ∃ q, q < 16 ∧ x &&& 15 = nI q := by
  refine ⟨(x &&& 15).toBitVec.toNat, ?_, Int32.toBitVec_inj.mp (by show _ = BitVec.ofNat 32 _; simp)⟩
  rw [Int32.toBitVec_and, BitVec.toNat_and]
  exact Nat.lt_of_le_of_lt Nat.and_le_right (by decide)
theorem L_6 (L : Nat) : nI L - 6 = iI ((L : Int) - 6) := by
  rw [← iI_nat, show (6 : Int32) = iI 6 from by decide, iI_sub]
theorem ge6 {L j : Nat} (hL : L ≤ 3074) (hj : j ≤ 3080) : nI L - 6 < nI j ↔ (L : Int) - 6 < j := by
  rw [L_6, ← iI_nat j, iI_lt (by omega) (by omega) (by omega) (by omega)]
theorem law_next {K : GX} {o b L j c sl : Nat} {sg : Nat → va_E} (hj : j + 6 ≤ L) (k : ∀ x : Int32, x = nI (j + 6) → G K o 88 sg c sl 43 [(0, .ref b), (1, .ref (ad o 0)), (2, .ref (ad o 64)), (3, .ref (ad o 87)), (4, .int x)] []) (C : GOk K b_L_law 8 y_L_law.cls room_1 o) : G K o 88 sg c sl 1152 [(0, .ref b), (1, .ref (ad o 0)), (2, .ref (ad o 64)), (3, .ref (ad o 87)), (4, .int (nI j))] [] := by
  obtain ⟨y, e_y⟩ : ∃ y : Int32, ((nI j)) + Int32.ofInt 6 = y := ⟨_, rfl⟩
  refine g_iinc (lv' := [(4, .int y), (0, .ref b), (1, .ref (ad o 0)), (2, .ref (ad o 64)), (3, .ref (ad o 87))]) C d_L_law_1152 rfl e_y (by decide) rfl ?_
  refine g_goto (tgt := 43) C d_L_law_1155 (by decide) ?_
  refine g_pick [1, 2, 3, 4, 0] rfl ?_
  exact k _ (by rw [← e_y]; exact nI_add j 6)
theorem law_sw {K : GX} {o b L j c sl : Nat} {xv : Nat → Int32} {sg : Nat → va_E} {Z : ZS} {v : Int32} (C : GOk K b_L_law 8 y_L_law.cls room_1 o) (hfl : (xl K).flags = flags0) (hNC : gNC (xs K)) (hX : va_X b L xv (xs K) (xs K).heap) (hb : b < (xs K).heap.size) (hbo : b < o) (hj : j + 6 ≤ L) (hL : L ≤ 3074) (hI : LI sg o Z) (hc : c + 1 ≤ 601024) (hs : sl + 6 ≤ 7293000) (kont : ∀ sg' Z', LI sg' o Z' → G K o 88 sg' (c + 1) (sl + 6) 1152 [(0, .ref b), (1, .ref (ad o 0)), (2, .ref (ad o 64)), (3, .ref (ad o 87)), (4, .int (nI j))] []) : G K o 88 sg c sl 60 [(0, .ref b), (1, .ref (ad o 0)), (2, .ref (ad o 64)), (3, .ref (ad o 87)), (4, .int (nI j))] [.int (v &&& 15)] := by
  obtain ⟨q, hq, e⟩ := and15 v
  rw [e]
  rcases (show q = 0 ∨ q = 1 ∨ q = 2 ∨ q = 3 ∨ q = 4 ∨ q = 5 ∨ q = 6 ∨ q = 7 ∨ q = 8 ∨ q = 9 ∨ q = 10 ∨ q = 11 ∨ q = 12 ∨ q = 13 ∨ 14 ≤ q by omega) with h0 | h1 | h2 | h3 | h4 | h5 | h6 | h7 | h8 | h9 | h10 | h11 | h12 | h13 | h14
  · subst h0
    refine g_tableIn (off := 72) (tgt := 132) C d_L_law_60 (by decide) (by decide) (by decide) (by decide) ?_
    exact lop_give C hfl hNC hX hb hbo hj hL hI hc hs kont
  · subst h1
    refine g_tableIn (off := 151) (tgt := 211) C d_L_law_60 (by decide) (by decide) (by decide) (by decide) ?_
    exact lop_balance C hfl hNC hX hb hbo hj hL hI hc hs kont
  · subst h2
    refine g_tableIn (off := 218) (tgt := 278) C d_L_law_60 (by decide) (by decide) (by decide) (by decide) ?_
    exact lop_mint C hfl hNC hX hb hbo hj hL hI hc hs kont
  · subst h3
    refine g_tableIn (off := 322) (tgt := 382) C d_L_law_60 (by decide) (by decide) (by decide) (by decide) ?_
    exact lop_burn C hfl hNC hX hb hbo hj hL hI hc hs kont
  · subst h4
    refine g_tableIn (off := 426) (tgt := 486) C d_L_law_60 (by decide) (by decide) (by decide) (by decide) ?_
    exact lop_collect C hfl hNC hX hb hbo hj hL hI hc hs kont
  · subst h5
    refine g_tableIn (off := 517) (tgt := 577) C d_L_law_60 (by decide) (by decide) (by decide) (by decide) ?_
    exact lop_swap C hfl hNC hX hb hbo hj hL hI hc hs kont
  · subst h6
    refine g_tableIn (off := 636) (tgt := 696) C d_L_law_60 (by decide) (by decide) (by decide) (by decide) ?_
    exact lop_route C hfl hNC hX hb hbo hj hL hI hc hs kont
  · subst h7
    refine g_tableIn (off := 715) (tgt := 775) C d_L_law_60 (by decide) (by decide) (by decide) (by decide) ?_
    exact lop_paid C hfl hNC hX hb hbo hj hL hI hc hs kont
  · subst h8
    refine g_tableIn (off := 729) (tgt := 789) C d_L_law_60 (by decide) (by decide) (by decide) (by decide) ?_
    exact lop_price C hfl hNC hX hb hbo hj hL hI hc hs kont
  · subst h9
    refine g_tableIn (off := 784) (tgt := 844) C d_L_law_60 (by decide) (by decide) (by decide) (by decide) ?_
    exact lop_tick C hfl hNC hX hb hbo hj hL hI hc hs kont
  · subst h10
    refine g_tableIn (off := 840) (tgt := 900) C d_L_law_60 (by decide) (by decide) (by decide) (by decide) ?_
    exact lop_liquidity C hfl hNC hX hb hbo hj hL hI hc hs kont
  · subst h11
    refine g_tableIn (off := 896) (tgt := 956) C d_L_law_60 (by decide) (by decide) (by decide) (by decide) ?_
    exact lop_growth C hfl hNC hX hb hbo hj hL hI hc hs kont
  · subst h12
    refine g_tableIn (off := 963) (tgt := 1023) C d_L_law_60 (by decide) (by decide) (by decide) (by decide) ?_
    exact lop_position C hfl hNC hX hb hbo hj hL hI hc hs kont
  · subst h13
    refine g_tableIn (off := 1037) (tgt := 1097) C d_L_law_60 (by decide) (by decide) (by decide) (by decide) ?_
    exact lop_held C hfl hNC hX hb hbo hj hL hI hc hs kont
  · refine g_tableOut (tgt := 1152) C d_L_law_60 (Or.inr ?_) (by decide) ?_
    · rw [← iI_nat, iI_toInt (by omega) (by omega)]
      omega
    · exact g_more (by omega) (by omega) (kont sg Z hI)
set_option maxHeartbeats 4000000 in
theorem law_loop {K : GX} {o b L : Nat} {xv : Nat → Int32} (C : GOk K b_L_law 8 y_L_law.cls room_1 o) (hfl : (xl K).flags = flags0) (hNC : gNC (xs K)) (hX : va_X b L xv (xs K) (xs K).heap) (hb : b < (xs K).heap.size) (hbo : b < o) (hL : L ≤ 3074) (hend : ∀ (sg : Nat → va_E) (c sl : Nat) (lv : List (Nat × Value)), c ≤ 601024 → sl ≤ 7293000 → G K o 88 sg c sl 1159 lv [.int 1]) : ∀ (m j : Nat) (x : Int32) (sg : Nat → va_E) (Z : ZS) (c sl : Nat), x = nI j → L < j + 6 * m → j ≤ 3080 → c ≤ 1000 + j → sl ≤ 10000 + 6 * j → LI sg o Z → G K o 88 sg c sl 43 [(0, .ref b), (1, .ref (ad o 0)), (2, .ref (ad o 64)), (3, .ref (ad o 87)), (4, .int x)] [] := by
  intro m
  induction m with
  | zero =>
    intro j x sg Z c sl hx hm hj hc hs hI
    subst hx
    refine g_iload C rfl d_L_law_43 ?_
    refine g_aload_n C rfl rfl d_L_law_45 ?_
    refine g_xlen C hX hb hbo d_L_law_46 ?_
    refine g_bipush (v := 6) C rfl d_L_law_47 ?_
    refine g_isub C d_L_law_49 ?_
    refine g_icmp_gt (tgt := 1158) C d_L_law_50 (by decide) (fun j50 => ?_) (fun j50 => ?_)
    rotate_left
    · exact absurd ((ge6 hL hj).mpr (by omega)) j50
    refine g_iconst (v := 1) C rfl d_L_law_1158 ?_
    exact hend _ _ _ _ (by omega) (by omega)
  | succ m ih =>
    intro j x sg Z c sl hx hm hj hc hs hI
    subst hx
    have ij : j + 6 ≤ L → vp_in (nI j) L := fun h => vp_in_nI (by omega) (by omega)
    refine g_iload C rfl d_L_law_43 ?_
    refine g_aload_n C rfl rfl d_L_law_45 ?_
    refine g_xlen C hX hb hbo d_L_law_46 ?_
    refine g_bipush (v := 6) C rfl d_L_law_47 ?_
    refine g_isub C d_L_law_49 ?_
    refine g_icmp_gt (tgt := 1158) C d_L_law_50 (by decide) (fun j50 => ?_) (fun j50 => ?_)
    · refine g_iconst (v := 1) C rfl d_L_law_1158 ?_
      exact hend _ _ _ _ (by omega) (by omega)
    · refine g_aload_n C rfl rfl d_L_law_53 ?_
      refine g_iload C rfl d_L_law_54 ?_
      refine g_xald C hX hb hbo (ij (by have q := j50; rw [ge6 hL hj] at q; omega)) d_L_law_56 ?_
      refine g_bipush (v := 15) C rfl d_L_law_57 ?_
      refine g_iand C d_L_law_59 ?_
      have hj6 : j + 6 ≤ L := by (have q := j50; rw [ge6 hL hj] at q; omega)
      have kont : ∀ (sg' : Nat → va_E) (Z' : ZS), LI sg' o Z' → G K o 88 sg' (c + 1) (sl + 6) 1152 [(0, .ref b), (1, .ref (ad o 0)), (2, .ref (ad o 64)), (3, .ref (ad o 87)), (4, .int (nI j))] [] := fun sg' Z' h' => law_next hj6 (fun y hy => ih (j + 6) y sg' Z' (c + 1) (sl + 6) hy (by omega) (by omega) (by omega) (by omega) h') C
      exact law_sw C hfl hNC hX hb hbo hj6 hL hI (by omega) (by omega) kont
theorem Y_L_cell : GY y_L_cell b_L_cell 2 (some .int) 2 := ⟨m_231, m_0, by decide, by decide, by decide +kernel⟩
theorem Iv0 (f1 f2 : Int32) : IvZ (Z0 f1 f2) := by
  have r40 : rt 40 = 4294967296 := by decide
  have r41 : rt 40 ≤ rt 41 := rt_le (by decide) (by decide)
  refine ⟨⟨fun i _ => (by show (0 : Nat) < 2 ∧ (-40 : Int) ≤ 0 ∧ (0 : Int) ≤ 40 ∧ (-40 : Int) ≤ 0 ∧ (0 : Int) ≤ 40; decide), fun i _ => Nat.zero_le _, fun p hp => ?_, fun p hp => ?_, fun i _ h => absurd h (Nat.lt_irrefl 0)⟩, fun _ _ => 0, fun _ => 0, fun _ => 0, ⟨fun _ => 0, fun _ => 0, fun _ _ => lN_0.symm, fun t _ => ⟨lN_0.symm, Nat.zero_le _⟩, fun t ht => ?_, fun t ht => ?_⟩, fun _ _ => lN_0.symm, fun i _ h => absurd h (Nat.lt_irrefl 0), fun p _ s _ => ?_⟩
  · rcases (show p = 0 ∨ p = 1 by omega) with q | q
    · subst q; exact zF_le f1
    · subst q; exact zF_le f2
  · have hpr : zpr (Z0 f1 f2) p = 4294967296 := by
      rcases (show p = 0 ∨ p = 1 by omega) with q | q <;> subst q <;> rfl
    rw [hpr]
    show TkOk 4294967296 0
    exact ⟨by decide, by decide, by decide, by decide, fun _ => Nat.le_of_eq r40, fun _ => by rw [← r40]; exact r41⟩
  · have e : hsT (fun _ _ => 0) t = 0 := by unfold hsT; split <;> (try rfl); split <;> rfl
    rw [e]
    exact lN_0.symm
  · have e : hsT (fun _ _ => 0) t = 0 := by unfold hsT; split <;> (try rfl); split <;> rfl
    rw [e]
    rfl
  · have e : ∀ n, sm (ob (Z0 f1 f2) (fun _ => 0) (fun _ => 0) p s) n = 0 := fun n => by
      induction n with
      | zero => rfl
      | succ n ih =>
        unfold sm
        rw [ih]
        unfold ob
        split
        · show 0 + (0 * _ + UU * 0 + KK * (0 * 0)) = 0
          rw [Nat.zero_mul, Nat.mul_zero, Nat.mul_zero]
        · rfl
    rw [e]
    exact Nat.zero_le _
/-- a static method that reads the script -/
def GMS (l : Launch) (y : MethodName) (b : ByteArray) (maxL : Nat) (rt : Option FieldType) (fr lo o n : Nat) (sg : Nat → va_E) (q L : Nat) (xv : Nat → Int32) (As : List Value) (post : Option Value → (Nat → va_E) → Prop) : Prop :=
  ∀ (D : va_G) (ak : Nat → ClassId), Met l y (Cond.code y b maxL rt :: gtb) (gRm fr lo 0 0) (va_Pc As (fun U => gPre D ak o n sg false U ∧ va_X q L xv U U.heap ∧ q < U.heap.size)) (gQ D ak o n post) 0 0 (gA o)
theorem GMS_of {l : Launch} {y : MethodName} {b : ByteArray} {maxL : Nat} {rt : Option FieldType} {fr lo o n : Nat} {sg : Nat → va_E} {q L : Nat} {xv : Nat → Int32} {As : List Value} {post : Option Value → (Nat → va_E) → Prop} (hy : plainName y.cls = true) (hlen : (lg_sl As).length ≤ maxL)
    (body : ∀ K : GX, GOk K b maxL y.cls (gRm fr lo 0 0) o → va_X q L xv (xs K) (xs K).heap → q < (xs K).heap.size → (xM K).sig.returnType = rt → GEnd K o n 0 0 post → G K o n sg 0 0 0 (lv_args 0 As) []) : GMS l y b maxL rt fr lo o n sg q L xv As post := by
  intro D ak
  refine Met.ofW (cc := b) (maxL := maxL) (ret := rt) hy rfl ?_
  intro p e s m args below meth c s₁ B hml hv
  obtain ⟨rfl, ⟨hz, ho, hP, hK, hX⟩, hXs, hqs⟩ := hv
  have hts := atoms_spec (ws := Cond.code y b maxL rt :: gtb) B.pre
  have hown : s.vm.findClass y.cls = some m.cls := findClass_of_methodNamed B.named
  have hl := lv_entry As (n := maxL) hlen
  rw [lg_entry_eq]
  generalize (lg_sl As ++ List.replicate (maxL - (lg_sl As).length) Slot.unset).toArray = ls at hl ⊢
  exact body (p, l, e, _, s, m, As.toArray, below, meth, c, D, ak, _) ⟨B.exec, B.bytes, hml, hown, fun w hw => hts w (List.mem_cons_of_mem _ hw), hK, ho, hX, rfl, B.notSynchronized⟩ hXs hqs B.returns (fun _ h => h) s.heap [] ls hP va_S.rf (by rw [show c.maxLocals = maxL from hml]; exact hl)
theorem g_callSS {K : GX} {b : ByteArray} {nL : Nat} {own : String} {rm : Room} {o n : Nat} {sg : Nat → va_E} {cells slots pc : Nat} {lv : List (Nat × Value)} {st rest : List Value} {y : MethodName} {b' : ByteArray} {maxL : Nat} {rt : Option FieldType} {fr lo ix q L : Nat} {xv : Nat → Int32} {As : List Value} {post : Option Value → (Nat → va_E) → Prop} (C : GOk K b nL own rm o) (hX : va_X q L xv (xs K) (xs K).heap) (hq : q < (xs K).heap.size) (hqo : q < o) (hM : GMS (xl K) y b' maxL rt fr lo o n sg q L xv As post) (Y : GY y b' maxL rt As.length) (hst : Cond.static y ∈ gtb) (hlink : Cond.methodLink own ix y ∈ gtb) (hR : fr + 1 ≤ rm.frames ∧ 8 + (maxL + 11) + lo ≤ rm.locals) (hf : cells + 0 ≤ rm.cells ∧ slots + 0 ≤ rm.slots) (d : decode b pc = .ok (.invokestatic ix, 3)) (hstk : st = As.reverse ++ rest) (hw : (rest.map fun v => v.category).sum ≤ 8)
    (k : ∀ (ret : Option Value) (sg' : Nat → va_E), post ret sg' → G K o n sg' (cells + 0) (slots + 0) (pc + 3) lv (ret.toList ++ rest)) : G K o n sg cells slots pc lv st :=
  g_call (fun H locs ls hP hS hl hle => va_runS (Ts := gtb) ⟨C.1, C.2.1, rfl, C.2.2.2.1, C.2.2.2.2.1⟩ (hM (xD K) (xk K)) ⟨g_cb C Y hlink hR, C.2.2.2.2.1 _ hst⟩ ⟨fun _ U g mk z => by
      have h1 := gPre_blind (D := xD K) (ak := xk K) (o := o) (n := n) (sg := sg) (zz := false) (As := As) _ U g mk ⟨z.1, z.2.1⟩
      exact ⟨h1.1, h1.2, va_X.moved (u := U) (Vm.Alike.refl U.vm) z.2.2.1, z.2.2.2⟩, fun U hU hW => ⟨rfl, g_pre C hP hS hle (fun z => by cases z) hU hW, (hX.moved hW.alike).kept (by rw [hU]; exact hS.2.1 q hq (fun z => absurd (show o ≤ q from z) (by omega))), by rw [hU]; exact Nat.lt_of_lt_of_le hq hS.1⟩⟩ rfl rfl hl.1 hstk (lv_room hw) d (by rw [C.2.2.2.2.2.2.2.2.1]; exact hf)) k
def cv (L : Nat) (xv : Nat → Int32) (i : Nat) : Int32 := if i < L then xv i else 0
theorem c_L_cell {l : Launch} {o n b L : Nat} {sg : Nat → va_E} {xv : Nat → Int32} (i : Nat) (hi : i ≤ 1) (hbo : b < o) (hL : L ≤ 3074) : GMS l y_L_cell b_L_cell 2 (some .int) 1 12 o n sg b L xv [.ref b, .int (nI i)] (gR (some (.int (cv L xv i))) sg) := by
  refine GMS_of (by decide) (Nat.le_of_ble_eq_true rfl) ?_
  intro K C hX hb hr E
  show G K o n sg 0 0 0 [(0, .ref b), (1, .int (nI i))] []
  have ci : (nI i).toNatClampNeg = i := nI_clamp (by omega)
  by_cases h : i < L
  · refine g_iload_n C rfl rfl d_L_cell_0 ?_
    refine g_aload_n C rfl rfl d_L_cell_1 ?_
    refine g_xlen C hX hb hbo d_L_cell_2 ?_
    refine g_icmp_ge (tgt := 12) C d_L_cell_3 (by decide) (fun j3 => ?_) (fun j3 => ?_)
    · exact absurd j3 (nI_ge (b := L) h (by omega))
    refine g_aload_n C rfl rfl d_L_cell_6 ?_
    refine g_iload_n C rfl rfl d_L_cell_7 ?_
    refine g_xald C hX hb hbo (vp_in_nI h (by omega)) d_L_cell_8 ?_
    rw [ci]
    refine g_goto (tgt := 13) C d_L_cell_9 (by decide) ?_
    refine g_iret C E hr d_L_cell_13 ?_
    exact ⟨by unfold cv; rw [if_pos h], rfl⟩
  · refine g_iload_n C rfl rfl d_L_cell_0 ?_
    refine g_aload_n C rfl rfl d_L_cell_1 ?_
    refine g_xlen C hX hb hbo d_L_cell_2 ?_
    refine g_icmp_ge (tgt := 12) C d_L_cell_3 (by decide) (fun j3 => ?_) (fun j3 => ?_)
    rotate_left
    · exact absurd (nI_le (by omega) (by omega)) j3
    refine g_iconst (v := 0) C rfl d_L_cell_12 ?_
    refine g_iret C E hr d_L_cell_13 ?_
    exact ⟨by unfold cv; rw [if_neg h], rfl⟩
set_option maxHeartbeats 8000000 in
theorem law_start {K : GX} {o b L : Nat} {xv : Nat → Int32} {sg : Nat → va_E} (C : GOk K b_L_law 8 y_L_law.cls room_1 o) (hfl : (xl K).flags = flags0) (hNC : gNC (xs K)) (hX : va_X b L xv (xs K) (xs K).heap) (hb : b < (xs K).heap.size) (hbo : b < o) (hL : L ≤ 3074) (hend : ∀ (sg : Nat → va_E) (c sl : Nat) (lv : List (Nat × Value)), c ≤ 601024 → sl ≤ 7293000 → G K o 88 sg c sl 1159 lv [.int 1]) (hz0 : (xs K).heap.size = o) : G K o 0 sg 0 0 0 [(0, .ref b)] [] := by
  refine g_new C i_E tt_E tt_E_ok m_18 m_19 m_1 (ci := 0) rfl (fs := [.null, .null, .null, .null, .null, .null, .null, .null, .long 0]) (fun j hj => match j, hj with | 0, _ => rfl | 1, _ => rfl | 2, _ => rfl | 3, _ => rfl | 4, _ => rfl | 5, _ => rfl | 6, _ => rfl | 7, _ => rfl | 8, _ => rfl | z + 9, h => absurd h (by omega)) d_L_law_0 (by omega) (by decide) (by decide) ?_
  refine g_dup C rfl d_L_law_3 ?_
  refine g_aload_n C rfl rfl d_L_law_4 ?_
  refine g_iconst (v := 0) C rfl d_L_law_5 ?_
  refine g_callSS C hX hb hbo (c_L_cell 0 (by decide) hbo hL) Y_L_cell m_230 m_229 ⟨by decide, by decide⟩ ⟨by decide, by decide⟩ d_L_law_6 rfl (Nat.le_of_ble_eq_true rfl) (fun ret sg6 hq => ?_)
  obtain ⟨rfl, rfl⟩ := hq
  refine g_aload_n C rfl rfl d_L_law_9 ?_
  refine g_iconst (v := 1) C rfl d_L_law_10 ?_
  refine g_callSS C hX hb hbo (c_L_cell 1 (by decide) hbo hL) Y_L_cell m_230 m_229 ⟨by decide, by decide⟩ ⟨by decide, by decide⟩ d_L_law_11 rfl (Nat.le_of_ble_eq_true rfl) (fun ret sg11 hq => ?_)
  obtain ⟨rfl, rfl⟩ := hq
  refine g_callI C (c_E_init (cv L xv 0) (cv L xv 1) (up_eq _ _ _)) Y_E_init m_21 rfl m_20 ⟨by decide, by decide⟩ ⟨by decide, by decide⟩ (fun _ => by omega) d_L_law_14 rfl (Nat.le_of_ble_eq_true rfl) (fun ret sg14 hq => ?_)
  obtain ⟨rfl, eW⟩ := hq
  refine g_astore_n (lv' := [(1, .ref (ad o 0)), (0, .ref b)]) C d_L_law_17 rfl (by decide) rfl ?_
  refine g_new C i_M tt_M tt_M_ok m_634 m_635 m_8 (ci := 1) rfl (fs := [.int 0, .null, .null, .null, .null, .null, .null, .null, .null, .null, .null, .null, .null, .null, .null, .null, .null, .null, .null, .null, .null, .null, .null, .long 0]) (fun j hj => match j, hj with | 0, _ => rfl | 1, _ => rfl | 2, _ => rfl | 3, _ => rfl | 4, _ => rfl | 5, _ => rfl | 6, _ => rfl | 7, _ => rfl | 8, _ => rfl | 9, _ => rfl | 10, _ => rfl | 11, _ => rfl | 12, _ => rfl | 13, _ => rfl | 14, _ => rfl | 15, _ => rfl | 16, _ => rfl | 17, _ => rfl | 18, _ => rfl | 19, _ => rfl | 20, _ => rfl | 21, _ => rfl | 22, _ => rfl | 23, _ => rfl | z + 24, h => absurd h (by omega)) d_L_law_18 (by omega) (by decide) (by decide) ?_
  refine g_dup C rfl d_L_law_21 ?_
  refine g_aload_n C rfl rfl d_L_law_22 ?_
  refine g_iconst (v := 0) C rfl d_L_law_23 ?_
  refine g_callSS C hX hb hbo (c_L_cell 0 (by decide) hbo hL) Y_L_cell m_230 m_229 ⟨by decide, by decide⟩ ⟨by decide, by decide⟩ d_L_law_24 rfl (Nat.le_of_ble_eq_true rfl) (fun ret sg24 hq => ?_)
  obtain ⟨rfl, rfl⟩ := hq
  refine g_aload_n C rfl rfl d_L_law_27 ?_
  refine g_iconst (v := 1) C rfl d_L_law_28 ?_
  refine g_callSS C hX hb hbo (c_L_cell 1 (by decide) hbo hL) Y_L_cell m_230 m_229 ⟨by decide, by decide⟩ ⟨by decide, by decide⟩ d_L_law_29 rfl (Nat.le_of_ble_eq_true rfl) (fun ret sg29 hq => ?_)
  obtain ⟨rfl, rfl⟩ := hq
  refine g_callI C (c_M_init (cv L xv 0) (cv L xv 1) (up_eq _ _ _)) Y_M_init m_637 rfl m_636 ⟨by decide, by decide⟩ ⟨by decide, by decide⟩ (fun _ => by omega) d_L_law_32 rfl (Nat.le_of_ble_eq_true rfl) (fun ret sg32 hq => ?_)
  obtain ⟨rfl, mW, mF⟩ := hq
  refine g_astore_n (lv' := [(2, .ref (ad o 64)), (1, .ref (ad o 0)), (0, .ref b)]) C d_L_law_35 rfl (by decide) rfl ?_
  refine g_iconst (v := 1) C rfl d_L_law_36 ?_
  refine g_newJ C 1 (by decide) (by decide) (by decide) d_L_law_37 (by omega) (by decide) (by decide) ?_
  refine g_astore_n (lv' := [(3, .ref (ad o 87)), (2, .ref (ad o 64)), (1, .ref (ad o 0)), (0, .ref b)]) C d_L_law_39 rfl (by decide) rfl ?_
  refine g_iconst (v := 2) C rfl d_L_law_40 ?_
  refine g_topi (fun y e_y => ?_)
  refine g_istore (lv' := [(4, .int y), (3, .ref (ad o 87)), (2, .ref (ad o 64)), (1, .ref (ad o 0)), (0, .ref b)]) C d_L_law_41 (by decide) rfl ?_
  refine g_pick [4, 3, 2, 1, 0] rfl ?_
  exact law_loop C hfl hNC hX hb hbo hL hend 513 2 _ _ (Z0 (cv L xv 0) (cv L xv 1)) _ _ e_y (by omega) (by omega) (by omega) (by omega) ⟨Iv0 _ _, EW_mv eW (fun j q => up_ne (by omega) ((mF j q).trans (up_ne (by omega) rfl))), ⟨0, MW_mv mW (fun j a b => up_ne (by omega) rfl)⟩, ⟨_, up_eq _ _ _⟩⟩

