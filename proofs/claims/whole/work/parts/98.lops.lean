-- THE LAW, CALL BY CALL
def LI (sg : Nat → va_E) (o : Nat) (Z : ZS) : Prop := IvZ Z ∧ EW sg o Z ∧ (∃ t0, MW sg o 64 t0 Z) ∧ ∃ g, sg 87 = eJ 1 g
theorem MW_mv {s s' : Nat → va_E} {o m : Nat} {t : Int32} {Z : ZS} (h : MW s o m t Z) (e : ∀ j, m ≤ j → j ≤ m + 22 → s' j = s j) : MW s' o m t Z := ⟨(e m (by omega) (by omega)).trans h.1, MA_mv h.2.1 (fun j a b => e j (by omega) (by omega)), MX_mv h.2.2 (fun j a b => e j (by omega) (by omega))⟩
theorem k_of {k : Nat} (h : k ≤ 4) (e : nI k = 0) : k = 0 := (nI_eq (b := 0) (by omega) (by decide)).mp e
theorem op_pos {l : Launch} {o : Nat} {sg : Nat → va_E} {Z : ZS} (hI : IvZ Z) (hW : EW sg o Z) (a b c d x : Int32) : ∃ v : Int64, GM l y_E_position b_E_position 7 (some .long) 3 61 0 0 o 88 88 sg false [.ref (ad o 0), .int a, .int b, .int c, .int d, .int x] (gR (some (.long v)) sg) ∧ ∀ (sg' : Nat → va_E) (t0 : Int32), MW sg' o 64 t0 Z → GM l y_M_position b_M_position 7 (some .long) 2 37 0 0 o 88 88 sg' false [.ref (ad o 64), .int a, .int b, .int c, .int d, .int x] (fun r0 s => some (.long v) = r0 ∧ MW s o 64 0 Z ∧ mfr sg' s 64) := by
  by_cases h : zFind Z a b c d = none ∨ x < 0 ∨ 2 < x
  · exact ⟨0, c_E_pos0 a b c d x (by decide) hW hI.1.2.1 h, fun sg' t0 hM => c_M_pos0 a b c d x (by decide) hM h⟩
  · rcases opt_or (zFind Z a b c d) with e | ⟨k, e⟩
    · exact absurd (Or.inl e) h
    · obtain ⟨X, hX, rfl⟩ := nneg (x := x) (fun q => h (Or.inr (Or.inl q)))
      have hX2 : X ≤ 2 := Nat.le_of_not_lt (fun q => h (Or.inr (Or.inr (nI_lt (a := 2) q (by omega)))))
      exact ⟨_, c_E_pos a b c d k X (by decide) hW hI.1.2.1 e hX2, fun sg' t0 hM => c_M_pos a b c d k X (by decide) hM e hX2⟩
set_option maxHeartbeats 4000000 in
theorem lop_give {K : GX} {o b L j c sl : Nat} {xv : Nat → Int32} {sg : Nat → va_E} {Z : ZS} (C : GOk K b_L_law 8 y_L_law.cls room_1 o) (hfl : (xl K).flags = flags0) (hNC : gNC (xs K)) (hX : va_X b L xv (xs K) (xs K).heap) (hb : b < (xs K).heap.size) (hbo : b < o) (hj : j + 6 ≤ L) (hL : L ≤ 3074) (hI : LI sg o Z) (hc : c + 1 ≤ 601024) (hs : sl + 6 ≤ 7293000) (kont : ∀ sg' Z', LI sg' o Z' → G K o 88 sg' (c + 1) (sl + 6) 1152 [(0, .ref b), (1, .ref (ad o 0)), (2, .ref (ad o 64)), (3, .ref (ad o 87)), (4, .int (nI j))] []) : G K o 88 sg c sl 132 [(0, .ref b), (1, .ref (ad o 0)), (2, .ref (ad o 64)), (3, .ref (ad o 87)), (4, .int (nI j))] [] := by
  obtain ⟨hIv, hW, ⟨t0, hM⟩, g87, h87⟩ := hI
  have i1 : vp_in (nI j + 1) L := by rw [show (1 : Int32) = nI 1 from rfl, nI_add]; exact vp_in_nI (by omega) (by omega)
  have i2 : vp_in (nI j + 2) L := by rw [show (2 : Int32) = nI 2 from rfl, nI_add]; exact vp_in_nI (by omega) (by omega)
  have i3 : vp_in (nI j + 3) L := by rw [show (3 : Int32) = nI 3 from rfl, nI_add]; exact vp_in_nI (by omega) (by omega)
  obtain ⟨k, v, w, Z', hI', hvw, hk4, hWr, hMo⟩ := op_give hfl hIv hW h87 (xv (nI j + 1).toNatClampNeg) (xv (nI j + 2).toNatClampNeg) (xv (nI j + 3).toNatClampNeg)
  refine g_aload_n C rfl rfl d_L_law_132 ?_
  refine g_aload_n C rfl rfl d_L_law_133 ?_
  refine g_iload C rfl d_L_law_134 ?_
  refine g_iconst (v := 1) C rfl d_L_law_136 ?_
  refine g_iadd C d_L_law_137 ?_
  refine g_xald C hX hb hbo (by first | assumption | (unfold vp_in; decide)) d_L_law_138 ?_
  refine g_aload_n C rfl rfl d_L_law_139 ?_
  refine g_iload C rfl d_L_law_140 ?_
  refine g_iconst (v := 2) C rfl d_L_law_142 ?_
  refine g_iadd C d_L_law_143 ?_
  refine g_xald C hX hb hbo (by first | assumption | (unfold vp_in; decide)) d_L_law_144 ?_
  refine g_aload_n C rfl rfl d_L_law_145 ?_
  refine g_iload C rfl d_L_law_146 ?_
  refine g_iconst (v := 3) C rfl d_L_law_148 ?_
  refine g_iadd C d_L_law_149 ?_
  refine g_xald C hX hb hbo (by first | assumption | (unfold vp_in; decide)) d_L_law_150 ?_
  refine g_aload_n C rfl rfl d_L_law_151 ?_
  refine g_callSW C hNC (hWr) YW_give m_233 m_232 ⟨by decide, by decide⟩ ⟨by show _ ≤ 601024; omega, by show _ ≤ 7293000; omega⟩ d_L_law_152 rfl (Nat.le_of_ble_eq_true rfl) (fun ret sg152 hq => ?_)
  obtain ⟨rfl, wE, ⟨g, w87, wv⟩, wF⟩ := hq
  have mW := MW_mv hM (s' := sg152) (fun j a b => wF j (by omega) (by omega))
  have m0 : sg152 64 = _ := mW.1
  refine g_istore (lv' := [(5, .int (nI k)), (0, .ref b), (1, .ref (ad o 0)), (2, .ref (ad o 64)), (3, .ref (ad o 87)), (4, .int (nI j))]) C d_L_law_155 (by decide) rfl ?_
  refine g_aload_n C rfl rfl d_L_law_157 ?_
  refine g_aload_n C rfl rfl d_L_law_158 ?_
  refine g_iload C rfl d_L_law_159 ?_
  refine g_iconst (v := 1) C rfl d_L_law_161 ?_
  refine g_iadd C d_L_law_162 ?_
  refine g_xald C hX hb hbo (by first | assumption | (unfold vp_in; decide)) d_L_law_163 ?_
  refine g_aload_n C rfl rfl d_L_law_164 ?_
  refine g_iload C rfl d_L_law_165 ?_
  refine g_iconst (v := 2) C rfl d_L_law_167 ?_
  refine g_iadd C d_L_law_168 ?_
  refine g_xald C hX hb hbo (by first | assumption | (unfold vp_in; decide)) d_L_law_169 ?_
  refine g_aload_n C rfl rfl d_L_law_170 ?_
  refine g_iload C rfl d_L_law_171 ?_
  refine g_iconst (v := 3) C rfl d_L_law_173 ?_
  refine g_iadd C d_L_law_174 ?_
  refine g_xald C hX hb hbo (by first | assumption | (unfold vp_in; decide)) d_L_law_175 ?_
  refine g_callV C (hMo sg152 t0 mW) Y_M_give m_722 m_723 m_721 rfl rfl ⟨by decide, by decide⟩ ⟨by show _ ≤ 601024; omega, by show _ ≤ 7293000; omega⟩ (fun h => nomatch h) d_L_law_176 (by first | assumption | omega) (by repeat' first | assumption | exact up_eq _ _ _ | refine up_ne (by omega) ?_) rfl (Nat.le_of_ble_eq_true rfl) (fun ret sg176 hq => ?_)
  obtain ⟨rfl, nW, nF⟩ := hq
  have n0 : sg176 64 = _ := nW.1
  have n87 : sg176 87 = eJ 1 g := (nF 87 (Or.inr (by omega))).trans w87
  refine g_lstore (lv' := [(6, .long w), (5, .int (nI k)), (0, .ref b), (1, .ref (ad o 0)), (2, .ref (ad o 64)), (3, .ref (ad o 87)), (4, .int (nI j))]) C d_L_law_179 (by decide) rfl ?_
  refine g_aload_n C rfl rfl d_L_law_181 ?_
  refine g_callV C (c_M_thrown (by decide) nW.1) Y_M_thrown m_718 m_719 m_717 rfl rfl ⟨by decide, by decide⟩ ⟨by show _ ≤ 601024; omega, by show _ ≤ 7293000; omega⟩ (fun h => nomatch h) d_L_law_182 (by first | assumption | omega) (by repeat' first | assumption | exact up_eq _ _ _ | refine up_ne (by omega) ?_) rfl (Nat.le_of_ble_eq_true rfl) (fun ret sg182 hq => ?_)
  obtain ⟨rfl, rfl⟩ := hq
  refine g_iload C rfl d_L_law_185 ?_
  refine g_icmp_eq (tgt := 192) C d_L_law_187 (by decide) (fun j187 => ?_) (fun j187 => ?_)
  rotate_left
  · exact absurd rfl j187
  refine g_iload C rfl d_L_law_192 ?_
  refine g_if_ne (tgt := 208) C d_L_law_194 (by decide) (fun j194 => ?_) (fun j194 => ?_)
  · refine g_goto (tgt := 1152) C d_L_law_208 (by decide) ?_
    refine g_pick [2, 3, 4, 5, 6] rfl ?_
    exact kont _ Z' ⟨hI', EW_mv wE (fun j q => nF j (Or.inl q)), ⟨_, nW⟩, ⟨_, n87⟩⟩
  · refine g_aload_n C rfl rfl d_L_law_197 ?_
    refine g_iconst (v := 0) C rfl d_L_law_198 ?_
    refine g_lald C d_L_law_199 (by first | assumption | omega) (by repeat' first | assumption | exact up_eq _ _ _ | refine up_ne (by omega) ?_) (vp_in_nI (n := 0) (by decide) (by decide)) ?_
    rw [show (0 : Int32).toNatClampNeg = 0 from rfl, wv (k_of hk4 j194), hvw (k_of hk4 j194)]
    refine g_lload C rfl d_L_law_200 ?_
    refine g_lcmp_eq (tgt := 208) C d_L_law_202 d_L_law_203 (by decide) (fun j202 => ?_) (fun j202 => ?_)
    rotate_left
    · exact absurd rfl j202
    refine g_goto (tgt := 1152) C d_L_law_208 (by decide) ?_
    refine g_pick [2, 3, 4, 5, 6] rfl ?_
    exact kont _ Z' ⟨hI', EW_mv wE (fun j q => nF j (Or.inl q)), ⟨_, nW⟩, ⟨_, n87⟩⟩
set_option maxHeartbeats 4000000 in
theorem lop_balance {K : GX} {o b L j c sl : Nat} {xv : Nat → Int32} {sg : Nat → va_E} {Z : ZS} (C : GOk K b_L_law 8 y_L_law.cls room_1 o) (hfl : (xl K).flags = flags0) (hNC : gNC (xs K)) (hX : va_X b L xv (xs K) (xs K).heap) (hb : b < (xs K).heap.size) (hbo : b < o) (hj : j + 6 ≤ L) (hL : L ≤ 3074) (hI : LI sg o Z) (hc : c + 1 ≤ 601024) (hs : sl + 6 ≤ 7293000) (kont : ∀ sg' Z', LI sg' o Z' → G K o 88 sg' (c + 1) (sl + 6) 1152 [(0, .ref b), (1, .ref (ad o 0)), (2, .ref (ad o 64)), (3, .ref (ad o 87)), (4, .int (nI j))] []) : G K o 88 sg c sl 211 [(0, .ref b), (1, .ref (ad o 0)), (2, .ref (ad o 64)), (3, .ref (ad o 87)), (4, .int (nI j))] [] := by
  obtain ⟨hIv, hW, ⟨t0, hM⟩, g87, h87⟩ := hI
  have i1 : vp_in (nI j + 1) L := by rw [show (1 : Int32) = nI 1 from rfl, nI_add]; exact vp_in_nI (by omega) (by omega)
  have i2 : vp_in (nI j + 2) L := by rw [show (2 : Int32) = nI 2 from rfl, nI_add]; exact vp_in_nI (by omega) (by omega)
  obtain ⟨k, v, w, Z', hI', hvw, hk4, hWr, hMo⟩ := op_balance hfl hIv hW h87 (xv (nI j + 1).toNatClampNeg) (xv (nI j + 2).toNatClampNeg)
  refine g_aload_n C rfl rfl d_L_law_211 ?_
  refine g_aload_n C rfl rfl d_L_law_212 ?_
  refine g_iload C rfl d_L_law_213 ?_
  refine g_iconst (v := 1) C rfl d_L_law_215 ?_
  refine g_iadd C d_L_law_216 ?_
  refine g_xald C hX hb hbo (by first | assumption | (unfold vp_in; decide)) d_L_law_217 ?_
  refine g_aload_n C rfl rfl d_L_law_218 ?_
  refine g_iload C rfl d_L_law_219 ?_
  refine g_iconst (v := 2) C rfl d_L_law_221 ?_
  refine g_iadd C d_L_law_222 ?_
  refine g_xald C hX hb hbo (by first | assumption | (unfold vp_in; decide)) d_L_law_223 ?_
  refine g_aload_n C rfl rfl d_L_law_224 ?_
  refine g_callSW C hNC (hWr) YW_balance m_328 m_327 ⟨by decide, by decide⟩ ⟨by show _ ≤ 601024; omega, by show _ ≤ 7293000; omega⟩ d_L_law_225 rfl (Nat.le_of_ble_eq_true rfl) (fun ret sg225 hq => ?_)
  obtain ⟨rfl, wE, ⟨g, w87, wv⟩, wF⟩ := hq
  have mW := MW_mv hM (s' := sg225) (fun j a b => wF j (by omega) (by omega))
  have m0 : sg225 64 = _ := mW.1
  refine g_istore (lv' := [(5, .int (nI k)), (0, .ref b), (1, .ref (ad o 0)), (2, .ref (ad o 64)), (3, .ref (ad o 87)), (4, .int (nI j))]) C d_L_law_228 (by decide) rfl ?_
  refine g_aload_n C rfl rfl d_L_law_230 ?_
  refine g_aload_n C rfl rfl d_L_law_231 ?_
  refine g_iload C rfl d_L_law_232 ?_
  refine g_iconst (v := 1) C rfl d_L_law_234 ?_
  refine g_iadd C d_L_law_235 ?_
  refine g_xald C hX hb hbo (by first | assumption | (unfold vp_in; decide)) d_L_law_236 ?_
  refine g_aload_n C rfl rfl d_L_law_237 ?_
  refine g_iload C rfl d_L_law_238 ?_
  refine g_iconst (v := 2) C rfl d_L_law_240 ?_
  refine g_iadd C d_L_law_241 ?_
  refine g_xald C hX hb hbo (by first | assumption | (unfold vp_in; decide)) d_L_law_242 ?_
  refine g_callV C (hMo sg225 t0 mW) Y_M_balance m_733 m_734 m_732 rfl rfl ⟨by decide, by decide⟩ ⟨by show _ ≤ 601024; omega, by show _ ≤ 7293000; omega⟩ (fun h => nomatch h) d_L_law_243 (by first | assumption | omega) (by repeat' first | assumption | exact up_eq _ _ _ | refine up_ne (by omega) ?_) rfl (Nat.le_of_ble_eq_true rfl) (fun ret sg243 hq => ?_)
  obtain ⟨rfl, nW, nF⟩ := hq
  have n0 : sg243 64 = _ := nW.1
  have n87 : sg243 87 = eJ 1 g := (nF 87 (Or.inr (by omega))).trans w87
  refine g_lstore (lv' := [(6, .long w), (5, .int (nI k)), (0, .ref b), (1, .ref (ad o 0)), (2, .ref (ad o 64)), (3, .ref (ad o 87)), (4, .int (nI j))]) C d_L_law_246 (by decide) rfl ?_
  refine g_aload_n C rfl rfl d_L_law_248 ?_
  refine g_callV C (c_M_thrown (by decide) nW.1) Y_M_thrown m_718 m_719 m_717 rfl rfl ⟨by decide, by decide⟩ ⟨by show _ ≤ 601024; omega, by show _ ≤ 7293000; omega⟩ (fun h => nomatch h) d_L_law_249 (by first | assumption | omega) (by repeat' first | assumption | exact up_eq _ _ _ | refine up_ne (by omega) ?_) rfl (Nat.le_of_ble_eq_true rfl) (fun ret sg249 hq => ?_)
  obtain ⟨rfl, rfl⟩ := hq
  refine g_iload C rfl d_L_law_252 ?_
  refine g_icmp_eq (tgt := 259) C d_L_law_254 (by decide) (fun j254 => ?_) (fun j254 => ?_)
  rotate_left
  · exact absurd rfl j254
  refine g_iload C rfl d_L_law_259 ?_
  refine g_if_ne (tgt := 275) C d_L_law_261 (by decide) (fun j261 => ?_) (fun j261 => ?_)
  · refine g_goto (tgt := 1152) C d_L_law_275 (by decide) ?_
    refine g_pick [2, 3, 4, 5, 6] rfl ?_
    exact kont _ Z' ⟨hI', EW_mv wE (fun j q => nF j (Or.inl q)), ⟨_, nW⟩, ⟨_, n87⟩⟩
  · refine g_aload_n C rfl rfl d_L_law_264 ?_
    refine g_iconst (v := 0) C rfl d_L_law_265 ?_
    refine g_lald C d_L_law_266 (by first | assumption | omega) (by repeat' first | assumption | exact up_eq _ _ _ | refine up_ne (by omega) ?_) (vp_in_nI (n := 0) (by decide) (by decide)) ?_
    rw [show (0 : Int32).toNatClampNeg = 0 from rfl, wv (k_of hk4 j261), hvw (k_of hk4 j261)]
    refine g_lload C rfl d_L_law_267 ?_
    refine g_lcmp_eq (tgt := 275) C d_L_law_269 d_L_law_270 (by decide) (fun j269 => ?_) (fun j269 => ?_)
    rotate_left
    · exact absurd rfl j269
    refine g_goto (tgt := 1152) C d_L_law_275 (by decide) ?_
    refine g_pick [2, 3, 4, 5, 6] rfl ?_
    exact kont _ Z' ⟨hI', EW_mv wE (fun j q => nF j (Or.inl q)), ⟨_, nW⟩, ⟨_, n87⟩⟩
set_option maxHeartbeats 4000000 in
theorem lop_mint {K : GX} {o b L j c sl : Nat} {xv : Nat → Int32} {sg : Nat → va_E} {Z : ZS} (C : GOk K b_L_law 8 y_L_law.cls room_1 o) (hfl : (xl K).flags = flags0) (hNC : gNC (xs K)) (hX : va_X b L xv (xs K) (xs K).heap) (hb : b < (xs K).heap.size) (hbo : b < o) (hj : j + 6 ≤ L) (hL : L ≤ 3074) (hI : LI sg o Z) (hc : c + 1 ≤ 601024) (hs : sl + 6 ≤ 7293000) (kont : ∀ sg' Z', LI sg' o Z' → G K o 88 sg' (c + 1) (sl + 6) 1152 [(0, .ref b), (1, .ref (ad o 0)), (2, .ref (ad o 64)), (3, .ref (ad o 87)), (4, .int (nI j))] []) : G K o 88 sg c sl 278 [(0, .ref b), (1, .ref (ad o 0)), (2, .ref (ad o 64)), (3, .ref (ad o 87)), (4, .int (nI j))] [] := by
  obtain ⟨hIv, hW, ⟨t0, hM⟩, g87, h87⟩ := hI
  have i1 : vp_in (nI j + 1) L := by rw [show (1 : Int32) = nI 1 from rfl, nI_add]; exact vp_in_nI (by omega) (by omega)
  have i2 : vp_in (nI j + 2) L := by rw [show (2 : Int32) = nI 2 from rfl, nI_add]; exact vp_in_nI (by omega) (by omega)
  have i3 : vp_in (nI j + 3) L := by rw [show (3 : Int32) = nI 3 from rfl, nI_add]; exact vp_in_nI (by omega) (by omega)
  have i4 : vp_in (nI j + 4) L := by rw [show (4 : Int32) = nI 4 from rfl, nI_add]; exact vp_in_nI (by omega) (by omega)
  have i5 : vp_in (nI j + 5) L := by rw [show (5 : Int32) = nI 5 from rfl, nI_add]; exact vp_in_nI (by omega) (by omega)
  obtain ⟨k, v, w, Z', hI', hvw, hk4, hWr, hMo⟩ := op_mint hfl hIv hW h87 (xv (nI j + 1).toNatClampNeg) (xv (nI j + 2).toNatClampNeg) (xv (nI j + 3).toNatClampNeg) (xv (nI j + 4).toNatClampNeg) (xv (nI j + 5).toNatClampNeg)
  refine g_aload_n C rfl rfl d_L_law_278 ?_
  refine g_aload_n C rfl rfl d_L_law_279 ?_
  refine g_iload C rfl d_L_law_280 ?_
  refine g_iconst (v := 1) C rfl d_L_law_282 ?_
  refine g_iadd C d_L_law_283 ?_
  refine g_xald C hX hb hbo (by first | assumption | (unfold vp_in; decide)) d_L_law_284 ?_
  refine g_aload_n C rfl rfl d_L_law_285 ?_
  refine g_iload C rfl d_L_law_286 ?_
  refine g_iconst (v := 2) C rfl d_L_law_288 ?_
  refine g_iadd C d_L_law_289 ?_
  refine g_xald C hX hb hbo (by first | assumption | (unfold vp_in; decide)) d_L_law_290 ?_
  refine g_aload_n C rfl rfl d_L_law_291 ?_
  refine g_iload C rfl d_L_law_292 ?_
  refine g_iconst (v := 3) C rfl d_L_law_294 ?_
  refine g_iadd C d_L_law_295 ?_
  refine g_xald C hX hb hbo (by first | assumption | (unfold vp_in; decide)) d_L_law_296 ?_
  refine g_aload_n C rfl rfl d_L_law_297 ?_
  refine g_iload C rfl d_L_law_298 ?_
  refine g_iconst (v := 4) C rfl d_L_law_300 ?_
  refine g_iadd C d_L_law_301 ?_
  refine g_xald C hX hb hbo (by first | assumption | (unfold vp_in; decide)) d_L_law_302 ?_
  refine g_aload_n C rfl rfl d_L_law_303 ?_
  refine g_iload C rfl d_L_law_304 ?_
  refine g_iconst (v := 5) C rfl d_L_law_306 ?_
  refine g_iadd C d_L_law_307 ?_
  refine g_xald C hX hb hbo (by first | assumption | (unfold vp_in; decide)) d_L_law_308 ?_
  refine g_aload_n C rfl rfl d_L_law_309 ?_
  refine g_callSW C hNC (hWr) YW_mint m_335 m_334 ⟨by decide, by decide⟩ ⟨by show _ ≤ 601024; omega, by show _ ≤ 7293000; omega⟩ d_L_law_310 rfl (Nat.le_of_ble_eq_true rfl) (fun ret sg310 hq => ?_)
  obtain ⟨rfl, wE, ⟨g, w87, wv⟩, wF⟩ := hq
  have mW := MW_mv hM (s' := sg310) (fun j a b => wF j (by omega) (by omega))
  have m0 : sg310 64 = _ := mW.1
  refine g_istore (lv' := [(5, .int (nI k)), (0, .ref b), (1, .ref (ad o 0)), (2, .ref (ad o 64)), (3, .ref (ad o 87)), (4, .int (nI j))]) C d_L_law_313 (by decide) rfl ?_
  refine g_aload_n C rfl rfl d_L_law_315 ?_
  refine g_aload_n C rfl rfl d_L_law_316 ?_
  refine g_iload C rfl d_L_law_317 ?_
  refine g_iconst (v := 1) C rfl d_L_law_319 ?_
  refine g_iadd C d_L_law_320 ?_
  refine g_xald C hX hb hbo (by first | assumption | (unfold vp_in; decide)) d_L_law_321 ?_
  refine g_aload_n C rfl rfl d_L_law_322 ?_
  refine g_iload C rfl d_L_law_323 ?_
  refine g_iconst (v := 2) C rfl d_L_law_325 ?_
  refine g_iadd C d_L_law_326 ?_
  refine g_xald C hX hb hbo (by first | assumption | (unfold vp_in; decide)) d_L_law_327 ?_
  refine g_aload_n C rfl rfl d_L_law_328 ?_
  refine g_iload C rfl d_L_law_329 ?_
  refine g_iconst (v := 3) C rfl d_L_law_331 ?_
  refine g_iadd C d_L_law_332 ?_
  refine g_xald C hX hb hbo (by first | assumption | (unfold vp_in; decide)) d_L_law_333 ?_
  refine g_aload_n C rfl rfl d_L_law_334 ?_
  refine g_iload C rfl d_L_law_335 ?_
  refine g_iconst (v := 4) C rfl d_L_law_337 ?_
  refine g_iadd C d_L_law_338 ?_
  refine g_xald C hX hb hbo (by first | assumption | (unfold vp_in; decide)) d_L_law_339 ?_
  refine g_aload_n C rfl rfl d_L_law_340 ?_
  refine g_iload C rfl d_L_law_341 ?_
  refine g_iconst (v := 5) C rfl d_L_law_343 ?_
  refine g_iadd C d_L_law_344 ?_
  refine g_xald C hX hb hbo (by first | assumption | (unfold vp_in; decide)) d_L_law_345 ?_
  refine g_callV C (hMo sg310 t0 mW) Y_M_mint m_737 m_738 m_736 rfl rfl ⟨by decide, by decide⟩ ⟨by show _ ≤ 601024; omega, by show _ ≤ 7293000; omega⟩ (fun h => nomatch h) d_L_law_346 (by first | assumption | omega) (by repeat' first | assumption | exact up_eq _ _ _ | refine up_ne (by omega) ?_) rfl (Nat.le_of_ble_eq_true rfl) (fun ret sg346 hq => ?_)
  obtain ⟨rfl, nW, nF⟩ := hq
  have n0 : sg346 64 = _ := nW.1
  have n87 : sg346 87 = eJ 1 g := (nF 87 (Or.inr (by omega))).trans w87
  refine g_istore (lv' := [(6, .int w), (5, .int (nI k)), (0, .ref b), (1, .ref (ad o 0)), (2, .ref (ad o 64)), (3, .ref (ad o 87)), (4, .int (nI j))]) C d_L_law_349 (by decide) rfl ?_
  refine g_aload_n C rfl rfl d_L_law_351 ?_
  refine g_callV C (c_M_thrown (by decide) nW.1) Y_M_thrown m_718 m_719 m_717 rfl rfl ⟨by decide, by decide⟩ ⟨by show _ ≤ 601024; omega, by show _ ≤ 7293000; omega⟩ (fun h => nomatch h) d_L_law_352 (by first | assumption | omega) (by repeat' first | assumption | exact up_eq _ _ _ | refine up_ne (by omega) ?_) rfl (Nat.le_of_ble_eq_true rfl) (fun ret sg352 hq => ?_)
  obtain ⟨rfl, rfl⟩ := hq
  refine g_iload C rfl d_L_law_355 ?_
  refine g_icmp_eq (tgt := 362) C d_L_law_357 (by decide) (fun j357 => ?_) (fun j357 => ?_)
  rotate_left
  · exact absurd rfl j357
  refine g_iload C rfl d_L_law_362 ?_
  refine g_if_ne (tgt := 379) C d_L_law_364 (by decide) (fun j364 => ?_) (fun j364 => ?_)
  · refine g_goto (tgt := 1152) C d_L_law_379 (by decide) ?_
    refine g_pick [2, 3, 4, 5, 6] rfl ?_
    exact kont _ Z' ⟨hI', EW_mv wE (fun j q => nF j (Or.inl q)), ⟨_, nW⟩, ⟨_, n87⟩⟩
  · refine g_aload_n C rfl rfl d_L_law_367 ?_
    refine g_iconst (v := 0) C rfl d_L_law_368 ?_
    refine g_lald C d_L_law_369 (by first | assumption | omega) (by repeat' first | assumption | exact up_eq _ _ _ | refine up_ne (by omega) ?_) (vp_in_nI (n := 0) (by decide) (by decide)) ?_
    rw [show (0 : Int32).toNatClampNeg = 0 from rfl, wv (k_of hk4 j364), hvw (k_of hk4 j364)]
    refine g_iload C rfl d_L_law_370 ?_
    refine g_i2l C d_L_law_372 ?_
    refine g_lcmp_eq (tgt := 379) C d_L_law_373 d_L_law_374 (by decide) (fun j373 => ?_) (fun j373 => ?_)
    rotate_left
    · exact absurd rfl j373
    refine g_goto (tgt := 1152) C d_L_law_379 (by decide) ?_
    refine g_pick [2, 3, 4, 5, 6] rfl ?_
    exact kont _ Z' ⟨hI', EW_mv wE (fun j q => nF j (Or.inl q)), ⟨_, nW⟩, ⟨_, n87⟩⟩
set_option maxHeartbeats 4000000 in
theorem lop_burn {K : GX} {o b L j c sl : Nat} {xv : Nat → Int32} {sg : Nat → va_E} {Z : ZS} (C : GOk K b_L_law 8 y_L_law.cls room_1 o) (hfl : (xl K).flags = flags0) (hNC : gNC (xs K)) (hX : va_X b L xv (xs K) (xs K).heap) (hb : b < (xs K).heap.size) (hbo : b < o) (hj : j + 6 ≤ L) (hL : L ≤ 3074) (hI : LI sg o Z) (hc : c + 1 ≤ 601024) (hs : sl + 6 ≤ 7293000) (kont : ∀ sg' Z', LI sg' o Z' → G K o 88 sg' (c + 1) (sl + 6) 1152 [(0, .ref b), (1, .ref (ad o 0)), (2, .ref (ad o 64)), (3, .ref (ad o 87)), (4, .int (nI j))] []) : G K o 88 sg c sl 382 [(0, .ref b), (1, .ref (ad o 0)), (2, .ref (ad o 64)), (3, .ref (ad o 87)), (4, .int (nI j))] [] := by
  obtain ⟨hIv, hW, ⟨t0, hM⟩, g87, h87⟩ := hI
  have i1 : vp_in (nI j + 1) L := by rw [show (1 : Int32) = nI 1 from rfl, nI_add]; exact vp_in_nI (by omega) (by omega)
  have i2 : vp_in (nI j + 2) L := by rw [show (2 : Int32) = nI 2 from rfl, nI_add]; exact vp_in_nI (by omega) (by omega)
  have i3 : vp_in (nI j + 3) L := by rw [show (3 : Int32) = nI 3 from rfl, nI_add]; exact vp_in_nI (by omega) (by omega)
  have i4 : vp_in (nI j + 4) L := by rw [show (4 : Int32) = nI 4 from rfl, nI_add]; exact vp_in_nI (by omega) (by omega)
  have i5 : vp_in (nI j + 5) L := by rw [show (5 : Int32) = nI 5 from rfl, nI_add]; exact vp_in_nI (by omega) (by omega)
  obtain ⟨k, v, w, Z', hI', hvw, hk4, hWr, hMo⟩ := op_burn hfl hIv hW h87 (xv (nI j + 1).toNatClampNeg) (xv (nI j + 2).toNatClampNeg) (xv (nI j + 3).toNatClampNeg) (xv (nI j + 4).toNatClampNeg) (xv (nI j + 5).toNatClampNeg)
  refine g_aload_n C rfl rfl d_L_law_382 ?_
  refine g_aload_n C rfl rfl d_L_law_383 ?_
  refine g_iload C rfl d_L_law_384 ?_
  refine g_iconst (v := 1) C rfl d_L_law_386 ?_
  refine g_iadd C d_L_law_387 ?_
  refine g_xald C hX hb hbo (by first | assumption | (unfold vp_in; decide)) d_L_law_388 ?_
  refine g_aload_n C rfl rfl d_L_law_389 ?_
  refine g_iload C rfl d_L_law_390 ?_
  refine g_iconst (v := 2) C rfl d_L_law_392 ?_
  refine g_iadd C d_L_law_393 ?_
  refine g_xald C hX hb hbo (by first | assumption | (unfold vp_in; decide)) d_L_law_394 ?_
  refine g_aload_n C rfl rfl d_L_law_395 ?_
  refine g_iload C rfl d_L_law_396 ?_
  refine g_iconst (v := 3) C rfl d_L_law_398 ?_
  refine g_iadd C d_L_law_399 ?_
  refine g_xald C hX hb hbo (by first | assumption | (unfold vp_in; decide)) d_L_law_400 ?_
  refine g_aload_n C rfl rfl d_L_law_401 ?_
  refine g_iload C rfl d_L_law_402 ?_
  refine g_iconst (v := 4) C rfl d_L_law_404 ?_
  refine g_iadd C d_L_law_405 ?_
  refine g_xald C hX hb hbo (by first | assumption | (unfold vp_in; decide)) d_L_law_406 ?_
  refine g_aload_n C rfl rfl d_L_law_407 ?_
  refine g_iload C rfl d_L_law_408 ?_
  refine g_iconst (v := 5) C rfl d_L_law_410 ?_
  refine g_iadd C d_L_law_411 ?_
  refine g_xald C hX hb hbo (by first | assumption | (unfold vp_in; decide)) d_L_law_412 ?_
  refine g_aload_n C rfl rfl d_L_law_413 ?_
  refine g_callSW C hNC (hWr) YW_burn m_454 m_453 ⟨by decide, by decide⟩ ⟨by show _ ≤ 601024; omega, by show _ ≤ 7293000; omega⟩ d_L_law_414 rfl (Nat.le_of_ble_eq_true rfl) (fun ret sg414 hq => ?_)
  obtain ⟨rfl, wE, ⟨g, w87, wv⟩, wF⟩ := hq
  have mW := MW_mv hM (s' := sg414) (fun j a b => wF j (by omega) (by omega))
  have m0 : sg414 64 = _ := mW.1
  refine g_istore (lv' := [(5, .int (nI k)), (0, .ref b), (1, .ref (ad o 0)), (2, .ref (ad o 64)), (3, .ref (ad o 87)), (4, .int (nI j))]) C d_L_law_417 (by decide) rfl ?_
  refine g_aload_n C rfl rfl d_L_law_419 ?_
  refine g_aload_n C rfl rfl d_L_law_420 ?_
  refine g_iload C rfl d_L_law_421 ?_
  refine g_iconst (v := 1) C rfl d_L_law_423 ?_
  refine g_iadd C d_L_law_424 ?_
  refine g_xald C hX hb hbo (by first | assumption | (unfold vp_in; decide)) d_L_law_425 ?_
  refine g_aload_n C rfl rfl d_L_law_426 ?_
  refine g_iload C rfl d_L_law_427 ?_
  refine g_iconst (v := 2) C rfl d_L_law_429 ?_
  refine g_iadd C d_L_law_430 ?_
  refine g_xald C hX hb hbo (by first | assumption | (unfold vp_in; decide)) d_L_law_431 ?_
  refine g_aload_n C rfl rfl d_L_law_432 ?_
  refine g_iload C rfl d_L_law_433 ?_
  refine g_iconst (v := 3) C rfl d_L_law_435 ?_
  refine g_iadd C d_L_law_436 ?_
  refine g_xald C hX hb hbo (by first | assumption | (unfold vp_in; decide)) d_L_law_437 ?_
  refine g_aload_n C rfl rfl d_L_law_438 ?_
  refine g_iload C rfl d_L_law_439 ?_
  refine g_iconst (v := 4) C rfl d_L_law_441 ?_
  refine g_iadd C d_L_law_442 ?_
  refine g_xald C hX hb hbo (by first | assumption | (unfold vp_in; decide)) d_L_law_443 ?_
  refine g_aload_n C rfl rfl d_L_law_444 ?_
  refine g_iload C rfl d_L_law_445 ?_
  refine g_iconst (v := 5) C rfl d_L_law_447 ?_
  refine g_iadd C d_L_law_448 ?_
  refine g_xald C hX hb hbo (by first | assumption | (unfold vp_in; decide)) d_L_law_449 ?_
  refine g_callV C (hMo sg414 t0 mW) Y_M_burn m_794 m_795 m_793 rfl rfl ⟨by decide, by decide⟩ ⟨by show _ ≤ 601024; omega, by show _ ≤ 7293000; omega⟩ (fun h => nomatch h) d_L_law_450 (by first | assumption | omega) (by repeat' first | assumption | exact up_eq _ _ _ | refine up_ne (by omega) ?_) rfl (Nat.le_of_ble_eq_true rfl) (fun ret sg450 hq => ?_)
  obtain ⟨rfl, nW, nF⟩ := hq
  have n0 : sg450 64 = _ := nW.1
  have n87 : sg450 87 = eJ 1 g := (nF 87 (Or.inr (by omega))).trans w87
  refine g_istore (lv' := [(6, .int w), (5, .int (nI k)), (0, .ref b), (1, .ref (ad o 0)), (2, .ref (ad o 64)), (3, .ref (ad o 87)), (4, .int (nI j))]) C d_L_law_453 (by decide) rfl ?_
  refine g_aload_n C rfl rfl d_L_law_455 ?_
  refine g_callV C (c_M_thrown (by decide) nW.1) Y_M_thrown m_718 m_719 m_717 rfl rfl ⟨by decide, by decide⟩ ⟨by show _ ≤ 601024; omega, by show _ ≤ 7293000; omega⟩ (fun h => nomatch h) d_L_law_456 (by first | assumption | omega) (by repeat' first | assumption | exact up_eq _ _ _ | refine up_ne (by omega) ?_) rfl (Nat.le_of_ble_eq_true rfl) (fun ret sg456 hq => ?_)
  obtain ⟨rfl, rfl⟩ := hq
  refine g_iload C rfl d_L_law_459 ?_
  refine g_icmp_eq (tgt := 466) C d_L_law_461 (by decide) (fun j461 => ?_) (fun j461 => ?_)
  rotate_left
  · exact absurd rfl j461
  refine g_iload C rfl d_L_law_466 ?_
  refine g_if_ne (tgt := 483) C d_L_law_468 (by decide) (fun j468 => ?_) (fun j468 => ?_)
  · refine g_goto (tgt := 1152) C d_L_law_483 (by decide) ?_
    refine g_pick [2, 3, 4, 5, 6] rfl ?_
    exact kont _ Z' ⟨hI', EW_mv wE (fun j q => nF j (Or.inl q)), ⟨_, nW⟩, ⟨_, n87⟩⟩
  · refine g_aload_n C rfl rfl d_L_law_471 ?_
    refine g_iconst (v := 0) C rfl d_L_law_472 ?_
    refine g_lald C d_L_law_473 (by first | assumption | omega) (by repeat' first | assumption | exact up_eq _ _ _ | refine up_ne (by omega) ?_) (vp_in_nI (n := 0) (by decide) (by decide)) ?_
    rw [show (0 : Int32).toNatClampNeg = 0 from rfl, wv (k_of hk4 j468), hvw (k_of hk4 j468)]
    refine g_iload C rfl d_L_law_474 ?_
    refine g_i2l C d_L_law_476 ?_
    refine g_lcmp_eq (tgt := 483) C d_L_law_477 d_L_law_478 (by decide) (fun j477 => ?_) (fun j477 => ?_)
    rotate_left
    · exact absurd rfl j477
    refine g_goto (tgt := 1152) C d_L_law_483 (by decide) ?_
    refine g_pick [2, 3, 4, 5, 6] rfl ?_
    exact kont _ Z' ⟨hI', EW_mv wE (fun j q => nF j (Or.inl q)), ⟨_, nW⟩, ⟨_, n87⟩⟩
set_option maxHeartbeats 4000000 in
theorem lop_collect {K : GX} {o b L j c sl : Nat} {xv : Nat → Int32} {sg : Nat → va_E} {Z : ZS} (C : GOk K b_L_law 8 y_L_law.cls room_1 o) (hfl : (xl K).flags = flags0) (hNC : gNC (xs K)) (hX : va_X b L xv (xs K) (xs K).heap) (hb : b < (xs K).heap.size) (hbo : b < o) (hj : j + 6 ≤ L) (hL : L ≤ 3074) (hI : LI sg o Z) (hc : c + 1 ≤ 601024) (hs : sl + 6 ≤ 7293000) (kont : ∀ sg' Z', LI sg' o Z' → G K o 88 sg' (c + 1) (sl + 6) 1152 [(0, .ref b), (1, .ref (ad o 0)), (2, .ref (ad o 64)), (3, .ref (ad o 87)), (4, .int (nI j))] []) : G K o 88 sg c sl 486 [(0, .ref b), (1, .ref (ad o 0)), (2, .ref (ad o 64)), (3, .ref (ad o 87)), (4, .int (nI j))] [] := by
  obtain ⟨hIv, hW, ⟨t0, hM⟩, g87, h87⟩ := hI
  have i1 : vp_in (nI j + 1) L := by rw [show (1 : Int32) = nI 1 from rfl, nI_add]; exact vp_in_nI (by omega) (by omega)
  have i2 : vp_in (nI j + 2) L := by rw [show (2 : Int32) = nI 2 from rfl, nI_add]; exact vp_in_nI (by omega) (by omega)
  have i3 : vp_in (nI j + 3) L := by rw [show (3 : Int32) = nI 3 from rfl, nI_add]; exact vp_in_nI (by omega) (by omega)
  have i4 : vp_in (nI j + 4) L := by rw [show (4 : Int32) = nI 4 from rfl, nI_add]; exact vp_in_nI (by omega) (by omega)
  obtain ⟨k, v, w, Z', hI', hvw, hk4, hWr, hMo⟩ := op_collect hfl hIv hW h87 (xv (nI j + 1).toNatClampNeg) (xv (nI j + 2).toNatClampNeg) (xv (nI j + 3).toNatClampNeg) (xv (nI j + 4).toNatClampNeg)
  refine g_aload_n C rfl rfl d_L_law_486 ?_
  refine g_aload_n C rfl rfl d_L_law_487 ?_
  refine g_iload C rfl d_L_law_488 ?_
  refine g_iconst (v := 1) C rfl d_L_law_490 ?_
  refine g_iadd C d_L_law_491 ?_
  refine g_xald C hX hb hbo (by first | assumption | (unfold vp_in; decide)) d_L_law_492 ?_
  refine g_aload_n C rfl rfl d_L_law_493 ?_
  refine g_iload C rfl d_L_law_494 ?_
  refine g_iconst (v := 2) C rfl d_L_law_496 ?_
  refine g_iadd C d_L_law_497 ?_
  refine g_xald C hX hb hbo (by first | assumption | (unfold vp_in; decide)) d_L_law_498 ?_
  refine g_aload_n C rfl rfl d_L_law_499 ?_
  refine g_iload C rfl d_L_law_500 ?_
  refine g_iconst (v := 3) C rfl d_L_law_502 ?_
  refine g_iadd C d_L_law_503 ?_
  refine g_xald C hX hb hbo (by first | assumption | (unfold vp_in; decide)) d_L_law_504 ?_
  refine g_aload_n C rfl rfl d_L_law_505 ?_
  refine g_iload C rfl d_L_law_506 ?_
  refine g_iconst (v := 4) C rfl d_L_law_508 ?_
  refine g_iadd C d_L_law_509 ?_
  refine g_xald C hX hb hbo (by first | assumption | (unfold vp_in; decide)) d_L_law_510 ?_
  refine g_aload_n C rfl rfl d_L_law_511 ?_
  refine g_callSW C hNC (hWr) YW_collect m_478 m_477 ⟨by decide, by decide⟩ ⟨by show _ ≤ 601024; omega, by show _ ≤ 7293000; omega⟩ d_L_law_512 rfl (Nat.le_of_ble_eq_true rfl) (fun ret sg512 hq => ?_)
  obtain ⟨rfl, wE, ⟨g, w87, wv⟩, wF⟩ := hq
  have mW := MW_mv hM (s' := sg512) (fun j a b => wF j (by omega) (by omega))
  have m0 : sg512 64 = _ := mW.1
  refine g_istore (lv' := [(5, .int (nI k)), (0, .ref b), (1, .ref (ad o 0)), (2, .ref (ad o 64)), (3, .ref (ad o 87)), (4, .int (nI j))]) C d_L_law_515 (by decide) rfl ?_
  refine g_aload_n C rfl rfl d_L_law_517 ?_
  refine g_aload_n C rfl rfl d_L_law_518 ?_
  refine g_iload C rfl d_L_law_519 ?_
  refine g_iconst (v := 1) C rfl d_L_law_521 ?_
  refine g_iadd C d_L_law_522 ?_
  refine g_xald C hX hb hbo (by first | assumption | (unfold vp_in; decide)) d_L_law_523 ?_
  refine g_aload_n C rfl rfl d_L_law_524 ?_
  refine g_iload C rfl d_L_law_525 ?_
  refine g_iconst (v := 2) C rfl d_L_law_527 ?_
  refine g_iadd C d_L_law_528 ?_
  refine g_xald C hX hb hbo (by first | assumption | (unfold vp_in; decide)) d_L_law_529 ?_
  refine g_aload_n C rfl rfl d_L_law_530 ?_
  refine g_iload C rfl d_L_law_531 ?_
  refine g_iconst (v := 3) C rfl d_L_law_533 ?_
  refine g_iadd C d_L_law_534 ?_
  refine g_xald C hX hb hbo (by first | assumption | (unfold vp_in; decide)) d_L_law_535 ?_
  refine g_aload_n C rfl rfl d_L_law_536 ?_
  refine g_iload C rfl d_L_law_537 ?_
  refine g_iconst (v := 4) C rfl d_L_law_539 ?_
  refine g_iadd C d_L_law_540 ?_
  refine g_xald C hX hb hbo (by first | assumption | (unfold vp_in; decide)) d_L_law_541 ?_
  refine g_callV C (hMo sg512 t0 mW) Y_M_collect m_802 m_803 m_801 rfl rfl ⟨by decide, by decide⟩ ⟨by show _ ≤ 601024; omega, by show _ ≤ 7293000; omega⟩ (fun h => nomatch h) d_L_law_542 (by first | assumption | omega) (by repeat' first | assumption | exact up_eq _ _ _ | refine up_ne (by omega) ?_) rfl (Nat.le_of_ble_eq_true rfl) (fun ret sg542 hq => ?_)
  obtain ⟨rfl, nW, nF⟩ := hq
  have n0 : sg542 64 = _ := nW.1
  have n87 : sg542 87 = eJ 1 g := (nF 87 (Or.inr (by omega))).trans w87
  refine g_lstore (lv' := [(6, .long w), (5, .int (nI k)), (0, .ref b), (1, .ref (ad o 0)), (2, .ref (ad o 64)), (3, .ref (ad o 87)), (4, .int (nI j))]) C d_L_law_545 (by decide) rfl ?_
  refine g_aload_n C rfl rfl d_L_law_547 ?_
  refine g_callV C (c_M_thrown (by decide) nW.1) Y_M_thrown m_718 m_719 m_717 rfl rfl ⟨by decide, by decide⟩ ⟨by show _ ≤ 601024; omega, by show _ ≤ 7293000; omega⟩ (fun h => nomatch h) d_L_law_548 (by first | assumption | omega) (by repeat' first | assumption | exact up_eq _ _ _ | refine up_ne (by omega) ?_) rfl (Nat.le_of_ble_eq_true rfl) (fun ret sg548 hq => ?_)
  obtain ⟨rfl, rfl⟩ := hq
  refine g_iload C rfl d_L_law_551 ?_
  refine g_icmp_eq (tgt := 558) C d_L_law_553 (by decide) (fun j553 => ?_) (fun j553 => ?_)
  rotate_left
  · exact absurd rfl j553
  refine g_iload C rfl d_L_law_558 ?_
  refine g_if_ne (tgt := 574) C d_L_law_560 (by decide) (fun j560 => ?_) (fun j560 => ?_)
  · refine g_goto (tgt := 1152) C d_L_law_574 (by decide) ?_
    refine g_pick [2, 3, 4, 5, 6] rfl ?_
    exact kont _ Z' ⟨hI', EW_mv wE (fun j q => nF j (Or.inl q)), ⟨_, nW⟩, ⟨_, n87⟩⟩
  · refine g_aload_n C rfl rfl d_L_law_563 ?_
    refine g_iconst (v := 0) C rfl d_L_law_564 ?_
    refine g_lald C d_L_law_565 (by first | assumption | omega) (by repeat' first | assumption | exact up_eq _ _ _ | refine up_ne (by omega) ?_) (vp_in_nI (n := 0) (by decide) (by decide)) ?_
    rw [show (0 : Int32).toNatClampNeg = 0 from rfl, wv (k_of hk4 j560), hvw (k_of hk4 j560)]
    refine g_lload C rfl d_L_law_566 ?_
    refine g_lcmp_eq (tgt := 574) C d_L_law_568 d_L_law_569 (by decide) (fun j568 => ?_) (fun j568 => ?_)
    rotate_left
    · exact absurd rfl j568
    refine g_goto (tgt := 1152) C d_L_law_574 (by decide) ?_
    refine g_pick [2, 3, 4, 5, 6] rfl ?_
    exact kont _ Z' ⟨hI', EW_mv wE (fun j q => nF j (Or.inl q)), ⟨_, nW⟩, ⟨_, n87⟩⟩
set_option maxHeartbeats 4000000 in
theorem lop_route {K : GX} {o b L j c sl : Nat} {xv : Nat → Int32} {sg : Nat → va_E} {Z : ZS} (C : GOk K b_L_law 8 y_L_law.cls room_1 o) (hfl : (xl K).flags = flags0) (hNC : gNC (xs K)) (hX : va_X b L xv (xs K) (xs K).heap) (hb : b < (xs K).heap.size) (hbo : b < o) (hj : j + 6 ≤ L) (hL : L ≤ 3074) (hI : LI sg o Z) (hc : c + 1 ≤ 601024) (hs : sl + 6 ≤ 7293000) (kont : ∀ sg' Z', LI sg' o Z' → G K o 88 sg' (c + 1) (sl + 6) 1152 [(0, .ref b), (1, .ref (ad o 0)), (2, .ref (ad o 64)), (3, .ref (ad o 87)), (4, .int (nI j))] []) : G K o 88 sg c sl 696 [(0, .ref b), (1, .ref (ad o 0)), (2, .ref (ad o 64)), (3, .ref (ad o 87)), (4, .int (nI j))] [] := by
  obtain ⟨hIv, hW, ⟨t0, hM⟩, g87, h87⟩ := hI
  have i1 : vp_in (nI j + 1) L := by rw [show (1 : Int32) = nI 1 from rfl, nI_add]; exact vp_in_nI (by omega) (by omega)
  have i2 : vp_in (nI j + 2) L := by rw [show (2 : Int32) = nI 2 from rfl, nI_add]; exact vp_in_nI (by omega) (by omega)
  have i3 : vp_in (nI j + 3) L := by rw [show (3 : Int32) = nI 3 from rfl, nI_add]; exact vp_in_nI (by omega) (by omega)
  obtain ⟨k, v, w, Z', hI', hvw, hk4, hWr, hMo⟩ := op_route hfl hIv hW h87 (xv (nI j + 1).toNatClampNeg) (xv (nI j + 2).toNatClampNeg) (xv (nI j + 3).toNatClampNeg)
  refine g_aload_n C rfl rfl d_L_law_696 ?_
  refine g_aload_n C rfl rfl d_L_law_697 ?_
  refine g_iload C rfl d_L_law_698 ?_
  refine g_iconst (v := 1) C rfl d_L_law_700 ?_
  refine g_iadd C d_L_law_701 ?_
  refine g_xald C hX hb hbo (by first | assumption | (unfold vp_in; decide)) d_L_law_702 ?_
  refine g_aload_n C rfl rfl d_L_law_703 ?_
  refine g_iload C rfl d_L_law_704 ?_
  refine g_iconst (v := 2) C rfl d_L_law_706 ?_
  refine g_iadd C d_L_law_707 ?_
  refine g_xald C hX hb hbo (by first | assumption | (unfold vp_in; decide)) d_L_law_708 ?_
  refine g_aload_n C rfl rfl d_L_law_709 ?_
  refine g_iload C rfl d_L_law_710 ?_
  refine g_iconst (v := 3) C rfl d_L_law_712 ?_
  refine g_iadd C d_L_law_713 ?_
  refine g_xald C hX hb hbo (by first | assumption | (unfold vp_in; decide)) d_L_law_714 ?_
  refine g_aload_n C rfl rfl d_L_law_715 ?_
  refine g_callSW C hNC (hWr) YW_route m_593 m_592 ⟨by decide, by decide⟩ ⟨by show _ ≤ 601024; omega, by show _ ≤ 7293000; omega⟩ d_L_law_716 rfl (Nat.le_of_ble_eq_true rfl) (fun ret sg716 hq => ?_)
  obtain ⟨rfl, wE, ⟨g, w87, wv⟩, wF⟩ := hq
  have mW := MW_mv hM (s' := sg716) (fun j a b => wF j (by omega) (by omega))
  have m0 : sg716 64 = _ := mW.1
  refine g_istore (lv' := [(5, .int (nI k)), (0, .ref b), (1, .ref (ad o 0)), (2, .ref (ad o 64)), (3, .ref (ad o 87)), (4, .int (nI j))]) C d_L_law_719 (by decide) rfl ?_
  refine g_aload_n C rfl rfl d_L_law_721 ?_
  refine g_aload_n C rfl rfl d_L_law_722 ?_
  refine g_iload C rfl d_L_law_723 ?_
  refine g_iconst (v := 1) C rfl d_L_law_725 ?_
  refine g_iadd C d_L_law_726 ?_
  refine g_xald C hX hb hbo (by first | assumption | (unfold vp_in; decide)) d_L_law_727 ?_
  refine g_aload_n C rfl rfl d_L_law_728 ?_
  refine g_iload C rfl d_L_law_729 ?_
  refine g_iconst (v := 2) C rfl d_L_law_731 ?_
  refine g_iadd C d_L_law_732 ?_
  refine g_xald C hX hb hbo (by first | assumption | (unfold vp_in; decide)) d_L_law_733 ?_
  refine g_aload_n C rfl rfl d_L_law_734 ?_
  refine g_iload C rfl d_L_law_735 ?_
  refine g_iconst (v := 3) C rfl d_L_law_737 ?_
  refine g_iadd C d_L_law_738 ?_
  refine g_xald C hX hb hbo (by first | assumption | (unfold vp_in; decide)) d_L_law_739 ?_
  refine g_callV C (hMo sg716 t0 mW) Y_M_route m_848 m_849 m_847 rfl rfl ⟨by decide, by decide⟩ ⟨by show _ ≤ 601024; omega, by show _ ≤ 7293000; omega⟩ (fun h => nomatch h) d_L_law_740 (by first | assumption | omega) (by repeat' first | assumption | exact up_eq _ _ _ | refine up_ne (by omega) ?_) rfl (Nat.le_of_ble_eq_true rfl) (fun ret sg740 hq => ?_)
  obtain ⟨rfl, nW, nF⟩ := hq
  have n0 : sg740 64 = _ := nW.1
  have n87 : sg740 87 = eJ 1 g := (nF 87 (Or.inr (by omega))).trans w87
  refine g_lstore (lv' := [(6, .long w), (5, .int (nI k)), (0, .ref b), (1, .ref (ad o 0)), (2, .ref (ad o 64)), (3, .ref (ad o 87)), (4, .int (nI j))]) C d_L_law_743 (by decide) rfl ?_
  refine g_aload_n C rfl rfl d_L_law_745 ?_
  refine g_callV C (c_M_thrown (by decide) nW.1) Y_M_thrown m_718 m_719 m_717 rfl rfl ⟨by decide, by decide⟩ ⟨by show _ ≤ 601024; omega, by show _ ≤ 7293000; omega⟩ (fun h => nomatch h) d_L_law_746 (by first | assumption | omega) (by repeat' first | assumption | exact up_eq _ _ _ | refine up_ne (by omega) ?_) rfl (Nat.le_of_ble_eq_true rfl) (fun ret sg746 hq => ?_)
  obtain ⟨rfl, rfl⟩ := hq
  refine g_iload C rfl d_L_law_749 ?_
  refine g_icmp_eq (tgt := 756) C d_L_law_751 (by decide) (fun j751 => ?_) (fun j751 => ?_)
  rotate_left
  · exact absurd rfl j751
  refine g_iload C rfl d_L_law_756 ?_
  refine g_if_ne (tgt := 772) C d_L_law_758 (by decide) (fun j758 => ?_) (fun j758 => ?_)
  · refine g_goto (tgt := 1152) C d_L_law_772 (by decide) ?_
    refine g_pick [2, 3, 4, 5, 6] rfl ?_
    exact kont _ Z' ⟨hI', EW_mv wE (fun j q => nF j (Or.inl q)), ⟨_, nW⟩, ⟨_, n87⟩⟩
  · refine g_aload_n C rfl rfl d_L_law_761 ?_
    refine g_iconst (v := 0) C rfl d_L_law_762 ?_
    refine g_lald C d_L_law_763 (by first | assumption | omega) (by repeat' first | assumption | exact up_eq _ _ _ | refine up_ne (by omega) ?_) (vp_in_nI (n := 0) (by decide) (by decide)) ?_
    rw [show (0 : Int32).toNatClampNeg = 0 from rfl, wv (k_of hk4 j758), hvw (k_of hk4 j758)]
    refine g_lload C rfl d_L_law_764 ?_
    refine g_lcmp_eq (tgt := 772) C d_L_law_766 d_L_law_767 (by decide) (fun j766 => ?_) (fun j766 => ?_)
    rotate_left
    · exact absurd rfl j766
    refine g_goto (tgt := 1152) C d_L_law_772 (by decide) ?_
    refine g_pick [2, 3, 4, 5, 6] rfl ?_
    exact kont _ Z' ⟨hI', EW_mv wE (fun j q => nF j (Or.inl q)), ⟨_, nW⟩, ⟨_, n87⟩⟩
set_option maxHeartbeats 4000000 in
theorem lop_price {K : GX} {o b L j c sl : Nat} {xv : Nat → Int32} {sg : Nat → va_E} {Z : ZS} (C : GOk K b_L_law 8 y_L_law.cls room_1 o) (hfl : (xl K).flags = flags0) (hNC : gNC (xs K)) (hX : va_X b L xv (xs K) (xs K).heap) (hb : b < (xs K).heap.size) (hbo : b < o) (hj : j + 6 ≤ L) (hL : L ≤ 3074) (hI : LI sg o Z) (hc : c + 1 ≤ 601024) (hs : sl + 6 ≤ 7293000) (kont : ∀ sg' Z', LI sg' o Z' → G K o 88 sg' (c + 1) (sl + 6) 1152 [(0, .ref b), (1, .ref (ad o 0)), (2, .ref (ad o 64)), (3, .ref (ad o 87)), (4, .int (nI j))] []) : G K o 88 sg c sl 789 [(0, .ref b), (1, .ref (ad o 0)), (2, .ref (ad o 64)), (3, .ref (ad o 87)), (4, .int (nI j))] [] := by
  obtain ⟨hIv, hW, ⟨t0, hM⟩, g87, h87⟩ := hI
  have i1 : vp_in (nI j + 1) L := by rw [show (1 : Int32) = nI 1 from rfl, nI_add]; exact vp_in_nI (by omega) (by omega)
  obtain ⟨k, v, w, Z', hI', hvw, hk4, hWr, hMo⟩ := op_price hfl hIv hW h87 (xv (nI j + 1).toNatClampNeg)
  refine g_aload_n C rfl rfl d_L_law_789 ?_
  refine g_aload_n C rfl rfl d_L_law_790 ?_
  refine g_iload C rfl d_L_law_791 ?_
  refine g_iconst (v := 1) C rfl d_L_law_793 ?_
  refine g_iadd C d_L_law_794 ?_
  refine g_xald C hX hb hbo (by first | assumption | (unfold vp_in; decide)) d_L_law_795 ?_
  refine g_aload_n C rfl rfl d_L_law_796 ?_
  refine g_callSW C hNC (hWr) YW_price m_600 m_599 ⟨by decide, by decide⟩ ⟨by show _ ≤ 601024; omega, by show _ ≤ 7293000; omega⟩ d_L_law_797 rfl (Nat.le_of_ble_eq_true rfl) (fun ret sg797 hq => ?_)
  obtain ⟨rfl, wE, ⟨g, w87, wv⟩, wF⟩ := hq
  have mW := MW_mv hM (s' := sg797) (fun j a b => wF j (by omega) (by omega))
  have m0 : sg797 64 = _ := mW.1
  refine g_istore (lv' := [(5, .int (nI k)), (0, .ref b), (1, .ref (ad o 0)), (2, .ref (ad o 64)), (3, .ref (ad o 87)), (4, .int (nI j))]) C d_L_law_800 (by decide) rfl ?_
  refine g_aload_n C rfl rfl d_L_law_802 ?_
  refine g_aload_n C rfl rfl d_L_law_803 ?_
  refine g_iload C rfl d_L_law_804 ?_
  refine g_iconst (v := 1) C rfl d_L_law_806 ?_
  refine g_iadd C d_L_law_807 ?_
  refine g_xald C hX hb hbo (by first | assumption | (unfold vp_in; decide)) d_L_law_808 ?_
  refine g_callV C (hMo sg797 t0 mW) Y_M_price m_856 m_857 m_855 rfl rfl ⟨by decide, by decide⟩ ⟨by show _ ≤ 601024; omega, by show _ ≤ 7293000; omega⟩ (fun h => nomatch h) d_L_law_809 (by first | assumption | omega) (by repeat' first | assumption | exact up_eq _ _ _ | refine up_ne (by omega) ?_) rfl (Nat.le_of_ble_eq_true rfl) (fun ret sg809 hq => ?_)
  obtain ⟨rfl, nW, nF⟩ := hq
  have n0 : sg809 64 = _ := nW.1
  have n87 : sg809 87 = eJ 1 g := (nF 87 (Or.inr (by omega))).trans w87
  refine g_lstore (lv' := [(6, .long w), (5, .int (nI k)), (0, .ref b), (1, .ref (ad o 0)), (2, .ref (ad o 64)), (3, .ref (ad o 87)), (4, .int (nI j))]) C d_L_law_812 (by decide) rfl ?_
  refine g_aload_n C rfl rfl d_L_law_814 ?_
  refine g_callV C (c_M_thrown (by decide) nW.1) Y_M_thrown m_718 m_719 m_717 rfl rfl ⟨by decide, by decide⟩ ⟨by show _ ≤ 601024; omega, by show _ ≤ 7293000; omega⟩ (fun h => nomatch h) d_L_law_815 (by first | assumption | omega) (by repeat' first | assumption | exact up_eq _ _ _ | refine up_ne (by omega) ?_) rfl (Nat.le_of_ble_eq_true rfl) (fun ret sg815 hq => ?_)
  obtain ⟨rfl, rfl⟩ := hq
  refine g_iload C rfl d_L_law_818 ?_
  refine g_icmp_eq (tgt := 825) C d_L_law_820 (by decide) (fun j820 => ?_) (fun j820 => ?_)
  rotate_left
  · exact absurd rfl j820
  refine g_iload C rfl d_L_law_825 ?_
  refine g_if_ne (tgt := 841) C d_L_law_827 (by decide) (fun j827 => ?_) (fun j827 => ?_)
  · refine g_goto (tgt := 1152) C d_L_law_841 (by decide) ?_
    refine g_pick [2, 3, 4, 5, 6] rfl ?_
    exact kont _ Z' ⟨hI', EW_mv wE (fun j q => nF j (Or.inl q)), ⟨_, nW⟩, ⟨_, n87⟩⟩
  · refine g_aload_n C rfl rfl d_L_law_830 ?_
    refine g_iconst (v := 0) C rfl d_L_law_831 ?_
    refine g_lald C d_L_law_832 (by first | assumption | omega) (by repeat' first | assumption | exact up_eq _ _ _ | refine up_ne (by omega) ?_) (vp_in_nI (n := 0) (by decide) (by decide)) ?_
    rw [show (0 : Int32).toNatClampNeg = 0 from rfl, wv (k_of hk4 j827), hvw (k_of hk4 j827)]
    refine g_lload C rfl d_L_law_833 ?_
    refine g_lcmp_eq (tgt := 841) C d_L_law_835 d_L_law_836 (by decide) (fun j835 => ?_) (fun j835 => ?_)
    rotate_left
    · exact absurd rfl j835
    refine g_goto (tgt := 1152) C d_L_law_841 (by decide) ?_
    refine g_pick [2, 3, 4, 5, 6] rfl ?_
    exact kont _ Z' ⟨hI', EW_mv wE (fun j q => nF j (Or.inl q)), ⟨_, nW⟩, ⟨_, n87⟩⟩
set_option maxHeartbeats 4000000 in
theorem lop_tick {K : GX} {o b L j c sl : Nat} {xv : Nat → Int32} {sg : Nat → va_E} {Z : ZS} (C : GOk K b_L_law 8 y_L_law.cls room_1 o) (hfl : (xl K).flags = flags0) (hNC : gNC (xs K)) (hX : va_X b L xv (xs K) (xs K).heap) (hb : b < (xs K).heap.size) (hbo : b < o) (hj : j + 6 ≤ L) (hL : L ≤ 3074) (hI : LI sg o Z) (hc : c + 1 ≤ 601024) (hs : sl + 6 ≤ 7293000) (kont : ∀ sg' Z', LI sg' o Z' → G K o 88 sg' (c + 1) (sl + 6) 1152 [(0, .ref b), (1, .ref (ad o 0)), (2, .ref (ad o 64)), (3, .ref (ad o 87)), (4, .int (nI j))] []) : G K o 88 sg c sl 844 [(0, .ref b), (1, .ref (ad o 0)), (2, .ref (ad o 64)), (3, .ref (ad o 87)), (4, .int (nI j))] [] := by
  obtain ⟨hIv, hW, ⟨t0, hM⟩, g87, h87⟩ := hI
  have i1 : vp_in (nI j + 1) L := by rw [show (1 : Int32) = nI 1 from rfl, nI_add]; exact vp_in_nI (by omega) (by omega)
  obtain ⟨k, v, w, Z', hI', hvw, hk4, hWr, hMo⟩ := op_tick hfl hIv hW h87 (xv (nI j + 1).toNatClampNeg)
  refine g_aload_n C rfl rfl d_L_law_844 ?_
  refine g_aload_n C rfl rfl d_L_law_845 ?_
  refine g_iload C rfl d_L_law_846 ?_
  refine g_iconst (v := 1) C rfl d_L_law_848 ?_
  refine g_iadd C d_L_law_849 ?_
  refine g_xald C hX hb hbo (by first | assumption | (unfold vp_in; decide)) d_L_law_850 ?_
  refine g_aload_n C rfl rfl d_L_law_851 ?_
  refine g_callSW C hNC (hWr) YW_tick m_607 m_606 ⟨by decide, by decide⟩ ⟨by show _ ≤ 601024; omega, by show _ ≤ 7293000; omega⟩ d_L_law_852 rfl (Nat.le_of_ble_eq_true rfl) (fun ret sg852 hq => ?_)
  obtain ⟨rfl, wE, ⟨g, w87, wv⟩, wF⟩ := hq
  have mW := MW_mv hM (s' := sg852) (fun j a b => wF j (by omega) (by omega))
  have m0 : sg852 64 = _ := mW.1
  refine g_istore (lv' := [(5, .int (nI k)), (0, .ref b), (1, .ref (ad o 0)), (2, .ref (ad o 64)), (3, .ref (ad o 87)), (4, .int (nI j))]) C d_L_law_855 (by decide) rfl ?_
  refine g_aload_n C rfl rfl d_L_law_857 ?_
  refine g_aload_n C rfl rfl d_L_law_858 ?_
  refine g_iload C rfl d_L_law_859 ?_
  refine g_iconst (v := 1) C rfl d_L_law_861 ?_
  refine g_iadd C d_L_law_862 ?_
  refine g_xald C hX hb hbo (by first | assumption | (unfold vp_in; decide)) d_L_law_863 ?_
  refine g_callV C (hMo sg852 t0 mW) Y_M_tick m_860 m_861 m_859 rfl rfl ⟨by decide, by decide⟩ ⟨by show _ ≤ 601024; omega, by show _ ≤ 7293000; omega⟩ (fun h => nomatch h) d_L_law_864 (by first | assumption | omega) (by repeat' first | assumption | exact up_eq _ _ _ | refine up_ne (by omega) ?_) rfl (Nat.le_of_ble_eq_true rfl) (fun ret sg864 hq => ?_)
  obtain ⟨rfl, nW, nF⟩ := hq
  have n0 : sg864 64 = _ := nW.1
  have n87 : sg864 87 = eJ 1 g := (nF 87 (Or.inr (by omega))).trans w87
  refine g_istore (lv' := [(6, .int w), (5, .int (nI k)), (0, .ref b), (1, .ref (ad o 0)), (2, .ref (ad o 64)), (3, .ref (ad o 87)), (4, .int (nI j))]) C d_L_law_867 (by decide) rfl ?_
  refine g_aload_n C rfl rfl d_L_law_869 ?_
  refine g_callV C (c_M_thrown (by decide) nW.1) Y_M_thrown m_718 m_719 m_717 rfl rfl ⟨by decide, by decide⟩ ⟨by show _ ≤ 601024; omega, by show _ ≤ 7293000; omega⟩ (fun h => nomatch h) d_L_law_870 (by first | assumption | omega) (by repeat' first | assumption | exact up_eq _ _ _ | refine up_ne (by omega) ?_) rfl (Nat.le_of_ble_eq_true rfl) (fun ret sg870 hq => ?_)
  obtain ⟨rfl, rfl⟩ := hq
  refine g_iload C rfl d_L_law_873 ?_
  refine g_icmp_eq (tgt := 880) C d_L_law_875 (by decide) (fun j875 => ?_) (fun j875 => ?_)
  rotate_left
  · exact absurd rfl j875
  refine g_iload C rfl d_L_law_880 ?_
  refine g_if_ne (tgt := 897) C d_L_law_882 (by decide) (fun j882 => ?_) (fun j882 => ?_)
  · refine g_goto (tgt := 1152) C d_L_law_897 (by decide) ?_
    refine g_pick [2, 3, 4, 5, 6] rfl ?_
    exact kont _ Z' ⟨hI', EW_mv wE (fun j q => nF j (Or.inl q)), ⟨_, nW⟩, ⟨_, n87⟩⟩
  · refine g_aload_n C rfl rfl d_L_law_885 ?_
    refine g_iconst (v := 0) C rfl d_L_law_886 ?_
    refine g_lald C d_L_law_887 (by first | assumption | omega) (by repeat' first | assumption | exact up_eq _ _ _ | refine up_ne (by omega) ?_) (vp_in_nI (n := 0) (by decide) (by decide)) ?_
    rw [show (0 : Int32).toNatClampNeg = 0 from rfl, wv (k_of hk4 j882), hvw (k_of hk4 j882)]
    refine g_iload C rfl d_L_law_888 ?_
    refine g_i2l C d_L_law_890 ?_
    refine g_lcmp_eq (tgt := 897) C d_L_law_891 d_L_law_892 (by decide) (fun j891 => ?_) (fun j891 => ?_)
    rotate_left
    · exact absurd rfl j891
    refine g_goto (tgt := 1152) C d_L_law_897 (by decide) ?_
    refine g_pick [2, 3, 4, 5, 6] rfl ?_
    exact kont _ Z' ⟨hI', EW_mv wE (fun j q => nF j (Or.inl q)), ⟨_, nW⟩, ⟨_, n87⟩⟩
set_option maxHeartbeats 4000000 in
theorem lop_liquidity {K : GX} {o b L j c sl : Nat} {xv : Nat → Int32} {sg : Nat → va_E} {Z : ZS} (C : GOk K b_L_law 8 y_L_law.cls room_1 o) (hfl : (xl K).flags = flags0) (hNC : gNC (xs K)) (hX : va_X b L xv (xs K) (xs K).heap) (hb : b < (xs K).heap.size) (hbo : b < o) (hj : j + 6 ≤ L) (hL : L ≤ 3074) (hI : LI sg o Z) (hc : c + 1 ≤ 601024) (hs : sl + 6 ≤ 7293000) (kont : ∀ sg' Z', LI sg' o Z' → G K o 88 sg' (c + 1) (sl + 6) 1152 [(0, .ref b), (1, .ref (ad o 0)), (2, .ref (ad o 64)), (3, .ref (ad o 87)), (4, .int (nI j))] []) : G K o 88 sg c sl 900 [(0, .ref b), (1, .ref (ad o 0)), (2, .ref (ad o 64)), (3, .ref (ad o 87)), (4, .int (nI j))] [] := by
  obtain ⟨hIv, hW, ⟨t0, hM⟩, g87, h87⟩ := hI
  have i1 : vp_in (nI j + 1) L := by rw [show (1 : Int32) = nI 1 from rfl, nI_add]; exact vp_in_nI (by omega) (by omega)
  obtain ⟨k, v, w, Z', hI', hvw, hk4, hWr, hMo⟩ := op_liquidity hfl hIv hW h87 (xv (nI j + 1).toNatClampNeg)
  refine g_aload_n C rfl rfl d_L_law_900 ?_
  refine g_aload_n C rfl rfl d_L_law_901 ?_
  refine g_iload C rfl d_L_law_902 ?_
  refine g_iconst (v := 1) C rfl d_L_law_904 ?_
  refine g_iadd C d_L_law_905 ?_
  refine g_xald C hX hb hbo (by first | assumption | (unfold vp_in; decide)) d_L_law_906 ?_
  refine g_aload_n C rfl rfl d_L_law_907 ?_
  refine g_callSW C hNC (hWr) YW_liquidity m_614 m_613 ⟨by decide, by decide⟩ ⟨by show _ ≤ 601024; omega, by show _ ≤ 7293000; omega⟩ d_L_law_908 rfl (Nat.le_of_ble_eq_true rfl) (fun ret sg908 hq => ?_)
  obtain ⟨rfl, wE, ⟨g, w87, wv⟩, wF⟩ := hq
  have mW := MW_mv hM (s' := sg908) (fun j a b => wF j (by omega) (by omega))
  have m0 : sg908 64 = _ := mW.1
  refine g_istore (lv' := [(5, .int (nI k)), (0, .ref b), (1, .ref (ad o 0)), (2, .ref (ad o 64)), (3, .ref (ad o 87)), (4, .int (nI j))]) C d_L_law_911 (by decide) rfl ?_
  refine g_aload_n C rfl rfl d_L_law_913 ?_
  refine g_aload_n C rfl rfl d_L_law_914 ?_
  refine g_iload C rfl d_L_law_915 ?_
  refine g_iconst (v := 1) C rfl d_L_law_917 ?_
  refine g_iadd C d_L_law_918 ?_
  refine g_xald C hX hb hbo (by first | assumption | (unfold vp_in; decide)) d_L_law_919 ?_
  refine g_callV C (hMo sg908 t0 mW) Y_M_liquidity m_864 m_865 m_863 rfl rfl ⟨by decide, by decide⟩ ⟨by show _ ≤ 601024; omega, by show _ ≤ 7293000; omega⟩ (fun h => nomatch h) d_L_law_920 (by first | assumption | omega) (by repeat' first | assumption | exact up_eq _ _ _ | refine up_ne (by omega) ?_) rfl (Nat.le_of_ble_eq_true rfl) (fun ret sg920 hq => ?_)
  obtain ⟨rfl, nW, nF⟩ := hq
  have n0 : sg920 64 = _ := nW.1
  have n87 : sg920 87 = eJ 1 g := (nF 87 (Or.inr (by omega))).trans w87
  refine g_istore (lv' := [(6, .int w), (5, .int (nI k)), (0, .ref b), (1, .ref (ad o 0)), (2, .ref (ad o 64)), (3, .ref (ad o 87)), (4, .int (nI j))]) C d_L_law_923 (by decide) rfl ?_
  refine g_aload_n C rfl rfl d_L_law_925 ?_
  refine g_callV C (c_M_thrown (by decide) nW.1) Y_M_thrown m_718 m_719 m_717 rfl rfl ⟨by decide, by decide⟩ ⟨by show _ ≤ 601024; omega, by show _ ≤ 7293000; omega⟩ (fun h => nomatch h) d_L_law_926 (by first | assumption | omega) (by repeat' first | assumption | exact up_eq _ _ _ | refine up_ne (by omega) ?_) rfl (Nat.le_of_ble_eq_true rfl) (fun ret sg926 hq => ?_)
  obtain ⟨rfl, rfl⟩ := hq
  refine g_iload C rfl d_L_law_929 ?_
  refine g_icmp_eq (tgt := 936) C d_L_law_931 (by decide) (fun j931 => ?_) (fun j931 => ?_)
  rotate_left
  · exact absurd rfl j931
  refine g_iload C rfl d_L_law_936 ?_
  refine g_if_ne (tgt := 953) C d_L_law_938 (by decide) (fun j938 => ?_) (fun j938 => ?_)
  · refine g_goto (tgt := 1152) C d_L_law_953 (by decide) ?_
    refine g_pick [2, 3, 4, 5, 6] rfl ?_
    exact kont _ Z' ⟨hI', EW_mv wE (fun j q => nF j (Or.inl q)), ⟨_, nW⟩, ⟨_, n87⟩⟩
  · refine g_aload_n C rfl rfl d_L_law_941 ?_
    refine g_iconst (v := 0) C rfl d_L_law_942 ?_
    refine g_lald C d_L_law_943 (by first | assumption | omega) (by repeat' first | assumption | exact up_eq _ _ _ | refine up_ne (by omega) ?_) (vp_in_nI (n := 0) (by decide) (by decide)) ?_
    rw [show (0 : Int32).toNatClampNeg = 0 from rfl, wv (k_of hk4 j938), hvw (k_of hk4 j938)]
    refine g_iload C rfl d_L_law_944 ?_
    refine g_i2l C d_L_law_946 ?_
    refine g_lcmp_eq (tgt := 953) C d_L_law_947 d_L_law_948 (by decide) (fun j947 => ?_) (fun j947 => ?_)
    rotate_left
    · exact absurd rfl j947
    refine g_goto (tgt := 1152) C d_L_law_953 (by decide) ?_
    refine g_pick [2, 3, 4, 5, 6] rfl ?_
    exact kont _ Z' ⟨hI', EW_mv wE (fun j q => nF j (Or.inl q)), ⟨_, nW⟩, ⟨_, n87⟩⟩
set_option maxHeartbeats 4000000 in
theorem lop_growth {K : GX} {o b L j c sl : Nat} {xv : Nat → Int32} {sg : Nat → va_E} {Z : ZS} (C : GOk K b_L_law 8 y_L_law.cls room_1 o) (hfl : (xl K).flags = flags0) (hNC : gNC (xs K)) (hX : va_X b L xv (xs K) (xs K).heap) (hb : b < (xs K).heap.size) (hbo : b < o) (hj : j + 6 ≤ L) (hL : L ≤ 3074) (hI : LI sg o Z) (hc : c + 1 ≤ 601024) (hs : sl + 6 ≤ 7293000) (kont : ∀ sg' Z', LI sg' o Z' → G K o 88 sg' (c + 1) (sl + 6) 1152 [(0, .ref b), (1, .ref (ad o 0)), (2, .ref (ad o 64)), (3, .ref (ad o 87)), (4, .int (nI j))] []) : G K o 88 sg c sl 956 [(0, .ref b), (1, .ref (ad o 0)), (2, .ref (ad o 64)), (3, .ref (ad o 87)), (4, .int (nI j))] [] := by
  obtain ⟨hIv, hW, ⟨t0, hM⟩, g87, h87⟩ := hI
  have i1 : vp_in (nI j + 1) L := by rw [show (1 : Int32) = nI 1 from rfl, nI_add]; exact vp_in_nI (by omega) (by omega)
  have i2 : vp_in (nI j + 2) L := by rw [show (2 : Int32) = nI 2 from rfl, nI_add]; exact vp_in_nI (by omega) (by omega)
  obtain ⟨k, v, w, Z', hI', hvw, hk4, hWr, hMo⟩ := op_growth hfl hIv hW h87 (xv (nI j + 1).toNatClampNeg) (xv (nI j + 2).toNatClampNeg)
  refine g_aload_n C rfl rfl d_L_law_956 ?_
  refine g_aload_n C rfl rfl d_L_law_957 ?_
  refine g_iload C rfl d_L_law_958 ?_
  refine g_iconst (v := 1) C rfl d_L_law_960 ?_
  refine g_iadd C d_L_law_961 ?_
  refine g_xald C hX hb hbo (by first | assumption | (unfold vp_in; decide)) d_L_law_962 ?_
  refine g_aload_n C rfl rfl d_L_law_963 ?_
  refine g_iload C rfl d_L_law_964 ?_
  refine g_iconst (v := 2) C rfl d_L_law_966 ?_
  refine g_iadd C d_L_law_967 ?_
  refine g_xald C hX hb hbo (by first | assumption | (unfold vp_in; decide)) d_L_law_968 ?_
  refine g_aload_n C rfl rfl d_L_law_969 ?_
  refine g_callSW C hNC (hWr) YW_growth m_621 m_620 ⟨by decide, by decide⟩ ⟨by show _ ≤ 601024; omega, by show _ ≤ 7293000; omega⟩ d_L_law_970 rfl (Nat.le_of_ble_eq_true rfl) (fun ret sg970 hq => ?_)
  obtain ⟨rfl, wE, ⟨g, w87, wv⟩, wF⟩ := hq
  have mW := MW_mv hM (s' := sg970) (fun j a b => wF j (by omega) (by omega))
  have m0 : sg970 64 = _ := mW.1
  refine g_istore (lv' := [(5, .int (nI k)), (0, .ref b), (1, .ref (ad o 0)), (2, .ref (ad o 64)), (3, .ref (ad o 87)), (4, .int (nI j))]) C d_L_law_973 (by decide) rfl ?_
  refine g_aload_n C rfl rfl d_L_law_975 ?_
  refine g_aload_n C rfl rfl d_L_law_976 ?_
  refine g_iload C rfl d_L_law_977 ?_
  refine g_iconst (v := 1) C rfl d_L_law_979 ?_
  refine g_iadd C d_L_law_980 ?_
  refine g_xald C hX hb hbo (by first | assumption | (unfold vp_in; decide)) d_L_law_981 ?_
  refine g_aload_n C rfl rfl d_L_law_982 ?_
  refine g_iload C rfl d_L_law_983 ?_
  refine g_iconst (v := 2) C rfl d_L_law_985 ?_
  refine g_iadd C d_L_law_986 ?_
  refine g_xald C hX hb hbo (by first | assumption | (unfold vp_in; decide)) d_L_law_987 ?_
  refine g_callV C (hMo sg970 t0 mW) Y_M_growth m_868 m_869 m_867 rfl rfl ⟨by decide, by decide⟩ ⟨by show _ ≤ 601024; omega, by show _ ≤ 7293000; omega⟩ (fun h => nomatch h) d_L_law_988 (by first | assumption | omega) (by repeat' first | assumption | exact up_eq _ _ _ | refine up_ne (by omega) ?_) rfl (Nat.le_of_ble_eq_true rfl) (fun ret sg988 hq => ?_)
  obtain ⟨rfl, nW, nF⟩ := hq
  have n0 : sg988 64 = _ := nW.1
  have n87 : sg988 87 = eJ 1 g := (nF 87 (Or.inr (by omega))).trans w87
  refine g_lstore (lv' := [(6, .long w), (5, .int (nI k)), (0, .ref b), (1, .ref (ad o 0)), (2, .ref (ad o 64)), (3, .ref (ad o 87)), (4, .int (nI j))]) C d_L_law_991 (by decide) rfl ?_
  refine g_aload_n C rfl rfl d_L_law_993 ?_
  refine g_callV C (c_M_thrown (by decide) nW.1) Y_M_thrown m_718 m_719 m_717 rfl rfl ⟨by decide, by decide⟩ ⟨by show _ ≤ 601024; omega, by show _ ≤ 7293000; omega⟩ (fun h => nomatch h) d_L_law_994 (by first | assumption | omega) (by repeat' first | assumption | exact up_eq _ _ _ | refine up_ne (by omega) ?_) rfl (Nat.le_of_ble_eq_true rfl) (fun ret sg994 hq => ?_)
  obtain ⟨rfl, rfl⟩ := hq
  refine g_iload C rfl d_L_law_997 ?_
  refine g_icmp_eq (tgt := 1004) C d_L_law_999 (by decide) (fun j999 => ?_) (fun j999 => ?_)
  rotate_left
  · exact absurd rfl j999
  refine g_iload C rfl d_L_law_1004 ?_
  refine g_if_ne (tgt := 1020) C d_L_law_1006 (by decide) (fun j1006 => ?_) (fun j1006 => ?_)
  · refine g_goto (tgt := 1152) C d_L_law_1020 (by decide) ?_
    refine g_pick [2, 3, 4, 5, 6] rfl ?_
    exact kont _ Z' ⟨hI', EW_mv wE (fun j q => nF j (Or.inl q)), ⟨_, nW⟩, ⟨_, n87⟩⟩
  · refine g_aload_n C rfl rfl d_L_law_1009 ?_
    refine g_iconst (v := 0) C rfl d_L_law_1010 ?_
    refine g_lald C d_L_law_1011 (by first | assumption | omega) (by repeat' first | assumption | exact up_eq _ _ _ | refine up_ne (by omega) ?_) (vp_in_nI (n := 0) (by decide) (by decide)) ?_
    rw [show (0 : Int32).toNatClampNeg = 0 from rfl, wv (k_of hk4 j1006), hvw (k_of hk4 j1006)]
    refine g_lload C rfl d_L_law_1012 ?_
    refine g_lcmp_eq (tgt := 1020) C d_L_law_1014 d_L_law_1015 (by decide) (fun j1014 => ?_) (fun j1014 => ?_)
    rotate_left
    · exact absurd rfl j1014
    refine g_goto (tgt := 1152) C d_L_law_1020 (by decide) ?_
    refine g_pick [2, 3, 4, 5, 6] rfl ?_
    exact kont _ Z' ⟨hI', EW_mv wE (fun j q => nF j (Or.inl q)), ⟨_, nW⟩, ⟨_, n87⟩⟩
set_option maxHeartbeats 4000000 in
theorem lop_held {K : GX} {o b L j c sl : Nat} {xv : Nat → Int32} {sg : Nat → va_E} {Z : ZS} (C : GOk K b_L_law 8 y_L_law.cls room_1 o) (hfl : (xl K).flags = flags0) (hNC : gNC (xs K)) (hX : va_X b L xv (xs K) (xs K).heap) (hb : b < (xs K).heap.size) (hbo : b < o) (hj : j + 6 ≤ L) (hL : L ≤ 3074) (hI : LI sg o Z) (hc : c + 1 ≤ 601024) (hs : sl + 6 ≤ 7293000) (kont : ∀ sg' Z', LI sg' o Z' → G K o 88 sg' (c + 1) (sl + 6) 1152 [(0, .ref b), (1, .ref (ad o 0)), (2, .ref (ad o 64)), (3, .ref (ad o 87)), (4, .int (nI j))] []) : G K o 88 sg c sl 1097 [(0, .ref b), (1, .ref (ad o 0)), (2, .ref (ad o 64)), (3, .ref (ad o 87)), (4, .int (nI j))] [] := by
  obtain ⟨hIv, hW, ⟨t0, hM⟩, g87, h87⟩ := hI
  have i1 : vp_in (nI j + 1) L := by rw [show (1 : Int32) = nI 1 from rfl, nI_add]; exact vp_in_nI (by omega) (by omega)
  obtain ⟨k, v, w, Z', hI', hvw, hk4, hWr, hMo⟩ := op_held hfl hIv hW h87 (xv (nI j + 1).toNatClampNeg)
  refine g_aload_n C rfl rfl d_L_law_1097 ?_
  refine g_aload_n C rfl rfl d_L_law_1098 ?_
  refine g_iload C rfl d_L_law_1099 ?_
  refine g_iconst (v := 1) C rfl d_L_law_1101 ?_
  refine g_iadd C d_L_law_1102 ?_
  refine g_xald C hX hb hbo (by first | assumption | (unfold vp_in; decide)) d_L_law_1103 ?_
  refine g_aload_n C rfl rfl d_L_law_1104 ?_
  refine g_callSW C hNC (hWr) YW_held m_628 m_627 ⟨by decide, by decide⟩ ⟨by show _ ≤ 601024; omega, by show _ ≤ 7293000; omega⟩ d_L_law_1105 rfl (Nat.le_of_ble_eq_true rfl) (fun ret sg1105 hq => ?_)
  obtain ⟨rfl, wE, ⟨g, w87, wv⟩, wF⟩ := hq
  have mW := MW_mv hM (s' := sg1105) (fun j a b => wF j (by omega) (by omega))
  have m0 : sg1105 64 = _ := mW.1
  refine g_istore (lv' := [(5, .int (nI k)), (0, .ref b), (1, .ref (ad o 0)), (2, .ref (ad o 64)), (3, .ref (ad o 87)), (4, .int (nI j))]) C d_L_law_1108 (by decide) rfl ?_
  refine g_aload_n C rfl rfl d_L_law_1110 ?_
  refine g_aload_n C rfl rfl d_L_law_1111 ?_
  refine g_iload C rfl d_L_law_1112 ?_
  refine g_iconst (v := 1) C rfl d_L_law_1114 ?_
  refine g_iadd C d_L_law_1115 ?_
  refine g_xald C hX hb hbo (by first | assumption | (unfold vp_in; decide)) d_L_law_1116 ?_
  refine g_callV C (hMo sg1105 t0 mW) Y_M_held m_876 m_877 m_875 rfl rfl ⟨by decide, by decide⟩ ⟨by show _ ≤ 601024; omega, by show _ ≤ 7293000; omega⟩ (fun h => nomatch h) d_L_law_1117 (by first | assumption | omega) (by repeat' first | assumption | exact up_eq _ _ _ | refine up_ne (by omega) ?_) rfl (Nat.le_of_ble_eq_true rfl) (fun ret sg1117 hq => ?_)
  obtain ⟨rfl, nW, nF⟩ := hq
  have n0 : sg1117 64 = _ := nW.1
  have n87 : sg1117 87 = eJ 1 g := (nF 87 (Or.inr (by omega))).trans w87
  refine g_lstore (lv' := [(6, .long w), (5, .int (nI k)), (0, .ref b), (1, .ref (ad o 0)), (2, .ref (ad o 64)), (3, .ref (ad o 87)), (4, .int (nI j))]) C d_L_law_1120 (by decide) rfl ?_
  refine g_aload_n C rfl rfl d_L_law_1122 ?_
  refine g_callV C (c_M_thrown (by decide) nW.1) Y_M_thrown m_718 m_719 m_717 rfl rfl ⟨by decide, by decide⟩ ⟨by show _ ≤ 601024; omega, by show _ ≤ 7293000; omega⟩ (fun h => nomatch h) d_L_law_1123 (by first | assumption | omega) (by repeat' first | assumption | exact up_eq _ _ _ | refine up_ne (by omega) ?_) rfl (Nat.le_of_ble_eq_true rfl) (fun ret sg1123 hq => ?_)
  obtain ⟨rfl, rfl⟩ := hq
  refine g_iload C rfl d_L_law_1126 ?_
  refine g_icmp_eq (tgt := 1133) C d_L_law_1128 (by decide) (fun j1128 => ?_) (fun j1128 => ?_)
  rotate_left
  · exact absurd rfl j1128
  refine g_iload C rfl d_L_law_1133 ?_
  refine g_if_ne (tgt := 1149) C d_L_law_1135 (by decide) (fun j1135 => ?_) (fun j1135 => ?_)
  · refine g_goto (tgt := 1152) C d_L_law_1149 (by decide) ?_
    refine g_pick [2, 3, 4, 5, 6] rfl ?_
    exact kont _ Z' ⟨hI', EW_mv wE (fun j q => nF j (Or.inl q)), ⟨_, nW⟩, ⟨_, n87⟩⟩
  · refine g_aload_n C rfl rfl d_L_law_1138 ?_
    refine g_iconst (v := 0) C rfl d_L_law_1139 ?_
    refine g_lald C d_L_law_1140 (by first | assumption | omega) (by repeat' first | assumption | exact up_eq _ _ _ | refine up_ne (by omega) ?_) (vp_in_nI (n := 0) (by decide) (by decide)) ?_
    rw [show (0 : Int32).toNatClampNeg = 0 from rfl, wv (k_of hk4 j1135), hvw (k_of hk4 j1135)]
    refine g_lload C rfl d_L_law_1141 ?_
    refine g_lcmp_eq (tgt := 1149) C d_L_law_1143 d_L_law_1144 (by decide) (fun j1143 => ?_) (fun j1143 => ?_)
    rotate_left
    · exact absurd rfl j1143
    refine g_goto (tgt := 1152) C d_L_law_1149 (by decide) ?_
    refine g_pick [2, 3, 4, 5, 6] rfl ?_
    exact kont _ Z' ⟨hI', EW_mv wE (fun j q => nF j (Or.inl q)), ⟨_, nW⟩, ⟨_, n87⟩⟩
set_option maxHeartbeats 4000000 in
theorem lop_swap {K : GX} {o b L j c sl : Nat} {xv : Nat → Int32} {sg : Nat → va_E} {Z : ZS} (C : GOk K b_L_law 8 y_L_law.cls room_1 o) (hfl : (xl K).flags = flags0) (hNC : gNC (xs K)) (hX : va_X b L xv (xs K) (xs K).heap) (hb : b < (xs K).heap.size) (hbo : b < o) (hj : j + 6 ≤ L) (hL : L ≤ 3074) (hI : LI sg o Z) (hc : c + 1 ≤ 601024) (hs : sl + 6 ≤ 7293000) (kont : ∀ sg' Z', LI sg' o Z' → G K o 88 sg' (c + 1) (sl + 6) 1152 [(0, .ref b), (1, .ref (ad o 0)), (2, .ref (ad o 64)), (3, .ref (ad o 87)), (4, .int (nI j))] []) : G K o 88 sg c sl 577 [(0, .ref b), (1, .ref (ad o 0)), (2, .ref (ad o 64)), (3, .ref (ad o 87)), (4, .int (nI j))] [] := by
  obtain ⟨hIv, hW, ⟨t0, hM⟩, g87, h87⟩ := hI
  have i1 : vp_in (nI j + 1) L := by rw [show (1 : Int32) = nI 1 from rfl, nI_add]; exact vp_in_nI (by omega) (by omega)
  have i2 : vp_in (nI j + 2) L := by rw [show (2 : Int32) = nI 2 from rfl, nI_add]; exact vp_in_nI (by omega) (by omega)
  have i3 : vp_in (nI j + 3) L := by rw [show (3 : Int32) = nI 3 from rfl, nI_add]; exact vp_in_nI (by omega) (by omega)
  have i4 : vp_in (nI j + 4) L := by rw [show (4 : Int32) = nI 4 from rfl, nI_add]; exact vp_in_nI (by omega) (by omega)
  have i5 : vp_in (nI j + 5) L := by rw [show (5 : Int32) = nI 5 from rfl, nI_add]; exact vp_in_nI (by omega) (by omega)
  by_cases hdn : (xv (nI j + 3).toNatClampNeg) = 0
  · obtain ⟨k, v, w, Z', hI', hvw, hk4, hWr, hMo⟩ := op_swap hfl hIv hW h87 (xv (nI j + 1).toNatClampNeg) (xv (nI j + 2).toNatClampNeg) false (xv (nI j + 4).toNatClampNeg) (xv (nI j + 5).toNatClampNeg)
    refine g_aload_n C rfl rfl d_L_law_577 ?_
    refine g_aload_n C rfl rfl d_L_law_578 ?_
    refine g_iload C rfl d_L_law_579 ?_
    refine g_iconst (v := 1) C rfl d_L_law_581 ?_
    refine g_iadd C d_L_law_582 ?_
    refine g_xald C hX hb hbo (by first | assumption | (unfold vp_in; decide)) d_L_law_583 ?_
    refine g_aload_n C rfl rfl d_L_law_584 ?_
    refine g_iload C rfl d_L_law_585 ?_
    refine g_iconst (v := 2) C rfl d_L_law_587 ?_
    refine g_iadd C d_L_law_588 ?_
    refine g_xald C hX hb hbo (by first | assumption | (unfold vp_in; decide)) d_L_law_589 ?_
    refine g_aload_n C rfl rfl d_L_law_590 ?_
    refine g_iload C rfl d_L_law_591 ?_
    refine g_iconst (v := 3) C rfl d_L_law_593 ?_
    refine g_iadd C d_L_law_594 ?_
    refine g_xald C hX hb hbo (by first | assumption | (unfold vp_in; decide)) d_L_law_595 ?_
    refine g_if_eq (tgt := 603) C d_L_law_596 (by decide) (fun j596 => ?_) (fun j596 => ?_)
    rotate_left
    · exact absurd hdn j596
    refine g_iconst (v := 0) C rfl d_L_law_603 ?_
    refine g_aload_n C rfl rfl d_L_law_604 ?_
    refine g_iload C rfl d_L_law_605 ?_
    refine g_iconst (v := 4) C rfl d_L_law_607 ?_
    refine g_iadd C d_L_law_608 ?_
    refine g_xald C hX hb hbo (by first | assumption | (unfold vp_in; decide)) d_L_law_609 ?_
    refine g_aload_n C rfl rfl d_L_law_610 ?_
    refine g_iload C rfl d_L_law_611 ?_
    refine g_iconst (v := 5) C rfl d_L_law_613 ?_
    refine g_iadd C d_L_law_614 ?_
    refine g_xald C hX hb hbo (by first | assumption | (unfold vp_in; decide)) d_L_law_615 ?_
    refine g_aload_n C rfl rfl d_L_law_616 ?_
    refine g_callSW C hNC (hWr) YW_swap m_489 m_488 ⟨by decide, by decide⟩ ⟨by show _ ≤ 601024; omega, by show _ ≤ 7293000; omega⟩ d_L_law_617 rfl (Nat.le_of_ble_eq_true rfl) (fun ret sg617 hq => ?_)
    obtain ⟨rfl, wE, ⟨g, w87, wv⟩, wF⟩ := hq
    have mW := MW_mv hM (s' := sg617) (fun j a b => wF j (by omega) (by omega))
    have m0 : sg617 64 = _ := mW.1
    refine g_istore (lv' := [(5, .int (nI k)), (0, .ref b), (1, .ref (ad o 0)), (2, .ref (ad o 64)), (3, .ref (ad o 87)), (4, .int (nI j))]) C d_L_law_620 (by decide) rfl ?_
    refine g_aload_n C rfl rfl d_L_law_622 ?_
    refine g_aload_n C rfl rfl d_L_law_623 ?_
    refine g_iload C rfl d_L_law_624 ?_
    refine g_iconst (v := 1) C rfl d_L_law_626 ?_
    refine g_iadd C d_L_law_627 ?_
    refine g_xald C hX hb hbo (by first | assumption | (unfold vp_in; decide)) d_L_law_628 ?_
    refine g_aload_n C rfl rfl d_L_law_629 ?_
    refine g_iload C rfl d_L_law_630 ?_
    refine g_iconst (v := 2) C rfl d_L_law_632 ?_
    refine g_iadd C d_L_law_633 ?_
    refine g_xald C hX hb hbo (by first | assumption | (unfold vp_in; decide)) d_L_law_634 ?_
    refine g_aload_n C rfl rfl d_L_law_635 ?_
    refine g_iload C rfl d_L_law_636 ?_
    refine g_iconst (v := 3) C rfl d_L_law_638 ?_
    refine g_iadd C d_L_law_639 ?_
    refine g_xald C hX hb hbo (by first | assumption | (unfold vp_in; decide)) d_L_law_640 ?_
    refine g_if_eq (tgt := 648) C d_L_law_641 (by decide) (fun j641 => ?_) (fun j641 => ?_)
    rotate_left
    · exact absurd hdn j641
    refine g_iconst (v := 0) C rfl d_L_law_648 ?_
    refine g_aload_n C rfl rfl d_L_law_649 ?_
    refine g_iload C rfl d_L_law_650 ?_
    refine g_iconst (v := 4) C rfl d_L_law_652 ?_
    refine g_iadd C d_L_law_653 ?_
    refine g_xald C hX hb hbo (by first | assumption | (unfold vp_in; decide)) d_L_law_654 ?_
    refine g_aload_n C rfl rfl d_L_law_655 ?_
    refine g_iload C rfl d_L_law_656 ?_
    refine g_iconst (v := 5) C rfl d_L_law_658 ?_
    refine g_iadd C d_L_law_659 ?_
    refine g_xald C hX hb hbo (by first | assumption | (unfold vp_in; decide)) d_L_law_660 ?_
    refine g_callV C (hMo sg617 t0 mW) Y_M_swap m_806 m_807 m_805 rfl rfl ⟨by decide, by decide⟩ ⟨by show _ ≤ 601024; omega, by show _ ≤ 7293000; omega⟩ (fun h => nomatch h) d_L_law_661 (by first | assumption | omega) (by repeat' first | assumption | exact up_eq _ _ _ | refine up_ne (by omega) ?_) rfl (Nat.le_of_ble_eq_true rfl) (fun ret sg661 hq => ?_)
    obtain ⟨rfl, nW, nF⟩ := hq
    have n0 : sg661 64 = _ := nW.1
    have n87 : sg661 87 = eJ 1 g := (nF 87 (Or.inr (by omega))).trans w87
    refine g_lstore (lv' := [(6, .long w), (5, .int (nI k)), (0, .ref b), (1, .ref (ad o 0)), (2, .ref (ad o 64)), (3, .ref (ad o 87)), (4, .int (nI j))]) C d_L_law_664 (by decide) rfl ?_
    refine g_aload_n C rfl rfl d_L_law_666 ?_
    refine g_callV C (c_M_thrown (by decide) nW.1) Y_M_thrown m_718 m_719 m_717 rfl rfl ⟨by decide, by decide⟩ ⟨by show _ ≤ 601024; omega, by show _ ≤ 7293000; omega⟩ (fun h => nomatch h) d_L_law_667 (by first | assumption | omega) (by repeat' first | assumption | exact up_eq _ _ _ | refine up_ne (by omega) ?_) rfl (Nat.le_of_ble_eq_true rfl) (fun ret sg667 hq => ?_)
    obtain ⟨rfl, rfl⟩ := hq
    refine g_iload C rfl d_L_law_670 ?_
    refine g_icmp_eq (tgt := 677) C d_L_law_672 (by decide) (fun j672 => ?_) (fun j672 => ?_)
    rotate_left
    · exact absurd rfl j672
    refine g_iload C rfl d_L_law_677 ?_
    refine g_if_ne (tgt := 693) C d_L_law_679 (by decide) (fun j679 => ?_) (fun j679 => ?_)
    · refine g_goto (tgt := 1152) C d_L_law_693 (by decide) ?_
      refine g_pick [2, 3, 4, 5, 6] rfl ?_
      exact kont _ Z' ⟨hI', EW_mv wE (fun j q => nF j (Or.inl q)), ⟨_, nW⟩, ⟨_, n87⟩⟩
    · refine g_aload_n C rfl rfl d_L_law_682 ?_
      refine g_iconst (v := 0) C rfl d_L_law_683 ?_
      refine g_lald C d_L_law_684 (by first | assumption | omega) (by repeat' first | assumption | exact up_eq _ _ _ | refine up_ne (by omega) ?_) (vp_in_nI (n := 0) (by decide) (by decide)) ?_
      rw [show (0 : Int32).toNatClampNeg = 0 from rfl, wv (k_of hk4 j679), hvw (k_of hk4 j679)]
      refine g_lload C rfl d_L_law_685 ?_
      refine g_lcmp_eq (tgt := 693) C d_L_law_687 d_L_law_688 (by decide) (fun j687 => ?_) (fun j687 => ?_)
      rotate_left
      · exact absurd rfl j687
      refine g_goto (tgt := 1152) C d_L_law_693 (by decide) ?_
      refine g_pick [2, 3, 4, 5, 6] rfl ?_
      exact kont _ Z' ⟨hI', EW_mv wE (fun j q => nF j (Or.inl q)), ⟨_, nW⟩, ⟨_, n87⟩⟩
  · obtain ⟨k, v, w, Z', hI', hvw, hk4, hWr, hMo⟩ := op_swap hfl hIv hW h87 (xv (nI j + 1).toNatClampNeg) (xv (nI j + 2).toNatClampNeg) true (xv (nI j + 4).toNatClampNeg) (xv (nI j + 5).toNatClampNeg)
    refine g_aload_n C rfl rfl d_L_law_577 ?_
    refine g_aload_n C rfl rfl d_L_law_578 ?_
    refine g_iload C rfl d_L_law_579 ?_
    refine g_iconst (v := 1) C rfl d_L_law_581 ?_
    refine g_iadd C d_L_law_582 ?_
    refine g_xald C hX hb hbo (by first | assumption | (unfold vp_in; decide)) d_L_law_583 ?_
    refine g_aload_n C rfl rfl d_L_law_584 ?_
    refine g_iload C rfl d_L_law_585 ?_
    refine g_iconst (v := 2) C rfl d_L_law_587 ?_
    refine g_iadd C d_L_law_588 ?_
    refine g_xald C hX hb hbo (by first | assumption | (unfold vp_in; decide)) d_L_law_589 ?_
    refine g_aload_n C rfl rfl d_L_law_590 ?_
    refine g_iload C rfl d_L_law_591 ?_
    refine g_iconst (v := 3) C rfl d_L_law_593 ?_
    refine g_iadd C d_L_law_594 ?_
    refine g_xald C hX hb hbo (by first | assumption | (unfold vp_in; decide)) d_L_law_595 ?_
    refine g_if_eq (tgt := 603) C d_L_law_596 (by decide) (fun j596 => ?_) (fun j596 => ?_)
    · exact absurd j596 hdn
    refine g_iconst (v := 1) C rfl d_L_law_599 ?_
    refine g_goto (tgt := 604) C d_L_law_600 (by decide) ?_
    refine g_aload_n C rfl rfl d_L_law_604 ?_
    refine g_iload C rfl d_L_law_605 ?_
    refine g_iconst (v := 4) C rfl d_L_law_607 ?_
    refine g_iadd C d_L_law_608 ?_
    refine g_xald C hX hb hbo (by first | assumption | (unfold vp_in; decide)) d_L_law_609 ?_
    refine g_aload_n C rfl rfl d_L_law_610 ?_
    refine g_iload C rfl d_L_law_611 ?_
    refine g_iconst (v := 5) C rfl d_L_law_613 ?_
    refine g_iadd C d_L_law_614 ?_
    refine g_xald C hX hb hbo (by first | assumption | (unfold vp_in; decide)) d_L_law_615 ?_
    refine g_aload_n C rfl rfl d_L_law_616 ?_
    refine g_callSW C hNC (hWr) YW_swap m_489 m_488 ⟨by decide, by decide⟩ ⟨by show _ ≤ 601024; omega, by show _ ≤ 7293000; omega⟩ d_L_law_617 rfl (Nat.le_of_ble_eq_true rfl) (fun ret sg617 hq => ?_)
    obtain ⟨rfl, wE, ⟨g, w87, wv⟩, wF⟩ := hq
    have mW := MW_mv hM (s' := sg617) (fun j a b => wF j (by omega) (by omega))
    have m0 : sg617 64 = _ := mW.1
    refine g_istore (lv' := [(5, .int (nI k)), (0, .ref b), (1, .ref (ad o 0)), (2, .ref (ad o 64)), (3, .ref (ad o 87)), (4, .int (nI j))]) C d_L_law_620 (by decide) rfl ?_
    refine g_aload_n C rfl rfl d_L_law_622 ?_
    refine g_aload_n C rfl rfl d_L_law_623 ?_
    refine g_iload C rfl d_L_law_624 ?_
    refine g_iconst (v := 1) C rfl d_L_law_626 ?_
    refine g_iadd C d_L_law_627 ?_
    refine g_xald C hX hb hbo (by first | assumption | (unfold vp_in; decide)) d_L_law_628 ?_
    refine g_aload_n C rfl rfl d_L_law_629 ?_
    refine g_iload C rfl d_L_law_630 ?_
    refine g_iconst (v := 2) C rfl d_L_law_632 ?_
    refine g_iadd C d_L_law_633 ?_
    refine g_xald C hX hb hbo (by first | assumption | (unfold vp_in; decide)) d_L_law_634 ?_
    refine g_aload_n C rfl rfl d_L_law_635 ?_
    refine g_iload C rfl d_L_law_636 ?_
    refine g_iconst (v := 3) C rfl d_L_law_638 ?_
    refine g_iadd C d_L_law_639 ?_
    refine g_xald C hX hb hbo (by first | assumption | (unfold vp_in; decide)) d_L_law_640 ?_
    refine g_if_eq (tgt := 648) C d_L_law_641 (by decide) (fun j641 => ?_) (fun j641 => ?_)
    · exact absurd j641 hdn
    refine g_iconst (v := 1) C rfl d_L_law_644 ?_
    refine g_goto (tgt := 649) C d_L_law_645 (by decide) ?_
    refine g_aload_n C rfl rfl d_L_law_649 ?_
    refine g_iload C rfl d_L_law_650 ?_
    refine g_iconst (v := 4) C rfl d_L_law_652 ?_
    refine g_iadd C d_L_law_653 ?_
    refine g_xald C hX hb hbo (by first | assumption | (unfold vp_in; decide)) d_L_law_654 ?_
    refine g_aload_n C rfl rfl d_L_law_655 ?_
    refine g_iload C rfl d_L_law_656 ?_
    refine g_iconst (v := 5) C rfl d_L_law_658 ?_
    refine g_iadd C d_L_law_659 ?_
    refine g_xald C hX hb hbo (by first | assumption | (unfold vp_in; decide)) d_L_law_660 ?_
    refine g_callV C (hMo sg617 t0 mW) Y_M_swap m_806 m_807 m_805 rfl rfl ⟨by decide, by decide⟩ ⟨by show _ ≤ 601024; omega, by show _ ≤ 7293000; omega⟩ (fun h => nomatch h) d_L_law_661 (by first | assumption | omega) (by repeat' first | assumption | exact up_eq _ _ _ | refine up_ne (by omega) ?_) rfl (Nat.le_of_ble_eq_true rfl) (fun ret sg661 hq => ?_)
    obtain ⟨rfl, nW, nF⟩ := hq
    have n0 : sg661 64 = _ := nW.1
    have n87 : sg661 87 = eJ 1 g := (nF 87 (Or.inr (by omega))).trans w87
    refine g_lstore (lv' := [(6, .long w), (5, .int (nI k)), (0, .ref b), (1, .ref (ad o 0)), (2, .ref (ad o 64)), (3, .ref (ad o 87)), (4, .int (nI j))]) C d_L_law_664 (by decide) rfl ?_
    refine g_aload_n C rfl rfl d_L_law_666 ?_
    refine g_callV C (c_M_thrown (by decide) nW.1) Y_M_thrown m_718 m_719 m_717 rfl rfl ⟨by decide, by decide⟩ ⟨by show _ ≤ 601024; omega, by show _ ≤ 7293000; omega⟩ (fun h => nomatch h) d_L_law_667 (by first | assumption | omega) (by repeat' first | assumption | exact up_eq _ _ _ | refine up_ne (by omega) ?_) rfl (Nat.le_of_ble_eq_true rfl) (fun ret sg667 hq => ?_)
    obtain ⟨rfl, rfl⟩ := hq
    refine g_iload C rfl d_L_law_670 ?_
    refine g_icmp_eq (tgt := 677) C d_L_law_672 (by decide) (fun j672 => ?_) (fun j672 => ?_)
    rotate_left
    · exact absurd rfl j672
    refine g_iload C rfl d_L_law_677 ?_
    refine g_if_ne (tgt := 693) C d_L_law_679 (by decide) (fun j679 => ?_) (fun j679 => ?_)
    · refine g_goto (tgt := 1152) C d_L_law_693 (by decide) ?_
      refine g_pick [2, 3, 4, 5, 6] rfl ?_
      exact kont _ Z' ⟨hI', EW_mv wE (fun j q => nF j (Or.inl q)), ⟨_, nW⟩, ⟨_, n87⟩⟩
    · refine g_aload_n C rfl rfl d_L_law_682 ?_
      refine g_iconst (v := 0) C rfl d_L_law_683 ?_
      refine g_lald C d_L_law_684 (by first | assumption | omega) (by repeat' first | assumption | exact up_eq _ _ _ | refine up_ne (by omega) ?_) (vp_in_nI (n := 0) (by decide) (by decide)) ?_
      rw [show (0 : Int32).toNatClampNeg = 0 from rfl, wv (k_of hk4 j679), hvw (k_of hk4 j679)]
      refine g_lload C rfl d_L_law_685 ?_
      refine g_lcmp_eq (tgt := 693) C d_L_law_687 d_L_law_688 (by decide) (fun j687 => ?_) (fun j687 => ?_)
      rotate_left
      · exact absurd rfl j687
      refine g_goto (tgt := 1152) C d_L_law_693 (by decide) ?_
      refine g_pick [2, 3, 4, 5, 6] rfl ?_
      exact kont _ Z' ⟨hI', EW_mv wE (fun j q => nF j (Or.inl q)), ⟨_, nW⟩, ⟨_, n87⟩⟩
theorem lop_paid {K : GX} {o b L j c sl : Nat} {xv : Nat → Int32} {sg : Nat → va_E} {Z : ZS} (C : GOk K b_L_law 8 y_L_law.cls room_1 o) (hfl : (xl K).flags = flags0) (hNC : gNC (xs K)) (hX : va_X b L xv (xs K) (xs K).heap) (hb : b < (xs K).heap.size) (hbo : b < o) (hj : j + 6 ≤ L) (hL : L ≤ 3074) (hI : LI sg o Z) (hc : c + 1 ≤ 601024) (hs : sl + 6 ≤ 7293000) (kont : ∀ sg' Z', LI sg' o Z' → G K o 88 sg' (c + 1) (sl + 6) 1152 [(0, .ref b), (1, .ref (ad o 0)), (2, .ref (ad o 64)), (3, .ref (ad o 87)), (4, .int (nI j))] []) : G K o 88 sg c sl 775 [(0, .ref b), (1, .ref (ad o 0)), (2, .ref (ad o 64)), (3, .ref (ad o 87)), (4, .int (nI j))] [] := by
  obtain ⟨hIv, hW, ⟨t0, hM⟩, g87, h87⟩ := hI
  have e0 : sg 0 = _ := hW.1
  have m0 : sg 64 = _ := hM.1
  refine g_aload_n C rfl rfl d_L_law_775 ?_
  refine g_callV C (c_E_paid (by decide) hW) Y_E_paid m_210 m_211 m_209 rfl rfl ⟨by decide, by decide⟩ ⟨by show _ ≤ 601024; omega, by show _ ≤ 7293000; omega⟩ (fun h => nomatch h) d_L_law_776 (by first | assumption | omega) (by repeat' first | assumption | exact up_eq _ _ _ | refine up_ne (by omega) ?_) rfl (Nat.le_of_ble_eq_true rfl) (fun ret sg776 hq => ?_)
  obtain ⟨rfl, rfl⟩ := hq
  refine g_aload_n C rfl rfl d_L_law_779 ?_
  refine g_callV C (c_M_paid (by decide) hM) Y_M_paid m_852 m_853 m_851 rfl rfl ⟨by decide, by decide⟩ ⟨by show _ ≤ 601024; omega, by show _ ≤ 7293000; omega⟩ (fun h => nomatch h) d_L_law_780 (by first | assumption | omega) (by repeat' first | assumption | exact up_eq _ _ _ | refine up_ne (by omega) ?_) rfl (Nat.le_of_ble_eq_true rfl) (fun ret sg780 hq => ?_)
  obtain ⟨rfl, nW, nF⟩ := hq
  refine g_lcmp_eq (tgt := 1152) C d_L_law_783 d_L_law_784 (by decide) (fun j783 => ?_) (fun j783 => ?_)
  rotate_left
  · exact absurd rfl j783
  refine g_pick [0, 1, 2, 3, 4] rfl ?_
  refine g_more (c2 := c + 1) (s2 := sl + 6) (by omega) (by omega) ?_
  exact kont _ Z ⟨hIv, EW_mv hW (fun j q => nF j (Or.inl q)), ⟨_, nW⟩, ⟨_, (nF 87 (Or.inr (by omega))).trans h87⟩⟩
theorem lop_position {K : GX} {o b L j c sl : Nat} {xv : Nat → Int32} {sg : Nat → va_E} {Z : ZS} (C : GOk K b_L_law 8 y_L_law.cls room_1 o) (hfl : (xl K).flags = flags0) (hNC : gNC (xs K)) (hX : va_X b L xv (xs K) (xs K).heap) (hb : b < (xs K).heap.size) (hbo : b < o) (hj : j + 6 ≤ L) (hL : L ≤ 3074) (hI : LI sg o Z) (hc : c + 1 ≤ 601024) (hs : sl + 6 ≤ 7293000) (kont : ∀ sg' Z', LI sg' o Z' → G K o 88 sg' (c + 1) (sl + 6) 1152 [(0, .ref b), (1, .ref (ad o 0)), (2, .ref (ad o 64)), (3, .ref (ad o 87)), (4, .int (nI j))] []) : G K o 88 sg c sl 1023 [(0, .ref b), (1, .ref (ad o 0)), (2, .ref (ad o 64)), (3, .ref (ad o 87)), (4, .int (nI j))] [] := by
  obtain ⟨hIv, hW, ⟨t0, hM⟩, g87, h87⟩ := hI
  have i1 : vp_in (nI j + 1) L := by rw [show (1 : Int32) = nI 1 from rfl, nI_add]; exact vp_in_nI (by omega) (by omega)
  have i2 : vp_in (nI j + 2) L := by rw [show (2 : Int32) = nI 2 from rfl, nI_add]; exact vp_in_nI (by omega) (by omega)
  have i3 : vp_in (nI j + 3) L := by rw [show (3 : Int32) = nI 3 from rfl, nI_add]; exact vp_in_nI (by omega) (by omega)
  have i4 : vp_in (nI j + 4) L := by rw [show (4 : Int32) = nI 4 from rfl, nI_add]; exact vp_in_nI (by omega) (by omega)
  have i5 : vp_in (nI j + 5) L := by rw [show (5 : Int32) = nI 5 from rfl, nI_add]; exact vp_in_nI (by omega) (by omega)
  have e0 : sg 0 = _ := hW.1
  have m0 : sg 64 = _ := hM.1
  obtain ⟨v, hE, hMo⟩ := op_pos (l := xl K) hIv hW (xv (nI j + 1).toNatClampNeg) (xv (nI j + 2).toNatClampNeg) (xv (nI j + 3).toNatClampNeg) (xv (nI j + 4).toNatClampNeg) (xv (nI j + 5).toNatClampNeg)
  refine g_aload_n C rfl rfl d_L_law_1023 ?_
  refine g_aload_n C rfl rfl d_L_law_1024 ?_
  refine g_iload C rfl d_L_law_1025 ?_
  refine g_iconst (v := 1) C rfl d_L_law_1027 ?_
  refine g_iadd C d_L_law_1028 ?_
  refine g_xald C hX hb hbo (by first | assumption | (unfold vp_in; decide)) d_L_law_1029 ?_
  refine g_aload_n C rfl rfl d_L_law_1030 ?_
  refine g_iload C rfl d_L_law_1031 ?_
  refine g_iconst (v := 2) C rfl d_L_law_1033 ?_
  refine g_iadd C d_L_law_1034 ?_
  refine g_xald C hX hb hbo (by first | assumption | (unfold vp_in; decide)) d_L_law_1035 ?_
  refine g_aload_n C rfl rfl d_L_law_1036 ?_
  refine g_iload C rfl d_L_law_1037 ?_
  refine g_iconst (v := 3) C rfl d_L_law_1039 ?_
  refine g_iadd C d_L_law_1040 ?_
  refine g_xald C hX hb hbo (by first | assumption | (unfold vp_in; decide)) d_L_law_1041 ?_
  refine g_aload_n C rfl rfl d_L_law_1042 ?_
  refine g_iload C rfl d_L_law_1043 ?_
  refine g_iconst (v := 4) C rfl d_L_law_1045 ?_
  refine g_iadd C d_L_law_1046 ?_
  refine g_xald C hX hb hbo (by first | assumption | (unfold vp_in; decide)) d_L_law_1047 ?_
  refine g_aload_n C rfl rfl d_L_law_1048 ?_
  refine g_iload C rfl d_L_law_1049 ?_
  refine g_iconst (v := 5) C rfl d_L_law_1051 ?_
  refine g_iadd C d_L_law_1052 ?_
  refine g_xald C hX hb hbo (by first | assumption | (unfold vp_in; decide)) d_L_law_1053 ?_
  refine g_callV C (hE) Y_E_position m_214 m_215 m_213 rfl rfl ⟨by decide, by decide⟩ ⟨by show _ ≤ 601024; omega, by show _ ≤ 7293000; omega⟩ (fun h => nomatch h) d_L_law_1054 (by first | assumption | omega) (by repeat' first | assumption | exact up_eq _ _ _ | refine up_ne (by omega) ?_) rfl (Nat.le_of_ble_eq_true rfl) (fun ret sg1054 hq => ?_)
  obtain ⟨rfl, rfl⟩ := hq
  refine g_aload_n C rfl rfl d_L_law_1057 ?_
  refine g_aload_n C rfl rfl d_L_law_1058 ?_
  refine g_iload C rfl d_L_law_1059 ?_
  refine g_iconst (v := 1) C rfl d_L_law_1061 ?_
  refine g_iadd C d_L_law_1062 ?_
  refine g_xald C hX hb hbo (by first | assumption | (unfold vp_in; decide)) d_L_law_1063 ?_
  refine g_aload_n C rfl rfl d_L_law_1064 ?_
  refine g_iload C rfl d_L_law_1065 ?_
  refine g_iconst (v := 2) C rfl d_L_law_1067 ?_
  refine g_iadd C d_L_law_1068 ?_
  refine g_xald C hX hb hbo (by first | assumption | (unfold vp_in; decide)) d_L_law_1069 ?_
  refine g_aload_n C rfl rfl d_L_law_1070 ?_
  refine g_iload C rfl d_L_law_1071 ?_
  refine g_iconst (v := 3) C rfl d_L_law_1073 ?_
  refine g_iadd C d_L_law_1074 ?_
  refine g_xald C hX hb hbo (by first | assumption | (unfold vp_in; decide)) d_L_law_1075 ?_
  refine g_aload_n C rfl rfl d_L_law_1076 ?_
  refine g_iload C rfl d_L_law_1077 ?_
  refine g_iconst (v := 4) C rfl d_L_law_1079 ?_
  refine g_iadd C d_L_law_1080 ?_
  refine g_xald C hX hb hbo (by first | assumption | (unfold vp_in; decide)) d_L_law_1081 ?_
  refine g_aload_n C rfl rfl d_L_law_1082 ?_
  refine g_iload C rfl d_L_law_1083 ?_
  refine g_iconst (v := 5) C rfl d_L_law_1085 ?_
  refine g_iadd C d_L_law_1086 ?_
  refine g_xald C hX hb hbo (by first | assumption | (unfold vp_in; decide)) d_L_law_1087 ?_
  refine g_callV C (hMo sg t0 hM) Y_M_position m_872 m_873 m_871 rfl rfl ⟨by decide, by decide⟩ ⟨by show _ ≤ 601024; omega, by show _ ≤ 7293000; omega⟩ (fun h => nomatch h) d_L_law_1088 (by first | assumption | omega) (by repeat' first | assumption | exact up_eq _ _ _ | refine up_ne (by omega) ?_) rfl (Nat.le_of_ble_eq_true rfl) (fun ret sg1088 hq => ?_)
  obtain ⟨rfl, nW, nF⟩ := hq
  refine g_lcmp_eq (tgt := 1152) C d_L_law_1091 d_L_law_1092 (by decide) (fun j1091 => ?_) (fun j1091 => ?_)
  rotate_left
  · exact absurd rfl j1091
  refine g_pick [0, 1, 2, 3, 4] rfl ?_
  refine g_more (c2 := c + 1) (s2 := sl + 6) (by omega) (by omega) ?_
  exact kont _ Z ⟨hIv, EW_mv hW (fun j q => nF j (Or.inl q)), ⟨_, nW⟩, ⟨_, (nF 87 (Or.inr (by omega))).trans h87⟩⟩

