-- the words of the tables that a call may take along, and the nest's words beside them
def gtb : List Cond := lw_tbl.filter goodWord
theorem gtb_good : ∀ w ∈ gtb, goodWord w = true := fun w h => (List.mem_filter.mp h).2
theorem gtb_m {w : Cond} (i : Nat) (h : tables_1[i]? = some w) (g : goodWord w = true) : w ∈ gtb := List.mem_filter.mpr ⟨List.mem_append_right _ (List.mem_of_getElem? h), g⟩
theorem gtb_s {q : MethodName × Nat} (i : Nat) (h : lw_privs[i]? = some q) : Cond.selects q.1.cls q.1 q.1 ∈ gtb := List.mem_filter.mpr ⟨List.mem_append_left _ (List.mem_map.mpr ⟨q, List.mem_of_getElem? h, rfl⟩), rfl⟩
def gnest : List Cond := [(Jvm.Cond.fieldLinkNest "RangeExchange" (183 : Nat) "RangeExchange$Trade" "pool" "LRangeExchange$Pool;" "RangeExchange"), (Jvm.Cond.fieldLinkNest "RangeExchange" (148 : Nat) "RangeExchange$Trade" "paid" "J" "RangeExchange"), (Jvm.Cond.fieldLinkNest "RangeExchange" (155 : Nat) "RangeExchange$Trade" "got" "J" "RangeExchange"), (Jvm.Cond.methodLinkNest "RangeExchange$Pool" (20 : Nat) ({ cls := "RangeExchange$Course", name := "<init>", desc := "()V" } : Jvm.MethodName) "RangeExchange"), (Jvm.Cond.fieldLinkNest "RangeExchange$Trade" (51 : Nat) "RangeExchange$Course" "price" "J" "RangeExchange"), (Jvm.Cond.fieldLinkNest "RangeExchange$Pool" (49 : Nat) "RangeExchange$Course" "price" "J" "RangeExchange"), (Jvm.Cond.fieldLinkNest "RangeExchange" (158 : Nat) "RangeExchange$Course" "price" "J" "RangeExchange"), (Jvm.Cond.fieldLinkNest "RangeExchange$Trade" (59 : Nat) "RangeExchange$Course" "tick" "I" "RangeExchange"), (Jvm.Cond.fieldLinkNest "RangeExchange$Pool" (57 : Nat) "RangeExchange$Course" "tick" "I" "RangeExchange"), (Jvm.Cond.fieldLinkNest "RangeExchange" (163 : Nat) "RangeExchange$Course" "tick" "I" "RangeExchange"), (Jvm.Cond.fieldLinkNest "RangeExchange$Trade" (100 : Nat) "RangeExchange$Course" "liquidity" "I" "RangeExchange"), (Jvm.Cond.fieldLinkNest "RangeExchange$Pool" (93 : Nat) "RangeExchange$Course" "liquidity" "I" "RangeExchange"), (Jvm.Cond.fieldLinkNest "RangeExchange" (166 : Nat) "RangeExchange$Course" "liquidity" "I" "RangeExchange"), (Jvm.Cond.fieldLinkNest "RangeExchange$Trade" (132 : Nat) "RangeExchange$Course" "growth" "[J" "RangeExchange"), (Jvm.Cond.fieldLinkNest "RangeExchange" (169 : Nat) "RangeExchange$Course" "growth" "[J" "RangeExchange"), (Jvm.Cond.fieldLinkNest "RangeExchange$Trade" (103 : Nat) "RangeExchange$Pool" "fee" "I" "RangeExchange"), (Jvm.Cond.fieldLinkNest "RangeExchange" (116 : Nat) "RangeExchange$Pool" "now" "LRangeExchange$Course;" "RangeExchange"), (Jvm.Cond.fieldLinkNest "RangeExchange$Trade" (24 : Nat) "RangeExchange$Pool" "trial" "LRangeExchange$Course;" "RangeExchange"), (Jvm.Cond.methodLinkNest "RangeExchange" (57 : Nat) ({ cls := "RangeExchange$Position", name := "<init>", desc := "()V" } : Jvm.MethodName) "RangeExchange"), (Jvm.Cond.fieldLinkNest "RangeExchange$Pool" (75 : Nat) "RangeExchange$Position" "lo" "I" "RangeExchange"), (Jvm.Cond.fieldLinkNest "RangeExchange$Pool" (84 : Nat) "RangeExchange$Position" "hi" "I" "RangeExchange"), (Jvm.Cond.fieldLinkNest "RangeExchange" (80 : Nat) "RangeExchange$Position" "amount" "I" "RangeExchange"), (Jvm.Cond.fieldLinkNest "RangeExchange$Pool" (90 : Nat) "RangeExchange$Position" "amount" "I" "RangeExchange"), (Jvm.Cond.fieldLinkNest "RangeExchange" (124 : Nat) "RangeExchange$Position" "owed" "[J" "RangeExchange"), (Jvm.Cond.castable "java/lang/IndexOutOfBoundsException" "java/lang/IndexOutOfBoundsException"), (Jvm.Cond.declares ({ cls := "java/lang/RuntimeException", name := "<init>", desc := "()V" } : Jvm.MethodName)), (Jvm.Cond.declares ({ cls := "java/lang/RuntimeException", name := "<init>", desc := "(Ljava/lang/String;)V" } : Jvm.MethodName)), (Jvm.Cond.declares ({ cls := "java/lang/Exception", name := "<init>", desc := "()V" } : Jvm.MethodName)), (Jvm.Cond.declares ({ cls := "java/lang/Exception", name := "<init>", desc := "(Ljava/lang/String;)V" } : Jvm.MethodName)), (Jvm.Cond.declares ({ cls := "java/lang/Throwable", name := "<init>", desc := "()V" } : Jvm.MethodName)), (Jvm.Cond.declares ({ cls := "java/lang/Throwable", name := "<init>", desc := "(Ljava/lang/String;)V" } : Jvm.MethodName)), (Jvm.Cond.castable "java/lang/IllegalArgumentException" "java/lang/IllegalArgumentException"), (Jvm.Cond.castable "java/lang/IllegalStateException" "java/lang/IllegalStateException"), (Jvm.Cond.castable "java/util/NoSuchElementException" "java/util/NoSuchElementException")]
theorem gnest_in : ∀ w ∈ gnest, w ∈ lw_tbl := by
  intro w h
  have h2 : gnest.all (fun w => decide (w ∈ tables_1)) = true := by decide +kernel
  have h3 := List.all_eq_true.mp h2 w h
  exact List.mem_append_right _ (by simpa using h3)
theorem n_52 : (Jvm.Cond.fieldLinkNest "RangeExchange" (183 : Nat) "RangeExchange$Trade" "pool" "LRangeExchange$Pool;" "RangeExchange") ∈ gnest := List.mem_of_getElem? (i := 0) rfl
theorem n_59 : (Jvm.Cond.fieldLinkNest "RangeExchange" (148 : Nat) "RangeExchange$Trade" "paid" "J" "RangeExchange") ∈ gnest := List.mem_of_getElem? (i := 1) rfl
theorem n_61 : (Jvm.Cond.fieldLinkNest "RangeExchange" (155 : Nat) "RangeExchange$Trade" "got" "J" "RangeExchange") ∈ gnest := List.mem_of_getElem? (i := 2) rfl
theorem n_88 : (Jvm.Cond.methodLinkNest "RangeExchange$Pool" (20 : Nat) ({ cls := "RangeExchange$Course", name := "<init>", desc := "()V" } : Jvm.MethodName) "RangeExchange") ∈ gnest := List.mem_of_getElem? (i := 3) rfl
theorem n_94 : (Jvm.Cond.fieldLinkNest "RangeExchange$Trade" (51 : Nat) "RangeExchange$Course" "price" "J" "RangeExchange") ∈ gnest := List.mem_of_getElem? (i := 4) rfl
theorem n_95 : (Jvm.Cond.fieldLinkNest "RangeExchange$Pool" (49 : Nat) "RangeExchange$Course" "price" "J" "RangeExchange") ∈ gnest := List.mem_of_getElem? (i := 5) rfl
theorem n_96 : (Jvm.Cond.fieldLinkNest "RangeExchange" (158 : Nat) "RangeExchange$Course" "price" "J" "RangeExchange") ∈ gnest := List.mem_of_getElem? (i := 6) rfl
theorem n_98 : (Jvm.Cond.fieldLinkNest "RangeExchange$Trade" (59 : Nat) "RangeExchange$Course" "tick" "I" "RangeExchange") ∈ gnest := List.mem_of_getElem? (i := 7) rfl
theorem n_99 : (Jvm.Cond.fieldLinkNest "RangeExchange$Pool" (57 : Nat) "RangeExchange$Course" "tick" "I" "RangeExchange") ∈ gnest := List.mem_of_getElem? (i := 8) rfl
theorem n_100 : (Jvm.Cond.fieldLinkNest "RangeExchange" (163 : Nat) "RangeExchange$Course" "tick" "I" "RangeExchange") ∈ gnest := List.mem_of_getElem? (i := 9) rfl
theorem n_102 : (Jvm.Cond.fieldLinkNest "RangeExchange$Trade" (100 : Nat) "RangeExchange$Course" "liquidity" "I" "RangeExchange") ∈ gnest := List.mem_of_getElem? (i := 10) rfl
theorem n_103 : (Jvm.Cond.fieldLinkNest "RangeExchange$Pool" (93 : Nat) "RangeExchange$Course" "liquidity" "I" "RangeExchange") ∈ gnest := List.mem_of_getElem? (i := 11) rfl
theorem n_104 : (Jvm.Cond.fieldLinkNest "RangeExchange" (166 : Nat) "RangeExchange$Course" "liquidity" "I" "RangeExchange") ∈ gnest := List.mem_of_getElem? (i := 12) rfl
theorem n_106 : (Jvm.Cond.fieldLinkNest "RangeExchange$Trade" (132 : Nat) "RangeExchange$Course" "growth" "[J" "RangeExchange") ∈ gnest := List.mem_of_getElem? (i := 13) rfl
theorem n_107 : (Jvm.Cond.fieldLinkNest "RangeExchange" (169 : Nat) "RangeExchange$Course" "growth" "[J" "RangeExchange") ∈ gnest := List.mem_of_getElem? (i := 14) rfl
theorem n_129 : (Jvm.Cond.fieldLinkNest "RangeExchange$Trade" (103 : Nat) "RangeExchange$Pool" "fee" "I" "RangeExchange") ∈ gnest := List.mem_of_getElem? (i := 15) rfl
theorem n_133 : (Jvm.Cond.fieldLinkNest "RangeExchange" (116 : Nat) "RangeExchange$Pool" "now" "LRangeExchange$Course;" "RangeExchange") ∈ gnest := List.mem_of_getElem? (i := 16) rfl
theorem n_135 : (Jvm.Cond.fieldLinkNest "RangeExchange$Trade" (24 : Nat) "RangeExchange$Pool" "trial" "LRangeExchange$Course;" "RangeExchange") ∈ gnest := List.mem_of_getElem? (i := 17) rfl
theorem n_150 : (Jvm.Cond.methodLinkNest "RangeExchange" (57 : Nat) ({ cls := "RangeExchange$Position", name := "<init>", desc := "()V" } : Jvm.MethodName) "RangeExchange") ∈ gnest := List.mem_of_getElem? (i := 18) rfl
theorem n_157 : (Jvm.Cond.fieldLinkNest "RangeExchange$Pool" (75 : Nat) "RangeExchange$Position" "lo" "I" "RangeExchange") ∈ gnest := List.mem_of_getElem? (i := 19) rfl
theorem n_159 : (Jvm.Cond.fieldLinkNest "RangeExchange$Pool" (84 : Nat) "RangeExchange$Position" "hi" "I" "RangeExchange") ∈ gnest := List.mem_of_getElem? (i := 20) rfl
theorem n_161 : (Jvm.Cond.fieldLinkNest "RangeExchange" (80 : Nat) "RangeExchange$Position" "amount" "I" "RangeExchange") ∈ gnest := List.mem_of_getElem? (i := 21) rfl
theorem n_162 : (Jvm.Cond.fieldLinkNest "RangeExchange$Pool" (90 : Nat) "RangeExchange$Position" "amount" "I" "RangeExchange") ∈ gnest := List.mem_of_getElem? (i := 22) rfl
theorem n_165 : (Jvm.Cond.fieldLinkNest "RangeExchange" (124 : Nat) "RangeExchange$Position" "owed" "[J" "RangeExchange") ∈ gnest := List.mem_of_getElem? (i := 23) rfl
theorem n_246 : (Jvm.Cond.castable "java/lang/IndexOutOfBoundsException" "java/lang/IndexOutOfBoundsException") ∈ gnest := List.mem_of_getElem? (i := 24) rfl
theorem n_247 : (Jvm.Cond.declares ({ cls := "java/lang/RuntimeException", name := "<init>", desc := "()V" } : Jvm.MethodName)) ∈ gnest := List.mem_of_getElem? (i := 25) rfl
theorem n_248 : (Jvm.Cond.declares ({ cls := "java/lang/RuntimeException", name := "<init>", desc := "(Ljava/lang/String;)V" } : Jvm.MethodName)) ∈ gnest := List.mem_of_getElem? (i := 26) rfl
theorem n_249 : (Jvm.Cond.declares ({ cls := "java/lang/Exception", name := "<init>", desc := "()V" } : Jvm.MethodName)) ∈ gnest := List.mem_of_getElem? (i := 27) rfl
theorem n_250 : (Jvm.Cond.declares ({ cls := "java/lang/Exception", name := "<init>", desc := "(Ljava/lang/String;)V" } : Jvm.MethodName)) ∈ gnest := List.mem_of_getElem? (i := 28) rfl
theorem n_251 : (Jvm.Cond.declares ({ cls := "java/lang/Throwable", name := "<init>", desc := "()V" } : Jvm.MethodName)) ∈ gnest := List.mem_of_getElem? (i := 29) rfl
theorem n_252 : (Jvm.Cond.declares ({ cls := "java/lang/Throwable", name := "<init>", desc := "(Ljava/lang/String;)V" } : Jvm.MethodName)) ∈ gnest := List.mem_of_getElem? (i := 30) rfl
theorem n_311 : (Jvm.Cond.castable "java/lang/IllegalArgumentException" "java/lang/IllegalArgumentException") ∈ gnest := List.mem_of_getElem? (i := 31) rfl
theorem n_384 : (Jvm.Cond.castable "java/lang/IllegalStateException" "java/lang/IllegalStateException") ∈ gnest := List.mem_of_getElem? (i := 32) rfl
theorem n_463 : (Jvm.Cond.castable "java/util/NoSuchElementException" "java/util/NoSuchElementException") ∈ gnest := List.mem_of_getElem? (i := 33) rfl
theorem m_0 : (Jvm.Cond.initialized "RangeExchangeLaw") ∈ gtb := gtb_m 0 rfl rfl
theorem m_1 : (Jvm.Cond.initialized "RangeExchange") ∈ gtb := gtb_m 1 rfl rfl
theorem m_2 : (Jvm.Cond.initialized "RangeExchange$Roots") ∈ gtb := gtb_m 2 rfl rfl
theorem m_3 : (Jvm.Cond.initialized "RangeExchange$Trade") ∈ gtb := gtb_m 3 rfl rfl
theorem m_4 : (Jvm.Cond.initialized "RangeExchange$Pool") ∈ gtb := gtb_m 4 rfl rfl
theorem m_5 : (Jvm.Cond.initialized "RangeExchange$Course") ∈ gtb := gtb_m 5 rfl rfl
theorem m_6 : (Jvm.Cond.initialized "java/lang/Math") ∈ gtb := gtb_m 6 rfl rfl
theorem m_7 : (Jvm.Cond.initialized "RangeExchange$Position") ∈ gtb := gtb_m 7 rfl rfl
theorem m_8 : (Jvm.Cond.initialized "RangeExchangeModel") ∈ gtb := gtb_m 8 rfl rfl
theorem m_9 : (Jvm.Cond.initialized "java/lang/Throwable") ∈ gtb := gtb_m 9 rfl rfl
theorem m_10 : (Jvm.Cond.initialized "java/lang/Exception") ∈ gtb := gtb_m 10 rfl rfl
theorem m_11 : (Jvm.Cond.initialized "java/lang/RuntimeException") ∈ gtb := gtb_m 11 rfl rfl
theorem m_12 : (Jvm.Cond.initialized "java/lang/IndexOutOfBoundsException") ∈ gtb := gtb_m 12 rfl rfl
theorem m_13 : (Jvm.Cond.initialized "java/lang/IllegalArgumentException") ∈ gtb := gtb_m 13 rfl rfl
theorem m_14 : (Jvm.Cond.initialized "RangeExchange$Quotients") ∈ gtb := gtb_m 14 rfl rfl
theorem m_15 : (Jvm.Cond.initialized "java/lang/IllegalStateException") ∈ gtb := gtb_m 15 rfl rfl
theorem m_16 : (Jvm.Cond.initialized "java/util/NoSuchElementException") ∈ gtb := gtb_m 16 rfl rfl
theorem m_17 : (Jvm.Cond.initialized "java/lang/System") ∈ gtb := gtb_m 17 rfl rfl
theorem m_18 : (Jvm.Cond.classLink "RangeExchangeLaw" (8 : Nat) "RangeExchange") ∈ gtb := gtb_m 18 rfl rfl
theorem m_19 : (Jvm.Cond.instantiable "RangeExchange" (9 : Nat)) ∈ gtb := gtb_m 19 rfl rfl
theorem m_20 : (Jvm.Cond.methodLink "RangeExchangeLaw" (66 : Nat) ({ cls := "RangeExchange", name := "<init>", desc := "(II)V" } : Jvm.MethodName)) ∈ gtb := gtb_m 20 rfl rfl
theorem m_21 : (Jvm.Cond.instanceMethod ({ cls := "RangeExchange", name := "<init>", desc := "(II)V" } : Jvm.MethodName)) ∈ gtb := gtb_m 21 rfl rfl
theorem m_22 : (Jvm.Cond.code ({ cls := "RangeExchange", name := "<init>", desc := "(II)V" } : Jvm.MethodName) prog_1_method_1_code (4 : Nat) (Option.none : Option Jvm.ClassFile.FieldType)) ∈ gtb := gtb_m 22 rfl rfl
theorem m_23 : (Jvm.Cond.methodLink "RangeExchange" (3 : Nat) ({ cls := "java/lang/Object", name := "<init>", desc := "()V" } : Jvm.MethodName)) ∈ gtb := gtb_m 23 rfl rfl
theorem m_24 : (Jvm.Cond.instanceMethod ({ cls := "java/lang/Object", name := "<init>", desc := "()V" } : Jvm.MethodName)) ∈ gtb := gtb_m 24 rfl rfl
theorem m_25 : (Jvm.Cond.code ({ cls := "java/lang/Object", name := "<init>", desc := "()V" } : Jvm.MethodName) object_method_1_code (1 : Nat) (Option.none : Option Jvm.ClassFile.FieldType)) ∈ gtb := gtb_m 25 rfl rfl
theorem m_26 : (Jvm.Cond.classLink "RangeExchange" (19 : Nat) "RangeExchange$Roots") ∈ gtb := gtb_m 26 rfl rfl
theorem m_27 : (Jvm.Cond.instantiable "RangeExchange$Roots" (1 : Nat)) ∈ gtb := gtb_m 27 rfl rfl
theorem m_28 : (Jvm.Cond.methodLink "RangeExchange" (21 : Nat) ({ cls := "RangeExchange$Roots", name := "<init>", desc := "()V" } : Jvm.MethodName)) ∈ gtb := gtb_m 28 rfl rfl
theorem m_29 : (Jvm.Cond.instanceMethod ({ cls := "RangeExchange$Roots", name := "<init>", desc := "()V" } : Jvm.MethodName)) ∈ gtb := gtb_m 29 rfl rfl
theorem m_30 : (Jvm.Cond.code ({ cls := "RangeExchange$Roots", name := "<init>", desc := "()V" } : Jvm.MethodName) prog_6_method_1_code (2 : Nat) (Option.none : Option Jvm.ClassFile.FieldType)) ∈ gtb := gtb_m 30 rfl rfl
theorem m_31 : (Jvm.Cond.methodLink "RangeExchange$Roots" (3 : Nat) ({ cls := "java/lang/Object", name := "<init>", desc := "()V" } : Jvm.MethodName)) ∈ gtb := gtb_m 31 rfl rfl
theorem m_32 : (Jvm.Cond.constantLong "RangeExchange$Roots" (15 : Nat) (4294967296 : Int64)) ∈ gtb := gtb_m 32 rfl rfl
theorem m_33 : (Jvm.Cond.constantLong "RangeExchange$Roots" (17 : Nat) (32 : Int64)) ∈ gtb := gtb_m 33 rfl rfl
theorem m_34 : (Jvm.Cond.constantLong "RangeExchange$Roots" (19 : Nat) (33 : Int64)) ∈ gtb := gtb_m 34 rfl rfl
theorem m_35 : (Jvm.Cond.fieldLink "RangeExchange$Roots" (9 : Nat) "RangeExchange$Roots" "roots" "[J") ∈ gtb := gtb_m 35 rfl rfl
theorem m_36 : (Jvm.Cond.laysFinal "RangeExchange$Roots" "RangeExchange$Roots" "roots" "[J") ∈ gtb := gtb_m 36 rfl rfl
theorem m_37 : (Jvm.Cond.soleField "RangeExchange$Roots" "roots") ∈ gtb := gtb_m 37 rfl rfl
theorem m_38 : (Jvm.Cond.superclass "RangeExchange$Roots" "java/lang/Object") ∈ gtb := gtb_m 38 rfl rfl
theorem m_39 : (Jvm.Cond.arrayClass Jvm.ClassFile.FieldType.long) ∈ gtb := gtb_m 39 rfl rfl
theorem m_40 : (Jvm.Cond.classLink "RangeExchange" (26 : Nat) "RangeExchange$Pool") ∈ gtb := gtb_m 40 rfl rfl
theorem m_42 : (Jvm.Cond.classLink "RangeExchange" (32 : Nat) "RangeExchange$Position") ∈ gtb := gtb_m 42 rfl rfl
theorem m_44 : (Jvm.Cond.classLink "RangeExchange" (38 : Nat) "RangeExchange$Trade") ∈ gtb := gtb_m 44 rfl rfl
theorem m_45 : (Jvm.Cond.instantiable "RangeExchange$Trade" (9 : Nat)) ∈ gtb := gtb_m 45 rfl rfl
theorem m_46 : (Jvm.Cond.methodLink "RangeExchange" (40 : Nat) ({ cls := "RangeExchange$Trade", name := "<init>", desc := "(LRangeExchange$Roots;)V" } : Jvm.MethodName)) ∈ gtb := gtb_m 46 rfl rfl
theorem m_47 : (Jvm.Cond.instanceMethod ({ cls := "RangeExchange$Trade", name := "<init>", desc := "(LRangeExchange$Roots;)V" } : Jvm.MethodName)) ∈ gtb := gtb_m 47 rfl rfl
theorem m_48 : (Jvm.Cond.code ({ cls := "RangeExchange$Trade", name := "<init>", desc := "(LRangeExchange$Roots;)V" } : Jvm.MethodName) prog_7_method_1_code (2 : Nat) (Option.none : Option Jvm.ClassFile.FieldType)) ∈ gtb := gtb_m 48 rfl rfl
theorem m_49 : (Jvm.Cond.methodLink "RangeExchange$Trade" (3 : Nat) ({ cls := "java/lang/Object", name := "<init>", desc := "()V" } : Jvm.MethodName)) ∈ gtb := gtb_m 49 rfl rfl
theorem m_50 : (Jvm.Cond.fieldLink "RangeExchange$Trade" (9 : Nat) "RangeExchange$Trade" "roots" "LRangeExchange$Roots;") ∈ gtb := gtb_m 50 rfl rfl
theorem m_51 : (Jvm.Cond.fieldLink "RangeExchange$Trade" (20 : Nat) "RangeExchange$Trade" "pool" "LRangeExchange$Pool;") ∈ gtb := gtb_m 51 rfl rfl
theorem m_53 : (Jvm.Cond.fieldLink "RangeExchange$Trade" (28 : Nat) "RangeExchange$Trade" "course" "LRangeExchange$Course;") ∈ gtb := gtb_m 53 rfl rfl
theorem m_54 : (Jvm.Cond.fieldLink "RangeExchange$Trade" (31 : Nat) "RangeExchange$Trade" "down" "Z") ∈ gtb := gtb_m 54 rfl rfl
theorem m_55 : (Jvm.Cond.fieldLink "RangeExchange$Trade" (35 : Nat) "RangeExchange$Trade" "exactIn" "Z") ∈ gtb := gtb_m 55 rfl rfl
theorem m_56 : (Jvm.Cond.fieldLink "RangeExchange$Trade" (38 : Nat) "RangeExchange$Trade" "rest" "J") ∈ gtb := gtb_m 56 rfl rfl
theorem m_57 : (Jvm.Cond.fieldLink "RangeExchange$Trade" (42 : Nat) "RangeExchange$Trade" "limit" "J") ∈ gtb := gtb_m 57 rfl rfl
theorem m_58 : (Jvm.Cond.fieldLink "RangeExchange$Trade" (45 : Nat) "RangeExchange$Trade" "paid" "J") ∈ gtb := gtb_m 58 rfl rfl
theorem m_60 : (Jvm.Cond.fieldLink "RangeExchange$Trade" (48 : Nat) "RangeExchange$Trade" "got" "J") ∈ gtb := gtb_m 60 rfl rfl
theorem m_62 : (Jvm.Cond.laysFinal "RangeExchange$Trade" "RangeExchange$Trade" "roots" "LRangeExchange$Roots;") ∈ gtb := gtb_m 62 rfl rfl
theorem m_63 : (Jvm.Cond.soleField "RangeExchange$Trade" "roots") ∈ gtb := gtb_m 63 rfl rfl
theorem m_64 : (Jvm.Cond.lays "RangeExchange$Trade" "RangeExchange$Trade" "pool" "LRangeExchange$Pool;") ∈ gtb := gtb_m 64 rfl rfl
theorem m_65 : (Jvm.Cond.soleField "RangeExchange$Trade" "pool") ∈ gtb := gtb_m 65 rfl rfl
theorem m_66 : (Jvm.Cond.lays "RangeExchange$Trade" "RangeExchange$Trade" "course" "LRangeExchange$Course;") ∈ gtb := gtb_m 66 rfl rfl
theorem m_67 : (Jvm.Cond.soleField "RangeExchange$Trade" "course") ∈ gtb := gtb_m 67 rfl rfl
theorem m_68 : (Jvm.Cond.lays "RangeExchange$Trade" "RangeExchange$Trade" "down" "Z") ∈ gtb := gtb_m 68 rfl rfl
theorem m_69 : (Jvm.Cond.soleField "RangeExchange$Trade" "down") ∈ gtb := gtb_m 69 rfl rfl
theorem m_70 : (Jvm.Cond.lays "RangeExchange$Trade" "RangeExchange$Trade" "exactIn" "Z") ∈ gtb := gtb_m 70 rfl rfl
theorem m_71 : (Jvm.Cond.soleField "RangeExchange$Trade" "exactIn") ∈ gtb := gtb_m 71 rfl rfl
theorem m_72 : (Jvm.Cond.lays "RangeExchange$Trade" "RangeExchange$Trade" "rest" "J") ∈ gtb := gtb_m 72 rfl rfl
theorem m_73 : (Jvm.Cond.soleField "RangeExchange$Trade" "rest") ∈ gtb := gtb_m 73 rfl rfl
theorem m_74 : (Jvm.Cond.lays "RangeExchange$Trade" "RangeExchange$Trade" "limit" "J") ∈ gtb := gtb_m 74 rfl rfl
theorem m_75 : (Jvm.Cond.soleField "RangeExchange$Trade" "limit") ∈ gtb := gtb_m 75 rfl rfl
theorem m_76 : (Jvm.Cond.lays "RangeExchange$Trade" "RangeExchange$Trade" "paid" "J") ∈ gtb := gtb_m 76 rfl rfl
theorem m_77 : (Jvm.Cond.soleField "RangeExchange$Trade" "paid") ∈ gtb := gtb_m 77 rfl rfl
theorem m_78 : (Jvm.Cond.lays "RangeExchange$Trade" "RangeExchange$Trade" "got" "J") ∈ gtb := gtb_m 78 rfl rfl
theorem m_79 : (Jvm.Cond.soleField "RangeExchange$Trade" "got") ∈ gtb := gtb_m 79 rfl rfl
theorem m_80 : (Jvm.Cond.superclass "RangeExchange$Trade" "java/lang/Object") ∈ gtb := gtb_m 80 rfl rfl
theorem m_81 : (Jvm.Cond.instantiable "RangeExchange$Pool" (6 : Nat)) ∈ gtb := gtb_m 81 rfl rfl
theorem m_82 : (Jvm.Cond.methodLink "RangeExchange" (54 : Nat) ({ cls := "RangeExchange$Pool", name := "<init>", desc := "(LRangeExchange$Roots;I)V" } : Jvm.MethodName)) ∈ gtb := gtb_m 82 rfl rfl
theorem m_83 : (Jvm.Cond.instanceMethod ({ cls := "RangeExchange$Pool", name := "<init>", desc := "(LRangeExchange$Roots;I)V" } : Jvm.MethodName)) ∈ gtb := gtb_m 83 rfl rfl
theorem m_84 : (Jvm.Cond.code ({ cls := "RangeExchange$Pool", name := "<init>", desc := "(LRangeExchange$Roots;I)V" } : Jvm.MethodName) prog_3_method_1_code (3 : Nat) (Option.none : Option Jvm.ClassFile.FieldType)) ∈ gtb := gtb_m 84 rfl rfl
theorem m_85 : (Jvm.Cond.methodLink "RangeExchange$Pool" (3 : Nat) ({ cls := "java/lang/Object", name := "<init>", desc := "()V" } : Jvm.MethodName)) ∈ gtb := gtb_m 85 rfl rfl
theorem m_86 : (Jvm.Cond.classLink "RangeExchange$Pool" (18 : Nat) "RangeExchange$Course") ∈ gtb := gtb_m 86 rfl rfl
theorem m_87 : (Jvm.Cond.instantiable "RangeExchange$Course" (5 : Nat)) ∈ gtb := gtb_m 87 rfl rfl
theorem m_89 : (Jvm.Cond.instanceMethod ({ cls := "RangeExchange$Course", name := "<init>", desc := "()V" } : Jvm.MethodName)) ∈ gtb := gtb_m 89 rfl rfl
theorem m_90 : (Jvm.Cond.code ({ cls := "RangeExchange$Course", name := "<init>", desc := "()V" } : Jvm.MethodName) prog_2_method_1_code (1 : Nat) (Option.none : Option Jvm.ClassFile.FieldType)) ∈ gtb := gtb_m 90 rfl rfl
theorem m_91 : (Jvm.Cond.methodLink "RangeExchange$Course" (3 : Nat) ({ cls := "java/lang/Object", name := "<init>", desc := "()V" } : Jvm.MethodName)) ∈ gtb := gtb_m 91 rfl rfl
theorem m_92 : (Jvm.Cond.constantLong "RangeExchange$Course" (9 : Nat) (4294967296 : Int64)) ∈ gtb := gtb_m 92 rfl rfl
theorem m_93 : (Jvm.Cond.fieldLink "RangeExchange$Course" (11 : Nat) "RangeExchange$Course" "price" "J") ∈ gtb := gtb_m 93 rfl rfl
theorem m_97 : (Jvm.Cond.fieldLink "RangeExchange$Course" (17 : Nat) "RangeExchange$Course" "tick" "I") ∈ gtb := gtb_m 97 rfl rfl
theorem m_101 : (Jvm.Cond.fieldLink "RangeExchange$Course" (21 : Nat) "RangeExchange$Course" "liquidity" "I") ∈ gtb := gtb_m 101 rfl rfl
theorem m_105 : (Jvm.Cond.fieldLink "RangeExchange$Course" (24 : Nat) "RangeExchange$Course" "growth" "[J") ∈ gtb := gtb_m 105 rfl rfl
theorem m_108 : (Jvm.Cond.fieldLink "RangeExchange$Course" (28 : Nat) "RangeExchange$Course" "outside" "[J") ∈ gtb := gtb_m 108 rfl rfl
theorem m_109 : (Jvm.Cond.lays "RangeExchange$Course" "RangeExchange$Course" "price" "J") ∈ gtb := gtb_m 109 rfl rfl
theorem m_110 : (Jvm.Cond.soleField "RangeExchange$Course" "price") ∈ gtb := gtb_m 110 rfl rfl
theorem m_111 : (Jvm.Cond.lays "RangeExchange$Course" "RangeExchange$Course" "tick" "I") ∈ gtb := gtb_m 111 rfl rfl
theorem m_112 : (Jvm.Cond.soleField "RangeExchange$Course" "tick") ∈ gtb := gtb_m 112 rfl rfl
theorem m_113 : (Jvm.Cond.lays "RangeExchange$Course" "RangeExchange$Course" "liquidity" "I") ∈ gtb := gtb_m 113 rfl rfl
theorem m_114 : (Jvm.Cond.soleField "RangeExchange$Course" "liquidity") ∈ gtb := gtb_m 114 rfl rfl
theorem m_115 : (Jvm.Cond.laysFinal "RangeExchange$Course" "RangeExchange$Course" "growth" "[J") ∈ gtb := gtb_m 115 rfl rfl
theorem m_116 : (Jvm.Cond.soleField "RangeExchange$Course" "growth") ∈ gtb := gtb_m 116 rfl rfl
theorem m_117 : (Jvm.Cond.laysFinal "RangeExchange$Course" "RangeExchange$Course" "outside" "[J") ∈ gtb := gtb_m 117 rfl rfl
theorem m_118 : (Jvm.Cond.soleField "RangeExchange$Course" "outside") ∈ gtb := gtb_m 118 rfl rfl
theorem m_119 : (Jvm.Cond.superclass "RangeExchange$Course" "java/lang/Object") ∈ gtb := gtb_m 119 rfl rfl
theorem m_120 : (Jvm.Cond.arrayClass Jvm.ClassFile.FieldType.int) ∈ gtb := gtb_m 120 rfl rfl
theorem m_121 : (Jvm.Cond.methodLink "RangeExchange$Pool" (32 : Nat) ({ cls := "java/lang/Math", name := "min", desc := "(II)I" } : Jvm.MethodName)) ∈ gtb := gtb_m 121 rfl rfl
theorem m_122 : (Jvm.Cond.static ({ cls := "java/lang/Math", name := "min", desc := "(II)I" } : Jvm.MethodName)) ∈ gtb := gtb_m 122 rfl rfl
theorem m_123 : (Jvm.Cond.code ({ cls := "java/lang/Math", name := "min", desc := "(II)I" } : Jvm.MethodName) prog_14_method_69_code (2 : Nat) (Option.some Jvm.ClassFile.FieldType.int)) ∈ gtb := gtb_m 123 rfl rfl
theorem m_124 : (Jvm.Cond.methodLink "RangeExchange$Pool" (38 : Nat) ({ cls := "java/lang/Math", name := "max", desc := "(II)I" } : Jvm.MethodName)) ∈ gtb := gtb_m 124 rfl rfl
theorem m_125 : (Jvm.Cond.static ({ cls := "java/lang/Math", name := "max", desc := "(II)I" } : Jvm.MethodName)) ∈ gtb := gtb_m 125 rfl rfl
theorem m_126 : (Jvm.Cond.code ({ cls := "java/lang/Math", name := "max", desc := "(II)I" } : Jvm.MethodName) prog_14_method_65_code (2 : Nat) (Option.some Jvm.ClassFile.FieldType.int)) ∈ gtb := gtb_m 126 rfl rfl
theorem m_127 : (Jvm.Cond.fieldLink "RangeExchange$Pool" (28 : Nat) "RangeExchange$Pool" "roots" "LRangeExchange$Roots;") ∈ gtb := gtb_m 127 rfl rfl
theorem m_128 : (Jvm.Cond.fieldLink "RangeExchange$Pool" (41 : Nat) "RangeExchange$Pool" "fee" "I") ∈ gtb := gtb_m 128 rfl rfl
theorem m_130 : (Jvm.Cond.fieldLink "RangeExchange$Pool" (9 : Nat) "RangeExchange$Pool" "gross" "[I") ∈ gtb := gtb_m 130 rfl rfl
theorem m_131 : (Jvm.Cond.fieldLink "RangeExchange$Pool" (15 : Nat) "RangeExchange$Pool" "net" "[I") ∈ gtb := gtb_m 131 rfl rfl
theorem m_132 : (Jvm.Cond.fieldLink "RangeExchange$Pool" (21 : Nat) "RangeExchange$Pool" "now" "LRangeExchange$Course;") ∈ gtb := gtb_m 132 rfl rfl
theorem m_134 : (Jvm.Cond.fieldLink "RangeExchange$Pool" (25 : Nat) "RangeExchange$Pool" "trial" "LRangeExchange$Course;") ∈ gtb := gtb_m 134 rfl rfl
theorem m_136 : (Jvm.Cond.laysFinal "RangeExchange$Pool" "RangeExchange$Pool" "roots" "LRangeExchange$Roots;") ∈ gtb := gtb_m 136 rfl rfl
theorem m_137 : (Jvm.Cond.soleField "RangeExchange$Pool" "roots") ∈ gtb := gtb_m 137 rfl rfl
theorem m_138 : (Jvm.Cond.laysFinal "RangeExchange$Pool" "RangeExchange$Pool" "fee" "I") ∈ gtb := gtb_m 138 rfl rfl
theorem m_139 : (Jvm.Cond.soleField "RangeExchange$Pool" "fee") ∈ gtb := gtb_m 139 rfl rfl
theorem m_140 : (Jvm.Cond.laysFinal "RangeExchange$Pool" "RangeExchange$Pool" "gross" "[I") ∈ gtb := gtb_m 140 rfl rfl
theorem m_141 : (Jvm.Cond.soleField "RangeExchange$Pool" "gross") ∈ gtb := gtb_m 141 rfl rfl
theorem m_142 : (Jvm.Cond.laysFinal "RangeExchange$Pool" "RangeExchange$Pool" "net" "[I") ∈ gtb := gtb_m 142 rfl rfl
theorem m_143 : (Jvm.Cond.soleField "RangeExchange$Pool" "net") ∈ gtb := gtb_m 143 rfl rfl
theorem m_144 : (Jvm.Cond.lays "RangeExchange$Pool" "RangeExchange$Pool" "now" "LRangeExchange$Course;") ∈ gtb := gtb_m 144 rfl rfl
theorem m_145 : (Jvm.Cond.soleField "RangeExchange$Pool" "now") ∈ gtb := gtb_m 145 rfl rfl
theorem m_146 : (Jvm.Cond.lays "RangeExchange$Pool" "RangeExchange$Pool" "trial" "LRangeExchange$Course;") ∈ gtb := gtb_m 146 rfl rfl
theorem m_147 : (Jvm.Cond.soleField "RangeExchange$Pool" "trial") ∈ gtb := gtb_m 147 rfl rfl
theorem m_148 : (Jvm.Cond.superclass "RangeExchange$Pool" "java/lang/Object") ∈ gtb := gtb_m 148 rfl rfl
theorem m_149 : (Jvm.Cond.instantiable "RangeExchange$Position" (7 : Nat)) ∈ gtb := gtb_m 149 rfl rfl
theorem m_151 : (Jvm.Cond.instanceMethod ({ cls := "RangeExchange$Position", name := "<init>", desc := "()V" } : Jvm.MethodName)) ∈ gtb := gtb_m 151 rfl rfl
theorem m_152 : (Jvm.Cond.code ({ cls := "RangeExchange$Position", name := "<init>", desc := "()V" } : Jvm.MethodName) prog_4_method_1_code (1 : Nat) (Option.none : Option Jvm.ClassFile.FieldType)) ∈ gtb := gtb_m 152 rfl rfl
theorem m_153 : (Jvm.Cond.methodLink "RangeExchange$Position" (3 : Nat) ({ cls := "java/lang/Object", name := "<init>", desc := "()V" } : Jvm.MethodName)) ∈ gtb := gtb_m 153 rfl rfl
theorem m_154 : (Jvm.Cond.fieldLink "RangeExchange$Position" (22 : Nat) "RangeExchange$Position" "owner" "I") ∈ gtb := gtb_m 154 rfl rfl
theorem m_155 : (Jvm.Cond.fieldLink "RangeExchange$Position" (25 : Nat) "RangeExchange$Position" "pool" "I") ∈ gtb := gtb_m 155 rfl rfl
theorem m_156 : (Jvm.Cond.fieldLink "RangeExchange$Position" (28 : Nat) "RangeExchange$Position" "lo" "I") ∈ gtb := gtb_m 156 rfl rfl
theorem m_158 : (Jvm.Cond.fieldLink "RangeExchange$Position" (31 : Nat) "RangeExchange$Position" "hi" "I") ∈ gtb := gtb_m 158 rfl rfl
theorem m_160 : (Jvm.Cond.fieldLink "RangeExchange$Position" (18 : Nat) "RangeExchange$Position" "amount" "I") ∈ gtb := gtb_m 160 rfl rfl
theorem m_163 : (Jvm.Cond.fieldLink "RangeExchange$Position" (9 : Nat) "RangeExchange$Position" "inside" "[J") ∈ gtb := gtb_m 163 rfl rfl
theorem m_164 : (Jvm.Cond.fieldLink "RangeExchange$Position" (15 : Nat) "RangeExchange$Position" "owed" "[J") ∈ gtb := gtb_m 164 rfl rfl
theorem m_166 : (Jvm.Cond.lays "RangeExchange$Position" "RangeExchange$Position" "owner" "I") ∈ gtb := gtb_m 166 rfl rfl
theorem m_167 : (Jvm.Cond.soleField "RangeExchange$Position" "owner") ∈ gtb := gtb_m 167 rfl rfl
theorem m_168 : (Jvm.Cond.lays "RangeExchange$Position" "RangeExchange$Position" "pool" "I") ∈ gtb := gtb_m 168 rfl rfl
theorem m_169 : (Jvm.Cond.soleField "RangeExchange$Position" "pool") ∈ gtb := gtb_m 169 rfl rfl
theorem m_170 : (Jvm.Cond.lays "RangeExchange$Position" "RangeExchange$Position" "lo" "I") ∈ gtb := gtb_m 170 rfl rfl
theorem m_171 : (Jvm.Cond.soleField "RangeExchange$Position" "lo") ∈ gtb := gtb_m 171 rfl rfl
theorem m_172 : (Jvm.Cond.lays "RangeExchange$Position" "RangeExchange$Position" "hi" "I") ∈ gtb := gtb_m 172 rfl rfl
theorem m_173 : (Jvm.Cond.soleField "RangeExchange$Position" "hi") ∈ gtb := gtb_m 173 rfl rfl
theorem m_174 : (Jvm.Cond.lays "RangeExchange$Position" "RangeExchange$Position" "amount" "I") ∈ gtb := gtb_m 174 rfl rfl
theorem m_175 : (Jvm.Cond.soleField "RangeExchange$Position" "amount") ∈ gtb := gtb_m 175 rfl rfl
theorem m_176 : (Jvm.Cond.laysFinal "RangeExchange$Position" "RangeExchange$Position" "inside" "[J") ∈ gtb := gtb_m 176 rfl rfl
theorem m_177 : (Jvm.Cond.soleField "RangeExchange$Position" "inside") ∈ gtb := gtb_m 177 rfl rfl
theorem m_178 : (Jvm.Cond.laysFinal "RangeExchange$Position" "RangeExchange$Position" "owed" "[J") ∈ gtb := gtb_m 178 rfl rfl
theorem m_179 : (Jvm.Cond.soleField "RangeExchange$Position" "owed") ∈ gtb := gtb_m 179 rfl rfl
theorem m_180 : (Jvm.Cond.superclass "RangeExchange$Position" "java/lang/Object") ∈ gtb := gtb_m 180 rfl rfl
theorem m_181 : (Jvm.Cond.fieldLink "RangeExchange" (9 : Nat) "RangeExchange" "balances" "[J") ∈ gtb := gtb_m 181 rfl rfl
theorem m_182 : (Jvm.Cond.fieldLink "RangeExchange" (13 : Nat) "RangeExchange" "given" "[J") ∈ gtb := gtb_m 182 rfl rfl
theorem m_183 : (Jvm.Cond.fieldLink "RangeExchange" (16 : Nat) "RangeExchange" "holdings" "[J") ∈ gtb := gtb_m 183 rfl rfl
theorem m_184 : (Jvm.Cond.fieldLink "RangeExchange" (22 : Nat) "RangeExchange" "roots" "LRangeExchange$Roots;") ∈ gtb := gtb_m 184 rfl rfl
theorem m_185 : (Jvm.Cond.fieldLink "RangeExchange" (28 : Nat) "RangeExchange" "pools" "[LRangeExchange$Pool;") ∈ gtb := gtb_m 185 rfl rfl
theorem m_186 : (Jvm.Cond.fieldLink "RangeExchange" (34 : Nat) "RangeExchange" "positions" "[LRangeExchange$Position;") ∈ gtb := gtb_m 186 rfl rfl
theorem m_187 : (Jvm.Cond.fieldLink "RangeExchange" (43 : Nat) "RangeExchange" "firstTrade" "LRangeExchange$Trade;") ∈ gtb := gtb_m 187 rfl rfl
theorem m_188 : (Jvm.Cond.fieldLink "RangeExchange" (47 : Nat) "RangeExchange" "secondTrade" "LRangeExchange$Trade;") ∈ gtb := gtb_m 188 rfl rfl
theorem m_189 : (Jvm.Cond.fieldLink "RangeExchange" (50 : Nat) "RangeExchange" "latestPaid" "J") ∈ gtb := gtb_m 189 rfl rfl
theorem m_190 : (Jvm.Cond.laysFinal "RangeExchange" "RangeExchange" "balances" "[J") ∈ gtb := gtb_m 190 rfl rfl
theorem m_191 : (Jvm.Cond.soleField "RangeExchange" "balances") ∈ gtb := gtb_m 191 rfl rfl
theorem m_192 : (Jvm.Cond.laysFinal "RangeExchange" "RangeExchange" "given" "[J") ∈ gtb := gtb_m 192 rfl rfl
theorem m_193 : (Jvm.Cond.soleField "RangeExchange" "given") ∈ gtb := gtb_m 193 rfl rfl
theorem m_194 : (Jvm.Cond.laysFinal "RangeExchange" "RangeExchange" "holdings" "[J") ∈ gtb := gtb_m 194 rfl rfl
theorem m_195 : (Jvm.Cond.soleField "RangeExchange" "holdings") ∈ gtb := gtb_m 195 rfl rfl
theorem m_196 : (Jvm.Cond.laysFinal "RangeExchange" "RangeExchange" "roots" "LRangeExchange$Roots;") ∈ gtb := gtb_m 196 rfl rfl
theorem m_197 : (Jvm.Cond.soleField "RangeExchange" "roots") ∈ gtb := gtb_m 197 rfl rfl
theorem m_198 : (Jvm.Cond.laysFinal "RangeExchange" "RangeExchange" "pools" "[LRangeExchange$Pool;") ∈ gtb := gtb_m 198 rfl rfl
theorem m_199 : (Jvm.Cond.soleField "RangeExchange" "pools") ∈ gtb := gtb_m 199 rfl rfl
theorem m_200 : (Jvm.Cond.laysFinal "RangeExchange" "RangeExchange" "positions" "[LRangeExchange$Position;") ∈ gtb := gtb_m 200 rfl rfl
theorem m_201 : (Jvm.Cond.soleField "RangeExchange" "positions") ∈ gtb := gtb_m 201 rfl rfl
theorem m_202 : (Jvm.Cond.laysFinal "RangeExchange" "RangeExchange" "firstTrade" "LRangeExchange$Trade;") ∈ gtb := gtb_m 202 rfl rfl
theorem m_203 : (Jvm.Cond.soleField "RangeExchange" "firstTrade") ∈ gtb := gtb_m 203 rfl rfl
theorem m_204 : (Jvm.Cond.laysFinal "RangeExchange" "RangeExchange" "secondTrade" "LRangeExchange$Trade;") ∈ gtb := gtb_m 204 rfl rfl
theorem m_205 : (Jvm.Cond.soleField "RangeExchange" "secondTrade") ∈ gtb := gtb_m 205 rfl rfl
theorem m_206 : (Jvm.Cond.lays "RangeExchange" "RangeExchange" "latestPaid" "J") ∈ gtb := gtb_m 206 rfl rfl
theorem m_207 : (Jvm.Cond.soleField "RangeExchange" "latestPaid") ∈ gtb := gtb_m 207 rfl rfl
theorem m_208 : (Jvm.Cond.superclass "RangeExchange" "java/lang/Object") ∈ gtb := gtb_m 208 rfl rfl
theorem m_209 : (Jvm.Cond.methodLink "RangeExchangeLaw" (102 : Nat) ({ cls := "RangeExchange", name := "paid", desc := "()J" } : Jvm.MethodName)) ∈ gtb := gtb_m 209 rfl rfl
theorem m_210 : (Jvm.Cond.instanceMethod ({ cls := "RangeExchange", name := "paid", desc := "()J" } : Jvm.MethodName)) ∈ gtb := gtb_m 210 rfl rfl
theorem m_211 : (Jvm.Cond.selects "RangeExchange" ({ cls := "RangeExchange", name := "paid", desc := "()J" } : Jvm.MethodName) ({ cls := "RangeExchange", name := "paid", desc := "()J" } : Jvm.MethodName)) ∈ gtb := gtb_m 211 rfl rfl
theorem m_212 : (Jvm.Cond.code ({ cls := "RangeExchange", name := "paid", desc := "()J" } : Jvm.MethodName) prog_1_method_9_code (1 : Nat) (Option.some Jvm.ClassFile.FieldType.long)) ∈ gtb := gtb_m 212 rfl rfl
theorem m_213 : (Jvm.Cond.methodLink "RangeExchangeLaw" (120 : Nat) ({ cls := "RangeExchange", name := "position", desc := "(IIIII)J" } : Jvm.MethodName)) ∈ gtb := gtb_m 213 rfl rfl
theorem m_214 : (Jvm.Cond.instanceMethod ({ cls := "RangeExchange", name := "position", desc := "(IIIII)J" } : Jvm.MethodName)) ∈ gtb := gtb_m 214 rfl rfl
theorem m_215 : (Jvm.Cond.selects "RangeExchange" ({ cls := "RangeExchange", name := "position", desc := "(IIIII)J" } : Jvm.MethodName) ({ cls := "RangeExchange", name := "position", desc := "(IIIII)J" } : Jvm.MethodName)) ∈ gtb := gtb_m 215 rfl rfl
theorem m_216 : (Jvm.Cond.code ({ cls := "RangeExchange", name := "position", desc := "(IIIII)J" } : Jvm.MethodName) prog_1_method_14_code (7 : Nat) (Option.some Jvm.ClassFile.FieldType.long)) ∈ gtb := gtb_m 216 rfl rfl
theorem m_217 : (Jvm.Cond.methodLink "RangeExchange" (76 : Nat) ({ cls := "RangeExchange", name := "find", desc := "(IIII)LRangeExchange$Position;" } : Jvm.MethodName)) ∈ gtb := gtb_m 217 rfl rfl
theorem m_219 : (Jvm.Cond.instanceMethod ({ cls := "RangeExchange", name := "find", desc := "(IIII)LRangeExchange$Position;" } : Jvm.MethodName)) ∈ gtb := gtb_m 219 rfl rfl
theorem m_220 : (Jvm.Cond.code ({ cls := "RangeExchange", name := "find", desc := "(IIII)LRangeExchange$Position;" } : Jvm.MethodName) prog_1_method_20_code (6 : Nat) (Option.some (Jvm.ClassFile.FieldType.object "RangeExchange$Position"))) ∈ gtb := gtb_m 220 rfl rfl
theorem m_221 : (Jvm.Cond.methodLink "RangeExchange" (175 : Nat) ({ cls := "RangeExchange$Position", name := "isNone", desc := "()Z" } : Jvm.MethodName)) ∈ gtb := gtb_m 221 rfl rfl
theorem m_222 : (Jvm.Cond.instanceMethod ({ cls := "RangeExchange$Position", name := "isNone", desc := "()Z" } : Jvm.MethodName)) ∈ gtb := gtb_m 222 rfl rfl
theorem m_223 : (Jvm.Cond.selects "RangeExchange$Position" ({ cls := "RangeExchange$Position", name := "isNone", desc := "()Z" } : Jvm.MethodName) ({ cls := "RangeExchange$Position", name := "isNone", desc := "()Z" } : Jvm.MethodName)) ∈ gtb := gtb_m 223 rfl rfl
theorem m_224 : (Jvm.Cond.code ({ cls := "RangeExchange$Position", name := "isNone", desc := "()Z" } : Jvm.MethodName) prog_4_method_2_code (1 : Nat) (Option.some Jvm.ClassFile.FieldType.boolean)) ∈ gtb := gtb_m 224 rfl rfl
theorem m_225 : (Jvm.Cond.methodLink "RangeExchange" (179 : Nat) ({ cls := "RangeExchange$Position", name := "isOf", desc := "(IIII)Z" } : Jvm.MethodName)) ∈ gtb := gtb_m 225 rfl rfl
theorem m_226 : (Jvm.Cond.instanceMethod ({ cls := "RangeExchange$Position", name := "isOf", desc := "(IIII)Z" } : Jvm.MethodName)) ∈ gtb := gtb_m 226 rfl rfl
theorem m_227 : (Jvm.Cond.selects "RangeExchange$Position" ({ cls := "RangeExchange$Position", name := "isOf", desc := "(IIII)Z" } : Jvm.MethodName) ({ cls := "RangeExchange$Position", name := "isOf", desc := "(IIII)Z" } : Jvm.MethodName)) ∈ gtb := gtb_m 227 rfl rfl
theorem m_228 : (Jvm.Cond.code ({ cls := "RangeExchange$Position", name := "isOf", desc := "(IIII)Z" } : Jvm.MethodName) prog_4_method_3_code (5 : Nat) (Option.some Jvm.ClassFile.FieldType.boolean)) ∈ gtb := gtb_m 228 rfl rfl
theorem m_229 : (Jvm.Cond.methodLink "RangeExchangeLaw" (60 : Nat) ({ cls := "RangeExchangeLaw", name := "cell", desc := "([II)I" } : Jvm.MethodName)) ∈ gtb := gtb_m 229 rfl rfl
theorem m_230 : (Jvm.Cond.static ({ cls := "RangeExchangeLaw", name := "cell", desc := "([II)I" } : Jvm.MethodName)) ∈ gtb := gtb_m 230 rfl rfl
theorem m_231 : (Jvm.Cond.code ({ cls := "RangeExchangeLaw", name := "cell", desc := "([II)I" } : Jvm.MethodName) method_2_code (2 : Nat) (Option.some Jvm.ClassFile.FieldType.int)) ∈ gtb := gtb_m 231 rfl rfl
theorem m_232 : (Jvm.Cond.methodLink "RangeExchangeLaw" (72 : Nat) ({ cls := "RangeExchangeLaw", name := "give", desc := "(LRangeExchange;III[J)I" } : Jvm.MethodName)) ∈ gtb := gtb_m 232 rfl rfl
theorem m_233 : (Jvm.Cond.static ({ cls := "RangeExchangeLaw", name := "give", desc := "(LRangeExchange;III[J)I" } : Jvm.MethodName)) ∈ gtb := gtb_m 233 rfl rfl
theorem m_234 : (Jvm.Cond.codeWith ({ cls := "RangeExchangeLaw", name := "give", desc := "(LRangeExchange;III[J)I" } : Jvm.MethodName) method_3_code (6 : Nat) (Option.some Jvm.ClassFile.FieldType.int) [((0 : Nat), (11 : Nat), (14 : Nat), (13 : Nat)), ((0 : Nat), (11 : Nat), (18 : Nat), (15 : Nat))]) ∈ gtb := gtb_m 234 rfl rfl
theorem m_235 : (Jvm.Cond.classLink "RangeExchangeLaw" (13 : Nat) "java/lang/IndexOutOfBoundsException") ∈ gtb := gtb_m 235 rfl rfl
theorem m_236 : (Jvm.Cond.classLink "RangeExchangeLaw" (15 : Nat) "java/lang/IllegalArgumentException") ∈ gtb := gtb_m 236 rfl rfl
theorem m_237 : (Jvm.Cond.methodLink "RangeExchangeLaw" (7 : Nat) ({ cls := "RangeExchange", name := "give", desc := "(III)J" } : Jvm.MethodName)) ∈ gtb := gtb_m 237 rfl rfl
theorem m_238 : (Jvm.Cond.instanceMethod ({ cls := "RangeExchange", name := "give", desc := "(III)J" } : Jvm.MethodName)) ∈ gtb := gtb_m 238 rfl rfl
theorem m_239 : (Jvm.Cond.selects "RangeExchange" ({ cls := "RangeExchange", name := "give", desc := "(III)J" } : Jvm.MethodName) ({ cls := "RangeExchange", name := "give", desc := "(III)J" } : Jvm.MethodName)) ∈ gtb := gtb_m 239 rfl rfl
theorem m_240 : (Jvm.Cond.code ({ cls := "RangeExchange", name := "give", desc := "(III)J" } : Jvm.MethodName) prog_1_method_2_code (4 : Nat) (Option.some Jvm.ClassFile.FieldType.long)) ∈ gtb := gtb_m 240 rfl rfl
theorem m_241 : (Jvm.Cond.methodLink "RangeExchange" (58 : Nat) ({ cls := "RangeExchange", name := "requireIndex", desc := "(II)V" } : Jvm.MethodName)) ∈ gtb := gtb_m 241 rfl rfl
theorem m_242 : (Jvm.Cond.static ({ cls := "RangeExchange", name := "requireIndex", desc := "(II)V" } : Jvm.MethodName)) ∈ gtb := gtb_m 242 rfl rfl
theorem m_243 : (Jvm.Cond.code ({ cls := "RangeExchange", name := "requireIndex", desc := "(II)V" } : Jvm.MethodName) prog_1_method_16_code (2 : Nat) (Option.none : Option Jvm.ClassFile.FieldType)) ∈ gtb := gtb_m 243 rfl rfl
theorem m_244 : (Jvm.Cond.classLink "RangeExchange" (172 : Nat) "java/lang/IndexOutOfBoundsException") ∈ gtb := gtb_m 244 rfl rfl
theorem m_245 : (Jvm.Cond.instantiable "java/lang/IndexOutOfBoundsException" (6 : Nat)) ∈ gtb := gtb_m 245 rfl rfl
theorem m_253 : (Jvm.Cond.selects "java/lang/IndexOutOfBoundsException" ({ cls := "java/lang/Throwable", name := "fillInStackTrace", desc := "(I)Ljava/lang/Throwable;" } : Jvm.MethodName) ({ cls := "java/lang/Throwable", name := "fillInStackTrace", desc := "(I)Ljava/lang/Throwable;" } : Jvm.MethodName)) ∈ gtb := gtb_m 253 rfl rfl
theorem m_254 : (Jvm.Cond.selects "java/lang/IndexOutOfBoundsException" ({ cls := "java/lang/Throwable", name := "fillInStackTrace", desc := "()Ljava/lang/Throwable;" } : Jvm.MethodName) ({ cls := "java/lang/Throwable", name := "fillInStackTrace", desc := "()Ljava/lang/Throwable;" } : Jvm.MethodName)) ∈ gtb := gtb_m 254 rfl rfl
theorem m_255 : (Jvm.Cond.lays "java/lang/IndexOutOfBoundsException" "java/lang/Throwable" "cause" "Ljava/lang/Throwable;") ∈ gtb := gtb_m 255 rfl rfl
theorem m_256 : (Jvm.Cond.lays "java/lang/Throwable" "java/lang/Throwable" "cause" "Ljava/lang/Throwable;") ∈ gtb := gtb_m 256 rfl rfl
theorem m_257 : (Jvm.Cond.lays "java/lang/IndexOutOfBoundsException" "java/lang/Throwable" "stackTrace" "[Ljava/lang/StackTraceElement;") ∈ gtb := gtb_m 257 rfl rfl
theorem m_258 : (Jvm.Cond.lays "java/lang/Throwable" "java/lang/Throwable" "stackTrace" "[Ljava/lang/StackTraceElement;") ∈ gtb := gtb_m 258 rfl rfl
theorem m_259 : (Jvm.Cond.lays "java/lang/IndexOutOfBoundsException" "java/lang/Throwable" "suppressedExceptions" "Ljava/util/List;") ∈ gtb := gtb_m 259 rfl rfl
theorem m_260 : (Jvm.Cond.lays "java/lang/Throwable" "java/lang/Throwable" "suppressedExceptions" "Ljava/util/List;") ∈ gtb := gtb_m 260 rfl rfl
theorem m_261 : (Jvm.Cond.lays "java/lang/IndexOutOfBoundsException" "java/lang/Throwable" "detailMessage" "Ljava/lang/String;") ∈ gtb := gtb_m 261 rfl rfl
theorem m_262 : (Jvm.Cond.lays "java/lang/Throwable" "java/lang/Throwable" "detailMessage" "Ljava/lang/String;") ∈ gtb := gtb_m 262 rfl rfl
theorem m_263 : (Jvm.Cond.lays "java/lang/IndexOutOfBoundsException" "java/lang/Throwable" "backtrace" "Ljava/lang/Object;") ∈ gtb := gtb_m 263 rfl rfl
theorem m_264 : (Jvm.Cond.lays "java/lang/Throwable" "java/lang/Throwable" "backtrace" "Ljava/lang/Object;") ∈ gtb := gtb_m 264 rfl rfl
theorem m_265 : (Jvm.Cond.fieldLink "java/lang/Throwable" (198 : Nat) "java/lang/Throwable" "backtrace" "Ljava/lang/Object;") ∈ gtb := gtb_m 265 rfl rfl
theorem m_266 : (Jvm.Cond.superclass "java/lang/Throwable" "java/lang/Object") ∈ gtb := gtb_m 266 rfl rfl
theorem m_267 : (Jvm.Cond.instanceMethod ({ cls := "java/lang/Throwable", name := "<init>", desc := "()V" } : Jvm.MethodName)) ∈ gtb := gtb_m 267 rfl rfl
theorem m_268 : (Jvm.Cond.code ({ cls := "java/lang/Throwable", name := "<init>", desc := "()V" } : Jvm.MethodName) prog_17_method_1_code (1 : Nat) (Option.none : Option Jvm.ClassFile.FieldType)) ∈ gtb := gtb_m 268 rfl rfl
theorem m_269 : (Jvm.Cond.methodLink "java/lang/Throwable" (1 : Nat) ({ cls := "java/lang/Object", name := "<init>", desc := "()V" } : Jvm.MethodName)) ∈ gtb := gtb_m 269 rfl rfl
theorem m_270 : (Jvm.Cond.fieldLink "java/lang/Throwable" (13 : Nat) "java/lang/Throwable" "UNASSIGNED_STACK" "[Ljava/lang/StackTraceElement;") ∈ gtb := gtb_m 270 rfl rfl
theorem m_272 : (Jvm.Cond.fieldLink "java/lang/Throwable" (20 : Nat) "java/lang/Throwable" "SUPPRESSED_SENTINEL" "Ljava/util/List;") ∈ gtb := gtb_m 272 rfl rfl
theorem m_274 : (Jvm.Cond.methodLink "java/lang/Throwable" (27 : Nat) ({ cls := "java/lang/Throwable", name := "fillInStackTrace", desc := "()Ljava/lang/Throwable;" } : Jvm.MethodName)) ∈ gtb := gtb_m 274 rfl rfl
theorem m_275 : (Jvm.Cond.instanceMethod ({ cls := "java/lang/Throwable", name := "fillInStackTrace", desc := "()Ljava/lang/Throwable;" } : Jvm.MethodName)) ∈ gtb := gtb_m 275 rfl rfl
theorem m_277 : (Jvm.Cond.selects "java/lang/IllegalArgumentException" ({ cls := "java/lang/Throwable", name := "fillInStackTrace", desc := "()Ljava/lang/Throwable;" } : Jvm.MethodName) ({ cls := "java/lang/Throwable", name := "fillInStackTrace", desc := "()Ljava/lang/Throwable;" } : Jvm.MethodName)) ∈ gtb := gtb_m 277 rfl rfl
theorem m_278 : (Jvm.Cond.selects "java/lang/IllegalStateException" ({ cls := "java/lang/Throwable", name := "fillInStackTrace", desc := "()Ljava/lang/Throwable;" } : Jvm.MethodName) ({ cls := "java/lang/Throwable", name := "fillInStackTrace", desc := "()Ljava/lang/Throwable;" } : Jvm.MethodName)) ∈ gtb := gtb_m 278 rfl rfl
theorem m_279 : (Jvm.Cond.selects "java/util/NoSuchElementException" ({ cls := "java/lang/Throwable", name := "fillInStackTrace", desc := "()Ljava/lang/Throwable;" } : Jvm.MethodName) ({ cls := "java/lang/Throwable", name := "fillInStackTrace", desc := "()Ljava/lang/Throwable;" } : Jvm.MethodName)) ∈ gtb := gtb_m 279 rfl rfl
theorem m_280 : (Jvm.Cond.codeSync ({ cls := "java/lang/Throwable", name := "fillInStackTrace", desc := "()Ljava/lang/Throwable;" } : Jvm.MethodName) prog_17_method_18_code (1 : Nat) (Option.some (Jvm.ClassFile.FieldType.object "java/lang/Throwable"))) ∈ gtb := gtb_m 280 rfl rfl
theorem m_281 : (Jvm.Cond.methodLink "java/lang/Throwable" (202 : Nat) ({ cls := "java/lang/Throwable", name := "fillInStackTrace", desc := "(I)Ljava/lang/Throwable;" } : Jvm.MethodName)) ∈ gtb := gtb_m 281 rfl rfl
theorem m_283 : (Jvm.Cond.instanceMethod ({ cls := "java/lang/Throwable", name := "fillInStackTrace", desc := "(I)Ljava/lang/Throwable;" } : Jvm.MethodName)) ∈ gtb := gtb_m 283 rfl rfl
theorem m_284 : (Jvm.Cond.instantiable "java/lang/Throwable" (6 : Nat)) ∈ gtb := gtb_m 284 rfl rfl
theorem m_285 : (Jvm.Cond.native ({ cls := "java/lang/Throwable", name := "fillInStackTrace", desc := "(I)Ljava/lang/Throwable;" } : Jvm.MethodName)) ∈ gtb := gtb_m 285 rfl rfl
theorem m_286 : (Jvm.Cond.methodLink "RangeExchange" (174 : Nat) ({ cls := "java/lang/IndexOutOfBoundsException", name := "<init>", desc := "()V" } : Jvm.MethodName)) ∈ gtb := gtb_m 286 rfl rfl
theorem m_287 : (Jvm.Cond.instanceMethod ({ cls := "java/lang/IndexOutOfBoundsException", name := "<init>", desc := "()V" } : Jvm.MethodName)) ∈ gtb := gtb_m 287 rfl rfl
theorem m_288 : (Jvm.Cond.code ({ cls := "java/lang/IndexOutOfBoundsException", name := "<init>", desc := "()V" } : Jvm.MethodName) prog_13_method_1_code (1 : Nat) (Option.none : Option Jvm.ClassFile.FieldType)) ∈ gtb := gtb_m 288 rfl rfl
theorem m_289 : (Jvm.Cond.methodLink "java/lang/IndexOutOfBoundsException" (1 : Nat) ({ cls := "java/lang/RuntimeException", name := "<init>", desc := "()V" } : Jvm.MethodName)) ∈ gtb := gtb_m 289 rfl rfl
theorem m_290 : (Jvm.Cond.instanceMethod ({ cls := "java/lang/RuntimeException", name := "<init>", desc := "()V" } : Jvm.MethodName)) ∈ gtb := gtb_m 290 rfl rfl
theorem m_291 : (Jvm.Cond.code ({ cls := "java/lang/RuntimeException", name := "<init>", desc := "()V" } : Jvm.MethodName) prog_15_method_1_code (1 : Nat) (Option.none : Option Jvm.ClassFile.FieldType)) ∈ gtb := gtb_m 291 rfl rfl
theorem m_292 : (Jvm.Cond.methodLink "java/lang/RuntimeException" (1 : Nat) ({ cls := "java/lang/Exception", name := "<init>", desc := "()V" } : Jvm.MethodName)) ∈ gtb := gtb_m 292 rfl rfl
theorem m_293 : (Jvm.Cond.instanceMethod ({ cls := "java/lang/Exception", name := "<init>", desc := "()V" } : Jvm.MethodName)) ∈ gtb := gtb_m 293 rfl rfl
theorem m_294 : (Jvm.Cond.code ({ cls := "java/lang/Exception", name := "<init>", desc := "()V" } : Jvm.MethodName) prog_10_method_1_code (1 : Nat) (Option.none : Option Jvm.ClassFile.FieldType)) ∈ gtb := gtb_m 294 rfl rfl
theorem m_295 : (Jvm.Cond.methodLink "java/lang/Exception" (1 : Nat) ({ cls := "java/lang/Throwable", name := "<init>", desc := "()V" } : Jvm.MethodName)) ∈ gtb := gtb_m 295 rfl rfl
theorem m_296 : (Jvm.Cond.fieldLink "java/lang/Throwable" (198 : Nat) "java/lang/Throwable" "backtrace" "Ljava/lang/Object;") ∈ gtb := gtb_m 296 rfl rfl
theorem m_297 : (Jvm.Cond.fieldLink "java/lang/Throwable" (7 : Nat) "java/lang/Throwable" "cause" "Ljava/lang/Throwable;") ∈ gtb := gtb_m 297 rfl rfl
theorem m_298 : (Jvm.Cond.fieldLink "java/lang/Throwable" (17 : Nat) "java/lang/Throwable" "stackTrace" "[Ljava/lang/StackTraceElement;") ∈ gtb := gtb_m 298 rfl rfl
theorem m_299 : (Jvm.Cond.fieldLink "java/lang/Throwable" (24 : Nat) "java/lang/Throwable" "suppressedExceptions" "Ljava/util/List;") ∈ gtb := gtb_m 299 rfl rfl
theorem m_300 : (Jvm.Cond.soleField "java/lang/Throwable" "backtrace") ∈ gtb := gtb_m 300 rfl rfl
set_option maxRecDepth 20000 in
theorem m_301 : (Jvm.Cond.soleField "java/lang/Throwable" "detailMessage") ∈ gtb := gtb_m 301 rfl rfl
set_option maxRecDepth 20000 in
theorem m_302 : (Jvm.Cond.soleField "java/lang/Throwable" "cause") ∈ gtb := gtb_m 302 rfl rfl
set_option maxRecDepth 20000 in
theorem m_303 : (Jvm.Cond.soleField "java/lang/Throwable" "stackTrace") ∈ gtb := gtb_m 303 rfl rfl
set_option maxRecDepth 20000 in
theorem m_304 : (Jvm.Cond.lays "java/lang/IndexOutOfBoundsException" "java/lang/Throwable" "depth" "I") ∈ gtb := gtb_m 304 rfl rfl
set_option maxRecDepth 20000 in
theorem m_305 : (Jvm.Cond.soleField "java/lang/Throwable" "depth") ∈ gtb := gtb_m 305 rfl rfl
set_option maxRecDepth 20000 in
theorem m_306 : (Jvm.Cond.soleField "java/lang/Throwable" "suppressedExceptions") ∈ gtb := gtb_m 306 rfl rfl
set_option maxRecDepth 20000 in
theorem m_307 : (Jvm.Cond.superclass "java/lang/IndexOutOfBoundsException" "java/lang/RuntimeException") ∈ gtb := gtb_m 307 rfl rfl
set_option maxRecDepth 20000 in
theorem m_308 : (Jvm.Cond.constantLong "RangeExchange" (62 : Nat) (100000000 : Int64)) ∈ gtb := gtb_m 308 rfl rfl
set_option maxRecDepth 20000 in
theorem m_309 : (Jvm.Cond.classLink "RangeExchange" (64 : Nat) "java/lang/IllegalArgumentException") ∈ gtb := gtb_m 309 rfl rfl
set_option maxRecDepth 20000 in
theorem m_310 : (Jvm.Cond.instantiable "java/lang/IllegalArgumentException" (6 : Nat)) ∈ gtb := gtb_m 310 rfl rfl
set_option maxRecDepth 20000 in
theorem m_312 : (Jvm.Cond.selects "java/lang/IllegalArgumentException" ({ cls := "java/lang/Throwable", name := "fillInStackTrace", desc := "(I)Ljava/lang/Throwable;" } : Jvm.MethodName) ({ cls := "java/lang/Throwable", name := "fillInStackTrace", desc := "(I)Ljava/lang/Throwable;" } : Jvm.MethodName)) ∈ gtb := gtb_m 312 rfl rfl
set_option maxRecDepth 20000 in
theorem m_313 : (Jvm.Cond.lays "java/lang/IllegalArgumentException" "java/lang/Throwable" "cause" "Ljava/lang/Throwable;") ∈ gtb := gtb_m 313 rfl rfl
set_option maxRecDepth 20000 in
theorem m_314 : (Jvm.Cond.lays "java/lang/IllegalArgumentException" "java/lang/Throwable" "stackTrace" "[Ljava/lang/StackTraceElement;") ∈ gtb := gtb_m 314 rfl rfl
set_option maxRecDepth 20000 in
theorem m_315 : (Jvm.Cond.lays "java/lang/IllegalArgumentException" "java/lang/Throwable" "suppressedExceptions" "Ljava/util/List;") ∈ gtb := gtb_m 315 rfl rfl
set_option maxRecDepth 20000 in
theorem m_316 : (Jvm.Cond.lays "java/lang/IllegalArgumentException" "java/lang/Throwable" "detailMessage" "Ljava/lang/String;") ∈ gtb := gtb_m 316 rfl rfl
set_option maxRecDepth 20000 in
theorem m_317 : (Jvm.Cond.lays "java/lang/IllegalArgumentException" "java/lang/Throwable" "backtrace" "Ljava/lang/Object;") ∈ gtb := gtb_m 317 rfl rfl
set_option maxRecDepth 20000 in
theorem m_318 : (Jvm.Cond.methodLink "RangeExchange" (66 : Nat) ({ cls := "java/lang/IllegalArgumentException", name := "<init>", desc := "()V" } : Jvm.MethodName)) ∈ gtb := gtb_m 318 rfl rfl
set_option maxRecDepth 20000 in
theorem m_319 : (Jvm.Cond.instanceMethod ({ cls := "java/lang/IllegalArgumentException", name := "<init>", desc := "()V" } : Jvm.MethodName)) ∈ gtb := gtb_m 319 rfl rfl
set_option maxRecDepth 20000 in
theorem m_320 : (Jvm.Cond.code ({ cls := "java/lang/IllegalArgumentException", name := "<init>", desc := "()V" } : Jvm.MethodName) prog_11_method_1_code (1 : Nat) (Option.none : Option Jvm.ClassFile.FieldType)) ∈ gtb := gtb_m 320 rfl rfl
set_option maxRecDepth 20000 in
theorem m_321 : (Jvm.Cond.methodLink "java/lang/IllegalArgumentException" (1 : Nat) ({ cls := "java/lang/RuntimeException", name := "<init>", desc := "()V" } : Jvm.MethodName)) ∈ gtb := gtb_m 321 rfl rfl
set_option maxRecDepth 20000 in
theorem m_322 : (Jvm.Cond.lays "java/lang/IllegalArgumentException" "java/lang/Throwable" "depth" "I") ∈ gtb := gtb_m 322 rfl rfl
set_option maxRecDepth 20000 in
theorem m_323 : (Jvm.Cond.superclass "java/lang/IllegalArgumentException" "java/lang/RuntimeException") ∈ gtb := gtb_m 323 rfl rfl
set_option maxRecDepth 20000 in
theorem m_324 : (Jvm.Cond.methodLink "RangeExchange" (67 : Nat) ({ cls := "RangeExchange", name := "account", desc := "(II)I" } : Jvm.MethodName)) ∈ gtb := gtb_m 324 rfl rfl
set_option maxRecDepth 20000 in
theorem m_325 : (Jvm.Cond.static ({ cls := "RangeExchange", name := "account", desc := "(II)I" } : Jvm.MethodName)) ∈ gtb := gtb_m 325 rfl rfl
set_option maxRecDepth 20000 in
theorem m_326 : (Jvm.Cond.code ({ cls := "RangeExchange", name := "account", desc := "(II)I" } : Jvm.MethodName) prog_1_method_19_code (2 : Nat) (Option.some Jvm.ClassFile.FieldType.int)) ∈ gtb := gtb_m 326 rfl rfl
set_option maxRecDepth 20000 in
theorem m_327 : (Jvm.Cond.methodLink "RangeExchangeLaw" (80 : Nat) ({ cls := "RangeExchangeLaw", name := "balance", desc := "(LRangeExchange;II[J)I" } : Jvm.MethodName)) ∈ gtb := gtb_m 327 rfl rfl
set_option maxRecDepth 20000 in
theorem m_328 : (Jvm.Cond.static ({ cls := "RangeExchangeLaw", name := "balance", desc := "(LRangeExchange;II[J)I" } : Jvm.MethodName)) ∈ gtb := gtb_m 328 rfl rfl
set_option maxRecDepth 20000 in
theorem m_329 : (Jvm.Cond.codeWith ({ cls := "RangeExchangeLaw", name := "balance", desc := "(LRangeExchange;II[J)I" } : Jvm.MethodName) method_4_code (5 : Nat) (Option.some Jvm.ClassFile.FieldType.int) [((0 : Nat), (9 : Nat), (12 : Nat), (13 : Nat))]) ∈ gtb := gtb_m 329 rfl rfl
set_option maxRecDepth 20000 in
theorem m_330 : (Jvm.Cond.methodLink "RangeExchangeLaw" (17 : Nat) ({ cls := "RangeExchange", name := "balance", desc := "(II)J" } : Jvm.MethodName)) ∈ gtb := gtb_m 330 rfl rfl
set_option maxRecDepth 20000 in
theorem m_331 : (Jvm.Cond.instanceMethod ({ cls := "RangeExchange", name := "balance", desc := "(II)J" } : Jvm.MethodName)) ∈ gtb := gtb_m 331 rfl rfl
set_option maxRecDepth 20000 in
theorem m_332 : (Jvm.Cond.selects "RangeExchange" ({ cls := "RangeExchange", name := "balance", desc := "(II)J" } : Jvm.MethodName) ({ cls := "RangeExchange", name := "balance", desc := "(II)J" } : Jvm.MethodName)) ∈ gtb := gtb_m 332 rfl rfl
set_option maxRecDepth 20000 in
theorem m_333 : (Jvm.Cond.code ({ cls := "RangeExchange", name := "balance", desc := "(II)J" } : Jvm.MethodName) prog_1_method_3_code (3 : Nat) (Option.some Jvm.ClassFile.FieldType.long)) ∈ gtb := gtb_m 333 rfl rfl
set_option maxRecDepth 20000 in
theorem m_334 : (Jvm.Cond.methodLink "RangeExchangeLaw" (84 : Nat) ({ cls := "RangeExchangeLaw", name := "mint", desc := "(LRangeExchange;IIIII[J)I" } : Jvm.MethodName)) ∈ gtb := gtb_m 334 rfl rfl
set_option maxRecDepth 20000 in
theorem m_335 : (Jvm.Cond.static ({ cls := "RangeExchangeLaw", name := "mint", desc := "(LRangeExchange;IIIII[J)I" } : Jvm.MethodName)) ∈ gtb := gtb_m 335 rfl rfl
set_option maxRecDepth 20000 in
theorem m_336 : (Jvm.Cond.codeWith ({ cls := "RangeExchangeLaw", name := "mint", desc := "(LRangeExchange;IIIII[J)I" } : Jvm.MethodName) method_5_code (8 : Nat) (Option.some Jvm.ClassFile.FieldType.int) [((0 : Nat), (16 : Nat), (19 : Nat), (13 : Nat)), ((0 : Nat), (16 : Nat), (23 : Nat), (15 : Nat)), ((0 : Nat), (16 : Nat), (27 : Nat), (25 : Nat))]) ∈ gtb := gtb_m 336 rfl rfl
set_option maxRecDepth 20000 in
theorem m_337 : (Jvm.Cond.classLink "RangeExchangeLaw" (25 : Nat) "java/lang/IllegalStateException") ∈ gtb := gtb_m 337 rfl rfl
set_option maxRecDepth 20000 in
theorem m_338 : (Jvm.Cond.methodLink "RangeExchangeLaw" (21 : Nat) ({ cls := "RangeExchange", name := "mint", desc := "(IIIII)I" } : Jvm.MethodName)) ∈ gtb := gtb_m 338 rfl rfl
set_option maxRecDepth 20000 in
theorem m_339 : (Jvm.Cond.instanceMethod ({ cls := "RangeExchange", name := "mint", desc := "(IIIII)I" } : Jvm.MethodName)) ∈ gtb := gtb_m 339 rfl rfl
set_option maxRecDepth 20000 in
theorem m_340 : (Jvm.Cond.selects "RangeExchange" ({ cls := "RangeExchange", name := "mint", desc := "(IIIII)I" } : Jvm.MethodName) ({ cls := "RangeExchange", name := "mint", desc := "(IIIII)I" } : Jvm.MethodName)) ∈ gtb := gtb_m 340 rfl rfl
set_option maxRecDepth 20000 in
theorem m_341 : (Jvm.Cond.code ({ cls := "RangeExchange", name := "mint", desc := "(IIIII)I" } : Jvm.MethodName) prog_1_method_4_code (12 : Nat) (Option.some Jvm.ClassFile.FieldType.int)) ∈ gtb := gtb_m 341 rfl rfl
set_option maxRecDepth 20000 in
theorem m_342 : (Jvm.Cond.methodLink "RangeExchange" (71 : Nat) ({ cls := "RangeExchange", name := "requirePlace", desc := "(IIII)V" } : Jvm.MethodName)) ∈ gtb := gtb_m 342 rfl rfl
set_option maxRecDepth 20000 in
theorem m_343 : (Jvm.Cond.static ({ cls := "RangeExchange", name := "requirePlace", desc := "(IIII)V" } : Jvm.MethodName)) ∈ gtb := gtb_m 343 rfl rfl
set_option maxRecDepth 20000 in
theorem m_344 : (Jvm.Cond.code ({ cls := "RangeExchange", name := "requirePlace", desc := "(IIII)V" } : Jvm.MethodName) prog_1_method_18_code (4 : Nat) (Option.none : Option Jvm.ClassFile.FieldType)) ∈ gtb := gtb_m 344 rfl rfl
set_option maxRecDepth 20000 in
theorem m_345 : (Jvm.Cond.methodLink "RangeExchange" (130 : Nat) ({ cls := "RangeExchange", name := "requireTick", desc := "(I)V" } : Jvm.MethodName)) ∈ gtb := gtb_m 345 rfl rfl
set_option maxRecDepth 20000 in
theorem m_346 : (Jvm.Cond.static ({ cls := "RangeExchange", name := "requireTick", desc := "(I)V" } : Jvm.MethodName)) ∈ gtb := gtb_m 346 rfl rfl
set_option maxRecDepth 20000 in
theorem m_347 : (Jvm.Cond.code ({ cls := "RangeExchange", name := "requireTick", desc := "(I)V" } : Jvm.MethodName) prog_1_method_17_code (1 : Nat) (Option.none : Option Jvm.ClassFile.FieldType)) ∈ gtb := gtb_m 347 rfl rfl
set_option maxRecDepth 20000 in
theorem m_348 : (Jvm.Cond.constant "RangeExchange" (75 : Nat) (50000000 : Int32)) ∈ gtb := gtb_m 348 rfl rfl
set_option maxRecDepth 20000 in
theorem m_349 : (Jvm.Cond.methodLink "RangeExchange" (84 : Nat) ({ cls := "RangeExchange", name := "findFree", desc := "()LRangeExchange$Position;" } : Jvm.MethodName)) ∈ gtb := gtb_m 349 rfl rfl
set_option maxRecDepth 20000 in
theorem m_351 : (Jvm.Cond.instanceMethod ({ cls := "RangeExchange", name := "findFree", desc := "()LRangeExchange$Position;" } : Jvm.MethodName)) ∈ gtb := gtb_m 351 rfl rfl
set_option maxRecDepth 20000 in
theorem m_352 : (Jvm.Cond.code ({ cls := "RangeExchange", name := "findFree", desc := "()LRangeExchange$Position;" } : Jvm.MethodName) prog_1_method_21_code (2 : Nat) (Option.some (Jvm.ClassFile.FieldType.object "RangeExchange$Position"))) ∈ gtb := gtb_m 352 rfl rfl
set_option maxRecDepth 20000 in
theorem m_353 : (Jvm.Cond.methodLink "RangeExchange" (88 : Nat) ({ cls := "RangeExchange$Pool", name := "nearWorth", desc := "(IIIZ)J" } : Jvm.MethodName)) ∈ gtb := gtb_m 353 rfl rfl
set_option maxRecDepth 20000 in
theorem m_354 : (Jvm.Cond.instanceMethod ({ cls := "RangeExchange$Pool", name := "nearWorth", desc := "(IIIZ)J" } : Jvm.MethodName)) ∈ gtb := gtb_m 354 rfl rfl
set_option maxRecDepth 20000 in
theorem m_355 : (Jvm.Cond.selects "RangeExchange$Pool" ({ cls := "RangeExchange$Pool", name := "nearWorth", desc := "(IIIZ)J" } : Jvm.MethodName) ({ cls := "RangeExchange$Pool", name := "nearWorth", desc := "(IIIZ)J" } : Jvm.MethodName)) ∈ gtb := gtb_m 355 rfl rfl
set_option maxRecDepth 20000 in
theorem m_356 : (Jvm.Cond.code ({ cls := "RangeExchange$Pool", name := "nearWorth", desc := "(IIIZ)J" } : Jvm.MethodName) prog_3_method_9_code (7 : Nat) (Option.some Jvm.ClassFile.FieldType.long)) ∈ gtb := gtb_m 356 rfl rfl
set_option maxRecDepth 20000 in
theorem m_357 : (Jvm.Cond.methodLink "RangeExchange$Pool" (60 : Nat) ({ cls := "RangeExchange$Roots", name := "at", desc := "(I)J" } : Jvm.MethodName)) ∈ gtb := gtb_m 357 rfl rfl
set_option maxRecDepth 20000 in
theorem m_358 : (Jvm.Cond.instanceMethod ({ cls := "RangeExchange$Roots", name := "at", desc := "(I)J" } : Jvm.MethodName)) ∈ gtb := gtb_m 358 rfl rfl
set_option maxRecDepth 20000 in
theorem m_359 : (Jvm.Cond.selects "RangeExchange$Roots" ({ cls := "RangeExchange$Roots", name := "at", desc := "(I)J" } : Jvm.MethodName) ({ cls := "RangeExchange$Roots", name := "at", desc := "(I)J" } : Jvm.MethodName)) ∈ gtb := gtb_m 359 rfl rfl
set_option maxRecDepth 20000 in
theorem m_360 : (Jvm.Cond.code ({ cls := "RangeExchange$Roots", name := "at", desc := "(I)J" } : Jvm.MethodName) prog_6_method_2_code (2 : Nat) (Option.some Jvm.ClassFile.FieldType.long)) ∈ gtb := gtb_m 360 rfl rfl
set_option maxRecDepth 20000 in
theorem m_361 : (Jvm.Cond.methodLink "RangeExchange$Pool" (66 : Nat) ({ cls := "RangeExchange$Quotients", name := "near", desc := "(JJJZ)J" } : Jvm.MethodName)) ∈ gtb := gtb_m 361 rfl rfl
set_option maxRecDepth 20000 in
theorem m_362 : (Jvm.Cond.static ({ cls := "RangeExchange$Quotients", name := "near", desc := "(JJJZ)J" } : Jvm.MethodName)) ∈ gtb := gtb_m 362 rfl rfl
set_option maxRecDepth 20000 in
theorem m_363 : (Jvm.Cond.code ({ cls := "RangeExchange$Quotients", name := "near", desc := "(JJJZ)J" } : Jvm.MethodName) prog_5_method_4_code (7 : Nat) (Option.some Jvm.ClassFile.FieldType.long)) ∈ gtb := gtb_m 363 rfl rfl
set_option maxRecDepth 20000 in
theorem m_364 : (Jvm.Cond.methodLink "RangeExchange$Quotients" (9 : Nat) ({ cls := "RangeExchange$Quotients", name := "ofShifted", desc := "(JJZ)J" } : Jvm.MethodName)) ∈ gtb := gtb_m 364 rfl rfl
set_option maxRecDepth 20000 in
theorem m_365 : (Jvm.Cond.static ({ cls := "RangeExchange$Quotients", name := "ofShifted", desc := "(JJZ)J" } : Jvm.MethodName)) ∈ gtb := gtb_m 365 rfl rfl
set_option maxRecDepth 20000 in
theorem m_366 : (Jvm.Cond.code ({ cls := "RangeExchange$Quotients", name := "ofShifted", desc := "(JJZ)J" } : Jvm.MethodName) prog_5_method_3_code (10 : Nat) (Option.some Jvm.ClassFile.FieldType.long)) ∈ gtb := gtb_m 366 rfl rfl
set_option maxRecDepth 20000 in
theorem m_367 : (Jvm.Cond.methodLink "RangeExchange$Quotients" (15 : Nat) ({ cls := "RangeExchange$Quotients", name := "of", desc := "(JJZ)J" } : Jvm.MethodName)) ∈ gtb := gtb_m 367 rfl rfl
set_option maxRecDepth 20000 in
theorem m_368 : (Jvm.Cond.static ({ cls := "RangeExchange$Quotients", name := "of", desc := "(JJZ)J" } : Jvm.MethodName)) ∈ gtb := gtb_m 368 rfl rfl
set_option maxRecDepth 20000 in
theorem m_369 : (Jvm.Cond.code ({ cls := "RangeExchange$Quotients", name := "of", desc := "(JJZ)J" } : Jvm.MethodName) prog_5_method_2_code (7 : Nat) (Option.some Jvm.ClassFile.FieldType.long)) ∈ gtb := gtb_m 369 rfl rfl
set_option maxRecDepth 20000 in
theorem m_370 : (Jvm.Cond.methodLink "RangeExchange" (92 : Nat) ({ cls := "RangeExchange$Pool", name := "farWorth", desc := "(IIIZ)J" } : Jvm.MethodName)) ∈ gtb := gtb_m 370 rfl rfl
set_option maxRecDepth 20000 in
theorem m_371 : (Jvm.Cond.instanceMethod ({ cls := "RangeExchange$Pool", name := "farWorth", desc := "(IIIZ)J" } : Jvm.MethodName)) ∈ gtb := gtb_m 371 rfl rfl
set_option maxRecDepth 20000 in
theorem m_372 : (Jvm.Cond.selects "RangeExchange$Pool" ({ cls := "RangeExchange$Pool", name := "farWorth", desc := "(IIIZ)J" } : Jvm.MethodName) ({ cls := "RangeExchange$Pool", name := "farWorth", desc := "(IIIZ)J" } : Jvm.MethodName)) ∈ gtb := gtb_m 372 rfl rfl
set_option maxRecDepth 20000 in
theorem m_373 : (Jvm.Cond.code ({ cls := "RangeExchange$Pool", name := "farWorth", desc := "(IIIZ)J" } : Jvm.MethodName) prog_3_method_10_code (7 : Nat) (Option.some Jvm.ClassFile.FieldType.long)) ∈ gtb := gtb_m 373 rfl rfl
set_option maxRecDepth 20000 in
theorem m_374 : (Jvm.Cond.methodLink "RangeExchange$Pool" (72 : Nat) ({ cls := "RangeExchange$Quotients", name := "far", desc := "(JJJZ)J" } : Jvm.MethodName)) ∈ gtb := gtb_m 374 rfl rfl
set_option maxRecDepth 20000 in
theorem m_375 : (Jvm.Cond.static ({ cls := "RangeExchange$Quotients", name := "far", desc := "(JJJZ)J" } : Jvm.MethodName)) ∈ gtb := gtb_m 375 rfl rfl
set_option maxRecDepth 20000 in
theorem m_376 : (Jvm.Cond.code ({ cls := "RangeExchange$Quotients", name := "far", desc := "(JJJZ)J" } : Jvm.MethodName) prog_5_method_5_code (7 : Nat) (Option.some Jvm.ClassFile.FieldType.long)) ∈ gtb := gtb_m 376 rfl rfl
set_option maxRecDepth 20000 in
theorem m_377 : (Jvm.Cond.constantLong "RangeExchange$Quotients" (18 : Nat) (4294967296 : Int64)) ∈ gtb := gtb_m 377 rfl rfl
set_option maxRecDepth 20000 in
theorem m_378 : (Jvm.Cond.methodLink "RangeExchange" (95 : Nat) ({ cls := "RangeExchange", name := "lacks", desc := "(IIJ)Z" } : Jvm.MethodName)) ∈ gtb := gtb_m 378 rfl rfl
set_option maxRecDepth 20000 in
theorem m_380 : (Jvm.Cond.instanceMethod ({ cls := "RangeExchange", name := "lacks", desc := "(IIJ)Z" } : Jvm.MethodName)) ∈ gtb := gtb_m 380 rfl rfl
set_option maxRecDepth 20000 in
theorem m_381 : (Jvm.Cond.code ({ cls := "RangeExchange", name := "lacks", desc := "(IIJ)Z" } : Jvm.MethodName) prog_1_method_22_code (5 : Nat) (Option.some Jvm.ClassFile.FieldType.boolean)) ∈ gtb := gtb_m 381 rfl rfl
set_option maxRecDepth 20000 in
theorem m_382 : (Jvm.Cond.classLink "RangeExchange" (99 : Nat) "java/lang/IllegalStateException") ∈ gtb := gtb_m 382 rfl rfl
set_option maxRecDepth 20000 in
theorem m_383 : (Jvm.Cond.instantiable "java/lang/IllegalStateException" (6 : Nat)) ∈ gtb := gtb_m 383 rfl rfl
set_option maxRecDepth 20000 in
theorem m_385 : (Jvm.Cond.selects "java/lang/IllegalStateException" ({ cls := "java/lang/Throwable", name := "fillInStackTrace", desc := "(I)Ljava/lang/Throwable;" } : Jvm.MethodName) ({ cls := "java/lang/Throwable", name := "fillInStackTrace", desc := "(I)Ljava/lang/Throwable;" } : Jvm.MethodName)) ∈ gtb := gtb_m 385 rfl rfl
set_option maxRecDepth 20000 in
theorem m_386 : (Jvm.Cond.lays "java/lang/IllegalStateException" "java/lang/Throwable" "cause" "Ljava/lang/Throwable;") ∈ gtb := gtb_m 386 rfl rfl
set_option maxRecDepth 20000 in
theorem m_387 : (Jvm.Cond.lays "java/lang/IllegalStateException" "java/lang/Throwable" "stackTrace" "[Ljava/lang/StackTraceElement;") ∈ gtb := gtb_m 387 rfl rfl
set_option maxRecDepth 20000 in
theorem m_388 : (Jvm.Cond.lays "java/lang/IllegalStateException" "java/lang/Throwable" "suppressedExceptions" "Ljava/util/List;") ∈ gtb := gtb_m 388 rfl rfl
set_option maxRecDepth 20000 in
theorem m_389 : (Jvm.Cond.lays "java/lang/IllegalStateException" "java/lang/Throwable" "detailMessage" "Ljava/lang/String;") ∈ gtb := gtb_m 389 rfl rfl
set_option maxRecDepth 20000 in
theorem m_390 : (Jvm.Cond.lays "java/lang/IllegalStateException" "java/lang/Throwable" "backtrace" "Ljava/lang/Object;") ∈ gtb := gtb_m 390 rfl rfl
set_option maxRecDepth 20000 in
theorem m_391 : (Jvm.Cond.methodLink "RangeExchange" (101 : Nat) ({ cls := "java/lang/IllegalStateException", name := "<init>", desc := "()V" } : Jvm.MethodName)) ∈ gtb := gtb_m 391 rfl rfl
set_option maxRecDepth 20000 in
theorem m_392 : (Jvm.Cond.instanceMethod ({ cls := "java/lang/IllegalStateException", name := "<init>", desc := "()V" } : Jvm.MethodName)) ∈ gtb := gtb_m 392 rfl rfl
set_option maxRecDepth 20000 in
theorem m_393 : (Jvm.Cond.code ({ cls := "java/lang/IllegalStateException", name := "<init>", desc := "()V" } : Jvm.MethodName) prog_12_method_1_code (1 : Nat) (Option.none : Option Jvm.ClassFile.FieldType)) ∈ gtb := gtb_m 393 rfl rfl
set_option maxRecDepth 20000 in
theorem m_394 : (Jvm.Cond.methodLink "java/lang/IllegalStateException" (1 : Nat) ({ cls := "java/lang/RuntimeException", name := "<init>", desc := "()V" } : Jvm.MethodName)) ∈ gtb := gtb_m 394 rfl rfl
set_option maxRecDepth 20000 in
theorem m_395 : (Jvm.Cond.lays "java/lang/IllegalStateException" "java/lang/Throwable" "depth" "I") ∈ gtb := gtb_m 395 rfl rfl
set_option maxRecDepth 20000 in
theorem m_396 : (Jvm.Cond.superclass "java/lang/IllegalStateException" "java/lang/RuntimeException") ∈ gtb := gtb_m 396 rfl rfl
set_option maxRecDepth 20000 in
theorem m_397 : (Jvm.Cond.methodLink "RangeExchange" (102 : Nat) ({ cls := "RangeExchange$Position", name := "open", desc := "(IIII)V" } : Jvm.MethodName)) ∈ gtb := gtb_m 397 rfl rfl
set_option maxRecDepth 20000 in
theorem m_398 : (Jvm.Cond.instanceMethod ({ cls := "RangeExchange$Position", name := "open", desc := "(IIII)V" } : Jvm.MethodName)) ∈ gtb := gtb_m 398 rfl rfl
set_option maxRecDepth 20000 in
theorem m_399 : (Jvm.Cond.selects "RangeExchange$Position" ({ cls := "RangeExchange$Position", name := "open", desc := "(IIII)V" } : Jvm.MethodName) ({ cls := "RangeExchange$Position", name := "open", desc := "(IIII)V" } : Jvm.MethodName)) ∈ gtb := gtb_m 399 rfl rfl
set_option maxRecDepth 20000 in
theorem m_400 : (Jvm.Cond.code ({ cls := "RangeExchange$Position", name := "open", desc := "(IIII)V" } : Jvm.MethodName) prog_4_method_4_code (5 : Nat) (Option.none : Option Jvm.ClassFile.FieldType)) ∈ gtb := gtb_m 400 rfl rfl
set_option maxRecDepth 20000 in
theorem m_401 : (Jvm.Cond.methodLink "RangeExchange" (105 : Nat) ({ cls := "RangeExchange$Pool", name := "add", desc := "(LRangeExchange$Position;I)V" } : Jvm.MethodName)) ∈ gtb := gtb_m 401 rfl rfl
set_option maxRecDepth 20000 in
theorem m_402 : (Jvm.Cond.instanceMethod ({ cls := "RangeExchange$Pool", name := "add", desc := "(LRangeExchange$Position;I)V" } : Jvm.MethodName)) ∈ gtb := gtb_m 402 rfl rfl
set_option maxRecDepth 20000 in
theorem m_403 : (Jvm.Cond.selects "RangeExchange$Pool" ({ cls := "RangeExchange$Pool", name := "add", desc := "(LRangeExchange$Position;I)V" } : Jvm.MethodName) ({ cls := "RangeExchange$Pool", name := "add", desc := "(LRangeExchange$Position;I)V" } : Jvm.MethodName)) ∈ gtb := gtb_m 403 rfl rfl
set_option maxRecDepth 20000 in
theorem m_404 : (Jvm.Cond.code ({ cls := "RangeExchange$Pool", name := "add", desc := "(LRangeExchange$Position;I)V" } : Jvm.MethodName) prog_3_method_11_code (3 : Nat) (Option.none : Option Jvm.ClassFile.FieldType)) ∈ gtb := gtb_m 404 rfl rfl
set_option maxRecDepth 20000 in
theorem m_405 : (Jvm.Cond.methodLink "RangeExchange$Pool" (80 : Nat) ({ cls := "RangeExchange$Pool", name := "growGross", desc := "(II)V" } : Jvm.MethodName)) ∈ gtb := gtb_m 405 rfl rfl
set_option maxRecDepth 20000 in
theorem m_407 : (Jvm.Cond.instanceMethod ({ cls := "RangeExchange$Pool", name := "growGross", desc := "(II)V" } : Jvm.MethodName)) ∈ gtb := gtb_m 407 rfl rfl
set_option maxRecDepth 20000 in
theorem m_408 : (Jvm.Cond.code ({ cls := "RangeExchange$Pool", name := "growGross", desc := "(II)V" } : Jvm.MethodName) prog_3_method_12_code (3 : Nat) (Option.none : Option Jvm.ClassFile.FieldType)) ∈ gtb := gtb_m 408 rfl rfl
set_option maxRecDepth 20000 in
theorem m_409 : (Jvm.Cond.methodLink "RangeExchange$Pool" (53 : Nat) ({ cls := "RangeExchange$Pool", name := "isSet", desc := "(I)Z" } : Jvm.MethodName)) ∈ gtb := gtb_m 409 rfl rfl
set_option maxRecDepth 20000 in
theorem m_410 : (Jvm.Cond.instanceMethod ({ cls := "RangeExchange$Pool", name := "isSet", desc := "(I)Z" } : Jvm.MethodName)) ∈ gtb := gtb_m 410 rfl rfl
set_option maxRecDepth 20000 in
theorem m_411 : (Jvm.Cond.selects "RangeExchange$Pool" ({ cls := "RangeExchange$Pool", name := "isSet", desc := "(I)Z" } : Jvm.MethodName) ({ cls := "RangeExchange$Pool", name := "isSet", desc := "(I)Z" } : Jvm.MethodName)) ∈ gtb := gtb_m 411 rfl rfl
set_option maxRecDepth 20000 in
theorem m_412 : (Jvm.Cond.code ({ cls := "RangeExchange$Pool", name := "isSet", desc := "(I)Z" } : Jvm.MethodName) prog_3_method_5_code (2 : Nat) (Option.some Jvm.ClassFile.FieldType.boolean)) ∈ gtb := gtb_m 412 rfl rfl
set_option maxRecDepth 20000 in
theorem m_413 : (Jvm.Cond.methodLink "RangeExchange$Pool" (100 : Nat) ({ cls := "RangeExchange$Course", name := "setOutsides", desc := "(I)V" } : Jvm.MethodName)) ∈ gtb := gtb_m 413 rfl rfl
set_option maxRecDepth 20000 in
theorem m_414 : (Jvm.Cond.instanceMethod ({ cls := "RangeExchange$Course", name := "setOutsides", desc := "(I)V" } : Jvm.MethodName)) ∈ gtb := gtb_m 414 rfl rfl
set_option maxRecDepth 20000 in
theorem m_415 : (Jvm.Cond.selects "RangeExchange$Course" ({ cls := "RangeExchange$Course", name := "setOutsides", desc := "(I)V" } : Jvm.MethodName) ({ cls := "RangeExchange$Course", name := "setOutsides", desc := "(I)V" } : Jvm.MethodName)) ∈ gtb := gtb_m 415 rfl rfl
set_option maxRecDepth 20000 in
theorem m_416 : (Jvm.Cond.code ({ cls := "RangeExchange$Course", name := "setOutsides", desc := "(I)V" } : Jvm.MethodName) prog_2_method_4_code (3 : Nat) (Option.none : Option Jvm.ClassFile.FieldType)) ∈ gtb := gtb_m 416 rfl rfl
set_option maxRecDepth 20000 in
theorem m_417 : (Jvm.Cond.methodLink "RangeExchange$Course" (44 : Nat) ({ cls := "RangeExchange$Course", name := "slot", desc := "(II)I" } : Jvm.MethodName)) ∈ gtb := gtb_m 417 rfl rfl
set_option maxRecDepth 20000 in
theorem m_418 : (Jvm.Cond.static ({ cls := "RangeExchange$Course", name := "slot", desc := "(II)I" } : Jvm.MethodName)) ∈ gtb := gtb_m 418 rfl rfl
set_option maxRecDepth 20000 in
theorem m_419 : (Jvm.Cond.code ({ cls := "RangeExchange$Course", name := "slot", desc := "(II)I" } : Jvm.MethodName) prog_2_method_9_code (2 : Nat) (Option.some Jvm.ClassFile.FieldType.int)) ∈ gtb := gtb_m 419 rfl rfl
set_option maxRecDepth 20000 in
theorem m_420 : (Jvm.Cond.methodLink "RangeExchange$Pool" (87 : Nat) ({ cls := "RangeExchange$Position", name := "settle", desc := "(LRangeExchange$Course;)V" } : Jvm.MethodName)) ∈ gtb := gtb_m 420 rfl rfl
set_option maxRecDepth 20000 in
theorem m_421 : (Jvm.Cond.instanceMethod ({ cls := "RangeExchange$Position", name := "settle", desc := "(LRangeExchange$Course;)V" } : Jvm.MethodName)) ∈ gtb := gtb_m 421 rfl rfl
set_option maxRecDepth 20000 in
theorem m_422 : (Jvm.Cond.selects "RangeExchange$Position" ({ cls := "RangeExchange$Position", name := "settle", desc := "(LRangeExchange$Course;)V" } : Jvm.MethodName) ({ cls := "RangeExchange$Position", name := "settle", desc := "(LRangeExchange$Course;)V" } : Jvm.MethodName)) ∈ gtb := gtb_m 422 rfl rfl
set_option maxRecDepth 20000 in
theorem m_423 : (Jvm.Cond.code ({ cls := "RangeExchange$Position", name := "settle", desc := "(LRangeExchange$Course;)V" } : Jvm.MethodName) prog_4_method_5_code (5 : Nat) (Option.none : Option Jvm.ClassFile.FieldType)) ∈ gtb := gtb_m 423 rfl rfl
set_option maxRecDepth 20000 in
theorem m_424 : (Jvm.Cond.methodLink "RangeExchange$Position" (34 : Nat) ({ cls := "RangeExchange$Course", name := "growthInside", desc := "(III)J" } : Jvm.MethodName)) ∈ gtb := gtb_m 424 rfl rfl
set_option maxRecDepth 20000 in
theorem m_425 : (Jvm.Cond.instanceMethod ({ cls := "RangeExchange$Course", name := "growthInside", desc := "(III)J" } : Jvm.MethodName)) ∈ gtb := gtb_m 425 rfl rfl
set_option maxRecDepth 20000 in
theorem m_426 : (Jvm.Cond.selects "RangeExchange$Course" ({ cls := "RangeExchange$Course", name := "growthInside", desc := "(III)J" } : Jvm.MethodName) ({ cls := "RangeExchange$Course", name := "growthInside", desc := "(III)J" } : Jvm.MethodName)) ∈ gtb := gtb_m 426 rfl rfl
set_option maxRecDepth 20000 in
theorem m_427 : (Jvm.Cond.code ({ cls := "RangeExchange$Course", name := "growthInside", desc := "(III)J" } : Jvm.MethodName) prog_2_method_3_code (4 : Nat) (Option.some Jvm.ClassFile.FieldType.long)) ∈ gtb := gtb_m 427 rfl rfl
set_option maxRecDepth 20000 in
theorem m_428 : (Jvm.Cond.methodLink "RangeExchange$Course" (37 : Nat) ({ cls := "RangeExchange$Course", name := "below", desc := "(II)J" } : Jvm.MethodName)) ∈ gtb := gtb_m 428 rfl rfl
set_option maxRecDepth 20000 in
theorem m_430 : (Jvm.Cond.instanceMethod ({ cls := "RangeExchange$Course", name := "below", desc := "(II)J" } : Jvm.MethodName)) ∈ gtb := gtb_m 430 rfl rfl
set_option maxRecDepth 20000 in
theorem m_431 : (Jvm.Cond.code ({ cls := "RangeExchange$Course", name := "below", desc := "(II)J" } : Jvm.MethodName) prog_2_method_7_code (5 : Nat) (Option.some Jvm.ClassFile.FieldType.long)) ∈ gtb := gtb_m 431 rfl rfl
set_option maxRecDepth 20000 in
theorem m_432 : (Jvm.Cond.methodLink "RangeExchange$Course" (41 : Nat) ({ cls := "RangeExchange$Course", name := "above", desc := "(II)J" } : Jvm.MethodName)) ∈ gtb := gtb_m 432 rfl rfl
set_option maxRecDepth 20000 in
theorem m_434 : (Jvm.Cond.instanceMethod ({ cls := "RangeExchange$Course", name := "above", desc := "(II)J" } : Jvm.MethodName)) ∈ gtb := gtb_m 434 rfl rfl
set_option maxRecDepth 20000 in
theorem m_435 : (Jvm.Cond.code ({ cls := "RangeExchange$Course", name := "above", desc := "(II)J" } : Jvm.MethodName) prog_2_method_8_code (5 : Nat) (Option.some Jvm.ClassFile.FieldType.long)) ∈ gtb := gtb_m 435 rfl rfl
set_option maxRecDepth 20000 in
theorem m_436 : (Jvm.Cond.methodLink "RangeExchange$Position" (40 : Nat) ({ cls := "RangeExchange$Position", name := "share", desc := "(J)J" } : Jvm.MethodName)) ∈ gtb := gtb_m 436 rfl rfl
set_option maxRecDepth 20000 in
theorem m_438 : (Jvm.Cond.instanceMethod ({ cls := "RangeExchange$Position", name := "share", desc := "(J)J" } : Jvm.MethodName)) ∈ gtb := gtb_m 438 rfl rfl
set_option maxRecDepth 20000 in
theorem m_439 : (Jvm.Cond.code ({ cls := "RangeExchange$Position", name := "share", desc := "(J)J" } : Jvm.MethodName) prog_4_method_6_code (7 : Nat) (Option.some Jvm.ClassFile.FieldType.long)) ∈ gtb := gtb_m 439 rfl rfl
set_option maxRecDepth 20000 in
theorem m_440 : (Jvm.Cond.constantLong "RangeExchange$Position" (44 : Nat) (4294967295 : Int64)) ∈ gtb := gtb_m 440 rfl rfl
set_option maxRecDepth 20000 in
theorem m_441 : (Jvm.Cond.methodLink "RangeExchange$Pool" (96 : Nat) ({ cls := "RangeExchange$Pool", name := "clearIfUnset", desc := "(I)V" } : Jvm.MethodName)) ∈ gtb := gtb_m 441 rfl rfl
set_option maxRecDepth 20000 in
theorem m_443 : (Jvm.Cond.instanceMethod ({ cls := "RangeExchange$Pool", name := "clearIfUnset", desc := "(I)V" } : Jvm.MethodName)) ∈ gtb := gtb_m 443 rfl rfl
set_option maxRecDepth 20000 in
theorem m_444 : (Jvm.Cond.code ({ cls := "RangeExchange$Pool", name := "clearIfUnset", desc := "(I)V" } : Jvm.MethodName) prog_3_method_13_code (2 : Nat) (Option.none : Option Jvm.ClassFile.FieldType)) ∈ gtb := gtb_m 444 rfl rfl
set_option maxRecDepth 20000 in
theorem m_445 : (Jvm.Cond.methodLink "RangeExchange$Pool" (103 : Nat) ({ cls := "RangeExchange$Course", name := "clearOutsides", desc := "(I)V" } : Jvm.MethodName)) ∈ gtb := gtb_m 445 rfl rfl
set_option maxRecDepth 20000 in
theorem m_446 : (Jvm.Cond.instanceMethod ({ cls := "RangeExchange$Course", name := "clearOutsides", desc := "(I)V" } : Jvm.MethodName)) ∈ gtb := gtb_m 446 rfl rfl
set_option maxRecDepth 20000 in
theorem m_447 : (Jvm.Cond.selects "RangeExchange$Course" ({ cls := "RangeExchange$Course", name := "clearOutsides", desc := "(I)V" } : Jvm.MethodName) ({ cls := "RangeExchange$Course", name := "clearOutsides", desc := "(I)V" } : Jvm.MethodName)) ∈ gtb := gtb_m 447 rfl rfl
set_option maxRecDepth 20000 in
theorem m_448 : (Jvm.Cond.code ({ cls := "RangeExchange$Course", name := "clearOutsides", desc := "(I)V" } : Jvm.MethodName) prog_2_method_5_code (3 : Nat) (Option.none : Option Jvm.ClassFile.FieldType)) ∈ gtb := gtb_m 448 rfl rfl
set_option maxRecDepth 20000 in
theorem m_449 : (Jvm.Cond.methodLink "RangeExchange" (109 : Nat) ({ cls := "RangeExchange", name := "payIn", desc := "(IIJ)V" } : Jvm.MethodName)) ∈ gtb := gtb_m 449 rfl rfl
set_option maxRecDepth 20000 in
theorem m_451 : (Jvm.Cond.instanceMethod ({ cls := "RangeExchange", name := "payIn", desc := "(IIJ)V" } : Jvm.MethodName)) ∈ gtb := gtb_m 451 rfl rfl
set_option maxRecDepth 20000 in
theorem m_452 : (Jvm.Cond.code ({ cls := "RangeExchange", name := "payIn", desc := "(IIJ)V" } : Jvm.MethodName) prog_1_method_23_code (5 : Nat) (Option.none : Option Jvm.ClassFile.FieldType)) ∈ gtb := gtb_m 452 rfl rfl
set_option maxRecDepth 20000 in
theorem m_453 : (Jvm.Cond.methodLink "RangeExchangeLaw" (88 : Nat) ({ cls := "RangeExchangeLaw", name := "burn", desc := "(LRangeExchange;IIIII[J)I" } : Jvm.MethodName)) ∈ gtb := gtb_m 453 rfl rfl
set_option maxRecDepth 20000 in
theorem m_454 : (Jvm.Cond.static ({ cls := "RangeExchangeLaw", name := "burn", desc := "(LRangeExchange;IIIII[J)I" } : Jvm.MethodName)) ∈ gtb := gtb_m 454 rfl rfl
set_option maxRecDepth 20000 in
theorem m_455 : (Jvm.Cond.codeWith ({ cls := "RangeExchangeLaw", name := "burn", desc := "(LRangeExchange;IIIII[J)I" } : Jvm.MethodName) method_6_code (8 : Nat) (Option.some Jvm.ClassFile.FieldType.int) [((0 : Nat), (16 : Nat), (19 : Nat), (13 : Nat)), ((0 : Nat), (16 : Nat), (23 : Nat), (15 : Nat)), ((0 : Nat), (16 : Nat), (27 : Nat), (30 : Nat)), ((0 : Nat), (16 : Nat), (31 : Nat), (25 : Nat))]) ∈ gtb := gtb_m 455 rfl rfl
set_option maxRecDepth 20000 in
theorem m_456 : (Jvm.Cond.classLink "RangeExchangeLaw" (30 : Nat) "java/util/NoSuchElementException") ∈ gtb := gtb_m 456 rfl rfl
set_option maxRecDepth 20000 in
theorem m_457 : (Jvm.Cond.methodLink "RangeExchangeLaw" (27 : Nat) ({ cls := "RangeExchange", name := "burn", desc := "(IIIII)I" } : Jvm.MethodName)) ∈ gtb := gtb_m 457 rfl rfl
set_option maxRecDepth 20000 in
theorem m_458 : (Jvm.Cond.instanceMethod ({ cls := "RangeExchange", name := "burn", desc := "(IIIII)I" } : Jvm.MethodName)) ∈ gtb := gtb_m 458 rfl rfl
set_option maxRecDepth 20000 in
theorem m_459 : (Jvm.Cond.selects "RangeExchange" ({ cls := "RangeExchange", name := "burn", desc := "(IIIII)I" } : Jvm.MethodName) ({ cls := "RangeExchange", name := "burn", desc := "(IIIII)I" } : Jvm.MethodName)) ∈ gtb := gtb_m 459 rfl rfl
set_option maxRecDepth 20000 in
theorem m_460 : (Jvm.Cond.code ({ cls := "RangeExchange", name := "burn", desc := "(IIIII)I" } : Jvm.MethodName) prog_1_method_5_code (7 : Nat) (Option.some Jvm.ClassFile.FieldType.int)) ∈ gtb := gtb_m 460 rfl rfl
set_option maxRecDepth 20000 in
theorem m_461 : (Jvm.Cond.classLink "RangeExchange" (113 : Nat) "java/util/NoSuchElementException") ∈ gtb := gtb_m 461 rfl rfl
set_option maxRecDepth 20000 in
theorem m_462 : (Jvm.Cond.instantiable "java/util/NoSuchElementException" (6 : Nat)) ∈ gtb := gtb_m 462 rfl rfl
set_option maxRecDepth 20000 in
theorem m_464 : (Jvm.Cond.selects "java/util/NoSuchElementException" ({ cls := "java/lang/Throwable", name := "fillInStackTrace", desc := "(I)Ljava/lang/Throwable;" } : Jvm.MethodName) ({ cls := "java/lang/Throwable", name := "fillInStackTrace", desc := "(I)Ljava/lang/Throwable;" } : Jvm.MethodName)) ∈ gtb := gtb_m 464 rfl rfl
set_option maxRecDepth 20000 in
theorem m_465 : (Jvm.Cond.lays "java/util/NoSuchElementException" "java/lang/Throwable" "cause" "Ljava/lang/Throwable;") ∈ gtb := gtb_m 465 rfl rfl
set_option maxRecDepth 20000 in
theorem m_466 : (Jvm.Cond.lays "java/util/NoSuchElementException" "java/lang/Throwable" "stackTrace" "[Ljava/lang/StackTraceElement;") ∈ gtb := gtb_m 466 rfl rfl
set_option maxRecDepth 20000 in
theorem m_467 : (Jvm.Cond.lays "java/util/NoSuchElementException" "java/lang/Throwable" "suppressedExceptions" "Ljava/util/List;") ∈ gtb := gtb_m 467 rfl rfl
set_option maxRecDepth 20000 in
theorem m_468 : (Jvm.Cond.lays "java/util/NoSuchElementException" "java/lang/Throwable" "detailMessage" "Ljava/lang/String;") ∈ gtb := gtb_m 468 rfl rfl
set_option maxRecDepth 20000 in
theorem m_469 : (Jvm.Cond.lays "java/util/NoSuchElementException" "java/lang/Throwable" "backtrace" "Ljava/lang/Object;") ∈ gtb := gtb_m 469 rfl rfl
set_option maxRecDepth 20000 in
theorem m_470 : (Jvm.Cond.methodLink "RangeExchange" (115 : Nat) ({ cls := "java/util/NoSuchElementException", name := "<init>", desc := "()V" } : Jvm.MethodName)) ∈ gtb := gtb_m 470 rfl rfl
set_option maxRecDepth 20000 in
theorem m_471 : (Jvm.Cond.instanceMethod ({ cls := "java/util/NoSuchElementException", name := "<init>", desc := "()V" } : Jvm.MethodName)) ∈ gtb := gtb_m 471 rfl rfl
set_option maxRecDepth 20000 in
theorem m_472 : (Jvm.Cond.code ({ cls := "java/util/NoSuchElementException", name := "<init>", desc := "()V" } : Jvm.MethodName) prog_18_method_1_code (1 : Nat) (Option.none : Option Jvm.ClassFile.FieldType)) ∈ gtb := gtb_m 472 rfl rfl
set_option maxRecDepth 20000 in
theorem m_473 : (Jvm.Cond.methodLink "java/util/NoSuchElementException" (1 : Nat) ({ cls := "java/lang/RuntimeException", name := "<init>", desc := "()V" } : Jvm.MethodName)) ∈ gtb := gtb_m 473 rfl rfl
set_option maxRecDepth 20000 in
theorem m_474 : (Jvm.Cond.lays "java/util/NoSuchElementException" "java/lang/Throwable" "depth" "I") ∈ gtb := gtb_m 474 rfl rfl
set_option maxRecDepth 20000 in
theorem m_475 : (Jvm.Cond.superclass "java/util/NoSuchElementException" "java/lang/RuntimeException") ∈ gtb := gtb_m 475 rfl rfl
set_option maxRecDepth 20000 in
theorem m_476 : (Jvm.Cond.methodLink "RangeExchange" (120 : Nat) ({ cls := "RangeExchange$Position", name := "settle", desc := "(LRangeExchange$Course;)V" } : Jvm.MethodName)) ∈ gtb := gtb_m 476 rfl rfl
set_option maxRecDepth 20000 in
theorem m_477 : (Jvm.Cond.methodLink "RangeExchangeLaw" (91 : Nat) ({ cls := "RangeExchangeLaw", name := "collect", desc := "(LRangeExchange;IIII[J)I" } : Jvm.MethodName)) ∈ gtb := gtb_m 477 rfl rfl
set_option maxRecDepth 20000 in
theorem m_478 : (Jvm.Cond.static ({ cls := "RangeExchangeLaw", name := "collect", desc := "(LRangeExchange;IIII[J)I" } : Jvm.MethodName)) ∈ gtb := gtb_m 478 rfl rfl
set_option maxRecDepth 20000 in
theorem m_479 : (Jvm.Cond.codeWith ({ cls := "RangeExchangeLaw", name := "collect", desc := "(LRangeExchange;IIII[J)I" } : Jvm.MethodName) method_7_code (7 : Nat) (Option.some Jvm.ClassFile.FieldType.int) [((0 : Nat), (13 : Nat), (16 : Nat), (13 : Nat)), ((0 : Nat), (13 : Nat), (20 : Nat), (30 : Nat))]) ∈ gtb := gtb_m 479 rfl rfl
set_option maxRecDepth 20000 in
theorem m_480 : (Jvm.Cond.methodLink "RangeExchangeLaw" (32 : Nat) ({ cls := "RangeExchange", name := "collect", desc := "(IIII)J" } : Jvm.MethodName)) ∈ gtb := gtb_m 480 rfl rfl
set_option maxRecDepth 20000 in
theorem m_481 : (Jvm.Cond.instanceMethod ({ cls := "RangeExchange", name := "collect", desc := "(IIII)J" } : Jvm.MethodName)) ∈ gtb := gtb_m 481 rfl rfl
set_option maxRecDepth 20000 in
theorem m_482 : (Jvm.Cond.selects "RangeExchange" ({ cls := "RangeExchange", name := "collect", desc := "(IIII)J" } : Jvm.MethodName) ({ cls := "RangeExchange", name := "collect", desc := "(IIII)J" } : Jvm.MethodName)) ∈ gtb := gtb_m 482 rfl rfl
set_option maxRecDepth 20000 in
theorem m_483 : (Jvm.Cond.code ({ cls := "RangeExchange", name := "collect", desc := "(IIII)J" } : Jvm.MethodName) prog_1_method_6_code (10 : Nat) (Option.some Jvm.ClassFile.FieldType.long)) ∈ gtb := gtb_m 483 rfl rfl
set_option maxRecDepth 20000 in
theorem m_484 : (Jvm.Cond.methodLink "RangeExchange" (127 : Nat) ({ cls := "RangeExchange", name := "payOut", desc := "(IIJ)V" } : Jvm.MethodName)) ∈ gtb := gtb_m 484 rfl rfl
set_option maxRecDepth 20000 in
theorem m_486 : (Jvm.Cond.instanceMethod ({ cls := "RangeExchange", name := "payOut", desc := "(IIJ)V" } : Jvm.MethodName)) ∈ gtb := gtb_m 486 rfl rfl
set_option maxRecDepth 20000 in
theorem m_487 : (Jvm.Cond.code ({ cls := "RangeExchange", name := "payOut", desc := "(IIJ)V" } : Jvm.MethodName) prog_1_method_24_code (5 : Nat) (Option.none : Option Jvm.ClassFile.FieldType)) ∈ gtb := gtb_m 487 rfl rfl
set_option maxRecDepth 20000 in
theorem m_488 : (Jvm.Cond.methodLink "RangeExchangeLaw" (95 : Nat) ({ cls := "RangeExchangeLaw", name := "swap", desc := "(LRangeExchange;IIZII[J)I" } : Jvm.MethodName)) ∈ gtb := gtb_m 488 rfl rfl
set_option maxRecDepth 20000 in
theorem m_489 : (Jvm.Cond.static ({ cls := "RangeExchangeLaw", name := "swap", desc := "(LRangeExchange;IIZII[J)I" } : Jvm.MethodName)) ∈ gtb := gtb_m 489 rfl rfl
set_option maxRecDepth 20000 in
theorem m_490 : (Jvm.Cond.codeWith ({ cls := "RangeExchangeLaw", name := "swap", desc := "(LRangeExchange;IIZII[J)I" } : Jvm.MethodName) method_8_code (8 : Nat) (Option.some Jvm.ClassFile.FieldType.int) [((0 : Nat), (15 : Nat), (18 : Nat), (13 : Nat)), ((0 : Nat), (15 : Nat), (22 : Nat), (15 : Nat)), ((0 : Nat), (15 : Nat), (26 : Nat), (25 : Nat))]) ∈ gtb := gtb_m 490 rfl rfl
set_option maxRecDepth 20000 in
theorem m_491 : (Jvm.Cond.methodLink "RangeExchangeLaw" (36 : Nat) ({ cls := "RangeExchange", name := "swap", desc := "(IIZII)J" } : Jvm.MethodName)) ∈ gtb := gtb_m 491 rfl rfl
set_option maxRecDepth 20000 in
theorem m_492 : (Jvm.Cond.instanceMethod ({ cls := "RangeExchange", name := "swap", desc := "(IIZII)J" } : Jvm.MethodName)) ∈ gtb := gtb_m 492 rfl rfl
set_option maxRecDepth 20000 in
theorem m_493 : (Jvm.Cond.selects "RangeExchange" ({ cls := "RangeExchange", name := "swap", desc := "(IIZII)J" } : Jvm.MethodName) ({ cls := "RangeExchange", name := "swap", desc := "(IIZII)J" } : Jvm.MethodName)) ∈ gtb := gtb_m 493 rfl rfl
set_option maxRecDepth 20000 in
theorem m_494 : (Jvm.Cond.code ({ cls := "RangeExchange", name := "swap", desc := "(IIZII)J" } : Jvm.MethodName) prog_1_method_7_code (8 : Nat) (Option.some Jvm.ClassFile.FieldType.long)) ∈ gtb := gtb_m 494 rfl rfl
set_option maxRecDepth 20000 in
theorem m_495 : (Jvm.Cond.constant "RangeExchange" (134 : Nat) (-100000000 : Int32)) ∈ gtb := gtb_m 495 rfl rfl
set_option maxRecDepth 20000 in
theorem m_496 : (Jvm.Cond.constant "RangeExchange" (135 : Nat) (100000000 : Int32)) ∈ gtb := gtb_m 496 rfl rfl
set_option maxRecDepth 20000 in
theorem m_497 : (Jvm.Cond.methodLink "RangeExchange" (136 : Nat) ({ cls := "RangeExchange$Roots", name := "at", desc := "(I)J" } : Jvm.MethodName)) ∈ gtb := gtb_m 497 rfl rfl
set_option maxRecDepth 20000 in
theorem m_498 : (Jvm.Cond.methodLink "RangeExchange" (140 : Nat) ({ cls := "RangeExchange$Pool", name := "isAhead", desc := "(JZ)Z" } : Jvm.MethodName)) ∈ gtb := gtb_m 498 rfl rfl
set_option maxRecDepth 20000 in
theorem m_499 : (Jvm.Cond.instanceMethod ({ cls := "RangeExchange$Pool", name := "isAhead", desc := "(JZ)Z" } : Jvm.MethodName)) ∈ gtb := gtb_m 499 rfl rfl
set_option maxRecDepth 20000 in
theorem m_500 : (Jvm.Cond.selects "RangeExchange$Pool" ({ cls := "RangeExchange$Pool", name := "isAhead", desc := "(JZ)Z" } : Jvm.MethodName) ({ cls := "RangeExchange$Pool", name := "isAhead", desc := "(JZ)Z" } : Jvm.MethodName)) ∈ gtb := gtb_m 500 rfl rfl
set_option maxRecDepth 20000 in
theorem m_501 : (Jvm.Cond.code ({ cls := "RangeExchange$Pool", name := "isAhead", desc := "(JZ)Z" } : Jvm.MethodName) prog_3_method_4_code (4 : Nat) (Option.some Jvm.ClassFile.FieldType.boolean)) ∈ gtb := gtb_m 501 rfl rfl
set_option maxRecDepth 20000 in
theorem m_502 : (Jvm.Cond.methodLink "RangeExchange" (144 : Nat) ({ cls := "RangeExchange$Trade", name := "run", desc := "(LRangeExchange$Pool;ZJJ)V" } : Jvm.MethodName)) ∈ gtb := gtb_m 502 rfl rfl
set_option maxRecDepth 20000 in
theorem m_503 : (Jvm.Cond.instanceMethod ({ cls := "RangeExchange$Trade", name := "run", desc := "(LRangeExchange$Pool;ZJJ)V" } : Jvm.MethodName)) ∈ gtb := gtb_m 503 rfl rfl
set_option maxRecDepth 20000 in
theorem m_504 : (Jvm.Cond.selects "RangeExchange$Trade" ({ cls := "RangeExchange$Trade", name := "run", desc := "(LRangeExchange$Pool;ZJJ)V" } : Jvm.MethodName) ({ cls := "RangeExchange$Trade", name := "run", desc := "(LRangeExchange$Pool;ZJJ)V" } : Jvm.MethodName)) ∈ gtb := gtb_m 504 rfl rfl
set_option maxRecDepth 20000 in
theorem m_505 : (Jvm.Cond.code ({ cls := "RangeExchange$Trade", name := "run", desc := "(LRangeExchange$Pool;ZJJ)V" } : Jvm.MethodName) prog_7_method_2_code (8 : Nat) (Option.none : Option Jvm.ClassFile.FieldType)) ∈ gtb := gtb_m 505 rfl rfl
set_option maxRecDepth 20000 in
theorem m_506 : (Jvm.Cond.methodLink "RangeExchange$Trade" (15 : Nat) ({ cls := "RangeExchange$Pool", name := "startTrial", desc := "()V" } : Jvm.MethodName)) ∈ gtb := gtb_m 506 rfl rfl
set_option maxRecDepth 20000 in
theorem m_507 : (Jvm.Cond.instanceMethod ({ cls := "RangeExchange$Pool", name := "startTrial", desc := "()V" } : Jvm.MethodName)) ∈ gtb := gtb_m 507 rfl rfl
set_option maxRecDepth 20000 in
theorem m_508 : (Jvm.Cond.selects "RangeExchange$Pool" ({ cls := "RangeExchange$Pool", name := "startTrial", desc := "()V" } : Jvm.MethodName) ({ cls := "RangeExchange$Pool", name := "startTrial", desc := "()V" } : Jvm.MethodName)) ∈ gtb := gtb_m 508 rfl rfl
set_option maxRecDepth 20000 in
theorem m_509 : (Jvm.Cond.code ({ cls := "RangeExchange$Pool", name := "startTrial", desc := "()V" } : Jvm.MethodName) prog_3_method_2_code (1 : Nat) (Option.none : Option Jvm.ClassFile.FieldType)) ∈ gtb := gtb_m 509 rfl rfl
set_option maxRecDepth 20000 in
theorem m_510 : (Jvm.Cond.methodLink "RangeExchange$Pool" (45 : Nat) ({ cls := "RangeExchange$Course", name := "copy", desc := "(LRangeExchange$Course;)V" } : Jvm.MethodName)) ∈ gtb := gtb_m 510 rfl rfl
set_option maxRecDepth 20000 in
theorem m_511 : (Jvm.Cond.instanceMethod ({ cls := "RangeExchange$Course", name := "copy", desc := "(LRangeExchange$Course;)V" } : Jvm.MethodName)) ∈ gtb := gtb_m 511 rfl rfl
set_option maxRecDepth 20000 in
theorem m_512 : (Jvm.Cond.selects "RangeExchange$Course" ({ cls := "RangeExchange$Course", name := "copy", desc := "(LRangeExchange$Course;)V" } : Jvm.MethodName) ({ cls := "RangeExchange$Course", name := "copy", desc := "(LRangeExchange$Course;)V" } : Jvm.MethodName)) ∈ gtb := gtb_m 512 rfl rfl
set_option maxRecDepth 20000 in
theorem m_513 : (Jvm.Cond.code ({ cls := "RangeExchange$Course", name := "copy", desc := "(LRangeExchange$Course;)V" } : Jvm.MethodName) prog_2_method_2_code (2 : Nat) (Option.none : Option Jvm.ClassFile.FieldType)) ∈ gtb := gtb_m 513 rfl rfl
set_option maxRecDepth 20000 in
theorem m_514 : (Jvm.Cond.methodLink "RangeExchange$Course" (31 : Nat) ({ cls := "java/lang/System", name := "arraycopy", desc := "(Ljava/lang/Object;ILjava/lang/Object;II)V" } : Jvm.MethodName)) ∈ gtb := gtb_m 514 rfl rfl
set_option maxRecDepth 20000 in
theorem m_515 : (Jvm.Cond.static ({ cls := "java/lang/System", name := "arraycopy", desc := "(Ljava/lang/Object;ILjava/lang/Object;II)V" } : Jvm.MethodName)) ∈ gtb := gtb_m 515 rfl rfl
set_option maxRecDepth 20000 in
theorem m_516 : (Jvm.Cond.native ({ cls := "java/lang/System", name := "arraycopy", desc := "(Ljava/lang/Object;ILjava/lang/Object;II)V" } : Jvm.MethodName)) ∈ gtb := gtb_m 516 rfl rfl
set_option maxRecDepth 20000 in
theorem m_517 : (Jvm.Cond.methodLink "RangeExchange$Trade" (56 : Nat) ({ cls := "RangeExchange$Trade", name := "step", desc := "()V" } : Jvm.MethodName)) ∈ gtb := gtb_m 517 rfl rfl
set_option maxRecDepth 20000 in
theorem m_519 : (Jvm.Cond.instanceMethod ({ cls := "RangeExchange$Trade", name := "step", desc := "()V" } : Jvm.MethodName)) ∈ gtb := gtb_m 519 rfl rfl
set_option maxRecDepth 20000 in
theorem m_520 : (Jvm.Cond.code ({ cls := "RangeExchange$Trade", name := "step", desc := "()V" } : Jvm.MethodName) prog_7_method_3_code (8 : Nat) (Option.none : Option Jvm.ClassFile.FieldType)) ∈ gtb := gtb_m 520 rfl rfl
set_option maxRecDepth 20000 in
theorem m_521 : (Jvm.Cond.methodLink "RangeExchange$Trade" (63 : Nat) ({ cls := "RangeExchange$Pool", name := "nextDown", desc := "(I)I" } : Jvm.MethodName)) ∈ gtb := gtb_m 521 rfl rfl
set_option maxRecDepth 20000 in
theorem m_522 : (Jvm.Cond.instanceMethod ({ cls := "RangeExchange$Pool", name := "nextDown", desc := "(I)I" } : Jvm.MethodName)) ∈ gtb := gtb_m 522 rfl rfl
set_option maxRecDepth 20000 in
theorem m_523 : (Jvm.Cond.selects "RangeExchange$Pool" ({ cls := "RangeExchange$Pool", name := "nextDown", desc := "(I)I" } : Jvm.MethodName) ({ cls := "RangeExchange$Pool", name := "nextDown", desc := "(I)I" } : Jvm.MethodName)) ∈ gtb := gtb_m 523 rfl rfl
set_option maxRecDepth 20000 in
theorem m_524 : (Jvm.Cond.code ({ cls := "RangeExchange$Pool", name := "nextDown", desc := "(I)I" } : Jvm.MethodName) prog_3_method_7_code (3 : Nat) (Option.some Jvm.ClassFile.FieldType.int)) ∈ gtb := gtb_m 524 rfl rfl
set_option maxRecDepth 20000 in
theorem m_525 : (Jvm.Cond.methodLink "RangeExchange$Trade" (67 : Nat) ({ cls := "RangeExchange$Pool", name := "nextUp", desc := "(I)I" } : Jvm.MethodName)) ∈ gtb := gtb_m 525 rfl rfl
set_option maxRecDepth 20000 in
theorem m_526 : (Jvm.Cond.instanceMethod ({ cls := "RangeExchange$Pool", name := "nextUp", desc := "(I)I" } : Jvm.MethodName)) ∈ gtb := gtb_m 526 rfl rfl
set_option maxRecDepth 20000 in
theorem m_527 : (Jvm.Cond.selects "RangeExchange$Pool" ({ cls := "RangeExchange$Pool", name := "nextUp", desc := "(I)I" } : Jvm.MethodName) ({ cls := "RangeExchange$Pool", name := "nextUp", desc := "(I)I" } : Jvm.MethodName)) ∈ gtb := gtb_m 527 rfl rfl
set_option maxRecDepth 20000 in
theorem m_528 : (Jvm.Cond.code ({ cls := "RangeExchange$Pool", name := "nextUp", desc := "(I)I" } : Jvm.MethodName) prog_3_method_8_code (3 : Nat) (Option.some Jvm.ClassFile.FieldType.int)) ∈ gtb := gtb_m 528 rfl rfl
set_option maxRecDepth 20000 in
theorem m_529 : (Jvm.Cond.methodLink "RangeExchange$Trade" (70 : Nat) ({ cls := "RangeExchange$Roots", name := "at", desc := "(I)J" } : Jvm.MethodName)) ∈ gtb := gtb_m 529 rfl rfl
set_option maxRecDepth 20000 in
theorem m_530 : (Jvm.Cond.methodLink "RangeExchange$Trade" (76 : Nat) ({ cls := "java/lang/Math", name := "max", desc := "(JJ)J" } : Jvm.MethodName)) ∈ gtb := gtb_m 530 rfl rfl
set_option maxRecDepth 20000 in
theorem m_531 : (Jvm.Cond.static ({ cls := "java/lang/Math", name := "max", desc := "(JJ)J" } : Jvm.MethodName)) ∈ gtb := gtb_m 531 rfl rfl
set_option maxRecDepth 20000 in
theorem m_532 : (Jvm.Cond.code ({ cls := "java/lang/Math", name := "max", desc := "(JJ)J" } : Jvm.MethodName) prog_14_method_66_code (4 : Nat) (Option.some Jvm.ClassFile.FieldType.long)) ∈ gtb := gtb_m 532 rfl rfl
set_option maxRecDepth 20000 in
theorem m_533 : (Jvm.Cond.methodLink "RangeExchange$Trade" (82 : Nat) ({ cls := "java/lang/Math", name := "min", desc := "(JJ)J" } : Jvm.MethodName)) ∈ gtb := gtb_m 533 rfl rfl
set_option maxRecDepth 20000 in
theorem m_534 : (Jvm.Cond.static ({ cls := "java/lang/Math", name := "min", desc := "(JJ)J" } : Jvm.MethodName)) ∈ gtb := gtb_m 534 rfl rfl
set_option maxRecDepth 20000 in
theorem m_535 : (Jvm.Cond.code ({ cls := "java/lang/Math", name := "min", desc := "(JJ)J" } : Jvm.MethodName) prog_14_method_70_code (4 : Nat) (Option.some Jvm.ClassFile.FieldType.long)) ∈ gtb := gtb_m 535 rfl rfl
set_option maxRecDepth 20000 in
theorem m_536 : (Jvm.Cond.methodLink "RangeExchange$Trade" (85 : Nat) ({ cls := "RangeExchange$Trade", name := "priceByTaking", desc := "(J)J" } : Jvm.MethodName)) ∈ gtb := gtb_m 536 rfl rfl
set_option maxRecDepth 20000 in
theorem m_538 : (Jvm.Cond.instanceMethod ({ cls := "RangeExchange$Trade", name := "priceByTaking", desc := "(J)J" } : Jvm.MethodName)) ∈ gtb := gtb_m 538 rfl rfl
set_option maxRecDepth 20000 in
theorem m_539 : (Jvm.Cond.code ({ cls := "RangeExchange$Trade", name := "priceByTaking", desc := "(J)J" } : Jvm.MethodName) prog_7_method_4_code (9 : Nat) (Option.some Jvm.ClassFile.FieldType.long)) ∈ gtb := gtb_m 539 rfl rfl
set_option maxRecDepth 20000 in
theorem m_540 : (Jvm.Cond.constantLong "RangeExchange$Trade" (106 : Nat) (1000 : Int64)) ∈ gtb := gtb_m 540 rfl rfl
set_option maxRecDepth 20000 in
theorem m_541 : (Jvm.Cond.methodLink "RangeExchange$Trade" (108 : Nat) ({ cls := "RangeExchange$Quotients", name := "of", desc := "(JJZ)J" } : Jvm.MethodName)) ∈ gtb := gtb_m 541 rfl rfl
set_option maxRecDepth 20000 in
theorem m_542 : (Jvm.Cond.methodLink "RangeExchange$Trade" (114 : Nat) ({ cls := "RangeExchange$Trade", name := "takenUntil", desc := "(J)J" } : Jvm.MethodName)) ∈ gtb := gtb_m 542 rfl rfl
set_option maxRecDepth 20000 in
theorem m_544 : (Jvm.Cond.instanceMethod ({ cls := "RangeExchange$Trade", name := "takenUntil", desc := "(J)J" } : Jvm.MethodName)) ∈ gtb := gtb_m 544 rfl rfl
set_option maxRecDepth 20000 in
theorem m_545 : (Jvm.Cond.code ({ cls := "RangeExchange$Trade", name := "takenUntil", desc := "(J)J" } : Jvm.MethodName) prog_7_method_6_code (3 : Nat) (Option.some Jvm.ClassFile.FieldType.long)) ∈ gtb := gtb_m 545 rfl rfl
set_option maxRecDepth 20000 in
theorem m_546 : (Jvm.Cond.methodLink "RangeExchange$Trade" (125 : Nat) ({ cls := "RangeExchange$Quotients", name := "near", desc := "(JJJZ)J" } : Jvm.MethodName)) ∈ gtb := gtb_m 546 rfl rfl
set_option maxRecDepth 20000 in
theorem m_547 : (Jvm.Cond.methodLink "RangeExchange$Trade" (129 : Nat) ({ cls := "RangeExchange$Quotients", name := "far", desc := "(JJJZ)J" } : Jvm.MethodName)) ∈ gtb := gtb_m 547 rfl rfl
set_option maxRecDepth 20000 in
theorem m_548 : (Jvm.Cond.constantLong "RangeExchange$Trade" (117 : Nat) (4294967296 : Int64)) ∈ gtb := gtb_m 548 rfl rfl
set_option maxRecDepth 20000 in
theorem m_549 : (Jvm.Cond.methodLink "RangeExchange$Trade" (119 : Nat) ({ cls := "RangeExchange$Quotients", name := "ofShifted", desc := "(JJZ)J" } : Jvm.MethodName)) ∈ gtb := gtb_m 549 rfl rfl
set_option maxRecDepth 20000 in
theorem m_550 : (Jvm.Cond.methodLink "RangeExchange$Trade" (89 : Nat) ({ cls := "RangeExchange$Trade", name := "priceByPaying", desc := "(J)J" } : Jvm.MethodName)) ∈ gtb := gtb_m 550 rfl rfl
set_option maxRecDepth 20000 in
theorem m_552 : (Jvm.Cond.instanceMethod ({ cls := "RangeExchange$Trade", name := "priceByPaying", desc := "(J)J" } : Jvm.MethodName)) ∈ gtb := gtb_m 552 rfl rfl
set_option maxRecDepth 20000 in
theorem m_553 : (Jvm.Cond.code ({ cls := "RangeExchange$Trade", name := "priceByPaying", desc := "(J)J" } : Jvm.MethodName) prog_7_method_5_code (7 : Nat) (Option.some Jvm.ClassFile.FieldType.long)) ∈ gtb := gtb_m 553 rfl rfl
set_option maxRecDepth 20000 in
theorem m_554 : (Jvm.Cond.methodLink "RangeExchange$Trade" (122 : Nat) ({ cls := "RangeExchange$Trade", name := "paidUntil", desc := "(J)J" } : Jvm.MethodName)) ∈ gtb := gtb_m 554 rfl rfl
set_option maxRecDepth 20000 in
theorem m_556 : (Jvm.Cond.instanceMethod ({ cls := "RangeExchange$Trade", name := "paidUntil", desc := "(J)J" } : Jvm.MethodName)) ∈ gtb := gtb_m 556 rfl rfl
set_option maxRecDepth 20000 in
theorem m_557 : (Jvm.Cond.code ({ cls := "RangeExchange$Trade", name := "paidUntil", desc := "(J)J" } : Jvm.MethodName) prog_7_method_7_code (3 : Nat) (Option.some Jvm.ClassFile.FieldType.long)) ∈ gtb := gtb_m 557 rfl rfl
set_option maxRecDepth 20000 in
theorem m_558 : (Jvm.Cond.methodLink "RangeExchange$Trade" (92 : Nat) ({ cls := "RangeExchange$Trade", name := "exchange", desc := "(JZ)V" } : Jvm.MethodName)) ∈ gtb := gtb_m 558 rfl rfl
set_option maxRecDepth 20000 in
theorem m_560 : (Jvm.Cond.instanceMethod ({ cls := "RangeExchange$Trade", name := "exchange", desc := "(JZ)V" } : Jvm.MethodName)) ∈ gtb := gtb_m 560 rfl rfl
set_option maxRecDepth 20000 in
theorem m_561 : (Jvm.Cond.code ({ cls := "RangeExchange$Trade", name := "exchange", desc := "(JZ)V" } : Jvm.MethodName) prog_7_method_8_code (10 : Nat) (Option.none : Option Jvm.ClassFile.FieldType)) ∈ gtb := gtb_m 561 rfl rfl
set_option maxRecDepth 20000 in
theorem m_562 : (Jvm.Cond.methodLink "RangeExchange$Trade" (96 : Nat) ({ cls := "RangeExchange$Trade", name := "moveTo", desc := "(JI)V" } : Jvm.MethodName)) ∈ gtb := gtb_m 562 rfl rfl
set_option maxRecDepth 20000 in
theorem m_564 : (Jvm.Cond.instanceMethod ({ cls := "RangeExchange$Trade", name := "moveTo", desc := "(JI)V" } : Jvm.MethodName)) ∈ gtb := gtb_m 564 rfl rfl
set_option maxRecDepth 20000 in
theorem m_565 : (Jvm.Cond.code ({ cls := "RangeExchange$Trade", name := "moveTo", desc := "(JI)V" } : Jvm.MethodName) prog_7_method_9_code (5 : Nat) (Option.none : Option Jvm.ClassFile.FieldType)) ∈ gtb := gtb_m 565 rfl rfl
set_option maxRecDepth 20000 in
theorem m_566 : (Jvm.Cond.methodLink "RangeExchange$Trade" (136 : Nat) ({ cls := "RangeExchange$Pool", name := "isSet", desc := "(I)Z" } : Jvm.MethodName)) ∈ gtb := gtb_m 566 rfl rfl
set_option maxRecDepth 20000 in
theorem m_567 : (Jvm.Cond.methodLink "RangeExchange$Trade" (140 : Nat) ({ cls := "RangeExchange$Trade", name := "cross", desc := "(I)V" } : Jvm.MethodName)) ∈ gtb := gtb_m 567 rfl rfl
set_option maxRecDepth 20000 in
theorem m_569 : (Jvm.Cond.instanceMethod ({ cls := "RangeExchange$Trade", name := "cross", desc := "(I)V" } : Jvm.MethodName)) ∈ gtb := gtb_m 569 rfl rfl
set_option maxRecDepth 20000 in
theorem m_570 : (Jvm.Cond.code ({ cls := "RangeExchange$Trade", name := "cross", desc := "(I)V" } : Jvm.MethodName) prog_7_method_10_code (2 : Nat) (Option.none : Option Jvm.ClassFile.FieldType)) ∈ gtb := gtb_m 570 rfl rfl
set_option maxRecDepth 20000 in
theorem m_571 : (Jvm.Cond.methodLink "RangeExchange$Trade" (148 : Nat) ({ cls := "RangeExchange$Course", name := "turnOutsides", desc := "(I)V" } : Jvm.MethodName)) ∈ gtb := gtb_m 571 rfl rfl
set_option maxRecDepth 20000 in
theorem m_572 : (Jvm.Cond.instanceMethod ({ cls := "RangeExchange$Course", name := "turnOutsides", desc := "(I)V" } : Jvm.MethodName)) ∈ gtb := gtb_m 572 rfl rfl
set_option maxRecDepth 20000 in
theorem m_573 : (Jvm.Cond.selects "RangeExchange$Course" ({ cls := "RangeExchange$Course", name := "turnOutsides", desc := "(I)V" } : Jvm.MethodName) ({ cls := "RangeExchange$Course", name := "turnOutsides", desc := "(I)V" } : Jvm.MethodName)) ∈ gtb := gtb_m 573 rfl rfl
set_option maxRecDepth 20000 in
theorem m_574 : (Jvm.Cond.code ({ cls := "RangeExchange$Course", name := "turnOutsides", desc := "(I)V" } : Jvm.MethodName) prog_2_method_6_code (3 : Nat) (Option.none : Option Jvm.ClassFile.FieldType)) ∈ gtb := gtb_m 574 rfl rfl
set_option maxRecDepth 20000 in
theorem m_575 : (Jvm.Cond.methodLink "RangeExchange$Trade" (151 : Nat) ({ cls := "RangeExchange$Pool", name := "netOf", desc := "(I)I" } : Jvm.MethodName)) ∈ gtb := gtb_m 575 rfl rfl
set_option maxRecDepth 20000 in
theorem m_576 : (Jvm.Cond.instanceMethod ({ cls := "RangeExchange$Pool", name := "netOf", desc := "(I)I" } : Jvm.MethodName)) ∈ gtb := gtb_m 576 rfl rfl
set_option maxRecDepth 20000 in
theorem m_577 : (Jvm.Cond.selects "RangeExchange$Pool" ({ cls := "RangeExchange$Pool", name := "netOf", desc := "(I)I" } : Jvm.MethodName) ({ cls := "RangeExchange$Pool", name := "netOf", desc := "(I)I" } : Jvm.MethodName)) ∈ gtb := gtb_m 577 rfl rfl
set_option maxRecDepth 20000 in
theorem m_578 : (Jvm.Cond.code ({ cls := "RangeExchange$Pool", name := "netOf", desc := "(I)I" } : Jvm.MethodName) prog_3_method_6_code (2 : Nat) (Option.some Jvm.ClassFile.FieldType.int)) ∈ gtb := gtb_m 578 rfl rfl
set_option maxRecDepth 20000 in
theorem m_579 : (Jvm.Cond.methodLink "RangeExchange$Trade" (144 : Nat) ({ cls := "RangeExchange$Roots", name := "greatestNotAbove", desc := "(J)I" } : Jvm.MethodName)) ∈ gtb := gtb_m 579 rfl rfl
set_option maxRecDepth 20000 in
theorem m_580 : (Jvm.Cond.instanceMethod ({ cls := "RangeExchange$Roots", name := "greatestNotAbove", desc := "(J)I" } : Jvm.MethodName)) ∈ gtb := gtb_m 580 rfl rfl
set_option maxRecDepth 20000 in
theorem m_581 : (Jvm.Cond.selects "RangeExchange$Roots" ({ cls := "RangeExchange$Roots", name := "greatestNotAbove", desc := "(J)I" } : Jvm.MethodName) ({ cls := "RangeExchange$Roots", name := "greatestNotAbove", desc := "(J)I" } : Jvm.MethodName)) ∈ gtb := gtb_m 581 rfl rfl
set_option maxRecDepth 20000 in
theorem m_582 : (Jvm.Cond.code ({ cls := "RangeExchange$Roots", name := "greatestNotAbove", desc := "(J)I" } : Jvm.MethodName) prog_6_method_3_code (4 : Nat) (Option.some Jvm.ClassFile.FieldType.int)) ∈ gtb := gtb_m 582 rfl rfl
set_option maxRecDepth 20000 in
theorem m_583 : (Jvm.Cond.methodLink "RangeExchange$Roots" (21 : Nat) ({ cls := "RangeExchange$Roots", name := "at", desc := "(I)J" } : Jvm.MethodName)) ∈ gtb := gtb_m 583 rfl rfl
set_option maxRecDepth 20000 in
theorem m_584 : (Jvm.Cond.methodLink "RangeExchange" (151 : Nat) ({ cls := "RangeExchange", name := "keep", desc := "(LRangeExchange$Trade;III)V" } : Jvm.MethodName)) ∈ gtb := gtb_m 584 rfl rfl
set_option maxRecDepth 20000 in
theorem m_586 : (Jvm.Cond.instanceMethod ({ cls := "RangeExchange", name := "keep", desc := "(LRangeExchange$Trade;III)V" } : Jvm.MethodName)) ∈ gtb := gtb_m 586 rfl rfl
set_option maxRecDepth 20000 in
theorem m_587 : (Jvm.Cond.code ({ cls := "RangeExchange", name := "keep", desc := "(LRangeExchange$Trade;III)V" } : Jvm.MethodName) prog_1_method_25_code (5 : Nat) (Option.none : Option Jvm.ClassFile.FieldType)) ∈ gtb := gtb_m 587 rfl rfl
set_option maxRecDepth 20000 in
theorem m_588 : (Jvm.Cond.methodLink "RangeExchange" (187 : Nat) ({ cls := "RangeExchange$Pool", name := "keepTrial", desc := "()V" } : Jvm.MethodName)) ∈ gtb := gtb_m 588 rfl rfl
set_option maxRecDepth 20000 in
theorem m_589 : (Jvm.Cond.instanceMethod ({ cls := "RangeExchange$Pool", name := "keepTrial", desc := "()V" } : Jvm.MethodName)) ∈ gtb := gtb_m 589 rfl rfl
set_option maxRecDepth 20000 in
theorem m_590 : (Jvm.Cond.selects "RangeExchange$Pool" ({ cls := "RangeExchange$Pool", name := "keepTrial", desc := "()V" } : Jvm.MethodName) ({ cls := "RangeExchange$Pool", name := "keepTrial", desc := "()V" } : Jvm.MethodName)) ∈ gtb := gtb_m 590 rfl rfl
set_option maxRecDepth 20000 in
theorem m_591 : (Jvm.Cond.code ({ cls := "RangeExchange$Pool", name := "keepTrial", desc := "()V" } : Jvm.MethodName) prog_3_method_3_code (2 : Nat) (Option.none : Option Jvm.ClassFile.FieldType)) ∈ gtb := gtb_m 591 rfl rfl
set_option maxRecDepth 20000 in
theorem m_592 : (Jvm.Cond.methodLink "RangeExchangeLaw" (99 : Nat) ({ cls := "RangeExchangeLaw", name := "route", desc := "(LRangeExchange;III[J)I" } : Jvm.MethodName)) ∈ gtb := gtb_m 592 rfl rfl
set_option maxRecDepth 20000 in
theorem m_593 : (Jvm.Cond.static ({ cls := "RangeExchangeLaw", name := "route", desc := "(LRangeExchange;III[J)I" } : Jvm.MethodName)) ∈ gtb := gtb_m 593 rfl rfl
set_option maxRecDepth 20000 in
theorem m_594 : (Jvm.Cond.codeWith ({ cls := "RangeExchangeLaw", name := "route", desc := "(LRangeExchange;III[J)I" } : Jvm.MethodName) method_9_code (6 : Nat) (Option.some Jvm.ClassFile.FieldType.int) [((0 : Nat), (11 : Nat), (14 : Nat), (13 : Nat)), ((0 : Nat), (11 : Nat), (18 : Nat), (15 : Nat)), ((0 : Nat), (11 : Nat), (22 : Nat), (25 : Nat))]) ∈ gtb := gtb_m 594 rfl rfl
set_option maxRecDepth 20000 in
theorem m_595 : (Jvm.Cond.methodLink "RangeExchangeLaw" (40 : Nat) ({ cls := "RangeExchange", name := "route", desc := "(III)J" } : Jvm.MethodName)) ∈ gtb := gtb_m 595 rfl rfl
set_option maxRecDepth 20000 in
theorem m_596 : (Jvm.Cond.instanceMethod ({ cls := "RangeExchange", name := "route", desc := "(III)J" } : Jvm.MethodName)) ∈ gtb := gtb_m 596 rfl rfl
set_option maxRecDepth 20000 in
theorem m_597 : (Jvm.Cond.selects "RangeExchange" ({ cls := "RangeExchange", name := "route", desc := "(III)J" } : Jvm.MethodName) ({ cls := "RangeExchange", name := "route", desc := "(III)J" } : Jvm.MethodName)) ∈ gtb := gtb_m 597 rfl rfl
set_option maxRecDepth 20000 in
theorem m_598 : (Jvm.Cond.code ({ cls := "RangeExchange", name := "route", desc := "(III)J" } : Jvm.MethodName) prog_1_method_8_code (6 : Nat) (Option.some Jvm.ClassFile.FieldType.long)) ∈ gtb := gtb_m 598 rfl rfl
set_option maxRecDepth 20000 in
theorem m_599 : (Jvm.Cond.methodLink "RangeExchangeLaw" (107 : Nat) ({ cls := "RangeExchangeLaw", name := "price", desc := "(LRangeExchange;I[J)I" } : Jvm.MethodName)) ∈ gtb := gtb_m 599 rfl rfl
set_option maxRecDepth 20000 in
theorem m_600 : (Jvm.Cond.static ({ cls := "RangeExchangeLaw", name := "price", desc := "(LRangeExchange;I[J)I" } : Jvm.MethodName)) ∈ gtb := gtb_m 600 rfl rfl
set_option maxRecDepth 20000 in
theorem m_601 : (Jvm.Cond.codeWith ({ cls := "RangeExchangeLaw", name := "price", desc := "(LRangeExchange;I[J)I" } : Jvm.MethodName) method_10_code (4 : Nat) (Option.some Jvm.ClassFile.FieldType.int) [((0 : Nat), (8 : Nat), (11 : Nat), (13 : Nat))]) ∈ gtb := gtb_m 601 rfl rfl
set_option maxRecDepth 20000 in
theorem m_602 : (Jvm.Cond.methodLink "RangeExchangeLaw" (43 : Nat) ({ cls := "RangeExchange", name := "price", desc := "(I)J" } : Jvm.MethodName)) ∈ gtb := gtb_m 602 rfl rfl
set_option maxRecDepth 20000 in
theorem m_603 : (Jvm.Cond.instanceMethod ({ cls := "RangeExchange", name := "price", desc := "(I)J" } : Jvm.MethodName)) ∈ gtb := gtb_m 603 rfl rfl
set_option maxRecDepth 20000 in
theorem m_604 : (Jvm.Cond.selects "RangeExchange" ({ cls := "RangeExchange", name := "price", desc := "(I)J" } : Jvm.MethodName) ({ cls := "RangeExchange", name := "price", desc := "(I)J" } : Jvm.MethodName)) ∈ gtb := gtb_m 604 rfl rfl
set_option maxRecDepth 20000 in
theorem m_605 : (Jvm.Cond.code ({ cls := "RangeExchange", name := "price", desc := "(I)J" } : Jvm.MethodName) prog_1_method_10_code (2 : Nat) (Option.some Jvm.ClassFile.FieldType.long)) ∈ gtb := gtb_m 605 rfl rfl
set_option maxRecDepth 20000 in
theorem m_606 : (Jvm.Cond.methodLink "RangeExchangeLaw" (111 : Nat) ({ cls := "RangeExchangeLaw", name := "tick", desc := "(LRangeExchange;I[J)I" } : Jvm.MethodName)) ∈ gtb := gtb_m 606 rfl rfl
set_option maxRecDepth 20000 in
theorem m_607 : (Jvm.Cond.static ({ cls := "RangeExchangeLaw", name := "tick", desc := "(LRangeExchange;I[J)I" } : Jvm.MethodName)) ∈ gtb := gtb_m 607 rfl rfl
set_option maxRecDepth 20000 in
theorem m_608 : (Jvm.Cond.codeWith ({ cls := "RangeExchangeLaw", name := "tick", desc := "(LRangeExchange;I[J)I" } : Jvm.MethodName) method_11_code (4 : Nat) (Option.some Jvm.ClassFile.FieldType.int) [((0 : Nat), (9 : Nat), (12 : Nat), (13 : Nat))]) ∈ gtb := gtb_m 608 rfl rfl
set_option maxRecDepth 20000 in
theorem m_609 : (Jvm.Cond.methodLink "RangeExchangeLaw" (47 : Nat) ({ cls := "RangeExchange", name := "tick", desc := "(I)I" } : Jvm.MethodName)) ∈ gtb := gtb_m 609 rfl rfl
set_option maxRecDepth 20000 in
theorem m_610 : (Jvm.Cond.instanceMethod ({ cls := "RangeExchange", name := "tick", desc := "(I)I" } : Jvm.MethodName)) ∈ gtb := gtb_m 610 rfl rfl
set_option maxRecDepth 20000 in
theorem m_611 : (Jvm.Cond.selects "RangeExchange" ({ cls := "RangeExchange", name := "tick", desc := "(I)I" } : Jvm.MethodName) ({ cls := "RangeExchange", name := "tick", desc := "(I)I" } : Jvm.MethodName)) ∈ gtb := gtb_m 611 rfl rfl
set_option maxRecDepth 20000 in
theorem m_612 : (Jvm.Cond.code ({ cls := "RangeExchange", name := "tick", desc := "(I)I" } : Jvm.MethodName) prog_1_method_11_code (2 : Nat) (Option.some Jvm.ClassFile.FieldType.int)) ∈ gtb := gtb_m 612 rfl rfl
set_option maxRecDepth 20000 in
theorem m_613 : (Jvm.Cond.methodLink "RangeExchangeLaw" (114 : Nat) ({ cls := "RangeExchangeLaw", name := "liquidity", desc := "(LRangeExchange;I[J)I" } : Jvm.MethodName)) ∈ gtb := gtb_m 613 rfl rfl
set_option maxRecDepth 20000 in
theorem m_614 : (Jvm.Cond.static ({ cls := "RangeExchangeLaw", name := "liquidity", desc := "(LRangeExchange;I[J)I" } : Jvm.MethodName)) ∈ gtb := gtb_m 614 rfl rfl
set_option maxRecDepth 20000 in
theorem m_615 : (Jvm.Cond.codeWith ({ cls := "RangeExchangeLaw", name := "liquidity", desc := "(LRangeExchange;I[J)I" } : Jvm.MethodName) method_12_code (4 : Nat) (Option.some Jvm.ClassFile.FieldType.int) [((0 : Nat), (9 : Nat), (12 : Nat), (13 : Nat))]) ∈ gtb := gtb_m 615 rfl rfl
set_option maxRecDepth 20000 in
theorem m_616 : (Jvm.Cond.methodLink "RangeExchangeLaw" (51 : Nat) ({ cls := "RangeExchange", name := "liquidity", desc := "(I)I" } : Jvm.MethodName)) ∈ gtb := gtb_m 616 rfl rfl
set_option maxRecDepth 20000 in
theorem m_617 : (Jvm.Cond.instanceMethod ({ cls := "RangeExchange", name := "liquidity", desc := "(I)I" } : Jvm.MethodName)) ∈ gtb := gtb_m 617 rfl rfl
set_option maxRecDepth 20000 in
theorem m_618 : (Jvm.Cond.selects "RangeExchange" ({ cls := "RangeExchange", name := "liquidity", desc := "(I)I" } : Jvm.MethodName) ({ cls := "RangeExchange", name := "liquidity", desc := "(I)I" } : Jvm.MethodName)) ∈ gtb := gtb_m 618 rfl rfl
set_option maxRecDepth 20000 in
theorem m_619 : (Jvm.Cond.code ({ cls := "RangeExchange", name := "liquidity", desc := "(I)I" } : Jvm.MethodName) prog_1_method_12_code (2 : Nat) (Option.some Jvm.ClassFile.FieldType.int)) ∈ gtb := gtb_m 619 rfl rfl
set_option maxRecDepth 20000 in
theorem m_620 : (Jvm.Cond.methodLink "RangeExchangeLaw" (117 : Nat) ({ cls := "RangeExchangeLaw", name := "growth", desc := "(LRangeExchange;II[J)I" } : Jvm.MethodName)) ∈ gtb := gtb_m 620 rfl rfl
set_option maxRecDepth 20000 in
theorem m_621 : (Jvm.Cond.static ({ cls := "RangeExchangeLaw", name := "growth", desc := "(LRangeExchange;II[J)I" } : Jvm.MethodName)) ∈ gtb := gtb_m 621 rfl rfl
set_option maxRecDepth 20000 in
theorem m_622 : (Jvm.Cond.codeWith ({ cls := "RangeExchangeLaw", name := "growth", desc := "(LRangeExchange;II[J)I" } : Jvm.MethodName) method_13_code (5 : Nat) (Option.some Jvm.ClassFile.FieldType.int) [((0 : Nat), (9 : Nat), (12 : Nat), (13 : Nat))]) ∈ gtb := gtb_m 622 rfl rfl
set_option maxRecDepth 20000 in
theorem m_623 : (Jvm.Cond.methodLink "RangeExchangeLaw" (54 : Nat) ({ cls := "RangeExchange", name := "growth", desc := "(II)J" } : Jvm.MethodName)) ∈ gtb := gtb_m 623 rfl rfl
set_option maxRecDepth 20000 in
theorem m_624 : (Jvm.Cond.instanceMethod ({ cls := "RangeExchange", name := "growth", desc := "(II)J" } : Jvm.MethodName)) ∈ gtb := gtb_m 624 rfl rfl
set_option maxRecDepth 20000 in
theorem m_625 : (Jvm.Cond.selects "RangeExchange" ({ cls := "RangeExchange", name := "growth", desc := "(II)J" } : Jvm.MethodName) ({ cls := "RangeExchange", name := "growth", desc := "(II)J" } : Jvm.MethodName)) ∈ gtb := gtb_m 625 rfl rfl
set_option maxRecDepth 20000 in
theorem m_626 : (Jvm.Cond.code ({ cls := "RangeExchange", name := "growth", desc := "(II)J" } : Jvm.MethodName) prog_1_method_13_code (3 : Nat) (Option.some Jvm.ClassFile.FieldType.long)) ∈ gtb := gtb_m 626 rfl rfl
set_option maxRecDepth 20000 in
theorem m_627 : (Jvm.Cond.methodLink "RangeExchangeLaw" (125 : Nat) ({ cls := "RangeExchangeLaw", name := "held", desc := "(LRangeExchange;I[J)I" } : Jvm.MethodName)) ∈ gtb := gtb_m 627 rfl rfl
set_option maxRecDepth 20000 in
theorem m_628 : (Jvm.Cond.static ({ cls := "RangeExchangeLaw", name := "held", desc := "(LRangeExchange;I[J)I" } : Jvm.MethodName)) ∈ gtb := gtb_m 628 rfl rfl
set_option maxRecDepth 20000 in
theorem m_629 : (Jvm.Cond.codeWith ({ cls := "RangeExchangeLaw", name := "held", desc := "(LRangeExchange;I[J)I" } : Jvm.MethodName) method_14_code (4 : Nat) (Option.some Jvm.ClassFile.FieldType.int) [((0 : Nat), (8 : Nat), (11 : Nat), (13 : Nat))]) ∈ gtb := gtb_m 629 rfl rfl
set_option maxRecDepth 20000 in
theorem m_630 : (Jvm.Cond.methodLink "RangeExchangeLaw" (57 : Nat) ({ cls := "RangeExchange", name := "held", desc := "(I)J" } : Jvm.MethodName)) ∈ gtb := gtb_m 630 rfl rfl
set_option maxRecDepth 20000 in
theorem m_631 : (Jvm.Cond.instanceMethod ({ cls := "RangeExchange", name := "held", desc := "(I)J" } : Jvm.MethodName)) ∈ gtb := gtb_m 631 rfl rfl
set_option maxRecDepth 20000 in
theorem m_632 : (Jvm.Cond.selects "RangeExchange" ({ cls := "RangeExchange", name := "held", desc := "(I)J" } : Jvm.MethodName) ({ cls := "RangeExchange", name := "held", desc := "(I)J" } : Jvm.MethodName)) ∈ gtb := gtb_m 632 rfl rfl
set_option maxRecDepth 20000 in
theorem m_633 : (Jvm.Cond.code ({ cls := "RangeExchange", name := "held", desc := "(I)J" } : Jvm.MethodName) prog_1_method_15_code (2 : Nat) (Option.some Jvm.ClassFile.FieldType.long)) ∈ gtb := gtb_m 633 rfl rfl
set_option maxRecDepth 20000 in
theorem m_634 : (Jvm.Cond.classLink "RangeExchangeLaw" (69 : Nat) "RangeExchangeModel") ∈ gtb := gtb_m 634 rfl rfl
set_option maxRecDepth 20000 in
theorem m_635 : (Jvm.Cond.instantiable "RangeExchangeModel" (24 : Nat)) ∈ gtb := gtb_m 635 rfl rfl
set_option maxRecDepth 20000 in
theorem m_636 : (Jvm.Cond.methodLink "RangeExchangeLaw" (71 : Nat) ({ cls := "RangeExchangeModel", name := "<init>", desc := "(II)V" } : Jvm.MethodName)) ∈ gtb := gtb_m 636 rfl rfl
set_option maxRecDepth 20000 in
theorem m_637 : (Jvm.Cond.instanceMethod ({ cls := "RangeExchangeModel", name := "<init>", desc := "(II)V" } : Jvm.MethodName)) ∈ gtb := gtb_m 637 rfl rfl
set_option maxRecDepth 20000 in
theorem m_638 : (Jvm.Cond.code ({ cls := "RangeExchangeModel", name := "<init>", desc := "(II)V" } : Jvm.MethodName) prog_9_method_1_code (4 : Nat) (Option.none : Option Jvm.ClassFile.FieldType)) ∈ gtb := gtb_m 638 rfl rfl
set_option maxRecDepth 20000 in
theorem m_639 : (Jvm.Cond.methodLink "RangeExchangeModel" (1 : Nat) ({ cls := "java/lang/Object", name := "<init>", desc := "()V" } : Jvm.MethodName)) ∈ gtb := gtb_m 639 rfl rfl
set_option maxRecDepth 20000 in
theorem m_640 : (Jvm.Cond.constantLong "RangeExchangeModel" (78 : Nat) (4294967296 : Int64)) ∈ gtb := gtb_m 640 rfl rfl
set_option maxRecDepth 20000 in
theorem m_641 : (Jvm.Cond.constantLong "RangeExchangeModel" (80 : Nat) (32 : Int64)) ∈ gtb := gtb_m 641 rfl rfl
set_option maxRecDepth 20000 in
theorem m_642 : (Jvm.Cond.constantLong "RangeExchangeModel" (82 : Nat) (33 : Int64)) ∈ gtb := gtb_m 642 rfl rfl
set_option maxRecDepth 20000 in
theorem m_643 : (Jvm.Cond.fieldLink "RangeExchangeModel" (84 : Nat) "RangeExchangeModel" "thrown" "I") ∈ gtb := gtb_m 643 rfl rfl
set_option maxRecDepth 20000 in
theorem m_644 : (Jvm.Cond.fieldLink "RangeExchangeModel" (7 : Nat) "RangeExchangeModel" "root" "[J") ∈ gtb := gtb_m 644 rfl rfl
set_option maxRecDepth 20000 in
theorem m_645 : (Jvm.Cond.fieldLink "RangeExchangeModel" (13 : Nat) "RangeExchangeModel" "balances" "[J") ∈ gtb := gtb_m 645 rfl rfl
set_option maxRecDepth 20000 in
theorem m_646 : (Jvm.Cond.fieldLink "RangeExchangeModel" (16 : Nat) "RangeExchangeModel" "given" "[J") ∈ gtb := gtb_m 646 rfl rfl
set_option maxRecDepth 20000 in
theorem m_647 : (Jvm.Cond.fieldLink "RangeExchangeModel" (19 : Nat) "RangeExchangeModel" "held" "[J") ∈ gtb := gtb_m 647 rfl rfl
set_option maxRecDepth 20000 in
theorem m_648 : (Jvm.Cond.fieldLink "RangeExchangeModel" (22 : Nat) "RangeExchangeModel" "fees" "[I") ∈ gtb := gtb_m 648 rfl rfl
set_option maxRecDepth 20000 in
theorem m_649 : (Jvm.Cond.fieldLink "RangeExchangeModel" (26 : Nat) "RangeExchangeModel" "prices" "[J") ∈ gtb := gtb_m 649 rfl rfl
set_option maxRecDepth 20000 in
theorem m_650 : (Jvm.Cond.fieldLink "RangeExchangeModel" (29 : Nat) "RangeExchangeModel" "ticks" "[I") ∈ gtb := gtb_m 650 rfl rfl
set_option maxRecDepth 20000 in
theorem m_651 : (Jvm.Cond.fieldLink "RangeExchangeModel" (32 : Nat) "RangeExchangeModel" "growths" "[J") ∈ gtb := gtb_m 651 rfl rfl
set_option maxRecDepth 20000 in
theorem m_652 : (Jvm.Cond.fieldLink "RangeExchangeModel" (35 : Nat) "RangeExchangeModel" "there" "[Z") ∈ gtb := gtb_m 652 rfl rfl
set_option maxRecDepth 20000 in
theorem m_653 : (Jvm.Cond.fieldLink "RangeExchangeModel" (39 : Nat) "RangeExchangeModel" "owners" "[I") ∈ gtb := gtb_m 653 rfl rfl
set_option maxRecDepth 20000 in
theorem m_654 : (Jvm.Cond.fieldLink "RangeExchangeModel" (42 : Nat) "RangeExchangeModel" "pools" "[I") ∈ gtb := gtb_m 654 rfl rfl
set_option maxRecDepth 20000 in
theorem m_655 : (Jvm.Cond.fieldLink "RangeExchangeModel" (45 : Nat) "RangeExchangeModel" "los" "[I") ∈ gtb := gtb_m 655 rfl rfl
set_option maxRecDepth 20000 in
theorem m_656 : (Jvm.Cond.fieldLink "RangeExchangeModel" (48 : Nat) "RangeExchangeModel" "his" "[I") ∈ gtb := gtb_m 656 rfl rfl
set_option maxRecDepth 20000 in
theorem m_657 : (Jvm.Cond.fieldLink "RangeExchangeModel" (51 : Nat) "RangeExchangeModel" "amounts" "[J") ∈ gtb := gtb_m 657 rfl rfl
set_option maxRecDepth 20000 in
theorem m_658 : (Jvm.Cond.fieldLink "RangeExchangeModel" (54 : Nat) "RangeExchangeModel" "fallen" "[J") ∈ gtb := gtb_m 658 rfl rfl
set_option maxRecDepth 20000 in
theorem m_659 : (Jvm.Cond.fieldLink "RangeExchangeModel" (57 : Nat) "RangeExchangeModel" "owed" "[J") ∈ gtb := gtb_m 659 rfl rfl
set_option maxRecDepth 20000 in
theorem m_660 : (Jvm.Cond.fieldLink "RangeExchangeModel" (60 : Nat) "RangeExchangeModel" "newPrice" "[J") ∈ gtb := gtb_m 660 rfl rfl
set_option maxRecDepth 20000 in
theorem m_661 : (Jvm.Cond.fieldLink "RangeExchangeModel" (63 : Nat) "RangeExchangeModel" "newTick" "[I") ∈ gtb := gtb_m 661 rfl rfl
set_option maxRecDepth 20000 in
theorem m_662 : (Jvm.Cond.fieldLink "RangeExchangeModel" (66 : Nat) "RangeExchangeModel" "newGrowth" "[J") ∈ gtb := gtb_m 662 rfl rfl
set_option maxRecDepth 20000 in
theorem m_663 : (Jvm.Cond.fieldLink "RangeExchangeModel" (69 : Nat) "RangeExchangeModel" "taken" "[J") ∈ gtb := gtb_m 663 rfl rfl
set_option maxRecDepth 20000 in
theorem m_664 : (Jvm.Cond.fieldLink "RangeExchangeModel" (72 : Nat) "RangeExchangeModel" "got" "[J") ∈ gtb := gtb_m 664 rfl rfl
set_option maxRecDepth 20000 in
theorem m_665 : (Jvm.Cond.fieldLink "RangeExchangeModel" (75 : Nat) "RangeExchangeModel" "rises" "[J") ∈ gtb := gtb_m 665 rfl rfl
set_option maxRecDepth 20000 in
theorem m_666 : (Jvm.Cond.fieldLink "RangeExchangeModel" (199 : Nat) "RangeExchangeModel" "latest" "J") ∈ gtb := gtb_m 666 rfl rfl
set_option maxRecDepth 20000 in
theorem m_667 : (Jvm.Cond.lays "RangeExchangeModel" "RangeExchangeModel" "thrown" "I") ∈ gtb := gtb_m 667 rfl rfl
set_option maxRecDepth 20000 in
theorem m_668 : (Jvm.Cond.soleField "RangeExchangeModel" "thrown") ∈ gtb := gtb_m 668 rfl rfl
set_option maxRecDepth 20000 in
theorem m_669 : (Jvm.Cond.laysFinal "RangeExchangeModel" "RangeExchangeModel" "root" "[J") ∈ gtb := gtb_m 669 rfl rfl
set_option maxRecDepth 20000 in
theorem m_670 : (Jvm.Cond.soleField "RangeExchangeModel" "root") ∈ gtb := gtb_m 670 rfl rfl
set_option maxRecDepth 20000 in
theorem m_671 : (Jvm.Cond.laysFinal "RangeExchangeModel" "RangeExchangeModel" "balances" "[J") ∈ gtb := gtb_m 671 rfl rfl
set_option maxRecDepth 20000 in
theorem m_672 : (Jvm.Cond.soleField "RangeExchangeModel" "balances") ∈ gtb := gtb_m 672 rfl rfl
set_option maxRecDepth 20000 in
theorem m_673 : (Jvm.Cond.laysFinal "RangeExchangeModel" "RangeExchangeModel" "given" "[J") ∈ gtb := gtb_m 673 rfl rfl
set_option maxRecDepth 20000 in
theorem m_674 : (Jvm.Cond.soleField "RangeExchangeModel" "given") ∈ gtb := gtb_m 674 rfl rfl
set_option maxRecDepth 20000 in
theorem m_675 : (Jvm.Cond.laysFinal "RangeExchangeModel" "RangeExchangeModel" "held" "[J") ∈ gtb := gtb_m 675 rfl rfl
set_option maxRecDepth 20000 in
theorem m_676 : (Jvm.Cond.soleField "RangeExchangeModel" "held") ∈ gtb := gtb_m 676 rfl rfl
set_option maxRecDepth 20000 in
theorem m_677 : (Jvm.Cond.laysFinal "RangeExchangeModel" "RangeExchangeModel" "fees" "[I") ∈ gtb := gtb_m 677 rfl rfl
set_option maxRecDepth 20000 in
theorem m_678 : (Jvm.Cond.soleField "RangeExchangeModel" "fees") ∈ gtb := gtb_m 678 rfl rfl
set_option maxRecDepth 20000 in
theorem m_679 : (Jvm.Cond.laysFinal "RangeExchangeModel" "RangeExchangeModel" "prices" "[J") ∈ gtb := gtb_m 679 rfl rfl
set_option maxRecDepth 20000 in
theorem m_680 : (Jvm.Cond.soleField "RangeExchangeModel" "prices") ∈ gtb := gtb_m 680 rfl rfl
set_option maxRecDepth 20000 in
theorem m_681 : (Jvm.Cond.laysFinal "RangeExchangeModel" "RangeExchangeModel" "ticks" "[I") ∈ gtb := gtb_m 681 rfl rfl
set_option maxRecDepth 20000 in
theorem m_682 : (Jvm.Cond.soleField "RangeExchangeModel" "ticks") ∈ gtb := gtb_m 682 rfl rfl
set_option maxRecDepth 20000 in
theorem m_683 : (Jvm.Cond.laysFinal "RangeExchangeModel" "RangeExchangeModel" "growths" "[J") ∈ gtb := gtb_m 683 rfl rfl
set_option maxRecDepth 20000 in
theorem m_684 : (Jvm.Cond.soleField "RangeExchangeModel" "growths") ∈ gtb := gtb_m 684 rfl rfl
set_option maxRecDepth 20000 in
theorem m_685 : (Jvm.Cond.laysFinal "RangeExchangeModel" "RangeExchangeModel" "there" "[Z") ∈ gtb := gtb_m 685 rfl rfl
set_option maxRecDepth 20000 in
theorem m_686 : (Jvm.Cond.soleField "RangeExchangeModel" "there") ∈ gtb := gtb_m 686 rfl rfl
set_option maxRecDepth 20000 in
theorem m_687 : (Jvm.Cond.laysFinal "RangeExchangeModel" "RangeExchangeModel" "owners" "[I") ∈ gtb := gtb_m 687 rfl rfl
set_option maxRecDepth 20000 in
theorem m_688 : (Jvm.Cond.soleField "RangeExchangeModel" "owners") ∈ gtb := gtb_m 688 rfl rfl
set_option maxRecDepth 20000 in
theorem m_689 : (Jvm.Cond.laysFinal "RangeExchangeModel" "RangeExchangeModel" "pools" "[I") ∈ gtb := gtb_m 689 rfl rfl
set_option maxRecDepth 20000 in
theorem m_690 : (Jvm.Cond.soleField "RangeExchangeModel" "pools") ∈ gtb := gtb_m 690 rfl rfl
set_option maxRecDepth 20000 in
theorem m_691 : (Jvm.Cond.laysFinal "RangeExchangeModel" "RangeExchangeModel" "los" "[I") ∈ gtb := gtb_m 691 rfl rfl
set_option maxRecDepth 20000 in
theorem m_692 : (Jvm.Cond.soleField "RangeExchangeModel" "los") ∈ gtb := gtb_m 692 rfl rfl
set_option maxRecDepth 20000 in
theorem m_693 : (Jvm.Cond.laysFinal "RangeExchangeModel" "RangeExchangeModel" "his" "[I") ∈ gtb := gtb_m 693 rfl rfl
set_option maxRecDepth 20000 in
theorem m_694 : (Jvm.Cond.soleField "RangeExchangeModel" "his") ∈ gtb := gtb_m 694 rfl rfl
set_option maxRecDepth 20000 in
theorem m_695 : (Jvm.Cond.laysFinal "RangeExchangeModel" "RangeExchangeModel" "amounts" "[J") ∈ gtb := gtb_m 695 rfl rfl
set_option maxRecDepth 20000 in
theorem m_696 : (Jvm.Cond.soleField "RangeExchangeModel" "amounts") ∈ gtb := gtb_m 696 rfl rfl
set_option maxRecDepth 20000 in
theorem m_697 : (Jvm.Cond.laysFinal "RangeExchangeModel" "RangeExchangeModel" "fallen" "[J") ∈ gtb := gtb_m 697 rfl rfl
set_option maxRecDepth 20000 in
theorem m_698 : (Jvm.Cond.soleField "RangeExchangeModel" "fallen") ∈ gtb := gtb_m 698 rfl rfl
set_option maxRecDepth 20000 in
theorem m_699 : (Jvm.Cond.laysFinal "RangeExchangeModel" "RangeExchangeModel" "owed" "[J") ∈ gtb := gtb_m 699 rfl rfl
set_option maxRecDepth 20000 in
theorem m_700 : (Jvm.Cond.soleField "RangeExchangeModel" "owed") ∈ gtb := gtb_m 700 rfl rfl
set_option maxRecDepth 20000 in
theorem m_701 : (Jvm.Cond.laysFinal "RangeExchangeModel" "RangeExchangeModel" "newPrice" "[J") ∈ gtb := gtb_m 701 rfl rfl
set_option maxRecDepth 20000 in
theorem m_702 : (Jvm.Cond.soleField "RangeExchangeModel" "newPrice") ∈ gtb := gtb_m 702 rfl rfl
set_option maxRecDepth 20000 in
theorem m_703 : (Jvm.Cond.laysFinal "RangeExchangeModel" "RangeExchangeModel" "newTick" "[I") ∈ gtb := gtb_m 703 rfl rfl
set_option maxRecDepth 20000 in
theorem m_704 : (Jvm.Cond.soleField "RangeExchangeModel" "newTick") ∈ gtb := gtb_m 704 rfl rfl
set_option maxRecDepth 20000 in
theorem m_705 : (Jvm.Cond.laysFinal "RangeExchangeModel" "RangeExchangeModel" "newGrowth" "[J") ∈ gtb := gtb_m 705 rfl rfl
set_option maxRecDepth 20000 in
theorem m_706 : (Jvm.Cond.soleField "RangeExchangeModel" "newGrowth") ∈ gtb := gtb_m 706 rfl rfl
set_option maxRecDepth 20000 in
theorem m_707 : (Jvm.Cond.laysFinal "RangeExchangeModel" "RangeExchangeModel" "taken" "[J") ∈ gtb := gtb_m 707 rfl rfl
set_option maxRecDepth 20000 in
theorem m_708 : (Jvm.Cond.soleField "RangeExchangeModel" "taken") ∈ gtb := gtb_m 708 rfl rfl
set_option maxRecDepth 20000 in
theorem m_709 : (Jvm.Cond.laysFinal "RangeExchangeModel" "RangeExchangeModel" "got" "[J") ∈ gtb := gtb_m 709 rfl rfl
set_option maxRecDepth 20000 in
theorem m_710 : (Jvm.Cond.soleField "RangeExchangeModel" "got") ∈ gtb := gtb_m 710 rfl rfl
set_option maxRecDepth 20000 in
theorem m_711 : (Jvm.Cond.laysFinal "RangeExchangeModel" "RangeExchangeModel" "rises" "[J") ∈ gtb := gtb_m 711 rfl rfl
set_option maxRecDepth 20000 in
theorem m_712 : (Jvm.Cond.soleField "RangeExchangeModel" "rises") ∈ gtb := gtb_m 712 rfl rfl
set_option maxRecDepth 20000 in
theorem m_713 : (Jvm.Cond.lays "RangeExchangeModel" "RangeExchangeModel" "latest" "J") ∈ gtb := gtb_m 713 rfl rfl
set_option maxRecDepth 20000 in
theorem m_714 : (Jvm.Cond.soleField "RangeExchangeModel" "latest") ∈ gtb := gtb_m 714 rfl rfl
set_option maxRecDepth 20000 in
theorem m_715 : (Jvm.Cond.superclass "RangeExchangeModel" "java/lang/Object") ∈ gtb := gtb_m 715 rfl rfl
set_option maxRecDepth 20000 in
theorem m_716 : (Jvm.Cond.arrayClass Jvm.ClassFile.FieldType.boolean) ∈ gtb := gtb_m 716 rfl rfl
set_option maxRecDepth 20000 in
theorem m_717 : (Jvm.Cond.methodLink "RangeExchangeLaw" (76 : Nat) ({ cls := "RangeExchangeModel", name := "thrown", desc := "()I" } : Jvm.MethodName)) ∈ gtb := gtb_m 717 rfl rfl
set_option maxRecDepth 20000 in
theorem m_718 : (Jvm.Cond.instanceMethod ({ cls := "RangeExchangeModel", name := "thrown", desc := "()I" } : Jvm.MethodName)) ∈ gtb := gtb_m 718 rfl rfl
set_option maxRecDepth 20000 in
theorem m_719 : (Jvm.Cond.selects "RangeExchangeModel" ({ cls := "RangeExchangeModel", name := "thrown", desc := "()I" } : Jvm.MethodName) ({ cls := "RangeExchangeModel", name := "thrown", desc := "()I" } : Jvm.MethodName)) ∈ gtb := gtb_m 719 rfl rfl
set_option maxRecDepth 20000 in
theorem m_720 : (Jvm.Cond.code ({ cls := "RangeExchangeModel", name := "thrown", desc := "()I" } : Jvm.MethodName) prog_9_method_2_code (1 : Nat) (Option.some Jvm.ClassFile.FieldType.int)) ∈ gtb := gtb_m 720 rfl rfl
set_option maxRecDepth 20000 in
theorem m_721 : (Jvm.Cond.methodLink "RangeExchangeLaw" (75 : Nat) ({ cls := "RangeExchangeModel", name := "give", desc := "(III)J" } : Jvm.MethodName)) ∈ gtb := gtb_m 721 rfl rfl
set_option maxRecDepth 20000 in
theorem m_722 : (Jvm.Cond.instanceMethod ({ cls := "RangeExchangeModel", name := "give", desc := "(III)J" } : Jvm.MethodName)) ∈ gtb := gtb_m 722 rfl rfl
set_option maxRecDepth 20000 in
theorem m_723 : (Jvm.Cond.selects "RangeExchangeModel" ({ cls := "RangeExchangeModel", name := "give", desc := "(III)J" } : Jvm.MethodName) ({ cls := "RangeExchangeModel", name := "give", desc := "(III)J" } : Jvm.MethodName)) ∈ gtb := gtb_m 723 rfl rfl
set_option maxRecDepth 20000 in
theorem m_724 : (Jvm.Cond.code ({ cls := "RangeExchangeModel", name := "give", desc := "(III)J" } : Jvm.MethodName) prog_9_method_17_code (4 : Nat) (Option.some Jvm.ClassFile.FieldType.long)) ∈ gtb := gtb_m 724 rfl rfl
set_option maxRecDepth 20000 in
theorem m_725 : (Jvm.Cond.methodLink "RangeExchangeModel" (110 : Nat) ({ cls := "RangeExchangeModel", name := "isOwner", desc := "(I)Z" } : Jvm.MethodName)) ∈ gtb := gtb_m 725 rfl rfl
set_option maxRecDepth 20000 in
theorem m_726 : (Jvm.Cond.static ({ cls := "RangeExchangeModel", name := "isOwner", desc := "(I)Z" } : Jvm.MethodName)) ∈ gtb := gtb_m 726 rfl rfl
set_option maxRecDepth 20000 in
theorem m_727 : (Jvm.Cond.code ({ cls := "RangeExchangeModel", name := "isOwner", desc := "(I)Z" } : Jvm.MethodName) prog_9_method_11_code (1 : Nat) (Option.some Jvm.ClassFile.FieldType.boolean)) ∈ gtb := gtb_m 727 rfl rfl
set_option maxRecDepth 20000 in
theorem m_728 : (Jvm.Cond.methodLink "RangeExchangeModel" (120 : Nat) ({ cls := "RangeExchangeModel", name := "isToken", desc := "(I)Z" } : Jvm.MethodName)) ∈ gtb := gtb_m 728 rfl rfl
set_option maxRecDepth 20000 in
theorem m_729 : (Jvm.Cond.static ({ cls := "RangeExchangeModel", name := "isToken", desc := "(I)Z" } : Jvm.MethodName)) ∈ gtb := gtb_m 729 rfl rfl
set_option maxRecDepth 20000 in
theorem m_730 : (Jvm.Cond.code ({ cls := "RangeExchangeModel", name := "isToken", desc := "(I)Z" } : Jvm.MethodName) prog_9_method_12_code (1 : Nat) (Option.some Jvm.ClassFile.FieldType.boolean)) ∈ gtb := gtb_m 730 rfl rfl
set_option maxRecDepth 20000 in
theorem m_731 : (Jvm.Cond.constantLong "RangeExchangeModel" (123 : Nat) (100000000 : Int64)) ∈ gtb := gtb_m 731 rfl rfl
set_option maxRecDepth 20000 in
theorem m_732 : (Jvm.Cond.methodLink "RangeExchangeLaw" (83 : Nat) ({ cls := "RangeExchangeModel", name := "balance", desc := "(II)J" } : Jvm.MethodName)) ∈ gtb := gtb_m 732 rfl rfl
set_option maxRecDepth 20000 in
theorem m_733 : (Jvm.Cond.instanceMethod ({ cls := "RangeExchangeModel", name := "balance", desc := "(II)J" } : Jvm.MethodName)) ∈ gtb := gtb_m 733 rfl rfl
set_option maxRecDepth 20000 in
theorem m_734 : (Jvm.Cond.selects "RangeExchangeModel" ({ cls := "RangeExchangeModel", name := "balance", desc := "(II)J" } : Jvm.MethodName) ({ cls := "RangeExchangeModel", name := "balance", desc := "(II)J" } : Jvm.MethodName)) ∈ gtb := gtb_m 734 rfl rfl
set_option maxRecDepth 20000 in
theorem m_735 : (Jvm.Cond.code ({ cls := "RangeExchangeModel", name := "balance", desc := "(II)J" } : Jvm.MethodName) prog_9_method_18_code (3 : Nat) (Option.some Jvm.ClassFile.FieldType.long)) ∈ gtb := gtb_m 735 rfl rfl
set_option maxRecDepth 20000 in
theorem m_736 : (Jvm.Cond.methodLink "RangeExchangeLaw" (87 : Nat) ({ cls := "RangeExchangeModel", name := "mint", desc := "(IIIII)I" } : Jvm.MethodName)) ∈ gtb := gtb_m 736 rfl rfl
set_option maxRecDepth 20000 in
theorem m_737 : (Jvm.Cond.instanceMethod ({ cls := "RangeExchangeModel", name := "mint", desc := "(IIIII)I" } : Jvm.MethodName)) ∈ gtb := gtb_m 737 rfl rfl
set_option maxRecDepth 20000 in
theorem m_738 : (Jvm.Cond.selects "RangeExchangeModel" ({ cls := "RangeExchangeModel", name := "mint", desc := "(IIIII)I" } : Jvm.MethodName) ({ cls := "RangeExchangeModel", name := "mint", desc := "(IIIII)I" } : Jvm.MethodName)) ∈ gtb := gtb_m 738 rfl rfl
set_option maxRecDepth 20000 in
theorem m_739 : (Jvm.Cond.code ({ cls := "RangeExchangeModel", name := "mint", desc := "(IIIII)I" } : Jvm.MethodName) prog_9_method_23_code (15 : Nat) (Option.some Jvm.ClassFile.FieldType.int)) ∈ gtb := gtb_m 739 rfl rfl
set_option maxRecDepth 20000 in
theorem m_740 : (Jvm.Cond.methodLink "RangeExchangeModel" (127 : Nat) ({ cls := "RangeExchangeModel", name := "all", desc := "(IIII)Z" } : Jvm.MethodName)) ∈ gtb := gtb_m 740 rfl rfl
set_option maxRecDepth 20000 in
theorem m_741 : (Jvm.Cond.static ({ cls := "RangeExchangeModel", name := "all", desc := "(IIII)Z" } : Jvm.MethodName)) ∈ gtb := gtb_m 741 rfl rfl
set_option maxRecDepth 20000 in
theorem m_742 : (Jvm.Cond.code ({ cls := "RangeExchangeModel", name := "all", desc := "(IIII)Z" } : Jvm.MethodName) prog_9_method_15_code (4 : Nat) (Option.some Jvm.ClassFile.FieldType.boolean)) ∈ gtb := gtb_m 742 rfl rfl
set_option maxRecDepth 20000 in
theorem m_743 : (Jvm.Cond.methodLink "RangeExchangeModel" (114 : Nat) ({ cls := "RangeExchangeModel", name := "isPool", desc := "(I)Z" } : Jvm.MethodName)) ∈ gtb := gtb_m 743 rfl rfl
set_option maxRecDepth 20000 in
theorem m_744 : (Jvm.Cond.static ({ cls := "RangeExchangeModel", name := "isPool", desc := "(I)Z" } : Jvm.MethodName)) ∈ gtb := gtb_m 744 rfl rfl
set_option maxRecDepth 20000 in
theorem m_745 : (Jvm.Cond.code ({ cls := "RangeExchangeModel", name := "isPool", desc := "(I)Z" } : Jvm.MethodName) prog_9_method_13_code (1 : Nat) (Option.some Jvm.ClassFile.FieldType.boolean)) ∈ gtb := gtb_m 745 rfl rfl
set_option maxRecDepth 20000 in
theorem m_746 : (Jvm.Cond.methodLink "RangeExchangeModel" (117 : Nat) ({ cls := "RangeExchangeModel", name := "isTick", desc := "(I)Z" } : Jvm.MethodName)) ∈ gtb := gtb_m 746 rfl rfl
set_option maxRecDepth 20000 in
theorem m_747 : (Jvm.Cond.static ({ cls := "RangeExchangeModel", name := "isTick", desc := "(I)Z" } : Jvm.MethodName)) ∈ gtb := gtb_m 747 rfl rfl
set_option maxRecDepth 20000 in
theorem m_748 : (Jvm.Cond.code ({ cls := "RangeExchangeModel", name := "isTick", desc := "(I)Z" } : Jvm.MethodName) prog_9_method_14_code (1 : Nat) (Option.some Jvm.ClassFile.FieldType.boolean)) ∈ gtb := gtb_m 748 rfl rfl
set_option maxRecDepth 20000 in
theorem m_749 : (Jvm.Cond.methodLink "RangeExchangeModel" (131 : Nat) ({ cls := "RangeExchangeModel", name := "find", desc := "(IIII)I" } : Jvm.MethodName)) ∈ gtb := gtb_m 749 rfl rfl
set_option maxRecDepth 20000 in
theorem m_751 : (Jvm.Cond.instanceMethod ({ cls := "RangeExchangeModel", name := "find", desc := "(IIII)I" } : Jvm.MethodName)) ∈ gtb := gtb_m 751 rfl rfl
set_option maxRecDepth 20000 in
theorem m_752 : (Jvm.Cond.code ({ cls := "RangeExchangeModel", name := "find", desc := "(IIII)I" } : Jvm.MethodName) prog_9_method_19_code (6 : Nat) (Option.some Jvm.ClassFile.FieldType.int)) ∈ gtb := gtb_m 752 rfl rfl
set_option maxRecDepth 20000 in
theorem m_753 : (Jvm.Cond.constant "RangeExchangeModel" (135 : Nat) (50000000 : Int32)) ∈ gtb := gtb_m 753 rfl rfl
set_option maxRecDepth 20000 in
theorem m_754 : (Jvm.Cond.constantLong "RangeExchangeModel" (136 : Nat) (50000000 : Int64)) ∈ gtb := gtb_m 754 rfl rfl
set_option maxRecDepth 20000 in
theorem m_755 : (Jvm.Cond.methodLink "RangeExchangeModel" (138 : Nat) ({ cls := "RangeExchangeModel", name := "worthNear", desc := "(IIIJZ)J" } : Jvm.MethodName)) ∈ gtb := gtb_m 755 rfl rfl
set_option maxRecDepth 20000 in
theorem m_757 : (Jvm.Cond.instanceMethod ({ cls := "RangeExchangeModel", name := "worthNear", desc := "(IIIJZ)J" } : Jvm.MethodName)) ∈ gtb := gtb_m 757 rfl rfl
set_option maxRecDepth 20000 in
theorem m_758 : (Jvm.Cond.code ({ cls := "RangeExchangeModel", name := "worthNear", desc := "(IIIJZ)J" } : Jvm.MethodName) prog_9_method_9_code (7 : Nat) (Option.some Jvm.ClassFile.FieldType.long)) ∈ gtb := gtb_m 758 rfl rfl
set_option maxRecDepth 20000 in
theorem m_759 : (Jvm.Cond.methodLink "RangeExchangeModel" (100 : Nat) ({ cls := "RangeExchangeModel", name := "rootOf", desc := "(I)J" } : Jvm.MethodName)) ∈ gtb := gtb_m 759 rfl rfl
set_option maxRecDepth 20000 in
theorem m_761 : (Jvm.Cond.instanceMethod ({ cls := "RangeExchangeModel", name := "rootOf", desc := "(I)J" } : Jvm.MethodName)) ∈ gtb := gtb_m 761 rfl rfl
set_option maxRecDepth 20000 in
theorem m_762 : (Jvm.Cond.code ({ cls := "RangeExchangeModel", name := "rootOf", desc := "(I)J" } : Jvm.MethodName) prog_9_method_8_code (2 : Nat) (Option.some Jvm.ClassFile.FieldType.long)) ∈ gtb := gtb_m 762 rfl rfl
set_option maxRecDepth 20000 in
theorem m_763 : (Jvm.Cond.methodLink "RangeExchangeModel" (104 : Nat) ({ cls := "RangeExchangeModel", name := "near", desc := "(JJJZ)J" } : Jvm.MethodName)) ∈ gtb := gtb_m 763 rfl rfl
set_option maxRecDepth 20000 in
theorem m_764 : (Jvm.Cond.static ({ cls := "RangeExchangeModel", name := "near", desc := "(JJJZ)J" } : Jvm.MethodName)) ∈ gtb := gtb_m 764 rfl rfl
set_option maxRecDepth 20000 in
theorem m_765 : (Jvm.Cond.code ({ cls := "RangeExchangeModel", name := "near", desc := "(JJJZ)J" } : Jvm.MethodName) prog_9_method_6_code (9 : Nat) (Option.some Jvm.ClassFile.FieldType.long)) ∈ gtb := gtb_m 765 rfl rfl
set_option maxRecDepth 20000 in
theorem m_766 : (Jvm.Cond.methodLink "RangeExchangeModel" (96 : Nat) ({ cls := "RangeExchangeModel", name := "part", desc := "(JJJZ)J" } : Jvm.MethodName)) ∈ gtb := gtb_m 766 rfl rfl
set_option maxRecDepth 20000 in
theorem m_767 : (Jvm.Cond.static ({ cls := "RangeExchangeModel", name := "part", desc := "(JJJZ)J" } : Jvm.MethodName)) ∈ gtb := gtb_m 767 rfl rfl
set_option maxRecDepth 20000 in
theorem m_768 : (Jvm.Cond.code ({ cls := "RangeExchangeModel", name := "part", desc := "(JJJZ)J" } : Jvm.MethodName) prog_9_method_4_code (17 : Nat) (Option.some Jvm.ClassFile.FieldType.long)) ∈ gtb := gtb_m 768 rfl rfl
set_option maxRecDepth 20000 in
theorem m_769 : (Jvm.Cond.constantLong "RangeExchangeModel" (88 : Nat) (131071 : Int64)) ∈ gtb := gtb_m 769 rfl rfl
set_option maxRecDepth 20000 in
theorem m_770 : (Jvm.Cond.methodLink "RangeExchangeModel" (90 : Nat) ({ cls := "RangeExchangeModel", name := "quotient", desc := "(JJZ)J" } : Jvm.MethodName)) ∈ gtb := gtb_m 770 rfl rfl
set_option maxRecDepth 20000 in
theorem m_771 : (Jvm.Cond.static ({ cls := "RangeExchangeModel", name := "quotient", desc := "(JJZ)J" } : Jvm.MethodName)) ∈ gtb := gtb_m 771 rfl rfl
set_option maxRecDepth 20000 in
theorem m_772 : (Jvm.Cond.code ({ cls := "RangeExchangeModel", name := "quotient", desc := "(JJZ)J" } : Jvm.MethodName) prog_9_method_3_code (5 : Nat) (Option.some Jvm.ClassFile.FieldType.long)) ∈ gtb := gtb_m 772 rfl rfl
set_option maxRecDepth 20000 in
theorem m_773 : (Jvm.Cond.methodLink "RangeExchangeModel" (142 : Nat) ({ cls := "RangeExchangeModel", name := "worthFar", desc := "(IIIJZ)J" } : Jvm.MethodName)) ∈ gtb := gtb_m 773 rfl rfl
set_option maxRecDepth 20000 in
theorem m_775 : (Jvm.Cond.instanceMethod ({ cls := "RangeExchangeModel", name := "worthFar", desc := "(IIIJZ)J" } : Jvm.MethodName)) ∈ gtb := gtb_m 775 rfl rfl
set_option maxRecDepth 20000 in
theorem m_776 : (Jvm.Cond.code ({ cls := "RangeExchangeModel", name := "worthFar", desc := "(IIIJZ)J" } : Jvm.MethodName) prog_9_method_10_code (7 : Nat) (Option.some Jvm.ClassFile.FieldType.long)) ∈ gtb := gtb_m 776 rfl rfl
set_option maxRecDepth 20000 in
theorem m_777 : (Jvm.Cond.methodLink "RangeExchangeModel" (107 : Nat) ({ cls := "RangeExchangeModel", name := "far", desc := "(JJJZ)J" } : Jvm.MethodName)) ∈ gtb := gtb_m 777 rfl rfl
set_option maxRecDepth 20000 in
theorem m_778 : (Jvm.Cond.static ({ cls := "RangeExchangeModel", name := "far", desc := "(JJJZ)J" } : Jvm.MethodName)) ∈ gtb := gtb_m 778 rfl rfl
set_option maxRecDepth 20000 in
theorem m_779 : (Jvm.Cond.code ({ cls := "RangeExchangeModel", name := "far", desc := "(JJJZ)J" } : Jvm.MethodName) prog_9_method_7_code (7 : Nat) (Option.some Jvm.ClassFile.FieldType.long)) ∈ gtb := gtb_m 779 rfl rfl
set_option maxRecDepth 20000 in
theorem m_780 : (Jvm.Cond.methodLink "RangeExchangeModel" (145 : Nat) ({ cls := "RangeExchangeModel", name := "free", desc := "()I" } : Jvm.MethodName)) ∈ gtb := gtb_m 780 rfl rfl
set_option maxRecDepth 20000 in
theorem m_782 : (Jvm.Cond.instanceMethod ({ cls := "RangeExchangeModel", name := "free", desc := "()I" } : Jvm.MethodName)) ∈ gtb := gtb_m 782 rfl rfl
set_option maxRecDepth 20000 in
theorem m_783 : (Jvm.Cond.code ({ cls := "RangeExchangeModel", name := "free", desc := "()I" } : Jvm.MethodName) prog_9_method_20_code (2 : Nat) (Option.some Jvm.ClassFile.FieldType.int)) ∈ gtb := gtb_m 783 rfl rfl
set_option maxRecDepth 20000 in
theorem m_784 : (Jvm.Cond.methodLink "RangeExchangeModel" (149 : Nat) ({ cls := "RangeExchangeModel", name := "settle", desc := "(I)V" } : Jvm.MethodName)) ∈ gtb := gtb_m 784 rfl rfl
set_option maxRecDepth 20000 in
theorem m_786 : (Jvm.Cond.instanceMethod ({ cls := "RangeExchangeModel", name := "settle", desc := "(I)V" } : Jvm.MethodName)) ∈ gtb := gtb_m 786 rfl rfl
set_option maxRecDepth 20000 in
theorem m_787 : (Jvm.Cond.code ({ cls := "RangeExchangeModel", name := "settle", desc := "(I)V" } : Jvm.MethodName) prog_9_method_21_code (7 : Nat) (Option.none : Option Jvm.ClassFile.FieldType)) ∈ gtb := gtb_m 787 rfl rfl
set_option maxRecDepth 20000 in
theorem m_788 : (Jvm.Cond.constantLong "RangeExchangeModel" (125 : Nat) (4294967295 : Int64)) ∈ gtb := gtb_m 788 rfl rfl
set_option maxRecDepth 20000 in
theorem m_789 : (Jvm.Cond.methodLink "RangeExchangeModel" (153 : Nat) ({ cls := "RangeExchangeModel", name := "pay", desc := "(IIJ)V" } : Jvm.MethodName)) ∈ gtb := gtb_m 789 rfl rfl
set_option maxRecDepth 20000 in
theorem m_791 : (Jvm.Cond.instanceMethod ({ cls := "RangeExchangeModel", name := "pay", desc := "(IIJ)V" } : Jvm.MethodName)) ∈ gtb := gtb_m 791 rfl rfl
set_option maxRecDepth 20000 in
theorem m_792 : (Jvm.Cond.code ({ cls := "RangeExchangeModel", name := "pay", desc := "(IIJ)V" } : Jvm.MethodName) prog_9_method_16_code (5 : Nat) (Option.none : Option Jvm.ClassFile.FieldType)) ∈ gtb := gtb_m 792 rfl rfl
set_option maxRecDepth 20000 in
theorem m_793 : (Jvm.Cond.methodLink "RangeExchangeLaw" (90 : Nat) ({ cls := "RangeExchangeModel", name := "burn", desc := "(IIIII)I" } : Jvm.MethodName)) ∈ gtb := gtb_m 793 rfl rfl
set_option maxRecDepth 20000 in
theorem m_794 : (Jvm.Cond.instanceMethod ({ cls := "RangeExchangeModel", name := "burn", desc := "(IIIII)I" } : Jvm.MethodName)) ∈ gtb := gtb_m 794 rfl rfl
set_option maxRecDepth 20000 in
theorem m_795 : (Jvm.Cond.selects "RangeExchangeModel" ({ cls := "RangeExchangeModel", name := "burn", desc := "(IIIII)I" } : Jvm.MethodName) ({ cls := "RangeExchangeModel", name := "burn", desc := "(IIIII)I" } : Jvm.MethodName)) ∈ gtb := gtb_m 795 rfl rfl
set_option maxRecDepth 20000 in
theorem m_796 : (Jvm.Cond.code ({ cls := "RangeExchangeModel", name := "burn", desc := "(IIIII)I" } : Jvm.MethodName) prog_9_method_24_code (7 : Nat) (Option.some Jvm.ClassFile.FieldType.int)) ∈ gtb := gtb_m 796 rfl rfl
set_option maxRecDepth 20000 in
theorem m_797 : (Jvm.Cond.methodLink "RangeExchangeModel" (157 : Nat) ({ cls := "RangeExchangeModel", name := "sweep", desc := "(I)V" } : Jvm.MethodName)) ∈ gtb := gtb_m 797 rfl rfl
set_option maxRecDepth 20000 in
theorem m_799 : (Jvm.Cond.instanceMethod ({ cls := "RangeExchangeModel", name := "sweep", desc := "(I)V" } : Jvm.MethodName)) ∈ gtb := gtb_m 799 rfl rfl
set_option maxRecDepth 20000 in
theorem m_800 : (Jvm.Cond.code ({ cls := "RangeExchangeModel", name := "sweep", desc := "(I)V" } : Jvm.MethodName) prog_9_method_22_code (2 : Nat) (Option.none : Option Jvm.ClassFile.FieldType)) ∈ gtb := gtb_m 800 rfl rfl
set_option maxRecDepth 20000 in
theorem m_801 : (Jvm.Cond.methodLink "RangeExchangeLaw" (94 : Nat) ({ cls := "RangeExchangeModel", name := "collect", desc := "(IIII)J" } : Jvm.MethodName)) ∈ gtb := gtb_m 801 rfl rfl
set_option maxRecDepth 20000 in
theorem m_802 : (Jvm.Cond.instanceMethod ({ cls := "RangeExchangeModel", name := "collect", desc := "(IIII)J" } : Jvm.MethodName)) ∈ gtb := gtb_m 802 rfl rfl
set_option maxRecDepth 20000 in
theorem m_803 : (Jvm.Cond.selects "RangeExchangeModel" ({ cls := "RangeExchangeModel", name := "collect", desc := "(IIII)J" } : Jvm.MethodName) ({ cls := "RangeExchangeModel", name := "collect", desc := "(IIII)J" } : Jvm.MethodName)) ∈ gtb := gtb_m 803 rfl rfl
set_option maxRecDepth 20000 in
theorem m_804 : (Jvm.Cond.code ({ cls := "RangeExchangeModel", name := "collect", desc := "(IIII)J" } : Jvm.MethodName) prog_9_method_25_code (10 : Nat) (Option.some Jvm.ClassFile.FieldType.long)) ∈ gtb := gtb_m 804 rfl rfl
set_option maxRecDepth 20000 in
theorem m_805 : (Jvm.Cond.methodLink "RangeExchangeLaw" (98 : Nat) ({ cls := "RangeExchangeModel", name := "swap", desc := "(IIZII)J" } : Jvm.MethodName)) ∈ gtb := gtb_m 805 rfl rfl
set_option maxRecDepth 20000 in
theorem m_806 : (Jvm.Cond.instanceMethod ({ cls := "RangeExchangeModel", name := "swap", desc := "(IIZII)J" } : Jvm.MethodName)) ∈ gtb := gtb_m 806 rfl rfl
set_option maxRecDepth 20000 in
theorem m_807 : (Jvm.Cond.selects "RangeExchangeModel" ({ cls := "RangeExchangeModel", name := "swap", desc := "(IIZII)J" } : Jvm.MethodName) ({ cls := "RangeExchangeModel", name := "swap", desc := "(IIZII)J" } : Jvm.MethodName)) ∈ gtb := gtb_m 807 rfl rfl
set_option maxRecDepth 20000 in
theorem m_808 : (Jvm.Cond.code ({ cls := "RangeExchangeModel", name := "swap", desc := "(IIZII)J" } : Jvm.MethodName) prog_9_method_34_code (10 : Nat) (Option.some Jvm.ClassFile.FieldType.long)) ∈ gtb := gtb_m 808 rfl rfl
set_option maxRecDepth 20000 in
theorem m_809 : (Jvm.Cond.constant "RangeExchangeModel" (189 : Nat) (-100000000 : Int32)) ∈ gtb := gtb_m 809 rfl rfl
set_option maxRecDepth 20000 in
theorem m_810 : (Jvm.Cond.constant "RangeExchangeModel" (190 : Nat) (100000000 : Int32)) ∈ gtb := gtb_m 810 rfl rfl
set_option maxRecDepth 20000 in
theorem m_811 : (Jvm.Cond.methodLink "RangeExchangeModel" (191 : Nat) ({ cls := "RangeExchangeModel", name := "work", desc := "(IZZJJ)V" } : Jvm.MethodName)) ∈ gtb := gtb_m 811 rfl rfl
set_option maxRecDepth 20000 in
theorem m_813 : (Jvm.Cond.instanceMethod ({ cls := "RangeExchangeModel", name := "work", desc := "(IZZJJ)V" } : Jvm.MethodName)) ∈ gtb := gtb_m 813 rfl rfl
set_option maxRecDepth 20000 in
theorem m_814 : (Jvm.Cond.code ({ cls := "RangeExchangeModel", name := "work", desc := "(IZZJJ)V" } : Jvm.MethodName) prog_9_method_32_code (10 : Nat) (Option.none : Option Jvm.ClassFile.FieldType)) ∈ gtb := gtb_m 814 rfl rfl
set_option maxRecDepth 20000 in
theorem m_815 : (Jvm.Cond.methodLink "RangeExchangeModel" (185 : Nat) ({ cls := "RangeExchangeModel", name := "step", desc := "(IZZJJ)J" } : Jvm.MethodName)) ∈ gtb := gtb_m 815 rfl rfl
set_option maxRecDepth 20000 in
theorem m_817 : (Jvm.Cond.instanceMethod ({ cls := "RangeExchangeModel", name := "step", desc := "(IZZJJ)J" } : Jvm.MethodName)) ∈ gtb := gtb_m 817 rfl rfl
set_option maxRecDepth 20000 in
theorem m_818 : (Jvm.Cond.code ({ cls := "RangeExchangeModel", name := "step", desc := "(IZZJJ)J" } : Jvm.MethodName) prog_9_method_31_code (36 : Nat) (Option.some Jvm.ClassFile.FieldType.long)) ∈ gtb := gtb_m 818 rfl rfl
set_option maxRecDepth 20000 in
theorem m_819 : (Jvm.Cond.methodLink "RangeExchangeModel" (171 : Nat) ({ cls := "RangeExchangeModel", name := "nextTick", desc := "(IZ)I" } : Jvm.MethodName)) ∈ gtb := gtb_m 819 rfl rfl
set_option maxRecDepth 20000 in
theorem m_821 : (Jvm.Cond.instanceMethod ({ cls := "RangeExchangeModel", name := "nextTick", desc := "(IZ)I" } : Jvm.MethodName)) ∈ gtb := gtb_m 821 rfl rfl
set_option maxRecDepth 20000 in
theorem m_822 : (Jvm.Cond.code ({ cls := "RangeExchangeModel", name := "nextTick", desc := "(IZ)I" } : Jvm.MethodName) prog_9_method_29_code (5 : Nat) (Option.some Jvm.ClassFile.FieldType.int)) ∈ gtb := gtb_m 822 rfl rfl
set_option maxRecDepth 20000 in
theorem m_823 : (Jvm.Cond.methodLink "RangeExchangeModel" (164 : Nat) ({ cls := "RangeExchangeModel", name := "isSet", desc := "(II)Z" } : Jvm.MethodName)) ∈ gtb := gtb_m 823 rfl rfl
set_option maxRecDepth 20000 in
theorem m_825 : (Jvm.Cond.instanceMethod ({ cls := "RangeExchangeModel", name := "isSet", desc := "(II)Z" } : Jvm.MethodName)) ∈ gtb := gtb_m 825 rfl rfl
set_option maxRecDepth 20000 in
theorem m_826 : (Jvm.Cond.code ({ cls := "RangeExchangeModel", name := "isSet", desc := "(II)Z" } : Jvm.MethodName) prog_9_method_28_code (5 : Nat) (Option.some Jvm.ClassFile.FieldType.boolean)) ∈ gtb := gtb_m 826 rfl rfl
set_option maxRecDepth 20000 in
theorem m_827 : (Jvm.Cond.methodLink "RangeExchangeModel" (175 : Nat) ({ cls := "RangeExchangeModel", name := "depth", desc := "(II)J" } : Jvm.MethodName)) ∈ gtb := gtb_m 827 rfl rfl
set_option maxRecDepth 20000 in
theorem m_829 : (Jvm.Cond.instanceMethod ({ cls := "RangeExchangeModel", name := "depth", desc := "(II)J" } : Jvm.MethodName)) ∈ gtb := gtb_m 829 rfl rfl
set_option maxRecDepth 20000 in
theorem m_830 : (Jvm.Cond.code ({ cls := "RangeExchangeModel", name := "depth", desc := "(II)J" } : Jvm.MethodName) prog_9_method_27_code (6 : Nat) (Option.some Jvm.ClassFile.FieldType.long)) ∈ gtb := gtb_m 830 rfl rfl
set_option maxRecDepth 20000 in
theorem m_831 : (Jvm.Cond.methodLink "RangeExchangeModel" (160 : Nat) ({ cls := "RangeExchangeModel", name := "inRange", desc := "(III)Z" } : Jvm.MethodName)) ∈ gtb := gtb_m 831 rfl rfl
set_option maxRecDepth 20000 in
theorem m_833 : (Jvm.Cond.instanceMethod ({ cls := "RangeExchangeModel", name := "inRange", desc := "(III)Z" } : Jvm.MethodName)) ∈ gtb := gtb_m 833 rfl rfl
set_option maxRecDepth 20000 in
theorem m_834 : (Jvm.Cond.code ({ cls := "RangeExchangeModel", name := "inRange", desc := "(III)Z" } : Jvm.MethodName) prog_9_method_26_code (4 : Nat) (Option.some Jvm.ClassFile.FieldType.boolean)) ∈ gtb := gtb_m 834 rfl rfl
set_option maxRecDepth 20000 in
theorem m_835 : (Jvm.Cond.constantLong "RangeExchangeModel" (179 : Nat) (1000 : Int64)) ∈ gtb := gtb_m 835 rfl rfl
set_option maxRecDepth 20000 in
theorem m_836 : (Jvm.Cond.methodLink "RangeExchangeModel" (181 : Nat) ({ cls := "RangeExchangeModel", name := "within", desc := "(ZZJJJ)J" } : Jvm.MethodName)) ∈ gtb := gtb_m 836 rfl rfl
set_option maxRecDepth 20000 in
theorem m_837 : (Jvm.Cond.static ({ cls := "RangeExchangeModel", name := "within", desc := "(ZZJJJ)J" } : Jvm.MethodName)) ∈ gtb := gtb_m 837 rfl rfl
set_option maxRecDepth 20000 in
theorem m_838 : (Jvm.Cond.code ({ cls := "RangeExchangeModel", name := "within", desc := "(ZZJJJ)J" } : Jvm.MethodName) prog_9_method_30_code (8 : Nat) (Option.some Jvm.ClassFile.FieldType.long)) ∈ gtb := gtb_m 838 rfl rfl
set_option maxRecDepth 20000 in
theorem m_839 : (Jvm.Cond.methodLink "RangeExchangeModel" (168 : Nat) ({ cls := "RangeExchangeModel", name := "share", desc := "(JJJZ)J" } : Jvm.MethodName)) ∈ gtb := gtb_m 839 rfl rfl
set_option maxRecDepth 20000 in
theorem m_840 : (Jvm.Cond.static ({ cls := "RangeExchangeModel", name := "share", desc := "(JJJZ)J" } : Jvm.MethodName)) ∈ gtb := gtb_m 840 rfl rfl
set_option maxRecDepth 20000 in
theorem m_841 : (Jvm.Cond.code ({ cls := "RangeExchangeModel", name := "share", desc := "(JJJZ)J" } : Jvm.MethodName) prog_9_method_5_code (12 : Nat) (Option.some Jvm.ClassFile.FieldType.long)) ∈ gtb := gtb_m 841 rfl rfl
set_option maxRecDepth 20000 in
theorem m_842 : (Jvm.Cond.constantLong "RangeExchangeModel" (94 : Nat) (2 : Int64)) ∈ gtb := gtb_m 842 rfl rfl
set_option maxRecDepth 20000 in
theorem m_843 : (Jvm.Cond.methodLink "RangeExchangeModel" (195 : Nat) ({ cls := "RangeExchangeModel", name := "carryOut", desc := "(IIZ)V" } : Jvm.MethodName)) ∈ gtb := gtb_m 843 rfl rfl
set_option maxRecDepth 20000 in
theorem m_845 : (Jvm.Cond.instanceMethod ({ cls := "RangeExchangeModel", name := "carryOut", desc := "(IIZ)V" } : Jvm.MethodName)) ∈ gtb := gtb_m 845 rfl rfl
set_option maxRecDepth 20000 in
theorem m_846 : (Jvm.Cond.code ({ cls := "RangeExchangeModel", name := "carryOut", desc := "(IIZ)V" } : Jvm.MethodName) prog_9_method_33_code (6 : Nat) (Option.none : Option Jvm.ClassFile.FieldType)) ∈ gtb := gtb_m 846 rfl rfl
set_option maxRecDepth 20000 in
theorem m_847 : (Jvm.Cond.methodLink "RangeExchangeLaw" (101 : Nat) ({ cls := "RangeExchangeModel", name := "route", desc := "(III)J" } : Jvm.MethodName)) ∈ gtb := gtb_m 847 rfl rfl
set_option maxRecDepth 20000 in
theorem m_848 : (Jvm.Cond.instanceMethod ({ cls := "RangeExchangeModel", name := "route", desc := "(III)J" } : Jvm.MethodName)) ∈ gtb := gtb_m 848 rfl rfl
set_option maxRecDepth 20000 in
theorem m_849 : (Jvm.Cond.selects "RangeExchangeModel" ({ cls := "RangeExchangeModel", name := "route", desc := "(III)J" } : Jvm.MethodName) ({ cls := "RangeExchangeModel", name := "route", desc := "(III)J" } : Jvm.MethodName)) ∈ gtb := gtb_m 849 rfl rfl
set_option maxRecDepth 20000 in
theorem m_850 : (Jvm.Cond.code ({ cls := "RangeExchangeModel", name := "route", desc := "(III)J" } : Jvm.MethodName) prog_9_method_35_code (6 : Nat) (Option.some Jvm.ClassFile.FieldType.long)) ∈ gtb := gtb_m 850 rfl rfl
set_option maxRecDepth 20000 in
theorem m_851 : (Jvm.Cond.methodLink "RangeExchangeLaw" (106 : Nat) ({ cls := "RangeExchangeModel", name := "paid", desc := "()J" } : Jvm.MethodName)) ∈ gtb := gtb_m 851 rfl rfl
set_option maxRecDepth 20000 in
theorem m_852 : (Jvm.Cond.instanceMethod ({ cls := "RangeExchangeModel", name := "paid", desc := "()J" } : Jvm.MethodName)) ∈ gtb := gtb_m 852 rfl rfl
set_option maxRecDepth 20000 in
theorem m_853 : (Jvm.Cond.selects "RangeExchangeModel" ({ cls := "RangeExchangeModel", name := "paid", desc := "()J" } : Jvm.MethodName) ({ cls := "RangeExchangeModel", name := "paid", desc := "()J" } : Jvm.MethodName)) ∈ gtb := gtb_m 853 rfl rfl
set_option maxRecDepth 20000 in
theorem m_854 : (Jvm.Cond.code ({ cls := "RangeExchangeModel", name := "paid", desc := "()J" } : Jvm.MethodName) prog_9_method_36_code (1 : Nat) (Option.some Jvm.ClassFile.FieldType.long)) ∈ gtb := gtb_m 854 rfl rfl
set_option maxRecDepth 20000 in
theorem m_855 : (Jvm.Cond.methodLink "RangeExchangeLaw" (110 : Nat) ({ cls := "RangeExchangeModel", name := "price", desc := "(I)J" } : Jvm.MethodName)) ∈ gtb := gtb_m 855 rfl rfl
set_option maxRecDepth 20000 in
theorem m_856 : (Jvm.Cond.instanceMethod ({ cls := "RangeExchangeModel", name := "price", desc := "(I)J" } : Jvm.MethodName)) ∈ gtb := gtb_m 856 rfl rfl
set_option maxRecDepth 20000 in
theorem m_857 : (Jvm.Cond.selects "RangeExchangeModel" ({ cls := "RangeExchangeModel", name := "price", desc := "(I)J" } : Jvm.MethodName) ({ cls := "RangeExchangeModel", name := "price", desc := "(I)J" } : Jvm.MethodName)) ∈ gtb := gtb_m 857 rfl rfl
set_option maxRecDepth 20000 in
theorem m_858 : (Jvm.Cond.code ({ cls := "RangeExchangeModel", name := "price", desc := "(I)J" } : Jvm.MethodName) prog_9_method_37_code (2 : Nat) (Option.some Jvm.ClassFile.FieldType.long)) ∈ gtb := gtb_m 858 rfl rfl
set_option maxRecDepth 20000 in
theorem m_859 : (Jvm.Cond.methodLink "RangeExchangeLaw" (113 : Nat) ({ cls := "RangeExchangeModel", name := "tick", desc := "(I)I" } : Jvm.MethodName)) ∈ gtb := gtb_m 859 rfl rfl
set_option maxRecDepth 20000 in
theorem m_860 : (Jvm.Cond.instanceMethod ({ cls := "RangeExchangeModel", name := "tick", desc := "(I)I" } : Jvm.MethodName)) ∈ gtb := gtb_m 860 rfl rfl
set_option maxRecDepth 20000 in
theorem m_861 : (Jvm.Cond.selects "RangeExchangeModel" ({ cls := "RangeExchangeModel", name := "tick", desc := "(I)I" } : Jvm.MethodName) ({ cls := "RangeExchangeModel", name := "tick", desc := "(I)I" } : Jvm.MethodName)) ∈ gtb := gtb_m 861 rfl rfl
set_option maxRecDepth 20000 in
theorem m_862 : (Jvm.Cond.code ({ cls := "RangeExchangeModel", name := "tick", desc := "(I)I" } : Jvm.MethodName) prog_9_method_38_code (2 : Nat) (Option.some Jvm.ClassFile.FieldType.int)) ∈ gtb := gtb_m 862 rfl rfl
set_option maxRecDepth 20000 in
theorem m_863 : (Jvm.Cond.methodLink "RangeExchangeLaw" (116 : Nat) ({ cls := "RangeExchangeModel", name := "liquidity", desc := "(I)I" } : Jvm.MethodName)) ∈ gtb := gtb_m 863 rfl rfl
set_option maxRecDepth 20000 in
theorem m_864 : (Jvm.Cond.instanceMethod ({ cls := "RangeExchangeModel", name := "liquidity", desc := "(I)I" } : Jvm.MethodName)) ∈ gtb := gtb_m 864 rfl rfl
set_option maxRecDepth 20000 in
theorem m_865 : (Jvm.Cond.selects "RangeExchangeModel" ({ cls := "RangeExchangeModel", name := "liquidity", desc := "(I)I" } : Jvm.MethodName) ({ cls := "RangeExchangeModel", name := "liquidity", desc := "(I)I" } : Jvm.MethodName)) ∈ gtb := gtb_m 865 rfl rfl
set_option maxRecDepth 20000 in
theorem m_866 : (Jvm.Cond.code ({ cls := "RangeExchangeModel", name := "liquidity", desc := "(I)I" } : Jvm.MethodName) prog_9_method_39_code (2 : Nat) (Option.some Jvm.ClassFile.FieldType.int)) ∈ gtb := gtb_m 866 rfl rfl
set_option maxRecDepth 20000 in
theorem m_867 : (Jvm.Cond.methodLink "RangeExchangeLaw" (119 : Nat) ({ cls := "RangeExchangeModel", name := "growth", desc := "(II)J" } : Jvm.MethodName)) ∈ gtb := gtb_m 867 rfl rfl
set_option maxRecDepth 20000 in
theorem m_868 : (Jvm.Cond.instanceMethod ({ cls := "RangeExchangeModel", name := "growth", desc := "(II)J" } : Jvm.MethodName)) ∈ gtb := gtb_m 868 rfl rfl
set_option maxRecDepth 20000 in
theorem m_869 : (Jvm.Cond.selects "RangeExchangeModel" ({ cls := "RangeExchangeModel", name := "growth", desc := "(II)J" } : Jvm.MethodName) ({ cls := "RangeExchangeModel", name := "growth", desc := "(II)J" } : Jvm.MethodName)) ∈ gtb := gtb_m 869 rfl rfl
set_option maxRecDepth 20000 in
theorem m_870 : (Jvm.Cond.code ({ cls := "RangeExchangeModel", name := "growth", desc := "(II)J" } : Jvm.MethodName) prog_9_method_40_code (3 : Nat) (Option.some Jvm.ClassFile.FieldType.long)) ∈ gtb := gtb_m 870 rfl rfl
set_option maxRecDepth 20000 in
theorem m_871 : (Jvm.Cond.methodLink "RangeExchangeLaw" (124 : Nat) ({ cls := "RangeExchangeModel", name := "position", desc := "(IIIII)J" } : Jvm.MethodName)) ∈ gtb := gtb_m 871 rfl rfl
set_option maxRecDepth 20000 in
theorem m_872 : (Jvm.Cond.instanceMethod ({ cls := "RangeExchangeModel", name := "position", desc := "(IIIII)J" } : Jvm.MethodName)) ∈ gtb := gtb_m 872 rfl rfl
set_option maxRecDepth 20000 in
theorem m_873 : (Jvm.Cond.selects "RangeExchangeModel" ({ cls := "RangeExchangeModel", name := "position", desc := "(IIIII)J" } : Jvm.MethodName) ({ cls := "RangeExchangeModel", name := "position", desc := "(IIIII)J" } : Jvm.MethodName)) ∈ gtb := gtb_m 873 rfl rfl
set_option maxRecDepth 20000 in
theorem m_874 : (Jvm.Cond.code ({ cls := "RangeExchangeModel", name := "position", desc := "(IIIII)J" } : Jvm.MethodName) prog_9_method_41_code (7 : Nat) (Option.some Jvm.ClassFile.FieldType.long)) ∈ gtb := gtb_m 874 rfl rfl
set_option maxRecDepth 20000 in
theorem m_875 : (Jvm.Cond.methodLink "RangeExchangeLaw" (127 : Nat) ({ cls := "RangeExchangeModel", name := "held", desc := "(I)J" } : Jvm.MethodName)) ∈ gtb := gtb_m 875 rfl rfl
set_option maxRecDepth 20000 in
theorem m_876 : (Jvm.Cond.instanceMethod ({ cls := "RangeExchangeModel", name := "held", desc := "(I)J" } : Jvm.MethodName)) ∈ gtb := gtb_m 876 rfl rfl
set_option maxRecDepth 20000 in
theorem m_877 : (Jvm.Cond.selects "RangeExchangeModel" ({ cls := "RangeExchangeModel", name := "held", desc := "(I)J" } : Jvm.MethodName) ({ cls := "RangeExchangeModel", name := "held", desc := "(I)J" } : Jvm.MethodName)) ∈ gtb := gtb_m 877 rfl rfl
set_option maxRecDepth 20000 in
theorem m_878 : (Jvm.Cond.code ({ cls := "RangeExchangeModel", name := "held", desc := "(I)J" } : Jvm.MethodName) prog_9_method_42_code (2 : Nat) (Option.some Jvm.ClassFile.FieldType.long)) ∈ gtb := gtb_m 878 rfl rfl
theorem s_E_find : Cond.selects "RangeExchange" ⟨"RangeExchange", "find", "(IIII)LRangeExchange$Position;"⟩ ⟨"RangeExchange", "find", "(IIII)LRangeExchange$Position;"⟩ ∈ gtb := gtb_s (q := (⟨"RangeExchange", "find", "(IIII)LRangeExchange$Position;"⟩, 9)) 0 rfl
theorem s_fill : Cond.selects "java/lang/Throwable" ⟨"java/lang/Throwable", "fillInStackTrace", "(I)Ljava/lang/Throwable;"⟩ ⟨"java/lang/Throwable", "fillInStackTrace", "(I)Ljava/lang/Throwable;"⟩ ∈ gtb := gtb_s (q := (⟨"java/lang/Throwable", "fillInStackTrace", "(I)Ljava/lang/Throwable;"⟩, 6)) 1 rfl
theorem s_E_findFree : Cond.selects "RangeExchange" ⟨"RangeExchange", "findFree", "()LRangeExchange$Position;"⟩ ⟨"RangeExchange", "findFree", "()LRangeExchange$Position;"⟩ ∈ gtb := gtb_s (q := (⟨"RangeExchange", "findFree", "()LRangeExchange$Position;"⟩, 9)) 2 rfl
theorem s_E_lacks : Cond.selects "RangeExchange" ⟨"RangeExchange", "lacks", "(IIJ)Z"⟩ ⟨"RangeExchange", "lacks", "(IIJ)Z"⟩ ∈ gtb := gtb_s (q := (⟨"RangeExchange", "lacks", "(IIJ)Z"⟩, 9)) 3 rfl
theorem s_P_growGross : Cond.selects "RangeExchange$Pool" ⟨"RangeExchange$Pool", "growGross", "(II)V"⟩ ⟨"RangeExchange$Pool", "growGross", "(II)V"⟩ ∈ gtb := gtb_s (q := (⟨"RangeExchange$Pool", "growGross", "(II)V"⟩, 6)) 4 rfl
theorem s_C_below : Cond.selects "RangeExchange$Course" ⟨"RangeExchange$Course", "below", "(II)J"⟩ ⟨"RangeExchange$Course", "below", "(II)J"⟩ ∈ gtb := gtb_s (q := (⟨"RangeExchange$Course", "below", "(II)J"⟩, 5)) 5 rfl
theorem s_C_above : Cond.selects "RangeExchange$Course" ⟨"RangeExchange$Course", "above", "(II)J"⟩ ⟨"RangeExchange$Course", "above", "(II)J"⟩ ∈ gtb := gtb_s (q := (⟨"RangeExchange$Course", "above", "(II)J"⟩, 5)) 6 rfl
theorem s_S_share : Cond.selects "RangeExchange$Position" ⟨"RangeExchange$Position", "share", "(J)J"⟩ ⟨"RangeExchange$Position", "share", "(J)J"⟩ ∈ gtb := gtb_s (q := (⟨"RangeExchange$Position", "share", "(J)J"⟩, 7)) 7 rfl
theorem s_P_clearIfUnset : Cond.selects "RangeExchange$Pool" ⟨"RangeExchange$Pool", "clearIfUnset", "(I)V"⟩ ⟨"RangeExchange$Pool", "clearIfUnset", "(I)V"⟩ ∈ gtb := gtb_s (q := (⟨"RangeExchange$Pool", "clearIfUnset", "(I)V"⟩, 6)) 8 rfl
theorem s_E_payIn : Cond.selects "RangeExchange" ⟨"RangeExchange", "payIn", "(IIJ)V"⟩ ⟨"RangeExchange", "payIn", "(IIJ)V"⟩ ∈ gtb := gtb_s (q := (⟨"RangeExchange", "payIn", "(IIJ)V"⟩, 9)) 9 rfl
theorem s_E_payOut : Cond.selects "RangeExchange" ⟨"RangeExchange", "payOut", "(IIJ)V"⟩ ⟨"RangeExchange", "payOut", "(IIJ)V"⟩ ∈ gtb := gtb_s (q := (⟨"RangeExchange", "payOut", "(IIJ)V"⟩, 9)) 10 rfl
theorem s_T_step : Cond.selects "RangeExchange$Trade" ⟨"RangeExchange$Trade", "step", "()V"⟩ ⟨"RangeExchange$Trade", "step", "()V"⟩ ∈ gtb := gtb_s (q := (⟨"RangeExchange$Trade", "step", "()V"⟩, 9)) 11 rfl
theorem s_T_priceByTaking : Cond.selects "RangeExchange$Trade" ⟨"RangeExchange$Trade", "priceByTaking", "(J)J"⟩ ⟨"RangeExchange$Trade", "priceByTaking", "(J)J"⟩ ∈ gtb := gtb_s (q := (⟨"RangeExchange$Trade", "priceByTaking", "(J)J"⟩, 9)) 12 rfl
theorem s_T_takenUntil : Cond.selects "RangeExchange$Trade" ⟨"RangeExchange$Trade", "takenUntil", "(J)J"⟩ ⟨"RangeExchange$Trade", "takenUntil", "(J)J"⟩ ∈ gtb := gtb_s (q := (⟨"RangeExchange$Trade", "takenUntil", "(J)J"⟩, 9)) 13 rfl
theorem s_T_priceByPaying : Cond.selects "RangeExchange$Trade" ⟨"RangeExchange$Trade", "priceByPaying", "(J)J"⟩ ⟨"RangeExchange$Trade", "priceByPaying", "(J)J"⟩ ∈ gtb := gtb_s (q := (⟨"RangeExchange$Trade", "priceByPaying", "(J)J"⟩, 9)) 14 rfl
theorem s_T_paidUntil : Cond.selects "RangeExchange$Trade" ⟨"RangeExchange$Trade", "paidUntil", "(J)J"⟩ ⟨"RangeExchange$Trade", "paidUntil", "(J)J"⟩ ∈ gtb := gtb_s (q := (⟨"RangeExchange$Trade", "paidUntil", "(J)J"⟩, 9)) 15 rfl
theorem s_T_exchange : Cond.selects "RangeExchange$Trade" ⟨"RangeExchange$Trade", "exchange", "(JZ)V"⟩ ⟨"RangeExchange$Trade", "exchange", "(JZ)V"⟩ ∈ gtb := gtb_s (q := (⟨"RangeExchange$Trade", "exchange", "(JZ)V"⟩, 9)) 16 rfl
theorem s_T_moveTo : Cond.selects "RangeExchange$Trade" ⟨"RangeExchange$Trade", "moveTo", "(JI)V"⟩ ⟨"RangeExchange$Trade", "moveTo", "(JI)V"⟩ ∈ gtb := gtb_s (q := (⟨"RangeExchange$Trade", "moveTo", "(JI)V"⟩, 9)) 17 rfl
theorem s_T_cross : Cond.selects "RangeExchange$Trade" ⟨"RangeExchange$Trade", "cross", "(I)V"⟩ ⟨"RangeExchange$Trade", "cross", "(I)V"⟩ ∈ gtb := gtb_s (q := (⟨"RangeExchange$Trade", "cross", "(I)V"⟩, 9)) 18 rfl
theorem s_E_keep : Cond.selects "RangeExchange" ⟨"RangeExchange", "keep", "(LRangeExchange$Trade;III)V"⟩ ⟨"RangeExchange", "keep", "(LRangeExchange$Trade;III)V"⟩ ∈ gtb := gtb_s (q := (⟨"RangeExchange", "keep", "(LRangeExchange$Trade;III)V"⟩, 9)) 19 rfl
theorem s_M_find : Cond.selects "RangeExchangeModel" ⟨"RangeExchangeModel", "find", "(IIII)I"⟩ ⟨"RangeExchangeModel", "find", "(IIII)I"⟩ ∈ gtb := gtb_s (q := (⟨"RangeExchangeModel", "find", "(IIII)I"⟩, 24)) 20 rfl
theorem s_M_worthNear : Cond.selects "RangeExchangeModel" ⟨"RangeExchangeModel", "worthNear", "(IIIJZ)J"⟩ ⟨"RangeExchangeModel", "worthNear", "(IIIJZ)J"⟩ ∈ gtb := gtb_s (q := (⟨"RangeExchangeModel", "worthNear", "(IIIJZ)J"⟩, 24)) 21 rfl
theorem s_M_rootOf : Cond.selects "RangeExchangeModel" ⟨"RangeExchangeModel", "rootOf", "(I)J"⟩ ⟨"RangeExchangeModel", "rootOf", "(I)J"⟩ ∈ gtb := gtb_s (q := (⟨"RangeExchangeModel", "rootOf", "(I)J"⟩, 24)) 22 rfl
theorem s_M_worthFar : Cond.selects "RangeExchangeModel" ⟨"RangeExchangeModel", "worthFar", "(IIIJZ)J"⟩ ⟨"RangeExchangeModel", "worthFar", "(IIIJZ)J"⟩ ∈ gtb := gtb_s (q := (⟨"RangeExchangeModel", "worthFar", "(IIIJZ)J"⟩, 24)) 23 rfl
theorem s_M_free : Cond.selects "RangeExchangeModel" ⟨"RangeExchangeModel", "free", "()I"⟩ ⟨"RangeExchangeModel", "free", "()I"⟩ ∈ gtb := gtb_s (q := (⟨"RangeExchangeModel", "free", "()I"⟩, 24)) 24 rfl
theorem s_M_settle : Cond.selects "RangeExchangeModel" ⟨"RangeExchangeModel", "settle", "(I)V"⟩ ⟨"RangeExchangeModel", "settle", "(I)V"⟩ ∈ gtb := gtb_s (q := (⟨"RangeExchangeModel", "settle", "(I)V"⟩, 24)) 25 rfl
theorem s_M_pay : Cond.selects "RangeExchangeModel" ⟨"RangeExchangeModel", "pay", "(IIJ)V"⟩ ⟨"RangeExchangeModel", "pay", "(IIJ)V"⟩ ∈ gtb := gtb_s (q := (⟨"RangeExchangeModel", "pay", "(IIJ)V"⟩, 24)) 26 rfl
theorem s_M_sweep : Cond.selects "RangeExchangeModel" ⟨"RangeExchangeModel", "sweep", "(I)V"⟩ ⟨"RangeExchangeModel", "sweep", "(I)V"⟩ ∈ gtb := gtb_s (q := (⟨"RangeExchangeModel", "sweep", "(I)V"⟩, 24)) 27 rfl
theorem s_M_work : Cond.selects "RangeExchangeModel" ⟨"RangeExchangeModel", "work", "(IZZJJ)V"⟩ ⟨"RangeExchangeModel", "work", "(IZZJJ)V"⟩ ∈ gtb := gtb_s (q := (⟨"RangeExchangeModel", "work", "(IZZJJ)V"⟩, 24)) 28 rfl
theorem s_M_step : Cond.selects "RangeExchangeModel" ⟨"RangeExchangeModel", "step", "(IZZJJ)J"⟩ ⟨"RangeExchangeModel", "step", "(IZZJJ)J"⟩ ∈ gtb := gtb_s (q := (⟨"RangeExchangeModel", "step", "(IZZJJ)J"⟩, 24)) 29 rfl
theorem s_M_nextTick : Cond.selects "RangeExchangeModel" ⟨"RangeExchangeModel", "nextTick", "(IZ)I"⟩ ⟨"RangeExchangeModel", "nextTick", "(IZ)I"⟩ ∈ gtb := gtb_s (q := (⟨"RangeExchangeModel", "nextTick", "(IZ)I"⟩, 24)) 30 rfl
theorem s_M_isSet : Cond.selects "RangeExchangeModel" ⟨"RangeExchangeModel", "isSet", "(II)Z"⟩ ⟨"RangeExchangeModel", "isSet", "(II)Z"⟩ ∈ gtb := gtb_s (q := (⟨"RangeExchangeModel", "isSet", "(II)Z"⟩, 24)) 31 rfl
theorem s_M_depth : Cond.selects "RangeExchangeModel" ⟨"RangeExchangeModel", "depth", "(II)J"⟩ ⟨"RangeExchangeModel", "depth", "(II)J"⟩ ∈ gtb := gtb_s (q := (⟨"RangeExchangeModel", "depth", "(II)J"⟩, 24)) 32 rfl
theorem s_M_inRange : Cond.selects "RangeExchangeModel" ⟨"RangeExchangeModel", "inRange", "(III)Z"⟩ ⟨"RangeExchangeModel", "inRange", "(III)Z"⟩ ∈ gtb := gtb_s (q := (⟨"RangeExchangeModel", "inRange", "(III)Z"⟩, 24)) 33 rfl
theorem s_M_carryOut : Cond.selects "RangeExchangeModel" ⟨"RangeExchangeModel", "carryOut", "(IIZ)V"⟩ ⟨"RangeExchangeModel", "carryOut", "(IIZ)V"⟩ ∈ gtb := gtb_s (q := (⟨"RangeExchangeModel", "carryOut", "(IIZ)V"⟩, 24)) 34 rfl
