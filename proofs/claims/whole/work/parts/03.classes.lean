def R_E : String := "RangeExchange"
def F_E : u_T := fun k => match k with
  | 0 => ("RangeExchange", "balances", "[J", true)
  | 1 => ("RangeExchange", "given", "[J", true)
  | 2 => ("RangeExchange", "holdings", "[J", true)
  | 3 => ("RangeExchange", "roots", "LRangeExchange$Roots;", true)
  | 4 => ("RangeExchange", "pools", "[LRangeExchange$Pool;", true)
  | 5 => ("RangeExchange", "positions", "[LRangeExchange$Position;", true)
  | 6 => ("RangeExchange", "firstTrade", "LRangeExchange$Trade;", true)
  | 7 => ("RangeExchange", "secondTrade", "LRangeExchange$Trade;", true)
  | _ => ("RangeExchange", "latestPaid", "J", false)
def tt_E : Nat → FieldType := fun k => match k with
  | 0 => .array .long
  | 1 => .array .long
  | 2 => .array .long
  | 3 => .object "RangeExchange$Roots"
  | 4 => .array (.object "RangeExchange$Pool")
  | 5 => .array (.object "RangeExchange$Position")
  | 6 => .object "RangeExchange$Trade"
  | 7 => .object "RangeExchange$Trade"
  | _ => .long
theorem f_E : ∀ a, a < 9 → ∀ b, b < 9 → a ≠ b → (F_E a).2.1 ≠ (F_E b).2.1 := by decide +kernel
theorem tt_E_ok : ∀ k, k < 9 → parseFieldDescriptor (F_E k).2.2.1 = some (tt_E k) := by decide +kernel
theorem i_E : ∀ w ∈ u_ws R_E F_E 9, w ∈ gtb := List.forall_mem_cons.mpr ⟨m_190, List.forall_mem_cons.mpr ⟨m_192, List.forall_mem_cons.mpr ⟨m_194, List.forall_mem_cons.mpr ⟨m_196, List.forall_mem_cons.mpr ⟨m_198, List.forall_mem_cons.mpr ⟨m_200, List.forall_mem_cons.mpr ⟨m_202, List.forall_mem_cons.mpr ⟨m_204, List.forall_mem_cons.mpr ⟨m_206, fun _ h => absurd h List.not_mem_nil⟩⟩⟩⟩⟩⟩⟩⟩⟩
def R_M : String := "RangeExchangeModel"
def F_M : u_T := fun k => match k with
  | 0 => ("RangeExchangeModel", "thrown", "I", false)
  | 1 => ("RangeExchangeModel", "root", "[J", true)
  | 2 => ("RangeExchangeModel", "balances", "[J", true)
  | 3 => ("RangeExchangeModel", "given", "[J", true)
  | 4 => ("RangeExchangeModel", "held", "[J", true)
  | 5 => ("RangeExchangeModel", "fees", "[I", true)
  | 6 => ("RangeExchangeModel", "prices", "[J", true)
  | 7 => ("RangeExchangeModel", "ticks", "[I", true)
  | 8 => ("RangeExchangeModel", "growths", "[J", true)
  | 9 => ("RangeExchangeModel", "there", "[Z", true)
  | 10 => ("RangeExchangeModel", "owners", "[I", true)
  | 11 => ("RangeExchangeModel", "pools", "[I", true)
  | 12 => ("RangeExchangeModel", "los", "[I", true)
  | 13 => ("RangeExchangeModel", "his", "[I", true)
  | 14 => ("RangeExchangeModel", "amounts", "[J", true)
  | 15 => ("RangeExchangeModel", "fallen", "[J", true)
  | 16 => ("RangeExchangeModel", "owed", "[J", true)
  | 17 => ("RangeExchangeModel", "newPrice", "[J", true)
  | 18 => ("RangeExchangeModel", "newTick", "[I", true)
  | 19 => ("RangeExchangeModel", "newGrowth", "[J", true)
  | 20 => ("RangeExchangeModel", "taken", "[J", true)
  | 21 => ("RangeExchangeModel", "got", "[J", true)
  | 22 => ("RangeExchangeModel", "rises", "[J", true)
  | _ => ("RangeExchangeModel", "latest", "J", false)
def tt_M : Nat → FieldType := fun k => match k with
  | 0 => .int
  | 1 => .array .long
  | 2 => .array .long
  | 3 => .array .long
  | 4 => .array .long
  | 5 => .array .int
  | 6 => .array .long
  | 7 => .array .int
  | 8 => .array .long
  | 9 => .array .boolean
  | 10 => .array .int
  | 11 => .array .int
  | 12 => .array .int
  | 13 => .array .int
  | 14 => .array .long
  | 15 => .array .long
  | 16 => .array .long
  | 17 => .array .long
  | 18 => .array .int
  | 19 => .array .long
  | 20 => .array .long
  | 21 => .array .long
  | 22 => .array .long
  | _ => .long
theorem f_M : ∀ a, a < 24 → ∀ b, b < 24 → a ≠ b → (F_M a).2.1 ≠ (F_M b).2.1 := by decide +kernel
theorem tt_M_ok : ∀ k, k < 24 → parseFieldDescriptor (F_M k).2.2.1 = some (tt_M k) := by decide +kernel
theorem i_M : ∀ w ∈ u_ws R_M F_M 24, w ∈ gtb := List.forall_mem_cons.mpr ⟨m_667, List.forall_mem_cons.mpr ⟨m_669, List.forall_mem_cons.mpr ⟨m_671, List.forall_mem_cons.mpr ⟨m_673, List.forall_mem_cons.mpr ⟨m_675, List.forall_mem_cons.mpr ⟨m_677, List.forall_mem_cons.mpr ⟨m_679, List.forall_mem_cons.mpr ⟨m_681, List.forall_mem_cons.mpr ⟨m_683, List.forall_mem_cons.mpr ⟨m_685, List.forall_mem_cons.mpr ⟨m_687, List.forall_mem_cons.mpr ⟨m_689, List.forall_mem_cons.mpr ⟨m_691, List.forall_mem_cons.mpr ⟨m_693, List.forall_mem_cons.mpr ⟨m_695, List.forall_mem_cons.mpr ⟨m_697, List.forall_mem_cons.mpr ⟨m_699, List.forall_mem_cons.mpr ⟨m_701, List.forall_mem_cons.mpr ⟨m_703, List.forall_mem_cons.mpr ⟨m_705, List.forall_mem_cons.mpr ⟨m_707, List.forall_mem_cons.mpr ⟨m_709, List.forall_mem_cons.mpr ⟨m_711, List.forall_mem_cons.mpr ⟨m_713, fun _ h => absurd h List.not_mem_nil⟩⟩⟩⟩⟩⟩⟩⟩⟩⟩⟩⟩⟩⟩⟩⟩⟩⟩⟩⟩⟩⟩⟩⟩
def R_C : String := "RangeExchange$Course"
def F_C : u_T := fun k => match k with
  | 0 => ("RangeExchange$Course", "price", "J", false)
  | 1 => ("RangeExchange$Course", "tick", "I", false)
  | 2 => ("RangeExchange$Course", "liquidity", "I", false)
  | 3 => ("RangeExchange$Course", "growth", "[J", true)
  | _ => ("RangeExchange$Course", "outside", "[J", true)
def tt_C : Nat → FieldType := fun k => match k with
  | 0 => .long
  | 1 => .int
  | 2 => .int
  | 3 => .array .long
  | _ => .array .long
theorem f_C : ∀ a, a < 5 → ∀ b, b < 5 → a ≠ b → (F_C a).2.1 ≠ (F_C b).2.1 := by decide +kernel
theorem tt_C_ok : ∀ k, k < 5 → parseFieldDescriptor (F_C k).2.2.1 = some (tt_C k) := by decide +kernel
theorem i_C : ∀ w ∈ u_ws R_C F_C 5, w ∈ gtb := List.forall_mem_cons.mpr ⟨m_109, List.forall_mem_cons.mpr ⟨m_111, List.forall_mem_cons.mpr ⟨m_113, List.forall_mem_cons.mpr ⟨m_115, List.forall_mem_cons.mpr ⟨m_117, fun _ h => absurd h List.not_mem_nil⟩⟩⟩⟩⟩
def R_P : String := "RangeExchange$Pool"
def F_P : u_T := fun k => match k with
  | 0 => ("RangeExchange$Pool", "roots", "LRangeExchange$Roots;", true)
  | 1 => ("RangeExchange$Pool", "fee", "I", true)
  | 2 => ("RangeExchange$Pool", "gross", "[I", true)
  | 3 => ("RangeExchange$Pool", "net", "[I", true)
  | 4 => ("RangeExchange$Pool", "now", "LRangeExchange$Course;", false)
  | _ => ("RangeExchange$Pool", "trial", "LRangeExchange$Course;", false)
def tt_P : Nat → FieldType := fun k => match k with
  | 0 => .object "RangeExchange$Roots"
  | 1 => .int
  | 2 => .array .int
  | 3 => .array .int
  | 4 => .object "RangeExchange$Course"
  | _ => .object "RangeExchange$Course"
theorem f_P : ∀ a, a < 6 → ∀ b, b < 6 → a ≠ b → (F_P a).2.1 ≠ (F_P b).2.1 := by decide +kernel
theorem tt_P_ok : ∀ k, k < 6 → parseFieldDescriptor (F_P k).2.2.1 = some (tt_P k) := by decide +kernel
theorem i_P : ∀ w ∈ u_ws R_P F_P 6, w ∈ gtb := List.forall_mem_cons.mpr ⟨m_136, List.forall_mem_cons.mpr ⟨m_138, List.forall_mem_cons.mpr ⟨m_140, List.forall_mem_cons.mpr ⟨m_142, List.forall_mem_cons.mpr ⟨m_144, List.forall_mem_cons.mpr ⟨m_146, fun _ h => absurd h List.not_mem_nil⟩⟩⟩⟩⟩⟩
def R_S : String := "RangeExchange$Position"
def F_S : u_T := fun k => match k with
  | 0 => ("RangeExchange$Position", "owner", "I", false)
  | 1 => ("RangeExchange$Position", "pool", "I", false)
  | 2 => ("RangeExchange$Position", "lo", "I", false)
  | 3 => ("RangeExchange$Position", "hi", "I", false)
  | 4 => ("RangeExchange$Position", "amount", "I", false)
  | 5 => ("RangeExchange$Position", "inside", "[J", true)
  | _ => ("RangeExchange$Position", "owed", "[J", true)
def tt_S : Nat → FieldType := fun k => match k with
  | 0 => .int
  | 1 => .int
  | 2 => .int
  | 3 => .int
  | 4 => .int
  | 5 => .array .long
  | _ => .array .long
theorem f_S : ∀ a, a < 7 → ∀ b, b < 7 → a ≠ b → (F_S a).2.1 ≠ (F_S b).2.1 := by decide +kernel
theorem tt_S_ok : ∀ k, k < 7 → parseFieldDescriptor (F_S k).2.2.1 = some (tt_S k) := by decide +kernel
theorem i_S : ∀ w ∈ u_ws R_S F_S 7, w ∈ gtb := List.forall_mem_cons.mpr ⟨m_166, List.forall_mem_cons.mpr ⟨m_168, List.forall_mem_cons.mpr ⟨m_170, List.forall_mem_cons.mpr ⟨m_172, List.forall_mem_cons.mpr ⟨m_174, List.forall_mem_cons.mpr ⟨m_176, List.forall_mem_cons.mpr ⟨m_178, fun _ h => absurd h List.not_mem_nil⟩⟩⟩⟩⟩⟩⟩
def R_Q : String := "RangeExchange$Quotients"
def R_R : String := "RangeExchange$Roots"
def F_R : u_T := fun k => match k with
  | _ => ("RangeExchange$Roots", "roots", "[J", true)
def tt_R : Nat → FieldType := fun k => match k with
  | _ => .array .long
theorem f_R : ∀ a, a < 1 → ∀ b, b < 1 → a ≠ b → (F_R a).2.1 ≠ (F_R b).2.1 := by decide +kernel
theorem tt_R_ok : ∀ k, k < 1 → parseFieldDescriptor (F_R k).2.2.1 = some (tt_R k) := by decide +kernel
theorem i_R : ∀ w ∈ u_ws R_R F_R 1, w ∈ gtb := List.forall_mem_cons.mpr ⟨m_36, fun _ h => absurd h List.not_mem_nil⟩
def R_T : String := "RangeExchange$Trade"
def F_T : u_T := fun k => match k with
  | 0 => ("RangeExchange$Trade", "roots", "LRangeExchange$Roots;", true)
  | 1 => ("RangeExchange$Trade", "pool", "LRangeExchange$Pool;", false)
  | 2 => ("RangeExchange$Trade", "course", "LRangeExchange$Course;", false)
  | 3 => ("RangeExchange$Trade", "down", "Z", false)
  | 4 => ("RangeExchange$Trade", "exactIn", "Z", false)
  | 5 => ("RangeExchange$Trade", "rest", "J", false)
  | 6 => ("RangeExchange$Trade", "limit", "J", false)
  | 7 => ("RangeExchange$Trade", "paid", "J", false)
  | _ => ("RangeExchange$Trade", "got", "J", false)
def tt_T : Nat → FieldType := fun k => match k with
  | 0 => .object "RangeExchange$Roots"
  | 1 => .object "RangeExchange$Pool"
  | 2 => .object "RangeExchange$Course"
  | 3 => .boolean
  | 4 => .boolean
  | 5 => .long
  | 6 => .long
  | 7 => .long
  | _ => .long
theorem f_T : ∀ a, a < 9 → ∀ b, b < 9 → a ≠ b → (F_T a).2.1 ≠ (F_T b).2.1 := by decide +kernel
theorem tt_T_ok : ∀ k, k < 9 → parseFieldDescriptor (F_T k).2.2.1 = some (tt_T k) := by decide +kernel
theorem i_T : ∀ w ∈ u_ws R_T F_T 9, w ∈ gtb := List.forall_mem_cons.mpr ⟨m_62, List.forall_mem_cons.mpr ⟨m_64, List.forall_mem_cons.mpr ⟨m_66, List.forall_mem_cons.mpr ⟨m_68, List.forall_mem_cons.mpr ⟨m_70, List.forall_mem_cons.mpr ⟨m_72, List.forall_mem_cons.mpr ⟨m_74, List.forall_mem_cons.mpr ⟨m_76, List.forall_mem_cons.mpr ⟨m_78, fun _ h => absurd h List.not_mem_nil⟩⟩⟩⟩⟩⟩⟩⟩⟩
def R_L : String := "RangeExchangeLaw"
abbrev classes : List vw_C := [(R_E, F_E, 9), (R_M, F_M, 24), (R_C, F_C, 5), (R_P, F_P, 6), (R_S, F_S, 7), (R_R, F_R, 1), (R_T, F_T, 9)]
