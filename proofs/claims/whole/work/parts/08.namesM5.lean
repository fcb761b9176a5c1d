abbrev b_M_liquidity : ByteArray := prog_9_method_39_code
def y_M_liquidity : MethodName := ⟨"RangeExchangeModel", "liquidity", "(I)I"⟩
theorem d_M_liquidity_0 : decode b_M_liquidity 0 = .ok (.aload_n 0, 1) := by decide +kernel
theorem d_M_liquidity_1 : decode b_M_liquidity 1 = .ok (.iload_n 1, 1) := by decide +kernel
theorem d_M_liquidity_2 : decode b_M_liquidity 2 = .ok (.invokestatic 114, 3) := by decide +kernel
theorem d_M_liquidity_5 : decode b_M_liquidity 5 = .ok (.ifCond .eq 7, 3) := by decide +kernel
theorem d_M_liquidity_8 : decode b_M_liquidity 8 = .ok (.iconst 0, 1) := by decide +kernel
theorem d_M_liquidity_9 : decode b_M_liquidity 9 = .ok (.goto 4, 3) := by decide +kernel
theorem d_M_liquidity_12 : decode b_M_liquidity 12 = .ok (.iconst 1, 1) := by decide +kernel
theorem d_M_liquidity_13 : decode b_M_liquidity 13 = .ok (.putfield 84, 3) := by decide +kernel
theorem d_M_liquidity_16 : decode b_M_liquidity 16 = .ok (.aload_n 0, 1) := by decide +kernel
theorem d_M_liquidity_17 : decode b_M_liquidity 17 = .ok (.getfield 84, 3) := by decide +kernel
theorem d_M_liquidity_20 : decode b_M_liquidity 20 = .ok (.ifCond .le 7, 3) := by decide +kernel
theorem d_M_liquidity_23 : decode b_M_liquidity 23 = .ok (.iconst 0, 1) := by decide +kernel
theorem d_M_liquidity_24 : decode b_M_liquidity 24 = .ok (.goto 15, 3) := by decide +kernel
theorem d_M_liquidity_27 : decode b_M_liquidity 27 = .ok (.aload_n 0, 1) := by decide +kernel
theorem d_M_liquidity_28 : decode b_M_liquidity 28 = .ok (.iload_n 1, 1) := by decide +kernel
theorem d_M_liquidity_29 : decode b_M_liquidity 29 = .ok (.aload_n 0, 1) := by decide +kernel
theorem d_M_liquidity_30 : decode b_M_liquidity 30 = .ok (.getfield 29, 3) := by decide +kernel
theorem d_M_liquidity_33 : decode b_M_liquidity 33 = .ok (.iload_n 1, 1) := by decide +kernel
theorem d_M_liquidity_34 : decode b_M_liquidity 34 = .ok (.iaload, 1) := by decide +kernel
theorem d_M_liquidity_35 : decode b_M_liquidity 35 = .ok (.invokevirtual 175, 3) := by decide +kernel
theorem d_M_liquidity_38 : decode b_M_liquidity 38 = .ok (.l2i, 1) := by decide +kernel
theorem d_M_liquidity_39 : decode b_M_liquidity 39 = .ok (.ireturn, 1) := by decide +kernel
abbrev b_M_growth : ByteArray := prog_9_method_40_code
def y_M_growth : MethodName := ⟨"RangeExchangeModel", "growth", "(II)J"⟩
theorem d_M_growth_0 : decode b_M_growth 0 = .ok (.aload_n 0, 1) := by decide +kernel
theorem d_M_growth_1 : decode b_M_growth 1 = .ok (.iload_n 1, 1) := by decide +kernel
theorem d_M_growth_2 : decode b_M_growth 2 = .ok (.invokestatic 114, 3) := by decide +kernel
theorem d_M_growth_5 : decode b_M_growth 5 = .ok (.ifCond .eq 16, 3) := by decide +kernel
theorem d_M_growth_8 : decode b_M_growth 8 = .ok (.iload_n 2, 1) := by decide +kernel
theorem d_M_growth_9 : decode b_M_growth 9 = .ok (.ifCond .eq 8, 3) := by decide +kernel
theorem d_M_growth_12 : decode b_M_growth 12 = .ok (.iload_n 2, 1) := by decide +kernel
theorem d_M_growth_13 : decode b_M_growth 13 = .ok (.iconst 1, 1) := by decide +kernel
theorem d_M_growth_14 : decode b_M_growth 14 = .ok (.if_icmp .ne 7, 3) := by decide +kernel
theorem d_M_growth_17 : decode b_M_growth 17 = .ok (.iconst 0, 1) := by decide +kernel
theorem d_M_growth_18 : decode b_M_growth 18 = .ok (.goto 4, 3) := by decide +kernel
theorem d_M_growth_21 : decode b_M_growth 21 = .ok (.iconst 1, 1) := by decide +kernel
theorem d_M_growth_22 : decode b_M_growth 22 = .ok (.putfield 84, 3) := by decide +kernel
theorem d_M_growth_25 : decode b_M_growth 25 = .ok (.aload_n 0, 1) := by decide +kernel
theorem d_M_growth_26 : decode b_M_growth 26 = .ok (.getfield 84, 3) := by decide +kernel
theorem d_M_growth_29 : decode b_M_growth 29 = .ok (.ifCond .le 7, 3) := by decide +kernel
theorem d_M_growth_32 : decode b_M_growth 32 = .ok (.lconst 0, 1) := by decide +kernel
theorem d_M_growth_33 : decode b_M_growth 33 = .ok (.goto 13, 3) := by decide +kernel
theorem d_M_growth_36 : decode b_M_growth 36 = .ok (.aload_n 0, 1) := by decide +kernel
theorem d_M_growth_37 : decode b_M_growth 37 = .ok (.getfield 32, 3) := by decide +kernel
theorem d_M_growth_40 : decode b_M_growth 40 = .ok (.iconst 2, 1) := by decide +kernel
theorem d_M_growth_41 : decode b_M_growth 41 = .ok (.iload_n 1, 1) := by decide +kernel
theorem d_M_growth_42 : decode b_M_growth 42 = .ok (.imul, 1) := by decide +kernel
theorem d_M_growth_43 : decode b_M_growth 43 = .ok (.iload_n 2, 1) := by decide +kernel
theorem d_M_growth_44 : decode b_M_growth 44 = .ok (.iadd, 1) := by decide +kernel
theorem d_M_growth_45 : decode b_M_growth 45 = .ok (.laload, 1) := by decide +kernel
theorem d_M_growth_46 : decode b_M_growth 46 = .ok (.lreturn, 1) := by decide +kernel
abbrev b_M_position : ByteArray := prog_9_method_41_code
def y_M_position : MethodName := ⟨"RangeExchangeModel", "position", "(IIIII)J"⟩
theorem d_M_position_0 : decode b_M_position 0 = .ok (.aload_n 0, 1) := by decide +kernel
theorem d_M_position_1 : decode b_M_position 1 = .ok (.iconst 0, 1) := by decide +kernel
theorem d_M_position_2 : decode b_M_position 2 = .ok (.putfield 84, 3) := by decide +kernel
theorem d_M_position_5 : decode b_M_position 5 = .ok (.aload_n 0, 1) := by decide +kernel
theorem d_M_position_6 : decode b_M_position 6 = .ok (.iload_n 1, 1) := by decide +kernel
theorem d_M_position_7 : decode b_M_position 7 = .ok (.iload_n 2, 1) := by decide +kernel
theorem d_M_position_8 : decode b_M_position 8 = .ok (.iload_n 3, 1) := by decide +kernel
theorem d_M_position_9 : decode b_M_position 9 = .ok (.iload 4, 2) := by decide +kernel
theorem d_M_position_11 : decode b_M_position 11 = .ok (.invokevirtual 131, 3) := by decide +kernel
theorem d_M_position_14 : decode b_M_position 14 = .ok (.istore 6, 2) := by decide +kernel
theorem d_M_position_16 : decode b_M_position 16 = .ok (.iload 6, 2) := by decide +kernel
theorem d_M_position_18 : decode b_M_position 18 = .ok (.ifCond .lt 14, 3) := by decide +kernel
theorem d_M_position_21 : decode b_M_position 21 = .ok (.iload 5, 2) := by decide +kernel
theorem d_M_position_23 : decode b_M_position 23 = .ok (.ifCond .lt 9, 3) := by decide +kernel
theorem d_M_position_26 : decode b_M_position 26 = .ok (.iload 5, 2) := by decide +kernel
theorem d_M_position_28 : decode b_M_position 28 = .ok (.iconst 2, 1) := by decide +kernel
theorem d_M_position_29 : decode b_M_position 29 = .ok (.if_icmp .le 5, 3) := by decide +kernel
theorem d_M_position_32 : decode b_M_position 32 = .ok (.lconst 0, 1) := by decide +kernel
theorem d_M_position_33 : decode b_M_position 33 = .ok (.lreturn, 1) := by decide +kernel
theorem d_M_position_34 : decode b_M_position 34 = .ok (.iload 5, 2) := by decide +kernel
theorem d_M_position_36 : decode b_M_position 36 = .ok (.ifCond .ne 13, 3) := by decide +kernel
theorem d_M_position_39 : decode b_M_position 39 = .ok (.aload_n 0, 1) := by decide +kernel
theorem d_M_position_40 : decode b_M_position 40 = .ok (.getfield 51, 3) := by decide +kernel
theorem d_M_position_43 : decode b_M_position 43 = .ok (.iload 6, 2) := by decide +kernel
theorem d_M_position_45 : decode b_M_position 45 = .ok (.laload, 1) := by decide +kernel
theorem d_M_position_46 : decode b_M_position 46 = .ok (.goto 17, 3) := by decide +kernel
theorem d_M_position_49 : decode b_M_position 49 = .ok (.aload_n 0, 1) := by decide +kernel
theorem d_M_position_50 : decode b_M_position 50 = .ok (.getfield 57, 3) := by decide +kernel
theorem d_M_position_53 : decode b_M_position 53 = .ok (.iconst 2, 1) := by decide +kernel
theorem d_M_position_54 : decode b_M_position 54 = .ok (.iload 6, 2) := by decide +kernel
theorem d_M_position_56 : decode b_M_position 56 = .ok (.imul, 1) := by decide +kernel
theorem d_M_position_57 : decode b_M_position 57 = .ok (.iload 5, 2) := by decide +kernel
theorem d_M_position_59 : decode b_M_position 59 = .ok (.iadd, 1) := by decide +kernel
theorem d_M_position_60 : decode b_M_position 60 = .ok (.iconst 1, 1) := by decide +kernel
theorem d_M_position_61 : decode b_M_position 61 = .ok (.isub, 1) := by decide +kernel
theorem d_M_position_62 : decode b_M_position 62 = .ok (.laload, 1) := by decide +kernel
theorem d_M_position_63 : decode b_M_position 63 = .ok (.lreturn, 1) := by decide +kernel
abbrev b_M_held : ByteArray := prog_9_method_42_code
def y_M_held : MethodName := ⟨"RangeExchangeModel", "held", "(I)J"⟩
theorem d_M_held_0 : decode b_M_held 0 = .ok (.aload_n 0, 1) := by decide +kernel
theorem d_M_held_1 : decode b_M_held 1 = .ok (.iload_n 1, 1) := by decide +kernel
theorem d_M_held_2 : decode b_M_held 2 = .ok (.invokestatic 120, 3) := by decide +kernel
theorem d_M_held_5 : decode b_M_held 5 = .ok (.ifCond .eq 7, 3) := by decide +kernel
theorem d_M_held_8 : decode b_M_held 8 = .ok (.iconst 0, 1) := by decide +kernel
theorem d_M_held_9 : decode b_M_held 9 = .ok (.goto 4, 3) := by decide +kernel
theorem d_M_held_12 : decode b_M_held 12 = .ok (.iconst 1, 1) := by decide +kernel
theorem d_M_held_13 : decode b_M_held 13 = .ok (.putfield 84, 3) := by decide +kernel
theorem d_M_held_16 : decode b_M_held 16 = .ok (.aload_n 0, 1) := by decide +kernel
theorem d_M_held_17 : decode b_M_held 17 = .ok (.getfield 84, 3) := by decide +kernel
theorem d_M_held_20 : decode b_M_held 20 = .ok (.ifCond .le 7, 3) := by decide +kernel
theorem d_M_held_23 : decode b_M_held 23 = .ok (.lconst 0, 1) := by decide +kernel
theorem d_M_held_24 : decode b_M_held 24 = .ok (.goto 9, 3) := by decide +kernel
theorem d_M_held_27 : decode b_M_held 27 = .ok (.aload_n 0, 1) := by decide +kernel
theorem d_M_held_28 : decode b_M_held 28 = .ok (.getfield 19, 3) := by decide +kernel
theorem d_M_held_31 : decode b_M_held 31 = .ok (.iload_n 1, 1) := by decide +kernel
theorem d_M_held_32 : decode b_M_held 32 = .ok (.laload, 1) := by decide +kernel
theorem d_M_held_33 : decode b_M_held 33 = .ok (.lreturn, 1) := by decide +kernel
