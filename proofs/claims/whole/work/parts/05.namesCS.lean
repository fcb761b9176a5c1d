abbrev b_C_init : ByteArray := prog_2_method_1_code
def y_C_init : MethodName := ⟨"RangeExchange$Course", "<init>", "()V"⟩
theorem d_C_init_0 : decode b_C_init 0 = .ok (.aload_n 0, 1) := by decide +kernel
theorem d_C_init_1 : decode b_C_init 1 = .ok (.invokespecial 3, 3) := by decide +kernel
theorem d_C_init_4 : decode b_C_init 4 = .ok (.aload_n 0, 1) := by decide +kernel
theorem d_C_init_5 : decode b_C_init 5 = .ok (.ldc2_w 9, 3) := by decide +kernel
theorem d_C_init_8 : decode b_C_init 8 = .ok (.putfield 11, 3) := by decide +kernel
theorem d_C_init_11 : decode b_C_init 11 = .ok (.aload_n 0, 1) := by decide +kernel
theorem d_C_init_12 : decode b_C_init 12 = .ok (.iconst 0, 1) := by decide +kernel
theorem d_C_init_13 : decode b_C_init 13 = .ok (.putfield 17, 3) := by decide +kernel
theorem d_C_init_16 : decode b_C_init 16 = .ok (.aload_n 0, 1) := by decide +kernel
theorem d_C_init_17 : decode b_C_init 17 = .ok (.iconst 0, 1) := by decide +kernel
theorem d_C_init_18 : decode b_C_init 18 = .ok (.putfield 21, 3) := by decide +kernel
theorem d_C_init_21 : decode b_C_init 21 = .ok (.aload_n 0, 1) := by decide +kernel
theorem d_C_init_22 : decode b_C_init 22 = .ok (.iconst 2, 1) := by decide +kernel
theorem d_C_init_23 : decode b_C_init 23 = .ok (.newarray .long, 2) := by decide +kernel
theorem d_C_init_25 : decode b_C_init 25 = .ok (.putfield 24, 3) := by decide +kernel
theorem d_C_init_28 : decode b_C_init 28 = .ok (.aload_n 0, 1) := by decide +kernel
theorem d_C_init_29 : decode b_C_init 29 = .ok (.sipush 162, 3) := by decide +kernel
theorem d_C_init_32 : decode b_C_init 32 = .ok (.newarray .long, 2) := by decide +kernel
theorem d_C_init_34 : decode b_C_init 34 = .ok (.putfield 28, 3) := by decide +kernel
theorem d_C_init_37 : decode b_C_init 37 = .ok (.return_, 1) := by decide +kernel
abbrev b_C_copy : ByteArray := prog_2_method_2_code
def y_C_copy : MethodName := ⟨"RangeExchange$Course", "copy", "(LRangeExchange$Course;)V"⟩
theorem d_C_copy_0 : decode b_C_copy 0 = .ok (.aload_n 0, 1) := by decide +kernel
theorem d_C_copy_1 : decode b_C_copy 1 = .ok (.aload_n 1, 1) := by decide +kernel
theorem d_C_copy_2 : decode b_C_copy 2 = .ok (.getfield 11, 3) := by decide +kernel
theorem d_C_copy_5 : decode b_C_copy 5 = .ok (.putfield 11, 3) := by decide +kernel
theorem d_C_copy_8 : decode b_C_copy 8 = .ok (.aload_n 0, 1) := by decide +kernel
theorem d_C_copy_9 : decode b_C_copy 9 = .ok (.aload_n 1, 1) := by decide +kernel
theorem d_C_copy_10 : decode b_C_copy 10 = .ok (.getfield 17, 3) := by decide +kernel
theorem d_C_copy_13 : decode b_C_copy 13 = .ok (.putfield 17, 3) := by decide +kernel
theorem d_C_copy_16 : decode b_C_copy 16 = .ok (.aload_n 0, 1) := by decide +kernel
theorem d_C_copy_17 : decode b_C_copy 17 = .ok (.aload_n 1, 1) := by decide +kernel
theorem d_C_copy_18 : decode b_C_copy 18 = .ok (.getfield 21, 3) := by decide +kernel
theorem d_C_copy_21 : decode b_C_copy 21 = .ok (.putfield 21, 3) := by decide +kernel
theorem d_C_copy_24 : decode b_C_copy 24 = .ok (.aload_n 1, 1) := by decide +kernel
theorem d_C_copy_25 : decode b_C_copy 25 = .ok (.getfield 24, 3) := by decide +kernel
theorem d_C_copy_28 : decode b_C_copy 28 = .ok (.iconst 0, 1) := by decide +kernel
theorem d_C_copy_29 : decode b_C_copy 29 = .ok (.aload_n 0, 1) := by decide +kernel
theorem d_C_copy_30 : decode b_C_copy 30 = .ok (.getfield 24, 3) := by decide +kernel
theorem d_C_copy_33 : decode b_C_copy 33 = .ok (.iconst 0, 1) := by decide +kernel
theorem d_C_copy_34 : decode b_C_copy 34 = .ok (.iconst 2, 1) := by decide +kernel
theorem d_C_copy_35 : decode b_C_copy 35 = .ok (.invokestatic 31, 3) := by decide +kernel
theorem d_C_copy_38 : decode b_C_copy 38 = .ok (.aload_n 1, 1) := by decide +kernel
theorem d_C_copy_39 : decode b_C_copy 39 = .ok (.getfield 28, 3) := by decide +kernel
theorem d_C_copy_42 : decode b_C_copy 42 = .ok (.iconst 0, 1) := by decide +kernel
theorem d_C_copy_43 : decode b_C_copy 43 = .ok (.aload_n 0, 1) := by decide +kernel
theorem d_C_copy_44 : decode b_C_copy 44 = .ok (.getfield 28, 3) := by decide +kernel
theorem d_C_copy_47 : decode b_C_copy 47 = .ok (.iconst 0, 1) := by decide +kernel
theorem d_C_copy_48 : decode b_C_copy 48 = .ok (.sipush 162, 3) := by decide +kernel
theorem d_C_copy_51 : decode b_C_copy 51 = .ok (.invokestatic 31, 3) := by decide +kernel
theorem d_C_copy_54 : decode b_C_copy 54 = .ok (.return_, 1) := by decide +kernel
abbrev b_C_growthInside : ByteArray := prog_2_method_3_code
def y_C_growthInside : MethodName := ⟨"RangeExchange$Course", "growthInside", "(III)J"⟩
theorem d_C_growthInside_0 : decode b_C_growthInside 0 = .ok (.aload_n 0, 1) := by decide +kernel
theorem d_C_growthInside_1 : decode b_C_growthInside 1 = .ok (.getfield 24, 3) := by decide +kernel
theorem d_C_growthInside_4 : decode b_C_growthInside 4 = .ok (.iload_n 1, 1) := by decide +kernel
theorem d_C_growthInside_5 : decode b_C_growthInside 5 = .ok (.laload, 1) := by decide +kernel
theorem d_C_growthInside_6 : decode b_C_growthInside 6 = .ok (.aload_n 0, 1) := by decide +kernel
theorem d_C_growthInside_7 : decode b_C_growthInside 7 = .ok (.iload_n 1, 1) := by decide +kernel
theorem d_C_growthInside_8 : decode b_C_growthInside 8 = .ok (.iload_n 2, 1) := by decide +kernel
theorem d_C_growthInside_9 : decode b_C_growthInside 9 = .ok (.invokevirtual 37, 3) := by decide +kernel
theorem d_C_growthInside_12 : decode b_C_growthInside 12 = .ok (.lsub, 1) := by decide +kernel
theorem d_C_growthInside_13 : decode b_C_growthInside 13 = .ok (.aload_n 0, 1) := by decide +kernel
theorem d_C_growthInside_14 : decode b_C_growthInside 14 = .ok (.iload_n 1, 1) := by decide +kernel
theorem d_C_growthInside_15 : decode b_C_growthInside 15 = .ok (.iload_n 3, 1) := by decide +kernel
theorem d_C_growthInside_16 : decode b_C_growthInside 16 = .ok (.invokevirtual 41, 3) := by decide +kernel
theorem d_C_growthInside_19 : decode b_C_growthInside 19 = .ok (.lsub, 1) := by decide +kernel
theorem d_C_growthInside_20 : decode b_C_growthInside 20 = .ok (.lreturn, 1) := by decide +kernel
abbrev b_C_setOutsides : ByteArray := prog_2_method_4_code
def y_C_setOutsides : MethodName := ⟨"RangeExchange$Course", "setOutsides", "(I)V"⟩
theorem d_C_setOutsides_0 : decode b_C_setOutsides 0 = .ok (.iconst 0, 1) := by decide +kernel
theorem d_C_setOutsides_1 : decode b_C_setOutsides 1 = .ok (.istore_n 2, 1) := by decide +kernel
theorem d_C_setOutsides_2 : decode b_C_setOutsides 2 = .ok (.iload_n 2, 1) := by decide +kernel
theorem d_C_setOutsides_3 : decode b_C_setOutsides 3 = .ok (.iconst 2, 1) := by decide +kernel
theorem d_C_setOutsides_4 : decode b_C_setOutsides 4 = .ok (.if_icmp .ge 37, 3) := by decide +kernel
theorem d_C_setOutsides_7 : decode b_C_setOutsides 7 = .ok (.aload_n 0, 1) := by decide +kernel
theorem d_C_setOutsides_8 : decode b_C_setOutsides 8 = .ok (.getfield 28, 3) := by decide +kernel
theorem d_C_setOutsides_11 : decode b_C_setOutsides 11 = .ok (.iload_n 2, 1) := by decide +kernel
theorem d_C_setOutsides_12 : decode b_C_setOutsides 12 = .ok (.iload_n 1, 1) := by decide +kernel
theorem d_C_setOutsides_13 : decode b_C_setOutsides 13 = .ok (.invokestatic 44, 3) := by decide +kernel
theorem d_C_setOutsides_16 : decode b_C_setOutsides 16 = .ok (.aload_n 0, 1) := by decide +kernel
theorem d_C_setOutsides_17 : decode b_C_setOutsides 17 = .ok (.getfield 17, 3) := by decide +kernel
theorem d_C_setOutsides_20 : decode b_C_setOutsides 20 = .ok (.iload_n 1, 1) := by decide +kernel
theorem d_C_setOutsides_21 : decode b_C_setOutsides 21 = .ok (.if_icmp .lt 12, 3) := by decide +kernel
theorem d_C_setOutsides_24 : decode b_C_setOutsides 24 = .ok (.aload_n 0, 1) := by decide +kernel
theorem d_C_setOutsides_25 : decode b_C_setOutsides 25 = .ok (.getfield 24, 3) := by decide +kernel
theorem d_C_setOutsides_28 : decode b_C_setOutsides 28 = .ok (.iload_n 2, 1) := by decide +kernel
theorem d_C_setOutsides_29 : decode b_C_setOutsides 29 = .ok (.laload, 1) := by decide +kernel
theorem d_C_setOutsides_30 : decode b_C_setOutsides 30 = .ok (.goto 4, 3) := by decide +kernel
theorem d_C_setOutsides_33 : decode b_C_setOutsides 33 = .ok (.lconst 0, 1) := by decide +kernel
theorem d_C_setOutsides_34 : decode b_C_setOutsides 34 = .ok (.lastore, 1) := by decide +kernel
theorem d_C_setOutsides_35 : decode b_C_setOutsides 35 = .ok (.iinc 2 1, 3) := by decide +kernel
theorem d_C_setOutsides_38 : decode b_C_setOutsides 38 = .ok (.goto (-36), 3) := by decide +kernel
theorem d_C_setOutsides_41 : decode b_C_setOutsides 41 = .ok (.return_, 1) := by decide +kernel
abbrev b_C_clearOutsides : ByteArray := prog_2_method_5_code
def y_C_clearOutsides : MethodName := ⟨"RangeExchange$Course", "clearOutsides", "(I)V"⟩
theorem d_C_clearOutsides_0 : decode b_C_clearOutsides 0 = .ok (.iconst 0, 1) := by decide +kernel
theorem d_C_clearOutsides_1 : decode b_C_clearOutsides 1 = .ok (.istore_n 2, 1) := by decide +kernel
theorem d_C_clearOutsides_2 : decode b_C_clearOutsides 2 = .ok (.iload_n 2, 1) := by decide +kernel
theorem d_C_clearOutsides_3 : decode b_C_clearOutsides 3 = .ok (.iconst 2, 1) := by decide +kernel
theorem d_C_clearOutsides_4 : decode b_C_clearOutsides 4 = .ok (.if_icmp .ge 20, 3) := by decide +kernel
theorem d_C_clearOutsides_7 : decode b_C_clearOutsides 7 = .ok (.aload_n 0, 1) := by decide +kernel
theorem d_C_clearOutsides_8 : decode b_C_clearOutsides 8 = .ok (.getfield 28, 3) := by decide +kernel
theorem d_C_clearOutsides_11 : decode b_C_clearOutsides 11 = .ok (.iload_n 2, 1) := by decide +kernel
theorem d_C_clearOutsides_12 : decode b_C_clearOutsides 12 = .ok (.iload_n 1, 1) := by decide +kernel
theorem d_C_clearOutsides_13 : decode b_C_clearOutsides 13 = .ok (.invokestatic 44, 3) := by decide +kernel
theorem d_C_clearOutsides_16 : decode b_C_clearOutsides 16 = .ok (.lconst 0, 1) := by decide +kernel
theorem d_C_clearOutsides_17 : decode b_C_clearOutsides 17 = .ok (.lastore, 1) := by decide +kernel
theorem d_C_clearOutsides_18 : decode b_C_clearOutsides 18 = .ok (.iinc 2 1, 3) := by decide +kernel
theorem d_C_clearOutsides_21 : decode b_C_clearOutsides 21 = .ok (.goto (-19), 3) := by decide +kernel
theorem d_C_clearOutsides_24 : decode b_C_clearOutsides 24 = .ok (.return_, 1) := by decide +kernel
abbrev b_C_turnOutsides : ByteArray := prog_2_method_6_code
def y_C_turnOutsides : MethodName := ⟨"RangeExchange$Course", "turnOutsides", "(I)V"⟩
theorem d_C_turnOutsides_0 : decode b_C_turnOutsides 0 = .ok (.iconst 0, 1) := by decide +kernel
theorem d_C_turnOutsides_1 : decode b_C_turnOutsides 1 = .ok (.istore_n 2, 1) := by decide +kernel
theorem d_C_turnOutsides_2 : decode b_C_turnOutsides 2 = .ok (.iload_n 2, 1) := by decide +kernel
theorem d_C_turnOutsides_3 : decode b_C_turnOutsides 3 = .ok (.iconst 2, 1) := by decide +kernel
theorem d_C_turnOutsides_4 : decode b_C_turnOutsides 4 = .ok (.if_icmp .ge 36, 3) := by decide +kernel
theorem d_C_turnOutsides_7 : decode b_C_turnOutsides 7 = .ok (.aload_n 0, 1) := by decide +kernel
theorem d_C_turnOutsides_8 : decode b_C_turnOutsides 8 = .ok (.getfield 28, 3) := by decide +kernel
theorem d_C_turnOutsides_11 : decode b_C_turnOutsides 11 = .ok (.iload_n 2, 1) := by decide +kernel
theorem d_C_turnOutsides_12 : decode b_C_turnOutsides 12 = .ok (.iload_n 1, 1) := by decide +kernel
theorem d_C_turnOutsides_13 : decode b_C_turnOutsides 13 = .ok (.invokestatic 44, 3) := by decide +kernel
theorem d_C_turnOutsides_16 : decode b_C_turnOutsides 16 = .ok (.aload_n 0, 1) := by decide +kernel
theorem d_C_turnOutsides_17 : decode b_C_turnOutsides 17 = .ok (.getfield 24, 3) := by decide +kernel
theorem d_C_turnOutsides_20 : decode b_C_turnOutsides 20 = .ok (.iload_n 2, 1) := by decide +kernel
theorem d_C_turnOutsides_21 : decode b_C_turnOutsides 21 = .ok (.laload, 1) := by decide +kernel
theorem d_C_turnOutsides_22 : decode b_C_turnOutsides 22 = .ok (.aload_n 0, 1) := by decide +kernel
theorem d_C_turnOutsides_23 : decode b_C_turnOutsides 23 = .ok (.getfield 28, 3) := by decide +kernel
theorem d_C_turnOutsides_26 : decode b_C_turnOutsides 26 = .ok (.iload_n 2, 1) := by decide +kernel
theorem d_C_turnOutsides_27 : decode b_C_turnOutsides 27 = .ok (.iload_n 1, 1) := by decide +kernel
theorem d_C_turnOutsides_28 : decode b_C_turnOutsides 28 = .ok (.invokestatic 44, 3) := by decide +kernel
theorem d_C_turnOutsides_31 : decode b_C_turnOutsides 31 = .ok (.laload, 1) := by decide +kernel
theorem d_C_turnOutsides_32 : decode b_C_turnOutsides 32 = .ok (.lsub, 1) := by decide +kernel
theorem d_C_turnOutsides_33 : decode b_C_turnOutsides 33 = .ok (.lastore, 1) := by decide +kernel
theorem d_C_turnOutsides_34 : decode b_C_turnOutsides 34 = .ok (.iinc 2 1, 3) := by decide +kernel
theorem d_C_turnOutsides_37 : decode b_C_turnOutsides 37 = .ok (.goto (-35), 3) := by decide +kernel
theorem d_C_turnOutsides_40 : decode b_C_turnOutsides 40 = .ok (.return_, 1) := by decide +kernel
abbrev b_C_below : ByteArray := prog_2_method_7_code
def y_C_below : MethodName := ⟨"RangeExchange$Course", "below", "(II)J"⟩
theorem d_C_below_0 : decode b_C_below 0 = .ok (.aload_n 0, 1) := by decide +kernel
theorem d_C_below_1 : decode b_C_below 1 = .ok (.getfield 28, 3) := by decide +kernel
theorem d_C_below_4 : decode b_C_below 4 = .ok (.iload_n 1, 1) := by decide +kernel
theorem d_C_below_5 : decode b_C_below 5 = .ok (.iload_n 2, 1) := by decide +kernel
theorem d_C_below_6 : decode b_C_below 6 = .ok (.invokestatic 44, 3) := by decide +kernel
theorem d_C_below_9 : decode b_C_below 9 = .ok (.laload, 1) := by decide +kernel
theorem d_C_below_10 : decode b_C_below 10 = .ok (.lstore_n 3, 1) := by decide +kernel
theorem d_C_below_11 : decode b_C_below 11 = .ok (.aload_n 0, 1) := by decide +kernel
theorem d_C_below_12 : decode b_C_below 12 = .ok (.getfield 17, 3) := by decide +kernel
theorem d_C_below_15 : decode b_C_below 15 = .ok (.iload_n 2, 1) := by decide +kernel
theorem d_C_below_16 : decode b_C_below 16 = .ok (.if_icmp .lt 7, 3) := by decide +kernel
theorem d_C_below_19 : decode b_C_below 19 = .ok (.lload_n 3, 1) := by decide +kernel
theorem d_C_below_20 : decode b_C_below 20 = .ok (.goto 11, 3) := by decide +kernel
theorem d_C_below_23 : decode b_C_below 23 = .ok (.aload_n 0, 1) := by decide +kernel
theorem d_C_below_24 : decode b_C_below 24 = .ok (.getfield 24, 3) := by decide +kernel
theorem d_C_below_27 : decode b_C_below 27 = .ok (.iload_n 1, 1) := by decide +kernel
theorem d_C_below_28 : decode b_C_below 28 = .ok (.laload, 1) := by decide +kernel
theorem d_C_below_29 : decode b_C_below 29 = .ok (.lload_n 3, 1) := by decide +kernel
theorem d_C_below_30 : decode b_C_below 30 = .ok (.lsub, 1) := by decide +kernel
theorem d_C_below_31 : decode b_C_below 31 = .ok (.lreturn, 1) := by decide +kernel
abbrev b_C_above : ByteArray := prog_2_method_8_code
def y_C_above : MethodName := ⟨"RangeExchange$Course", "above", "(II)J"⟩
theorem d_C_above_0 : decode b_C_above 0 = .ok (.aload_n 0, 1) := by decide +kernel
theorem d_C_above_1 : decode b_C_above 1 = .ok (.getfield 28, 3) := by decide +kernel
theorem d_C_above_4 : decode b_C_above 4 = .ok (.iload_n 1, 1) := by decide +kernel
theorem d_C_above_5 : decode b_C_above 5 = .ok (.iload_n 2, 1) := by decide +kernel
theorem d_C_above_6 : decode b_C_above 6 = .ok (.invokestatic 44, 3) := by decide +kernel
theorem d_C_above_9 : decode b_C_above 9 = .ok (.laload, 1) := by decide +kernel
theorem d_C_above_10 : decode b_C_above 10 = .ok (.lstore_n 3, 1) := by decide +kernel
theorem d_C_above_11 : decode b_C_above 11 = .ok (.aload_n 0, 1) := by decide +kernel
theorem d_C_above_12 : decode b_C_above 12 = .ok (.getfield 17, 3) := by decide +kernel
theorem d_C_above_15 : decode b_C_above 15 = .ok (.iload_n 2, 1) := by decide +kernel
theorem d_C_above_16 : decode b_C_above 16 = .ok (.if_icmp .ge 7, 3) := by decide +kernel
theorem d_C_above_19 : decode b_C_above 19 = .ok (.lload_n 3, 1) := by decide +kernel
theorem d_C_above_20 : decode b_C_above 20 = .ok (.goto 11, 3) := by decide +kernel
theorem d_C_above_23 : decode b_C_above 23 = .ok (.aload_n 0, 1) := by decide +kernel
theorem d_C_above_24 : decode b_C_above 24 = .ok (.getfield 24, 3) := by decide +kernel
theorem d_C_above_27 : decode b_C_above 27 = .ok (.iload_n 1, 1) := by decide +kernel
theorem d_C_above_28 : decode b_C_above 28 = .ok (.laload, 1) := by decide +kernel
theorem d_C_above_29 : decode b_C_above 29 = .ok (.lload_n 3, 1) := by decide +kernel
theorem d_C_above_30 : decode b_C_above 30 = .ok (.lsub, 1) := by decide +kernel
theorem d_C_above_31 : decode b_C_above 31 = .ok (.lreturn, 1) := by decide +kernel
abbrev b_C_slot : ByteArray := prog_2_method_9_code
def y_C_slot : MethodName := ⟨"RangeExchange$Course", "slot", "(II)I"⟩
theorem d_C_slot_0 : decode b_C_slot 0 = .ok (.iload_n 0, 1) := by decide +kernel
theorem d_C_slot_1 : decode b_C_slot 1 = .ok (.bipush 81, 2) := by decide +kernel
theorem d_C_slot_3 : decode b_C_slot 3 = .ok (.imul, 1) := by decide +kernel
theorem d_C_slot_4 : decode b_C_slot 4 = .ok (.iload_n 1, 1) := by decide +kernel
theorem d_C_slot_5 : decode b_C_slot 5 = .ok (.iadd, 1) := by decide +kernel
theorem d_C_slot_6 : decode b_C_slot 6 = .ok (.bipush (-40), 2) := by decide +kernel
theorem d_C_slot_8 : decode b_C_slot 8 = .ok (.isub, 1) := by decide +kernel
theorem d_C_slot_9 : decode b_C_slot 9 = .ok (.ireturn, 1) := by decide +kernel
abbrev b_S_init : ByteArray := prog_4_method_1_code
def y_S_init : MethodName := ⟨"RangeExchange$Position", "<init>", "()V"⟩
theorem d_S_init_0 : decode b_S_init 0 = .ok (.aload_n 0, 1) := by decide +kernel
theorem d_S_init_1 : decode b_S_init 1 = .ok (.invokespecial 3, 3) := by decide +kernel
theorem d_S_init_4 : decode b_S_init 4 = .ok (.aload_n 0, 1) := by decide +kernel
theorem d_S_init_5 : decode b_S_init 5 = .ok (.iconst 2, 1) := by decide +kernel
theorem d_S_init_6 : decode b_S_init 6 = .ok (.newarray .long, 2) := by decide +kernel
theorem d_S_init_8 : decode b_S_init 8 = .ok (.putfield 9, 3) := by decide +kernel
theorem d_S_init_11 : decode b_S_init 11 = .ok (.aload_n 0, 1) := by decide +kernel
theorem d_S_init_12 : decode b_S_init 12 = .ok (.iconst 2, 1) := by decide +kernel
theorem d_S_init_13 : decode b_S_init 13 = .ok (.newarray .long, 2) := by decide +kernel
theorem d_S_init_15 : decode b_S_init 15 = .ok (.putfield 15, 3) := by decide +kernel
theorem d_S_init_18 : decode b_S_init 18 = .ok (.return_, 1) := by decide +kernel
abbrev b_S_isNone : ByteArray := prog_4_method_2_code
def y_S_isNone : MethodName := ⟨"RangeExchange$Position", "isNone", "()Z"⟩
theorem d_S_isNone_0 : decode b_S_isNone 0 = .ok (.aload_n 0, 1) := by decide +kernel
theorem d_S_isNone_1 : decode b_S_isNone 1 = .ok (.getfield 18, 3) := by decide +kernel
theorem d_S_isNone_4 : decode b_S_isNone 4 = .ok (.ifCond .ne 29, 3) := by decide +kernel
theorem d_S_isNone_7 : decode b_S_isNone 7 = .ok (.aload_n 0, 1) := by decide +kernel
theorem d_S_isNone_8 : decode b_S_isNone 8 = .ok (.getfield 15, 3) := by decide +kernel
theorem d_S_isNone_11 : decode b_S_isNone 11 = .ok (.iconst 0, 1) := by decide +kernel
theorem d_S_isNone_12 : decode b_S_isNone 12 = .ok (.laload, 1) := by decide +kernel
theorem d_S_isNone_13 : decode b_S_isNone 13 = .ok (.lconst 0, 1) := by decide +kernel
theorem d_S_isNone_14 : decode b_S_isNone 14 = .ok (.lcmp, 1) := by decide +kernel
theorem d_S_isNone_15 : decode b_S_isNone 15 = .ok (.ifCond .ne 18, 3) := by decide +kernel
theorem d_S_isNone_18 : decode b_S_isNone 18 = .ok (.aload_n 0, 1) := by decide +kernel
theorem d_S_isNone_19 : decode b_S_isNone 19 = .ok (.getfield 15, 3) := by decide +kernel
theorem d_S_isNone_22 : decode b_S_isNone 22 = .ok (.iconst 1, 1) := by decide +kernel
theorem d_S_isNone_23 : decode b_S_isNone 23 = .ok (.laload, 1) := by decide +kernel
theorem d_S_isNone_24 : decode b_S_isNone 24 = .ok (.lconst 0, 1) := by decide +kernel
theorem d_S_isNone_25 : decode b_S_isNone 25 = .ok (.lcmp, 1) := by decide +kernel
theorem d_S_isNone_26 : decode b_S_isNone 26 = .ok (.ifCond .ne 7, 3) := by decide +kernel
theorem d_S_isNone_29 : decode b_S_isNone 29 = .ok (.iconst 1, 1) := by decide +kernel
theorem d_S_isNone_30 : decode b_S_isNone 30 = .ok (.goto 4, 3) := by decide +kernel
theorem d_S_isNone_33 : decode b_S_isNone 33 = .ok (.iconst 0, 1) := by decide +kernel
theorem d_S_isNone_34 : decode b_S_isNone 34 = .ok (.ireturn, 1) := by decide +kernel
abbrev b_S_isOf : ByteArray := prog_4_method_3_code
def y_S_isOf : MethodName := ⟨"RangeExchange$Position", "isOf", "(IIII)Z"⟩
theorem d_S_isOf_0 : decode b_S_isOf 0 = .ok (.aload_n 0, 1) := by decide +kernel
theorem d_S_isOf_1 : decode b_S_isOf 1 = .ok (.getfield 22, 3) := by decide +kernel
theorem d_S_isOf_4 : decode b_S_isOf 4 = .ok (.iload_n 1, 1) := by decide +kernel
theorem d_S_isOf_5 : decode b_S_isOf 5 = .ok (.if_icmp .ne 32, 3) := by decide +kernel
theorem d_S_isOf_8 : decode b_S_isOf 8 = .ok (.aload_n 0, 1) := by decide +kernel
theorem d_S_isOf_9 : decode b_S_isOf 9 = .ok (.getfield 25, 3) := by decide +kernel
theorem d_S_isOf_12 : decode b_S_isOf 12 = .ok (.iload_n 2, 1) := by decide +kernel
theorem d_S_isOf_13 : decode b_S_isOf 13 = .ok (.if_icmp .ne 24, 3) := by decide +kernel
theorem d_S_isOf_16 : decode b_S_isOf 16 = .ok (.aload_n 0, 1) := by decide +kernel
theorem d_S_isOf_17 : decode b_S_isOf 17 = .ok (.getfield 28, 3) := by decide +kernel
theorem d_S_isOf_20 : decode b_S_isOf 20 = .ok (.iload_n 3, 1) := by decide +kernel
theorem d_S_isOf_21 : decode b_S_isOf 21 = .ok (.if_icmp .ne 16, 3) := by decide +kernel
theorem d_S_isOf_24 : decode b_S_isOf 24 = .ok (.aload_n 0, 1) := by decide +kernel
theorem d_S_isOf_25 : decode b_S_isOf 25 = .ok (.getfield 31, 3) := by decide +kernel
theorem d_S_isOf_28 : decode b_S_isOf 28 = .ok (.iload 4, 2) := by decide +kernel
theorem d_S_isOf_30 : decode b_S_isOf 30 = .ok (.if_icmp .ne 7, 3) := by decide +kernel
theorem d_S_isOf_33 : decode b_S_isOf 33 = .ok (.iconst 1, 1) := by decide +kernel
theorem d_S_isOf_34 : decode b_S_isOf 34 = .ok (.goto 4, 3) := by decide +kernel
theorem d_S_isOf_37 : decode b_S_isOf 37 = .ok (.iconst 0, 1) := by decide +kernel
theorem d_S_isOf_38 : decode b_S_isOf 38 = .ok (.ireturn, 1) := by decide +kernel
abbrev b_S_open : ByteArray := prog_4_method_4_code
def y_S_open : MethodName := ⟨"RangeExchange$Position", "open", "(IIII)V"⟩
theorem d_S_open_0 : decode b_S_open 0 = .ok (.aload_n 0, 1) := by decide +kernel
theorem d_S_open_1 : decode b_S_open 1 = .ok (.iload_n 1, 1) := by decide +kernel
theorem d_S_open_2 : decode b_S_open 2 = .ok (.putfield 22, 3) := by decide +kernel
theorem d_S_open_5 : decode b_S_open 5 = .ok (.aload_n 0, 1) := by decide +kernel
theorem d_S_open_6 : decode b_S_open 6 = .ok (.iload_n 2, 1) := by decide +kernel
theorem d_S_open_7 : decode b_S_open 7 = .ok (.putfield 25, 3) := by decide +kernel
theorem d_S_open_10 : decode b_S_open 10 = .ok (.aload_n 0, 1) := by decide +kernel
theorem d_S_open_11 : decode b_S_open 11 = .ok (.iload_n 3, 1) := by decide +kernel
theorem d_S_open_12 : decode b_S_open 12 = .ok (.putfield 28, 3) := by decide +kernel
theorem d_S_open_15 : decode b_S_open 15 = .ok (.aload_n 0, 1) := by decide +kernel
theorem d_S_open_16 : decode b_S_open 16 = .ok (.iload 4, 2) := by decide +kernel
theorem d_S_open_18 : decode b_S_open 18 = .ok (.putfield 31, 3) := by decide +kernel
theorem d_S_open_21 : decode b_S_open 21 = .ok (.aload_n 0, 1) := by decide +kernel
theorem d_S_open_22 : decode b_S_open 22 = .ok (.getfield 9, 3) := by decide +kernel
theorem d_S_open_25 : decode b_S_open 25 = .ok (.iconst 0, 1) := by decide +kernel
theorem d_S_open_26 : decode b_S_open 26 = .ok (.lconst 0, 1) := by decide +kernel
theorem d_S_open_27 : decode b_S_open 27 = .ok (.lastore, 1) := by decide +kernel
theorem d_S_open_28 : decode b_S_open 28 = .ok (.aload_n 0, 1) := by decide +kernel
theorem d_S_open_29 : decode b_S_open 29 = .ok (.getfield 9, 3) := by decide +kernel
theorem d_S_open_32 : decode b_S_open 32 = .ok (.iconst 1, 1) := by decide +kernel
theorem d_S_open_33 : decode b_S_open 33 = .ok (.lconst 0, 1) := by decide +kernel
theorem d_S_open_34 : decode b_S_open 34 = .ok (.lastore, 1) := by decide +kernel
theorem d_S_open_35 : decode b_S_open 35 = .ok (.return_, 1) := by decide +kernel
abbrev b_S_settle : ByteArray := prog_4_method_5_code
def y_S_settle : MethodName := ⟨"RangeExchange$Position", "settle", "(LRangeExchange$Course;)V"⟩
theorem d_S_settle_0 : decode b_S_settle 0 = .ok (.iconst 0, 1) := by decide +kernel
theorem d_S_settle_1 : decode b_S_settle 1 = .ok (.istore_n 2, 1) := by decide +kernel
theorem d_S_settle_2 : decode b_S_settle 2 = .ok (.iload_n 2, 1) := by decide +kernel
theorem d_S_settle_3 : decode b_S_settle 3 = .ok (.iconst 2, 1) := by decide +kernel
theorem d_S_settle_4 : decode b_S_settle 4 = .ok (.if_icmp .ge 51, 3) := by decide +kernel
theorem d_S_settle_7 : decode b_S_settle 7 = .ok (.aload_n 1, 1) := by decide +kernel
theorem d_S_settle_8 : decode b_S_settle 8 = .ok (.iload_n 2, 1) := by decide +kernel
theorem d_S_settle_9 : decode b_S_settle 9 = .ok (.aload_n 0, 1) := by decide +kernel
theorem d_S_settle_10 : decode b_S_settle 10 = .ok (.getfield 28, 3) := by decide +kernel
theorem d_S_settle_13 : decode b_S_settle 13 = .ok (.aload_n 0, 1) := by decide +kernel
theorem d_S_settle_14 : decode b_S_settle 14 = .ok (.getfield 31, 3) := by decide +kernel
theorem d_S_settle_17 : decode b_S_settle 17 = .ok (.invokevirtual 34, 3) := by decide +kernel
theorem d_S_settle_20 : decode b_S_settle 20 = .ok (.lstore_n 3, 1) := by decide +kernel
theorem d_S_settle_21 : decode b_S_settle 21 = .ok (.aload_n 0, 1) := by decide +kernel
theorem d_S_settle_22 : decode b_S_settle 22 = .ok (.getfield 15, 3) := by decide +kernel
theorem d_S_settle_25 : decode b_S_settle 25 = .ok (.iload_n 2, 1) := by decide +kernel
theorem d_S_settle_26 : decode b_S_settle 26 = .ok (.dup2, 1) := by decide +kernel
theorem d_S_settle_27 : decode b_S_settle 27 = .ok (.laload, 1) := by decide +kernel
theorem d_S_settle_28 : decode b_S_settle 28 = .ok (.aload_n 0, 1) := by decide +kernel
theorem d_S_settle_29 : decode b_S_settle 29 = .ok (.lload_n 3, 1) := by decide +kernel
theorem d_S_settle_30 : decode b_S_settle 30 = .ok (.aload_n 0, 1) := by decide +kernel
theorem d_S_settle_31 : decode b_S_settle 31 = .ok (.getfield 9, 3) := by decide +kernel
theorem d_S_settle_34 : decode b_S_settle 34 = .ok (.iload_n 2, 1) := by decide +kernel
theorem d_S_settle_35 : decode b_S_settle 35 = .ok (.laload, 1) := by decide +kernel
theorem d_S_settle_36 : decode b_S_settle 36 = .ok (.lsub, 1) := by decide +kernel
theorem d_S_settle_37 : decode b_S_settle 37 = .ok (.invokevirtual 40, 3) := by decide +kernel
theorem d_S_settle_40 : decode b_S_settle 40 = .ok (.ladd, 1) := by decide +kernel
theorem d_S_settle_41 : decode b_S_settle 41 = .ok (.lastore, 1) := by decide +kernel
theorem d_S_settle_42 : decode b_S_settle 42 = .ok (.aload_n 0, 1) := by decide +kernel
theorem d_S_settle_43 : decode b_S_settle 43 = .ok (.getfield 9, 3) := by decide +kernel
theorem d_S_settle_46 : decode b_S_settle 46 = .ok (.iload_n 2, 1) := by decide +kernel
theorem d_S_settle_47 : decode b_S_settle 47 = .ok (.lload_n 3, 1) := by decide +kernel
theorem d_S_settle_48 : decode b_S_settle 48 = .ok (.lastore, 1) := by decide +kernel
theorem d_S_settle_49 : decode b_S_settle 49 = .ok (.iinc 2 1, 3) := by decide +kernel
theorem d_S_settle_52 : decode b_S_settle 52 = .ok (.goto (-50), 3) := by decide +kernel
theorem d_S_settle_55 : decode b_S_settle 55 = .ok (.return_, 1) := by decide +kernel
abbrev b_S_share : ByteArray := prog_4_method_6_code
def y_S_share : MethodName := ⟨"RangeExchange$Position", "share", "(J)J"⟩
theorem d_S_share_0 : decode b_S_share 0 = .ok (.lload_n 1, 1) := by decide +kernel
theorem d_S_share_1 : decode b_S_share 1 = .ok (.bipush 32, 2) := by decide +kernel
theorem d_S_share_3 : decode b_S_share 3 = .ok (.lushr, 1) := by decide +kernel
theorem d_S_share_4 : decode b_S_share 4 = .ok (.lstore_n 3, 1) := by decide +kernel
theorem d_S_share_5 : decode b_S_share 5 = .ok (.lload_n 1, 1) := by decide +kernel
theorem d_S_share_6 : decode b_S_share 6 = .ok (.ldc2_w 44, 3) := by decide +kernel
theorem d_S_share_9 : decode b_S_share 9 = .ok (.land, 1) := by decide +kernel
theorem d_S_share_10 : decode b_S_share 10 = .ok (.lstore 5, 2) := by decide +kernel
theorem d_S_share_12 : decode b_S_share 12 = .ok (.lload_n 3, 1) := by decide +kernel
theorem d_S_share_13 : decode b_S_share 13 = .ok (.aload_n 0, 1) := by decide +kernel
theorem d_S_share_14 : decode b_S_share 14 = .ok (.getfield 18, 3) := by decide +kernel
theorem d_S_share_17 : decode b_S_share 17 = .ok (.i2l, 1) := by decide +kernel
theorem d_S_share_18 : decode b_S_share 18 = .ok (.lmul, 1) := by decide +kernel
theorem d_S_share_19 : decode b_S_share 19 = .ok (.lload 5, 2) := by decide +kernel
theorem d_S_share_21 : decode b_S_share 21 = .ok (.aload_n 0, 1) := by decide +kernel
theorem d_S_share_22 : decode b_S_share 22 = .ok (.getfield 18, 3) := by decide +kernel
theorem d_S_share_25 : decode b_S_share 25 = .ok (.i2l, 1) := by decide +kernel
theorem d_S_share_26 : decode b_S_share 26 = .ok (.lmul, 1) := by decide +kernel
theorem d_S_share_27 : decode b_S_share 27 = .ok (.bipush 32, 2) := by decide +kernel
theorem d_S_share_29 : decode b_S_share 29 = .ok (.lushr, 1) := by decide +kernel
theorem d_S_share_30 : decode b_S_share 30 = .ok (.ladd, 1) := by decide +kernel
theorem d_S_share_31 : decode b_S_share 31 = .ok (.lreturn, 1) := by decide +kernel
