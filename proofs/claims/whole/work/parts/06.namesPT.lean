abbrev b_P_init : ByteArray := prog_3_method_1_code
def y_P_init : MethodName := ⟨"RangeExchange$Pool", "<init>", "(LRangeExchange$Roots;I)V"⟩
theorem d_P_init_0 : decode b_P_init 0 = .ok (.aload_n 0, 1) := by decide +kernel
theorem d_P_init_1 : decode b_P_init 1 = .ok (.invokespecial 3, 3) := by decide +kernel
theorem d_P_init_4 : decode b_P_init 4 = .ok (.aload_n 0, 1) := by decide +kernel
theorem d_P_init_5 : decode b_P_init 5 = .ok (.bipush 81, 2) := by decide +kernel
theorem d_P_init_7 : decode b_P_init 7 = .ok (.newarray .int, 2) := by decide +kernel
theorem d_P_init_9 : decode b_P_init 9 = .ok (.putfield 9, 3) := by decide +kernel
theorem d_P_init_12 : decode b_P_init 12 = .ok (.aload_n 0, 1) := by decide +kernel
theorem d_P_init_13 : decode b_P_init 13 = .ok (.bipush 81, 2) := by decide +kernel
theorem d_P_init_15 : decode b_P_init 15 = .ok (.newarray .int, 2) := by decide +kernel
theorem d_P_init_17 : decode b_P_init 17 = .ok (.putfield 15, 3) := by decide +kernel
theorem d_P_init_20 : decode b_P_init 20 = .ok (.aload_n 0, 1) := by decide +kernel
theorem d_P_init_21 : decode b_P_init 21 = .ok (.new 18, 3) := by decide +kernel
theorem d_P_init_24 : decode b_P_init 24 = .ok (.dup, 1) := by decide +kernel
theorem d_P_init_25 : decode b_P_init 25 = .ok (.invokespecial 20, 3) := by decide +kernel
theorem d_P_init_28 : decode b_P_init 28 = .ok (.putfield 21, 3) := by decide +kernel
theorem d_P_init_31 : decode b_P_init 31 = .ok (.aload_n 0, 1) := by decide +kernel
theorem d_P_init_32 : decode b_P_init 32 = .ok (.new 18, 3) := by decide +kernel
theorem d_P_init_35 : decode b_P_init 35 = .ok (.dup, 1) := by decide +kernel
theorem d_P_init_36 : decode b_P_init 36 = .ok (.invokespecial 20, 3) := by decide +kernel
theorem d_P_init_39 : decode b_P_init 39 = .ok (.putfield 25, 3) := by decide +kernel
theorem d_P_init_42 : decode b_P_init 42 = .ok (.aload_n 0, 1) := by decide +kernel
theorem d_P_init_43 : decode b_P_init 43 = .ok (.aload_n 1, 1) := by decide +kernel
theorem d_P_init_44 : decode b_P_init 44 = .ok (.putfield 28, 3) := by decide +kernel
theorem d_P_init_47 : decode b_P_init 47 = .ok (.aload_n 0, 1) := by decide +kernel
theorem d_P_init_48 : decode b_P_init 48 = .ok (.iconst 0, 1) := by decide +kernel
theorem d_P_init_49 : decode b_P_init 49 = .ok (.bipush 100, 2) := by decide +kernel
theorem d_P_init_51 : decode b_P_init 51 = .ok (.iload_n 2, 1) := by decide +kernel
theorem d_P_init_52 : decode b_P_init 52 = .ok (.invokestatic 32, 3) := by decide +kernel
theorem d_P_init_55 : decode b_P_init 55 = .ok (.invokestatic 38, 3) := by decide +kernel
theorem d_P_init_58 : decode b_P_init 58 = .ok (.putfield 41, 3) := by decide +kernel
theorem d_P_init_61 : decode b_P_init 61 = .ok (.return_, 1) := by decide +kernel
abbrev b_P_startTrial : ByteArray := prog_3_method_2_code
def y_P_startTrial : MethodName := ⟨"RangeExchange$Pool", "startTrial", "()V"⟩
theorem d_P_startTrial_0 : decode b_P_startTrial 0 = .ok (.aload_n 0, 1) := by decide +kernel
theorem d_P_startTrial_1 : decode b_P_startTrial 1 = .ok (.getfield 25, 3) := by decide +kernel
theorem d_P_startTrial_4 : decode b_P_startTrial 4 = .ok (.aload_n 0, 1) := by decide +kernel
theorem d_P_startTrial_5 : decode b_P_startTrial 5 = .ok (.getfield 21, 3) := by decide +kernel
theorem d_P_startTrial_8 : decode b_P_startTrial 8 = .ok (.invokevirtual 45, 3) := by decide +kernel
theorem d_P_startTrial_11 : decode b_P_startTrial 11 = .ok (.return_, 1) := by decide +kernel
abbrev b_P_keepTrial : ByteArray := prog_3_method_3_code
def y_P_keepTrial : MethodName := ⟨"RangeExchange$Pool", "keepTrial", "()V"⟩
theorem d_P_keepTrial_0 : decode b_P_keepTrial 0 = .ok (.aload_n 0, 1) := by decide +kernel
theorem d_P_keepTrial_1 : decode b_P_keepTrial 1 = .ok (.getfield 21, 3) := by decide +kernel
theorem d_P_keepTrial_4 : decode b_P_keepTrial 4 = .ok (.astore_n 1, 1) := by decide +kernel
theorem d_P_keepTrial_5 : decode b_P_keepTrial 5 = .ok (.aload_n 0, 1) := by decide +kernel
theorem d_P_keepTrial_6 : decode b_P_keepTrial 6 = .ok (.aload_n 0, 1) := by decide +kernel
theorem d_P_keepTrial_7 : decode b_P_keepTrial 7 = .ok (.getfield 25, 3) := by decide +kernel
theorem d_P_keepTrial_10 : decode b_P_keepTrial 10 = .ok (.putfield 21, 3) := by decide +kernel
theorem d_P_keepTrial_13 : decode b_P_keepTrial 13 = .ok (.aload_n 0, 1) := by decide +kernel
theorem d_P_keepTrial_14 : decode b_P_keepTrial 14 = .ok (.aload_n 1, 1) := by decide +kernel
theorem d_P_keepTrial_15 : decode b_P_keepTrial 15 = .ok (.putfield 25, 3) := by decide +kernel
theorem d_P_keepTrial_18 : decode b_P_keepTrial 18 = .ok (.return_, 1) := by decide +kernel
abbrev b_P_isAhead : ByteArray := prog_3_method_4_code
def y_P_isAhead : MethodName := ⟨"RangeExchange$Pool", "isAhead", "(JZ)Z"⟩
theorem d_P_isAhead_0 : decode b_P_isAhead 0 = .ok (.iload_n 3, 1) := by decide +kernel
theorem d_P_isAhead_1 : decode b_P_isAhead 1 = .ok (.ifCond .eq 23, 3) := by decide +kernel
theorem d_P_isAhead_4 : decode b_P_isAhead 4 = .ok (.lload_n 1, 1) := by decide +kernel
theorem d_P_isAhead_5 : decode b_P_isAhead 5 = .ok (.aload_n 0, 1) := by decide +kernel
theorem d_P_isAhead_6 : decode b_P_isAhead 6 = .ok (.getfield 21, 3) := by decide +kernel
theorem d_P_isAhead_9 : decode b_P_isAhead 9 = .ok (.getfield 49, 3) := by decide +kernel
theorem d_P_isAhead_12 : decode b_P_isAhead 12 = .ok (.lcmp, 1) := by decide +kernel
theorem d_P_isAhead_13 : decode b_P_isAhead 13 = .ok (.ifCond .ge 7, 3) := by decide +kernel
theorem d_P_isAhead_16 : decode b_P_isAhead 16 = .ok (.iconst 1, 1) := by decide +kernel
theorem d_P_isAhead_17 : decode b_P_isAhead 17 = .ok (.goto 24, 3) := by decide +kernel
theorem d_P_isAhead_20 : decode b_P_isAhead 20 = .ok (.iconst 0, 1) := by decide +kernel
theorem d_P_isAhead_21 : decode b_P_isAhead 21 = .ok (.goto 20, 3) := by decide +kernel
theorem d_P_isAhead_24 : decode b_P_isAhead 24 = .ok (.lload_n 1, 1) := by decide +kernel
theorem d_P_isAhead_25 : decode b_P_isAhead 25 = .ok (.aload_n 0, 1) := by decide +kernel
theorem d_P_isAhead_26 : decode b_P_isAhead 26 = .ok (.getfield 21, 3) := by decide +kernel
theorem d_P_isAhead_29 : decode b_P_isAhead 29 = .ok (.getfield 49, 3) := by decide +kernel
theorem d_P_isAhead_32 : decode b_P_isAhead 32 = .ok (.lcmp, 1) := by decide +kernel
theorem d_P_isAhead_33 : decode b_P_isAhead 33 = .ok (.ifCond .le 7, 3) := by decide +kernel
theorem d_P_isAhead_36 : decode b_P_isAhead 36 = .ok (.iconst 1, 1) := by decide +kernel
theorem d_P_isAhead_37 : decode b_P_isAhead 37 = .ok (.goto 4, 3) := by decide +kernel
theorem d_P_isAhead_40 : decode b_P_isAhead 40 = .ok (.iconst 0, 1) := by decide +kernel
theorem d_P_isAhead_41 : decode b_P_isAhead 41 = .ok (.ireturn, 1) := by decide +kernel
abbrev b_P_isSet : ByteArray := prog_3_method_5_code
def y_P_isSet : MethodName := ⟨"RangeExchange$Pool", "isSet", "(I)Z"⟩
theorem d_P_isSet_0 : decode b_P_isSet 0 = .ok (.aload_n 0, 1) := by decide +kernel
theorem d_P_isSet_1 : decode b_P_isSet 1 = .ok (.getfield 9, 3) := by decide +kernel
theorem d_P_isSet_4 : decode b_P_isSet 4 = .ok (.iload_n 1, 1) := by decide +kernel
theorem d_P_isSet_5 : decode b_P_isSet 5 = .ok (.bipush (-40), 2) := by decide +kernel
theorem d_P_isSet_7 : decode b_P_isSet 7 = .ok (.isub, 1) := by decide +kernel
theorem d_P_isSet_8 : decode b_P_isSet 8 = .ok (.iaload, 1) := by decide +kernel
theorem d_P_isSet_9 : decode b_P_isSet 9 = .ok (.ifCond .eq 7, 3) := by decide +kernel
theorem d_P_isSet_12 : decode b_P_isSet 12 = .ok (.iconst 1, 1) := by decide +kernel
theorem d_P_isSet_13 : decode b_P_isSet 13 = .ok (.goto 4, 3) := by decide +kernel
theorem d_P_isSet_16 : decode b_P_isSet 16 = .ok (.iconst 0, 1) := by decide +kernel
theorem d_P_isSet_17 : decode b_P_isSet 17 = .ok (.ireturn, 1) := by decide +kernel
abbrev b_P_netOf : ByteArray := prog_3_method_6_code
def y_P_netOf : MethodName := ⟨"RangeExchange$Pool", "netOf", "(I)I"⟩
theorem d_P_netOf_0 : decode b_P_netOf 0 = .ok (.aload_n 0, 1) := by decide +kernel
theorem d_P_netOf_1 : decode b_P_netOf 1 = .ok (.getfield 15, 3) := by decide +kernel
theorem d_P_netOf_4 : decode b_P_netOf 4 = .ok (.iload_n 1, 1) := by decide +kernel
theorem d_P_netOf_5 : decode b_P_netOf 5 = .ok (.bipush (-40), 2) := by decide +kernel
theorem d_P_netOf_7 : decode b_P_netOf 7 = .ok (.isub, 1) := by decide +kernel
theorem d_P_netOf_8 : decode b_P_netOf 8 = .ok (.iaload, 1) := by decide +kernel
theorem d_P_netOf_9 : decode b_P_netOf 9 = .ok (.ireturn, 1) := by decide +kernel
abbrev b_P_nextDown : ByteArray := prog_3_method_7_code
def y_P_nextDown : MethodName := ⟨"RangeExchange$Pool", "nextDown", "(I)I"⟩
theorem d_P_nextDown_0 : decode b_P_nextDown 0 = .ok (.iload_n 1, 1) := by decide +kernel
theorem d_P_nextDown_1 : decode b_P_nextDown 1 = .ok (.istore_n 2, 1) := by decide +kernel
theorem d_P_nextDown_2 : decode b_P_nextDown 2 = .ok (.iload_n 2, 1) := by decide +kernel
theorem d_P_nextDown_3 : decode b_P_nextDown 3 = .ok (.bipush (-40), 2) := by decide +kernel
theorem d_P_nextDown_5 : decode b_P_nextDown 5 = .ok (.if_icmp .le 19, 3) := by decide +kernel
theorem d_P_nextDown_8 : decode b_P_nextDown 8 = .ok (.aload_n 0, 1) := by decide +kernel
theorem d_P_nextDown_9 : decode b_P_nextDown 9 = .ok (.iload_n 2, 1) := by decide +kernel
theorem d_P_nextDown_10 : decode b_P_nextDown 10 = .ok (.invokevirtual 53, 3) := by decide +kernel
theorem d_P_nextDown_13 : decode b_P_nextDown 13 = .ok (.ifCond .eq 5, 3) := by decide +kernel
theorem d_P_nextDown_16 : decode b_P_nextDown 16 = .ok (.iload_n 2, 1) := by decide +kernel
theorem d_P_nextDown_17 : decode b_P_nextDown 17 = .ok (.ireturn, 1) := by decide +kernel
theorem d_P_nextDown_18 : decode b_P_nextDown 18 = .ok (.iinc 2 (-1), 3) := by decide +kernel
theorem d_P_nextDown_21 : decode b_P_nextDown 21 = .ok (.goto (-19), 3) := by decide +kernel
theorem d_P_nextDown_24 : decode b_P_nextDown 24 = .ok (.bipush (-40), 2) := by decide +kernel
theorem d_P_nextDown_26 : decode b_P_nextDown 26 = .ok (.ireturn, 1) := by decide +kernel
abbrev b_P_nextUp : ByteArray := prog_3_method_8_code
def y_P_nextUp : MethodName := ⟨"RangeExchange$Pool", "nextUp", "(I)I"⟩
theorem d_P_nextUp_0 : decode b_P_nextUp 0 = .ok (.iload_n 1, 1) := by decide +kernel
theorem d_P_nextUp_1 : decode b_P_nextUp 1 = .ok (.iconst 1, 1) := by decide +kernel
theorem d_P_nextUp_2 : decode b_P_nextUp 2 = .ok (.iadd, 1) := by decide +kernel
theorem d_P_nextUp_3 : decode b_P_nextUp 3 = .ok (.istore_n 2, 1) := by decide +kernel
theorem d_P_nextUp_4 : decode b_P_nextUp 4 = .ok (.iload_n 2, 1) := by decide +kernel
theorem d_P_nextUp_5 : decode b_P_nextUp 5 = .ok (.bipush 40, 2) := by decide +kernel
theorem d_P_nextUp_7 : decode b_P_nextUp 7 = .ok (.if_icmp .ge 19, 3) := by decide +kernel
theorem d_P_nextUp_10 : decode b_P_nextUp 10 = .ok (.aload_n 0, 1) := by decide +kernel
theorem d_P_nextUp_11 : decode b_P_nextUp 11 = .ok (.iload_n 2, 1) := by decide +kernel
theorem d_P_nextUp_12 : decode b_P_nextUp 12 = .ok (.invokevirtual 53, 3) := by decide +kernel
theorem d_P_nextUp_15 : decode b_P_nextUp 15 = .ok (.ifCond .eq 5, 3) := by decide +kernel
theorem d_P_nextUp_18 : decode b_P_nextUp 18 = .ok (.iload_n 2, 1) := by decide +kernel
theorem d_P_nextUp_19 : decode b_P_nextUp 19 = .ok (.ireturn, 1) := by decide +kernel
theorem d_P_nextUp_20 : decode b_P_nextUp 20 = .ok (.iinc 2 1, 3) := by decide +kernel
theorem d_P_nextUp_23 : decode b_P_nextUp 23 = .ok (.goto (-19), 3) := by decide +kernel
theorem d_P_nextUp_26 : decode b_P_nextUp 26 = .ok (.bipush 40, 2) := by decide +kernel
theorem d_P_nextUp_28 : decode b_P_nextUp 28 = .ok (.ireturn, 1) := by decide +kernel
abbrev b_P_nearWorth : ByteArray := prog_3_method_9_code
def y_P_nearWorth : MethodName := ⟨"RangeExchange$Pool", "nearWorth", "(IIIZ)J"⟩
theorem d_P_nearWorth_0 : decode b_P_nearWorth 0 = .ok (.aload_n 0, 1) := by decide +kernel
theorem d_P_nearWorth_1 : decode b_P_nearWorth 1 = .ok (.getfield 21, 3) := by decide +kernel
theorem d_P_nearWorth_4 : decode b_P_nearWorth 4 = .ok (.getfield 57, 3) := by decide +kernel
theorem d_P_nearWorth_7 : decode b_P_nearWorth 7 = .ok (.iload_n 2, 1) := by decide +kernel
theorem d_P_nearWorth_8 : decode b_P_nearWorth 8 = .ok (.if_icmp .lt 5, 3) := by decide +kernel
theorem d_P_nearWorth_11 : decode b_P_nearWorth 11 = .ok (.lconst 0, 1) := by decide +kernel
theorem d_P_nearWorth_12 : decode b_P_nearWorth 12 = .ok (.lreturn, 1) := by decide +kernel
theorem d_P_nearWorth_13 : decode b_P_nearWorth 13 = .ok (.aload_n 0, 1) := by decide +kernel
theorem d_P_nearWorth_14 : decode b_P_nearWorth 14 = .ok (.getfield 21, 3) := by decide +kernel
theorem d_P_nearWorth_17 : decode b_P_nearWorth 17 = .ok (.getfield 57, 3) := by decide +kernel
theorem d_P_nearWorth_20 : decode b_P_nearWorth 20 = .ok (.iload_n 1, 1) := by decide +kernel
theorem d_P_nearWorth_21 : decode b_P_nearWorth 21 = .ok (.if_icmp .ge 14, 3) := by decide +kernel
theorem d_P_nearWorth_24 : decode b_P_nearWorth 24 = .ok (.aload_n 0, 1) := by decide +kernel
theorem d_P_nearWorth_25 : decode b_P_nearWorth 25 = .ok (.getfield 28, 3) := by decide +kernel
theorem d_P_nearWorth_28 : decode b_P_nearWorth 28 = .ok (.iload_n 1, 1) := by decide +kernel
theorem d_P_nearWorth_29 : decode b_P_nearWorth 29 = .ok (.invokevirtual 60, 3) := by decide +kernel
theorem d_P_nearWorth_32 : decode b_P_nearWorth 32 = .ok (.goto 10, 3) := by decide +kernel
theorem d_P_nearWorth_35 : decode b_P_nearWorth 35 = .ok (.aload_n 0, 1) := by decide +kernel
theorem d_P_nearWorth_36 : decode b_P_nearWorth 36 = .ok (.getfield 21, 3) := by decide +kernel
theorem d_P_nearWorth_39 : decode b_P_nearWorth 39 = .ok (.getfield 49, 3) := by decide +kernel
theorem d_P_nearWorth_42 : decode b_P_nearWorth 42 = .ok (.lstore 5, 2) := by decide +kernel
theorem d_P_nearWorth_44 : decode b_P_nearWorth 44 = .ok (.lload 5, 2) := by decide +kernel
theorem d_P_nearWorth_46 : decode b_P_nearWorth 46 = .ok (.aload_n 0, 1) := by decide +kernel
theorem d_P_nearWorth_47 : decode b_P_nearWorth 47 = .ok (.getfield 28, 3) := by decide +kernel
theorem d_P_nearWorth_50 : decode b_P_nearWorth 50 = .ok (.iload_n 2, 1) := by decide +kernel
theorem d_P_nearWorth_51 : decode b_P_nearWorth 51 = .ok (.invokevirtual 60, 3) := by decide +kernel
theorem d_P_nearWorth_54 : decode b_P_nearWorth 54 = .ok (.iload_n 3, 1) := by decide +kernel
theorem d_P_nearWorth_55 : decode b_P_nearWorth 55 = .ok (.i2l, 1) := by decide +kernel
theorem d_P_nearWorth_56 : decode b_P_nearWorth 56 = .ok (.iload 4, 2) := by decide +kernel
theorem d_P_nearWorth_58 : decode b_P_nearWorth 58 = .ok (.invokestatic 66, 3) := by decide +kernel
theorem d_P_nearWorth_61 : decode b_P_nearWorth 61 = .ok (.lreturn, 1) := by decide +kernel
abbrev b_P_farWorth : ByteArray := prog_3_method_10_code
def y_P_farWorth : MethodName := ⟨"RangeExchange$Pool", "farWorth", "(IIIZ)J"⟩
theorem d_P_farWorth_0 : decode b_P_farWorth 0 = .ok (.aload_n 0, 1) := by decide +kernel
theorem d_P_farWorth_1 : decode b_P_farWorth 1 = .ok (.getfield 21, 3) := by decide +kernel
theorem d_P_farWorth_4 : decode b_P_farWorth 4 = .ok (.getfield 57, 3) := by decide +kernel
theorem d_P_farWorth_7 : decode b_P_farWorth 7 = .ok (.iload_n 1, 1) := by decide +kernel
theorem d_P_farWorth_8 : decode b_P_farWorth 8 = .ok (.if_icmp .ge 5, 3) := by decide +kernel
theorem d_P_farWorth_11 : decode b_P_farWorth 11 = .ok (.lconst 0, 1) := by decide +kernel
theorem d_P_farWorth_12 : decode b_P_farWorth 12 = .ok (.lreturn, 1) := by decide +kernel
theorem d_P_farWorth_13 : decode b_P_farWorth 13 = .ok (.aload_n 0, 1) := by decide +kernel
theorem d_P_farWorth_14 : decode b_P_farWorth 14 = .ok (.getfield 21, 3) := by decide +kernel
theorem d_P_farWorth_17 : decode b_P_farWorth 17 = .ok (.getfield 57, 3) := by decide +kernel
theorem d_P_farWorth_20 : decode b_P_farWorth 20 = .ok (.iload_n 2, 1) := by decide +kernel
theorem d_P_farWorth_21 : decode b_P_farWorth 21 = .ok (.if_icmp .lt 14, 3) := by decide +kernel
theorem d_P_farWorth_24 : decode b_P_farWorth 24 = .ok (.aload_n 0, 1) := by decide +kernel
theorem d_P_farWorth_25 : decode b_P_farWorth 25 = .ok (.getfield 28, 3) := by decide +kernel
theorem d_P_farWorth_28 : decode b_P_farWorth 28 = .ok (.iload_n 2, 1) := by decide +kernel
theorem d_P_farWorth_29 : decode b_P_farWorth 29 = .ok (.invokevirtual 60, 3) := by decide +kernel
theorem d_P_farWorth_32 : decode b_P_farWorth 32 = .ok (.goto 10, 3) := by decide +kernel
theorem d_P_farWorth_35 : decode b_P_farWorth 35 = .ok (.aload_n 0, 1) := by decide +kernel
theorem d_P_farWorth_36 : decode b_P_farWorth 36 = .ok (.getfield 21, 3) := by decide +kernel
theorem d_P_farWorth_39 : decode b_P_farWorth 39 = .ok (.getfield 49, 3) := by decide +kernel
theorem d_P_farWorth_42 : decode b_P_farWorth 42 = .ok (.lstore 5, 2) := by decide +kernel
theorem d_P_farWorth_44 : decode b_P_farWorth 44 = .ok (.aload_n 0, 1) := by decide +kernel
theorem d_P_farWorth_45 : decode b_P_farWorth 45 = .ok (.getfield 28, 3) := by decide +kernel
theorem d_P_farWorth_48 : decode b_P_farWorth 48 = .ok (.iload_n 1, 1) := by decide +kernel
theorem d_P_farWorth_49 : decode b_P_farWorth 49 = .ok (.invokevirtual 60, 3) := by decide +kernel
theorem d_P_farWorth_52 : decode b_P_farWorth 52 = .ok (.lload 5, 2) := by decide +kernel
theorem d_P_farWorth_54 : decode b_P_farWorth 54 = .ok (.iload_n 3, 1) := by decide +kernel
theorem d_P_farWorth_55 : decode b_P_farWorth 55 = .ok (.i2l, 1) := by decide +kernel
theorem d_P_farWorth_56 : decode b_P_farWorth 56 = .ok (.iload 4, 2) := by decide +kernel
theorem d_P_farWorth_58 : decode b_P_farWorth 58 = .ok (.invokestatic 72, 3) := by decide +kernel
theorem d_P_farWorth_61 : decode b_P_farWorth 61 = .ok (.lreturn, 1) := by decide +kernel
abbrev b_P_add : ByteArray := prog_3_method_11_code
def y_P_add : MethodName := ⟨"RangeExchange$Pool", "add", "(LRangeExchange$Position;I)V"⟩
theorem d_P_add_0 : decode b_P_add 0 = .ok (.aload_n 0, 1) := by decide +kernel
theorem d_P_add_1 : decode b_P_add 1 = .ok (.aload_n 1, 1) := by decide +kernel
theorem d_P_add_2 : decode b_P_add 2 = .ok (.getfield 75, 3) := by decide +kernel
theorem d_P_add_5 : decode b_P_add 5 = .ok (.iload_n 2, 1) := by decide +kernel
theorem d_P_add_6 : decode b_P_add 6 = .ok (.invokevirtual 80, 3) := by decide +kernel
theorem d_P_add_9 : decode b_P_add 9 = .ok (.aload_n 0, 1) := by decide +kernel
theorem d_P_add_10 : decode b_P_add 10 = .ok (.aload_n 1, 1) := by decide +kernel
theorem d_P_add_11 : decode b_P_add 11 = .ok (.getfield 84, 3) := by decide +kernel
theorem d_P_add_14 : decode b_P_add 14 = .ok (.iload_n 2, 1) := by decide +kernel
theorem d_P_add_15 : decode b_P_add 15 = .ok (.invokevirtual 80, 3) := by decide +kernel
theorem d_P_add_18 : decode b_P_add 18 = .ok (.aload_n 0, 1) := by decide +kernel
theorem d_P_add_19 : decode b_P_add 19 = .ok (.getfield 15, 3) := by decide +kernel
theorem d_P_add_22 : decode b_P_add 22 = .ok (.aload_n 1, 1) := by decide +kernel
theorem d_P_add_23 : decode b_P_add 23 = .ok (.getfield 75, 3) := by decide +kernel
theorem d_P_add_26 : decode b_P_add 26 = .ok (.bipush (-40), 2) := by decide +kernel
theorem d_P_add_28 : decode b_P_add 28 = .ok (.isub, 1) := by decide +kernel
theorem d_P_add_29 : decode b_P_add 29 = .ok (.dup2, 1) := by decide +kernel
theorem d_P_add_30 : decode b_P_add 30 = .ok (.iaload, 1) := by decide +kernel
theorem d_P_add_31 : decode b_P_add 31 = .ok (.iload_n 2, 1) := by decide +kernel
theorem d_P_add_32 : decode b_P_add 32 = .ok (.iadd, 1) := by decide +kernel
theorem d_P_add_33 : decode b_P_add 33 = .ok (.iastore, 1) := by decide +kernel
theorem d_P_add_34 : decode b_P_add 34 = .ok (.aload_n 0, 1) := by decide +kernel
theorem d_P_add_35 : decode b_P_add 35 = .ok (.getfield 15, 3) := by decide +kernel
theorem d_P_add_38 : decode b_P_add 38 = .ok (.aload_n 1, 1) := by decide +kernel
theorem d_P_add_39 : decode b_P_add 39 = .ok (.getfield 84, 3) := by decide +kernel
theorem d_P_add_42 : decode b_P_add 42 = .ok (.bipush (-40), 2) := by decide +kernel
theorem d_P_add_44 : decode b_P_add 44 = .ok (.isub, 1) := by decide +kernel
theorem d_P_add_45 : decode b_P_add 45 = .ok (.dup2, 1) := by decide +kernel
theorem d_P_add_46 : decode b_P_add 46 = .ok (.iaload, 1) := by decide +kernel
theorem d_P_add_47 : decode b_P_add 47 = .ok (.iload_n 2, 1) := by decide +kernel
theorem d_P_add_48 : decode b_P_add 48 = .ok (.isub, 1) := by decide +kernel
theorem d_P_add_49 : decode b_P_add 49 = .ok (.iastore, 1) := by decide +kernel
theorem d_P_add_50 : decode b_P_add 50 = .ok (.aload_n 1, 1) := by decide +kernel
theorem d_P_add_51 : decode b_P_add 51 = .ok (.aload_n 0, 1) := by decide +kernel
theorem d_P_add_52 : decode b_P_add 52 = .ok (.getfield 21, 3) := by decide +kernel
theorem d_P_add_55 : decode b_P_add 55 = .ok (.invokevirtual 87, 3) := by decide +kernel
theorem d_P_add_58 : decode b_P_add 58 = .ok (.aload_n 1, 1) := by decide +kernel
theorem d_P_add_59 : decode b_P_add 59 = .ok (.dup, 1) := by decide +kernel
theorem d_P_add_60 : decode b_P_add 60 = .ok (.getfield 90, 3) := by decide +kernel
theorem d_P_add_63 : decode b_P_add 63 = .ok (.iload_n 2, 1) := by decide +kernel
theorem d_P_add_64 : decode b_P_add 64 = .ok (.iadd, 1) := by decide +kernel
theorem d_P_add_65 : decode b_P_add 65 = .ok (.putfield 90, 3) := by decide +kernel
theorem d_P_add_68 : decode b_P_add 68 = .ok (.aload_n 1, 1) := by decide +kernel
theorem d_P_add_69 : decode b_P_add 69 = .ok (.getfield 75, 3) := by decide +kernel
theorem d_P_add_72 : decode b_P_add 72 = .ok (.aload_n 0, 1) := by decide +kernel
theorem d_P_add_73 : decode b_P_add 73 = .ok (.getfield 21, 3) := by decide +kernel
theorem d_P_add_76 : decode b_P_add 76 = .ok (.getfield 57, 3) := by decide +kernel
theorem d_P_add_79 : decode b_P_add 79 = .ok (.if_icmp .gt 30, 3) := by decide +kernel
theorem d_P_add_82 : decode b_P_add 82 = .ok (.aload_n 0, 1) := by decide +kernel
theorem d_P_add_83 : decode b_P_add 83 = .ok (.getfield 21, 3) := by decide +kernel
theorem d_P_add_86 : decode b_P_add 86 = .ok (.getfield 57, 3) := by decide +kernel
theorem d_P_add_89 : decode b_P_add 89 = .ok (.aload_n 1, 1) := by decide +kernel
theorem d_P_add_90 : decode b_P_add 90 = .ok (.getfield 84, 3) := by decide +kernel
theorem d_P_add_93 : decode b_P_add 93 = .ok (.if_icmp .ge 16, 3) := by decide +kernel
theorem d_P_add_96 : decode b_P_add 96 = .ok (.aload_n 0, 1) := by decide +kernel
theorem d_P_add_97 : decode b_P_add 97 = .ok (.getfield 21, 3) := by decide +kernel
theorem d_P_add_100 : decode b_P_add 100 = .ok (.dup, 1) := by decide +kernel
theorem d_P_add_101 : decode b_P_add 101 = .ok (.getfield 93, 3) := by decide +kernel
theorem d_P_add_104 : decode b_P_add 104 = .ok (.iload_n 2, 1) := by decide +kernel
theorem d_P_add_105 : decode b_P_add 105 = .ok (.iadd, 1) := by decide +kernel
theorem d_P_add_106 : decode b_P_add 106 = .ok (.putfield 93, 3) := by decide +kernel
theorem d_P_add_109 : decode b_P_add 109 = .ok (.aload_n 0, 1) := by decide +kernel
theorem d_P_add_110 : decode b_P_add 110 = .ok (.aload_n 1, 1) := by decide +kernel
theorem d_P_add_111 : decode b_P_add 111 = .ok (.getfield 75, 3) := by decide +kernel
theorem d_P_add_114 : decode b_P_add 114 = .ok (.invokevirtual 96, 3) := by decide +kernel
theorem d_P_add_117 : decode b_P_add 117 = .ok (.aload_n 0, 1) := by decide +kernel
theorem d_P_add_118 : decode b_P_add 118 = .ok (.aload_n 1, 1) := by decide +kernel
theorem d_P_add_119 : decode b_P_add 119 = .ok (.getfield 84, 3) := by decide +kernel
theorem d_P_add_122 : decode b_P_add 122 = .ok (.invokevirtual 96, 3) := by decide +kernel
theorem d_P_add_125 : decode b_P_add 125 = .ok (.return_, 1) := by decide +kernel
abbrev b_P_growGross : ByteArray := prog_3_method_12_code
def y_P_growGross : MethodName := ⟨"RangeExchange$Pool", "growGross", "(II)V"⟩
theorem d_P_growGross_0 : decode b_P_growGross 0 = .ok (.aload_n 0, 1) := by decide +kernel
theorem d_P_growGross_1 : decode b_P_growGross 1 = .ok (.iload_n 1, 1) := by decide +kernel
theorem d_P_growGross_2 : decode b_P_growGross 2 = .ok (.invokevirtual 53, 3) := by decide +kernel
theorem d_P_growGross_5 : decode b_P_growGross 5 = .ok (.ifCond .ne 11, 3) := by decide +kernel
theorem d_P_growGross_8 : decode b_P_growGross 8 = .ok (.aload_n 0, 1) := by decide +kernel
theorem d_P_growGross_9 : decode b_P_growGross 9 = .ok (.getfield 21, 3) := by decide +kernel
theorem d_P_growGross_12 : decode b_P_growGross 12 = .ok (.iload_n 1, 1) := by decide +kernel
theorem d_P_growGross_13 : decode b_P_growGross 13 = .ok (.invokevirtual 100, 3) := by decide +kernel
theorem d_P_growGross_16 : decode b_P_growGross 16 = .ok (.aload_n 0, 1) := by decide +kernel
theorem d_P_growGross_17 : decode b_P_growGross 17 = .ok (.getfield 9, 3) := by decide +kernel
theorem d_P_growGross_20 : decode b_P_growGross 20 = .ok (.iload_n 1, 1) := by decide +kernel
theorem d_P_growGross_21 : decode b_P_growGross 21 = .ok (.bipush (-40), 2) := by decide +kernel
theorem d_P_growGross_23 : decode b_P_growGross 23 = .ok (.isub, 1) := by decide +kernel
theorem d_P_growGross_24 : decode b_P_growGross 24 = .ok (.dup2, 1) := by decide +kernel
theorem d_P_growGross_25 : decode b_P_growGross 25 = .ok (.iaload, 1) := by decide +kernel
theorem d_P_growGross_26 : decode b_P_growGross 26 = .ok (.iload_n 2, 1) := by decide +kernel
theorem d_P_growGross_27 : decode b_P_growGross 27 = .ok (.iadd, 1) := by decide +kernel
theorem d_P_growGross_28 : decode b_P_growGross 28 = .ok (.iastore, 1) := by decide +kernel
theorem d_P_growGross_29 : decode b_P_growGross 29 = .ok (.return_, 1) := by decide +kernel
abbrev b_P_clearIfUnset : ByteArray := prog_3_method_13_code
def y_P_clearIfUnset : MethodName := ⟨"RangeExchange$Pool", "clearIfUnset", "(I)V"⟩
theorem d_P_clearIfUnset_0 : decode b_P_clearIfUnset 0 = .ok (.aload_n 0, 1) := by decide +kernel
theorem d_P_clearIfUnset_1 : decode b_P_clearIfUnset 1 = .ok (.iload_n 1, 1) := by decide +kernel
theorem d_P_clearIfUnset_2 : decode b_P_clearIfUnset 2 = .ok (.invokevirtual 53, 3) := by decide +kernel
theorem d_P_clearIfUnset_5 : decode b_P_clearIfUnset 5 = .ok (.ifCond .ne 21, 3) := by decide +kernel
theorem d_P_clearIfUnset_8 : decode b_P_clearIfUnset 8 = .ok (.aload_n 0, 1) := by decide +kernel
theorem d_P_clearIfUnset_9 : decode b_P_clearIfUnset 9 = .ok (.getfield 21, 3) := by decide +kernel
theorem d_P_clearIfUnset_12 : decode b_P_clearIfUnset 12 = .ok (.iload_n 1, 1) := by decide +kernel
theorem d_P_clearIfUnset_13 : decode b_P_clearIfUnset 13 = .ok (.invokevirtual 103, 3) := by decide +kernel
theorem d_P_clearIfUnset_16 : decode b_P_clearIfUnset 16 = .ok (.aload_n 0, 1) := by decide +kernel
theorem d_P_clearIfUnset_17 : decode b_P_clearIfUnset 17 = .ok (.getfield 15, 3) := by decide +kernel
theorem d_P_clearIfUnset_20 : decode b_P_clearIfUnset 20 = .ok (.iload_n 1, 1) := by decide +kernel
theorem d_P_clearIfUnset_21 : decode b_P_clearIfUnset 21 = .ok (.bipush (-40), 2) := by decide +kernel
theorem d_P_clearIfUnset_23 : decode b_P_clearIfUnset 23 = .ok (.isub, 1) := by decide +kernel
theorem d_P_clearIfUnset_24 : decode b_P_clearIfUnset 24 = .ok (.iconst 0, 1) := by decide +kernel
theorem d_P_clearIfUnset_25 : decode b_P_clearIfUnset 25 = .ok (.iastore, 1) := by decide +kernel
theorem d_P_clearIfUnset_26 : decode b_P_clearIfUnset 26 = .ok (.return_, 1) := by decide +kernel
abbrev b_T_init : ByteArray := prog_7_method_1_code
def y_T_init : MethodName := ⟨"RangeExchange$Trade", "<init>", "(LRangeExchange$Roots;)V"⟩
theorem d_T_init_0 : decode b_T_init 0 = .ok (.aload_n 0, 1) := by decide +kernel
theorem d_T_init_1 : decode b_T_init 1 = .ok (.invokespecial 3, 3) := by decide +kernel
theorem d_T_init_4 : decode b_T_init 4 = .ok (.aload_n 0, 1) := by decide +kernel
theorem d_T_init_5 : decode b_T_init 5 = .ok (.aload_n 1, 1) := by decide +kernel
theorem d_T_init_6 : decode b_T_init 6 = .ok (.putfield 9, 3) := by decide +kernel
theorem d_T_init_9 : decode b_T_init 9 = .ok (.return_, 1) := by decide +kernel
abbrev b_T_run : ByteArray := prog_7_method_2_code
def y_T_run : MethodName := ⟨"RangeExchange$Trade", "run", "(LRangeExchange$Pool;ZJJ)V"⟩
theorem d_T_run_0 : decode b_T_run 0 = .ok (.aload_n 1, 1) := by decide +kernel
theorem d_T_run_1 : decode b_T_run 1 = .ok (.invokevirtual 15, 3) := by decide +kernel
theorem d_T_run_4 : decode b_T_run 4 = .ok (.aload_n 0, 1) := by decide +kernel
theorem d_T_run_5 : decode b_T_run 5 = .ok (.aload_n 1, 1) := by decide +kernel
theorem d_T_run_6 : decode b_T_run 6 = .ok (.putfield 20, 3) := by decide +kernel
theorem d_T_run_9 : decode b_T_run 9 = .ok (.aload_n 0, 1) := by decide +kernel
theorem d_T_run_10 : decode b_T_run 10 = .ok (.aload_n 1, 1) := by decide +kernel
theorem d_T_run_11 : decode b_T_run 11 = .ok (.getfield 24, 3) := by decide +kernel
theorem d_T_run_14 : decode b_T_run 14 = .ok (.putfield 28, 3) := by decide +kernel
theorem d_T_run_17 : decode b_T_run 17 = .ok (.aload_n 0, 1) := by decide +kernel
theorem d_T_run_18 : decode b_T_run 18 = .ok (.iload_n 2, 1) := by decide +kernel
theorem d_T_run_19 : decode b_T_run 19 = .ok (.putfield 31, 3) := by decide +kernel
theorem d_T_run_22 : decode b_T_run 22 = .ok (.aload_n 0, 1) := by decide +kernel
theorem d_T_run_23 : decode b_T_run 23 = .ok (.lload_n 3, 1) := by decide +kernel
theorem d_T_run_24 : decode b_T_run 24 = .ok (.lconst 0, 1) := by decide +kernel
theorem d_T_run_25 : decode b_T_run 25 = .ok (.lcmp, 1) := by decide +kernel
theorem d_T_run_26 : decode b_T_run 26 = .ok (.ifCond .le 7, 3) := by decide +kernel
theorem d_T_run_29 : decode b_T_run 29 = .ok (.iconst 1, 1) := by decide +kernel
theorem d_T_run_30 : decode b_T_run 30 = .ok (.goto 4, 3) := by decide +kernel
theorem d_T_run_33 : decode b_T_run 33 = .ok (.iconst 0, 1) := by decide +kernel
theorem d_T_run_34 : decode b_T_run 34 = .ok (.putfield 35, 3) := by decide +kernel
theorem d_T_run_37 : decode b_T_run 37 = .ok (.aload_n 0, 1) := by decide +kernel
theorem d_T_run_38 : decode b_T_run 38 = .ok (.lload_n 3, 1) := by decide +kernel
theorem d_T_run_39 : decode b_T_run 39 = .ok (.lconst 0, 1) := by decide +kernel
theorem d_T_run_40 : decode b_T_run 40 = .ok (.lcmp, 1) := by decide +kernel
theorem d_T_run_41 : decode b_T_run 41 = .ok (.ifCond .le 7, 3) := by decide +kernel
theorem d_T_run_44 : decode b_T_run 44 = .ok (.lload_n 3, 1) := by decide +kernel
theorem d_T_run_45 : decode b_T_run 45 = .ok (.goto 5, 3) := by decide +kernel
theorem d_T_run_48 : decode b_T_run 48 = .ok (.lload_n 3, 1) := by decide +kernel
theorem d_T_run_49 : decode b_T_run 49 = .ok (.lneg, 1) := by decide +kernel
theorem d_T_run_50 : decode b_T_run 50 = .ok (.putfield 38, 3) := by decide +kernel
theorem d_T_run_53 : decode b_T_run 53 = .ok (.aload_n 0, 1) := by decide +kernel
theorem d_T_run_54 : decode b_T_run 54 = .ok (.lload 5, 2) := by decide +kernel
theorem d_T_run_56 : decode b_T_run 56 = .ok (.putfield 42, 3) := by decide +kernel
theorem d_T_run_59 : decode b_T_run 59 = .ok (.aload_n 0, 1) := by decide +kernel
theorem d_T_run_60 : decode b_T_run 60 = .ok (.lconst 0, 1) := by decide +kernel
theorem d_T_run_61 : decode b_T_run 61 = .ok (.putfield 45, 3) := by decide +kernel
theorem d_T_run_64 : decode b_T_run 64 = .ok (.aload_n 0, 1) := by decide +kernel
theorem d_T_run_65 : decode b_T_run 65 = .ok (.lconst 0, 1) := by decide +kernel
theorem d_T_run_66 : decode b_T_run 66 = .ok (.putfield 48, 3) := by decide +kernel
theorem d_T_run_69 : decode b_T_run 69 = .ok (.iconst 0, 1) := by decide +kernel
theorem d_T_run_70 : decode b_T_run 70 = .ok (.istore 7, 2) := by decide +kernel
theorem d_T_run_72 : decode b_T_run 72 = .ok (.iload 7, 2) := by decide +kernel
theorem d_T_run_74 : decode b_T_run 74 = .ok (.sipush 1000, 3) := by decide +kernel
theorem d_T_run_77 : decode b_T_run 77 = .ok (.if_icmp .ge 35, 3) := by decide +kernel
theorem d_T_run_80 : decode b_T_run 80 = .ok (.aload_n 0, 1) := by decide +kernel
theorem d_T_run_81 : decode b_T_run 81 = .ok (.getfield 38, 3) := by decide +kernel
theorem d_T_run_84 : decode b_T_run 84 = .ok (.lconst 0, 1) := by decide +kernel
theorem d_T_run_85 : decode b_T_run 85 = .ok (.lcmp, 1) := by decide +kernel
theorem d_T_run_86 : decode b_T_run 86 = .ok (.ifCond .eq 26, 3) := by decide +kernel
theorem d_T_run_89 : decode b_T_run 89 = .ok (.aload_n 0, 1) := by decide +kernel
theorem d_T_run_90 : decode b_T_run 90 = .ok (.getfield 28, 3) := by decide +kernel
theorem d_T_run_93 : decode b_T_run 93 = .ok (.getfield 51, 3) := by decide +kernel
theorem d_T_run_96 : decode b_T_run 96 = .ok (.lload 5, 2) := by decide +kernel
theorem d_T_run_98 : decode b_T_run 98 = .ok (.lcmp, 1) := by decide +kernel
theorem d_T_run_99 : decode b_T_run 99 = .ok (.ifCond .eq 13, 3) := by decide +kernel
theorem d_T_run_102 : decode b_T_run 102 = .ok (.aload_n 0, 1) := by decide +kernel
theorem d_T_run_103 : decode b_T_run 103 = .ok (.invokevirtual 56, 3) := by decide +kernel
theorem d_T_run_106 : decode b_T_run 106 = .ok (.iinc 7 1, 3) := by decide +kernel
theorem d_T_run_109 : decode b_T_run 109 = .ok (.goto (-37), 3) := by decide +kernel
theorem d_T_run_112 : decode b_T_run 112 = .ok (.return_, 1) := by decide +kernel
abbrev b_T_step : ByteArray := prog_7_method_3_code
def y_T_step : MethodName := ⟨"RangeExchange$Trade", "step", "()V"⟩
theorem d_T_step_0 : decode b_T_step 0 = .ok (.aload_n 0, 1) := by decide +kernel
theorem d_T_step_1 : decode b_T_step 1 = .ok (.getfield 31, 3) := by decide +kernel
theorem d_T_step_4 : decode b_T_step 4 = .ok (.ifCond .eq 20, 3) := by decide +kernel
theorem d_T_step_7 : decode b_T_step 7 = .ok (.aload_n 0, 1) := by decide +kernel
theorem d_T_step_8 : decode b_T_step 8 = .ok (.getfield 20, 3) := by decide +kernel
theorem d_T_step_11 : decode b_T_step 11 = .ok (.aload_n 0, 1) := by decide +kernel
theorem d_T_step_12 : decode b_T_step 12 = .ok (.getfield 28, 3) := by decide +kernel
theorem d_T_step_15 : decode b_T_step 15 = .ok (.getfield 59, 3) := by decide +kernel
theorem d_T_step_18 : decode b_T_step 18 = .ok (.invokevirtual 63, 3) := by decide +kernel
theorem d_T_step_21 : decode b_T_step 21 = .ok (.goto 17, 3) := by decide +kernel
theorem d_T_step_24 : decode b_T_step 24 = .ok (.aload_n 0, 1) := by decide +kernel
theorem d_T_step_25 : decode b_T_step 25 = .ok (.getfield 20, 3) := by decide +kernel
theorem d_T_step_28 : decode b_T_step 28 = .ok (.aload_n 0, 1) := by decide +kernel
theorem d_T_step_29 : decode b_T_step 29 = .ok (.getfield 28, 3) := by decide +kernel
theorem d_T_step_32 : decode b_T_step 32 = .ok (.getfield 59, 3) := by decide +kernel
theorem d_T_step_35 : decode b_T_step 35 = .ok (.invokevirtual 67, 3) := by decide +kernel
theorem d_T_step_38 : decode b_T_step 38 = .ok (.istore_n 1, 1) := by decide +kernel
theorem d_T_step_39 : decode b_T_step 39 = .ok (.aload_n 0, 1) := by decide +kernel
theorem d_T_step_40 : decode b_T_step 40 = .ok (.getfield 9, 3) := by decide +kernel
theorem d_T_step_43 : decode b_T_step 43 = .ok (.iload_n 1, 1) := by decide +kernel
theorem d_T_step_44 : decode b_T_step 44 = .ok (.invokevirtual 70, 3) := by decide +kernel
theorem d_T_step_47 : decode b_T_step 47 = .ok (.lstore_n 2, 1) := by decide +kernel
theorem d_T_step_48 : decode b_T_step 48 = .ok (.aload_n 0, 1) := by decide +kernel
theorem d_T_step_49 : decode b_T_step 49 = .ok (.getfield 31, 3) := by decide +kernel
theorem d_T_step_52 : decode b_T_step 52 = .ok (.ifCond .eq 14, 3) := by decide +kernel
theorem d_T_step_55 : decode b_T_step 55 = .ok (.lload_n 2, 1) := by decide +kernel
theorem d_T_step_56 : decode b_T_step 56 = .ok (.aload_n 0, 1) := by decide +kernel
theorem d_T_step_57 : decode b_T_step 57 = .ok (.getfield 42, 3) := by decide +kernel
theorem d_T_step_60 : decode b_T_step 60 = .ok (.invokestatic 76, 3) := by decide +kernel
theorem d_T_step_63 : decode b_T_step 63 = .ok (.goto 11, 3) := by decide +kernel
theorem d_T_step_66 : decode b_T_step 66 = .ok (.lload_n 2, 1) := by decide +kernel
theorem d_T_step_67 : decode b_T_step 67 = .ok (.aload_n 0, 1) := by decide +kernel
theorem d_T_step_68 : decode b_T_step 68 = .ok (.getfield 42, 3) := by decide +kernel
theorem d_T_step_71 : decode b_T_step 71 = .ok (.invokestatic 82, 3) := by decide +kernel
theorem d_T_step_74 : decode b_T_step 74 = .ok (.lstore 4, 2) := by decide +kernel
theorem d_T_step_76 : decode b_T_step 76 = .ok (.aload_n 0, 1) := by decide +kernel
theorem d_T_step_77 : decode b_T_step 77 = .ok (.getfield 35, 3) := by decide +kernel
theorem d_T_step_80 : decode b_T_step 80 = .ok (.ifCond .eq 12, 3) := by decide +kernel
theorem d_T_step_83 : decode b_T_step 83 = .ok (.aload_n 0, 1) := by decide +kernel
theorem d_T_step_84 : decode b_T_step 84 = .ok (.lload 4, 2) := by decide +kernel
theorem d_T_step_86 : decode b_T_step 86 = .ok (.invokevirtual 85, 3) := by decide +kernel
theorem d_T_step_89 : decode b_T_step 89 = .ok (.goto 9, 3) := by decide +kernel
theorem d_T_step_92 : decode b_T_step 92 = .ok (.aload_n 0, 1) := by decide +kernel
theorem d_T_step_93 : decode b_T_step 93 = .ok (.lload 4, 2) := by decide +kernel
theorem d_T_step_95 : decode b_T_step 95 = .ok (.invokevirtual 89, 3) := by decide +kernel
theorem d_T_step_98 : decode b_T_step 98 = .ok (.lstore 6, 2) := by decide +kernel
theorem d_T_step_100 : decode b_T_step 100 = .ok (.aload_n 0, 1) := by decide +kernel
theorem d_T_step_101 : decode b_T_step 101 = .ok (.lload 6, 2) := by decide +kernel
theorem d_T_step_103 : decode b_T_step 103 = .ok (.lload 6, 2) := by decide +kernel
theorem d_T_step_105 : decode b_T_step 105 = .ok (.lload 4, 2) := by decide +kernel
theorem d_T_step_107 : decode b_T_step 107 = .ok (.lcmp, 1) := by decide +kernel
theorem d_T_step_108 : decode b_T_step 108 = .ok (.ifCond .ne 7, 3) := by decide +kernel
theorem d_T_step_111 : decode b_T_step 111 = .ok (.iconst 1, 1) := by decide +kernel
theorem d_T_step_112 : decode b_T_step 112 = .ok (.goto 4, 3) := by decide +kernel
theorem d_T_step_115 : decode b_T_step 115 = .ok (.iconst 0, 1) := by decide +kernel
theorem d_T_step_116 : decode b_T_step 116 = .ok (.invokevirtual 92, 3) := by decide +kernel
theorem d_T_step_119 : decode b_T_step 119 = .ok (.aload_n 0, 1) := by decide +kernel
theorem d_T_step_120 : decode b_T_step 120 = .ok (.lload 6, 2) := by decide +kernel
theorem d_T_step_122 : decode b_T_step 122 = .ok (.iload_n 1, 1) := by decide +kernel
theorem d_T_step_123 : decode b_T_step 123 = .ok (.invokevirtual 96, 3) := by decide +kernel
theorem d_T_step_126 : decode b_T_step 126 = .ok (.return_, 1) := by decide +kernel
abbrev b_T_priceByTaking : ByteArray := prog_7_method_4_code
def y_T_priceByTaking : MethodName := ⟨"RangeExchange$Trade", "priceByTaking", "(J)J"⟩
theorem d_T_priceByTaking_0 : decode b_T_priceByTaking 0 = .ok (.aload_n 0, 1) := by decide +kernel
theorem d_T_priceByTaking_1 : decode b_T_priceByTaking 1 = .ok (.getfield 28, 3) := by decide +kernel
theorem d_T_priceByTaking_4 : decode b_T_priceByTaking 4 = .ok (.getfield 51, 3) := by decide +kernel
theorem d_T_priceByTaking_7 : decode b_T_priceByTaking 7 = .ok (.lstore_n 3, 1) := by decide +kernel
theorem d_T_priceByTaking_8 : decode b_T_priceByTaking 8 = .ok (.aload_n 0, 1) := by decide +kernel
theorem d_T_priceByTaking_9 : decode b_T_priceByTaking 9 = .ok (.getfield 28, 3) := by decide +kernel
theorem d_T_priceByTaking_12 : decode b_T_priceByTaking 12 = .ok (.getfield 100, 3) := by decide +kernel
theorem d_T_priceByTaking_15 : decode b_T_priceByTaking 15 = .ok (.i2l, 1) := by decide +kernel
theorem d_T_priceByTaking_16 : decode b_T_priceByTaking 16 = .ok (.lstore 5, 2) := by decide +kernel
theorem d_T_priceByTaking_18 : decode b_T_priceByTaking 18 = .ok (.aload_n 0, 1) := by decide +kernel
theorem d_T_priceByTaking_19 : decode b_T_priceByTaking 19 = .ok (.getfield 38, 3) := by decide +kernel
theorem d_T_priceByTaking_22 : decode b_T_priceByTaking 22 = .ok (.sipush 1000, 3) := by decide +kernel
theorem d_T_priceByTaking_25 : decode b_T_priceByTaking 25 = .ok (.aload_n 0, 1) := by decide +kernel
theorem d_T_priceByTaking_26 : decode b_T_priceByTaking 26 = .ok (.getfield 20, 3) := by decide +kernel
theorem d_T_priceByTaking_29 : decode b_T_priceByTaking 29 = .ok (.getfield 103, 3) := by decide +kernel
theorem d_T_priceByTaking_32 : decode b_T_priceByTaking 32 = .ok (.isub, 1) := by decide +kernel
theorem d_T_priceByTaking_33 : decode b_T_priceByTaking 33 = .ok (.i2l, 1) := by decide +kernel
theorem d_T_priceByTaking_34 : decode b_T_priceByTaking 34 = .ok (.lmul, 1) := by decide +kernel
theorem d_T_priceByTaking_35 : decode b_T_priceByTaking 35 = .ok (.ldc2_w 106, 3) := by decide +kernel
theorem d_T_priceByTaking_38 : decode b_T_priceByTaking 38 = .ok (.iconst 0, 1) := by decide +kernel
theorem d_T_priceByTaking_39 : decode b_T_priceByTaking 39 = .ok (.invokestatic 108, 3) := by decide +kernel
theorem d_T_priceByTaking_42 : decode b_T_priceByTaking 42 = .ok (.lstore 7, 2) := by decide +kernel
theorem d_T_priceByTaking_44 : decode b_T_priceByTaking 44 = .ok (.lload 7, 2) := by decide +kernel
theorem d_T_priceByTaking_46 : decode b_T_priceByTaking 46 = .ok (.aload_n 0, 1) := by decide +kernel
theorem d_T_priceByTaking_47 : decode b_T_priceByTaking 47 = .ok (.lload_n 1, 1) := by decide +kernel
theorem d_T_priceByTaking_48 : decode b_T_priceByTaking 48 = .ok (.invokevirtual 114, 3) := by decide +kernel
theorem d_T_priceByTaking_51 : decode b_T_priceByTaking 51 = .ok (.lcmp, 1) := by decide +kernel
theorem d_T_priceByTaking_52 : decode b_T_priceByTaking 52 = .ok (.ifCond .lt 5, 3) := by decide +kernel
theorem d_T_priceByTaking_55 : decode b_T_priceByTaking 55 = .ok (.lload_n 1, 1) := by decide +kernel
theorem d_T_priceByTaking_56 : decode b_T_priceByTaking 56 = .ok (.lreturn, 1) := by decide +kernel
theorem d_T_priceByTaking_57 : decode b_T_priceByTaking 57 = .ok (.aload_n 0, 1) := by decide +kernel
theorem d_T_priceByTaking_58 : decode b_T_priceByTaking 58 = .ok (.getfield 31, 3) := by decide +kernel
theorem d_T_priceByTaking_61 : decode b_T_priceByTaking 61 = .ok (.ifCond .eq 23, 3) := by decide +kernel
theorem d_T_priceByTaking_64 : decode b_T_priceByTaking 64 = .ok (.lload 5, 2) := by decide +kernel
theorem d_T_priceByTaking_66 : decode b_T_priceByTaking 66 = .ok (.lload_n 3, 1) := by decide +kernel
theorem d_T_priceByTaking_67 : decode b_T_priceByTaking 67 = .ok (.lmul, 1) := by decide +kernel
theorem d_T_priceByTaking_68 : decode b_T_priceByTaking 68 = .ok (.lload 5, 2) := by decide +kernel
theorem d_T_priceByTaking_70 : decode b_T_priceByTaking 70 = .ok (.ldc2_w 117, 3) := by decide +kernel
theorem d_T_priceByTaking_73 : decode b_T_priceByTaking 73 = .ok (.lmul, 1) := by decide +kernel
theorem d_T_priceByTaking_74 : decode b_T_priceByTaking 74 = .ok (.lload 7, 2) := by decide +kernel
theorem d_T_priceByTaking_76 : decode b_T_priceByTaking 76 = .ok (.lload_n 3, 1) := by decide +kernel
theorem d_T_priceByTaking_77 : decode b_T_priceByTaking 77 = .ok (.lmul, 1) := by decide +kernel
theorem d_T_priceByTaking_78 : decode b_T_priceByTaking 78 = .ok (.ladd, 1) := by decide +kernel
theorem d_T_priceByTaking_79 : decode b_T_priceByTaking 79 = .ok (.iconst 1, 1) := by decide +kernel
theorem d_T_priceByTaking_80 : decode b_T_priceByTaking 80 = .ok (.invokestatic 119, 3) := by decide +kernel
theorem d_T_priceByTaking_83 : decode b_T_priceByTaking 83 = .ok (.lreturn, 1) := by decide +kernel
theorem d_T_priceByTaking_84 : decode b_T_priceByTaking 84 = .ok (.lload_n 3, 1) := by decide +kernel
theorem d_T_priceByTaking_85 : decode b_T_priceByTaking 85 = .ok (.lload 7, 2) := by decide +kernel
theorem d_T_priceByTaking_87 : decode b_T_priceByTaking 87 = .ok (.ldc2_w 117, 3) := by decide +kernel
theorem d_T_priceByTaking_90 : decode b_T_priceByTaking 90 = .ok (.lmul, 1) := by decide +kernel
theorem d_T_priceByTaking_91 : decode b_T_priceByTaking 91 = .ok (.lload 5, 2) := by decide +kernel
theorem d_T_priceByTaking_93 : decode b_T_priceByTaking 93 = .ok (.iconst 0, 1) := by decide +kernel
theorem d_T_priceByTaking_94 : decode b_T_priceByTaking 94 = .ok (.invokestatic 108, 3) := by decide +kernel
theorem d_T_priceByTaking_97 : decode b_T_priceByTaking 97 = .ok (.ladd, 1) := by decide +kernel
theorem d_T_priceByTaking_98 : decode b_T_priceByTaking 98 = .ok (.lreturn, 1) := by decide +kernel
abbrev b_T_priceByPaying : ByteArray := prog_7_method_5_code
def y_T_priceByPaying : MethodName := ⟨"RangeExchange$Trade", "priceByPaying", "(J)J"⟩
theorem d_T_priceByPaying_0 : decode b_T_priceByPaying 0 = .ok (.aload_n 0, 1) := by decide +kernel
theorem d_T_priceByPaying_1 : decode b_T_priceByPaying 1 = .ok (.getfield 28, 3) := by decide +kernel
theorem d_T_priceByPaying_4 : decode b_T_priceByPaying 4 = .ok (.getfield 51, 3) := by decide +kernel
theorem d_T_priceByPaying_7 : decode b_T_priceByPaying 7 = .ok (.lstore_n 3, 1) := by decide +kernel
theorem d_T_priceByPaying_8 : decode b_T_priceByPaying 8 = .ok (.aload_n 0, 1) := by decide +kernel
theorem d_T_priceByPaying_9 : decode b_T_priceByPaying 9 = .ok (.getfield 28, 3) := by decide +kernel
theorem d_T_priceByPaying_12 : decode b_T_priceByPaying 12 = .ok (.getfield 100, 3) := by decide +kernel
theorem d_T_priceByPaying_15 : decode b_T_priceByPaying 15 = .ok (.i2l, 1) := by decide +kernel
theorem d_T_priceByPaying_16 : decode b_T_priceByPaying 16 = .ok (.lstore 5, 2) := by decide +kernel
theorem d_T_priceByPaying_18 : decode b_T_priceByPaying 18 = .ok (.aload_n 0, 1) := by decide +kernel
theorem d_T_priceByPaying_19 : decode b_T_priceByPaying 19 = .ok (.getfield 38, 3) := by decide +kernel
theorem d_T_priceByPaying_22 : decode b_T_priceByPaying 22 = .ok (.aload_n 0, 1) := by decide +kernel
theorem d_T_priceByPaying_23 : decode b_T_priceByPaying 23 = .ok (.lload_n 1, 1) := by decide +kernel
theorem d_T_priceByPaying_24 : decode b_T_priceByPaying 24 = .ok (.invokevirtual 122, 3) := by decide +kernel
theorem d_T_priceByPaying_27 : decode b_T_priceByPaying 27 = .ok (.lcmp, 1) := by decide +kernel
theorem d_T_priceByPaying_28 : decode b_T_priceByPaying 28 = .ok (.ifCond .lt 5, 3) := by decide +kernel
theorem d_T_priceByPaying_31 : decode b_T_priceByPaying 31 = .ok (.lload_n 1, 1) := by decide +kernel
theorem d_T_priceByPaying_32 : decode b_T_priceByPaying 32 = .ok (.lreturn, 1) := by decide +kernel
theorem d_T_priceByPaying_33 : decode b_T_priceByPaying 33 = .ok (.aload_n 0, 1) := by decide +kernel
theorem d_T_priceByPaying_34 : decode b_T_priceByPaying 34 = .ok (.getfield 31, 3) := by decide +kernel
theorem d_T_priceByPaying_37 : decode b_T_priceByPaying 37 = .ok (.ifCond .eq 20, 3) := by decide +kernel
theorem d_T_priceByPaying_40 : decode b_T_priceByPaying 40 = .ok (.lload_n 3, 1) := by decide +kernel
theorem d_T_priceByPaying_41 : decode b_T_priceByPaying 41 = .ok (.aload_n 0, 1) := by decide +kernel
theorem d_T_priceByPaying_42 : decode b_T_priceByPaying 42 = .ok (.getfield 38, 3) := by decide +kernel
theorem d_T_priceByPaying_45 : decode b_T_priceByPaying 45 = .ok (.ldc2_w 117, 3) := by decide +kernel
theorem d_T_priceByPaying_48 : decode b_T_priceByPaying 48 = .ok (.lmul, 1) := by decide +kernel
theorem d_T_priceByPaying_49 : decode b_T_priceByPaying 49 = .ok (.lload 5, 2) := by decide +kernel
theorem d_T_priceByPaying_51 : decode b_T_priceByPaying 51 = .ok (.iconst 1, 1) := by decide +kernel
theorem d_T_priceByPaying_52 : decode b_T_priceByPaying 52 = .ok (.invokestatic 108, 3) := by decide +kernel
theorem d_T_priceByPaying_55 : decode b_T_priceByPaying 55 = .ok (.lsub, 1) := by decide +kernel
theorem d_T_priceByPaying_56 : decode b_T_priceByPaying 56 = .ok (.lreturn, 1) := by decide +kernel
theorem d_T_priceByPaying_57 : decode b_T_priceByPaying 57 = .ok (.lload 5, 2) := by decide +kernel
theorem d_T_priceByPaying_59 : decode b_T_priceByPaying 59 = .ok (.lload_n 3, 1) := by decide +kernel
theorem d_T_priceByPaying_60 : decode b_T_priceByPaying 60 = .ok (.lmul, 1) := by decide +kernel
theorem d_T_priceByPaying_61 : decode b_T_priceByPaying 61 = .ok (.lload 5, 2) := by decide +kernel
theorem d_T_priceByPaying_63 : decode b_T_priceByPaying 63 = .ok (.ldc2_w 117, 3) := by decide +kernel
theorem d_T_priceByPaying_66 : decode b_T_priceByPaying 66 = .ok (.lmul, 1) := by decide +kernel
theorem d_T_priceByPaying_67 : decode b_T_priceByPaying 67 = .ok (.aload_n 0, 1) := by decide +kernel
theorem d_T_priceByPaying_68 : decode b_T_priceByPaying 68 = .ok (.getfield 38, 3) := by decide +kernel
theorem d_T_priceByPaying_71 : decode b_T_priceByPaying 71 = .ok (.lload_n 3, 1) := by decide +kernel
theorem d_T_priceByPaying_72 : decode b_T_priceByPaying 72 = .ok (.lmul, 1) := by decide +kernel
theorem d_T_priceByPaying_73 : decode b_T_priceByPaying 73 = .ok (.lsub, 1) := by decide +kernel
theorem d_T_priceByPaying_74 : decode b_T_priceByPaying 74 = .ok (.iconst 1, 1) := by decide +kernel
theorem d_T_priceByPaying_75 : decode b_T_priceByPaying 75 = .ok (.invokestatic 119, 3) := by decide +kernel
theorem d_T_priceByPaying_78 : decode b_T_priceByPaying 78 = .ok (.lreturn, 1) := by decide +kernel
abbrev b_T_takenUntil : ByteArray := prog_7_method_6_code
def y_T_takenUntil : MethodName := ⟨"RangeExchange$Trade", "takenUntil", "(J)J"⟩
theorem d_T_takenUntil_0 : decode b_T_takenUntil 0 = .ok (.aload_n 0, 1) := by decide +kernel
theorem d_T_takenUntil_1 : decode b_T_takenUntil 1 = .ok (.getfield 31, 3) := by decide +kernel
theorem d_T_takenUntil_4 : decode b_T_takenUntil 4 = .ok (.ifCond .eq 26, 3) := by decide +kernel
theorem d_T_takenUntil_7 : decode b_T_takenUntil 7 = .ok (.lload_n 1, 1) := by decide +kernel
theorem d_T_takenUntil_8 : decode b_T_takenUntil 8 = .ok (.aload_n 0, 1) := by decide +kernel
theorem d_T_takenUntil_9 : decode b_T_takenUntil 9 = .ok (.getfield 28, 3) := by decide +kernel
theorem d_T_takenUntil_12 : decode b_T_takenUntil 12 = .ok (.getfield 51, 3) := by decide +kernel
theorem d_T_takenUntil_15 : decode b_T_takenUntil 15 = .ok (.aload_n 0, 1) := by decide +kernel
theorem d_T_takenUntil_16 : decode b_T_takenUntil 16 = .ok (.getfield 28, 3) := by decide +kernel
theorem d_T_takenUntil_19 : decode b_T_takenUntil 19 = .ok (.getfield 100, 3) := by decide +kernel
theorem d_T_takenUntil_22 : decode b_T_takenUntil 22 = .ok (.i2l, 1) := by decide +kernel
theorem d_T_takenUntil_23 : decode b_T_takenUntil 23 = .ok (.iconst 1, 1) := by decide +kernel
theorem d_T_takenUntil_24 : decode b_T_takenUntil 24 = .ok (.invokestatic 125, 3) := by decide +kernel
theorem d_T_takenUntil_27 : decode b_T_takenUntil 27 = .ok (.goto 23, 3) := by decide +kernel
theorem d_T_takenUntil_30 : decode b_T_takenUntil 30 = .ok (.aload_n 0, 1) := by decide +kernel
theorem d_T_takenUntil_31 : decode b_T_takenUntil 31 = .ok (.getfield 28, 3) := by decide +kernel
theorem d_T_takenUntil_34 : decode b_T_takenUntil 34 = .ok (.getfield 51, 3) := by decide +kernel
theorem d_T_takenUntil_37 : decode b_T_takenUntil 37 = .ok (.lload_n 1, 1) := by decide +kernel
theorem d_T_takenUntil_38 : decode b_T_takenUntil 38 = .ok (.aload_n 0, 1) := by decide +kernel
theorem d_T_takenUntil_39 : decode b_T_takenUntil 39 = .ok (.getfield 28, 3) := by decide +kernel
theorem d_T_takenUntil_42 : decode b_T_takenUntil 42 = .ok (.getfield 100, 3) := by decide +kernel
theorem d_T_takenUntil_45 : decode b_T_takenUntil 45 = .ok (.i2l, 1) := by decide +kernel
theorem d_T_takenUntil_46 : decode b_T_takenUntil 46 = .ok (.iconst 1, 1) := by decide +kernel
theorem d_T_takenUntil_47 : decode b_T_takenUntil 47 = .ok (.invokestatic 129, 3) := by decide +kernel
theorem d_T_takenUntil_50 : decode b_T_takenUntil 50 = .ok (.lreturn, 1) := by decide +kernel
abbrev b_T_paidUntil : ByteArray := prog_7_method_7_code
def y_T_paidUntil : MethodName := ⟨"RangeExchange$Trade", "paidUntil", "(J)J"⟩
theorem d_T_paidUntil_0 : decode b_T_paidUntil 0 = .ok (.aload_n 0, 1) := by decide +kernel
theorem d_T_paidUntil_1 : decode b_T_paidUntil 1 = .ok (.getfield 31, 3) := by decide +kernel
theorem d_T_paidUntil_4 : decode b_T_paidUntil 4 = .ok (.ifCond .eq 26, 3) := by decide +kernel
theorem d_T_paidUntil_7 : decode b_T_paidUntil 7 = .ok (.lload_n 1, 1) := by decide +kernel
theorem d_T_paidUntil_8 : decode b_T_paidUntil 8 = .ok (.aload_n 0, 1) := by decide +kernel
theorem d_T_paidUntil_9 : decode b_T_paidUntil 9 = .ok (.getfield 28, 3) := by decide +kernel
theorem d_T_paidUntil_12 : decode b_T_paidUntil 12 = .ok (.getfield 51, 3) := by decide +kernel
theorem d_T_paidUntil_15 : decode b_T_paidUntil 15 = .ok (.aload_n 0, 1) := by decide +kernel
theorem d_T_paidUntil_16 : decode b_T_paidUntil 16 = .ok (.getfield 28, 3) := by decide +kernel
theorem d_T_paidUntil_19 : decode b_T_paidUntil 19 = .ok (.getfield 100, 3) := by decide +kernel
theorem d_T_paidUntil_22 : decode b_T_paidUntil 22 = .ok (.i2l, 1) := by decide +kernel
theorem d_T_paidUntil_23 : decode b_T_paidUntil 23 = .ok (.iconst 0, 1) := by decide +kernel
theorem d_T_paidUntil_24 : decode b_T_paidUntil 24 = .ok (.invokestatic 129, 3) := by decide +kernel
theorem d_T_paidUntil_27 : decode b_T_paidUntil 27 = .ok (.goto 23, 3) := by decide +kernel
theorem d_T_paidUntil_30 : decode b_T_paidUntil 30 = .ok (.aload_n 0, 1) := by decide +kernel
theorem d_T_paidUntil_31 : decode b_T_paidUntil 31 = .ok (.getfield 28, 3) := by decide +kernel
theorem d_T_paidUntil_34 : decode b_T_paidUntil 34 = .ok (.getfield 51, 3) := by decide +kernel
theorem d_T_paidUntil_37 : decode b_T_paidUntil 37 = .ok (.lload_n 1, 1) := by decide +kernel
theorem d_T_paidUntil_38 : decode b_T_paidUntil 38 = .ok (.aload_n 0, 1) := by decide +kernel
theorem d_T_paidUntil_39 : decode b_T_paidUntil 39 = .ok (.getfield 28, 3) := by decide +kernel
theorem d_T_paidUntil_42 : decode b_T_paidUntil 42 = .ok (.getfield 100, 3) := by decide +kernel
theorem d_T_paidUntil_45 : decode b_T_paidUntil 45 = .ok (.i2l, 1) := by decide +kernel
theorem d_T_paidUntil_46 : decode b_T_paidUntil 46 = .ok (.iconst 0, 1) := by decide +kernel
theorem d_T_paidUntil_47 : decode b_T_paidUntil 47 = .ok (.invokestatic 125, 3) := by decide +kernel
theorem d_T_paidUntil_50 : decode b_T_paidUntil 50 = .ok (.lreturn, 1) := by decide +kernel
abbrev b_T_exchange : ByteArray := prog_7_method_8_code
def y_T_exchange : MethodName := ⟨"RangeExchange$Trade", "exchange", "(JZ)V"⟩
theorem d_T_exchange_0 : decode b_T_exchange 0 = .ok (.aload_n 0, 1) := by decide +kernel
theorem d_T_exchange_1 : decode b_T_exchange 1 = .ok (.lload_n 1, 1) := by decide +kernel
theorem d_T_exchange_2 : decode b_T_exchange 2 = .ok (.invokevirtual 114, 3) := by decide +kernel
theorem d_T_exchange_5 : decode b_T_exchange 5 = .ok (.lstore 4, 2) := by decide +kernel
theorem d_T_exchange_7 : decode b_T_exchange 7 = .ok (.aload_n 0, 1) := by decide +kernel
theorem d_T_exchange_8 : decode b_T_exchange 8 = .ok (.getfield 35, 3) := by decide +kernel
theorem d_T_exchange_11 : decode b_T_exchange 11 = .ok (.ifCond .eq 11, 3) := by decide +kernel
theorem d_T_exchange_14 : decode b_T_exchange 14 = .ok (.aload_n 0, 1) := by decide +kernel
theorem d_T_exchange_15 : decode b_T_exchange 15 = .ok (.lload_n 1, 1) := by decide +kernel
theorem d_T_exchange_16 : decode b_T_exchange 16 = .ok (.invokevirtual 122, 3) := by decide +kernel
theorem d_T_exchange_19 : decode b_T_exchange 19 = .ok (.goto 15, 3) := by decide +kernel
theorem d_T_exchange_22 : decode b_T_exchange 22 = .ok (.aload_n 0, 1) := by decide +kernel
theorem d_T_exchange_23 : decode b_T_exchange 23 = .ok (.getfield 38, 3) := by decide +kernel
theorem d_T_exchange_26 : decode b_T_exchange 26 = .ok (.aload_n 0, 1) := by decide +kernel
theorem d_T_exchange_27 : decode b_T_exchange 27 = .ok (.lload_n 1, 1) := by decide +kernel
theorem d_T_exchange_28 : decode b_T_exchange 28 = .ok (.invokevirtual 122, 3) := by decide +kernel
theorem d_T_exchange_31 : decode b_T_exchange 31 = .ok (.invokestatic 82, 3) := by decide +kernel
theorem d_T_exchange_34 : decode b_T_exchange 34 = .ok (.lstore 6, 2) := by decide +kernel
theorem d_T_exchange_36 : decode b_T_exchange 36 = .ok (.aload_n 0, 1) := by decide +kernel
theorem d_T_exchange_37 : decode b_T_exchange 37 = .ok (.getfield 35, 3) := by decide +kernel
theorem d_T_exchange_40 : decode b_T_exchange 40 = .ok (.ifCond .eq 17, 3) := by decide +kernel
theorem d_T_exchange_43 : decode b_T_exchange 43 = .ok (.iload_n 3, 1) := by decide +kernel
theorem d_T_exchange_44 : decode b_T_exchange 44 = .ok (.ifCond .ne 13, 3) := by decide +kernel
theorem d_T_exchange_47 : decode b_T_exchange 47 = .ok (.aload_n 0, 1) := by decide +kernel
theorem d_T_exchange_48 : decode b_T_exchange 48 = .ok (.getfield 38, 3) := by decide +kernel
theorem d_T_exchange_51 : decode b_T_exchange 51 = .ok (.lload 4, 2) := by decide +kernel
theorem d_T_exchange_53 : decode b_T_exchange 53 = .ok (.lsub, 1) := by decide +kernel
theorem d_T_exchange_54 : decode b_T_exchange 54 = .ok (.goto 30, 3) := by decide +kernel
theorem d_T_exchange_57 : decode b_T_exchange 57 = .ok (.lload 4, 2) := by decide +kernel
theorem d_T_exchange_59 : decode b_T_exchange 59 = .ok (.aload_n 0, 1) := by decide +kernel
theorem d_T_exchange_60 : decode b_T_exchange 60 = .ok (.getfield 20, 3) := by decide +kernel
theorem d_T_exchange_63 : decode b_T_exchange 63 = .ok (.getfield 103, 3) := by decide +kernel
theorem d_T_exchange_66 : decode b_T_exchange 66 = .ok (.i2l, 1) := by decide +kernel
theorem d_T_exchange_67 : decode b_T_exchange 67 = .ok (.lmul, 1) := by decide +kernel
theorem d_T_exchange_68 : decode b_T_exchange 68 = .ok (.sipush 1000, 3) := by decide +kernel
theorem d_T_exchange_71 : decode b_T_exchange 71 = .ok (.aload_n 0, 1) := by decide +kernel
theorem d_T_exchange_72 : decode b_T_exchange 72 = .ok (.getfield 20, 3) := by decide +kernel
theorem d_T_exchange_75 : decode b_T_exchange 75 = .ok (.getfield 103, 3) := by decide +kernel
theorem d_T_exchange_78 : decode b_T_exchange 78 = .ok (.isub, 1) := by decide +kernel
theorem d_T_exchange_79 : decode b_T_exchange 79 = .ok (.i2l, 1) := by decide +kernel
theorem d_T_exchange_80 : decode b_T_exchange 80 = .ok (.iconst 1, 1) := by decide +kernel
theorem d_T_exchange_81 : decode b_T_exchange 81 = .ok (.invokestatic 108, 3) := by decide +kernel
theorem d_T_exchange_84 : decode b_T_exchange 84 = .ok (.lstore 8, 2) := by decide +kernel
theorem d_T_exchange_86 : decode b_T_exchange 86 = .ok (.aload_n 0, 1) := by decide +kernel
theorem d_T_exchange_87 : decode b_T_exchange 87 = .ok (.dup, 1) := by decide +kernel
theorem d_T_exchange_88 : decode b_T_exchange 88 = .ok (.getfield 38, 3) := by decide +kernel
theorem d_T_exchange_91 : decode b_T_exchange 91 = .ok (.aload_n 0, 1) := by decide +kernel
theorem d_T_exchange_92 : decode b_T_exchange 92 = .ok (.getfield 35, 3) := by decide +kernel
theorem d_T_exchange_95 : decode b_T_exchange 95 = .ok (.ifCond .eq 11, 3) := by decide +kernel
theorem d_T_exchange_98 : decode b_T_exchange 98 = .ok (.lload 4, 2) := by decide +kernel
theorem d_T_exchange_100 : decode b_T_exchange 100 = .ok (.lload 8, 2) := by decide +kernel
theorem d_T_exchange_102 : decode b_T_exchange 102 = .ok (.ladd, 1) := by decide +kernel
theorem d_T_exchange_103 : decode b_T_exchange 103 = .ok (.goto 5, 3) := by decide +kernel
theorem d_T_exchange_106 : decode b_T_exchange 106 = .ok (.lload 6, 2) := by decide +kernel
theorem d_T_exchange_108 : decode b_T_exchange 108 = .ok (.lsub, 1) := by decide +kernel
theorem d_T_exchange_109 : decode b_T_exchange 109 = .ok (.putfield 38, 3) := by decide +kernel
theorem d_T_exchange_112 : decode b_T_exchange 112 = .ok (.aload_n 0, 1) := by decide +kernel
theorem d_T_exchange_113 : decode b_T_exchange 113 = .ok (.dup, 1) := by decide +kernel
theorem d_T_exchange_114 : decode b_T_exchange 114 = .ok (.getfield 45, 3) := by decide +kernel
theorem d_T_exchange_117 : decode b_T_exchange 117 = .ok (.lload 4, 2) := by decide +kernel
theorem d_T_exchange_119 : decode b_T_exchange 119 = .ok (.lload 8, 2) := by decide +kernel
theorem d_T_exchange_121 : decode b_T_exchange 121 = .ok (.ladd, 1) := by decide +kernel
theorem d_T_exchange_122 : decode b_T_exchange 122 = .ok (.ladd, 1) := by decide +kernel
theorem d_T_exchange_123 : decode b_T_exchange 123 = .ok (.putfield 45, 3) := by decide +kernel
theorem d_T_exchange_126 : decode b_T_exchange 126 = .ok (.aload_n 0, 1) := by decide +kernel
theorem d_T_exchange_127 : decode b_T_exchange 127 = .ok (.dup, 1) := by decide +kernel
theorem d_T_exchange_128 : decode b_T_exchange 128 = .ok (.getfield 48, 3) := by decide +kernel
theorem d_T_exchange_131 : decode b_T_exchange 131 = .ok (.lload 6, 2) := by decide +kernel
theorem d_T_exchange_133 : decode b_T_exchange 133 = .ok (.ladd, 1) := by decide +kernel
theorem d_T_exchange_134 : decode b_T_exchange 134 = .ok (.putfield 48, 3) := by decide +kernel
theorem d_T_exchange_137 : decode b_T_exchange 137 = .ok (.aload_n 0, 1) := by decide +kernel
theorem d_T_exchange_138 : decode b_T_exchange 138 = .ok (.getfield 28, 3) := by decide +kernel
theorem d_T_exchange_141 : decode b_T_exchange 141 = .ok (.getfield 100, 3) := by decide +kernel
theorem d_T_exchange_144 : decode b_T_exchange 144 = .ok (.ifCond .eq 44, 3) := by decide +kernel
theorem d_T_exchange_147 : decode b_T_exchange 147 = .ok (.aload_n 0, 1) := by decide +kernel
theorem d_T_exchange_148 : decode b_T_exchange 148 = .ok (.getfield 28, 3) := by decide +kernel
theorem d_T_exchange_151 : decode b_T_exchange 151 = .ok (.getfield 132, 3) := by decide +kernel
theorem d_T_exchange_154 : decode b_T_exchange 154 = .ok (.aload_n 0, 1) := by decide +kernel
theorem d_T_exchange_155 : decode b_T_exchange 155 = .ok (.getfield 31, 3) := by decide +kernel
theorem d_T_exchange_158 : decode b_T_exchange 158 = .ok (.ifCond .eq 7, 3) := by decide +kernel
theorem d_T_exchange_161 : decode b_T_exchange 161 = .ok (.iconst 0, 1) := by decide +kernel
theorem d_T_exchange_162 : decode b_T_exchange 162 = .ok (.goto 4, 3) := by decide +kernel
theorem d_T_exchange_165 : decode b_T_exchange 165 = .ok (.iconst 1, 1) := by decide +kernel
theorem d_T_exchange_166 : decode b_T_exchange 166 = .ok (.dup2, 1) := by decide +kernel
theorem d_T_exchange_167 : decode b_T_exchange 167 = .ok (.laload, 1) := by decide +kernel
theorem d_T_exchange_168 : decode b_T_exchange 168 = .ok (.lload 8, 2) := by decide +kernel
theorem d_T_exchange_170 : decode b_T_exchange 170 = .ok (.ldc2_w 117, 3) := by decide +kernel
theorem d_T_exchange_173 : decode b_T_exchange 173 = .ok (.lmul, 1) := by decide +kernel
theorem d_T_exchange_174 : decode b_T_exchange 174 = .ok (.aload_n 0, 1) := by decide +kernel
theorem d_T_exchange_175 : decode b_T_exchange 175 = .ok (.getfield 28, 3) := by decide +kernel
theorem d_T_exchange_178 : decode b_T_exchange 178 = .ok (.getfield 100, 3) := by decide +kernel
theorem d_T_exchange_181 : decode b_T_exchange 181 = .ok (.i2l, 1) := by decide +kernel
theorem d_T_exchange_182 : decode b_T_exchange 182 = .ok (.iconst 0, 1) := by decide +kernel
theorem d_T_exchange_183 : decode b_T_exchange 183 = .ok (.invokestatic 108, 3) := by decide +kernel
theorem d_T_exchange_186 : decode b_T_exchange 186 = .ok (.ladd, 1) := by decide +kernel
theorem d_T_exchange_187 : decode b_T_exchange 187 = .ok (.lastore, 1) := by decide +kernel
theorem d_T_exchange_188 : decode b_T_exchange 188 = .ok (.return_, 1) := by decide +kernel
abbrev b_T_moveTo : ByteArray := prog_7_method_9_code
def y_T_moveTo : MethodName := ⟨"RangeExchange$Trade", "moveTo", "(JI)V"⟩
theorem d_T_moveTo_0 : decode b_T_moveTo 0 = .ok (.lload_n 1, 1) := by decide +kernel
theorem d_T_moveTo_1 : decode b_T_moveTo 1 = .ok (.aload_n 0, 1) := by decide +kernel
theorem d_T_moveTo_2 : decode b_T_moveTo 2 = .ok (.getfield 28, 3) := by decide +kernel
theorem d_T_moveTo_5 : decode b_T_moveTo 5 = .ok (.getfield 51, 3) := by decide +kernel
theorem d_T_moveTo_8 : decode b_T_moveTo 8 = .ok (.lcmp, 1) := by decide +kernel
theorem d_T_moveTo_9 : decode b_T_moveTo 9 = .ok (.ifCond .eq 7, 3) := by decide +kernel
theorem d_T_moveTo_12 : decode b_T_moveTo 12 = .ok (.iconst 1, 1) := by decide +kernel
theorem d_T_moveTo_13 : decode b_T_moveTo 13 = .ok (.goto 4, 3) := by decide +kernel
theorem d_T_moveTo_16 : decode b_T_moveTo 16 = .ok (.iconst 0, 1) := by decide +kernel
theorem d_T_moveTo_17 : decode b_T_moveTo 17 = .ok (.istore 4, 2) := by decide +kernel
theorem d_T_moveTo_19 : decode b_T_moveTo 19 = .ok (.aload_n 0, 1) := by decide +kernel
theorem d_T_moveTo_20 : decode b_T_moveTo 20 = .ok (.getfield 28, 3) := by decide +kernel
theorem d_T_moveTo_23 : decode b_T_moveTo 23 = .ok (.lload_n 1, 1) := by decide +kernel
theorem d_T_moveTo_24 : decode b_T_moveTo 24 = .ok (.putfield 51, 3) := by decide +kernel
theorem d_T_moveTo_27 : decode b_T_moveTo 27 = .ok (.lload_n 1, 1) := by decide +kernel
theorem d_T_moveTo_28 : decode b_T_moveTo 28 = .ok (.aload_n 0, 1) := by decide +kernel
theorem d_T_moveTo_29 : decode b_T_moveTo 29 = .ok (.getfield 9, 3) := by decide +kernel
theorem d_T_moveTo_32 : decode b_T_moveTo 32 = .ok (.iload_n 3, 1) := by decide +kernel
theorem d_T_moveTo_33 : decode b_T_moveTo 33 = .ok (.invokevirtual 70, 3) := by decide +kernel
theorem d_T_moveTo_36 : decode b_T_moveTo 36 = .ok (.lcmp, 1) := by decide +kernel
theorem d_T_moveTo_37 : decode b_T_moveTo 37 = .ok (.ifCond .ne 43, 3) := by decide +kernel
theorem d_T_moveTo_40 : decode b_T_moveTo 40 = .ok (.aload_n 0, 1) := by decide +kernel
theorem d_T_moveTo_41 : decode b_T_moveTo 41 = .ok (.getfield 20, 3) := by decide +kernel
theorem d_T_moveTo_44 : decode b_T_moveTo 44 = .ok (.iload_n 3, 1) := by decide +kernel
theorem d_T_moveTo_45 : decode b_T_moveTo 45 = .ok (.invokevirtual 136, 3) := by decide +kernel
theorem d_T_moveTo_48 : decode b_T_moveTo 48 = .ok (.ifCond .eq 8, 3) := by decide +kernel
theorem d_T_moveTo_51 : decode b_T_moveTo 51 = .ok (.aload_n 0, 1) := by decide +kernel
theorem d_T_moveTo_52 : decode b_T_moveTo 52 = .ok (.iload_n 3, 1) := by decide +kernel
theorem d_T_moveTo_53 : decode b_T_moveTo 53 = .ok (.invokevirtual 140, 3) := by decide +kernel
theorem d_T_moveTo_56 : decode b_T_moveTo 56 = .ok (.aload_n 0, 1) := by decide +kernel
theorem d_T_moveTo_57 : decode b_T_moveTo 57 = .ok (.getfield 28, 3) := by decide +kernel
theorem d_T_moveTo_60 : decode b_T_moveTo 60 = .ok (.aload_n 0, 1) := by decide +kernel
theorem d_T_moveTo_61 : decode b_T_moveTo 61 = .ok (.getfield 31, 3) := by decide +kernel
theorem d_T_moveTo_64 : decode b_T_moveTo 64 = .ok (.ifCond .eq 9, 3) := by decide +kernel
theorem d_T_moveTo_67 : decode b_T_moveTo 67 = .ok (.iload_n 3, 1) := by decide +kernel
theorem d_T_moveTo_68 : decode b_T_moveTo 68 = .ok (.iconst 1, 1) := by decide +kernel
theorem d_T_moveTo_69 : decode b_T_moveTo 69 = .ok (.isub, 1) := by decide +kernel
theorem d_T_moveTo_70 : decode b_T_moveTo 70 = .ok (.goto 4, 3) := by decide +kernel
theorem d_T_moveTo_73 : decode b_T_moveTo 73 = .ok (.iload_n 3, 1) := by decide +kernel
theorem d_T_moveTo_74 : decode b_T_moveTo 74 = .ok (.putfield 59, 3) := by decide +kernel
theorem d_T_moveTo_77 : decode b_T_moveTo 77 = .ok (.goto 23, 3) := by decide +kernel
theorem d_T_moveTo_80 : decode b_T_moveTo 80 = .ok (.iload 4, 2) := by decide +kernel
theorem d_T_moveTo_82 : decode b_T_moveTo 82 = .ok (.ifCond .eq 18, 3) := by decide +kernel
theorem d_T_moveTo_85 : decode b_T_moveTo 85 = .ok (.aload_n 0, 1) := by decide +kernel
theorem d_T_moveTo_86 : decode b_T_moveTo 86 = .ok (.getfield 28, 3) := by decide +kernel
theorem d_T_moveTo_89 : decode b_T_moveTo 89 = .ok (.aload_n 0, 1) := by decide +kernel
theorem d_T_moveTo_90 : decode b_T_moveTo 90 = .ok (.getfield 9, 3) := by decide +kernel
theorem d_T_moveTo_93 : decode b_T_moveTo 93 = .ok (.lload_n 1, 1) := by decide +kernel
theorem d_T_moveTo_94 : decode b_T_moveTo 94 = .ok (.invokevirtual 144, 3) := by decide +kernel
theorem d_T_moveTo_97 : decode b_T_moveTo 97 = .ok (.putfield 59, 3) := by decide +kernel
theorem d_T_moveTo_100 : decode b_T_moveTo 100 = .ok (.return_, 1) := by decide +kernel
abbrev b_T_cross : ByteArray := prog_7_method_10_code
def y_T_cross : MethodName := ⟨"RangeExchange$Trade", "cross", "(I)V"⟩
theorem d_T_cross_0 : decode b_T_cross 0 = .ok (.aload_n 0, 1) := by decide +kernel
theorem d_T_cross_1 : decode b_T_cross 1 = .ok (.getfield 28, 3) := by decide +kernel
theorem d_T_cross_4 : decode b_T_cross 4 = .ok (.iload_n 1, 1) := by decide +kernel
theorem d_T_cross_5 : decode b_T_cross 5 = .ok (.invokevirtual 148, 3) := by decide +kernel
theorem d_T_cross_8 : decode b_T_cross 8 = .ok (.aload_n 0, 1) := by decide +kernel
theorem d_T_cross_9 : decode b_T_cross 9 = .ok (.getfield 28, 3) := by decide +kernel
theorem d_T_cross_12 : decode b_T_cross 12 = .ok (.dup, 1) := by decide +kernel
theorem d_T_cross_13 : decode b_T_cross 13 = .ok (.getfield 100, 3) := by decide +kernel
theorem d_T_cross_16 : decode b_T_cross 16 = .ok (.aload_n 0, 1) := by decide +kernel
theorem d_T_cross_17 : decode b_T_cross 17 = .ok (.getfield 31, 3) := by decide +kernel
theorem d_T_cross_20 : decode b_T_cross 20 = .ok (.ifCond .eq 15, 3) := by decide +kernel
theorem d_T_cross_23 : decode b_T_cross 23 = .ok (.aload_n 0, 1) := by decide +kernel
theorem d_T_cross_24 : decode b_T_cross 24 = .ok (.getfield 20, 3) := by decide +kernel
theorem d_T_cross_27 : decode b_T_cross 27 = .ok (.iload_n 1, 1) := by decide +kernel
theorem d_T_cross_28 : decode b_T_cross 28 = .ok (.invokevirtual 151, 3) := by decide +kernel
theorem d_T_cross_31 : decode b_T_cross 31 = .ok (.ineg, 1) := by decide +kernel
theorem d_T_cross_32 : decode b_T_cross 32 = .ok (.goto 11, 3) := by decide +kernel
theorem d_T_cross_35 : decode b_T_cross 35 = .ok (.aload_n 0, 1) := by decide +kernel
theorem d_T_cross_36 : decode b_T_cross 36 = .ok (.getfield 20, 3) := by decide +kernel
theorem d_T_cross_39 : decode b_T_cross 39 = .ok (.iload_n 1, 1) := by decide +kernel
theorem d_T_cross_40 : decode b_T_cross 40 = .ok (.invokevirtual 151, 3) := by decide +kernel
theorem d_T_cross_43 : decode b_T_cross 43 = .ok (.iadd, 1) := by decide +kernel
theorem d_T_cross_44 : decode b_T_cross 44 = .ok (.putfield 100, 3) := by decide +kernel
theorem d_T_cross_47 : decode b_T_cross 47 = .ok (.return_, 1) := by decide +kernel
