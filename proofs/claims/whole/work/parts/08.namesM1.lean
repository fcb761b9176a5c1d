abbrev b_M_worthFar : ByteArray := prog_9_method_10_code
def y_M_worthFar : MethodName := ⟨"RangeExchangeModel", "worthFar", "(IIIJZ)J"⟩
theorem d_M_worthFar_0 : decode b_M_worthFar 0 = .ok (.aload_n 0, 1) := by decide +kernel
theorem d_M_worthFar_1 : decode b_M_worthFar 1 = .ok (.getfield 29, 3) := by decide +kernel
theorem d_M_worthFar_4 : decode b_M_worthFar 4 = .ok (.iload_n 1, 1) := by decide +kernel
theorem d_M_worthFar_5 : decode b_M_worthFar 5 = .ok (.iaload, 1) := by decide +kernel
theorem d_M_worthFar_6 : decode b_M_worthFar 6 = .ok (.iload_n 2, 1) := by decide +kernel
theorem d_M_worthFar_7 : decode b_M_worthFar 7 = .ok (.if_icmp .ge 5, 3) := by decide +kernel
theorem d_M_worthFar_10 : decode b_M_worthFar 10 = .ok (.lconst 0, 1) := by decide +kernel
theorem d_M_worthFar_11 : decode b_M_worthFar 11 = .ok (.lreturn, 1) := by decide +kernel
theorem d_M_worthFar_12 : decode b_M_worthFar 12 = .ok (.aload_n 0, 1) := by decide +kernel
theorem d_M_worthFar_13 : decode b_M_worthFar 13 = .ok (.iload_n 2, 1) := by decide +kernel
theorem d_M_worthFar_14 : decode b_M_worthFar 14 = .ok (.invokevirtual 100, 3) := by decide +kernel
theorem d_M_worthFar_17 : decode b_M_worthFar 17 = .ok (.aload_n 0, 1) := by decide +kernel
theorem d_M_worthFar_18 : decode b_M_worthFar 18 = .ok (.getfield 29, 3) := by decide +kernel
theorem d_M_worthFar_21 : decode b_M_worthFar 21 = .ok (.iload_n 1, 1) := by decide +kernel
theorem d_M_worthFar_22 : decode b_M_worthFar 22 = .ok (.iaload, 1) := by decide +kernel
theorem d_M_worthFar_23 : decode b_M_worthFar 23 = .ok (.iload_n 3, 1) := by decide +kernel
theorem d_M_worthFar_24 : decode b_M_worthFar 24 = .ok (.if_icmp .lt 11, 3) := by decide +kernel
theorem d_M_worthFar_27 : decode b_M_worthFar 27 = .ok (.aload_n 0, 1) := by decide +kernel
theorem d_M_worthFar_28 : decode b_M_worthFar 28 = .ok (.iload_n 3, 1) := by decide +kernel
theorem d_M_worthFar_29 : decode b_M_worthFar 29 = .ok (.invokevirtual 100, 3) := by decide +kernel
theorem d_M_worthFar_32 : decode b_M_worthFar 32 = .ok (.goto 9, 3) := by decide +kernel
theorem d_M_worthFar_35 : decode b_M_worthFar 35 = .ok (.aload_n 0, 1) := by decide +kernel
theorem d_M_worthFar_36 : decode b_M_worthFar 36 = .ok (.getfield 26, 3) := by decide +kernel
theorem d_M_worthFar_39 : decode b_M_worthFar 39 = .ok (.iload_n 1, 1) := by decide +kernel
theorem d_M_worthFar_40 : decode b_M_worthFar 40 = .ok (.laload, 1) := by decide +kernel
theorem d_M_worthFar_41 : decode b_M_worthFar 41 = .ok (.lload 4, 2) := by decide +kernel
theorem d_M_worthFar_43 : decode b_M_worthFar 43 = .ok (.iload 6, 2) := by decide +kernel
theorem d_M_worthFar_45 : decode b_M_worthFar 45 = .ok (.invokestatic 107, 3) := by decide +kernel
theorem d_M_worthFar_48 : decode b_M_worthFar 48 = .ok (.lreturn, 1) := by decide +kernel
abbrev b_M_isOwner : ByteArray := prog_9_method_11_code
def y_M_isOwner : MethodName := ⟨"RangeExchangeModel", "isOwner", "(I)Z"⟩
theorem d_M_isOwner_0 : decode b_M_isOwner 0 = .ok (.iload_n 0, 1) := by decide +kernel
theorem d_M_isOwner_1 : decode b_M_isOwner 1 = .ok (.ifCond .lt 12, 3) := by decide +kernel
theorem d_M_isOwner_4 : decode b_M_isOwner 4 = .ok (.iload_n 0, 1) := by decide +kernel
theorem d_M_isOwner_5 : decode b_M_isOwner 5 = .ok (.iconst 4, 1) := by decide +kernel
theorem d_M_isOwner_6 : decode b_M_isOwner 6 = .ok (.if_icmp .ge 7, 3) := by decide +kernel
theorem d_M_isOwner_9 : decode b_M_isOwner 9 = .ok (.iconst 1, 1) := by decide +kernel
theorem d_M_isOwner_10 : decode b_M_isOwner 10 = .ok (.goto 4, 3) := by decide +kernel
theorem d_M_isOwner_13 : decode b_M_isOwner 13 = .ok (.iconst 0, 1) := by decide +kernel
theorem d_M_isOwner_14 : decode b_M_isOwner 14 = .ok (.ireturn, 1) := by decide +kernel
abbrev b_M_isToken : ByteArray := prog_9_method_12_code
def y_M_isToken : MethodName := ⟨"RangeExchangeModel", "isToken", "(I)Z"⟩
theorem d_M_isToken_0 : decode b_M_isToken 0 = .ok (.iload_n 0, 1) := by decide +kernel
theorem d_M_isToken_1 : decode b_M_isToken 1 = .ok (.ifCond .lt 12, 3) := by decide +kernel
theorem d_M_isToken_4 : decode b_M_isToken 4 = .ok (.iload_n 0, 1) := by decide +kernel
theorem d_M_isToken_5 : decode b_M_isToken 5 = .ok (.iconst 3, 1) := by decide +kernel
theorem d_M_isToken_6 : decode b_M_isToken 6 = .ok (.if_icmp .ge 7, 3) := by decide +kernel
theorem d_M_isToken_9 : decode b_M_isToken 9 = .ok (.iconst 1, 1) := by decide +kernel
theorem d_M_isToken_10 : decode b_M_isToken 10 = .ok (.goto 4, 3) := by decide +kernel
theorem d_M_isToken_13 : decode b_M_isToken 13 = .ok (.iconst 0, 1) := by decide +kernel
theorem d_M_isToken_14 : decode b_M_isToken 14 = .ok (.ireturn, 1) := by decide +kernel
abbrev b_M_isPool : ByteArray := prog_9_method_13_code
def y_M_isPool : MethodName := ⟨"RangeExchangeModel", "isPool", "(I)Z"⟩
theorem d_M_isPool_0 : decode b_M_isPool 0 = .ok (.iload_n 0, 1) := by decide +kernel
theorem d_M_isPool_1 : decode b_M_isPool 1 = .ok (.ifCond .eq 8, 3) := by decide +kernel
theorem d_M_isPool_4 : decode b_M_isPool 4 = .ok (.iload_n 0, 1) := by decide +kernel
theorem d_M_isPool_5 : decode b_M_isPool 5 = .ok (.iconst 1, 1) := by decide +kernel
theorem d_M_isPool_6 : decode b_M_isPool 6 = .ok (.if_icmp .ne 7, 3) := by decide +kernel
theorem d_M_isPool_9 : decode b_M_isPool 9 = .ok (.iconst 1, 1) := by decide +kernel
theorem d_M_isPool_10 : decode b_M_isPool 10 = .ok (.goto 4, 3) := by decide +kernel
theorem d_M_isPool_13 : decode b_M_isPool 13 = .ok (.iconst 0, 1) := by decide +kernel
theorem d_M_isPool_14 : decode b_M_isPool 14 = .ok (.ireturn, 1) := by decide +kernel
abbrev b_M_isTick : ByteArray := prog_9_method_14_code
def y_M_isTick : MethodName := ⟨"RangeExchangeModel", "isTick", "(I)Z"⟩
theorem d_M_isTick_0 : decode b_M_isTick 0 = .ok (.iload_n 0, 1) := by decide +kernel
theorem d_M_isTick_1 : decode b_M_isTick 1 = .ok (.bipush (-40), 2) := by decide +kernel
theorem d_M_isTick_3 : decode b_M_isTick 3 = .ok (.if_icmp .lt 13, 3) := by decide +kernel
theorem d_M_isTick_6 : decode b_M_isTick 6 = .ok (.iload_n 0, 1) := by decide +kernel
theorem d_M_isTick_7 : decode b_M_isTick 7 = .ok (.bipush 40, 2) := by decide +kernel
theorem d_M_isTick_9 : decode b_M_isTick 9 = .ok (.if_icmp .gt 7, 3) := by decide +kernel
theorem d_M_isTick_12 : decode b_M_isTick 12 = .ok (.iconst 1, 1) := by decide +kernel
theorem d_M_isTick_13 : decode b_M_isTick 13 = .ok (.goto 4, 3) := by decide +kernel
theorem d_M_isTick_16 : decode b_M_isTick 16 = .ok (.iconst 0, 1) := by decide +kernel
theorem d_M_isTick_17 : decode b_M_isTick 17 = .ok (.ireturn, 1) := by decide +kernel
abbrev b_M_all : ByteArray := prog_9_method_15_code
def y_M_all : MethodName := ⟨"RangeExchangeModel", "all", "(IIII)Z"⟩
theorem d_M_all_0 : decode b_M_all 0 = .ok (.iload_n 0, 1) := by decide +kernel
theorem d_M_all_1 : decode b_M_all 1 = .ok (.invokestatic 110, 3) := by decide +kernel
theorem d_M_all_4 : decode b_M_all 4 = .ok (.ifCond .eq 28, 3) := by decide +kernel
theorem d_M_all_7 : decode b_M_all 7 = .ok (.iload_n 1, 1) := by decide +kernel
theorem d_M_all_8 : decode b_M_all 8 = .ok (.invokestatic 114, 3) := by decide +kernel
theorem d_M_all_11 : decode b_M_all 11 = .ok (.ifCond .eq 21, 3) := by decide +kernel
theorem d_M_all_14 : decode b_M_all 14 = .ok (.iload_n 2, 1) := by decide +kernel
theorem d_M_all_15 : decode b_M_all 15 = .ok (.invokestatic 117, 3) := by decide +kernel
theorem d_M_all_18 : decode b_M_all 18 = .ok (.ifCond .eq 14, 3) := by decide +kernel
theorem d_M_all_21 : decode b_M_all 21 = .ok (.iload_n 3, 1) := by decide +kernel
theorem d_M_all_22 : decode b_M_all 22 = .ok (.invokestatic 117, 3) := by decide +kernel
theorem d_M_all_25 : decode b_M_all 25 = .ok (.ifCond .eq 7, 3) := by decide +kernel
theorem d_M_all_28 : decode b_M_all 28 = .ok (.iconst 1, 1) := by decide +kernel
theorem d_M_all_29 : decode b_M_all 29 = .ok (.goto 4, 3) := by decide +kernel
theorem d_M_all_32 : decode b_M_all 32 = .ok (.iconst 0, 1) := by decide +kernel
theorem d_M_all_33 : decode b_M_all 33 = .ok (.ireturn, 1) := by decide +kernel
abbrev b_M_pay : ByteArray := prog_9_method_16_code
def y_M_pay : MethodName := ⟨"RangeExchangeModel", "pay", "(IIJ)V"⟩
theorem d_M_pay_0 : decode b_M_pay 0 = .ok (.aload_n 0, 1) := by decide +kernel
theorem d_M_pay_1 : decode b_M_pay 1 = .ok (.getfield 13, 3) := by decide +kernel
theorem d_M_pay_4 : decode b_M_pay 4 = .ok (.iconst 3, 1) := by decide +kernel
theorem d_M_pay_5 : decode b_M_pay 5 = .ok (.iload_n 1, 1) := by decide +kernel
theorem d_M_pay_6 : decode b_M_pay 6 = .ok (.imul, 1) := by decide +kernel
theorem d_M_pay_7 : decode b_M_pay 7 = .ok (.iload_n 2, 1) := by decide +kernel
theorem d_M_pay_8 : decode b_M_pay 8 = .ok (.iadd, 1) := by decide +kernel
theorem d_M_pay_9 : decode b_M_pay 9 = .ok (.dup2, 1) := by decide +kernel
theorem d_M_pay_10 : decode b_M_pay 10 = .ok (.laload, 1) := by decide +kernel
theorem d_M_pay_11 : decode b_M_pay 11 = .ok (.lload_n 3, 1) := by decide +kernel
theorem d_M_pay_12 : decode b_M_pay 12 = .ok (.lsub, 1) := by decide +kernel
theorem d_M_pay_13 : decode b_M_pay 13 = .ok (.lastore, 1) := by decide +kernel
theorem d_M_pay_14 : decode b_M_pay 14 = .ok (.aload_n 0, 1) := by decide +kernel
theorem d_M_pay_15 : decode b_M_pay 15 = .ok (.getfield 19, 3) := by decide +kernel
theorem d_M_pay_18 : decode b_M_pay 18 = .ok (.iload_n 2, 1) := by decide +kernel
theorem d_M_pay_19 : decode b_M_pay 19 = .ok (.dup2, 1) := by decide +kernel
theorem d_M_pay_20 : decode b_M_pay 20 = .ok (.laload, 1) := by decide +kernel
theorem d_M_pay_21 : decode b_M_pay 21 = .ok (.lload_n 3, 1) := by decide +kernel
theorem d_M_pay_22 : decode b_M_pay 22 = .ok (.ladd, 1) := by decide +kernel
theorem d_M_pay_23 : decode b_M_pay 23 = .ok (.lastore, 1) := by decide +kernel
theorem d_M_pay_24 : decode b_M_pay 24 = .ok (.return_, 1) := by decide +kernel
abbrev b_M_give : ByteArray := prog_9_method_17_code
def y_M_give : MethodName := ⟨"RangeExchangeModel", "give", "(III)J"⟩
theorem d_M_give_0 : decode b_M_give 0 = .ok (.aload_n 0, 1) := by decide +kernel
theorem d_M_give_1 : decode b_M_give 1 = .ok (.iload_n 1, 1) := by decide +kernel
theorem d_M_give_2 : decode b_M_give 2 = .ok (.invokestatic 110, 3) := by decide +kernel
theorem d_M_give_5 : decode b_M_give 5 = .ok (.ifCond .eq 10, 3) := by decide +kernel
theorem d_M_give_8 : decode b_M_give 8 = .ok (.iload_n 2, 1) := by decide +kernel
theorem d_M_give_9 : decode b_M_give 9 = .ok (.invokestatic 120, 3) := by decide +kernel
theorem d_M_give_12 : decode b_M_give 12 = .ok (.ifCond .ne 7, 3) := by decide +kernel
theorem d_M_give_15 : decode b_M_give 15 = .ok (.iconst 1, 1) := by decide +kernel
theorem d_M_give_16 : decode b_M_give 16 = .ok (.goto 28, 3) := by decide +kernel
theorem d_M_give_19 : decode b_M_give 19 = .ok (.iload_n 3, 1) := by decide +kernel
theorem d_M_give_20 : decode b_M_give 20 = .ok (.ifCond .lt 19, 3) := by decide +kernel
theorem d_M_give_23 : decode b_M_give 23 = .ok (.aload_n 0, 1) := by decide +kernel
theorem d_M_give_24 : decode b_M_give 24 = .ok (.getfield 16, 3) := by decide +kernel
theorem d_M_give_27 : decode b_M_give 27 = .ok (.iload_n 2, 1) := by decide +kernel
theorem d_M_give_28 : decode b_M_give 28 = .ok (.laload, 1) := by decide +kernel
theorem d_M_give_29 : decode b_M_give 29 = .ok (.iload_n 3, 1) := by decide +kernel
theorem d_M_give_30 : decode b_M_give 30 = .ok (.i2l, 1) := by decide +kernel
theorem d_M_give_31 : decode b_M_give 31 = .ok (.ladd, 1) := by decide +kernel
theorem d_M_give_32 : decode b_M_give 32 = .ok (.ldc2_w 123, 3) := by decide +kernel
theorem d_M_give_35 : decode b_M_give 35 = .ok (.lcmp, 1) := by decide +kernel
theorem d_M_give_36 : decode b_M_give 36 = .ok (.ifCond .le 7, 3) := by decide +kernel
theorem d_M_give_39 : decode b_M_give 39 = .ok (.iconst 2, 1) := by decide +kernel
theorem d_M_give_40 : decode b_M_give 40 = .ok (.goto 4, 3) := by decide +kernel
theorem d_M_give_43 : decode b_M_give 43 = .ok (.iconst 0, 1) := by decide +kernel
theorem d_M_give_44 : decode b_M_give 44 = .ok (.putfield 84, 3) := by decide +kernel
theorem d_M_give_47 : decode b_M_give 47 = .ok (.aload_n 0, 1) := by decide +kernel
theorem d_M_give_48 : decode b_M_give 48 = .ok (.getfield 84, 3) := by decide +kernel
theorem d_M_give_51 : decode b_M_give 51 = .ok (.ifCond .le 5, 3) := by decide +kernel
theorem d_M_give_54 : decode b_M_give 54 = .ok (.lconst 0, 1) := by decide +kernel
theorem d_M_give_55 : decode b_M_give 55 = .ok (.lreturn, 1) := by decide +kernel
theorem d_M_give_56 : decode b_M_give 56 = .ok (.aload_n 0, 1) := by decide +kernel
theorem d_M_give_57 : decode b_M_give 57 = .ok (.getfield 16, 3) := by decide +kernel
theorem d_M_give_60 : decode b_M_give 60 = .ok (.iload_n 2, 1) := by decide +kernel
theorem d_M_give_61 : decode b_M_give 61 = .ok (.dup2, 1) := by decide +kernel
theorem d_M_give_62 : decode b_M_give 62 = .ok (.laload, 1) := by decide +kernel
theorem d_M_give_63 : decode b_M_give 63 = .ok (.iload_n 3, 1) := by decide +kernel
theorem d_M_give_64 : decode b_M_give 64 = .ok (.i2l, 1) := by decide +kernel
theorem d_M_give_65 : decode b_M_give 65 = .ok (.ladd, 1) := by decide +kernel
theorem d_M_give_66 : decode b_M_give 66 = .ok (.lastore, 1) := by decide +kernel
theorem d_M_give_67 : decode b_M_give 67 = .ok (.aload_n 0, 1) := by decide +kernel
theorem d_M_give_68 : decode b_M_give 68 = .ok (.getfield 13, 3) := by decide +kernel
theorem d_M_give_71 : decode b_M_give 71 = .ok (.iconst 3, 1) := by decide +kernel
theorem d_M_give_72 : decode b_M_give 72 = .ok (.iload_n 1, 1) := by decide +kernel
theorem d_M_give_73 : decode b_M_give 73 = .ok (.imul, 1) := by decide +kernel
theorem d_M_give_74 : decode b_M_give 74 = .ok (.iload_n 2, 1) := by decide +kernel
theorem d_M_give_75 : decode b_M_give 75 = .ok (.iadd, 1) := by decide +kernel
theorem d_M_give_76 : decode b_M_give 76 = .ok (.dup2, 1) := by decide +kernel
theorem d_M_give_77 : decode b_M_give 77 = .ok (.laload, 1) := by decide +kernel
theorem d_M_give_78 : decode b_M_give 78 = .ok (.iload_n 3, 1) := by decide +kernel
theorem d_M_give_79 : decode b_M_give 79 = .ok (.i2l, 1) := by decide +kernel
theorem d_M_give_80 : decode b_M_give 80 = .ok (.ladd, 1) := by decide +kernel
theorem d_M_give_81 : decode b_M_give 81 = .ok (.lastore, 1) := by decide +kernel
theorem d_M_give_82 : decode b_M_give 82 = .ok (.aload_n 0, 1) := by decide +kernel
theorem d_M_give_83 : decode b_M_give 83 = .ok (.getfield 13, 3) := by decide +kernel
theorem d_M_give_86 : decode b_M_give 86 = .ok (.iconst 3, 1) := by decide +kernel
theorem d_M_give_87 : decode b_M_give 87 = .ok (.iload_n 1, 1) := by decide +kernel
theorem d_M_give_88 : decode b_M_give 88 = .ok (.imul, 1) := by decide +kernel
theorem d_M_give_89 : decode b_M_give 89 = .ok (.iload_n 2, 1) := by decide +kernel
theorem d_M_give_90 : decode b_M_give 90 = .ok (.iadd, 1) := by decide +kernel
theorem d_M_give_91 : decode b_M_give 91 = .ok (.laload, 1) := by decide +kernel
theorem d_M_give_92 : decode b_M_give 92 = .ok (.lreturn, 1) := by decide +kernel
abbrev b_M_balance : ByteArray := prog_9_method_18_code
def y_M_balance : MethodName := ⟨"RangeExchangeModel", "balance", "(II)J"⟩
theorem d_M_balance_0 : decode b_M_balance 0 = .ok (.aload_n 0, 1) := by decide +kernel
theorem d_M_balance_1 : decode b_M_balance 1 = .ok (.iload_n 1, 1) := by decide +kernel
theorem d_M_balance_2 : decode b_M_balance 2 = .ok (.invokestatic 110, 3) := by decide +kernel
theorem d_M_balance_5 : decode b_M_balance 5 = .ok (.ifCond .eq 14, 3) := by decide +kernel
theorem d_M_balance_8 : decode b_M_balance 8 = .ok (.iload_n 2, 1) := by decide +kernel
theorem d_M_balance_9 : decode b_M_balance 9 = .ok (.invokestatic 120, 3) := by decide +kernel
theorem d_M_balance_12 : decode b_M_balance 12 = .ok (.ifCond .eq 7, 3) := by decide +kernel
theorem d_M_balance_15 : decode b_M_balance 15 = .ok (.iconst 0, 1) := by decide +kernel
theorem d_M_balance_16 : decode b_M_balance 16 = .ok (.goto 4, 3) := by decide +kernel
theorem d_M_balance_19 : decode b_M_balance 19 = .ok (.iconst 1, 1) := by decide +kernel
theorem d_M_balance_20 : decode b_M_balance 20 = .ok (.putfield 84, 3) := by decide +kernel
theorem d_M_balance_23 : decode b_M_balance 23 = .ok (.aload_n 0, 1) := by decide +kernel
theorem d_M_balance_24 : decode b_M_balance 24 = .ok (.getfield 84, 3) := by decide +kernel
theorem d_M_balance_27 : decode b_M_balance 27 = .ok (.ifCond .le 7, 3) := by decide +kernel
theorem d_M_balance_30 : decode b_M_balance 30 = .ok (.lconst 0, 1) := by decide +kernel
theorem d_M_balance_31 : decode b_M_balance 31 = .ok (.goto 13, 3) := by decide +kernel
theorem d_M_balance_34 : decode b_M_balance 34 = .ok (.aload_n 0, 1) := by decide +kernel
theorem d_M_balance_35 : decode b_M_balance 35 = .ok (.getfield 13, 3) := by decide +kernel
theorem d_M_balance_38 : decode b_M_balance 38 = .ok (.iconst 3, 1) := by decide +kernel
theorem d_M_balance_39 : decode b_M_balance 39 = .ok (.iload_n 1, 1) := by decide +kernel
theorem d_M_balance_40 : decode b_M_balance 40 = .ok (.imul, 1) := by decide +kernel
theorem d_M_balance_41 : decode b_M_balance 41 = .ok (.iload_n 2, 1) := by decide +kernel
theorem d_M_balance_42 : decode b_M_balance 42 = .ok (.iadd, 1) := by decide +kernel
theorem d_M_balance_43 : decode b_M_balance 43 = .ok (.laload, 1) := by decide +kernel
theorem d_M_balance_44 : decode b_M_balance 44 = .ok (.lreturn, 1) := by decide +kernel
abbrev b_M_find : ByteArray := prog_9_method_19_code
def y_M_find : MethodName := ⟨"RangeExchangeModel", "find", "(IIII)I"⟩
theorem d_M_find_0 : decode b_M_find 0 = .ok (.iconst 0, 1) := by decide +kernel
theorem d_M_find_1 : decode b_M_find 1 = .ok (.istore 5, 2) := by decide +kernel
theorem d_M_find_3 : decode b_M_find 3 = .ok (.iload 5, 2) := by decide +kernel
theorem d_M_find_5 : decode b_M_find 5 = .ok (.bipush 12, 2) := by decide +kernel
theorem d_M_find_7 : decode b_M_find 7 = .ok (.if_icmp .ge 67, 3) := by decide +kernel
theorem d_M_find_10 : decode b_M_find 10 = .ok (.aload_n 0, 1) := by decide +kernel
theorem d_M_find_11 : decode b_M_find 11 = .ok (.getfield 35, 3) := by decide +kernel
theorem d_M_find_14 : decode b_M_find 14 = .ok (.iload 5, 2) := by decide +kernel
theorem d_M_find_16 : decode b_M_find 16 = .ok (.baload, 1) := by decide +kernel
theorem d_M_find_17 : decode b_M_find 17 = .ok (.ifCond .eq 51, 3) := by decide +kernel
theorem d_M_find_20 : decode b_M_find 20 = .ok (.aload_n 0, 1) := by decide +kernel
theorem d_M_find_21 : decode b_M_find 21 = .ok (.getfield 39, 3) := by decide +kernel
theorem d_M_find_24 : decode b_M_find 24 = .ok (.iload 5, 2) := by decide +kernel
theorem d_M_find_26 : decode b_M_find 26 = .ok (.iaload, 1) := by decide +kernel
theorem d_M_find_27 : decode b_M_find 27 = .ok (.iload_n 1, 1) := by decide +kernel
theorem d_M_find_28 : decode b_M_find 28 = .ok (.if_icmp .ne 40, 3) := by decide +kernel
theorem d_M_find_31 : decode b_M_find 31 = .ok (.aload_n 0, 1) := by decide +kernel
theorem d_M_find_32 : decode b_M_find 32 = .ok (.getfield 42, 3) := by decide +kernel
theorem d_M_find_35 : decode b_M_find 35 = .ok (.iload 5, 2) := by decide +kernel
theorem d_M_find_37 : decode b_M_find 37 = .ok (.iaload, 1) := by decide +kernel
theorem d_M_find_38 : decode b_M_find 38 = .ok (.iload_n 2, 1) := by decide +kernel
theorem d_M_find_39 : decode b_M_find 39 = .ok (.if_icmp .ne 29, 3) := by decide +kernel
theorem d_M_find_42 : decode b_M_find 42 = .ok (.aload_n 0, 1) := by decide +kernel
theorem d_M_find_43 : decode b_M_find 43 = .ok (.getfield 45, 3) := by decide +kernel
theorem d_M_find_46 : decode b_M_find 46 = .ok (.iload 5, 2) := by decide +kernel
theorem d_M_find_48 : decode b_M_find 48 = .ok (.iaload, 1) := by decide +kernel
theorem d_M_find_49 : decode b_M_find 49 = .ok (.iload_n 3, 1) := by decide +kernel
theorem d_M_find_50 : decode b_M_find 50 = .ok (.if_icmp .ne 18, 3) := by decide +kernel
theorem d_M_find_53 : decode b_M_find 53 = .ok (.aload_n 0, 1) := by decide +kernel
theorem d_M_find_54 : decode b_M_find 54 = .ok (.getfield 48, 3) := by decide +kernel
theorem d_M_find_57 : decode b_M_find 57 = .ok (.iload 5, 2) := by decide +kernel
theorem d_M_find_59 : decode b_M_find 59 = .ok (.iaload, 1) := by decide +kernel
theorem d_M_find_60 : decode b_M_find 60 = .ok (.iload 4, 2) := by decide +kernel
theorem d_M_find_62 : decode b_M_find 62 = .ok (.if_icmp .ne 6, 3) := by decide +kernel
theorem d_M_find_65 : decode b_M_find 65 = .ok (.iload 5, 2) := by decide +kernel
theorem d_M_find_67 : decode b_M_find 67 = .ok (.ireturn, 1) := by decide +kernel
theorem d_M_find_68 : decode b_M_find 68 = .ok (.iinc 5 1, 3) := by decide +kernel
theorem d_M_find_71 : decode b_M_find 71 = .ok (.goto (-68), 3) := by decide +kernel
theorem d_M_find_74 : decode b_M_find 74 = .ok (.iconst (-1), 1) := by decide +kernel
theorem d_M_find_75 : decode b_M_find 75 = .ok (.ireturn, 1) := by decide +kernel
abbrev b_M_free : ByteArray := prog_9_method_20_code
def y_M_free : MethodName := ⟨"RangeExchangeModel", "free", "()I"⟩
theorem d_M_free_0 : decode b_M_free 0 = .ok (.iconst 0, 1) := by decide +kernel
theorem d_M_free_1 : decode b_M_free 1 = .ok (.istore_n 1, 1) := by decide +kernel
theorem d_M_free_2 : decode b_M_free 2 = .ok (.iload_n 1, 1) := by decide +kernel
theorem d_M_free_3 : decode b_M_free 3 = .ok (.bipush 12, 2) := by decide +kernel
theorem d_M_free_5 : decode b_M_free 5 = .ok (.if_icmp .ge 20, 3) := by decide +kernel
theorem d_M_free_8 : decode b_M_free 8 = .ok (.aload_n 0, 1) := by decide +kernel
theorem d_M_free_9 : decode b_M_free 9 = .ok (.getfield 35, 3) := by decide +kernel
theorem d_M_free_12 : decode b_M_free 12 = .ok (.iload_n 1, 1) := by decide +kernel
theorem d_M_free_13 : decode b_M_free 13 = .ok (.baload, 1) := by decide +kernel
theorem d_M_free_14 : decode b_M_free 14 = .ok (.ifCond .ne 5, 3) := by decide +kernel
theorem d_M_free_17 : decode b_M_free 17 = .ok (.iload_n 1, 1) := by decide +kernel
theorem d_M_free_18 : decode b_M_free 18 = .ok (.ireturn, 1) := by decide +kernel
theorem d_M_free_19 : decode b_M_free 19 = .ok (.iinc 1 1, 3) := by decide +kernel
theorem d_M_free_22 : decode b_M_free 22 = .ok (.goto (-20), 3) := by decide +kernel
theorem d_M_free_25 : decode b_M_free 25 = .ok (.iconst (-1), 1) := by decide +kernel
theorem d_M_free_26 : decode b_M_free 26 = .ok (.ireturn, 1) := by decide +kernel
abbrev b_M_settle : ByteArray := prog_9_method_21_code
def y_M_settle : MethodName := ⟨"RangeExchangeModel", "settle", "(I)V"⟩
theorem d_M_settle_0 : decode b_M_settle 0 = .ok (.iconst 2, 1) := by decide +kernel
theorem d_M_settle_1 : decode b_M_settle 1 = .ok (.iload_n 1, 1) := by decide +kernel
theorem d_M_settle_2 : decode b_M_settle 2 = .ok (.imul, 1) := by decide +kernel
theorem d_M_settle_3 : decode b_M_settle 3 = .ok (.istore_n 2, 1) := by decide +kernel
theorem d_M_settle_4 : decode b_M_settle 4 = .ok (.iload_n 2, 1) := by decide +kernel
theorem d_M_settle_5 : decode b_M_settle 5 = .ok (.iconst 2, 1) := by decide +kernel
theorem d_M_settle_6 : decode b_M_settle 6 = .ok (.iload_n 1, 1) := by decide +kernel
theorem d_M_settle_7 : decode b_M_settle 7 = .ok (.imul, 1) := by decide +kernel
theorem d_M_settle_8 : decode b_M_settle 8 = .ok (.iconst 2, 1) := by decide +kernel
theorem d_M_settle_9 : decode b_M_settle 9 = .ok (.iadd, 1) := by decide +kernel
theorem d_M_settle_10 : decode b_M_settle 10 = .ok (.if_icmp .ge 68, 3) := by decide +kernel
theorem d_M_settle_13 : decode b_M_settle 13 = .ok (.aload_n 0, 1) := by decide +kernel
theorem d_M_settle_14 : decode b_M_settle 14 = .ok (.getfield 54, 3) := by decide +kernel
theorem d_M_settle_17 : decode b_M_settle 17 = .ok (.iload_n 2, 1) := by decide +kernel
theorem d_M_settle_18 : decode b_M_settle 18 = .ok (.laload, 1) := by decide +kernel
theorem d_M_settle_19 : decode b_M_settle 19 = .ok (.bipush 32, 2) := by decide +kernel
theorem d_M_settle_21 : decode b_M_settle 21 = .ok (.lushr, 1) := by decide +kernel
theorem d_M_settle_22 : decode b_M_settle 22 = .ok (.lstore_n 3, 1) := by decide +kernel
theorem d_M_settle_23 : decode b_M_settle 23 = .ok (.aload_n 0, 1) := by decide +kernel
theorem d_M_settle_24 : decode b_M_settle 24 = .ok (.getfield 54, 3) := by decide +kernel
theorem d_M_settle_27 : decode b_M_settle 27 = .ok (.iload_n 2, 1) := by decide +kernel
theorem d_M_settle_28 : decode b_M_settle 28 = .ok (.laload, 1) := by decide +kernel
theorem d_M_settle_29 : decode b_M_settle 29 = .ok (.ldc2_w 125, 3) := by decide +kernel
theorem d_M_settle_32 : decode b_M_settle 32 = .ok (.land, 1) := by decide +kernel
theorem d_M_settle_33 : decode b_M_settle 33 = .ok (.lstore 5, 2) := by decide +kernel
theorem d_M_settle_35 : decode b_M_settle 35 = .ok (.aload_n 0, 1) := by decide +kernel
theorem d_M_settle_36 : decode b_M_settle 36 = .ok (.getfield 57, 3) := by decide +kernel
theorem d_M_settle_39 : decode b_M_settle 39 = .ok (.iload_n 2, 1) := by decide +kernel
theorem d_M_settle_40 : decode b_M_settle 40 = .ok (.dup2, 1) := by decide +kernel
theorem d_M_settle_41 : decode b_M_settle 41 = .ok (.laload, 1) := by decide +kernel
theorem d_M_settle_42 : decode b_M_settle 42 = .ok (.lload_n 3, 1) := by decide +kernel
theorem d_M_settle_43 : decode b_M_settle 43 = .ok (.aload_n 0, 1) := by decide +kernel
theorem d_M_settle_44 : decode b_M_settle 44 = .ok (.getfield 51, 3) := by decide +kernel
theorem d_M_settle_47 : decode b_M_settle 47 = .ok (.iload_n 1, 1) := by decide +kernel
theorem d_M_settle_48 : decode b_M_settle 48 = .ok (.laload, 1) := by decide +kernel
theorem d_M_settle_49 : decode b_M_settle 49 = .ok (.lmul, 1) := by decide +kernel
theorem d_M_settle_50 : decode b_M_settle 50 = .ok (.lload 5, 2) := by decide +kernel
theorem d_M_settle_52 : decode b_M_settle 52 = .ok (.aload_n 0, 1) := by decide +kernel
theorem d_M_settle_53 : decode b_M_settle 53 = .ok (.getfield 51, 3) := by decide +kernel
theorem d_M_settle_56 : decode b_M_settle 56 = .ok (.iload_n 1, 1) := by decide +kernel
theorem d_M_settle_57 : decode b_M_settle 57 = .ok (.laload, 1) := by decide +kernel
theorem d_M_settle_58 : decode b_M_settle 58 = .ok (.lmul, 1) := by decide +kernel
theorem d_M_settle_59 : decode b_M_settle 59 = .ok (.bipush 32, 2) := by decide +kernel
theorem d_M_settle_61 : decode b_M_settle 61 = .ok (.lushr, 1) := by decide +kernel
theorem d_M_settle_62 : decode b_M_settle 62 = .ok (.ladd, 1) := by decide +kernel
theorem d_M_settle_63 : decode b_M_settle 63 = .ok (.ladd, 1) := by decide +kernel
theorem d_M_settle_64 : decode b_M_settle 64 = .ok (.lastore, 1) := by decide +kernel
theorem d_M_settle_65 : decode b_M_settle 65 = .ok (.aload_n 0, 1) := by decide +kernel
theorem d_M_settle_66 : decode b_M_settle 66 = .ok (.getfield 54, 3) := by decide +kernel
theorem d_M_settle_69 : decode b_M_settle 69 = .ok (.iload_n 2, 1) := by decide +kernel
theorem d_M_settle_70 : decode b_M_settle 70 = .ok (.lconst 0, 1) := by decide +kernel
theorem d_M_settle_71 : decode b_M_settle 71 = .ok (.lastore, 1) := by decide +kernel
theorem d_M_settle_72 : decode b_M_settle 72 = .ok (.iinc 2 1, 3) := by decide +kernel
theorem d_M_settle_75 : decode b_M_settle 75 = .ok (.goto (-71), 3) := by decide +kernel
theorem d_M_settle_78 : decode b_M_settle 78 = .ok (.return_, 1) := by decide +kernel
abbrev b_M_sweep : ByteArray := prog_9_method_22_code
def y_M_sweep : MethodName := ⟨"RangeExchangeModel", "sweep", "(I)V"⟩
theorem d_M_sweep_0 : decode b_M_sweep 0 = .ok (.aload_n 0, 1) := by decide +kernel
theorem d_M_sweep_1 : decode b_M_sweep 1 = .ok (.getfield 35, 3) := by decide +kernel
theorem d_M_sweep_4 : decode b_M_sweep 4 = .ok (.iload_n 1, 1) := by decide +kernel
theorem d_M_sweep_5 : decode b_M_sweep 5 = .ok (.aload_n 0, 1) := by decide +kernel
theorem d_M_sweep_6 : decode b_M_sweep 6 = .ok (.getfield 51, 3) := by decide +kernel
theorem d_M_sweep_9 : decode b_M_sweep 9 = .ok (.iload_n 1, 1) := by decide +kernel
theorem d_M_sweep_10 : decode b_M_sweep 10 = .ok (.laload, 1) := by decide +kernel
theorem d_M_sweep_11 : decode b_M_sweep 11 = .ok (.lconst 0, 1) := by decide +kernel
theorem d_M_sweep_12 : decode b_M_sweep 12 = .ok (.lcmp, 1) := by decide +kernel
theorem d_M_sweep_13 : decode b_M_sweep 13 = .ok (.ifCond .gt 31, 3) := by decide +kernel
theorem d_M_sweep_16 : decode b_M_sweep 16 = .ok (.aload_n 0, 1) := by decide +kernel
theorem d_M_sweep_17 : decode b_M_sweep 17 = .ok (.getfield 57, 3) := by decide +kernel
theorem d_M_sweep_20 : decode b_M_sweep 20 = .ok (.iconst 2, 1) := by decide +kernel
theorem d_M_sweep_21 : decode b_M_sweep 21 = .ok (.iload_n 1, 1) := by decide +kernel
theorem d_M_sweep_22 : decode b_M_sweep 22 = .ok (.imul, 1) := by decide +kernel
theorem d_M_sweep_23 : decode b_M_sweep 23 = .ok (.laload, 1) := by decide +kernel
theorem d_M_sweep_24 : decode b_M_sweep 24 = .ok (.lconst 0, 1) := by decide +kernel
theorem d_M_sweep_25 : decode b_M_sweep 25 = .ok (.lcmp, 1) := by decide +kernel
theorem d_M_sweep_26 : decode b_M_sweep 26 = .ok (.ifCond .ne 18, 3) := by decide +kernel
theorem d_M_sweep_29 : decode b_M_sweep 29 = .ok (.aload_n 0, 1) := by decide +kernel
theorem d_M_sweep_30 : decode b_M_sweep 30 = .ok (.getfield 57, 3) := by decide +kernel
theorem d_M_sweep_33 : decode b_M_sweep 33 = .ok (.iconst 2, 1) := by decide +kernel
theorem d_M_sweep_34 : decode b_M_sweep 34 = .ok (.iload_n 1, 1) := by decide +kernel
theorem d_M_sweep_35 : decode b_M_sweep 35 = .ok (.imul, 1) := by decide +kernel
theorem d_M_sweep_36 : decode b_M_sweep 36 = .ok (.iconst 1, 1) := by decide +kernel
theorem d_M_sweep_37 : decode b_M_sweep 37 = .ok (.iadd, 1) := by decide +kernel
theorem d_M_sweep_38 : decode b_M_sweep 38 = .ok (.laload, 1) := by decide +kernel
theorem d_M_sweep_39 : decode b_M_sweep 39 = .ok (.lconst 0, 1) := by decide +kernel
theorem d_M_sweep_40 : decode b_M_sweep 40 = .ok (.lcmp, 1) := by decide +kernel
theorem d_M_sweep_41 : decode b_M_sweep 41 = .ok (.ifCond .eq 7, 3) := by decide +kernel
theorem d_M_sweep_44 : decode b_M_sweep 44 = .ok (.iconst 1, 1) := by decide +kernel
theorem d_M_sweep_45 : decode b_M_sweep 45 = .ok (.goto 4, 3) := by decide +kernel
theorem d_M_sweep_48 : decode b_M_sweep 48 = .ok (.iconst 0, 1) := by decide +kernel
theorem d_M_sweep_49 : decode b_M_sweep 49 = .ok (.bastore, 1) := by decide +kernel
theorem d_M_sweep_50 : decode b_M_sweep 50 = .ok (.return_, 1) := by decide +kernel
abbrev b_M_mint : ByteArray := prog_9_method_23_code
def y_M_mint : MethodName := ⟨"RangeExchangeModel", "mint", "(IIIII)I"⟩
theorem d_M_mint_0 : decode b_M_mint 0 = .ok (.aload_n 0, 1) := by decide +kernel
theorem d_M_mint_1 : decode b_M_mint 1 = .ok (.iconst 0, 1) := by decide +kernel
theorem d_M_mint_2 : decode b_M_mint 2 = .ok (.putfield 84, 3) := by decide +kernel
theorem d_M_mint_5 : decode b_M_mint 5 = .ok (.iload_n 1, 1) := by decide +kernel
theorem d_M_mint_6 : decode b_M_mint 6 = .ok (.iload_n 2, 1) := by decide +kernel
theorem d_M_mint_7 : decode b_M_mint 7 = .ok (.iload_n 3, 1) := by decide +kernel
theorem d_M_mint_8 : decode b_M_mint 8 = .ok (.iload 4, 2) := by decide +kernel
theorem d_M_mint_10 : decode b_M_mint 10 = .ok (.invokestatic 127, 3) := by decide +kernel
theorem d_M_mint_13 : decode b_M_mint 13 = .ok (.ifCond .ne 10, 3) := by decide +kernel
theorem d_M_mint_16 : decode b_M_mint 16 = .ok (.aload_n 0, 1) := by decide +kernel
theorem d_M_mint_17 : decode b_M_mint 17 = .ok (.iconst 1, 1) := by decide +kernel
theorem d_M_mint_18 : decode b_M_mint 18 = .ok (.putfield 84, 3) := by decide +kernel
theorem d_M_mint_21 : decode b_M_mint 21 = .ok (.iconst 0, 1) := by decide +kernel
theorem d_M_mint_22 : decode b_M_mint 22 = .ok (.ireturn, 1) := by decide +kernel
theorem d_M_mint_23 : decode b_M_mint 23 = .ok (.aload_n 0, 1) := by decide +kernel
theorem d_M_mint_24 : decode b_M_mint 24 = .ok (.iload_n 1, 1) := by decide +kernel
theorem d_M_mint_25 : decode b_M_mint 25 = .ok (.iload_n 2, 1) := by decide +kernel
theorem d_M_mint_26 : decode b_M_mint 26 = .ok (.iload_n 3, 1) := by decide +kernel
theorem d_M_mint_27 : decode b_M_mint 27 = .ok (.iload 4, 2) := by decide +kernel
theorem d_M_mint_29 : decode b_M_mint 29 = .ok (.invokevirtual 131, 3) := by decide +kernel
theorem d_M_mint_32 : decode b_M_mint 32 = .ok (.istore 6, 2) := by decide +kernel
theorem d_M_mint_34 : decode b_M_mint 34 = .ok (.iload 6, 2) := by decide +kernel
theorem d_M_mint_36 : decode b_M_mint 36 = .ok (.ifCond .ge 7, 3) := by decide +kernel
theorem d_M_mint_39 : decode b_M_mint 39 = .ok (.lconst 0, 1) := by decide +kernel
theorem d_M_mint_40 : decode b_M_mint 40 = .ok (.goto 10, 3) := by decide +kernel
theorem d_M_mint_43 : decode b_M_mint 43 = .ok (.aload_n 0, 1) := by decide +kernel
theorem d_M_mint_44 : decode b_M_mint 44 = .ok (.getfield 51, 3) := by decide +kernel
theorem d_M_mint_47 : decode b_M_mint 47 = .ok (.iload 6, 2) := by decide +kernel
theorem d_M_mint_49 : decode b_M_mint 49 = .ok (.laload, 1) := by decide +kernel
theorem d_M_mint_50 : decode b_M_mint 50 = .ok (.lstore 7, 2) := by decide +kernel
theorem d_M_mint_52 : decode b_M_mint 52 = .ok (.iload_n 3, 1) := by decide +kernel
theorem d_M_mint_53 : decode b_M_mint 53 = .ok (.iload 4, 2) := by decide +kernel
theorem d_M_mint_55 : decode b_M_mint 55 = .ok (.if_icmp .ge 29, 3) := by decide +kernel
theorem d_M_mint_58 : decode b_M_mint 58 = .ok (.iload 5, 2) := by decide +kernel
theorem d_M_mint_60 : decode b_M_mint 60 = .ok (.iconst 1, 1) := by decide +kernel
theorem d_M_mint_61 : decode b_M_mint 61 = .ok (.if_icmp .lt 23, 3) := by decide +kernel
theorem d_M_mint_64 : decode b_M_mint 64 = .ok (.iload 5, 2) := by decide +kernel
theorem d_M_mint_66 : decode b_M_mint 66 = .ok (.ldc 135, 2) := by decide +kernel
theorem d_M_mint_68 : decode b_M_mint 68 = .ok (.if_icmp .gt 16, 3) := by decide +kernel
theorem d_M_mint_71 : decode b_M_mint 71 = .ok (.lload 7, 2) := by decide +kernel
theorem d_M_mint_73 : decode b_M_mint 73 = .ok (.iload 5, 2) := by decide +kernel
theorem d_M_mint_75 : decode b_M_mint 75 = .ok (.i2l, 1) := by decide +kernel
theorem d_M_mint_76 : decode b_M_mint 76 = .ok (.ladd, 1) := by decide +kernel
theorem d_M_mint_77 : decode b_M_mint 77 = .ok (.ldc2_w 136, 3) := by decide +kernel
theorem d_M_mint_80 : decode b_M_mint 80 = .ok (.lcmp, 1) := by decide +kernel
theorem d_M_mint_81 : decode b_M_mint 81 = .ok (.ifCond .le 10, 3) := by decide +kernel
theorem d_M_mint_84 : decode b_M_mint 84 = .ok (.aload_n 0, 1) := by decide +kernel
theorem d_M_mint_85 : decode b_M_mint 85 = .ok (.iconst 2, 1) := by decide +kernel
theorem d_M_mint_86 : decode b_M_mint 86 = .ok (.putfield 84, 3) := by decide +kernel
theorem d_M_mint_89 : decode b_M_mint 89 = .ok (.iconst 0, 1) := by decide +kernel
theorem d_M_mint_90 : decode b_M_mint 90 = .ok (.ireturn, 1) := by decide +kernel
theorem d_M_mint_91 : decode b_M_mint 91 = .ok (.aload_n 0, 1) := by decide +kernel
theorem d_M_mint_92 : decode b_M_mint 92 = .ok (.iload_n 2, 1) := by decide +kernel
theorem d_M_mint_93 : decode b_M_mint 93 = .ok (.iload_n 3, 1) := by decide +kernel
theorem d_M_mint_94 : decode b_M_mint 94 = .ok (.iload 4, 2) := by decide +kernel
theorem d_M_mint_96 : decode b_M_mint 96 = .ok (.iload 5, 2) := by decide +kernel
theorem d_M_mint_98 : decode b_M_mint 98 = .ok (.i2l, 1) := by decide +kernel
theorem d_M_mint_99 : decode b_M_mint 99 = .ok (.iconst 1, 1) := by decide +kernel
theorem d_M_mint_100 : decode b_M_mint 100 = .ok (.invokevirtual 138, 3) := by decide +kernel
theorem d_M_mint_103 : decode b_M_mint 103 = .ok (.lstore 9, 2) := by decide +kernel
theorem d_M_mint_105 : decode b_M_mint 105 = .ok (.aload_n 0, 1) := by decide +kernel
theorem d_M_mint_106 : decode b_M_mint 106 = .ok (.iload_n 2, 1) := by decide +kernel
theorem d_M_mint_107 : decode b_M_mint 107 = .ok (.iload_n 3, 1) := by decide +kernel
theorem d_M_mint_108 : decode b_M_mint 108 = .ok (.iload 4, 2) := by decide +kernel
theorem d_M_mint_110 : decode b_M_mint 110 = .ok (.iload 5, 2) := by decide +kernel
theorem d_M_mint_112 : decode b_M_mint 112 = .ok (.i2l, 1) := by decide +kernel
theorem d_M_mint_113 : decode b_M_mint 113 = .ok (.iconst 1, 1) := by decide +kernel
theorem d_M_mint_114 : decode b_M_mint 114 = .ok (.invokevirtual 142, 3) := by decide +kernel
theorem d_M_mint_117 : decode b_M_mint 117 = .ok (.lstore 11, 2) := by decide +kernel
theorem d_M_mint_119 : decode b_M_mint 119 = .ok (.iload 6, 2) := by decide +kernel
theorem d_M_mint_121 : decode b_M_mint 121 = .ok (.ifCond .ge 10, 3) := by decide +kernel
theorem d_M_mint_124 : decode b_M_mint 124 = .ok (.aload_n 0, 1) := by decide +kernel
theorem d_M_mint_125 : decode b_M_mint 125 = .ok (.invokevirtual 145, 3) := by decide +kernel
theorem d_M_mint_128 : decode b_M_mint 128 = .ok (.goto 5, 3) := by decide +kernel
theorem d_M_mint_131 : decode b_M_mint 131 = .ok (.iload 6, 2) := by decide +kernel
theorem d_M_mint_133 : decode b_M_mint 133 = .ok (.istore 13, 2) := by decide +kernel
theorem d_M_mint_135 : decode b_M_mint 135 = .ok (.iload 13, 2) := by decide +kernel
theorem d_M_mint_137 : decode b_M_mint 137 = .ok (.ifCond .lt 37, 3) := by decide +kernel
theorem d_M_mint_140 : decode b_M_mint 140 = .ok (.aload_n 0, 1) := by decide +kernel
theorem d_M_mint_141 : decode b_M_mint 141 = .ok (.getfield 13, 3) := by decide +kernel
theorem d_M_mint_144 : decode b_M_mint 144 = .ok (.iconst 3, 1) := by decide +kernel
theorem d_M_mint_145 : decode b_M_mint 145 = .ok (.iload_n 1, 1) := by decide +kernel
theorem d_M_mint_146 : decode b_M_mint 146 = .ok (.imul, 1) := by decide +kernel
theorem d_M_mint_147 : decode b_M_mint 147 = .ok (.iload_n 2, 1) := by decide +kernel
theorem d_M_mint_148 : decode b_M_mint 148 = .ok (.iadd, 1) := by decide +kernel
theorem d_M_mint_149 : decode b_M_mint 149 = .ok (.laload, 1) := by decide +kernel
theorem d_M_mint_150 : decode b_M_mint 150 = .ok (.lload 9, 2) := by decide +kernel
theorem d_M_mint_152 : decode b_M_mint 152 = .ok (.lcmp, 1) := by decide +kernel
theorem d_M_mint_153 : decode b_M_mint 153 = .ok (.ifCond .lt 21, 3) := by decide +kernel
theorem d_M_mint_156 : decode b_M_mint 156 = .ok (.aload_n 0, 1) := by decide +kernel
theorem d_M_mint_157 : decode b_M_mint 157 = .ok (.getfield 13, 3) := by decide +kernel
theorem d_M_mint_160 : decode b_M_mint 160 = .ok (.iconst 3, 1) := by decide +kernel
theorem d_M_mint_161 : decode b_M_mint 161 = .ok (.iload_n 1, 1) := by decide +kernel
theorem d_M_mint_162 : decode b_M_mint 162 = .ok (.imul, 1) := by decide +kernel
theorem d_M_mint_163 : decode b_M_mint 163 = .ok (.iload_n 2, 1) := by decide +kernel
theorem d_M_mint_164 : decode b_M_mint 164 = .ok (.iadd, 1) := by decide +kernel
theorem d_M_mint_165 : decode b_M_mint 165 = .ok (.iconst 1, 1) := by decide +kernel
theorem d_M_mint_166 : decode b_M_mint 166 = .ok (.iadd, 1) := by decide +kernel
theorem d_M_mint_167 : decode b_M_mint 167 = .ok (.laload, 1) := by decide +kernel
theorem d_M_mint_168 : decode b_M_mint 168 = .ok (.lload 11, 2) := by decide +kernel
theorem d_M_mint_170 : decode b_M_mint 170 = .ok (.lcmp, 1) := by decide +kernel
theorem d_M_mint_171 : decode b_M_mint 171 = .ok (.ifCond .ge 10, 3) := by decide +kernel
theorem d_M_mint_174 : decode b_M_mint 174 = .ok (.aload_n 0, 1) := by decide +kernel
theorem d_M_mint_175 : decode b_M_mint 175 = .ok (.iconst 3, 1) := by decide +kernel
theorem d_M_mint_176 : decode b_M_mint 176 = .ok (.putfield 84, 3) := by decide +kernel
theorem d_M_mint_179 : decode b_M_mint 179 = .ok (.iconst 0, 1) := by decide +kernel
theorem d_M_mint_180 : decode b_M_mint 180 = .ok (.ireturn, 1) := by decide +kernel
theorem d_M_mint_181 : decode b_M_mint 181 = .ok (.iload 6, 2) := by decide +kernel
theorem d_M_mint_183 : decode b_M_mint 183 = .ok (.ifCond .ge 91, 3) := by decide +kernel
theorem d_M_mint_186 : decode b_M_mint 186 = .ok (.aload_n 0, 1) := by decide +kernel
theorem d_M_mint_187 : decode b_M_mint 187 = .ok (.getfield 35, 3) := by decide +kernel
theorem d_M_mint_190 : decode b_M_mint 190 = .ok (.iload 13, 2) := by decide +kernel
theorem d_M_mint_192 : decode b_M_mint 192 = .ok (.iconst 1, 1) := by decide +kernel
theorem d_M_mint_193 : decode b_M_mint 193 = .ok (.bastore, 1) := by decide +kernel
theorem d_M_mint_194 : decode b_M_mint 194 = .ok (.aload_n 0, 1) := by decide +kernel
theorem d_M_mint_195 : decode b_M_mint 195 = .ok (.getfield 39, 3) := by decide +kernel
theorem d_M_mint_198 : decode b_M_mint 198 = .ok (.iload 13, 2) := by decide +kernel
theorem d_M_mint_200 : decode b_M_mint 200 = .ok (.iload_n 1, 1) := by decide +kernel
theorem d_M_mint_201 : decode b_M_mint 201 = .ok (.iastore, 1) := by decide +kernel
theorem d_M_mint_202 : decode b_M_mint 202 = .ok (.aload_n 0, 1) := by decide +kernel
theorem d_M_mint_203 : decode b_M_mint 203 = .ok (.getfield 42, 3) := by decide +kernel
theorem d_M_mint_206 : decode b_M_mint 206 = .ok (.iload 13, 2) := by decide +kernel
theorem d_M_mint_208 : decode b_M_mint 208 = .ok (.iload_n 2, 1) := by decide +kernel
theorem d_M_mint_209 : decode b_M_mint 209 = .ok (.iastore, 1) := by decide +kernel
theorem d_M_mint_210 : decode b_M_mint 210 = .ok (.aload_n 0, 1) := by decide +kernel
theorem d_M_mint_211 : decode b_M_mint 211 = .ok (.getfield 45, 3) := by decide +kernel
theorem d_M_mint_214 : decode b_M_mint 214 = .ok (.iload 13, 2) := by decide +kernel
theorem d_M_mint_216 : decode b_M_mint 216 = .ok (.iload_n 3, 1) := by decide +kernel
theorem d_M_mint_217 : decode b_M_mint 217 = .ok (.iastore, 1) := by decide +kernel
theorem d_M_mint_218 : decode b_M_mint 218 = .ok (.aload_n 0, 1) := by decide +kernel
theorem d_M_mint_219 : decode b_M_mint 219 = .ok (.getfield 48, 3) := by decide +kernel
theorem d_M_mint_222 : decode b_M_mint 222 = .ok (.iload 13, 2) := by decide +kernel
theorem d_M_mint_224 : decode b_M_mint 224 = .ok (.iload 4, 2) := by decide +kernel
theorem d_M_mint_226 : decode b_M_mint 226 = .ok (.iastore, 1) := by decide +kernel
theorem d_M_mint_227 : decode b_M_mint 227 = .ok (.aload_n 0, 1) := by decide +kernel
theorem d_M_mint_228 : decode b_M_mint 228 = .ok (.getfield 51, 3) := by decide +kernel
theorem d_M_mint_231 : decode b_M_mint 231 = .ok (.iload 13, 2) := by decide +kernel
theorem d_M_mint_233 : decode b_M_mint 233 = .ok (.lconst 0, 1) := by decide +kernel
theorem d_M_mint_234 : decode b_M_mint 234 = .ok (.lastore, 1) := by decide +kernel
theorem d_M_mint_235 : decode b_M_mint 235 = .ok (.iconst 2, 1) := by decide +kernel
theorem d_M_mint_236 : decode b_M_mint 236 = .ok (.iload 13, 2) := by decide +kernel
theorem d_M_mint_238 : decode b_M_mint 238 = .ok (.imul, 1) := by decide +kernel
theorem d_M_mint_239 : decode b_M_mint 239 = .ok (.istore 14, 2) := by decide +kernel
theorem d_M_mint_241 : decode b_M_mint 241 = .ok (.iload 14, 2) := by decide +kernel
theorem d_M_mint_243 : decode b_M_mint 243 = .ok (.iconst 2, 1) := by decide +kernel
theorem d_M_mint_244 : decode b_M_mint 244 = .ok (.iload 13, 2) := by decide +kernel
theorem d_M_mint_246 : decode b_M_mint 246 = .ok (.imul, 1) := by decide +kernel
theorem d_M_mint_247 : decode b_M_mint 247 = .ok (.iconst 2, 1) := by decide +kernel
theorem d_M_mint_248 : decode b_M_mint 248 = .ok (.iadd, 1) := by decide +kernel
theorem d_M_mint_249 : decode b_M_mint 249 = .ok (.if_icmp .ge 25, 3) := by decide +kernel
theorem d_M_mint_252 : decode b_M_mint 252 = .ok (.aload_n 0, 1) := by decide +kernel
theorem d_M_mint_253 : decode b_M_mint 253 = .ok (.getfield 54, 3) := by decide +kernel
theorem d_M_mint_256 : decode b_M_mint 256 = .ok (.iload 14, 2) := by decide +kernel
theorem d_M_mint_258 : decode b_M_mint 258 = .ok (.lconst 0, 1) := by decide +kernel
theorem d_M_mint_259 : decode b_M_mint 259 = .ok (.lastore, 1) := by decide +kernel
theorem d_M_mint_260 : decode b_M_mint 260 = .ok (.aload_n 0, 1) := by decide +kernel
theorem d_M_mint_261 : decode b_M_mint 261 = .ok (.getfield 57, 3) := by decide +kernel
theorem d_M_mint_264 : decode b_M_mint 264 = .ok (.iload 14, 2) := by decide +kernel
theorem d_M_mint_266 : decode b_M_mint 266 = .ok (.lconst 0, 1) := by decide +kernel
theorem d_M_mint_267 : decode b_M_mint 267 = .ok (.lastore, 1) := by decide +kernel
theorem d_M_mint_268 : decode b_M_mint 268 = .ok (.iinc 14 1, 3) := by decide +kernel
theorem d_M_mint_271 : decode b_M_mint 271 = .ok (.goto (-30), 3) := by decide +kernel
theorem d_M_mint_274 : decode b_M_mint 274 = .ok (.aload_n 0, 1) := by decide +kernel
theorem d_M_mint_275 : decode b_M_mint 275 = .ok (.iload 13, 2) := by decide +kernel
theorem d_M_mint_277 : decode b_M_mint 277 = .ok (.invokevirtual 149, 3) := by decide +kernel
theorem d_M_mint_280 : decode b_M_mint 280 = .ok (.aload_n 0, 1) := by decide +kernel
theorem d_M_mint_281 : decode b_M_mint 281 = .ok (.getfield 51, 3) := by decide +kernel
theorem d_M_mint_284 : decode b_M_mint 284 = .ok (.iload 13, 2) := by decide +kernel
theorem d_M_mint_286 : decode b_M_mint 286 = .ok (.dup2, 1) := by decide +kernel
theorem d_M_mint_287 : decode b_M_mint 287 = .ok (.laload, 1) := by decide +kernel
theorem d_M_mint_288 : decode b_M_mint 288 = .ok (.iload 5, 2) := by decide +kernel
theorem d_M_mint_290 : decode b_M_mint 290 = .ok (.i2l, 1) := by decide +kernel
theorem d_M_mint_291 : decode b_M_mint 291 = .ok (.ladd, 1) := by decide +kernel
theorem d_M_mint_292 : decode b_M_mint 292 = .ok (.lastore, 1) := by decide +kernel
theorem d_M_mint_293 : decode b_M_mint 293 = .ok (.aload_n 0, 1) := by decide +kernel
theorem d_M_mint_294 : decode b_M_mint 294 = .ok (.iload_n 1, 1) := by decide +kernel
theorem d_M_mint_295 : decode b_M_mint 295 = .ok (.iload_n 2, 1) := by decide +kernel
theorem d_M_mint_296 : decode b_M_mint 296 = .ok (.lload 9, 2) := by decide +kernel
theorem d_M_mint_298 : decode b_M_mint 298 = .ok (.invokevirtual 153, 3) := by decide +kernel
theorem d_M_mint_301 : decode b_M_mint 301 = .ok (.aload_n 0, 1) := by decide +kernel
theorem d_M_mint_302 : decode b_M_mint 302 = .ok (.iload_n 1, 1) := by decide +kernel
theorem d_M_mint_303 : decode b_M_mint 303 = .ok (.iload_n 2, 1) := by decide +kernel
theorem d_M_mint_304 : decode b_M_mint 304 = .ok (.iconst 1, 1) := by decide +kernel
theorem d_M_mint_305 : decode b_M_mint 305 = .ok (.iadd, 1) := by decide +kernel
theorem d_M_mint_306 : decode b_M_mint 306 = .ok (.lload 11, 2) := by decide +kernel
theorem d_M_mint_308 : decode b_M_mint 308 = .ok (.invokevirtual 153, 3) := by decide +kernel
theorem d_M_mint_311 : decode b_M_mint 311 = .ok (.aload_n 0, 1) := by decide +kernel
theorem d_M_mint_312 : decode b_M_mint 312 = .ok (.getfield 51, 3) := by decide +kernel
theorem d_M_mint_315 : decode b_M_mint 315 = .ok (.iload 13, 2) := by decide +kernel
theorem d_M_mint_317 : decode b_M_mint 317 = .ok (.laload, 1) := by decide +kernel
theorem d_M_mint_318 : decode b_M_mint 318 = .ok (.l2i, 1) := by decide +kernel
theorem d_M_mint_319 : decode b_M_mint 319 = .ok (.ireturn, 1) := by decide +kernel
