abbrev b_Q_of : ByteArray := prog_5_method_2_code
def y_Q_of : MethodName := ⟨"RangeExchange$Quotients", "of", "(JJZ)J"⟩
theorem d_Q_of_0 : decode b_Q_of 0 = .ok (.lload_n 2, 1) := by decide +kernel
theorem d_Q_of_1 : decode b_Q_of 1 = .ok (.lconst 0, 1) := by decide +kernel
theorem d_Q_of_2 : decode b_Q_of 2 = .ok (.lcmp, 1) := by decide +kernel
theorem d_Q_of_3 : decode b_Q_of 3 = .ok (.ifCond .gt 5, 3) := by decide +kernel
theorem d_Q_of_6 : decode b_Q_of 6 = .ok (.lconst 0, 1) := by decide +kernel
theorem d_Q_of_7 : decode b_Q_of 7 = .ok (.lreturn, 1) := by decide +kernel
theorem d_Q_of_8 : decode b_Q_of 8 = .ok (.lload_n 0, 1) := by decide +kernel
theorem d_Q_of_9 : decode b_Q_of 9 = .ok (.lload_n 2, 1) := by decide +kernel
theorem d_Q_of_10 : decode b_Q_of 10 = .ok (.ldiv, 1) := by decide +kernel
theorem d_Q_of_11 : decode b_Q_of 11 = .ok (.lstore 5, 2) := by decide +kernel
theorem d_Q_of_13 : decode b_Q_of 13 = .ok (.iload 4, 2) := by decide +kernel
theorem d_Q_of_15 : decode b_Q_of 15 = .ok (.ifCond .eq 18, 3) := by decide +kernel
theorem d_Q_of_18 : decode b_Q_of 18 = .ok (.lload_n 0, 1) := by decide +kernel
theorem d_Q_of_19 : decode b_Q_of 19 = .ok (.lload_n 2, 1) := by decide +kernel
theorem d_Q_of_20 : decode b_Q_of 20 = .ok (.lrem, 1) := by decide +kernel
theorem d_Q_of_21 : decode b_Q_of 21 = .ok (.lconst 0, 1) := by decide +kernel
theorem d_Q_of_22 : decode b_Q_of 22 = .ok (.lcmp, 1) := by decide +kernel
theorem d_Q_of_23 : decode b_Q_of 23 = .ok (.ifCond .eq 10, 3) := by decide +kernel
theorem d_Q_of_26 : decode b_Q_of 26 = .ok (.lload 5, 2) := by decide +kernel
theorem d_Q_of_28 : decode b_Q_of 28 = .ok (.lconst 1, 1) := by decide +kernel
theorem d_Q_of_29 : decode b_Q_of 29 = .ok (.ladd, 1) := by decide +kernel
theorem d_Q_of_30 : decode b_Q_of 30 = .ok (.goto 5, 3) := by decide +kernel
theorem d_Q_of_33 : decode b_Q_of 33 = .ok (.lload 5, 2) := by decide +kernel
theorem d_Q_of_35 : decode b_Q_of 35 = .ok (.lreturn, 1) := by decide +kernel
abbrev b_Q_ofShifted : ByteArray := prog_5_method_3_code
def y_Q_ofShifted : MethodName := ⟨"RangeExchange$Quotients", "ofShifted", "(JJZ)J"⟩
theorem d_Q_ofShifted_0 : decode b_Q_ofShifted 0 = .ok (.lload_n 2, 1) := by decide +kernel
theorem d_Q_ofShifted_1 : decode b_Q_ofShifted 1 = .ok (.lconst 0, 1) := by decide +kernel
theorem d_Q_ofShifted_2 : decode b_Q_ofShifted 2 = .ok (.lcmp, 1) := by decide +kernel
theorem d_Q_ofShifted_3 : decode b_Q_ofShifted 3 = .ok (.ifCond .gt 5, 3) := by decide +kernel
theorem d_Q_ofShifted_6 : decode b_Q_ofShifted 6 = .ok (.lconst 0, 1) := by decide +kernel
theorem d_Q_ofShifted_7 : decode b_Q_ofShifted 7 = .ok (.lreturn, 1) := by decide +kernel
theorem d_Q_ofShifted_8 : decode b_Q_ofShifted 8 = .ok (.lload_n 0, 1) := by decide +kernel
theorem d_Q_ofShifted_9 : decode b_Q_ofShifted 9 = .ok (.lload_n 2, 1) := by decide +kernel
theorem d_Q_ofShifted_10 : decode b_Q_ofShifted 10 = .ok (.ldiv, 1) := by decide +kernel
theorem d_Q_ofShifted_11 : decode b_Q_ofShifted 11 = .ok (.lstore 5, 2) := by decide +kernel
theorem d_Q_ofShifted_13 : decode b_Q_ofShifted 13 = .ok (.lload_n 0, 1) := by decide +kernel
theorem d_Q_ofShifted_14 : decode b_Q_ofShifted 14 = .ok (.lload_n 2, 1) := by decide +kernel
theorem d_Q_ofShifted_15 : decode b_Q_ofShifted 15 = .ok (.lrem, 1) := by decide +kernel
theorem d_Q_ofShifted_16 : decode b_Q_ofShifted 16 = .ok (.lstore 7, 2) := by decide +kernel
theorem d_Q_ofShifted_18 : decode b_Q_ofShifted 18 = .ok (.iconst 0, 1) := by decide +kernel
theorem d_Q_ofShifted_19 : decode b_Q_ofShifted 19 = .ok (.istore 9, 2) := by decide +kernel
theorem d_Q_ofShifted_21 : decode b_Q_ofShifted 21 = .ok (.iload 9, 2) := by decide +kernel
theorem d_Q_ofShifted_23 : decode b_Q_ofShifted 23 = .ok (.bipush 32, 2) := by decide +kernel
theorem d_Q_ofShifted_25 : decode b_Q_ofShifted 25 = .ok (.if_icmp .ge 40, 3) := by decide +kernel
theorem d_Q_ofShifted_28 : decode b_Q_ofShifted 28 = .ok (.lload 5, 2) := by decide +kernel
theorem d_Q_ofShifted_30 : decode b_Q_ofShifted 30 = .ok (.iconst 1, 1) := by decide +kernel
theorem d_Q_ofShifted_31 : decode b_Q_ofShifted 31 = .ok (.lshl, 1) := by decide +kernel
theorem d_Q_ofShifted_32 : decode b_Q_ofShifted 32 = .ok (.lstore 5, 2) := by decide +kernel
theorem d_Q_ofShifted_34 : decode b_Q_ofShifted 34 = .ok (.lload 7, 2) := by decide +kernel
theorem d_Q_ofShifted_36 : decode b_Q_ofShifted 36 = .ok (.iconst 1, 1) := by decide +kernel
theorem d_Q_ofShifted_37 : decode b_Q_ofShifted 37 = .ok (.lshl, 1) := by decide +kernel
theorem d_Q_ofShifted_38 : decode b_Q_ofShifted 38 = .ok (.lstore 7, 2) := by decide +kernel
theorem d_Q_ofShifted_40 : decode b_Q_ofShifted 40 = .ok (.lload 7, 2) := by decide +kernel
theorem d_Q_ofShifted_42 : decode b_Q_ofShifted 42 = .ok (.lload_n 2, 1) := by decide +kernel
theorem d_Q_ofShifted_43 : decode b_Q_ofShifted 43 = .ok (.lcmp, 1) := by decide +kernel
theorem d_Q_ofShifted_44 : decode b_Q_ofShifted 44 = .ok (.ifCond .lt 15, 3) := by decide +kernel
theorem d_Q_ofShifted_47 : decode b_Q_ofShifted 47 = .ok (.lload 7, 2) := by decide +kernel
theorem d_Q_ofShifted_49 : decode b_Q_ofShifted 49 = .ok (.lload_n 2, 1) := by decide +kernel
theorem d_Q_ofShifted_50 : decode b_Q_ofShifted 50 = .ok (.lsub, 1) := by decide +kernel
theorem d_Q_ofShifted_51 : decode b_Q_ofShifted 51 = .ok (.lstore 7, 2) := by decide +kernel
theorem d_Q_ofShifted_53 : decode b_Q_ofShifted 53 = .ok (.lload 5, 2) := by decide +kernel
theorem d_Q_ofShifted_55 : decode b_Q_ofShifted 55 = .ok (.lconst 1, 1) := by decide +kernel
theorem d_Q_ofShifted_56 : decode b_Q_ofShifted 56 = .ok (.ladd, 1) := by decide +kernel
theorem d_Q_ofShifted_57 : decode b_Q_ofShifted 57 = .ok (.lstore 5, 2) := by decide +kernel
theorem d_Q_ofShifted_59 : decode b_Q_ofShifted 59 = .ok (.iinc 9 1, 3) := by decide +kernel
theorem d_Q_ofShifted_62 : decode b_Q_ofShifted 62 = .ok (.goto (-41), 3) := by decide +kernel
theorem d_Q_ofShifted_65 : decode b_Q_ofShifted 65 = .ok (.iload 4, 2) := by decide +kernel
theorem d_Q_ofShifted_67 : decode b_Q_ofShifted 67 = .ok (.ifCond .eq 17, 3) := by decide +kernel
theorem d_Q_ofShifted_70 : decode b_Q_ofShifted 70 = .ok (.lload 7, 2) := by decide +kernel
theorem d_Q_ofShifted_72 : decode b_Q_ofShifted 72 = .ok (.lconst 0, 1) := by decide +kernel
theorem d_Q_ofShifted_73 : decode b_Q_ofShifted 73 = .ok (.lcmp, 1) := by decide +kernel
theorem d_Q_ofShifted_74 : decode b_Q_ofShifted 74 = .ok (.ifCond .eq 10, 3) := by decide +kernel
theorem d_Q_ofShifted_77 : decode b_Q_ofShifted 77 = .ok (.lload 5, 2) := by decide +kernel
theorem d_Q_ofShifted_79 : decode b_Q_ofShifted 79 = .ok (.lconst 1, 1) := by decide +kernel
theorem d_Q_ofShifted_80 : decode b_Q_ofShifted 80 = .ok (.ladd, 1) := by decide +kernel
theorem d_Q_ofShifted_81 : decode b_Q_ofShifted 81 = .ok (.goto 5, 3) := by decide +kernel
theorem d_Q_ofShifted_84 : decode b_Q_ofShifted 84 = .ok (.lload 5, 2) := by decide +kernel
theorem d_Q_ofShifted_86 : decode b_Q_ofShifted 86 = .ok (.lreturn, 1) := by decide +kernel
abbrev b_Q_near : ByteArray := prog_5_method_4_code
def y_Q_near : MethodName := ⟨"RangeExchange$Quotients", "near", "(JJJZ)J"⟩
theorem d_Q_near_0 : decode b_Q_near 0 = .ok (.lload 4, 2) := by decide +kernel
theorem d_Q_near_2 : decode b_Q_near 2 = .ok (.lload_n 2, 1) := by decide +kernel
theorem d_Q_near_3 : decode b_Q_near 3 = .ok (.lload_n 0, 1) := by decide +kernel
theorem d_Q_near_4 : decode b_Q_near 4 = .ok (.lsub, 1) := by decide +kernel
theorem d_Q_near_5 : decode b_Q_near 5 = .ok (.lmul, 1) := by decide +kernel
theorem d_Q_near_6 : decode b_Q_near 6 = .ok (.lload_n 2, 1) := by decide +kernel
theorem d_Q_near_7 : decode b_Q_near 7 = .ok (.iload 6, 2) := by decide +kernel
theorem d_Q_near_9 : decode b_Q_near 9 = .ok (.invokestatic 9, 3) := by decide +kernel
theorem d_Q_near_12 : decode b_Q_near 12 = .ok (.lload_n 0, 1) := by decide +kernel
theorem d_Q_near_13 : decode b_Q_near 13 = .ok (.iload 6, 2) := by decide +kernel
theorem d_Q_near_15 : decode b_Q_near 15 = .ok (.invokestatic 15, 3) := by decide +kernel
theorem d_Q_near_18 : decode b_Q_near 18 = .ok (.lreturn, 1) := by decide +kernel
abbrev b_Q_far : ByteArray := prog_5_method_5_code
def y_Q_far : MethodName := ⟨"RangeExchange$Quotients", "far", "(JJJZ)J"⟩
theorem d_Q_far_0 : decode b_Q_far 0 = .ok (.lload 4, 2) := by decide +kernel
theorem d_Q_far_2 : decode b_Q_far 2 = .ok (.lload_n 2, 1) := by decide +kernel
theorem d_Q_far_3 : decode b_Q_far 3 = .ok (.lload_n 0, 1) := by decide +kernel
theorem d_Q_far_4 : decode b_Q_far 4 = .ok (.lsub, 1) := by decide +kernel
theorem d_Q_far_5 : decode b_Q_far 5 = .ok (.lmul, 1) := by decide +kernel
theorem d_Q_far_6 : decode b_Q_far 6 = .ok (.ldc2_w 18, 3) := by decide +kernel
theorem d_Q_far_9 : decode b_Q_far 9 = .ok (.iload 6, 2) := by decide +kernel
theorem d_Q_far_11 : decode b_Q_far 11 = .ok (.invokestatic 15, 3) := by decide +kernel
theorem d_Q_far_14 : decode b_Q_far 14 = .ok (.lreturn, 1) := by decide +kernel
abbrev b_R_init : ByteArray := prog_6_method_1_code
def y_R_init : MethodName := ⟨"RangeExchange$Roots", "<init>", "()V"⟩
theorem d_R_init_0 : decode b_R_init 0 = .ok (.aload_n 0, 1) := by decide +kernel
theorem d_R_init_1 : decode b_R_init 1 = .ok (.invokespecial 3, 3) := by decide +kernel
theorem d_R_init_4 : decode b_R_init 4 = .ok (.aload_n 0, 1) := by decide +kernel
theorem d_R_init_5 : decode b_R_init 5 = .ok (.bipush 81, 2) := by decide +kernel
theorem d_R_init_7 : decode b_R_init 7 = .ok (.newarray .long, 2) := by decide +kernel
theorem d_R_init_9 : decode b_R_init 9 = .ok (.putfield 9, 3) := by decide +kernel
theorem d_R_init_12 : decode b_R_init 12 = .ok (.aload_n 0, 1) := by decide +kernel
theorem d_R_init_13 : decode b_R_init 13 = .ok (.getfield 9, 3) := by decide +kernel
theorem d_R_init_16 : decode b_R_init 16 = .ok (.bipush 40, 2) := by decide +kernel
theorem d_R_init_18 : decode b_R_init 18 = .ok (.ldc2_w 15, 3) := by decide +kernel
theorem d_R_init_21 : decode b_R_init 21 = .ok (.lastore, 1) := by decide +kernel
theorem d_R_init_22 : decode b_R_init 22 = .ok (.bipush 40, 2) := by decide +kernel
theorem d_R_init_24 : decode b_R_init 24 = .ok (.istore_n 1, 1) := by decide +kernel
theorem d_R_init_25 : decode b_R_init 25 = .ok (.iload_n 1, 1) := by decide +kernel
theorem d_R_init_26 : decode b_R_init 26 = .ok (.iconst 1, 1) := by decide +kernel
theorem d_R_init_27 : decode b_R_init 27 = .ok (.iadd, 1) := by decide +kernel
theorem d_R_init_28 : decode b_R_init 28 = .ok (.bipush 81, 2) := by decide +kernel
theorem d_R_init_30 : decode b_R_init 30 = .ok (.if_icmp .ge 34, 3) := by decide +kernel
theorem d_R_init_33 : decode b_R_init 33 = .ok (.aload_n 0, 1) := by decide +kernel
theorem d_R_init_34 : decode b_R_init 34 = .ok (.getfield 9, 3) := by decide +kernel
theorem d_R_init_37 : decode b_R_init 37 = .ok (.iload_n 1, 1) := by decide +kernel
theorem d_R_init_38 : decode b_R_init 38 = .ok (.iconst 1, 1) := by decide +kernel
theorem d_R_init_39 : decode b_R_init 39 = .ok (.iadd, 1) := by decide +kernel
theorem d_R_init_40 : decode b_R_init 40 = .ok (.aload_n 0, 1) := by decide +kernel
theorem d_R_init_41 : decode b_R_init 41 = .ok (.getfield 9, 3) := by decide +kernel
theorem d_R_init_44 : decode b_R_init 44 = .ok (.iload_n 1, 1) := by decide +kernel
theorem d_R_init_45 : decode b_R_init 45 = .ok (.laload, 1) := by decide +kernel
theorem d_R_init_46 : decode b_R_init 46 = .ok (.aload_n 0, 1) := by decide +kernel
theorem d_R_init_47 : decode b_R_init 47 = .ok (.getfield 9, 3) := by decide +kernel
theorem d_R_init_50 : decode b_R_init 50 = .ok (.iload_n 1, 1) := by decide +kernel
theorem d_R_init_51 : decode b_R_init 51 = .ok (.laload, 1) := by decide +kernel
theorem d_R_init_52 : decode b_R_init 52 = .ok (.ldc2_w 17, 3) := by decide +kernel
theorem d_R_init_55 : decode b_R_init 55 = .ok (.ldiv, 1) := by decide +kernel
theorem d_R_init_56 : decode b_R_init 56 = .ok (.ladd, 1) := by decide +kernel
theorem d_R_init_57 : decode b_R_init 57 = .ok (.lastore, 1) := by decide +kernel
theorem d_R_init_58 : decode b_R_init 58 = .ok (.iinc 1 1, 3) := by decide +kernel
theorem d_R_init_61 : decode b_R_init 61 = .ok (.goto (-36), 3) := by decide +kernel
theorem d_R_init_64 : decode b_R_init 64 = .ok (.bipush 40, 2) := by decide +kernel
theorem d_R_init_66 : decode b_R_init 66 = .ok (.istore_n 1, 1) := by decide +kernel
theorem d_R_init_67 : decode b_R_init 67 = .ok (.iload_n 1, 1) := by decide +kernel
theorem d_R_init_68 : decode b_R_init 68 = .ok (.ifCond .le 34, 3) := by decide +kernel
theorem d_R_init_71 : decode b_R_init 71 = .ok (.aload_n 0, 1) := by decide +kernel
theorem d_R_init_72 : decode b_R_init 72 = .ok (.getfield 9, 3) := by decide +kernel
theorem d_R_init_75 : decode b_R_init 75 = .ok (.iload_n 1, 1) := by decide +kernel
theorem d_R_init_76 : decode b_R_init 76 = .ok (.iconst 1, 1) := by decide +kernel
theorem d_R_init_77 : decode b_R_init 77 = .ok (.isub, 1) := by decide +kernel
theorem d_R_init_78 : decode b_R_init 78 = .ok (.aload_n 0, 1) := by decide +kernel
theorem d_R_init_79 : decode b_R_init 79 = .ok (.getfield 9, 3) := by decide +kernel
theorem d_R_init_82 : decode b_R_init 82 = .ok (.iload_n 1, 1) := by decide +kernel
theorem d_R_init_83 : decode b_R_init 83 = .ok (.laload, 1) := by decide +kernel
theorem d_R_init_84 : decode b_R_init 84 = .ok (.aload_n 0, 1) := by decide +kernel
theorem d_R_init_85 : decode b_R_init 85 = .ok (.getfield 9, 3) := by decide +kernel
theorem d_R_init_88 : decode b_R_init 88 = .ok (.iload_n 1, 1) := by decide +kernel
theorem d_R_init_89 : decode b_R_init 89 = .ok (.laload, 1) := by decide +kernel
theorem d_R_init_90 : decode b_R_init 90 = .ok (.ldc2_w 19, 3) := by decide +kernel
theorem d_R_init_93 : decode b_R_init 93 = .ok (.ldiv, 1) := by decide +kernel
theorem d_R_init_94 : decode b_R_init 94 = .ok (.lsub, 1) := by decide +kernel
theorem d_R_init_95 : decode b_R_init 95 = .ok (.lastore, 1) := by decide +kernel
theorem d_R_init_96 : decode b_R_init 96 = .ok (.iinc 1 (-1), 3) := by decide +kernel
theorem d_R_init_99 : decode b_R_init 99 = .ok (.goto (-32), 3) := by decide +kernel
theorem d_R_init_102 : decode b_R_init 102 = .ok (.return_, 1) := by decide +kernel
abbrev b_R_at : ByteArray := prog_6_method_2_code
def y_R_at : MethodName := ⟨"RangeExchange$Roots", "at", "(I)J"⟩
theorem d_R_at_0 : decode b_R_at 0 = .ok (.aload_n 0, 1) := by decide +kernel
theorem d_R_at_1 : decode b_R_at 1 = .ok (.getfield 9, 3) := by decide +kernel
theorem d_R_at_4 : decode b_R_at 4 = .ok (.iload_n 1, 1) := by decide +kernel
theorem d_R_at_5 : decode b_R_at 5 = .ok (.bipush (-40), 2) := by decide +kernel
theorem d_R_at_7 : decode b_R_at 7 = .ok (.isub, 1) := by decide +kernel
theorem d_R_at_8 : decode b_R_at 8 = .ok (.laload, 1) := by decide +kernel
theorem d_R_at_9 : decode b_R_at 9 = .ok (.lreturn, 1) := by decide +kernel
abbrev b_R_greatestNotAbove : ByteArray := prog_6_method_3_code
def y_R_greatestNotAbove : MethodName := ⟨"RangeExchange$Roots", "greatestNotAbove", "(J)I"⟩
theorem d_R_greatestNotAbove_0 : decode b_R_greatestNotAbove 0 = .ok (.bipush 40, 2) := by decide +kernel
theorem d_R_greatestNotAbove_2 : decode b_R_greatestNotAbove 2 = .ok (.istore_n 3, 1) := by decide +kernel
theorem d_R_greatestNotAbove_3 : decode b_R_greatestNotAbove 3 = .ok (.iload_n 3, 1) := by decide +kernel
theorem d_R_greatestNotAbove_4 : decode b_R_greatestNotAbove 4 = .ok (.bipush (-40), 2) := by decide +kernel
theorem d_R_greatestNotAbove_6 : decode b_R_greatestNotAbove 6 = .ok (.if_icmp .le 21, 3) := by decide +kernel
theorem d_R_greatestNotAbove_9 : decode b_R_greatestNotAbove 9 = .ok (.aload_n 0, 1) := by decide +kernel
theorem d_R_greatestNotAbove_10 : decode b_R_greatestNotAbove 10 = .ok (.iload_n 3, 1) := by decide +kernel
theorem d_R_greatestNotAbove_11 : decode b_R_greatestNotAbove 11 = .ok (.invokevirtual 21, 3) := by decide +kernel
theorem d_R_greatestNotAbove_14 : decode b_R_greatestNotAbove 14 = .ok (.lload_n 1, 1) := by decide +kernel
theorem d_R_greatestNotAbove_15 : decode b_R_greatestNotAbove 15 = .ok (.lcmp, 1) := by decide +kernel
theorem d_R_greatestNotAbove_16 : decode b_R_greatestNotAbove 16 = .ok (.ifCond .gt 5, 3) := by decide +kernel
theorem d_R_greatestNotAbove_19 : decode b_R_greatestNotAbove 19 = .ok (.iload_n 3, 1) := by decide +kernel
theorem d_R_greatestNotAbove_20 : decode b_R_greatestNotAbove 20 = .ok (.ireturn, 1) := by decide +kernel
theorem d_R_greatestNotAbove_21 : decode b_R_greatestNotAbove 21 = .ok (.iinc 3 (-1), 3) := by decide +kernel
theorem d_R_greatestNotAbove_24 : decode b_R_greatestNotAbove 24 = .ok (.goto (-21), 3) := by decide +kernel
theorem d_R_greatestNotAbove_27 : decode b_R_greatestNotAbove 27 = .ok (.bipush (-40), 2) := by decide +kernel
theorem d_R_greatestNotAbove_29 : decode b_R_greatestNotAbove 29 = .ok (.ireturn, 1) := by decide +kernel
