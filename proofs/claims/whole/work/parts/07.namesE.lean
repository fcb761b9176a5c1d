abbrev b_E_init : ByteArray := prog_1_method_1_code
def y_E_init : MethodName := ⟨"RangeExchange", "<init>", "(II)V"⟩
theorem d_E_init_0 : decode b_E_init 0 = .ok (.aload_n 0, 1) := by decide +kernel
theorem d_E_init_1 : decode b_E_init 1 = .ok (.invokespecial 3, 3) := by decide +kernel
theorem d_E_init_4 : decode b_E_init 4 = .ok (.aload_n 0, 1) := by decide +kernel
theorem d_E_init_5 : decode b_E_init 5 = .ok (.bipush 12, 2) := by decide +kernel
theorem d_E_init_7 : decode b_E_init 7 = .ok (.newarray .long, 2) := by decide +kernel
theorem d_E_init_9 : decode b_E_init 9 = .ok (.putfield 9, 3) := by decide +kernel
theorem d_E_init_12 : decode b_E_init 12 = .ok (.aload_n 0, 1) := by decide +kernel
theorem d_E_init_13 : decode b_E_init 13 = .ok (.iconst 3, 1) := by decide +kernel
theorem d_E_init_14 : decode b_E_init 14 = .ok (.newarray .long, 2) := by decide +kernel
theorem d_E_init_16 : decode b_E_init 16 = .ok (.putfield 13, 3) := by decide +kernel
theorem d_E_init_19 : decode b_E_init 19 = .ok (.aload_n 0, 1) := by decide +kernel
theorem d_E_init_20 : decode b_E_init 20 = .ok (.iconst 3, 1) := by decide +kernel
theorem d_E_init_21 : decode b_E_init 21 = .ok (.newarray .long, 2) := by decide +kernel
theorem d_E_init_23 : decode b_E_init 23 = .ok (.putfield 16, 3) := by decide +kernel
theorem d_E_init_26 : decode b_E_init 26 = .ok (.aload_n 0, 1) := by decide +kernel
theorem d_E_init_27 : decode b_E_init 27 = .ok (.new 19, 3) := by decide +kernel
theorem d_E_init_30 : decode b_E_init 30 = .ok (.dup, 1) := by decide +kernel
theorem d_E_init_31 : decode b_E_init 31 = .ok (.invokespecial 21, 3) := by decide +kernel
theorem d_E_init_34 : decode b_E_init 34 = .ok (.putfield 22, 3) := by decide +kernel
theorem d_E_init_37 : decode b_E_init 37 = .ok (.aload_n 0, 1) := by decide +kernel
theorem d_E_init_38 : decode b_E_init 38 = .ok (.iconst 2, 1) := by decide +kernel
theorem d_E_init_39 : decode b_E_init 39 = .ok (.anewarray 26, 3) := by decide +kernel
theorem d_E_init_42 : decode b_E_init 42 = .ok (.putfield 28, 3) := by decide +kernel
theorem d_E_init_45 : decode b_E_init 45 = .ok (.aload_n 0, 1) := by decide +kernel
theorem d_E_init_46 : decode b_E_init 46 = .ok (.bipush 12, 2) := by decide +kernel
theorem d_E_init_48 : decode b_E_init 48 = .ok (.anewarray 32, 3) := by decide +kernel
theorem d_E_init_51 : decode b_E_init 51 = .ok (.putfield 34, 3) := by decide +kernel
theorem d_E_init_54 : decode b_E_init 54 = .ok (.aload_n 0, 1) := by decide +kernel
theorem d_E_init_55 : decode b_E_init 55 = .ok (.new 38, 3) := by decide +kernel
theorem d_E_init_58 : decode b_E_init 58 = .ok (.dup, 1) := by decide +kernel
theorem d_E_init_59 : decode b_E_init 59 = .ok (.aload_n 0, 1) := by decide +kernel
theorem d_E_init_60 : decode b_E_init 60 = .ok (.getfield 22, 3) := by decide +kernel
theorem d_E_init_63 : decode b_E_init 63 = .ok (.invokespecial 40, 3) := by decide +kernel
theorem d_E_init_66 : decode b_E_init 66 = .ok (.putfield 43, 3) := by decide +kernel
theorem d_E_init_69 : decode b_E_init 69 = .ok (.aload_n 0, 1) := by decide +kernel
theorem d_E_init_70 : decode b_E_init 70 = .ok (.new 38, 3) := by decide +kernel
theorem d_E_init_73 : decode b_E_init 73 = .ok (.dup, 1) := by decide +kernel
theorem d_E_init_74 : decode b_E_init 74 = .ok (.aload_n 0, 1) := by decide +kernel
theorem d_E_init_75 : decode b_E_init 75 = .ok (.getfield 22, 3) := by decide +kernel
theorem d_E_init_78 : decode b_E_init 78 = .ok (.invokespecial 40, 3) := by decide +kernel
theorem d_E_init_81 : decode b_E_init 81 = .ok (.putfield 47, 3) := by decide +kernel
theorem d_E_init_84 : decode b_E_init 84 = .ok (.aload_n 0, 1) := by decide +kernel
theorem d_E_init_85 : decode b_E_init 85 = .ok (.lconst 0, 1) := by decide +kernel
theorem d_E_init_86 : decode b_E_init 86 = .ok (.putfield 50, 3) := by decide +kernel
theorem d_E_init_89 : decode b_E_init 89 = .ok (.aload_n 0, 1) := by decide +kernel
theorem d_E_init_90 : decode b_E_init 90 = .ok (.getfield 28, 3) := by decide +kernel
theorem d_E_init_93 : decode b_E_init 93 = .ok (.iconst 0, 1) := by decide +kernel
theorem d_E_init_94 : decode b_E_init 94 = .ok (.new 26, 3) := by decide +kernel
theorem d_E_init_97 : decode b_E_init 97 = .ok (.dup, 1) := by decide +kernel
theorem d_E_init_98 : decode b_E_init 98 = .ok (.aload_n 0, 1) := by decide +kernel
theorem d_E_init_99 : decode b_E_init 99 = .ok (.getfield 22, 3) := by decide +kernel
theorem d_E_init_102 : decode b_E_init 102 = .ok (.iload_n 1, 1) := by decide +kernel
theorem d_E_init_103 : decode b_E_init 103 = .ok (.invokespecial 54, 3) := by decide +kernel
theorem d_E_init_106 : decode b_E_init 106 = .ok (.aastore, 1) := by decide +kernel
theorem d_E_init_107 : decode b_E_init 107 = .ok (.aload_n 0, 1) := by decide +kernel
theorem d_E_init_108 : decode b_E_init 108 = .ok (.getfield 28, 3) := by decide +kernel
theorem d_E_init_111 : decode b_E_init 111 = .ok (.iconst 1, 1) := by decide +kernel
theorem d_E_init_112 : decode b_E_init 112 = .ok (.new 26, 3) := by decide +kernel
theorem d_E_init_115 : decode b_E_init 115 = .ok (.dup, 1) := by decide +kernel
theorem d_E_init_116 : decode b_E_init 116 = .ok (.aload_n 0, 1) := by decide +kernel
theorem d_E_init_117 : decode b_E_init 117 = .ok (.getfield 22, 3) := by decide +kernel
theorem d_E_init_120 : decode b_E_init 120 = .ok (.iload_n 2, 1) := by decide +kernel
theorem d_E_init_121 : decode b_E_init 121 = .ok (.invokespecial 54, 3) := by decide +kernel
theorem d_E_init_124 : decode b_E_init 124 = .ok (.aastore, 1) := by decide +kernel
theorem d_E_init_125 : decode b_E_init 125 = .ok (.iconst 0, 1) := by decide +kernel
theorem d_E_init_126 : decode b_E_init 126 = .ok (.istore_n 3, 1) := by decide +kernel
theorem d_E_init_127 : decode b_E_init 127 = .ok (.iload_n 3, 1) := by decide +kernel
theorem d_E_init_128 : decode b_E_init 128 = .ok (.bipush 12, 2) := by decide +kernel
theorem d_E_init_130 : decode b_E_init 130 = .ok (.if_icmp .ge 22, 3) := by decide +kernel
theorem d_E_init_133 : decode b_E_init 133 = .ok (.aload_n 0, 1) := by decide +kernel
theorem d_E_init_134 : decode b_E_init 134 = .ok (.getfield 34, 3) := by decide +kernel
theorem d_E_init_137 : decode b_E_init 137 = .ok (.iload_n 3, 1) := by decide +kernel
theorem d_E_init_138 : decode b_E_init 138 = .ok (.new 32, 3) := by decide +kernel
theorem d_E_init_141 : decode b_E_init 141 = .ok (.dup, 1) := by decide +kernel
theorem d_E_init_142 : decode b_E_init 142 = .ok (.invokespecial 57, 3) := by decide +kernel
theorem d_E_init_145 : decode b_E_init 145 = .ok (.aastore, 1) := by decide +kernel
theorem d_E_init_146 : decode b_E_init 146 = .ok (.iinc 3 1, 3) := by decide +kernel
theorem d_E_init_149 : decode b_E_init 149 = .ok (.goto (-22), 3) := by decide +kernel
theorem d_E_init_152 : decode b_E_init 152 = .ok (.return_, 1) := by decide +kernel
abbrev b_E_give : ByteArray := prog_1_method_2_code
def y_E_give : MethodName := ⟨"RangeExchange", "give", "(III)J"⟩
theorem d_E_give_0 : decode b_E_give 0 = .ok (.iload_n 1, 1) := by decide +kernel
theorem d_E_give_1 : decode b_E_give 1 = .ok (.iconst 4, 1) := by decide +kernel
theorem d_E_give_2 : decode b_E_give 2 = .ok (.invokestatic 58, 3) := by decide +kernel
theorem d_E_give_5 : decode b_E_give 5 = .ok (.iload_n 2, 1) := by decide +kernel
theorem d_E_give_6 : decode b_E_give 6 = .ok (.iconst 3, 1) := by decide +kernel
theorem d_E_give_7 : decode b_E_give 7 = .ok (.invokestatic 58, 3) := by decide +kernel
theorem d_E_give_10 : decode b_E_give 10 = .ok (.iload_n 3, 1) := by decide +kernel
theorem d_E_give_11 : decode b_E_give 11 = .ok (.ifCond .lt 19, 3) := by decide +kernel
theorem d_E_give_14 : decode b_E_give 14 = .ok (.aload_n 0, 1) := by decide +kernel
theorem d_E_give_15 : decode b_E_give 15 = .ok (.getfield 13, 3) := by decide +kernel
theorem d_E_give_18 : decode b_E_give 18 = .ok (.iload_n 2, 1) := by decide +kernel
theorem d_E_give_19 : decode b_E_give 19 = .ok (.laload, 1) := by decide +kernel
theorem d_E_give_20 : decode b_E_give 20 = .ok (.iload_n 3, 1) := by decide +kernel
theorem d_E_give_21 : decode b_E_give 21 = .ok (.i2l, 1) := by decide +kernel
theorem d_E_give_22 : decode b_E_give 22 = .ok (.ladd, 1) := by decide +kernel
theorem d_E_give_23 : decode b_E_give 23 = .ok (.ldc2_w 62, 3) := by decide +kernel
theorem d_E_give_26 : decode b_E_give 26 = .ok (.lcmp, 1) := by decide +kernel
theorem d_E_give_27 : decode b_E_give 27 = .ok (.ifCond .le 11, 3) := by decide +kernel
theorem d_E_give_30 : decode b_E_give 30 = .ok (.new 64, 3) := by decide +kernel
theorem d_E_give_33 : decode b_E_give 33 = .ok (.dup, 1) := by decide +kernel
theorem d_E_give_34 : decode b_E_give 34 = .ok (.invokespecial 66, 3) := by decide +kernel
theorem d_E_give_37 : decode b_E_give 37 = .ok (.athrow, 1) := by decide +kernel
theorem d_E_give_38 : decode b_E_give 38 = .ok (.aload_n 0, 1) := by decide +kernel
theorem d_E_give_39 : decode b_E_give 39 = .ok (.getfield 13, 3) := by decide +kernel
theorem d_E_give_42 : decode b_E_give 42 = .ok (.iload_n 2, 1) := by decide +kernel
theorem d_E_give_43 : decode b_E_give 43 = .ok (.dup2, 1) := by decide +kernel
theorem d_E_give_44 : decode b_E_give 44 = .ok (.laload, 1) := by decide +kernel
theorem d_E_give_45 : decode b_E_give 45 = .ok (.iload_n 3, 1) := by decide +kernel
theorem d_E_give_46 : decode b_E_give 46 = .ok (.i2l, 1) := by decide +kernel
theorem d_E_give_47 : decode b_E_give 47 = .ok (.ladd, 1) := by decide +kernel
theorem d_E_give_48 : decode b_E_give 48 = .ok (.lastore, 1) := by decide +kernel
theorem d_E_give_49 : decode b_E_give 49 = .ok (.aload_n 0, 1) := by decide +kernel
theorem d_E_give_50 : decode b_E_give 50 = .ok (.getfield 9, 3) := by decide +kernel
theorem d_E_give_53 : decode b_E_give 53 = .ok (.iload_n 1, 1) := by decide +kernel
theorem d_E_give_54 : decode b_E_give 54 = .ok (.iload_n 2, 1) := by decide +kernel
theorem d_E_give_55 : decode b_E_give 55 = .ok (.invokestatic 67, 3) := by decide +kernel
theorem d_E_give_58 : decode b_E_give 58 = .ok (.dup2, 1) := by decide +kernel
theorem d_E_give_59 : decode b_E_give 59 = .ok (.laload, 1) := by decide +kernel
theorem d_E_give_60 : decode b_E_give 60 = .ok (.iload_n 3, 1) := by decide +kernel
theorem d_E_give_61 : decode b_E_give 61 = .ok (.i2l, 1) := by decide +kernel
theorem d_E_give_62 : decode b_E_give 62 = .ok (.ladd, 1) := by decide +kernel
theorem d_E_give_63 : decode b_E_give 63 = .ok (.lastore, 1) := by decide +kernel
theorem d_E_give_64 : decode b_E_give 64 = .ok (.aload_n 0, 1) := by decide +kernel
theorem d_E_give_65 : decode b_E_give 65 = .ok (.getfield 9, 3) := by decide +kernel
theorem d_E_give_68 : decode b_E_give 68 = .ok (.iload_n 1, 1) := by decide +kernel
theorem d_E_give_69 : decode b_E_give 69 = .ok (.iload_n 2, 1) := by decide +kernel
theorem d_E_give_70 : decode b_E_give 70 = .ok (.invokestatic 67, 3) := by decide +kernel
theorem d_E_give_73 : decode b_E_give 73 = .ok (.laload, 1) := by decide +kernel
theorem d_E_give_74 : decode b_E_give 74 = .ok (.lreturn, 1) := by decide +kernel
abbrev b_E_balance : ByteArray := prog_1_method_3_code
def y_E_balance : MethodName := ⟨"RangeExchange", "balance", "(II)J"⟩
theorem d_E_balance_0 : decode b_E_balance 0 = .ok (.iload_n 1, 1) := by decide +kernel
theorem d_E_balance_1 : decode b_E_balance 1 = .ok (.iconst 4, 1) := by decide +kernel
theorem d_E_balance_2 : decode b_E_balance 2 = .ok (.invokestatic 58, 3) := by decide +kernel
theorem d_E_balance_5 : decode b_E_balance 5 = .ok (.iload_n 2, 1) := by decide +kernel
theorem d_E_balance_6 : decode b_E_balance 6 = .ok (.iconst 3, 1) := by decide +kernel
theorem d_E_balance_7 : decode b_E_balance 7 = .ok (.invokestatic 58, 3) := by decide +kernel
theorem d_E_balance_10 : decode b_E_balance 10 = .ok (.aload_n 0, 1) := by decide +kernel
theorem d_E_balance_11 : decode b_E_balance 11 = .ok (.getfield 9, 3) := by decide +kernel
theorem d_E_balance_14 : decode b_E_balance 14 = .ok (.iload_n 1, 1) := by decide +kernel
theorem d_E_balance_15 : decode b_E_balance 15 = .ok (.iload_n 2, 1) := by decide +kernel
theorem d_E_balance_16 : decode b_E_balance 16 = .ok (.invokestatic 67, 3) := by decide +kernel
theorem d_E_balance_19 : decode b_E_balance 19 = .ok (.laload, 1) := by decide +kernel
theorem d_E_balance_20 : decode b_E_balance 20 = .ok (.lreturn, 1) := by decide +kernel
abbrev b_E_mint : ByteArray := prog_1_method_4_code
def y_E_mint : MethodName := ⟨"RangeExchange", "mint", "(IIIII)I"⟩
theorem d_E_mint_0 : decode b_E_mint 0 = .ok (.iload_n 1, 1) := by decide +kernel
theorem d_E_mint_1 : decode b_E_mint 1 = .ok (.iload_n 2, 1) := by decide +kernel
theorem d_E_mint_2 : decode b_E_mint 2 = .ok (.iload_n 3, 1) := by decide +kernel
theorem d_E_mint_3 : decode b_E_mint 3 = .ok (.iload 4, 2) := by decide +kernel
theorem d_E_mint_5 : decode b_E_mint 5 = .ok (.invokestatic 71, 3) := by decide +kernel
theorem d_E_mint_8 : decode b_E_mint 8 = .ok (.iload_n 3, 1) := by decide +kernel
theorem d_E_mint_9 : decode b_E_mint 9 = .ok (.iload 4, 2) := by decide +kernel
theorem d_E_mint_11 : decode b_E_mint 11 = .ok (.if_icmp .ge 16, 3) := by decide +kernel
theorem d_E_mint_14 : decode b_E_mint 14 = .ok (.iload 5, 2) := by decide +kernel
theorem d_E_mint_16 : decode b_E_mint 16 = .ok (.iconst 1, 1) := by decide +kernel
theorem d_E_mint_17 : decode b_E_mint 17 = .ok (.if_icmp .lt 10, 3) := by decide +kernel
theorem d_E_mint_20 : decode b_E_mint 20 = .ok (.iload 5, 2) := by decide +kernel
theorem d_E_mint_22 : decode b_E_mint 22 = .ok (.ldc 75, 2) := by decide +kernel
theorem d_E_mint_24 : decode b_E_mint 24 = .ok (.if_icmp .le 11, 3) := by decide +kernel
theorem d_E_mint_27 : decode b_E_mint 27 = .ok (.new 64, 3) := by decide +kernel
theorem d_E_mint_30 : decode b_E_mint 30 = .ok (.dup, 1) := by decide +kernel
theorem d_E_mint_31 : decode b_E_mint 31 = .ok (.invokespecial 66, 3) := by decide +kernel
theorem d_E_mint_34 : decode b_E_mint 34 = .ok (.athrow, 1) := by decide +kernel
theorem d_E_mint_35 : decode b_E_mint 35 = .ok (.aload_n 0, 1) := by decide +kernel
theorem d_E_mint_36 : decode b_E_mint 36 = .ok (.iload_n 1, 1) := by decide +kernel
theorem d_E_mint_37 : decode b_E_mint 37 = .ok (.iload_n 2, 1) := by decide +kernel
theorem d_E_mint_38 : decode b_E_mint 38 = .ok (.iload_n 3, 1) := by decide +kernel
theorem d_E_mint_39 : decode b_E_mint 39 = .ok (.iload 4, 2) := by decide +kernel
theorem d_E_mint_41 : decode b_E_mint 41 = .ok (.invokevirtual 76, 3) := by decide +kernel
theorem d_E_mint_44 : decode b_E_mint 44 = .ok (.astore 6, 2) := by decide +kernel
theorem d_E_mint_46 : decode b_E_mint 46 = .ok (.aload 6, 2) := by decide +kernel
theorem d_E_mint_48 : decode b_E_mint 48 = .ok (.ifnull 24, 3) := by decide +kernel
theorem d_E_mint_51 : decode b_E_mint 51 = .ok (.aload 6, 2) := by decide +kernel
theorem d_E_mint_53 : decode b_E_mint 53 = .ok (.getfield 80, 3) := by decide +kernel
theorem d_E_mint_56 : decode b_E_mint 56 = .ok (.iload 5, 2) := by decide +kernel
theorem d_E_mint_58 : decode b_E_mint 58 = .ok (.iadd, 1) := by decide +kernel
theorem d_E_mint_59 : decode b_E_mint 59 = .ok (.ldc 75, 2) := by decide +kernel
theorem d_E_mint_61 : decode b_E_mint 61 = .ok (.if_icmp .le 11, 3) := by decide +kernel
theorem d_E_mint_64 : decode b_E_mint 64 = .ok (.new 64, 3) := by decide +kernel
theorem d_E_mint_67 : decode b_E_mint 67 = .ok (.dup, 1) := by decide +kernel
theorem d_E_mint_68 : decode b_E_mint 68 = .ok (.invokespecial 66, 3) := by decide +kernel
theorem d_E_mint_71 : decode b_E_mint 71 = .ok (.athrow, 1) := by decide +kernel
theorem d_E_mint_72 : decode b_E_mint 72 = .ok (.aload 6, 2) := by decide +kernel
theorem d_E_mint_74 : decode b_E_mint 74 = .ok (.ifnull 8, 3) := by decide +kernel
theorem d_E_mint_77 : decode b_E_mint 77 = .ok (.aload 6, 2) := by decide +kernel
theorem d_E_mint_79 : decode b_E_mint 79 = .ok (.goto 7, 3) := by decide +kernel
theorem d_E_mint_82 : decode b_E_mint 82 = .ok (.aload_n 0, 1) := by decide +kernel
theorem d_E_mint_83 : decode b_E_mint 83 = .ok (.invokevirtual 84, 3) := by decide +kernel
theorem d_E_mint_86 : decode b_E_mint 86 = .ok (.astore 7, 2) := by decide +kernel
theorem d_E_mint_88 : decode b_E_mint 88 = .ok (.aload_n 0, 1) := by decide +kernel
theorem d_E_mint_89 : decode b_E_mint 89 = .ok (.getfield 28, 3) := by decide +kernel
theorem d_E_mint_92 : decode b_E_mint 92 = .ok (.iload_n 2, 1) := by decide +kernel
theorem d_E_mint_93 : decode b_E_mint 93 = .ok (.aaload, 1) := by decide +kernel
theorem d_E_mint_94 : decode b_E_mint 94 = .ok (.iload_n 3, 1) := by decide +kernel
theorem d_E_mint_95 : decode b_E_mint 95 = .ok (.iload 4, 2) := by decide +kernel
theorem d_E_mint_97 : decode b_E_mint 97 = .ok (.iload 5, 2) := by decide +kernel
theorem d_E_mint_99 : decode b_E_mint 99 = .ok (.iconst 1, 1) := by decide +kernel
theorem d_E_mint_100 : decode b_E_mint 100 = .ok (.invokevirtual 88, 3) := by decide +kernel
theorem d_E_mint_103 : decode b_E_mint 103 = .ok (.lstore 8, 2) := by decide +kernel
theorem d_E_mint_105 : decode b_E_mint 105 = .ok (.aload_n 0, 1) := by decide +kernel
theorem d_E_mint_106 : decode b_E_mint 106 = .ok (.getfield 28, 3) := by decide +kernel
theorem d_E_mint_109 : decode b_E_mint 109 = .ok (.iload_n 2, 1) := by decide +kernel
theorem d_E_mint_110 : decode b_E_mint 110 = .ok (.aaload, 1) := by decide +kernel
theorem d_E_mint_111 : decode b_E_mint 111 = .ok (.iload_n 3, 1) := by decide +kernel
theorem d_E_mint_112 : decode b_E_mint 112 = .ok (.iload 4, 2) := by decide +kernel
theorem d_E_mint_114 : decode b_E_mint 114 = .ok (.iload 5, 2) := by decide +kernel
theorem d_E_mint_116 : decode b_E_mint 116 = .ok (.iconst 1, 1) := by decide +kernel
theorem d_E_mint_117 : decode b_E_mint 117 = .ok (.invokevirtual 92, 3) := by decide +kernel
theorem d_E_mint_120 : decode b_E_mint 120 = .ok (.lstore 10, 2) := by decide +kernel
theorem d_E_mint_122 : decode b_E_mint 122 = .ok (.aload 7, 2) := by decide +kernel
theorem d_E_mint_124 : decode b_E_mint 124 = .ok (.ifnull 29, 3) := by decide +kernel
theorem d_E_mint_127 : decode b_E_mint 127 = .ok (.aload_n 0, 1) := by decide +kernel
theorem d_E_mint_128 : decode b_E_mint 128 = .ok (.iload_n 1, 1) := by decide +kernel
theorem d_E_mint_129 : decode b_E_mint 129 = .ok (.iload_n 2, 1) := by decide +kernel
theorem d_E_mint_130 : decode b_E_mint 130 = .ok (.iconst 0, 1) := by decide +kernel
theorem d_E_mint_131 : decode b_E_mint 131 = .ok (.iadd, 1) := by decide +kernel
theorem d_E_mint_132 : decode b_E_mint 132 = .ok (.lload 8, 2) := by decide +kernel
theorem d_E_mint_134 : decode b_E_mint 134 = .ok (.invokevirtual 95, 3) := by decide +kernel
theorem d_E_mint_137 : decode b_E_mint 137 = .ok (.ifCond .ne 16, 3) := by decide +kernel
theorem d_E_mint_140 : decode b_E_mint 140 = .ok (.aload_n 0, 1) := by decide +kernel
theorem d_E_mint_141 : decode b_E_mint 141 = .ok (.iload_n 1, 1) := by decide +kernel
theorem d_E_mint_142 : decode b_E_mint 142 = .ok (.iload_n 2, 1) := by decide +kernel
theorem d_E_mint_143 : decode b_E_mint 143 = .ok (.iconst 1, 1) := by decide +kernel
theorem d_E_mint_144 : decode b_E_mint 144 = .ok (.iadd, 1) := by decide +kernel
theorem d_E_mint_145 : decode b_E_mint 145 = .ok (.lload 10, 2) := by decide +kernel
theorem d_E_mint_147 : decode b_E_mint 147 = .ok (.invokevirtual 95, 3) := by decide +kernel
theorem d_E_mint_150 : decode b_E_mint 150 = .ok (.ifCond .eq 11, 3) := by decide +kernel
theorem d_E_mint_153 : decode b_E_mint 153 = .ok (.new 99, 3) := by decide +kernel
theorem d_E_mint_156 : decode b_E_mint 156 = .ok (.dup, 1) := by decide +kernel
theorem d_E_mint_157 : decode b_E_mint 157 = .ok (.invokespecial 101, 3) := by decide +kernel
theorem d_E_mint_160 : decode b_E_mint 160 = .ok (.athrow, 1) := by decide +kernel
theorem d_E_mint_161 : decode b_E_mint 161 = .ok (.aload 6, 2) := by decide +kernel
theorem d_E_mint_163 : decode b_E_mint 163 = .ok (.ifnonnull 13, 3) := by decide +kernel
theorem d_E_mint_166 : decode b_E_mint 166 = .ok (.aload 7, 2) := by decide +kernel
theorem d_E_mint_168 : decode b_E_mint 168 = .ok (.iload_n 1, 1) := by decide +kernel
theorem d_E_mint_169 : decode b_E_mint 169 = .ok (.iload_n 2, 1) := by decide +kernel
theorem d_E_mint_170 : decode b_E_mint 170 = .ok (.iload_n 3, 1) := by decide +kernel
theorem d_E_mint_171 : decode b_E_mint 171 = .ok (.iload 4, 2) := by decide +kernel
theorem d_E_mint_173 : decode b_E_mint 173 = .ok (.invokevirtual 102, 3) := by decide +kernel
theorem d_E_mint_176 : decode b_E_mint 176 = .ok (.aload_n 0, 1) := by decide +kernel
theorem d_E_mint_177 : decode b_E_mint 177 = .ok (.getfield 28, 3) := by decide +kernel
theorem d_E_mint_180 : decode b_E_mint 180 = .ok (.iload_n 2, 1) := by decide +kernel
theorem d_E_mint_181 : decode b_E_mint 181 = .ok (.aaload, 1) := by decide +kernel
theorem d_E_mint_182 : decode b_E_mint 182 = .ok (.aload 7, 2) := by decide +kernel
theorem d_E_mint_184 : decode b_E_mint 184 = .ok (.iload 5, 2) := by decide +kernel
theorem d_E_mint_186 : decode b_E_mint 186 = .ok (.invokevirtual 105, 3) := by decide +kernel
theorem d_E_mint_189 : decode b_E_mint 189 = .ok (.aload_n 0, 1) := by decide +kernel
theorem d_E_mint_190 : decode b_E_mint 190 = .ok (.iload_n 1, 1) := by decide +kernel
theorem d_E_mint_191 : decode b_E_mint 191 = .ok (.iload_n 2, 1) := by decide +kernel
theorem d_E_mint_192 : decode b_E_mint 192 = .ok (.iconst 0, 1) := by decide +kernel
theorem d_E_mint_193 : decode b_E_mint 193 = .ok (.iadd, 1) := by decide +kernel
theorem d_E_mint_194 : decode b_E_mint 194 = .ok (.lload 8, 2) := by decide +kernel
theorem d_E_mint_196 : decode b_E_mint 196 = .ok (.invokevirtual 109, 3) := by decide +kernel
theorem d_E_mint_199 : decode b_E_mint 199 = .ok (.aload_n 0, 1) := by decide +kernel
theorem d_E_mint_200 : decode b_E_mint 200 = .ok (.iload_n 1, 1) := by decide +kernel
theorem d_E_mint_201 : decode b_E_mint 201 = .ok (.iload_n 2, 1) := by decide +kernel
theorem d_E_mint_202 : decode b_E_mint 202 = .ok (.iconst 1, 1) := by decide +kernel
theorem d_E_mint_203 : decode b_E_mint 203 = .ok (.iadd, 1) := by decide +kernel
theorem d_E_mint_204 : decode b_E_mint 204 = .ok (.lload 10, 2) := by decide +kernel
theorem d_E_mint_206 : decode b_E_mint 206 = .ok (.invokevirtual 109, 3) := by decide +kernel
theorem d_E_mint_209 : decode b_E_mint 209 = .ok (.aload 7, 2) := by decide +kernel
theorem d_E_mint_211 : decode b_E_mint 211 = .ok (.getfield 80, 3) := by decide +kernel
theorem d_E_mint_214 : decode b_E_mint 214 = .ok (.ireturn, 1) := by decide +kernel
abbrev b_E_burn : ByteArray := prog_1_method_5_code
def y_E_burn : MethodName := ⟨"RangeExchange", "burn", "(IIIII)I"⟩
theorem d_E_burn_0 : decode b_E_burn 0 = .ok (.iload_n 1, 1) := by decide +kernel
theorem d_E_burn_1 : decode b_E_burn 1 = .ok (.iload_n 2, 1) := by decide +kernel
theorem d_E_burn_2 : decode b_E_burn 2 = .ok (.iload_n 3, 1) := by decide +kernel
theorem d_E_burn_3 : decode b_E_burn 3 = .ok (.iload 4, 2) := by decide +kernel
theorem d_E_burn_5 : decode b_E_burn 5 = .ok (.invokestatic 71, 3) := by decide +kernel
theorem d_E_burn_8 : decode b_E_burn 8 = .ok (.iload_n 3, 1) := by decide +kernel
theorem d_E_burn_9 : decode b_E_burn 9 = .ok (.iload 4, 2) := by decide +kernel
theorem d_E_burn_11 : decode b_E_burn 11 = .ok (.if_icmp .ge 8, 3) := by decide +kernel
theorem d_E_burn_14 : decode b_E_burn 14 = .ok (.iload 5, 2) := by decide +kernel
theorem d_E_burn_16 : decode b_E_burn 16 = .ok (.ifCond .ge 11, 3) := by decide +kernel
theorem d_E_burn_19 : decode b_E_burn 19 = .ok (.new 64, 3) := by decide +kernel
theorem d_E_burn_22 : decode b_E_burn 22 = .ok (.dup, 1) := by decide +kernel
theorem d_E_burn_23 : decode b_E_burn 23 = .ok (.invokespecial 66, 3) := by decide +kernel
theorem d_E_burn_26 : decode b_E_burn 26 = .ok (.athrow, 1) := by decide +kernel
theorem d_E_burn_27 : decode b_E_burn 27 = .ok (.aload_n 0, 1) := by decide +kernel
theorem d_E_burn_28 : decode b_E_burn 28 = .ok (.iload_n 1, 1) := by decide +kernel
theorem d_E_burn_29 : decode b_E_burn 29 = .ok (.iload_n 2, 1) := by decide +kernel
theorem d_E_burn_30 : decode b_E_burn 30 = .ok (.iload_n 3, 1) := by decide +kernel
theorem d_E_burn_31 : decode b_E_burn 31 = .ok (.iload 4, 2) := by decide +kernel
theorem d_E_burn_33 : decode b_E_burn 33 = .ok (.invokevirtual 76, 3) := by decide +kernel
theorem d_E_burn_36 : decode b_E_burn 36 = .ok (.astore 6, 2) := by decide +kernel
theorem d_E_burn_38 : decode b_E_burn 38 = .ok (.aload 6, 2) := by decide +kernel
theorem d_E_burn_40 : decode b_E_burn 40 = .ok (.ifnonnull 11, 3) := by decide +kernel
theorem d_E_burn_43 : decode b_E_burn 43 = .ok (.new 113, 3) := by decide +kernel
theorem d_E_burn_46 : decode b_E_burn 46 = .ok (.dup, 1) := by decide +kernel
theorem d_E_burn_47 : decode b_E_burn 47 = .ok (.invokespecial 115, 3) := by decide +kernel
theorem d_E_burn_50 : decode b_E_burn 50 = .ok (.athrow, 1) := by decide +kernel
theorem d_E_burn_51 : decode b_E_burn 51 = .ok (.iload 5, 2) := by decide +kernel
theorem d_E_burn_53 : decode b_E_burn 53 = .ok (.aload 6, 2) := by decide +kernel
theorem d_E_burn_55 : decode b_E_burn 55 = .ok (.getfield 80, 3) := by decide +kernel
theorem d_E_burn_58 : decode b_E_burn 58 = .ok (.if_icmp .le 11, 3) := by decide +kernel
theorem d_E_burn_61 : decode b_E_burn 61 = .ok (.new 99, 3) := by decide +kernel
theorem d_E_burn_64 : decode b_E_burn 64 = .ok (.dup, 1) := by decide +kernel
theorem d_E_burn_65 : decode b_E_burn 65 = .ok (.invokespecial 101, 3) := by decide +kernel
theorem d_E_burn_68 : decode b_E_burn 68 = .ok (.athrow, 1) := by decide +kernel
theorem d_E_burn_69 : decode b_E_burn 69 = .ok (.iload 5, 2) := by decide +kernel
theorem d_E_burn_71 : decode b_E_burn 71 = .ok (.ifCond .ne 20, 3) := by decide +kernel
theorem d_E_burn_74 : decode b_E_burn 74 = .ok (.aload 6, 2) := by decide +kernel
theorem d_E_burn_76 : decode b_E_burn 76 = .ok (.aload_n 0, 1) := by decide +kernel
theorem d_E_burn_77 : decode b_E_burn 77 = .ok (.getfield 28, 3) := by decide +kernel
theorem d_E_burn_80 : decode b_E_burn 80 = .ok (.iload_n 2, 1) := by decide +kernel
theorem d_E_burn_81 : decode b_E_burn 81 = .ok (.aaload, 1) := by decide +kernel
theorem d_E_burn_82 : decode b_E_burn 82 = .ok (.getfield 116, 3) := by decide +kernel
theorem d_E_burn_85 : decode b_E_burn 85 = .ok (.invokevirtual 120, 3) := by decide +kernel
theorem d_E_burn_88 : decode b_E_burn 88 = .ok (.goto 67, 3) := by decide +kernel
theorem d_E_burn_91 : decode b_E_burn 91 = .ok (.aload_n 0, 1) := by decide +kernel
theorem d_E_burn_92 : decode b_E_burn 92 = .ok (.getfield 28, 3) := by decide +kernel
theorem d_E_burn_95 : decode b_E_burn 95 = .ok (.iload_n 2, 1) := by decide +kernel
theorem d_E_burn_96 : decode b_E_burn 96 = .ok (.aaload, 1) := by decide +kernel
theorem d_E_burn_97 : decode b_E_burn 97 = .ok (.aload 6, 2) := by decide +kernel
theorem d_E_burn_99 : decode b_E_burn 99 = .ok (.iload 5, 2) := by decide +kernel
theorem d_E_burn_101 : decode b_E_burn 101 = .ok (.ineg, 1) := by decide +kernel
theorem d_E_burn_102 : decode b_E_burn 102 = .ok (.invokevirtual 105, 3) := by decide +kernel
theorem d_E_burn_105 : decode b_E_burn 105 = .ok (.aload 6, 2) := by decide +kernel
theorem d_E_burn_107 : decode b_E_burn 107 = .ok (.getfield 124, 3) := by decide +kernel
theorem d_E_burn_110 : decode b_E_burn 110 = .ok (.iconst 0, 1) := by decide +kernel
theorem d_E_burn_111 : decode b_E_burn 111 = .ok (.dup2, 1) := by decide +kernel
theorem d_E_burn_112 : decode b_E_burn 112 = .ok (.laload, 1) := by decide +kernel
theorem d_E_burn_113 : decode b_E_burn 113 = .ok (.aload_n 0, 1) := by decide +kernel
theorem d_E_burn_114 : decode b_E_burn 114 = .ok (.getfield 28, 3) := by decide +kernel
theorem d_E_burn_117 : decode b_E_burn 117 = .ok (.iload_n 2, 1) := by decide +kernel
theorem d_E_burn_118 : decode b_E_burn 118 = .ok (.aaload, 1) := by decide +kernel
theorem d_E_burn_119 : decode b_E_burn 119 = .ok (.iload_n 3, 1) := by decide +kernel
theorem d_E_burn_120 : decode b_E_burn 120 = .ok (.iload 4, 2) := by decide +kernel
theorem d_E_burn_122 : decode b_E_burn 122 = .ok (.iload 5, 2) := by decide +kernel
theorem d_E_burn_124 : decode b_E_burn 124 = .ok (.iconst 0, 1) := by decide +kernel
theorem d_E_burn_125 : decode b_E_burn 125 = .ok (.invokevirtual 88, 3) := by decide +kernel
theorem d_E_burn_128 : decode b_E_burn 128 = .ok (.ladd, 1) := by decide +kernel
theorem d_E_burn_129 : decode b_E_burn 129 = .ok (.lastore, 1) := by decide +kernel
theorem d_E_burn_130 : decode b_E_burn 130 = .ok (.aload 6, 2) := by decide +kernel
theorem d_E_burn_132 : decode b_E_burn 132 = .ok (.getfield 124, 3) := by decide +kernel
theorem d_E_burn_135 : decode b_E_burn 135 = .ok (.iconst 1, 1) := by decide +kernel
theorem d_E_burn_136 : decode b_E_burn 136 = .ok (.dup2, 1) := by decide +kernel
theorem d_E_burn_137 : decode b_E_burn 137 = .ok (.laload, 1) := by decide +kernel
theorem d_E_burn_138 : decode b_E_burn 138 = .ok (.aload_n 0, 1) := by decide +kernel
theorem d_E_burn_139 : decode b_E_burn 139 = .ok (.getfield 28, 3) := by decide +kernel
theorem d_E_burn_142 : decode b_E_burn 142 = .ok (.iload_n 2, 1) := by decide +kernel
theorem d_E_burn_143 : decode b_E_burn 143 = .ok (.aaload, 1) := by decide +kernel
theorem d_E_burn_144 : decode b_E_burn 144 = .ok (.iload_n 3, 1) := by decide +kernel
theorem d_E_burn_145 : decode b_E_burn 145 = .ok (.iload 4, 2) := by decide +kernel
theorem d_E_burn_147 : decode b_E_burn 147 = .ok (.iload 5, 2) := by decide +kernel
theorem d_E_burn_149 : decode b_E_burn 149 = .ok (.iconst 0, 1) := by decide +kernel
theorem d_E_burn_150 : decode b_E_burn 150 = .ok (.invokevirtual 92, 3) := by decide +kernel
theorem d_E_burn_153 : decode b_E_burn 153 = .ok (.ladd, 1) := by decide +kernel
theorem d_E_burn_154 : decode b_E_burn 154 = .ok (.lastore, 1) := by decide +kernel
theorem d_E_burn_155 : decode b_E_burn 155 = .ok (.aload 6, 2) := by decide +kernel
theorem d_E_burn_157 : decode b_E_burn 157 = .ok (.getfield 80, 3) := by decide +kernel
theorem d_E_burn_160 : decode b_E_burn 160 = .ok (.ireturn, 1) := by decide +kernel
abbrev b_E_collect : ByteArray := prog_1_method_6_code
def y_E_collect : MethodName := ⟨"RangeExchange", "collect", "(IIII)J"⟩
theorem d_E_collect_0 : decode b_E_collect 0 = .ok (.iload_n 1, 1) := by decide +kernel
theorem d_E_collect_1 : decode b_E_collect 1 = .ok (.iload_n 2, 1) := by decide +kernel
theorem d_E_collect_2 : decode b_E_collect 2 = .ok (.iload_n 3, 1) := by decide +kernel
theorem d_E_collect_3 : decode b_E_collect 3 = .ok (.iload 4, 2) := by decide +kernel
theorem d_E_collect_5 : decode b_E_collect 5 = .ok (.invokestatic 71, 3) := by decide +kernel
theorem d_E_collect_8 : decode b_E_collect 8 = .ok (.aload_n 0, 1) := by decide +kernel
theorem d_E_collect_9 : decode b_E_collect 9 = .ok (.iload_n 1, 1) := by decide +kernel
theorem d_E_collect_10 : decode b_E_collect 10 = .ok (.iload_n 2, 1) := by decide +kernel
theorem d_E_collect_11 : decode b_E_collect 11 = .ok (.iload_n 3, 1) := by decide +kernel
theorem d_E_collect_12 : decode b_E_collect 12 = .ok (.iload 4, 2) := by decide +kernel
theorem d_E_collect_14 : decode b_E_collect 14 = .ok (.invokevirtual 76, 3) := by decide +kernel
theorem d_E_collect_17 : decode b_E_collect 17 = .ok (.astore 5, 2) := by decide +kernel
theorem d_E_collect_19 : decode b_E_collect 19 = .ok (.aload 5, 2) := by decide +kernel
theorem d_E_collect_21 : decode b_E_collect 21 = .ok (.ifnonnull 11, 3) := by decide +kernel
theorem d_E_collect_24 : decode b_E_collect 24 = .ok (.new 113, 3) := by decide +kernel
theorem d_E_collect_27 : decode b_E_collect 27 = .ok (.dup, 1) := by decide +kernel
theorem d_E_collect_28 : decode b_E_collect 28 = .ok (.invokespecial 115, 3) := by decide +kernel
theorem d_E_collect_31 : decode b_E_collect 31 = .ok (.athrow, 1) := by decide +kernel
theorem d_E_collect_32 : decode b_E_collect 32 = .ok (.aload 5, 2) := by decide +kernel
theorem d_E_collect_34 : decode b_E_collect 34 = .ok (.getfield 124, 3) := by decide +kernel
theorem d_E_collect_37 : decode b_E_collect 37 = .ok (.iconst 0, 1) := by decide +kernel
theorem d_E_collect_38 : decode b_E_collect 38 = .ok (.laload, 1) := by decide +kernel
theorem d_E_collect_39 : decode b_E_collect 39 = .ok (.lstore 6, 2) := by decide +kernel
theorem d_E_collect_41 : decode b_E_collect 41 = .ok (.aload 5, 2) := by decide +kernel
theorem d_E_collect_43 : decode b_E_collect 43 = .ok (.getfield 124, 3) := by decide +kernel
theorem d_E_collect_46 : decode b_E_collect 46 = .ok (.iconst 1, 1) := by decide +kernel
theorem d_E_collect_47 : decode b_E_collect 47 = .ok (.laload, 1) := by decide +kernel
theorem d_E_collect_48 : decode b_E_collect 48 = .ok (.lstore 8, 2) := by decide +kernel
theorem d_E_collect_50 : decode b_E_collect 50 = .ok (.aload 5, 2) := by decide +kernel
theorem d_E_collect_52 : decode b_E_collect 52 = .ok (.getfield 124, 3) := by decide +kernel
theorem d_E_collect_55 : decode b_E_collect 55 = .ok (.iconst 0, 1) := by decide +kernel
theorem d_E_collect_56 : decode b_E_collect 56 = .ok (.lconst 0, 1) := by decide +kernel
theorem d_E_collect_57 : decode b_E_collect 57 = .ok (.lastore, 1) := by decide +kernel
theorem d_E_collect_58 : decode b_E_collect 58 = .ok (.aload 5, 2) := by decide +kernel
theorem d_E_collect_60 : decode b_E_collect 60 = .ok (.getfield 124, 3) := by decide +kernel
theorem d_E_collect_63 : decode b_E_collect 63 = .ok (.iconst 1, 1) := by decide +kernel
theorem d_E_collect_64 : decode b_E_collect 64 = .ok (.lconst 0, 1) := by decide +kernel
theorem d_E_collect_65 : decode b_E_collect 65 = .ok (.lastore, 1) := by decide +kernel
theorem d_E_collect_66 : decode b_E_collect 66 = .ok (.aload_n 0, 1) := by decide +kernel
theorem d_E_collect_67 : decode b_E_collect 67 = .ok (.iload_n 1, 1) := by decide +kernel
theorem d_E_collect_68 : decode b_E_collect 68 = .ok (.iload_n 2, 1) := by decide +kernel
theorem d_E_collect_69 : decode b_E_collect 69 = .ok (.iconst 0, 1) := by decide +kernel
theorem d_E_collect_70 : decode b_E_collect 70 = .ok (.iadd, 1) := by decide +kernel
theorem d_E_collect_71 : decode b_E_collect 71 = .ok (.lload 6, 2) := by decide +kernel
theorem d_E_collect_73 : decode b_E_collect 73 = .ok (.invokevirtual 127, 3) := by decide +kernel
theorem d_E_collect_76 : decode b_E_collect 76 = .ok (.aload_n 0, 1) := by decide +kernel
theorem d_E_collect_77 : decode b_E_collect 77 = .ok (.iload_n 1, 1) := by decide +kernel
theorem d_E_collect_78 : decode b_E_collect 78 = .ok (.iload_n 2, 1) := by decide +kernel
theorem d_E_collect_79 : decode b_E_collect 79 = .ok (.iconst 1, 1) := by decide +kernel
theorem d_E_collect_80 : decode b_E_collect 80 = .ok (.iadd, 1) := by decide +kernel
theorem d_E_collect_81 : decode b_E_collect 81 = .ok (.lload 8, 2) := by decide +kernel
theorem d_E_collect_83 : decode b_E_collect 83 = .ok (.invokevirtual 127, 3) := by decide +kernel
theorem d_E_collect_86 : decode b_E_collect 86 = .ok (.lload 6, 2) := by decide +kernel
theorem d_E_collect_88 : decode b_E_collect 88 = .ok (.lload 8, 2) := by decide +kernel
theorem d_E_collect_90 : decode b_E_collect 90 = .ok (.ladd, 1) := by decide +kernel
theorem d_E_collect_91 : decode b_E_collect 91 = .ok (.lreturn, 1) := by decide +kernel
abbrev b_E_swap : ByteArray := prog_1_method_7_code
def y_E_swap : MethodName := ⟨"RangeExchange", "swap", "(IIZII)J"⟩
theorem d_E_swap_0 : decode b_E_swap 0 = .ok (.iload_n 1, 1) := by decide +kernel
theorem d_E_swap_1 : decode b_E_swap 1 = .ok (.iconst 4, 1) := by decide +kernel
theorem d_E_swap_2 : decode b_E_swap 2 = .ok (.invokestatic 58, 3) := by decide +kernel
theorem d_E_swap_5 : decode b_E_swap 5 = .ok (.iload_n 2, 1) := by decide +kernel
theorem d_E_swap_6 : decode b_E_swap 6 = .ok (.iconst 2, 1) := by decide +kernel
theorem d_E_swap_7 : decode b_E_swap 7 = .ok (.invokestatic 58, 3) := by decide +kernel
theorem d_E_swap_10 : decode b_E_swap 10 = .ok (.iload 5, 2) := by decide +kernel
theorem d_E_swap_12 : decode b_E_swap 12 = .ok (.invokestatic 130, 3) := by decide +kernel
theorem d_E_swap_15 : decode b_E_swap 15 = .ok (.iload 4, 2) := by decide +kernel
theorem d_E_swap_17 : decode b_E_swap 17 = .ok (.ifCond .eq 39, 3) := by decide +kernel
theorem d_E_swap_20 : decode b_E_swap 20 = .ok (.iload 4, 2) := by decide +kernel
theorem d_E_swap_22 : decode b_E_swap 22 = .ok (.ldc 134, 2) := by decide +kernel
theorem d_E_swap_24 : decode b_E_swap 24 = .ok (.if_icmp .lt 32, 3) := by decide +kernel
theorem d_E_swap_27 : decode b_E_swap 27 = .ok (.iload 4, 2) := by decide +kernel
theorem d_E_swap_29 : decode b_E_swap 29 = .ok (.ldc 135, 2) := by decide +kernel
theorem d_E_swap_31 : decode b_E_swap 31 = .ok (.if_icmp .gt 25, 3) := by decide +kernel
theorem d_E_swap_34 : decode b_E_swap 34 = .ok (.aload_n 0, 1) := by decide +kernel
theorem d_E_swap_35 : decode b_E_swap 35 = .ok (.getfield 28, 3) := by decide +kernel
theorem d_E_swap_38 : decode b_E_swap 38 = .ok (.iload_n 2, 1) := by decide +kernel
theorem d_E_swap_39 : decode b_E_swap 39 = .ok (.aaload, 1) := by decide +kernel
theorem d_E_swap_40 : decode b_E_swap 40 = .ok (.aload_n 0, 1) := by decide +kernel
theorem d_E_swap_41 : decode b_E_swap 41 = .ok (.getfield 22, 3) := by decide +kernel
theorem d_E_swap_44 : decode b_E_swap 44 = .ok (.iload 5, 2) := by decide +kernel
theorem d_E_swap_46 : decode b_E_swap 46 = .ok (.invokevirtual 136, 3) := by decide +kernel
theorem d_E_swap_49 : decode b_E_swap 49 = .ok (.iload_n 3, 1) := by decide +kernel
theorem d_E_swap_50 : decode b_E_swap 50 = .ok (.invokevirtual 140, 3) := by decide +kernel
theorem d_E_swap_53 : decode b_E_swap 53 = .ok (.ifCond .ne 11, 3) := by decide +kernel
theorem d_E_swap_56 : decode b_E_swap 56 = .ok (.new 64, 3) := by decide +kernel
theorem d_E_swap_59 : decode b_E_swap 59 = .ok (.dup, 1) := by decide +kernel
theorem d_E_swap_60 : decode b_E_swap 60 = .ok (.invokespecial 66, 3) := by decide +kernel
theorem d_E_swap_63 : decode b_E_swap 63 = .ok (.athrow, 1) := by decide +kernel
theorem d_E_swap_64 : decode b_E_swap 64 = .ok (.aload_n 0, 1) := by decide +kernel
theorem d_E_swap_65 : decode b_E_swap 65 = .ok (.getfield 43, 3) := by decide +kernel
theorem d_E_swap_68 : decode b_E_swap 68 = .ok (.aload_n 0, 1) := by decide +kernel
theorem d_E_swap_69 : decode b_E_swap 69 = .ok (.getfield 28, 3) := by decide +kernel
theorem d_E_swap_72 : decode b_E_swap 72 = .ok (.iload_n 2, 1) := by decide +kernel
theorem d_E_swap_73 : decode b_E_swap 73 = .ok (.aaload, 1) := by decide +kernel
theorem d_E_swap_74 : decode b_E_swap 74 = .ok (.iload_n 3, 1) := by decide +kernel
theorem d_E_swap_75 : decode b_E_swap 75 = .ok (.iload 4, 2) := by decide +kernel
theorem d_E_swap_77 : decode b_E_swap 77 = .ok (.i2l, 1) := by decide +kernel
theorem d_E_swap_78 : decode b_E_swap 78 = .ok (.aload_n 0, 1) := by decide +kernel
theorem d_E_swap_79 : decode b_E_swap 79 = .ok (.getfield 22, 3) := by decide +kernel
theorem d_E_swap_82 : decode b_E_swap 82 = .ok (.iload 5, 2) := by decide +kernel
theorem d_E_swap_84 : decode b_E_swap 84 = .ok (.invokevirtual 136, 3) := by decide +kernel
theorem d_E_swap_87 : decode b_E_swap 87 = .ok (.invokevirtual 144, 3) := by decide +kernel
theorem d_E_swap_90 : decode b_E_swap 90 = .ok (.iload_n 2, 1) := by decide +kernel
theorem d_E_swap_91 : decode b_E_swap 91 = .ok (.iload_n 3, 1) := by decide +kernel
theorem d_E_swap_92 : decode b_E_swap 92 = .ok (.ifCond .eq 7, 3) := by decide +kernel
theorem d_E_swap_95 : decode b_E_swap 95 = .ok (.iconst 0, 1) := by decide +kernel
theorem d_E_swap_96 : decode b_E_swap 96 = .ok (.goto 4, 3) := by decide +kernel
theorem d_E_swap_99 : decode b_E_swap 99 = .ok (.iconst 1, 1) := by decide +kernel
theorem d_E_swap_100 : decode b_E_swap 100 = .ok (.iadd, 1) := by decide +kernel
theorem d_E_swap_101 : decode b_E_swap 101 = .ok (.istore 6, 2) := by decide +kernel
theorem d_E_swap_103 : decode b_E_swap 103 = .ok (.iload_n 2, 1) := by decide +kernel
theorem d_E_swap_104 : decode b_E_swap 104 = .ok (.iload_n 3, 1) := by decide +kernel
theorem d_E_swap_105 : decode b_E_swap 105 = .ok (.ifCond .eq 7, 3) := by decide +kernel
theorem d_E_swap_108 : decode b_E_swap 108 = .ok (.iconst 1, 1) := by decide +kernel
theorem d_E_swap_109 : decode b_E_swap 109 = .ok (.goto 4, 3) := by decide +kernel
theorem d_E_swap_112 : decode b_E_swap 112 = .ok (.iconst 0, 1) := by decide +kernel
theorem d_E_swap_113 : decode b_E_swap 113 = .ok (.iadd, 1) := by decide +kernel
theorem d_E_swap_114 : decode b_E_swap 114 = .ok (.istore 7, 2) := by decide +kernel
theorem d_E_swap_116 : decode b_E_swap 116 = .ok (.aload_n 0, 1) := by decide +kernel
theorem d_E_swap_117 : decode b_E_swap 117 = .ok (.iload_n 1, 1) := by decide +kernel
theorem d_E_swap_118 : decode b_E_swap 118 = .ok (.iload 6, 2) := by decide +kernel
theorem d_E_swap_120 : decode b_E_swap 120 = .ok (.aload_n 0, 1) := by decide +kernel
theorem d_E_swap_121 : decode b_E_swap 121 = .ok (.getfield 43, 3) := by decide +kernel
theorem d_E_swap_124 : decode b_E_swap 124 = .ok (.getfield 148, 3) := by decide +kernel
theorem d_E_swap_127 : decode b_E_swap 127 = .ok (.invokevirtual 95, 3) := by decide +kernel
theorem d_E_swap_130 : decode b_E_swap 130 = .ok (.ifCond .eq 11, 3) := by decide +kernel
theorem d_E_swap_133 : decode b_E_swap 133 = .ok (.new 99, 3) := by decide +kernel
theorem d_E_swap_136 : decode b_E_swap 136 = .ok (.dup, 1) := by decide +kernel
theorem d_E_swap_137 : decode b_E_swap 137 = .ok (.invokespecial 101, 3) := by decide +kernel
theorem d_E_swap_140 : decode b_E_swap 140 = .ok (.athrow, 1) := by decide +kernel
theorem d_E_swap_141 : decode b_E_swap 141 = .ok (.aload_n 0, 1) := by decide +kernel
theorem d_E_swap_142 : decode b_E_swap 142 = .ok (.aload_n 0, 1) := by decide +kernel
theorem d_E_swap_143 : decode b_E_swap 143 = .ok (.getfield 43, 3) := by decide +kernel
theorem d_E_swap_146 : decode b_E_swap 146 = .ok (.iload_n 1, 1) := by decide +kernel
theorem d_E_swap_147 : decode b_E_swap 147 = .ok (.iload 6, 2) := by decide +kernel
theorem d_E_swap_149 : decode b_E_swap 149 = .ok (.iload 7, 2) := by decide +kernel
theorem d_E_swap_151 : decode b_E_swap 151 = .ok (.invokevirtual 151, 3) := by decide +kernel
theorem d_E_swap_154 : decode b_E_swap 154 = .ok (.aload_n 0, 1) := by decide +kernel
theorem d_E_swap_155 : decode b_E_swap 155 = .ok (.aload_n 0, 1) := by decide +kernel
theorem d_E_swap_156 : decode b_E_swap 156 = .ok (.getfield 43, 3) := by decide +kernel
theorem d_E_swap_159 : decode b_E_swap 159 = .ok (.getfield 148, 3) := by decide +kernel
theorem d_E_swap_162 : decode b_E_swap 162 = .ok (.putfield 50, 3) := by decide +kernel
theorem d_E_swap_165 : decode b_E_swap 165 = .ok (.aload_n 0, 1) := by decide +kernel
theorem d_E_swap_166 : decode b_E_swap 166 = .ok (.getfield 43, 3) := by decide +kernel
theorem d_E_swap_169 : decode b_E_swap 169 = .ok (.getfield 155, 3) := by decide +kernel
theorem d_E_swap_172 : decode b_E_swap 172 = .ok (.lreturn, 1) := by decide +kernel
abbrev b_E_route : ByteArray := prog_1_method_8_code
def y_E_route : MethodName := ⟨"RangeExchange", "route", "(III)J"⟩
theorem d_E_route_0 : decode b_E_route 0 = .ok (.iload_n 1, 1) := by decide +kernel
theorem d_E_route_1 : decode b_E_route 1 = .ok (.iconst 4, 1) := by decide +kernel
theorem d_E_route_2 : decode b_E_route 2 = .ok (.invokestatic 58, 3) := by decide +kernel
theorem d_E_route_5 : decode b_E_route 5 = .ok (.iload_n 2, 1) := by decide +kernel
theorem d_E_route_6 : decode b_E_route 6 = .ok (.iconst 1, 1) := by decide +kernel
theorem d_E_route_7 : decode b_E_route 7 = .ok (.if_icmp .lt 9, 3) := by decide +kernel
theorem d_E_route_10 : decode b_E_route 10 = .ok (.iload_n 2, 1) := by decide +kernel
theorem d_E_route_11 : decode b_E_route 11 = .ok (.ldc 135, 2) := by decide +kernel
theorem d_E_route_13 : decode b_E_route 13 = .ok (.if_icmp .le 11, 3) := by decide +kernel
theorem d_E_route_16 : decode b_E_route 16 = .ok (.new 64, 3) := by decide +kernel
theorem d_E_route_19 : decode b_E_route 19 = .ok (.dup, 1) := by decide +kernel
theorem d_E_route_20 : decode b_E_route 20 = .ok (.invokespecial 66, 3) := by decide +kernel
theorem d_E_route_23 : decode b_E_route 23 = .ok (.athrow, 1) := by decide +kernel
theorem d_E_route_24 : decode b_E_route 24 = .ok (.aload_n 0, 1) := by decide +kernel
theorem d_E_route_25 : decode b_E_route 25 = .ok (.getfield 22, 3) := by decide +kernel
theorem d_E_route_28 : decode b_E_route 28 = .ok (.bipush (-40), 2) := by decide +kernel
theorem d_E_route_30 : decode b_E_route 30 = .ok (.invokevirtual 136, 3) := by decide +kernel
theorem d_E_route_33 : decode b_E_route 33 = .ok (.lstore 4, 2) := by decide +kernel
theorem d_E_route_35 : decode b_E_route 35 = .ok (.aload_n 0, 1) := by decide +kernel
theorem d_E_route_36 : decode b_E_route 36 = .ok (.getfield 28, 3) := by decide +kernel
theorem d_E_route_39 : decode b_E_route 39 = .ok (.iconst 0, 1) := by decide +kernel
theorem d_E_route_40 : decode b_E_route 40 = .ok (.aaload, 1) := by decide +kernel
theorem d_E_route_41 : decode b_E_route 41 = .ok (.lload 4, 2) := by decide +kernel
theorem d_E_route_43 : decode b_E_route 43 = .ok (.iconst 1, 1) := by decide +kernel
theorem d_E_route_44 : decode b_E_route 44 = .ok (.invokevirtual 140, 3) := by decide +kernel
theorem d_E_route_47 : decode b_E_route 47 = .ok (.ifCond .eq 18, 3) := by decide +kernel
theorem d_E_route_50 : decode b_E_route 50 = .ok (.aload_n 0, 1) := by decide +kernel
theorem d_E_route_51 : decode b_E_route 51 = .ok (.getfield 28, 3) := by decide +kernel
theorem d_E_route_54 : decode b_E_route 54 = .ok (.iconst 1, 1) := by decide +kernel
theorem d_E_route_55 : decode b_E_route 55 = .ok (.aaload, 1) := by decide +kernel
theorem d_E_route_56 : decode b_E_route 56 = .ok (.lload 4, 2) := by decide +kernel
theorem d_E_route_58 : decode b_E_route 58 = .ok (.iconst 1, 1) := by decide +kernel
theorem d_E_route_59 : decode b_E_route 59 = .ok (.invokevirtual 140, 3) := by decide +kernel
theorem d_E_route_62 : decode b_E_route 62 = .ok (.ifCond .ne 11, 3) := by decide +kernel
theorem d_E_route_65 : decode b_E_route 65 = .ok (.new 99, 3) := by decide +kernel
theorem d_E_route_68 : decode b_E_route 68 = .ok (.dup, 1) := by decide +kernel
theorem d_E_route_69 : decode b_E_route 69 = .ok (.invokespecial 101, 3) := by decide +kernel
theorem d_E_route_72 : decode b_E_route 72 = .ok (.athrow, 1) := by decide +kernel
theorem d_E_route_73 : decode b_E_route 73 = .ok (.aload_n 0, 1) := by decide +kernel
theorem d_E_route_74 : decode b_E_route 74 = .ok (.getfield 43, 3) := by decide +kernel
theorem d_E_route_77 : decode b_E_route 77 = .ok (.aload_n 0, 1) := by decide +kernel
theorem d_E_route_78 : decode b_E_route 78 = .ok (.getfield 28, 3) := by decide +kernel
theorem d_E_route_81 : decode b_E_route 81 = .ok (.iconst 0, 1) := by decide +kernel
theorem d_E_route_82 : decode b_E_route 82 = .ok (.aaload, 1) := by decide +kernel
theorem d_E_route_83 : decode b_E_route 83 = .ok (.iconst 1, 1) := by decide +kernel
theorem d_E_route_84 : decode b_E_route 84 = .ok (.iload_n 2, 1) := by decide +kernel
theorem d_E_route_85 : decode b_E_route 85 = .ok (.i2l, 1) := by decide +kernel
theorem d_E_route_86 : decode b_E_route 86 = .ok (.lload 4, 2) := by decide +kernel
theorem d_E_route_88 : decode b_E_route 88 = .ok (.invokevirtual 144, 3) := by decide +kernel
theorem d_E_route_91 : decode b_E_route 91 = .ok (.aload_n 0, 1) := by decide +kernel
theorem d_E_route_92 : decode b_E_route 92 = .ok (.iload_n 1, 1) := by decide +kernel
theorem d_E_route_93 : decode b_E_route 93 = .ok (.iconst 0, 1) := by decide +kernel
theorem d_E_route_94 : decode b_E_route 94 = .ok (.aload_n 0, 1) := by decide +kernel
theorem d_E_route_95 : decode b_E_route 95 = .ok (.getfield 43, 3) := by decide +kernel
theorem d_E_route_98 : decode b_E_route 98 = .ok (.getfield 148, 3) := by decide +kernel
theorem d_E_route_101 : decode b_E_route 101 = .ok (.invokevirtual 95, 3) := by decide +kernel
theorem d_E_route_104 : decode b_E_route 104 = .ok (.ifCond .ne 15, 3) := by decide +kernel
theorem d_E_route_107 : decode b_E_route 107 = .ok (.aload_n 0, 1) := by decide +kernel
theorem d_E_route_108 : decode b_E_route 108 = .ok (.getfield 43, 3) := by decide +kernel
theorem d_E_route_111 : decode b_E_route 111 = .ok (.getfield 155, 3) := by decide +kernel
theorem d_E_route_114 : decode b_E_route 114 = .ok (.lconst 0, 1) := by decide +kernel
theorem d_E_route_115 : decode b_E_route 115 = .ok (.lcmp, 1) := by decide +kernel
theorem d_E_route_116 : decode b_E_route 116 = .ok (.ifCond .ne 11, 3) := by decide +kernel
theorem d_E_route_119 : decode b_E_route 119 = .ok (.new 99, 3) := by decide +kernel
theorem d_E_route_122 : decode b_E_route 122 = .ok (.dup, 1) := by decide +kernel
theorem d_E_route_123 : decode b_E_route 123 = .ok (.invokespecial 101, 3) := by decide +kernel
theorem d_E_route_126 : decode b_E_route 126 = .ok (.athrow, 1) := by decide +kernel
theorem d_E_route_127 : decode b_E_route 127 = .ok (.aload_n 0, 1) := by decide +kernel
theorem d_E_route_128 : decode b_E_route 128 = .ok (.getfield 47, 3) := by decide +kernel
theorem d_E_route_131 : decode b_E_route 131 = .ok (.aload_n 0, 1) := by decide +kernel
theorem d_E_route_132 : decode b_E_route 132 = .ok (.getfield 28, 3) := by decide +kernel
theorem d_E_route_135 : decode b_E_route 135 = .ok (.iconst 1, 1) := by decide +kernel
theorem d_E_route_136 : decode b_E_route 136 = .ok (.aaload, 1) := by decide +kernel
theorem d_E_route_137 : decode b_E_route 137 = .ok (.iconst 1, 1) := by decide +kernel
theorem d_E_route_138 : decode b_E_route 138 = .ok (.aload_n 0, 1) := by decide +kernel
theorem d_E_route_139 : decode b_E_route 139 = .ok (.getfield 43, 3) := by decide +kernel
theorem d_E_route_142 : decode b_E_route 142 = .ok (.getfield 155, 3) := by decide +kernel
theorem d_E_route_145 : decode b_E_route 145 = .ok (.lload 4, 2) := by decide +kernel
theorem d_E_route_147 : decode b_E_route 147 = .ok (.invokevirtual 144, 3) := by decide +kernel
theorem d_E_route_150 : decode b_E_route 150 = .ok (.aload_n 0, 1) := by decide +kernel
theorem d_E_route_151 : decode b_E_route 151 = .ok (.getfield 47, 3) := by decide +kernel
theorem d_E_route_154 : decode b_E_route 154 = .ok (.getfield 155, 3) := by decide +kernel
theorem d_E_route_157 : decode b_E_route 157 = .ok (.iload_n 3, 1) := by decide +kernel
theorem d_E_route_158 : decode b_E_route 158 = .ok (.i2l, 1) := by decide +kernel
theorem d_E_route_159 : decode b_E_route 159 = .ok (.lcmp, 1) := by decide +kernel
theorem d_E_route_160 : decode b_E_route 160 = .ok (.ifCond .ge 11, 3) := by decide +kernel
theorem d_E_route_163 : decode b_E_route 163 = .ok (.new 99, 3) := by decide +kernel
theorem d_E_route_166 : decode b_E_route 166 = .ok (.dup, 1) := by decide +kernel
theorem d_E_route_167 : decode b_E_route 167 = .ok (.invokespecial 101, 3) := by decide +kernel
theorem d_E_route_170 : decode b_E_route 170 = .ok (.athrow, 1) := by decide +kernel
theorem d_E_route_171 : decode b_E_route 171 = .ok (.aload_n 0, 1) := by decide +kernel
theorem d_E_route_172 : decode b_E_route 172 = .ok (.aload_n 0, 1) := by decide +kernel
theorem d_E_route_173 : decode b_E_route 173 = .ok (.getfield 43, 3) := by decide +kernel
theorem d_E_route_176 : decode b_E_route 176 = .ok (.iload_n 1, 1) := by decide +kernel
theorem d_E_route_177 : decode b_E_route 177 = .ok (.iconst 0, 1) := by decide +kernel
theorem d_E_route_178 : decode b_E_route 178 = .ok (.iconst 1, 1) := by decide +kernel
theorem d_E_route_179 : decode b_E_route 179 = .ok (.invokevirtual 151, 3) := by decide +kernel
theorem d_E_route_182 : decode b_E_route 182 = .ok (.aload_n 0, 1) := by decide +kernel
theorem d_E_route_183 : decode b_E_route 183 = .ok (.aload_n 0, 1) := by decide +kernel
theorem d_E_route_184 : decode b_E_route 184 = .ok (.getfield 47, 3) := by decide +kernel
theorem d_E_route_187 : decode b_E_route 187 = .ok (.iload_n 1, 1) := by decide +kernel
theorem d_E_route_188 : decode b_E_route 188 = .ok (.iconst 1, 1) := by decide +kernel
theorem d_E_route_189 : decode b_E_route 189 = .ok (.iconst 2, 1) := by decide +kernel
theorem d_E_route_190 : decode b_E_route 190 = .ok (.invokevirtual 151, 3) := by decide +kernel
theorem d_E_route_193 : decode b_E_route 193 = .ok (.aload_n 0, 1) := by decide +kernel
theorem d_E_route_194 : decode b_E_route 194 = .ok (.aload_n 0, 1) := by decide +kernel
theorem d_E_route_195 : decode b_E_route 195 = .ok (.getfield 43, 3) := by decide +kernel
theorem d_E_route_198 : decode b_E_route 198 = .ok (.getfield 148, 3) := by decide +kernel
theorem d_E_route_201 : decode b_E_route 201 = .ok (.putfield 50, 3) := by decide +kernel
theorem d_E_route_204 : decode b_E_route 204 = .ok (.aload_n 0, 1) := by decide +kernel
theorem d_E_route_205 : decode b_E_route 205 = .ok (.getfield 47, 3) := by decide +kernel
theorem d_E_route_208 : decode b_E_route 208 = .ok (.getfield 155, 3) := by decide +kernel
theorem d_E_route_211 : decode b_E_route 211 = .ok (.lreturn, 1) := by decide +kernel
abbrev b_E_paid : ByteArray := prog_1_method_9_code
def y_E_paid : MethodName := ⟨"RangeExchange", "paid", "()J"⟩
theorem d_E_paid_0 : decode b_E_paid 0 = .ok (.aload_n 0, 1) := by decide +kernel
theorem d_E_paid_1 : decode b_E_paid 1 = .ok (.getfield 50, 3) := by decide +kernel
theorem d_E_paid_4 : decode b_E_paid 4 = .ok (.lreturn, 1) := by decide +kernel
abbrev b_E_price : ByteArray := prog_1_method_10_code
def y_E_price : MethodName := ⟨"RangeExchange", "price", "(I)J"⟩
theorem d_E_price_0 : decode b_E_price 0 = .ok (.iload_n 1, 1) := by decide +kernel
theorem d_E_price_1 : decode b_E_price 1 = .ok (.iconst 2, 1) := by decide +kernel
theorem d_E_price_2 : decode b_E_price 2 = .ok (.invokestatic 58, 3) := by decide +kernel
theorem d_E_price_5 : decode b_E_price 5 = .ok (.aload_n 0, 1) := by decide +kernel
theorem d_E_price_6 : decode b_E_price 6 = .ok (.getfield 28, 3) := by decide +kernel
theorem d_E_price_9 : decode b_E_price 9 = .ok (.iload_n 1, 1) := by decide +kernel
theorem d_E_price_10 : decode b_E_price 10 = .ok (.aaload, 1) := by decide +kernel
theorem d_E_price_11 : decode b_E_price 11 = .ok (.getfield 116, 3) := by decide +kernel
theorem d_E_price_14 : decode b_E_price 14 = .ok (.getfield 158, 3) := by decide +kernel
theorem d_E_price_17 : decode b_E_price 17 = .ok (.lreturn, 1) := by decide +kernel
abbrev b_E_tick : ByteArray := prog_1_method_11_code
def y_E_tick : MethodName := ⟨"RangeExchange", "tick", "(I)I"⟩
theorem d_E_tick_0 : decode b_E_tick 0 = .ok (.iload_n 1, 1) := by decide +kernel
theorem d_E_tick_1 : decode b_E_tick 1 = .ok (.iconst 2, 1) := by decide +kernel
theorem d_E_tick_2 : decode b_E_tick 2 = .ok (.invokestatic 58, 3) := by decide +kernel
theorem d_E_tick_5 : decode b_E_tick 5 = .ok (.aload_n 0, 1) := by decide +kernel
theorem d_E_tick_6 : decode b_E_tick 6 = .ok (.getfield 28, 3) := by decide +kernel
theorem d_E_tick_9 : decode b_E_tick 9 = .ok (.iload_n 1, 1) := by decide +kernel
theorem d_E_tick_10 : decode b_E_tick 10 = .ok (.aaload, 1) := by decide +kernel
theorem d_E_tick_11 : decode b_E_tick 11 = .ok (.getfield 116, 3) := by decide +kernel
theorem d_E_tick_14 : decode b_E_tick 14 = .ok (.getfield 163, 3) := by decide +kernel
theorem d_E_tick_17 : decode b_E_tick 17 = .ok (.ireturn, 1) := by decide +kernel
abbrev b_E_liquidity : ByteArray := prog_1_method_12_code
def y_E_liquidity : MethodName := ⟨"RangeExchange", "liquidity", "(I)I"⟩
theorem d_E_liquidity_0 : decode b_E_liquidity 0 = .ok (.iload_n 1, 1) := by decide +kernel
theorem d_E_liquidity_1 : decode b_E_liquidity 1 = .ok (.iconst 2, 1) := by decide +kernel
theorem d_E_liquidity_2 : decode b_E_liquidity 2 = .ok (.invokestatic 58, 3) := by decide +kernel
theorem d_E_liquidity_5 : decode b_E_liquidity 5 = .ok (.aload_n 0, 1) := by decide +kernel
theorem d_E_liquidity_6 : decode b_E_liquidity 6 = .ok (.getfield 28, 3) := by decide +kernel
theorem d_E_liquidity_9 : decode b_E_liquidity 9 = .ok (.iload_n 1, 1) := by decide +kernel
theorem d_E_liquidity_10 : decode b_E_liquidity 10 = .ok (.aaload, 1) := by decide +kernel
theorem d_E_liquidity_11 : decode b_E_liquidity 11 = .ok (.getfield 116, 3) := by decide +kernel
theorem d_E_liquidity_14 : decode b_E_liquidity 14 = .ok (.getfield 166, 3) := by decide +kernel
theorem d_E_liquidity_17 : decode b_E_liquidity 17 = .ok (.ireturn, 1) := by decide +kernel
abbrev b_E_growth : ByteArray := prog_1_method_13_code
def y_E_growth : MethodName := ⟨"RangeExchange", "growth", "(II)J"⟩
theorem d_E_growth_0 : decode b_E_growth 0 = .ok (.iload_n 1, 1) := by decide +kernel
theorem d_E_growth_1 : decode b_E_growth 1 = .ok (.iconst 2, 1) := by decide +kernel
theorem d_E_growth_2 : decode b_E_growth 2 = .ok (.invokestatic 58, 3) := by decide +kernel
theorem d_E_growth_5 : decode b_E_growth 5 = .ok (.iload_n 2, 1) := by decide +kernel
theorem d_E_growth_6 : decode b_E_growth 6 = .ok (.iconst 2, 1) := by decide +kernel
theorem d_E_growth_7 : decode b_E_growth 7 = .ok (.invokestatic 58, 3) := by decide +kernel
theorem d_E_growth_10 : decode b_E_growth 10 = .ok (.aload_n 0, 1) := by decide +kernel
theorem d_E_growth_11 : decode b_E_growth 11 = .ok (.getfield 28, 3) := by decide +kernel
theorem d_E_growth_14 : decode b_E_growth 14 = .ok (.iload_n 1, 1) := by decide +kernel
theorem d_E_growth_15 : decode b_E_growth 15 = .ok (.aaload, 1) := by decide +kernel
theorem d_E_growth_16 : decode b_E_growth 16 = .ok (.getfield 116, 3) := by decide +kernel
theorem d_E_growth_19 : decode b_E_growth 19 = .ok (.getfield 169, 3) := by decide +kernel
theorem d_E_growth_22 : decode b_E_growth 22 = .ok (.iload_n 2, 1) := by decide +kernel
theorem d_E_growth_23 : decode b_E_growth 23 = .ok (.laload, 1) := by decide +kernel
theorem d_E_growth_24 : decode b_E_growth 24 = .ok (.lreturn, 1) := by decide +kernel
abbrev b_E_position : ByteArray := prog_1_method_14_code
def y_E_position : MethodName := ⟨"RangeExchange", "position", "(IIIII)J"⟩
theorem d_E_position_0 : decode b_E_position 0 = .ok (.aload_n 0, 1) := by decide +kernel
theorem d_E_position_1 : decode b_E_position 1 = .ok (.iload_n 1, 1) := by decide +kernel
theorem d_E_position_2 : decode b_E_position 2 = .ok (.iload_n 2, 1) := by decide +kernel
theorem d_E_position_3 : decode b_E_position 3 = .ok (.iload_n 3, 1) := by decide +kernel
theorem d_E_position_4 : decode b_E_position 4 = .ok (.iload 4, 2) := by decide +kernel
theorem d_E_position_6 : decode b_E_position 6 = .ok (.invokevirtual 76, 3) := by decide +kernel
theorem d_E_position_9 : decode b_E_position 9 = .ok (.astore 6, 2) := by decide +kernel
theorem d_E_position_11 : decode b_E_position 11 = .ok (.aload 6, 2) := by decide +kernel
theorem d_E_position_13 : decode b_E_position 13 = .ok (.ifnonnull 5, 3) := by decide +kernel
theorem d_E_position_16 : decode b_E_position 16 = .ok (.lconst 0, 1) := by decide +kernel
theorem d_E_position_17 : decode b_E_position 17 = .ok (.lreturn, 1) := by decide +kernel
theorem d_E_position_18 : decode b_E_position 18 = .ok (.iload 5, 2) := by decide +kernel
theorem d_E_position_20 : decode b_E_position 20 = .ok (.tableswitch 51 0 2 #[28, 35, 43], 28) := by decide +kernel
theorem d_E_position_48 : decode b_E_position 48 = .ok (.aload 6, 2) := by decide +kernel
theorem d_E_position_50 : decode b_E_position 50 = .ok (.getfield 80, 3) := by decide +kernel
theorem d_E_position_53 : decode b_E_position 53 = .ok (.i2l, 1) := by decide +kernel
theorem d_E_position_54 : decode b_E_position 54 = .ok (.lreturn, 1) := by decide +kernel
theorem d_E_position_55 : decode b_E_position 55 = .ok (.aload 6, 2) := by decide +kernel
theorem d_E_position_57 : decode b_E_position 57 = .ok (.getfield 124, 3) := by decide +kernel
theorem d_E_position_60 : decode b_E_position 60 = .ok (.iconst 0, 1) := by decide +kernel
theorem d_E_position_61 : decode b_E_position 61 = .ok (.laload, 1) := by decide +kernel
theorem d_E_position_62 : decode b_E_position 62 = .ok (.lreturn, 1) := by decide +kernel
theorem d_E_position_63 : decode b_E_position 63 = .ok (.aload 6, 2) := by decide +kernel
theorem d_E_position_65 : decode b_E_position 65 = .ok (.getfield 124, 3) := by decide +kernel
theorem d_E_position_68 : decode b_E_position 68 = .ok (.iconst 1, 1) := by decide +kernel
theorem d_E_position_69 : decode b_E_position 69 = .ok (.laload, 1) := by decide +kernel
theorem d_E_position_70 : decode b_E_position 70 = .ok (.lreturn, 1) := by decide +kernel
theorem d_E_position_71 : decode b_E_position 71 = .ok (.lconst 0, 1) := by decide +kernel
theorem d_E_position_72 : decode b_E_position 72 = .ok (.lreturn, 1) := by decide +kernel
abbrev b_E_held : ByteArray := prog_1_method_15_code
def y_E_held : MethodName := ⟨"RangeExchange", "held", "(I)J"⟩
theorem d_E_held_0 : decode b_E_held 0 = .ok (.iload_n 1, 1) := by decide +kernel
theorem d_E_held_1 : decode b_E_held 1 = .ok (.iconst 3, 1) := by decide +kernel
theorem d_E_held_2 : decode b_E_held 2 = .ok (.invokestatic 58, 3) := by decide +kernel
theorem d_E_held_5 : decode b_E_held 5 = .ok (.aload_n 0, 1) := by decide +kernel
theorem d_E_held_6 : decode b_E_held 6 = .ok (.getfield 16, 3) := by decide +kernel
theorem d_E_held_9 : decode b_E_held 9 = .ok (.iload_n 1, 1) := by decide +kernel
theorem d_E_held_10 : decode b_E_held 10 = .ok (.laload, 1) := by decide +kernel
theorem d_E_held_11 : decode b_E_held 11 = .ok (.lreturn, 1) := by decide +kernel
abbrev b_E_requireIndex : ByteArray := prog_1_method_16_code
def y_E_requireIndex : MethodName := ⟨"RangeExchange", "requireIndex", "(II)V"⟩
theorem d_E_requireIndex_0 : decode b_E_requireIndex 0 = .ok (.iload_n 0, 1) := by decide +kernel
theorem d_E_requireIndex_1 : decode b_E_requireIndex 1 = .ok (.ifCond .lt 8, 3) := by decide +kernel
theorem d_E_requireIndex_4 : decode b_E_requireIndex 4 = .ok (.iload_n 0, 1) := by decide +kernel
theorem d_E_requireIndex_5 : decode b_E_requireIndex 5 = .ok (.iload_n 1, 1) := by decide +kernel
theorem d_E_requireIndex_6 : decode b_E_requireIndex 6 = .ok (.if_icmp .lt 11, 3) := by decide +kernel
theorem d_E_requireIndex_9 : decode b_E_requireIndex 9 = .ok (.new 172, 3) := by decide +kernel
theorem d_E_requireIndex_12 : decode b_E_requireIndex 12 = .ok (.dup, 1) := by decide +kernel
theorem d_E_requireIndex_13 : decode b_E_requireIndex 13 = .ok (.invokespecial 174, 3) := by decide +kernel
theorem d_E_requireIndex_16 : decode b_E_requireIndex 16 = .ok (.athrow, 1) := by decide +kernel
theorem d_E_requireIndex_17 : decode b_E_requireIndex 17 = .ok (.return_, 1) := by decide +kernel
abbrev b_E_requireTick : ByteArray := prog_1_method_17_code
def y_E_requireTick : MethodName := ⟨"RangeExchange", "requireTick", "(I)V"⟩
theorem d_E_requireTick_0 : decode b_E_requireTick 0 = .ok (.iload_n 0, 1) := by decide +kernel
theorem d_E_requireTick_1 : decode b_E_requireTick 1 = .ok (.bipush (-40), 2) := by decide +kernel
theorem d_E_requireTick_3 : decode b_E_requireTick 3 = .ok (.if_icmp .lt 9, 3) := by decide +kernel
theorem d_E_requireTick_6 : decode b_E_requireTick 6 = .ok (.iload_n 0, 1) := by decide +kernel
theorem d_E_requireTick_7 : decode b_E_requireTick 7 = .ok (.bipush 40, 2) := by decide +kernel
theorem d_E_requireTick_9 : decode b_E_requireTick 9 = .ok (.if_icmp .le 11, 3) := by decide +kernel
theorem d_E_requireTick_12 : decode b_E_requireTick 12 = .ok (.new 172, 3) := by decide +kernel
theorem d_E_requireTick_15 : decode b_E_requireTick 15 = .ok (.dup, 1) := by decide +kernel
theorem d_E_requireTick_16 : decode b_E_requireTick 16 = .ok (.invokespecial 174, 3) := by decide +kernel
theorem d_E_requireTick_19 : decode b_E_requireTick 19 = .ok (.athrow, 1) := by decide +kernel
theorem d_E_requireTick_20 : decode b_E_requireTick 20 = .ok (.return_, 1) := by decide +kernel
abbrev b_E_requirePlace : ByteArray := prog_1_method_18_code
def y_E_requirePlace : MethodName := ⟨"RangeExchange", "requirePlace", "(IIII)V"⟩
theorem d_E_requirePlace_0 : decode b_E_requirePlace 0 = .ok (.iload_n 0, 1) := by decide +kernel
theorem d_E_requirePlace_1 : decode b_E_requirePlace 1 = .ok (.iconst 4, 1) := by decide +kernel
theorem d_E_requirePlace_2 : decode b_E_requirePlace 2 = .ok (.invokestatic 58, 3) := by decide +kernel
theorem d_E_requirePlace_5 : decode b_E_requirePlace 5 = .ok (.iload_n 1, 1) := by decide +kernel
theorem d_E_requirePlace_6 : decode b_E_requirePlace 6 = .ok (.iconst 2, 1) := by decide +kernel
theorem d_E_requirePlace_7 : decode b_E_requirePlace 7 = .ok (.invokestatic 58, 3) := by decide +kernel
theorem d_E_requirePlace_10 : decode b_E_requirePlace 10 = .ok (.iload_n 2, 1) := by decide +kernel
theorem d_E_requirePlace_11 : decode b_E_requirePlace 11 = .ok (.invokestatic 130, 3) := by decide +kernel
theorem d_E_requirePlace_14 : decode b_E_requirePlace 14 = .ok (.iload_n 3, 1) := by decide +kernel
theorem d_E_requirePlace_15 : decode b_E_requirePlace 15 = .ok (.invokestatic 130, 3) := by decide +kernel
theorem d_E_requirePlace_18 : decode b_E_requirePlace 18 = .ok (.return_, 1) := by decide +kernel
abbrev b_E_account : ByteArray := prog_1_method_19_code
def y_E_account : MethodName := ⟨"RangeExchange", "account", "(II)I"⟩
theorem d_E_account_0 : decode b_E_account 0 = .ok (.iload_n 0, 1) := by decide +kernel
theorem d_E_account_1 : decode b_E_account 1 = .ok (.iconst 3, 1) := by decide +kernel
theorem d_E_account_2 : decode b_E_account 2 = .ok (.imul, 1) := by decide +kernel
theorem d_E_account_3 : decode b_E_account 3 = .ok (.iload_n 1, 1) := by decide +kernel
theorem d_E_account_4 : decode b_E_account 4 = .ok (.iadd, 1) := by decide +kernel
theorem d_E_account_5 : decode b_E_account 5 = .ok (.ireturn, 1) := by decide +kernel
abbrev b_E_find : ByteArray := prog_1_method_20_code
def y_E_find : MethodName := ⟨"RangeExchange", "find", "(IIII)LRangeExchange$Position;"⟩
theorem d_E_find_0 : decode b_E_find 0 = .ok (.iconst 0, 1) := by decide +kernel
theorem d_E_find_1 : decode b_E_find 1 = .ok (.istore 5, 2) := by decide +kernel
theorem d_E_find_3 : decode b_E_find 3 = .ok (.iload 5, 2) := by decide +kernel
theorem d_E_find_5 : decode b_E_find 5 = .ok (.bipush 12, 2) := by decide +kernel
theorem d_E_find_7 : decode b_E_find 7 = .ok (.if_icmp .ge 48, 3) := by decide +kernel
theorem d_E_find_10 : decode b_E_find 10 = .ok (.aload_n 0, 1) := by decide +kernel
theorem d_E_find_11 : decode b_E_find 11 = .ok (.getfield 34, 3) := by decide +kernel
theorem d_E_find_14 : decode b_E_find 14 = .ok (.iload 5, 2) := by decide +kernel
theorem d_E_find_16 : decode b_E_find 16 = .ok (.aaload, 1) := by decide +kernel
theorem d_E_find_17 : decode b_E_find 17 = .ok (.invokevirtual 175, 3) := by decide +kernel
theorem d_E_find_20 : decode b_E_find 20 = .ok (.ifCond .ne 29, 3) := by decide +kernel
theorem d_E_find_23 : decode b_E_find 23 = .ok (.aload_n 0, 1) := by decide +kernel
theorem d_E_find_24 : decode b_E_find 24 = .ok (.getfield 34, 3) := by decide +kernel
theorem d_E_find_27 : decode b_E_find 27 = .ok (.iload 5, 2) := by decide +kernel
theorem d_E_find_29 : decode b_E_find 29 = .ok (.aaload, 1) := by decide +kernel
theorem d_E_find_30 : decode b_E_find 30 = .ok (.iload_n 1, 1) := by decide +kernel
theorem d_E_find_31 : decode b_E_find 31 = .ok (.iload_n 2, 1) := by decide +kernel
theorem d_E_find_32 : decode b_E_find 32 = .ok (.iload_n 3, 1) := by decide +kernel
theorem d_E_find_33 : decode b_E_find 33 = .ok (.iload 4, 2) := by decide +kernel
theorem d_E_find_35 : decode b_E_find 35 = .ok (.invokevirtual 179, 3) := by decide +kernel
theorem d_E_find_38 : decode b_E_find 38 = .ok (.ifCond .eq 11, 3) := by decide +kernel
theorem d_E_find_41 : decode b_E_find 41 = .ok (.aload_n 0, 1) := by decide +kernel
theorem d_E_find_42 : decode b_E_find 42 = .ok (.getfield 34, 3) := by decide +kernel
theorem d_E_find_45 : decode b_E_find 45 = .ok (.iload 5, 2) := by decide +kernel
theorem d_E_find_47 : decode b_E_find 47 = .ok (.aaload, 1) := by decide +kernel
theorem d_E_find_48 : decode b_E_find 48 = .ok (.areturn, 1) := by decide +kernel
theorem d_E_find_49 : decode b_E_find 49 = .ok (.iinc 5 1, 3) := by decide +kernel
theorem d_E_find_52 : decode b_E_find 52 = .ok (.goto (-49), 3) := by decide +kernel
theorem d_E_find_55 : decode b_E_find 55 = .ok (.aconst_null, 1) := by decide +kernel
theorem d_E_find_56 : decode b_E_find 56 = .ok (.areturn, 1) := by decide +kernel
abbrev b_E_findFree : ByteArray := prog_1_method_21_code
def y_E_findFree : MethodName := ⟨"RangeExchange", "findFree", "()LRangeExchange$Position;"⟩
theorem d_E_findFree_0 : decode b_E_findFree 0 = .ok (.iconst 0, 1) := by decide +kernel
theorem d_E_findFree_1 : decode b_E_findFree 1 = .ok (.istore_n 1, 1) := by decide +kernel
theorem d_E_findFree_2 : decode b_E_findFree 2 = .ok (.iload_n 1, 1) := by decide +kernel
theorem d_E_findFree_3 : decode b_E_findFree 3 = .ok (.bipush 12, 2) := by decide +kernel
theorem d_E_findFree_5 : decode b_E_findFree 5 = .ok (.if_icmp .ge 28, 3) := by decide +kernel
theorem d_E_findFree_8 : decode b_E_findFree 8 = .ok (.aload_n 0, 1) := by decide +kernel
theorem d_E_findFree_9 : decode b_E_findFree 9 = .ok (.getfield 34, 3) := by decide +kernel
theorem d_E_findFree_12 : decode b_E_findFree 12 = .ok (.iload_n 1, 1) := by decide +kernel
theorem d_E_findFree_13 : decode b_E_findFree 13 = .ok (.aaload, 1) := by decide +kernel
theorem d_E_findFree_14 : decode b_E_findFree 14 = .ok (.invokevirtual 175, 3) := by decide +kernel
theorem d_E_findFree_17 : decode b_E_findFree 17 = .ok (.ifCond .eq 10, 3) := by decide +kernel
theorem d_E_findFree_20 : decode b_E_findFree 20 = .ok (.aload_n 0, 1) := by decide +kernel
theorem d_E_findFree_21 : decode b_E_findFree 21 = .ok (.getfield 34, 3) := by decide +kernel
theorem d_E_findFree_24 : decode b_E_findFree 24 = .ok (.iload_n 1, 1) := by decide +kernel
theorem d_E_findFree_25 : decode b_E_findFree 25 = .ok (.aaload, 1) := by decide +kernel
theorem d_E_findFree_26 : decode b_E_findFree 26 = .ok (.areturn, 1) := by decide +kernel
theorem d_E_findFree_27 : decode b_E_findFree 27 = .ok (.iinc 1 1, 3) := by decide +kernel
theorem d_E_findFree_30 : decode b_E_findFree 30 = .ok (.goto (-28), 3) := by decide +kernel
theorem d_E_findFree_33 : decode b_E_findFree 33 = .ok (.aconst_null, 1) := by decide +kernel
theorem d_E_findFree_34 : decode b_E_findFree 34 = .ok (.areturn, 1) := by decide +kernel
abbrev b_E_lacks : ByteArray := prog_1_method_22_code
def y_E_lacks : MethodName := ⟨"RangeExchange", "lacks", "(IIJ)Z"⟩
theorem d_E_lacks_0 : decode b_E_lacks 0 = .ok (.aload_n 0, 1) := by decide +kernel
theorem d_E_lacks_1 : decode b_E_lacks 1 = .ok (.getfield 9, 3) := by decide +kernel
theorem d_E_lacks_4 : decode b_E_lacks 4 = .ok (.iload_n 1, 1) := by decide +kernel
theorem d_E_lacks_5 : decode b_E_lacks 5 = .ok (.iload_n 2, 1) := by decide +kernel
theorem d_E_lacks_6 : decode b_E_lacks 6 = .ok (.invokestatic 67, 3) := by decide +kernel
theorem d_E_lacks_9 : decode b_E_lacks 9 = .ok (.laload, 1) := by decide +kernel
theorem d_E_lacks_10 : decode b_E_lacks 10 = .ok (.lload_n 3, 1) := by decide +kernel
theorem d_E_lacks_11 : decode b_E_lacks 11 = .ok (.lcmp, 1) := by decide +kernel
theorem d_E_lacks_12 : decode b_E_lacks 12 = .ok (.ifCond .ge 7, 3) := by decide +kernel
theorem d_E_lacks_15 : decode b_E_lacks 15 = .ok (.iconst 1, 1) := by decide +kernel
theorem d_E_lacks_16 : decode b_E_lacks 16 = .ok (.goto 4, 3) := by decide +kernel
theorem d_E_lacks_19 : decode b_E_lacks 19 = .ok (.iconst 0, 1) := by decide +kernel
theorem d_E_lacks_20 : decode b_E_lacks 20 = .ok (.ireturn, 1) := by decide +kernel
abbrev b_E_payIn : ByteArray := prog_1_method_23_code
def y_E_payIn : MethodName := ⟨"RangeExchange", "payIn", "(IIJ)V"⟩
theorem d_E_payIn_0 : decode b_E_payIn 0 = .ok (.aload_n 0, 1) := by decide +kernel
theorem d_E_payIn_1 : decode b_E_payIn 1 = .ok (.getfield 9, 3) := by decide +kernel
theorem d_E_payIn_4 : decode b_E_payIn 4 = .ok (.iload_n 1, 1) := by decide +kernel
theorem d_E_payIn_5 : decode b_E_payIn 5 = .ok (.iload_n 2, 1) := by decide +kernel
theorem d_E_payIn_6 : decode b_E_payIn 6 = .ok (.invokestatic 67, 3) := by decide +kernel
theorem d_E_payIn_9 : decode b_E_payIn 9 = .ok (.dup2, 1) := by decide +kernel
theorem d_E_payIn_10 : decode b_E_payIn 10 = .ok (.laload, 1) := by decide +kernel
theorem d_E_payIn_11 : decode b_E_payIn 11 = .ok (.lload_n 3, 1) := by decide +kernel
theorem d_E_payIn_12 : decode b_E_payIn 12 = .ok (.lsub, 1) := by decide +kernel
theorem d_E_payIn_13 : decode b_E_payIn 13 = .ok (.lastore, 1) := by decide +kernel
theorem d_E_payIn_14 : decode b_E_payIn 14 = .ok (.aload_n 0, 1) := by decide +kernel
theorem d_E_payIn_15 : decode b_E_payIn 15 = .ok (.getfield 16, 3) := by decide +kernel
theorem d_E_payIn_18 : decode b_E_payIn 18 = .ok (.iload_n 2, 1) := by decide +kernel
theorem d_E_payIn_19 : decode b_E_payIn 19 = .ok (.dup2, 1) := by decide +kernel
theorem d_E_payIn_20 : decode b_E_payIn 20 = .ok (.laload, 1) := by decide +kernel
theorem d_E_payIn_21 : decode b_E_payIn 21 = .ok (.lload_n 3, 1) := by decide +kernel
theorem d_E_payIn_22 : decode b_E_payIn 22 = .ok (.ladd, 1) := by decide +kernel
theorem d_E_payIn_23 : decode b_E_payIn 23 = .ok (.lastore, 1) := by decide +kernel
theorem d_E_payIn_24 : decode b_E_payIn 24 = .ok (.return_, 1) := by decide +kernel
abbrev b_E_payOut : ByteArray := prog_1_method_24_code
def y_E_payOut : MethodName := ⟨"RangeExchange", "payOut", "(IIJ)V"⟩
theorem d_E_payOut_0 : decode b_E_payOut 0 = .ok (.aload_n 0, 1) := by decide +kernel
theorem d_E_payOut_1 : decode b_E_payOut 1 = .ok (.getfield 9, 3) := by decide +kernel
theorem d_E_payOut_4 : decode b_E_payOut 4 = .ok (.iload_n 1, 1) := by decide +kernel
theorem d_E_payOut_5 : decode b_E_payOut 5 = .ok (.iload_n 2, 1) := by decide +kernel
theorem d_E_payOut_6 : decode b_E_payOut 6 = .ok (.invokestatic 67, 3) := by decide +kernel
theorem d_E_payOut_9 : decode b_E_payOut 9 = .ok (.dup2, 1) := by decide +kernel
theorem d_E_payOut_10 : decode b_E_payOut 10 = .ok (.laload, 1) := by decide +kernel
theorem d_E_payOut_11 : decode b_E_payOut 11 = .ok (.lload_n 3, 1) := by decide +kernel
theorem d_E_payOut_12 : decode b_E_payOut 12 = .ok (.ladd, 1) := by decide +kernel
theorem d_E_payOut_13 : decode b_E_payOut 13 = .ok (.lastore, 1) := by decide +kernel
theorem d_E_payOut_14 : decode b_E_payOut 14 = .ok (.aload_n 0, 1) := by decide +kernel
theorem d_E_payOut_15 : decode b_E_payOut 15 = .ok (.getfield 16, 3) := by decide +kernel
theorem d_E_payOut_18 : decode b_E_payOut 18 = .ok (.iload_n 2, 1) := by decide +kernel
theorem d_E_payOut_19 : decode b_E_payOut 19 = .ok (.dup2, 1) := by decide +kernel
theorem d_E_payOut_20 : decode b_E_payOut 20 = .ok (.laload, 1) := by decide +kernel
theorem d_E_payOut_21 : decode b_E_payOut 21 = .ok (.lload_n 3, 1) := by decide +kernel
theorem d_E_payOut_22 : decode b_E_payOut 22 = .ok (.lsub, 1) := by decide +kernel
theorem d_E_payOut_23 : decode b_E_payOut 23 = .ok (.lastore, 1) := by decide +kernel
theorem d_E_payOut_24 : decode b_E_payOut 24 = .ok (.return_, 1) := by decide +kernel
abbrev b_E_keep : ByteArray := prog_1_method_25_code
def y_E_keep : MethodName := ⟨"RangeExchange", "keep", "(LRangeExchange$Trade;III)V"⟩
theorem d_E_keep_0 : decode b_E_keep 0 = .ok (.aload_n 1, 1) := by decide +kernel
theorem d_E_keep_1 : decode b_E_keep 1 = .ok (.getfield 183, 3) := by decide +kernel
theorem d_E_keep_4 : decode b_E_keep 4 = .ok (.invokevirtual 187, 3) := by decide +kernel
theorem d_E_keep_7 : decode b_E_keep 7 = .ok (.aload_n 0, 1) := by decide +kernel
theorem d_E_keep_8 : decode b_E_keep 8 = .ok (.iload_n 2, 1) := by decide +kernel
theorem d_E_keep_9 : decode b_E_keep 9 = .ok (.iload_n 3, 1) := by decide +kernel
theorem d_E_keep_10 : decode b_E_keep 10 = .ok (.aload_n 1, 1) := by decide +kernel
theorem d_E_keep_11 : decode b_E_keep 11 = .ok (.getfield 148, 3) := by decide +kernel
theorem d_E_keep_14 : decode b_E_keep 14 = .ok (.invokevirtual 109, 3) := by decide +kernel
theorem d_E_keep_17 : decode b_E_keep 17 = .ok (.aload_n 0, 1) := by decide +kernel
theorem d_E_keep_18 : decode b_E_keep 18 = .ok (.iload_n 2, 1) := by decide +kernel
theorem d_E_keep_19 : decode b_E_keep 19 = .ok (.iload 4, 2) := by decide +kernel
theorem d_E_keep_21 : decode b_E_keep 21 = .ok (.aload_n 1, 1) := by decide +kernel
theorem d_E_keep_22 : decode b_E_keep 22 = .ok (.getfield 155, 3) := by decide +kernel
theorem d_E_keep_25 : decode b_E_keep 25 = .ok (.invokevirtual 127, 3) := by decide +kernel
theorem d_E_keep_28 : decode b_E_keep 28 = .ok (.return_, 1) := by decide +kernel
