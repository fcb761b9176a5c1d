abbrev b_M_burn : ByteArray := prog_9_method_24_code
def y_M_burn : MethodName := ⟨"RangeExchangeModel", "burn", "(IIIII)I"⟩
theorem d_M_burn_0 : decode b_M_burn 0 = .ok (.aload_n 0, 1) := by decide +kernel
theorem d_M_burn_1 : decode b_M_burn 1 = .ok (.iload_n 1, 1) := by decide +kernel
theorem d_M_burn_2 : decode b_M_burn 2 = .ok (.iload_n 2, 1) := by decide +kernel
theorem d_M_burn_3 : decode b_M_burn 3 = .ok (.iload_n 3, 1) := by decide +kernel
theorem d_M_burn_4 : decode b_M_burn 4 = .ok (.iload 4, 2) := by decide +kernel
theorem d_M_burn_6 : decode b_M_burn 6 = .ok (.invokestatic 127, 3) := by decide +kernel
theorem d_M_burn_9 : decode b_M_burn 9 = .ok (.ifCond .ne 7, 3) := by decide +kernel
theorem d_M_burn_12 : decode b_M_burn 12 = .ok (.iconst 1, 1) := by decide +kernel
theorem d_M_burn_13 : decode b_M_burn 13 = .ok (.goto 19, 3) := by decide +kernel
theorem d_M_burn_16 : decode b_M_burn 16 = .ok (.iload_n 3, 1) := by decide +kernel
theorem d_M_burn_17 : decode b_M_burn 17 = .ok (.iload 4, 2) := by decide +kernel
theorem d_M_burn_19 : decode b_M_burn 19 = .ok (.if_icmp .ge 8, 3) := by decide +kernel
theorem d_M_burn_22 : decode b_M_burn 22 = .ok (.iload 5, 2) := by decide +kernel
theorem d_M_burn_24 : decode b_M_burn 24 = .ok (.ifCond .ge 7, 3) := by decide +kernel
theorem d_M_burn_27 : decode b_M_burn 27 = .ok (.iconst 2, 1) := by decide +kernel
theorem d_M_burn_28 : decode b_M_burn 28 = .ok (.goto 4, 3) := by decide +kernel
theorem d_M_burn_31 : decode b_M_burn 31 = .ok (.iconst 0, 1) := by decide +kernel
theorem d_M_burn_32 : decode b_M_burn 32 = .ok (.putfield 84, 3) := by decide +kernel
theorem d_M_burn_35 : decode b_M_burn 35 = .ok (.aload_n 0, 1) := by decide +kernel
theorem d_M_burn_36 : decode b_M_burn 36 = .ok (.getfield 84, 3) := by decide +kernel
theorem d_M_burn_39 : decode b_M_burn 39 = .ok (.ifCond .le 5, 3) := by decide +kernel
theorem d_M_burn_42 : decode b_M_burn 42 = .ok (.iconst 0, 1) := by decide +kernel
theorem d_M_burn_43 : decode b_M_burn 43 = .ok (.ireturn, 1) := by decide +kernel
theorem d_M_burn_44 : decode b_M_burn 44 = .ok (.aload_n 0, 1) := by decide +kernel
theorem d_M_burn_45 : decode b_M_burn 45 = .ok (.iload_n 1, 1) := by decide +kernel
theorem d_M_burn_46 : decode b_M_burn 46 = .ok (.iload_n 2, 1) := by decide +kernel
theorem d_M_burn_47 : decode b_M_burn 47 = .ok (.iload_n 3, 1) := by decide +kernel
theorem d_M_burn_48 : decode b_M_burn 48 = .ok (.iload 4, 2) := by decide +kernel
theorem d_M_burn_50 : decode b_M_burn 50 = .ok (.invokevirtual 131, 3) := by decide +kernel
theorem d_M_burn_53 : decode b_M_burn 53 = .ok (.istore 6, 2) := by decide +kernel
theorem d_M_burn_55 : decode b_M_burn 55 = .ok (.aload_n 0, 1) := by decide +kernel
theorem d_M_burn_56 : decode b_M_burn 56 = .ok (.iload 6, 2) := by decide +kernel
theorem d_M_burn_58 : decode b_M_burn 58 = .ok (.ifCond .ge 7, 3) := by decide +kernel
theorem d_M_burn_61 : decode b_M_burn 61 = .ok (.iconst 3, 1) := by decide +kernel
theorem d_M_burn_62 : decode b_M_burn 62 = .ok (.goto 22, 3) := by decide +kernel
theorem d_M_burn_65 : decode b_M_burn 65 = .ok (.iload 5, 2) := by decide +kernel
theorem d_M_burn_67 : decode b_M_burn 67 = .ok (.i2l, 1) := by decide +kernel
theorem d_M_burn_68 : decode b_M_burn 68 = .ok (.aload_n 0, 1) := by decide +kernel
theorem d_M_burn_69 : decode b_M_burn 69 = .ok (.getfield 51, 3) := by decide +kernel
theorem d_M_burn_72 : decode b_M_burn 72 = .ok (.iload 6, 2) := by decide +kernel
theorem d_M_burn_74 : decode b_M_burn 74 = .ok (.laload, 1) := by decide +kernel
theorem d_M_burn_75 : decode b_M_burn 75 = .ok (.lcmp, 1) := by decide +kernel
theorem d_M_burn_76 : decode b_M_burn 76 = .ok (.ifCond .le 7, 3) := by decide +kernel
theorem d_M_burn_79 : decode b_M_burn 79 = .ok (.iconst 4, 1) := by decide +kernel
theorem d_M_burn_80 : decode b_M_burn 80 = .ok (.goto 4, 3) := by decide +kernel
theorem d_M_burn_83 : decode b_M_burn 83 = .ok (.iconst 0, 1) := by decide +kernel
theorem d_M_burn_84 : decode b_M_burn 84 = .ok (.putfield 84, 3) := by decide +kernel
theorem d_M_burn_87 : decode b_M_burn 87 = .ok (.aload_n 0, 1) := by decide +kernel
theorem d_M_burn_88 : decode b_M_burn 88 = .ok (.getfield 84, 3) := by decide +kernel
theorem d_M_burn_91 : decode b_M_burn 91 = .ok (.ifCond .le 5, 3) := by decide +kernel
theorem d_M_burn_94 : decode b_M_burn 94 = .ok (.iconst 0, 1) := by decide +kernel
theorem d_M_burn_95 : decode b_M_burn 95 = .ok (.ireturn, 1) := by decide +kernel
theorem d_M_burn_96 : decode b_M_burn 96 = .ok (.aload_n 0, 1) := by decide +kernel
theorem d_M_burn_97 : decode b_M_burn 97 = .ok (.iload 6, 2) := by decide +kernel
theorem d_M_burn_99 : decode b_M_burn 99 = .ok (.invokevirtual 149, 3) := by decide +kernel
theorem d_M_burn_102 : decode b_M_burn 102 = .ok (.aload_n 0, 1) := by decide +kernel
theorem d_M_burn_103 : decode b_M_burn 103 = .ok (.getfield 51, 3) := by decide +kernel
theorem d_M_burn_106 : decode b_M_burn 106 = .ok (.iload 6, 2) := by decide +kernel
theorem d_M_burn_108 : decode b_M_burn 108 = .ok (.dup2, 1) := by decide +kernel
theorem d_M_burn_109 : decode b_M_burn 109 = .ok (.laload, 1) := by decide +kernel
theorem d_M_burn_110 : decode b_M_burn 110 = .ok (.iload 5, 2) := by decide +kernel
theorem d_M_burn_112 : decode b_M_burn 112 = .ok (.i2l, 1) := by decide +kernel
theorem d_M_burn_113 : decode b_M_burn 113 = .ok (.lsub, 1) := by decide +kernel
theorem d_M_burn_114 : decode b_M_burn 114 = .ok (.lastore, 1) := by decide +kernel
theorem d_M_burn_115 : decode b_M_burn 115 = .ok (.aload_n 0, 1) := by decide +kernel
theorem d_M_burn_116 : decode b_M_burn 116 = .ok (.getfield 57, 3) := by decide +kernel
theorem d_M_burn_119 : decode b_M_burn 119 = .ok (.iconst 2, 1) := by decide +kernel
theorem d_M_burn_120 : decode b_M_burn 120 = .ok (.iload 6, 2) := by decide +kernel
theorem d_M_burn_122 : decode b_M_burn 122 = .ok (.imul, 1) := by decide +kernel
theorem d_M_burn_123 : decode b_M_burn 123 = .ok (.dup2, 1) := by decide +kernel
theorem d_M_burn_124 : decode b_M_burn 124 = .ok (.laload, 1) := by decide +kernel
theorem d_M_burn_125 : decode b_M_burn 125 = .ok (.aload_n 0, 1) := by decide +kernel
theorem d_M_burn_126 : decode b_M_burn 126 = .ok (.iload_n 2, 1) := by decide +kernel
theorem d_M_burn_127 : decode b_M_burn 127 = .ok (.iload_n 3, 1) := by decide +kernel
theorem d_M_burn_128 : decode b_M_burn 128 = .ok (.iload 4, 2) := by decide +kernel
theorem d_M_burn_130 : decode b_M_burn 130 = .ok (.iload 5, 2) := by decide +kernel
theorem d_M_burn_132 : decode b_M_burn 132 = .ok (.i2l, 1) := by decide +kernel
theorem d_M_burn_133 : decode b_M_burn 133 = .ok (.iconst 0, 1) := by decide +kernel
theorem d_M_burn_134 : decode b_M_burn 134 = .ok (.invokevirtual 138, 3) := by decide +kernel
theorem d_M_burn_137 : decode b_M_burn 137 = .ok (.ladd, 1) := by decide +kernel
theorem d_M_burn_138 : decode b_M_burn 138 = .ok (.lastore, 1) := by decide +kernel
theorem d_M_burn_139 : decode b_M_burn 139 = .ok (.aload_n 0, 1) := by decide +kernel
theorem d_M_burn_140 : decode b_M_burn 140 = .ok (.getfield 57, 3) := by decide +kernel
theorem d_M_burn_143 : decode b_M_burn 143 = .ok (.iconst 2, 1) := by decide +kernel
theorem d_M_burn_144 : decode b_M_burn 144 = .ok (.iload 6, 2) := by decide +kernel
theorem d_M_burn_146 : decode b_M_burn 146 = .ok (.imul, 1) := by decide +kernel
theorem d_M_burn_147 : decode b_M_burn 147 = .ok (.iconst 1, 1) := by decide +kernel
theorem d_M_burn_148 : decode b_M_burn 148 = .ok (.iadd, 1) := by decide +kernel
theorem d_M_burn_149 : decode b_M_burn 149 = .ok (.dup2, 1) := by decide +kernel
theorem d_M_burn_150 : decode b_M_burn 150 = .ok (.laload, 1) := by decide +kernel
theorem d_M_burn_151 : decode b_M_burn 151 = .ok (.aload_n 0, 1) := by decide +kernel
theorem d_M_burn_152 : decode b_M_burn 152 = .ok (.iload_n 2, 1) := by decide +kernel
theorem d_M_burn_153 : decode b_M_burn 153 = .ok (.iload_n 3, 1) := by decide +kernel
theorem d_M_burn_154 : decode b_M_burn 154 = .ok (.iload 4, 2) := by decide +kernel
theorem d_M_burn_156 : decode b_M_burn 156 = .ok (.iload 5, 2) := by decide +kernel
theorem d_M_burn_158 : decode b_M_burn 158 = .ok (.i2l, 1) := by decide +kernel
theorem d_M_burn_159 : decode b_M_burn 159 = .ok (.iconst 0, 1) := by decide +kernel
theorem d_M_burn_160 : decode b_M_burn 160 = .ok (.invokevirtual 142, 3) := by decide +kernel
theorem d_M_burn_163 : decode b_M_burn 163 = .ok (.ladd, 1) := by decide +kernel
theorem d_M_burn_164 : decode b_M_burn 164 = .ok (.lastore, 1) := by decide +kernel
theorem d_M_burn_165 : decode b_M_burn 165 = .ok (.aload_n 0, 1) := by decide +kernel
theorem d_M_burn_166 : decode b_M_burn 166 = .ok (.iload 6, 2) := by decide +kernel
theorem d_M_burn_168 : decode b_M_burn 168 = .ok (.invokevirtual 157, 3) := by decide +kernel
theorem d_M_burn_171 : decode b_M_burn 171 = .ok (.aload_n 0, 1) := by decide +kernel
theorem d_M_burn_172 : decode b_M_burn 172 = .ok (.getfield 51, 3) := by decide +kernel
theorem d_M_burn_175 : decode b_M_burn 175 = .ok (.iload 6, 2) := by decide +kernel
theorem d_M_burn_177 : decode b_M_burn 177 = .ok (.laload, 1) := by decide +kernel
theorem d_M_burn_178 : decode b_M_burn 178 = .ok (.l2i, 1) := by decide +kernel
theorem d_M_burn_179 : decode b_M_burn 179 = .ok (.ireturn, 1) := by decide +kernel
abbrev b_M_collect : ByteArray := prog_9_method_25_code
def y_M_collect : MethodName := ⟨"RangeExchangeModel", "collect", "(IIII)J"⟩
theorem d_M_collect_0 : decode b_M_collect 0 = .ok (.aload_n 0, 1) := by decide +kernel
theorem d_M_collect_1 : decode b_M_collect 1 = .ok (.iload_n 1, 1) := by decide +kernel
theorem d_M_collect_2 : decode b_M_collect 2 = .ok (.iload_n 2, 1) := by decide +kernel
theorem d_M_collect_3 : decode b_M_collect 3 = .ok (.iload_n 3, 1) := by decide +kernel
theorem d_M_collect_4 : decode b_M_collect 4 = .ok (.iload 4, 2) := by decide +kernel
theorem d_M_collect_6 : decode b_M_collect 6 = .ok (.invokevirtual 131, 3) := by decide +kernel
theorem d_M_collect_9 : decode b_M_collect 9 = .ok (.istore 5, 2) := by decide +kernel
theorem d_M_collect_11 : decode b_M_collect 11 = .ok (.aload_n 0, 1) := by decide +kernel
theorem d_M_collect_12 : decode b_M_collect 12 = .ok (.iload_n 1, 1) := by decide +kernel
theorem d_M_collect_13 : decode b_M_collect 13 = .ok (.iload_n 2, 1) := by decide +kernel
theorem d_M_collect_14 : decode b_M_collect 14 = .ok (.iload_n 3, 1) := by decide +kernel
theorem d_M_collect_15 : decode b_M_collect 15 = .ok (.iload 4, 2) := by decide +kernel
theorem d_M_collect_17 : decode b_M_collect 17 = .ok (.invokestatic 127, 3) := by decide +kernel
theorem d_M_collect_20 : decode b_M_collect 20 = .ok (.ifCond .ne 7, 3) := by decide +kernel
theorem d_M_collect_23 : decode b_M_collect 23 = .ok (.iconst 1, 1) := by decide +kernel
theorem d_M_collect_24 : decode b_M_collect 24 = .ok (.goto 13, 3) := by decide +kernel
theorem d_M_collect_27 : decode b_M_collect 27 = .ok (.iload 5, 2) := by decide +kernel
theorem d_M_collect_29 : decode b_M_collect 29 = .ok (.ifCond .ge 7, 3) := by decide +kernel
theorem d_M_collect_32 : decode b_M_collect 32 = .ok (.iconst 2, 1) := by decide +kernel
theorem d_M_collect_33 : decode b_M_collect 33 = .ok (.goto 4, 3) := by decide +kernel
theorem d_M_collect_36 : decode b_M_collect 36 = .ok (.iconst 0, 1) := by decide +kernel
theorem d_M_collect_37 : decode b_M_collect 37 = .ok (.putfield 84, 3) := by decide +kernel
theorem d_M_collect_40 : decode b_M_collect 40 = .ok (.aload_n 0, 1) := by decide +kernel
theorem d_M_collect_41 : decode b_M_collect 41 = .ok (.getfield 84, 3) := by decide +kernel
theorem d_M_collect_44 : decode b_M_collect 44 = .ok (.ifCond .le 5, 3) := by decide +kernel
theorem d_M_collect_47 : decode b_M_collect 47 = .ok (.lconst 0, 1) := by decide +kernel
theorem d_M_collect_48 : decode b_M_collect 48 = .ok (.lreturn, 1) := by decide +kernel
theorem d_M_collect_49 : decode b_M_collect 49 = .ok (.aload_n 0, 1) := by decide +kernel
theorem d_M_collect_50 : decode b_M_collect 50 = .ok (.getfield 57, 3) := by decide +kernel
theorem d_M_collect_53 : decode b_M_collect 53 = .ok (.iconst 2, 1) := by decide +kernel
theorem d_M_collect_54 : decode b_M_collect 54 = .ok (.iload 5, 2) := by decide +kernel
theorem d_M_collect_56 : decode b_M_collect 56 = .ok (.imul, 1) := by decide +kernel
theorem d_M_collect_57 : decode b_M_collect 57 = .ok (.laload, 1) := by decide +kernel
theorem d_M_collect_58 : decode b_M_collect 58 = .ok (.lstore 6, 2) := by decide +kernel
theorem d_M_collect_60 : decode b_M_collect 60 = .ok (.aload_n 0, 1) := by decide +kernel
theorem d_M_collect_61 : decode b_M_collect 61 = .ok (.getfield 57, 3) := by decide +kernel
theorem d_M_collect_64 : decode b_M_collect 64 = .ok (.iconst 2, 1) := by decide +kernel
theorem d_M_collect_65 : decode b_M_collect 65 = .ok (.iload 5, 2) := by decide +kernel
theorem d_M_collect_67 : decode b_M_collect 67 = .ok (.imul, 1) := by decide +kernel
theorem d_M_collect_68 : decode b_M_collect 68 = .ok (.iconst 1, 1) := by decide +kernel
theorem d_M_collect_69 : decode b_M_collect 69 = .ok (.iadd, 1) := by decide +kernel
theorem d_M_collect_70 : decode b_M_collect 70 = .ok (.laload, 1) := by decide +kernel
theorem d_M_collect_71 : decode b_M_collect 71 = .ok (.lstore 8, 2) := by decide +kernel
theorem d_M_collect_73 : decode b_M_collect 73 = .ok (.aload_n 0, 1) := by decide +kernel
theorem d_M_collect_74 : decode b_M_collect 74 = .ok (.getfield 57, 3) := by decide +kernel
theorem d_M_collect_77 : decode b_M_collect 77 = .ok (.iconst 2, 1) := by decide +kernel
theorem d_M_collect_78 : decode b_M_collect 78 = .ok (.iload 5, 2) := by decide +kernel
theorem d_M_collect_80 : decode b_M_collect 80 = .ok (.imul, 1) := by decide +kernel
theorem d_M_collect_81 : decode b_M_collect 81 = .ok (.lconst 0, 1) := by decide +kernel
theorem d_M_collect_82 : decode b_M_collect 82 = .ok (.lastore, 1) := by decide +kernel
theorem d_M_collect_83 : decode b_M_collect 83 = .ok (.aload_n 0, 1) := by decide +kernel
theorem d_M_collect_84 : decode b_M_collect 84 = .ok (.getfield 57, 3) := by decide +kernel
theorem d_M_collect_87 : decode b_M_collect 87 = .ok (.iconst 2, 1) := by decide +kernel
theorem d_M_collect_88 : decode b_M_collect 88 = .ok (.iload 5, 2) := by decide +kernel
theorem d_M_collect_90 : decode b_M_collect 90 = .ok (.imul, 1) := by decide +kernel
theorem d_M_collect_91 : decode b_M_collect 91 = .ok (.iconst 1, 1) := by decide +kernel
theorem d_M_collect_92 : decode b_M_collect 92 = .ok (.iadd, 1) := by decide +kernel
theorem d_M_collect_93 : decode b_M_collect 93 = .ok (.lconst 0, 1) := by decide +kernel
theorem d_M_collect_94 : decode b_M_collect 94 = .ok (.lastore, 1) := by decide +kernel
theorem d_M_collect_95 : decode b_M_collect 95 = .ok (.aload_n 0, 1) := by decide +kernel
theorem d_M_collect_96 : decode b_M_collect 96 = .ok (.iload_n 1, 1) := by decide +kernel
theorem d_M_collect_97 : decode b_M_collect 97 = .ok (.iload_n 2, 1) := by decide +kernel
theorem d_M_collect_98 : decode b_M_collect 98 = .ok (.lload 6, 2) := by decide +kernel
theorem d_M_collect_100 : decode b_M_collect 100 = .ok (.lneg, 1) := by decide +kernel
theorem d_M_collect_101 : decode b_M_collect 101 = .ok (.invokevirtual 153, 3) := by decide +kernel
theorem d_M_collect_104 : decode b_M_collect 104 = .ok (.aload_n 0, 1) := by decide +kernel
theorem d_M_collect_105 : decode b_M_collect 105 = .ok (.iload_n 1, 1) := by decide +kernel
theorem d_M_collect_106 : decode b_M_collect 106 = .ok (.iload_n 2, 1) := by decide +kernel
theorem d_M_collect_107 : decode b_M_collect 107 = .ok (.iconst 1, 1) := by decide +kernel
theorem d_M_collect_108 : decode b_M_collect 108 = .ok (.iadd, 1) := by decide +kernel
theorem d_M_collect_109 : decode b_M_collect 109 = .ok (.lload 8, 2) := by decide +kernel
theorem d_M_collect_111 : decode b_M_collect 111 = .ok (.lneg, 1) := by decide +kernel
theorem d_M_collect_112 : decode b_M_collect 112 = .ok (.invokevirtual 153, 3) := by decide +kernel
theorem d_M_collect_115 : decode b_M_collect 115 = .ok (.aload_n 0, 1) := by decide +kernel
theorem d_M_collect_116 : decode b_M_collect 116 = .ok (.iload 5, 2) := by decide +kernel
theorem d_M_collect_118 : decode b_M_collect 118 = .ok (.invokevirtual 157, 3) := by decide +kernel
theorem d_M_collect_121 : decode b_M_collect 121 = .ok (.lload 6, 2) := by decide +kernel
theorem d_M_collect_123 : decode b_M_collect 123 = .ok (.lload 8, 2) := by decide +kernel
theorem d_M_collect_125 : decode b_M_collect 125 = .ok (.ladd, 1) := by decide +kernel
theorem d_M_collect_126 : decode b_M_collect 126 = .ok (.lreturn, 1) := by decide +kernel
abbrev b_M_inRange : ByteArray := prog_9_method_26_code
def y_M_inRange : MethodName := ⟨"RangeExchangeModel", "inRange", "(III)Z"⟩
theorem d_M_inRange_0 : decode b_M_inRange 0 = .ok (.aload_n 0, 1) := by decide +kernel
theorem d_M_inRange_1 : decode b_M_inRange 1 = .ok (.getfield 35, 3) := by decide +kernel
theorem d_M_inRange_4 : decode b_M_inRange 4 = .ok (.iload_n 1, 1) := by decide +kernel
theorem d_M_inRange_5 : decode b_M_inRange 5 = .ok (.baload, 1) := by decide +kernel
theorem d_M_inRange_6 : decode b_M_inRange 6 = .ok (.ifCond .eq 37, 3) := by decide +kernel
theorem d_M_inRange_9 : decode b_M_inRange 9 = .ok (.aload_n 0, 1) := by decide +kernel
theorem d_M_inRange_10 : decode b_M_inRange 10 = .ok (.getfield 42, 3) := by decide +kernel
theorem d_M_inRange_13 : decode b_M_inRange 13 = .ok (.iload_n 1, 1) := by decide +kernel
theorem d_M_inRange_14 : decode b_M_inRange 14 = .ok (.iaload, 1) := by decide +kernel
theorem d_M_inRange_15 : decode b_M_inRange 15 = .ok (.iload_n 2, 1) := by decide +kernel
theorem d_M_inRange_16 : decode b_M_inRange 16 = .ok (.if_icmp .ne 27, 3) := by decide +kernel
theorem d_M_inRange_19 : decode b_M_inRange 19 = .ok (.aload_n 0, 1) := by decide +kernel
theorem d_M_inRange_20 : decode b_M_inRange 20 = .ok (.getfield 45, 3) := by decide +kernel
theorem d_M_inRange_23 : decode b_M_inRange 23 = .ok (.iload_n 1, 1) := by decide +kernel
theorem d_M_inRange_24 : decode b_M_inRange 24 = .ok (.iaload, 1) := by decide +kernel
theorem d_M_inRange_25 : decode b_M_inRange 25 = .ok (.iload_n 3, 1) := by decide +kernel
theorem d_M_inRange_26 : decode b_M_inRange 26 = .ok (.if_icmp .gt 17, 3) := by decide +kernel
theorem d_M_inRange_29 : decode b_M_inRange 29 = .ok (.iload_n 3, 1) := by decide +kernel
theorem d_M_inRange_30 : decode b_M_inRange 30 = .ok (.aload_n 0, 1) := by decide +kernel
theorem d_M_inRange_31 : decode b_M_inRange 31 = .ok (.getfield 48, 3) := by decide +kernel
theorem d_M_inRange_34 : decode b_M_inRange 34 = .ok (.iload_n 1, 1) := by decide +kernel
theorem d_M_inRange_35 : decode b_M_inRange 35 = .ok (.iaload, 1) := by decide +kernel
theorem d_M_inRange_36 : decode b_M_inRange 36 = .ok (.if_icmp .ge 7, 3) := by decide +kernel
theorem d_M_inRange_39 : decode b_M_inRange 39 = .ok (.iconst 1, 1) := by decide +kernel
theorem d_M_inRange_40 : decode b_M_inRange 40 = .ok (.goto 4, 3) := by decide +kernel
theorem d_M_inRange_43 : decode b_M_inRange 43 = .ok (.iconst 0, 1) := by decide +kernel
theorem d_M_inRange_44 : decode b_M_inRange 44 = .ok (.ireturn, 1) := by decide +kernel
abbrev b_M_depth : ByteArray := prog_9_method_27_code
def y_M_depth : MethodName := ⟨"RangeExchangeModel", "depth", "(II)J"⟩
theorem d_M_depth_0 : decode b_M_depth 0 = .ok (.lconst 0, 1) := by decide +kernel
theorem d_M_depth_1 : decode b_M_depth 1 = .ok (.lstore_n 3, 1) := by decide +kernel
theorem d_M_depth_2 : decode b_M_depth 2 = .ok (.iconst 0, 1) := by decide +kernel
theorem d_M_depth_3 : decode b_M_depth 3 = .ok (.istore 5, 2) := by decide +kernel
theorem d_M_depth_5 : decode b_M_depth 5 = .ok (.iload 5, 2) := by decide +kernel
theorem d_M_depth_7 : decode b_M_depth 7 = .ok (.bipush 12, 2) := by decide +kernel
theorem d_M_depth_9 : decode b_M_depth 9 = .ok (.if_icmp .ge 34, 3) := by decide +kernel
theorem d_M_depth_12 : decode b_M_depth 12 = .ok (.aload_n 0, 1) := by decide +kernel
theorem d_M_depth_13 : decode b_M_depth 13 = .ok (.iload 5, 2) := by decide +kernel
theorem d_M_depth_15 : decode b_M_depth 15 = .ok (.iload_n 1, 1) := by decide +kernel
theorem d_M_depth_16 : decode b_M_depth 16 = .ok (.iload_n 2, 1) := by decide +kernel
theorem d_M_depth_17 : decode b_M_depth 17 = .ok (.invokevirtual 160, 3) := by decide +kernel
theorem d_M_depth_20 : decode b_M_depth 20 = .ok (.ifCond .eq 15, 3) := by decide +kernel
theorem d_M_depth_23 : decode b_M_depth 23 = .ok (.lload_n 3, 1) := by decide +kernel
theorem d_M_depth_24 : decode b_M_depth 24 = .ok (.aload_n 0, 1) := by decide +kernel
theorem d_M_depth_25 : decode b_M_depth 25 = .ok (.getfield 51, 3) := by decide +kernel
theorem d_M_depth_28 : decode b_M_depth 28 = .ok (.iload 5, 2) := by decide +kernel
theorem d_M_depth_30 : decode b_M_depth 30 = .ok (.laload, 1) := by decide +kernel
theorem d_M_depth_31 : decode b_M_depth 31 = .ok (.ladd, 1) := by decide +kernel
theorem d_M_depth_32 : decode b_M_depth 32 = .ok (.goto 4, 3) := by decide +kernel
theorem d_M_depth_35 : decode b_M_depth 35 = .ok (.lload_n 3, 1) := by decide +kernel
theorem d_M_depth_36 : decode b_M_depth 36 = .ok (.lstore_n 3, 1) := by decide +kernel
theorem d_M_depth_37 : decode b_M_depth 37 = .ok (.iinc 5 1, 3) := by decide +kernel
theorem d_M_depth_40 : decode b_M_depth 40 = .ok (.goto (-35), 3) := by decide +kernel
theorem d_M_depth_43 : decode b_M_depth 43 = .ok (.lload_n 3, 1) := by decide +kernel
theorem d_M_depth_44 : decode b_M_depth 44 = .ok (.lreturn, 1) := by decide +kernel
abbrev b_M_isSet : ByteArray := prog_9_method_28_code
def y_M_isSet : MethodName := ⟨"RangeExchangeModel", "isSet", "(II)Z"⟩
theorem d_M_isSet_0 : decode b_M_isSet 0 = .ok (.iconst 0, 1) := by decide +kernel
theorem d_M_isSet_1 : decode b_M_isSet 1 = .ok (.istore_n 3, 1) := by decide +kernel
theorem d_M_isSet_2 : decode b_M_isSet 2 = .ok (.iconst 0, 1) := by decide +kernel
theorem d_M_isSet_3 : decode b_M_isSet 3 = .ok (.istore 4, 2) := by decide +kernel
theorem d_M_isSet_5 : decode b_M_isSet 5 = .ok (.iload 4, 2) := by decide +kernel
theorem d_M_isSet_7 : decode b_M_isSet 7 = .ok (.bipush 12, 2) := by decide +kernel
theorem d_M_isSet_9 : decode b_M_isSet 9 = .ok (.if_icmp .ge 74, 3) := by decide +kernel
theorem d_M_isSet_12 : decode b_M_isSet 12 = .ok (.iload_n 3, 1) := by decide +kernel
theorem d_M_isSet_13 : decode b_M_isSet 13 = .ok (.ifCond .ne 58, 3) := by decide +kernel
theorem d_M_isSet_16 : decode b_M_isSet 16 = .ok (.aload_n 0, 1) := by decide +kernel
theorem d_M_isSet_17 : decode b_M_isSet 17 = .ok (.getfield 35, 3) := by decide +kernel
theorem d_M_isSet_20 : decode b_M_isSet 20 = .ok (.iload 4, 2) := by decide +kernel
theorem d_M_isSet_22 : decode b_M_isSet 22 = .ok (.baload, 1) := by decide +kernel
theorem d_M_isSet_23 : decode b_M_isSet 23 = .ok (.ifCond .eq 52, 3) := by decide +kernel
theorem d_M_isSet_26 : decode b_M_isSet 26 = .ok (.aload_n 0, 1) := by decide +kernel
theorem d_M_isSet_27 : decode b_M_isSet 27 = .ok (.getfield 42, 3) := by decide +kernel
theorem d_M_isSet_30 : decode b_M_isSet 30 = .ok (.iload 4, 2) := by decide +kernel
theorem d_M_isSet_32 : decode b_M_isSet 32 = .ok (.iaload, 1) := by decide +kernel
theorem d_M_isSet_33 : decode b_M_isSet 33 = .ok (.iload_n 1, 1) := by decide +kernel
theorem d_M_isSet_34 : decode b_M_isSet 34 = .ok (.if_icmp .ne 41, 3) := by decide +kernel
theorem d_M_isSet_37 : decode b_M_isSet 37 = .ok (.aload_n 0, 1) := by decide +kernel
theorem d_M_isSet_38 : decode b_M_isSet 38 = .ok (.getfield 51, 3) := by decide +kernel
theorem d_M_isSet_41 : decode b_M_isSet 41 = .ok (.iload 4, 2) := by decide +kernel
theorem d_M_isSet_43 : decode b_M_isSet 43 = .ok (.laload, 1) := by decide +kernel
theorem d_M_isSet_44 : decode b_M_isSet 44 = .ok (.lconst 0, 1) := by decide +kernel
theorem d_M_isSet_45 : decode b_M_isSet 45 = .ok (.lcmp, 1) := by decide +kernel
theorem d_M_isSet_46 : decode b_M_isSet 46 = .ok (.ifCond .le 29, 3) := by decide +kernel
theorem d_M_isSet_49 : decode b_M_isSet 49 = .ok (.aload_n 0, 1) := by decide +kernel
theorem d_M_isSet_50 : decode b_M_isSet 50 = .ok (.getfield 45, 3) := by decide +kernel
theorem d_M_isSet_53 : decode b_M_isSet 53 = .ok (.iload 4, 2) := by decide +kernel
theorem d_M_isSet_55 : decode b_M_isSet 55 = .ok (.iaload, 1) := by decide +kernel
theorem d_M_isSet_56 : decode b_M_isSet 56 = .ok (.iload_n 2, 1) := by decide +kernel
theorem d_M_isSet_57 : decode b_M_isSet 57 = .ok (.if_icmp .eq 14, 3) := by decide +kernel
theorem d_M_isSet_60 : decode b_M_isSet 60 = .ok (.aload_n 0, 1) := by decide +kernel
theorem d_M_isSet_61 : decode b_M_isSet 61 = .ok (.getfield 48, 3) := by decide +kernel
theorem d_M_isSet_64 : decode b_M_isSet 64 = .ok (.iload 4, 2) := by decide +kernel
theorem d_M_isSet_66 : decode b_M_isSet 66 = .ok (.iaload, 1) := by decide +kernel
theorem d_M_isSet_67 : decode b_M_isSet 67 = .ok (.iload_n 2, 1) := by decide +kernel
theorem d_M_isSet_68 : decode b_M_isSet 68 = .ok (.if_icmp .ne 7, 3) := by decide +kernel
theorem d_M_isSet_71 : decode b_M_isSet 71 = .ok (.iconst 1, 1) := by decide +kernel
theorem d_M_isSet_72 : decode b_M_isSet 72 = .ok (.goto 4, 3) := by decide +kernel
theorem d_M_isSet_75 : decode b_M_isSet 75 = .ok (.iconst 0, 1) := by decide +kernel
theorem d_M_isSet_76 : decode b_M_isSet 76 = .ok (.istore_n 3, 1) := by decide +kernel
theorem d_M_isSet_77 : decode b_M_isSet 77 = .ok (.iinc 4 1, 3) := by decide +kernel
theorem d_M_isSet_80 : decode b_M_isSet 80 = .ok (.goto (-75), 3) := by decide +kernel
theorem d_M_isSet_83 : decode b_M_isSet 83 = .ok (.iload_n 3, 1) := by decide +kernel
theorem d_M_isSet_84 : decode b_M_isSet 84 = .ok (.ireturn, 1) := by decide +kernel
abbrev b_M_nextTick : ByteArray := prog_9_method_29_code
def y_M_nextTick : MethodName := ⟨"RangeExchangeModel", "nextTick", "(IZ)I"⟩
theorem d_M_nextTick_0 : decode b_M_nextTick 0 = .ok (.iload_n 2, 1) := by decide +kernel
theorem d_M_nextTick_1 : decode b_M_nextTick 1 = .ok (.ifCond .eq 12, 3) := by decide +kernel
theorem d_M_nextTick_4 : decode b_M_nextTick 4 = .ok (.aload_n 0, 1) := by decide +kernel
theorem d_M_nextTick_5 : decode b_M_nextTick 5 = .ok (.getfield 63, 3) := by decide +kernel
theorem d_M_nextTick_8 : decode b_M_nextTick 8 = .ok (.iload_n 1, 1) := by decide +kernel
theorem d_M_nextTick_9 : decode b_M_nextTick 9 = .ok (.iaload, 1) := by decide +kernel
theorem d_M_nextTick_10 : decode b_M_nextTick 10 = .ok (.goto 11, 3) := by decide +kernel
theorem d_M_nextTick_13 : decode b_M_nextTick 13 = .ok (.aload_n 0, 1) := by decide +kernel
theorem d_M_nextTick_14 : decode b_M_nextTick 14 = .ok (.getfield 63, 3) := by decide +kernel
theorem d_M_nextTick_17 : decode b_M_nextTick 17 = .ok (.iload_n 1, 1) := by decide +kernel
theorem d_M_nextTick_18 : decode b_M_nextTick 18 = .ok (.iaload, 1) := by decide +kernel
theorem d_M_nextTick_19 : decode b_M_nextTick 19 = .ok (.iconst 1, 1) := by decide +kernel
theorem d_M_nextTick_20 : decode b_M_nextTick 20 = .ok (.iadd, 1) := by decide +kernel
theorem d_M_nextTick_21 : decode b_M_nextTick 21 = .ok (.istore_n 3, 1) := by decide +kernel
theorem d_M_nextTick_22 : decode b_M_nextTick 22 = .ok (.iload_n 2, 1) := by decide +kernel
theorem d_M_nextTick_23 : decode b_M_nextTick 23 = .ok (.ifCond .eq 8, 3) := by decide +kernel
theorem d_M_nextTick_26 : decode b_M_nextTick 26 = .ok (.bipush (-40), 2) := by decide +kernel
theorem d_M_nextTick_28 : decode b_M_nextTick 28 = .ok (.goto 5, 3) := by decide +kernel
theorem d_M_nextTick_31 : decode b_M_nextTick 31 = .ok (.bipush 40, 2) := by decide +kernel
theorem d_M_nextTick_33 : decode b_M_nextTick 33 = .ok (.istore 4, 2) := by decide +kernel
theorem d_M_nextTick_35 : decode b_M_nextTick 35 = .ok (.iload_n 3, 1) := by decide +kernel
theorem d_M_nextTick_36 : decode b_M_nextTick 36 = .ok (.iload 4, 2) := by decide +kernel
theorem d_M_nextTick_38 : decode b_M_nextTick 38 = .ok (.if_icmp .eq 41, 3) := by decide +kernel
theorem d_M_nextTick_41 : decode b_M_nextTick 41 = .ok (.iload_n 3, 1) := by decide +kernel
theorem d_M_nextTick_42 : decode b_M_nextTick 42 = .ok (.bipush (-41), 2) := by decide +kernel
theorem d_M_nextTick_44 : decode b_M_nextTick 44 = .ok (.if_icmp .le 35, 3) := by decide +kernel
theorem d_M_nextTick_47 : decode b_M_nextTick 47 = .ok (.iload_n 3, 1) := by decide +kernel
theorem d_M_nextTick_48 : decode b_M_nextTick 48 = .ok (.bipush 41, 2) := by decide +kernel
theorem d_M_nextTick_50 : decode b_M_nextTick 50 = .ok (.if_icmp .ge 29, 3) := by decide +kernel
theorem d_M_nextTick_53 : decode b_M_nextTick 53 = .ok (.aload_n 0, 1) := by decide +kernel
theorem d_M_nextTick_54 : decode b_M_nextTick 54 = .ok (.iload_n 1, 1) := by decide +kernel
theorem d_M_nextTick_55 : decode b_M_nextTick 55 = .ok (.iload_n 3, 1) := by decide +kernel
theorem d_M_nextTick_56 : decode b_M_nextTick 56 = .ok (.invokevirtual 164, 3) := by decide +kernel
theorem d_M_nextTick_59 : decode b_M_nextTick 59 = .ok (.ifCond .ne 20, 3) := by decide +kernel
theorem d_M_nextTick_62 : decode b_M_nextTick 62 = .ok (.iload_n 2, 1) := by decide +kernel
theorem d_M_nextTick_63 : decode b_M_nextTick 63 = .ok (.ifCond .eq 9, 3) := by decide +kernel
theorem d_M_nextTick_66 : decode b_M_nextTick 66 = .ok (.iload_n 3, 1) := by decide +kernel
theorem d_M_nextTick_67 : decode b_M_nextTick 67 = .ok (.iconst 1, 1) := by decide +kernel
theorem d_M_nextTick_68 : decode b_M_nextTick 68 = .ok (.isub, 1) := by decide +kernel
theorem d_M_nextTick_69 : decode b_M_nextTick 69 = .ok (.goto 6, 3) := by decide +kernel
theorem d_M_nextTick_72 : decode b_M_nextTick 72 = .ok (.iload_n 3, 1) := by decide +kernel
theorem d_M_nextTick_73 : decode b_M_nextTick 73 = .ok (.iconst 1, 1) := by decide +kernel
theorem d_M_nextTick_74 : decode b_M_nextTick 74 = .ok (.iadd, 1) := by decide +kernel
theorem d_M_nextTick_75 : decode b_M_nextTick 75 = .ok (.istore_n 3, 1) := by decide +kernel
theorem d_M_nextTick_76 : decode b_M_nextTick 76 = .ok (.goto (-41), 3) := by decide +kernel
theorem d_M_nextTick_79 : decode b_M_nextTick 79 = .ok (.iload_n 3, 1) := by decide +kernel
theorem d_M_nextTick_80 : decode b_M_nextTick 80 = .ok (.bipush (-40), 2) := by decide +kernel
theorem d_M_nextTick_82 : decode b_M_nextTick 82 = .ok (.if_icmp .ge 8, 3) := by decide +kernel
theorem d_M_nextTick_85 : decode b_M_nextTick 85 = .ok (.bipush (-40), 2) := by decide +kernel
theorem d_M_nextTick_87 : decode b_M_nextTick 87 = .ok (.goto 15, 3) := by decide +kernel
theorem d_M_nextTick_90 : decode b_M_nextTick 90 = .ok (.iload_n 3, 1) := by decide +kernel
theorem d_M_nextTick_91 : decode b_M_nextTick 91 = .ok (.bipush 40, 2) := by decide +kernel
theorem d_M_nextTick_93 : decode b_M_nextTick 93 = .ok (.if_icmp .le 8, 3) := by decide +kernel
theorem d_M_nextTick_96 : decode b_M_nextTick 96 = .ok (.bipush 40, 2) := by decide +kernel
theorem d_M_nextTick_98 : decode b_M_nextTick 98 = .ok (.goto 4, 3) := by decide +kernel
theorem d_M_nextTick_101 : decode b_M_nextTick 101 = .ok (.iload_n 3, 1) := by decide +kernel
theorem d_M_nextTick_102 : decode b_M_nextTick 102 = .ok (.ireturn, 1) := by decide +kernel
abbrev b_M_within : ByteArray := prog_9_method_30_code
def y_M_within : MethodName := ⟨"RangeExchangeModel", "within", "(ZZJJJ)J"⟩
theorem d_M_within_0 : decode b_M_within 0 = .ok (.iload_n 1, 1) := by decide +kernel
theorem d_M_within_1 : decode b_M_within 1 = .ok (.ifCond .eq 44, 3) := by decide +kernel
theorem d_M_within_4 : decode b_M_within 4 = .ok (.iload_n 0, 1) := by decide +kernel
theorem d_M_within_5 : decode b_M_within 5 = .ok (.ifCond .eq 28, 3) := by decide +kernel
theorem d_M_within_8 : decode b_M_within 8 = .ok (.lload 4, 2) := by decide +kernel
theorem d_M_within_10 : decode b_M_within 10 = .ok (.ldc2_w 78, 3) := by decide +kernel
theorem d_M_within_13 : decode b_M_within 13 = .ok (.lmul, 1) := by decide +kernel
theorem d_M_within_14 : decode b_M_within 14 = .ok (.lload_n 2, 1) := by decide +kernel
theorem d_M_within_15 : decode b_M_within 15 = .ok (.lload 4, 2) := by decide +kernel
theorem d_M_within_17 : decode b_M_within 17 = .ok (.ldc2_w 78, 3) := by decide +kernel
theorem d_M_within_20 : decode b_M_within 20 = .ok (.lmul, 1) := by decide +kernel
theorem d_M_within_21 : decode b_M_within 21 = .ok (.lload 6, 2) := by decide +kernel
theorem d_M_within_23 : decode b_M_within 23 = .ok (.lload_n 2, 1) := by decide +kernel
theorem d_M_within_24 : decode b_M_within 24 = .ok (.lmul, 1) := by decide +kernel
theorem d_M_within_25 : decode b_M_within 25 = .ok (.ladd, 1) := by decide +kernel
theorem d_M_within_26 : decode b_M_within 26 = .ok (.iconst 1, 1) := by decide +kernel
theorem d_M_within_27 : decode b_M_within 27 = .ok (.invokestatic 168, 3) := by decide +kernel
theorem d_M_within_30 : decode b_M_within 30 = .ok (.goto 14, 3) := by decide +kernel
theorem d_M_within_33 : decode b_M_within 33 = .ok (.lload_n 2, 1) := by decide +kernel
theorem d_M_within_34 : decode b_M_within 34 = .ok (.lload 6, 2) := by decide +kernel
theorem d_M_within_36 : decode b_M_within 36 = .ok (.ldc2_w 78, 3) := by decide +kernel
theorem d_M_within_39 : decode b_M_within 39 = .ok (.lmul, 1) := by decide +kernel
theorem d_M_within_40 : decode b_M_within 40 = .ok (.lload 4, 2) := by decide +kernel
theorem d_M_within_42 : decode b_M_within 42 = .ok (.ldiv, 1) := by decide +kernel
theorem d_M_within_43 : decode b_M_within 43 = .ok (.ladd, 1) := by decide +kernel
theorem d_M_within_44 : decode b_M_within 44 = .ok (.lreturn, 1) := by decide +kernel
theorem d_M_within_45 : decode b_M_within 45 = .ok (.iload_n 0, 1) := by decide +kernel
theorem d_M_within_46 : decode b_M_within 46 = .ok (.ifCond .eq 20, 3) := by decide +kernel
theorem d_M_within_49 : decode b_M_within 49 = .ok (.lload_n 2, 1) := by decide +kernel
theorem d_M_within_50 : decode b_M_within 50 = .ok (.lload 6, 2) := by decide +kernel
theorem d_M_within_52 : decode b_M_within 52 = .ok (.ldc2_w 78, 3) := by decide +kernel
theorem d_M_within_55 : decode b_M_within 55 = .ok (.lmul, 1) := by decide +kernel
theorem d_M_within_56 : decode b_M_within 56 = .ok (.lload 4, 2) := by decide +kernel
theorem d_M_within_58 : decode b_M_within 58 = .ok (.iconst 1, 1) := by decide +kernel
theorem d_M_within_59 : decode b_M_within 59 = .ok (.invokestatic 90, 3) := by decide +kernel
theorem d_M_within_62 : decode b_M_within 62 = .ok (.lsub, 1) := by decide +kernel
theorem d_M_within_63 : decode b_M_within 63 = .ok (.goto 25, 3) := by decide +kernel
theorem d_M_within_66 : decode b_M_within 66 = .ok (.lload 4, 2) := by decide +kernel
theorem d_M_within_68 : decode b_M_within 68 = .ok (.ldc2_w 78, 3) := by decide +kernel
theorem d_M_within_71 : decode b_M_within 71 = .ok (.lmul, 1) := by decide +kernel
theorem d_M_within_72 : decode b_M_within 72 = .ok (.lload_n 2, 1) := by decide +kernel
theorem d_M_within_73 : decode b_M_within 73 = .ok (.lload 4, 2) := by decide +kernel
theorem d_M_within_75 : decode b_M_within 75 = .ok (.ldc2_w 78, 3) := by decide +kernel
theorem d_M_within_78 : decode b_M_within 78 = .ok (.lmul, 1) := by decide +kernel
theorem d_M_within_79 : decode b_M_within 79 = .ok (.lload 6, 2) := by decide +kernel
theorem d_M_within_81 : decode b_M_within 81 = .ok (.lload_n 2, 1) := by decide +kernel
theorem d_M_within_82 : decode b_M_within 82 = .ok (.lmul, 1) := by decide +kernel
theorem d_M_within_83 : decode b_M_within 83 = .ok (.lsub, 1) := by decide +kernel
theorem d_M_within_84 : decode b_M_within 84 = .ok (.iconst 1, 1) := by decide +kernel
theorem d_M_within_85 : decode b_M_within 85 = .ok (.invokestatic 168, 3) := by decide +kernel
theorem d_M_within_88 : decode b_M_within 88 = .ok (.lreturn, 1) := by decide +kernel
