abbrev b_M_carryOut : ByteArray := prog_9_method_33_code
def y_M_carryOut : MethodName := ⟨"RangeExchangeModel", "carryOut", "(IIZ)V"⟩
theorem d_M_carryOut_0 : decode b_M_carryOut 0 = .ok (.iload_n 3, 1) := by decide +kernel
theorem d_M_carryOut_1 : decode b_M_carryOut 1 = .ok (.ifCond .eq 7, 3) := by decide +kernel
theorem d_M_carryOut_4 : decode b_M_carryOut 4 = .ok (.iconst 0, 1) := by decide +kernel
theorem d_M_carryOut_5 : decode b_M_carryOut 5 = .ok (.goto 4, 3) := by decide +kernel
theorem d_M_carryOut_8 : decode b_M_carryOut 8 = .ok (.iconst 1, 1) := by decide +kernel
theorem d_M_carryOut_9 : decode b_M_carryOut 9 = .ok (.istore 4, 2) := by decide +kernel
theorem d_M_carryOut_11 : decode b_M_carryOut 11 = .ok (.aload_n 0, 1) := by decide +kernel
theorem d_M_carryOut_12 : decode b_M_carryOut 12 = .ok (.getfield 26, 3) := by decide +kernel
theorem d_M_carryOut_15 : decode b_M_carryOut 15 = .ok (.iload_n 2, 1) := by decide +kernel
theorem d_M_carryOut_16 : decode b_M_carryOut 16 = .ok (.aload_n 0, 1) := by decide +kernel
theorem d_M_carryOut_17 : decode b_M_carryOut 17 = .ok (.getfield 60, 3) := by decide +kernel
theorem d_M_carryOut_20 : decode b_M_carryOut 20 = .ok (.iload_n 2, 1) := by decide +kernel
theorem d_M_carryOut_21 : decode b_M_carryOut 21 = .ok (.laload, 1) := by decide +kernel
theorem d_M_carryOut_22 : decode b_M_carryOut 22 = .ok (.lastore, 1) := by decide +kernel
theorem d_M_carryOut_23 : decode b_M_carryOut 23 = .ok (.aload_n 0, 1) := by decide +kernel
theorem d_M_carryOut_24 : decode b_M_carryOut 24 = .ok (.getfield 29, 3) := by decide +kernel
theorem d_M_carryOut_27 : decode b_M_carryOut 27 = .ok (.iload_n 2, 1) := by decide +kernel
theorem d_M_carryOut_28 : decode b_M_carryOut 28 = .ok (.aload_n 0, 1) := by decide +kernel
theorem d_M_carryOut_29 : decode b_M_carryOut 29 = .ok (.getfield 63, 3) := by decide +kernel
theorem d_M_carryOut_32 : decode b_M_carryOut 32 = .ok (.iload_n 2, 1) := by decide +kernel
theorem d_M_carryOut_33 : decode b_M_carryOut 33 = .ok (.iaload, 1) := by decide +kernel
theorem d_M_carryOut_34 : decode b_M_carryOut 34 = .ok (.iastore, 1) := by decide +kernel
theorem d_M_carryOut_35 : decode b_M_carryOut 35 = .ok (.aload_n 0, 1) := by decide +kernel
theorem d_M_carryOut_36 : decode b_M_carryOut 36 = .ok (.getfield 32, 3) := by decide +kernel
theorem d_M_carryOut_39 : decode b_M_carryOut 39 = .ok (.iconst 2, 1) := by decide +kernel
theorem d_M_carryOut_40 : decode b_M_carryOut 40 = .ok (.iload_n 2, 1) := by decide +kernel
theorem d_M_carryOut_41 : decode b_M_carryOut 41 = .ok (.imul, 1) := by decide +kernel
theorem d_M_carryOut_42 : decode b_M_carryOut 42 = .ok (.iload 4, 2) := by decide +kernel
theorem d_M_carryOut_44 : decode b_M_carryOut 44 = .ok (.iadd, 1) := by decide +kernel
theorem d_M_carryOut_45 : decode b_M_carryOut 45 = .ok (.dup2, 1) := by decide +kernel
theorem d_M_carryOut_46 : decode b_M_carryOut 46 = .ok (.laload, 1) := by decide +kernel
theorem d_M_carryOut_47 : decode b_M_carryOut 47 = .ok (.aload_n 0, 1) := by decide +kernel
theorem d_M_carryOut_48 : decode b_M_carryOut 48 = .ok (.getfield 66, 3) := by decide +kernel
theorem d_M_carryOut_51 : decode b_M_carryOut 51 = .ok (.iload_n 2, 1) := by decide +kernel
theorem d_M_carryOut_52 : decode b_M_carryOut 52 = .ok (.laload, 1) := by decide +kernel
theorem d_M_carryOut_53 : decode b_M_carryOut 53 = .ok (.ladd, 1) := by decide +kernel
theorem d_M_carryOut_54 : decode b_M_carryOut 54 = .ok (.lastore, 1) := by decide +kernel
theorem d_M_carryOut_55 : decode b_M_carryOut 55 = .ok (.iconst 0, 1) := by decide +kernel
theorem d_M_carryOut_56 : decode b_M_carryOut 56 = .ok (.istore 5, 2) := by decide +kernel
theorem d_M_carryOut_58 : decode b_M_carryOut 58 = .ok (.iload 5, 2) := by decide +kernel
theorem d_M_carryOut_60 : decode b_M_carryOut 60 = .ok (.bipush 12, 2) := by decide +kernel
theorem d_M_carryOut_62 : decode b_M_carryOut 62 = .ok (.if_icmp .ge 52, 3) := by decide +kernel
theorem d_M_carryOut_65 : decode b_M_carryOut 65 = .ok (.aload_n 0, 1) := by decide +kernel
theorem d_M_carryOut_66 : decode b_M_carryOut 66 = .ok (.getfield 35, 3) := by decide +kernel
theorem d_M_carryOut_69 : decode b_M_carryOut 69 = .ok (.iload 5, 2) := by decide +kernel
theorem d_M_carryOut_71 : decode b_M_carryOut 71 = .ok (.baload, 1) := by decide +kernel
theorem d_M_carryOut_72 : decode b_M_carryOut 72 = .ok (.ifCond .eq 36, 3) := by decide +kernel
theorem d_M_carryOut_75 : decode b_M_carryOut 75 = .ok (.aload_n 0, 1) := by decide +kernel
theorem d_M_carryOut_76 : decode b_M_carryOut 76 = .ok (.getfield 42, 3) := by decide +kernel
theorem d_M_carryOut_79 : decode b_M_carryOut 79 = .ok (.iload 5, 2) := by decide +kernel
theorem d_M_carryOut_81 : decode b_M_carryOut 81 = .ok (.iaload, 1) := by decide +kernel
theorem d_M_carryOut_82 : decode b_M_carryOut 82 = .ok (.iload_n 2, 1) := by decide +kernel
theorem d_M_carryOut_83 : decode b_M_carryOut 83 = .ok (.if_icmp .ne 25, 3) := by decide +kernel
theorem d_M_carryOut_86 : decode b_M_carryOut 86 = .ok (.aload_n 0, 1) := by decide +kernel
theorem d_M_carryOut_87 : decode b_M_carryOut 87 = .ok (.getfield 54, 3) := by decide +kernel
theorem d_M_carryOut_90 : decode b_M_carryOut 90 = .ok (.iconst 2, 1) := by decide +kernel
theorem d_M_carryOut_91 : decode b_M_carryOut 91 = .ok (.iload 5, 2) := by decide +kernel
theorem d_M_carryOut_93 : decode b_M_carryOut 93 = .ok (.imul, 1) := by decide +kernel
theorem d_M_carryOut_94 : decode b_M_carryOut 94 = .ok (.iload 4, 2) := by decide +kernel
theorem d_M_carryOut_96 : decode b_M_carryOut 96 = .ok (.iadd, 1) := by decide +kernel
theorem d_M_carryOut_97 : decode b_M_carryOut 97 = .ok (.dup2, 1) := by decide +kernel
theorem d_M_carryOut_98 : decode b_M_carryOut 98 = .ok (.laload, 1) := by decide +kernel
theorem d_M_carryOut_99 : decode b_M_carryOut 99 = .ok (.aload_n 0, 1) := by decide +kernel
theorem d_M_carryOut_100 : decode b_M_carryOut 100 = .ok (.getfield 75, 3) := by decide +kernel
theorem d_M_carryOut_103 : decode b_M_carryOut 103 = .ok (.iload 5, 2) := by decide +kernel
theorem d_M_carryOut_105 : decode b_M_carryOut 105 = .ok (.laload, 1) := by decide +kernel
theorem d_M_carryOut_106 : decode b_M_carryOut 106 = .ok (.ladd, 1) := by decide +kernel
theorem d_M_carryOut_107 : decode b_M_carryOut 107 = .ok (.lastore, 1) := by decide +kernel
theorem d_M_carryOut_108 : decode b_M_carryOut 108 = .ok (.iinc 5 1, 3) := by decide +kernel
theorem d_M_carryOut_111 : decode b_M_carryOut 111 = .ok (.goto (-53), 3) := by decide +kernel
theorem d_M_carryOut_114 : decode b_M_carryOut 114 = .ok (.aload_n 0, 1) := by decide +kernel
theorem d_M_carryOut_115 : decode b_M_carryOut 115 = .ok (.iload_n 1, 1) := by decide +kernel
theorem d_M_carryOut_116 : decode b_M_carryOut 116 = .ok (.iload_n 2, 1) := by decide +kernel
theorem d_M_carryOut_117 : decode b_M_carryOut 117 = .ok (.iload 4, 2) := by decide +kernel
theorem d_M_carryOut_119 : decode b_M_carryOut 119 = .ok (.iadd, 1) := by decide +kernel
theorem d_M_carryOut_120 : decode b_M_carryOut 120 = .ok (.aload_n 0, 1) := by decide +kernel
theorem d_M_carryOut_121 : decode b_M_carryOut 121 = .ok (.getfield 69, 3) := by decide +kernel
theorem d_M_carryOut_124 : decode b_M_carryOut 124 = .ok (.iload_n 2, 1) := by decide +kernel
theorem d_M_carryOut_125 : decode b_M_carryOut 125 = .ok (.laload, 1) := by decide +kernel
theorem d_M_carryOut_126 : decode b_M_carryOut 126 = .ok (.invokevirtual 153, 3) := by decide +kernel
theorem d_M_carryOut_129 : decode b_M_carryOut 129 = .ok (.aload_n 0, 1) := by decide +kernel
theorem d_M_carryOut_130 : decode b_M_carryOut 130 = .ok (.iload_n 1, 1) := by decide +kernel
theorem d_M_carryOut_131 : decode b_M_carryOut 131 = .ok (.iload_n 2, 1) := by decide +kernel
theorem d_M_carryOut_132 : decode b_M_carryOut 132 = .ok (.iconst 1, 1) := by decide +kernel
theorem d_M_carryOut_133 : decode b_M_carryOut 133 = .ok (.iadd, 1) := by decide +kernel
theorem d_M_carryOut_134 : decode b_M_carryOut 134 = .ok (.iload 4, 2) := by decide +kernel
theorem d_M_carryOut_136 : decode b_M_carryOut 136 = .ok (.isub, 1) := by decide +kernel
theorem d_M_carryOut_137 : decode b_M_carryOut 137 = .ok (.aload_n 0, 1) := by decide +kernel
theorem d_M_carryOut_138 : decode b_M_carryOut 138 = .ok (.getfield 72, 3) := by decide +kernel
theorem d_M_carryOut_141 : decode b_M_carryOut 141 = .ok (.iload_n 2, 1) := by decide +kernel
theorem d_M_carryOut_142 : decode b_M_carryOut 142 = .ok (.laload, 1) := by decide +kernel
theorem d_M_carryOut_143 : decode b_M_carryOut 143 = .ok (.lneg, 1) := by decide +kernel
theorem d_M_carryOut_144 : decode b_M_carryOut 144 = .ok (.invokevirtual 153, 3) := by decide +kernel
theorem d_M_carryOut_147 : decode b_M_carryOut 147 = .ok (.return_, 1) := by decide +kernel
abbrev b_M_swap : ByteArray := prog_9_method_34_code
def y_M_swap : MethodName := ⟨"RangeExchangeModel", "swap", "(IIZII)J"⟩
theorem d_M_swap_0 : decode b_M_swap 0 = .ok (.aload_n 0, 1) := by decide +kernel
theorem d_M_swap_1 : decode b_M_swap 1 = .ok (.iload_n 1, 1) := by decide +kernel
theorem d_M_swap_2 : decode b_M_swap 2 = .ok (.invokestatic 110, 3) := by decide +kernel
theorem d_M_swap_5 : decode b_M_swap 5 = .ok (.ifCond .eq 18, 3) := by decide +kernel
theorem d_M_swap_8 : decode b_M_swap 8 = .ok (.iload_n 2, 1) := by decide +kernel
theorem d_M_swap_9 : decode b_M_swap 9 = .ok (.invokestatic 114, 3) := by decide +kernel
theorem d_M_swap_12 : decode b_M_swap 12 = .ok (.ifCond .eq 11, 3) := by decide +kernel
theorem d_M_swap_15 : decode b_M_swap 15 = .ok (.iload 5, 2) := by decide +kernel
theorem d_M_swap_17 : decode b_M_swap 17 = .ok (.invokestatic 117, 3) := by decide +kernel
theorem d_M_swap_20 : decode b_M_swap 20 = .ok (.ifCond .ne 7, 3) := by decide +kernel
theorem d_M_swap_23 : decode b_M_swap 23 = .ok (.iconst 1, 1) := by decide +kernel
theorem d_M_swap_24 : decode b_M_swap 24 = .ok (.goto 4, 3) := by decide +kernel
theorem d_M_swap_27 : decode b_M_swap 27 = .ok (.iconst 0, 1) := by decide +kernel
theorem d_M_swap_28 : decode b_M_swap 28 = .ok (.putfield 84, 3) := by decide +kernel
theorem d_M_swap_31 : decode b_M_swap 31 = .ok (.aload_n 0, 1) := by decide +kernel
theorem d_M_swap_32 : decode b_M_swap 32 = .ok (.getfield 84, 3) := by decide +kernel
theorem d_M_swap_35 : decode b_M_swap 35 = .ok (.ifCond .le 5, 3) := by decide +kernel
theorem d_M_swap_38 : decode b_M_swap 38 = .ok (.lconst 0, 1) := by decide +kernel
theorem d_M_swap_39 : decode b_M_swap 39 = .ok (.lreturn, 1) := by decide +kernel
theorem d_M_swap_40 : decode b_M_swap 40 = .ok (.aload_n 0, 1) := by decide +kernel
theorem d_M_swap_41 : decode b_M_swap 41 = .ok (.iload 5, 2) := by decide +kernel
theorem d_M_swap_43 : decode b_M_swap 43 = .ok (.invokevirtual 100, 3) := by decide +kernel
theorem d_M_swap_46 : decode b_M_swap 46 = .ok (.lstore 6, 2) := by decide +kernel
theorem d_M_swap_48 : decode b_M_swap 48 = .ok (.iload_n 3, 1) := by decide +kernel
theorem d_M_swap_49 : decode b_M_swap 49 = .ok (.ifCond .eq 23, 3) := by decide +kernel
theorem d_M_swap_52 : decode b_M_swap 52 = .ok (.lload 6, 2) := by decide +kernel
theorem d_M_swap_54 : decode b_M_swap 54 = .ok (.aload_n 0, 1) := by decide +kernel
theorem d_M_swap_55 : decode b_M_swap 55 = .ok (.getfield 26, 3) := by decide +kernel
theorem d_M_swap_58 : decode b_M_swap 58 = .ok (.iload_n 2, 1) := by decide +kernel
theorem d_M_swap_59 : decode b_M_swap 59 = .ok (.laload, 1) := by decide +kernel
theorem d_M_swap_60 : decode b_M_swap 60 = .ok (.lcmp, 1) := by decide +kernel
theorem d_M_swap_61 : decode b_M_swap 61 = .ok (.ifCond .lt 7, 3) := by decide +kernel
theorem d_M_swap_64 : decode b_M_swap 64 = .ok (.iconst 1, 1) := by decide +kernel
theorem d_M_swap_65 : decode b_M_swap 65 = .ok (.goto 24, 3) := by decide +kernel
theorem d_M_swap_68 : decode b_M_swap 68 = .ok (.iconst 0, 1) := by decide +kernel
theorem d_M_swap_69 : decode b_M_swap 69 = .ok (.goto 20, 3) := by decide +kernel
theorem d_M_swap_72 : decode b_M_swap 72 = .ok (.lload 6, 2) := by decide +kernel
theorem d_M_swap_74 : decode b_M_swap 74 = .ok (.aload_n 0, 1) := by decide +kernel
theorem d_M_swap_75 : decode b_M_swap 75 = .ok (.getfield 26, 3) := by decide +kernel
theorem d_M_swap_78 : decode b_M_swap 78 = .ok (.iload_n 2, 1) := by decide +kernel
theorem d_M_swap_79 : decode b_M_swap 79 = .ok (.laload, 1) := by decide +kernel
theorem d_M_swap_80 : decode b_M_swap 80 = .ok (.lcmp, 1) := by decide +kernel
theorem d_M_swap_81 : decode b_M_swap 81 = .ok (.ifCond .gt 7, 3) := by decide +kernel
theorem d_M_swap_84 : decode b_M_swap 84 = .ok (.iconst 1, 1) := by decide +kernel
theorem d_M_swap_85 : decode b_M_swap 85 = .ok (.goto 4, 3) := by decide +kernel
theorem d_M_swap_88 : decode b_M_swap 88 = .ok (.iconst 0, 1) := by decide +kernel
theorem d_M_swap_89 : decode b_M_swap 89 = .ok (.istore 8, 2) := by decide +kernel
theorem d_M_swap_91 : decode b_M_swap 91 = .ok (.iload 4, 2) := by decide +kernel
theorem d_M_swap_93 : decode b_M_swap 93 = .ok (.ifCond .eq 22, 3) := by decide +kernel
theorem d_M_swap_96 : decode b_M_swap 96 = .ok (.iload 4, 2) := by decide +kernel
theorem d_M_swap_98 : decode b_M_swap 98 = .ok (.ldc 189, 2) := by decide +kernel
theorem d_M_swap_100 : decode b_M_swap 100 = .ok (.if_icmp .lt 15, 3) := by decide +kernel
theorem d_M_swap_103 : decode b_M_swap 103 = .ok (.iload 4, 2) := by decide +kernel
theorem d_M_swap_105 : decode b_M_swap 105 = .ok (.ldc 190, 2) := by decide +kernel
theorem d_M_swap_107 : decode b_M_swap 107 = .ok (.if_icmp .gt 8, 3) := by decide +kernel
theorem d_M_swap_110 : decode b_M_swap 110 = .ok (.iload 8, 2) := by decide +kernel
theorem d_M_swap_112 : decode b_M_swap 112 = .ok (.ifCond .eq 10, 3) := by decide +kernel
theorem d_M_swap_115 : decode b_M_swap 115 = .ok (.aload_n 0, 1) := by decide +kernel
theorem d_M_swap_116 : decode b_M_swap 116 = .ok (.iconst 2, 1) := by decide +kernel
theorem d_M_swap_117 : decode b_M_swap 117 = .ok (.putfield 84, 3) := by decide +kernel
theorem d_M_swap_120 : decode b_M_swap 120 = .ok (.lconst 0, 1) := by decide +kernel
theorem d_M_swap_121 : decode b_M_swap 121 = .ok (.lreturn, 1) := by decide +kernel
theorem d_M_swap_122 : decode b_M_swap 122 = .ok (.aload_n 0, 1) := by decide +kernel
theorem d_M_swap_123 : decode b_M_swap 123 = .ok (.iload_n 2, 1) := by decide +kernel
theorem d_M_swap_124 : decode b_M_swap 124 = .ok (.iload_n 3, 1) := by decide +kernel
theorem d_M_swap_125 : decode b_M_swap 125 = .ok (.iload 4, 2) := by decide +kernel
theorem d_M_swap_127 : decode b_M_swap 127 = .ok (.ifCond .le 7, 3) := by decide +kernel
theorem d_M_swap_130 : decode b_M_swap 130 = .ok (.iconst 1, 1) := by decide +kernel
theorem d_M_swap_131 : decode b_M_swap 131 = .ok (.goto 4, 3) := by decide +kernel
theorem d_M_swap_134 : decode b_M_swap 134 = .ok (.iconst 0, 1) := by decide +kernel
theorem d_M_swap_135 : decode b_M_swap 135 = .ok (.iload 4, 2) := by decide +kernel
theorem d_M_swap_137 : decode b_M_swap 137 = .ok (.ifCond .le 9, 3) := by decide +kernel
theorem d_M_swap_140 : decode b_M_swap 140 = .ok (.iload 4, 2) := by decide +kernel
theorem d_M_swap_142 : decode b_M_swap 142 = .ok (.i2l, 1) := by decide +kernel
theorem d_M_swap_143 : decode b_M_swap 143 = .ok (.goto 7, 3) := by decide +kernel
theorem d_M_swap_146 : decode b_M_swap 146 = .ok (.iload 4, 2) := by decide +kernel
theorem d_M_swap_148 : decode b_M_swap 148 = .ok (.ineg, 1) := by decide +kernel
theorem d_M_swap_149 : decode b_M_swap 149 = .ok (.i2l, 1) := by decide +kernel
theorem d_M_swap_150 : decode b_M_swap 150 = .ok (.lload 6, 2) := by decide +kernel
theorem d_M_swap_152 : decode b_M_swap 152 = .ok (.invokevirtual 191, 3) := by decide +kernel
theorem d_M_swap_155 : decode b_M_swap 155 = .ok (.iload_n 3, 1) := by decide +kernel
theorem d_M_swap_156 : decode b_M_swap 156 = .ok (.ifCond .eq 7, 3) := by decide +kernel
theorem d_M_swap_159 : decode b_M_swap 159 = .ok (.iconst 0, 1) := by decide +kernel
theorem d_M_swap_160 : decode b_M_swap 160 = .ok (.goto 4, 3) := by decide +kernel
theorem d_M_swap_163 : decode b_M_swap 163 = .ok (.iconst 1, 1) := by decide +kernel
theorem d_M_swap_164 : decode b_M_swap 164 = .ok (.istore 9, 2) := by decide +kernel
theorem d_M_swap_166 : decode b_M_swap 166 = .ok (.aload_n 0, 1) := by decide +kernel
theorem d_M_swap_167 : decode b_M_swap 167 = .ok (.getfield 13, 3) := by decide +kernel
theorem d_M_swap_170 : decode b_M_swap 170 = .ok (.iconst 3, 1) := by decide +kernel
theorem d_M_swap_171 : decode b_M_swap 171 = .ok (.iload_n 1, 1) := by decide +kernel
theorem d_M_swap_172 : decode b_M_swap 172 = .ok (.imul, 1) := by decide +kernel
theorem d_M_swap_173 : decode b_M_swap 173 = .ok (.iload_n 2, 1) := by decide +kernel
theorem d_M_swap_174 : decode b_M_swap 174 = .ok (.iadd, 1) := by decide +kernel
theorem d_M_swap_175 : decode b_M_swap 175 = .ok (.iload 9, 2) := by decide +kernel
theorem d_M_swap_177 : decode b_M_swap 177 = .ok (.iadd, 1) := by decide +kernel
theorem d_M_swap_178 : decode b_M_swap 178 = .ok (.laload, 1) := by decide +kernel
theorem d_M_swap_179 : decode b_M_swap 179 = .ok (.aload_n 0, 1) := by decide +kernel
theorem d_M_swap_180 : decode b_M_swap 180 = .ok (.getfield 69, 3) := by decide +kernel
theorem d_M_swap_183 : decode b_M_swap 183 = .ok (.iload_n 2, 1) := by decide +kernel
theorem d_M_swap_184 : decode b_M_swap 184 = .ok (.laload, 1) := by decide +kernel
theorem d_M_swap_185 : decode b_M_swap 185 = .ok (.lcmp, 1) := by decide +kernel
theorem d_M_swap_186 : decode b_M_swap 186 = .ok (.ifCond .ge 10, 3) := by decide +kernel
theorem d_M_swap_189 : decode b_M_swap 189 = .ok (.aload_n 0, 1) := by decide +kernel
theorem d_M_swap_190 : decode b_M_swap 190 = .ok (.iconst 3, 1) := by decide +kernel
theorem d_M_swap_191 : decode b_M_swap 191 = .ok (.putfield 84, 3) := by decide +kernel
theorem d_M_swap_194 : decode b_M_swap 194 = .ok (.lconst 0, 1) := by decide +kernel
theorem d_M_swap_195 : decode b_M_swap 195 = .ok (.lreturn, 1) := by decide +kernel
theorem d_M_swap_196 : decode b_M_swap 196 = .ok (.aload_n 0, 1) := by decide +kernel
theorem d_M_swap_197 : decode b_M_swap 197 = .ok (.iload_n 1, 1) := by decide +kernel
theorem d_M_swap_198 : decode b_M_swap 198 = .ok (.iload_n 2, 1) := by decide +kernel
theorem d_M_swap_199 : decode b_M_swap 199 = .ok (.iload_n 3, 1) := by decide +kernel
theorem d_M_swap_200 : decode b_M_swap 200 = .ok (.invokevirtual 195, 3) := by decide +kernel
theorem d_M_swap_203 : decode b_M_swap 203 = .ok (.aload_n 0, 1) := by decide +kernel
theorem d_M_swap_204 : decode b_M_swap 204 = .ok (.aload_n 0, 1) := by decide +kernel
theorem d_M_swap_205 : decode b_M_swap 205 = .ok (.getfield 69, 3) := by decide +kernel
theorem d_M_swap_208 : decode b_M_swap 208 = .ok (.iload_n 2, 1) := by decide +kernel
theorem d_M_swap_209 : decode b_M_swap 209 = .ok (.laload, 1) := by decide +kernel
theorem d_M_swap_210 : decode b_M_swap 210 = .ok (.putfield 199, 3) := by decide +kernel
theorem d_M_swap_213 : decode b_M_swap 213 = .ok (.aload_n 0, 1) := by decide +kernel
theorem d_M_swap_214 : decode b_M_swap 214 = .ok (.getfield 72, 3) := by decide +kernel
theorem d_M_swap_217 : decode b_M_swap 217 = .ok (.iload_n 2, 1) := by decide +kernel
theorem d_M_swap_218 : decode b_M_swap 218 = .ok (.laload, 1) := by decide +kernel
theorem d_M_swap_219 : decode b_M_swap 219 = .ok (.lreturn, 1) := by decide +kernel
abbrev b_M_route : ByteArray := prog_9_method_35_code
def y_M_route : MethodName := ⟨"RangeExchangeModel", "route", "(III)J"⟩
theorem d_M_route_0 : decode b_M_route 0 = .ok (.aload_n 0, 1) := by decide +kernel
theorem d_M_route_1 : decode b_M_route 1 = .ok (.iload_n 1, 1) := by decide +kernel
theorem d_M_route_2 : decode b_M_route 2 = .ok (.invokestatic 110, 3) := by decide +kernel
theorem d_M_route_5 : decode b_M_route 5 = .ok (.ifCond .ne 7, 3) := by decide +kernel
theorem d_M_route_8 : decode b_M_route 8 = .ok (.iconst 1, 1) := by decide +kernel
theorem d_M_route_9 : decode b_M_route 9 = .ok (.goto 19, 3) := by decide +kernel
theorem d_M_route_12 : decode b_M_route 12 = .ok (.iload_n 2, 1) := by decide +kernel
theorem d_M_route_13 : decode b_M_route 13 = .ok (.iconst 1, 1) := by decide +kernel
theorem d_M_route_14 : decode b_M_route 14 = .ok (.if_icmp .lt 9, 3) := by decide +kernel
theorem d_M_route_17 : decode b_M_route 17 = .ok (.iload_n 2, 1) := by decide +kernel
theorem d_M_route_18 : decode b_M_route 18 = .ok (.ldc 190, 2) := by decide +kernel
theorem d_M_route_20 : decode b_M_route 20 = .ok (.if_icmp .le 7, 3) := by decide +kernel
theorem d_M_route_23 : decode b_M_route 23 = .ok (.iconst 2, 1) := by decide +kernel
theorem d_M_route_24 : decode b_M_route 24 = .ok (.goto 4, 3) := by decide +kernel
theorem d_M_route_27 : decode b_M_route 27 = .ok (.iconst 0, 1) := by decide +kernel
theorem d_M_route_28 : decode b_M_route 28 = .ok (.putfield 84, 3) := by decide +kernel
theorem d_M_route_31 : decode b_M_route 31 = .ok (.aload_n 0, 1) := by decide +kernel
theorem d_M_route_32 : decode b_M_route 32 = .ok (.getfield 84, 3) := by decide +kernel
theorem d_M_route_35 : decode b_M_route 35 = .ok (.ifCond .le 5, 3) := by decide +kernel
theorem d_M_route_38 : decode b_M_route 38 = .ok (.lconst 0, 1) := by decide +kernel
theorem d_M_route_39 : decode b_M_route 39 = .ok (.lreturn, 1) := by decide +kernel
theorem d_M_route_40 : decode b_M_route 40 = .ok (.aload_n 0, 1) := by decide +kernel
theorem d_M_route_41 : decode b_M_route 41 = .ok (.bipush (-40), 2) := by decide +kernel
theorem d_M_route_43 : decode b_M_route 43 = .ok (.invokevirtual 100, 3) := by decide +kernel
theorem d_M_route_46 : decode b_M_route 46 = .ok (.lstore 4, 2) := by decide +kernel
theorem d_M_route_48 : decode b_M_route 48 = .ok (.aload_n 0, 1) := by decide +kernel
theorem d_M_route_49 : decode b_M_route 49 = .ok (.iconst 3, 1) := by decide +kernel
theorem d_M_route_50 : decode b_M_route 50 = .ok (.putfield 84, 3) := by decide +kernel
theorem d_M_route_53 : decode b_M_route 53 = .ok (.aload_n 0, 1) := by decide +kernel
theorem d_M_route_54 : decode b_M_route 54 = .ok (.getfield 26, 3) := by decide +kernel
theorem d_M_route_57 : decode b_M_route 57 = .ok (.iconst 0, 1) := by decide +kernel
theorem d_M_route_58 : decode b_M_route 58 = .ok (.laload, 1) := by decide +kernel
theorem d_M_route_59 : decode b_M_route 59 = .ok (.lload 4, 2) := by decide +kernel
theorem d_M_route_61 : decode b_M_route 61 = .ok (.lcmp, 1) := by decide +kernel
theorem d_M_route_62 : decode b_M_route 62 = .ok (.ifCond .eq 15, 3) := by decide +kernel
theorem d_M_route_65 : decode b_M_route 65 = .ok (.aload_n 0, 1) := by decide +kernel
theorem d_M_route_66 : decode b_M_route 66 = .ok (.getfield 26, 3) := by decide +kernel
theorem d_M_route_69 : decode b_M_route 69 = .ok (.iconst 1, 1) := by decide +kernel
theorem d_M_route_70 : decode b_M_route 70 = .ok (.laload, 1) := by decide +kernel
theorem d_M_route_71 : decode b_M_route 71 = .ok (.lload 4, 2) := by decide +kernel
theorem d_M_route_73 : decode b_M_route 73 = .ok (.lcmp, 1) := by decide +kernel
theorem d_M_route_74 : decode b_M_route 74 = .ok (.ifCond .ne 5, 3) := by decide +kernel
theorem d_M_route_77 : decode b_M_route 77 = .ok (.lconst 0, 1) := by decide +kernel
theorem d_M_route_78 : decode b_M_route 78 = .ok (.lreturn, 1) := by decide +kernel
theorem d_M_route_79 : decode b_M_route 79 = .ok (.aload_n 0, 1) := by decide +kernel
theorem d_M_route_80 : decode b_M_route 80 = .ok (.iconst 0, 1) := by decide +kernel
theorem d_M_route_81 : decode b_M_route 81 = .ok (.iconst 1, 1) := by decide +kernel
theorem d_M_route_82 : decode b_M_route 82 = .ok (.iconst 1, 1) := by decide +kernel
theorem d_M_route_83 : decode b_M_route 83 = .ok (.iload_n 2, 1) := by decide +kernel
theorem d_M_route_84 : decode b_M_route 84 = .ok (.i2l, 1) := by decide +kernel
theorem d_M_route_85 : decode b_M_route 85 = .ok (.lload 4, 2) := by decide +kernel
theorem d_M_route_87 : decode b_M_route 87 = .ok (.invokevirtual 191, 3) := by decide +kernel
theorem d_M_route_90 : decode b_M_route 90 = .ok (.aload_n 0, 1) := by decide +kernel
theorem d_M_route_91 : decode b_M_route 91 = .ok (.getfield 13, 3) := by decide +kernel
theorem d_M_route_94 : decode b_M_route 94 = .ok (.iconst 3, 1) := by decide +kernel
theorem d_M_route_95 : decode b_M_route 95 = .ok (.iload_n 1, 1) := by decide +kernel
theorem d_M_route_96 : decode b_M_route 96 = .ok (.imul, 1) := by decide +kernel
theorem d_M_route_97 : decode b_M_route 97 = .ok (.laload, 1) := by decide +kernel
theorem d_M_route_98 : decode b_M_route 98 = .ok (.aload_n 0, 1) := by decide +kernel
theorem d_M_route_99 : decode b_M_route 99 = .ok (.getfield 69, 3) := by decide +kernel
theorem d_M_route_102 : decode b_M_route 102 = .ok (.iconst 0, 1) := by decide +kernel
theorem d_M_route_103 : decode b_M_route 103 = .ok (.laload, 1) := by decide +kernel
theorem d_M_route_104 : decode b_M_route 104 = .ok (.lcmp, 1) := by decide +kernel
theorem d_M_route_105 : decode b_M_route 105 = .ok (.ifCond .lt 14, 3) := by decide +kernel
theorem d_M_route_108 : decode b_M_route 108 = .ok (.aload_n 0, 1) := by decide +kernel
theorem d_M_route_109 : decode b_M_route 109 = .ok (.getfield 72, 3) := by decide +kernel
theorem d_M_route_112 : decode b_M_route 112 = .ok (.iconst 0, 1) := by decide +kernel
theorem d_M_route_113 : decode b_M_route 113 = .ok (.laload, 1) := by decide +kernel
theorem d_M_route_114 : decode b_M_route 114 = .ok (.lconst 0, 1) := by decide +kernel
theorem d_M_route_115 : decode b_M_route 115 = .ok (.lcmp, 1) := by decide +kernel
theorem d_M_route_116 : decode b_M_route 116 = .ok (.ifCond .ne 5, 3) := by decide +kernel
theorem d_M_route_119 : decode b_M_route 119 = .ok (.lconst 0, 1) := by decide +kernel
theorem d_M_route_120 : decode b_M_route 120 = .ok (.lreturn, 1) := by decide +kernel
theorem d_M_route_121 : decode b_M_route 121 = .ok (.aload_n 0, 1) := by decide +kernel
theorem d_M_route_122 : decode b_M_route 122 = .ok (.iconst 1, 1) := by decide +kernel
theorem d_M_route_123 : decode b_M_route 123 = .ok (.iconst 1, 1) := by decide +kernel
theorem d_M_route_124 : decode b_M_route 124 = .ok (.iconst 1, 1) := by decide +kernel
theorem d_M_route_125 : decode b_M_route 125 = .ok (.aload_n 0, 1) := by decide +kernel
theorem d_M_route_126 : decode b_M_route 126 = .ok (.getfield 72, 3) := by decide +kernel
theorem d_M_route_129 : decode b_M_route 129 = .ok (.iconst 0, 1) := by decide +kernel
theorem d_M_route_130 : decode b_M_route 130 = .ok (.laload, 1) := by decide +kernel
theorem d_M_route_131 : decode b_M_route 131 = .ok (.lload 4, 2) := by decide +kernel
theorem d_M_route_133 : decode b_M_route 133 = .ok (.invokevirtual 191, 3) := by decide +kernel
theorem d_M_route_136 : decode b_M_route 136 = .ok (.aload_n 0, 1) := by decide +kernel
theorem d_M_route_137 : decode b_M_route 137 = .ok (.getfield 72, 3) := by decide +kernel
theorem d_M_route_140 : decode b_M_route 140 = .ok (.iconst 1, 1) := by decide +kernel
theorem d_M_route_141 : decode b_M_route 141 = .ok (.laload, 1) := by decide +kernel
theorem d_M_route_142 : decode b_M_route 142 = .ok (.iload_n 3, 1) := by decide +kernel
theorem d_M_route_143 : decode b_M_route 143 = .ok (.i2l, 1) := by decide +kernel
theorem d_M_route_144 : decode b_M_route 144 = .ok (.lcmp, 1) := by decide +kernel
theorem d_M_route_145 : decode b_M_route 145 = .ok (.ifCond .ge 5, 3) := by decide +kernel
theorem d_M_route_148 : decode b_M_route 148 = .ok (.lconst 0, 1) := by decide +kernel
theorem d_M_route_149 : decode b_M_route 149 = .ok (.lreturn, 1) := by decide +kernel
theorem d_M_route_150 : decode b_M_route 150 = .ok (.aload_n 0, 1) := by decide +kernel
theorem d_M_route_151 : decode b_M_route 151 = .ok (.iconst 0, 1) := by decide +kernel
theorem d_M_route_152 : decode b_M_route 152 = .ok (.putfield 84, 3) := by decide +kernel
theorem d_M_route_155 : decode b_M_route 155 = .ok (.aload_n 0, 1) := by decide +kernel
theorem d_M_route_156 : decode b_M_route 156 = .ok (.iload_n 1, 1) := by decide +kernel
theorem d_M_route_157 : decode b_M_route 157 = .ok (.iconst 0, 1) := by decide +kernel
theorem d_M_route_158 : decode b_M_route 158 = .ok (.iconst 1, 1) := by decide +kernel
theorem d_M_route_159 : decode b_M_route 159 = .ok (.invokevirtual 195, 3) := by decide +kernel
theorem d_M_route_162 : decode b_M_route 162 = .ok (.aload_n 0, 1) := by decide +kernel
theorem d_M_route_163 : decode b_M_route 163 = .ok (.iload_n 1, 1) := by decide +kernel
theorem d_M_route_164 : decode b_M_route 164 = .ok (.iconst 1, 1) := by decide +kernel
theorem d_M_route_165 : decode b_M_route 165 = .ok (.iconst 1, 1) := by decide +kernel
theorem d_M_route_166 : decode b_M_route 166 = .ok (.invokevirtual 195, 3) := by decide +kernel
theorem d_M_route_169 : decode b_M_route 169 = .ok (.aload_n 0, 1) := by decide +kernel
theorem d_M_route_170 : decode b_M_route 170 = .ok (.aload_n 0, 1) := by decide +kernel
theorem d_M_route_171 : decode b_M_route 171 = .ok (.getfield 69, 3) := by decide +kernel
theorem d_M_route_174 : decode b_M_route 174 = .ok (.iconst 0, 1) := by decide +kernel
theorem d_M_route_175 : decode b_M_route 175 = .ok (.laload, 1) := by decide +kernel
theorem d_M_route_176 : decode b_M_route 176 = .ok (.putfield 199, 3) := by decide +kernel
theorem d_M_route_179 : decode b_M_route 179 = .ok (.aload_n 0, 1) := by decide +kernel
theorem d_M_route_180 : decode b_M_route 180 = .ok (.getfield 72, 3) := by decide +kernel
theorem d_M_route_183 : decode b_M_route 183 = .ok (.iconst 1, 1) := by decide +kernel
theorem d_M_route_184 : decode b_M_route 184 = .ok (.laload, 1) := by decide +kernel
theorem d_M_route_185 : decode b_M_route 185 = .ok (.lreturn, 1) := by decide +kernel
abbrev b_M_paid : ByteArray := prog_9_method_36_code
def y_M_paid : MethodName := ⟨"RangeExchangeModel", "paid", "()J"⟩
theorem d_M_paid_0 : decode b_M_paid 0 = .ok (.aload_n 0, 1) := by decide +kernel
theorem d_M_paid_1 : decode b_M_paid 1 = .ok (.iconst 0, 1) := by decide +kernel
theorem d_M_paid_2 : decode b_M_paid 2 = .ok (.putfield 84, 3) := by decide +kernel
theorem d_M_paid_5 : decode b_M_paid 5 = .ok (.aload_n 0, 1) := by decide +kernel
theorem d_M_paid_6 : decode b_M_paid 6 = .ok (.getfield 199, 3) := by decide +kernel
theorem d_M_paid_9 : decode b_M_paid 9 = .ok (.lreturn, 1) := by decide +kernel
abbrev b_M_price : ByteArray := prog_9_method_37_code
def y_M_price : MethodName := ⟨"RangeExchangeModel", "price", "(I)J"⟩
theorem d_M_price_0 : decode b_M_price 0 = .ok (.aload_n 0, 1) := by decide +kernel
theorem d_M_price_1 : decode b_M_price 1 = .ok (.iload_n 1, 1) := by decide +kernel
theorem d_M_price_2 : decode b_M_price 2 = .ok (.invokestatic 114, 3) := by decide +kernel
theorem d_M_price_5 : decode b_M_price 5 = .ok (.ifCond .eq 7, 3) := by decide +kernel
theorem d_M_price_8 : decode b_M_price 8 = .ok (.iconst 0, 1) := by decide +kernel
theorem d_M_price_9 : decode b_M_price 9 = .ok (.goto 4, 3) := by decide +kernel
theorem d_M_price_12 : decode b_M_price 12 = .ok (.iconst 1, 1) := by decide +kernel
theorem d_M_price_13 : decode b_M_price 13 = .ok (.putfield 84, 3) := by decide +kernel
theorem d_M_price_16 : decode b_M_price 16 = .ok (.aload_n 0, 1) := by decide +kernel
theorem d_M_price_17 : decode b_M_price 17 = .ok (.getfield 84, 3) := by decide +kernel
theorem d_M_price_20 : decode b_M_price 20 = .ok (.ifCond .le 7, 3) := by decide +kernel
theorem d_M_price_23 : decode b_M_price 23 = .ok (.lconst 0, 1) := by decide +kernel
theorem d_M_price_24 : decode b_M_price 24 = .ok (.goto 9, 3) := by decide +kernel
theorem d_M_price_27 : decode b_M_price 27 = .ok (.aload_n 0, 1) := by decide +kernel
theorem d_M_price_28 : decode b_M_price 28 = .ok (.getfield 26, 3) := by decide +kernel
theorem d_M_price_31 : decode b_M_price 31 = .ok (.iload_n 1, 1) := by decide +kernel
theorem d_M_price_32 : decode b_M_price 32 = .ok (.laload, 1) := by decide +kernel
theorem d_M_price_33 : decode b_M_price 33 = .ok (.lreturn, 1) := by decide +kernel
abbrev b_M_tick : ByteArray := prog_9_method_38_code
def y_M_tick : MethodName := ⟨"RangeExchangeModel", "tick", "(I)I"⟩
theorem d_M_tick_0 : decode b_M_tick 0 = .ok (.aload_n 0, 1) := by decide +kernel
theorem d_M_tick_1 : decode b_M_tick 1 = .ok (.iload_n 1, 1) := by decide +kernel
theorem d_M_tick_2 : decode b_M_tick 2 = .ok (.invokestatic 114, 3) := by decide +kernel
theorem d_M_tick_5 : decode b_M_tick 5 = .ok (.ifCond .eq 7, 3) := by decide +kernel
theorem d_M_tick_8 : decode b_M_tick 8 = .ok (.iconst 0, 1) := by decide +kernel
theorem d_M_tick_9 : decode b_M_tick 9 = .ok (.goto 4, 3) := by decide +kernel
theorem d_M_tick_12 : decode b_M_tick 12 = .ok (.iconst 1, 1) := by decide +kernel
theorem d_M_tick_13 : decode b_M_tick 13 = .ok (.putfield 84, 3) := by decide +kernel
theorem d_M_tick_16 : decode b_M_tick 16 = .ok (.aload_n 0, 1) := by decide +kernel
theorem d_M_tick_17 : decode b_M_tick 17 = .ok (.getfield 84, 3) := by decide +kernel
theorem d_M_tick_20 : decode b_M_tick 20 = .ok (.ifCond .le 7, 3) := by decide +kernel
theorem d_M_tick_23 : decode b_M_tick 23 = .ok (.iconst 0, 1) := by decide +kernel
theorem d_M_tick_24 : decode b_M_tick 24 = .ok (.goto 9, 3) := by decide +kernel
theorem d_M_tick_27 : decode b_M_tick 27 = .ok (.aload_n 0, 1) := by decide +kernel
theorem d_M_tick_28 : decode b_M_tick 28 = .ok (.getfield 29, 3) := by decide +kernel
theorem d_M_tick_31 : decode b_M_tick 31 = .ok (.iload_n 1, 1) := by decide +kernel
theorem d_M_tick_32 : decode b_M_tick 32 = .ok (.iaload, 1) := by decide +kernel
theorem d_M_tick_33 : decode b_M_tick 33 = .ok (.ireturn, 1) := by decide +kernel
