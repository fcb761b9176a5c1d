abbrev b_L_law : ByteArray := code
def y_L_law : MethodName := ⟨"RangeExchangeLaw", "law", "([I)Z"⟩
theorem d_L_law_0 : decode b_L_law 0 = .ok (.new 8, 3) := by decide +kernel
theorem d_L_law_3 : decode b_L_law 3 = .ok (.dup, 1) := by decide +kernel
theorem d_L_law_4 : decode b_L_law 4 = .ok (.aload_n 0, 1) := by decide +kernel
theorem d_L_law_5 : decode b_L_law 5 = .ok (.iconst 0, 1) := by decide +kernel
theorem d_L_law_6 : decode b_L_law 6 = .ok (.invokestatic 60, 3) := by decide +kernel
theorem d_L_law_9 : decode b_L_law 9 = .ok (.aload_n 0, 1) := by decide +kernel
theorem d_L_law_10 : decode b_L_law 10 = .ok (.iconst 1, 1) := by decide +kernel
theorem d_L_law_11 : decode b_L_law 11 = .ok (.invokestatic 60, 3) := by decide +kernel
theorem d_L_law_14 : decode b_L_law 14 = .ok (.invokespecial 66, 3) := by decide +kernel
theorem d_L_law_17 : decode b_L_law 17 = .ok (.astore_n 1, 1) := by decide +kernel
theorem d_L_law_18 : decode b_L_law 18 = .ok (.new 69, 3) := by decide +kernel
theorem d_L_law_21 : decode b_L_law 21 = .ok (.dup, 1) := by decide +kernel
theorem d_L_law_22 : decode b_L_law 22 = .ok (.aload_n 0, 1) := by decide +kernel
theorem d_L_law_23 : decode b_L_law 23 = .ok (.iconst 0, 1) := by decide +kernel
theorem d_L_law_24 : decode b_L_law 24 = .ok (.invokestatic 60, 3) := by decide +kernel
theorem d_L_law_27 : decode b_L_law 27 = .ok (.aload_n 0, 1) := by decide +kernel
theorem d_L_law_28 : decode b_L_law 28 = .ok (.iconst 1, 1) := by decide +kernel
theorem d_L_law_29 : decode b_L_law 29 = .ok (.invokestatic 60, 3) := by decide +kernel
theorem d_L_law_32 : decode b_L_law 32 = .ok (.invokespecial 71, 3) := by decide +kernel
theorem d_L_law_35 : decode b_L_law 35 = .ok (.astore_n 2, 1) := by decide +kernel
theorem d_L_law_36 : decode b_L_law 36 = .ok (.iconst 1, 1) := by decide +kernel
theorem d_L_law_37 : decode b_L_law 37 = .ok (.newarray .long, 2) := by decide +kernel
theorem d_L_law_39 : decode b_L_law 39 = .ok (.astore_n 3, 1) := by decide +kernel
theorem d_L_law_40 : decode b_L_law 40 = .ok (.iconst 2, 1) := by decide +kernel
theorem d_L_law_41 : decode b_L_law 41 = .ok (.istore 4, 2) := by decide +kernel
theorem d_L_law_43 : decode b_L_law 43 = .ok (.iload 4, 2) := by decide +kernel
theorem d_L_law_45 : decode b_L_law 45 = .ok (.aload_n 0, 1) := by decide +kernel
theorem d_L_law_46 : decode b_L_law 46 = .ok (.arraylength, 1) := by decide +kernel
theorem d_L_law_47 : decode b_L_law 47 = .ok (.bipush 6, 2) := by decide +kernel
theorem d_L_law_49 : decode b_L_law 49 = .ok (.isub, 1) := by decide +kernel
theorem d_L_law_50 : decode b_L_law 50 = .ok (.if_icmp .gt 1108, 3) := by decide +kernel
theorem d_L_law_53 : decode b_L_law 53 = .ok (.aload_n 0, 1) := by decide +kernel
theorem d_L_law_54 : decode b_L_law 54 = .ok (.iload 4, 2) := by decide +kernel
theorem d_L_law_56 : decode b_L_law 56 = .ok (.iaload, 1) := by decide +kernel
theorem d_L_law_57 : decode b_L_law 57 = .ok (.bipush 15, 2) := by decide +kernel
theorem d_L_law_59 : decode b_L_law 59 = .ok (.iand, 1) := by decide +kernel
theorem d_L_law_60 : decode b_L_law 60 = .ok (.tableswitch 1092 0 13 #[72, 151, 218, 322, 426, 517, 636, 715, 729, 784, 840, 896, 963, 1037], 72) := by decide +kernel
theorem d_L_law_132 : decode b_L_law 132 = .ok (.aload_n 1, 1) := by decide +kernel
theorem d_L_law_133 : decode b_L_law 133 = .ok (.aload_n 0, 1) := by decide +kernel
theorem d_L_law_134 : decode b_L_law 134 = .ok (.iload 4, 2) := by decide +kernel
theorem d_L_law_136 : decode b_L_law 136 = .ok (.iconst 1, 1) := by decide +kernel
theorem d_L_law_137 : decode b_L_law 137 = .ok (.iadd, 1) := by decide +kernel
theorem d_L_law_138 : decode b_L_law 138 = .ok (.iaload, 1) := by decide +kernel
theorem d_L_law_139 : decode b_L_law 139 = .ok (.aload_n 0, 1) := by decide +kernel
theorem d_L_law_140 : decode b_L_law 140 = .ok (.iload 4, 2) := by decide +kernel
theorem d_L_law_142 : decode b_L_law 142 = .ok (.iconst 2, 1) := by decide +kernel
theorem d_L_law_143 : decode b_L_law 143 = .ok (.iadd, 1) := by decide +kernel
theorem d_L_law_144 : decode b_L_law 144 = .ok (.iaload, 1) := by decide +kernel
theorem d_L_law_145 : decode b_L_law 145 = .ok (.aload_n 0, 1) := by decide +kernel
theorem d_L_law_146 : decode b_L_law 146 = .ok (.iload 4, 2) := by decide +kernel

