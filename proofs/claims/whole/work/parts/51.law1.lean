/-! The law's instructions. -/
theorem d_L_law_0 : decode b_L_law 0 = .ok (.new 7, 3) := by decide +kernel
theorem d_L_law_3 : decode b_L_law 3 = .ok (.dup, 1) := by decide +kernel
theorem d_L_law_4 : decode b_L_law 4 = .ok (.invokespecial 9, 3) := by decide +kernel
theorem d_L_law_7 : decode b_L_law 7 = .ok (.astore_n 1, 1) := by decide +kernel
theorem d_L_law_8 : decode b_L_law 8 = .ok (.new 10, 3) := by decide +kernel
theorem d_L_law_11 : decode b_L_law 11 = .ok (.dup, 1) := by decide +kernel
theorem d_L_law_12 : decode b_L_law 12 = .ok (.invokespecial 12, 3) := by decide +kernel
theorem d_L_law_15 : decode b_L_law 15 = .ok (.astore_n 2, 1) := by decide +kernel
theorem d_L_law_16 : decode b_L_law 16 = .ok (.iconst 0, 1) := by decide +kernel
theorem d_L_law_17 : decode b_L_law 17 = .ok (.istore_n 3, 1) := by decide +kernel
theorem d_L_law_18 : decode b_L_law 18 = .ok (.iload_n 3, 1) := by decide +kernel
theorem d_L_law_19 : decode b_L_law 19 = .ok (.aload_n 0, 1) := by decide +kernel
theorem d_L_law_20 : decode b_L_law 20 = .ok (.arraylength, 1) := by decide +kernel
theorem d_L_law_21 : decode b_L_law 21 = .ok (.iconst 5, 1) := by decide +kernel
theorem d_L_law_22 : decode b_L_law 22 = .ok (.isub, 1) := by decide +kernel
theorem d_L_law_23 : decode b_L_law 23 = .ok (.if_icmp .gt 437, 3) := by decide +kernel
theorem d_L_law_26 : decode b_L_law 26 = .ok (.aload_n 0, 1) := by decide +kernel
theorem d_L_law_27 : decode b_L_law 27 = .ok (.iload_n 3, 1) := by decide +kernel
theorem d_L_law_28 : decode b_L_law 28 = .ok (.iaload, 1) := by decide +kernel
theorem d_L_law_29 : decode b_L_law 29 = .ok (.bipush 15, 2) := by decide +kernel
theorem d_L_law_31 : decode b_L_law 31 = .ok (.iand, 1) := by decide +kernel
theorem d_L_law_32 : decode b_L_law 32 = .ok (.tableswitch 422 0 13 #[72, 105, 128, 181, 214, 247, 270, 293, 316, 349, 372, 385, 396, 409], 72) := by decide +kernel
theorem d_L_law_104 : decode b_L_law 104 = .ok (.aload_n 1, 1) := by decide +kernel
theorem d_L_law_105 : decode b_L_law 105 = .ok (.aload_n 0, 1) := by decide +kernel
theorem d_L_law_106 : decode b_L_law 106 = .ok (.iload_n 3, 1) := by decide +kernel
theorem d_L_law_107 : decode b_L_law 107 = .ok (.iconst 1, 1) := by decide +kernel
theorem d_L_law_108 : decode b_L_law 108 = .ok (.iadd, 1) := by decide +kernel
theorem d_L_law_109 : decode b_L_law 109 = .ok (.iaload, 1) := by decide +kernel
theorem d_L_law_110 : decode b_L_law 110 = .ok (.aload_n 0, 1) := by decide +kernel
theorem d_L_law_111 : decode b_L_law 111 = .ok (.iload_n 3, 1) := by decide +kernel
theorem d_L_law_112 : decode b_L_law 112 = .ok (.iconst 2, 1) := by decide +kernel
theorem d_L_law_113 : decode b_L_law 113 = .ok (.iadd, 1) := by decide +kernel
theorem d_L_law_114 : decode b_L_law 114 = .ok (.iaload, 1) := by decide +kernel
theorem d_L_law_115 : decode b_L_law 115 = .ok (.invokevirtual 13, 3) := by decide +kernel
theorem d_L_law_118 : decode b_L_law 118 = .ok (.aload_n 2, 1) := by decide +kernel
theorem d_L_law_119 : decode b_L_law 119 = .ok (.aload_n 0, 1) := by decide +kernel
theorem d_L_law_120 : decode b_L_law 120 = .ok (.iload_n 3, 1) := by decide +kernel
theorem d_L_law_121 : decode b_L_law 121 = .ok (.iconst 1, 1) := by decide +kernel
theorem d_L_law_122 : decode b_L_law 122 = .ok (.iadd, 1) := by decide +kernel
theorem d_L_law_123 : decode b_L_law 123 = .ok (.iaload, 1) := by decide +kernel
theorem d_L_law_124 : decode b_L_law 124 = .ok (.aload_n 0, 1) := by decide +kernel
theorem d_L_law_125 : decode b_L_law 125 = .ok (.iload_n 3, 1) := by decide +kernel
theorem d_L_law_126 : decode b_L_law 126 = .ok (.iconst 2, 1) := by decide +kernel
theorem d_L_law_127 : decode b_L_law 127 = .ok (.iadd, 1) := by decide +kernel
theorem d_L_law_128 : decode b_L_law 128 = .ok (.iaload, 1) := by decide +kernel
theorem d_L_law_129 : decode b_L_law 129 = .ok (.invokevirtual 17, 3) := by decide +kernel
theorem d_L_law_132 : decode b_L_law 132 = .ok (.if_icmp .eq 322, 3) := by decide +kernel
theorem d_L_law_135 : decode b_L_law 135 = .ok (.iconst 0, 1) := by decide +kernel
theorem d_L_law_136 : decode b_L_law 136 = .ok (.ireturn, 1) := by decide +kernel
