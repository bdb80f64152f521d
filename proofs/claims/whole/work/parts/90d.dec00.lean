theorem dl_0 : decode code 0 = .ok (.new 8, 3) := by decide +kernel
theorem dl_3 : decode code 3 = .ok (.dup, 1) := by decide +kernel
theorem dl_4 : decode code 4 = .ok (.invokespecial 52, 3) := by decide +kernel
theorem dl_7 : decode code 7 = .ok (.astore_n 1, 1) := by decide +kernel
theorem dl_8 : decode code 8 = .ok (.new 53, 3) := by decide +kernel
theorem dl_11 : decode code 11 = .ok (.dup, 1) := by decide +kernel
theorem dl_12 : decode code 12 = .ok (.invokespecial 55, 3) := by decide +kernel
theorem dl_15 : decode code 15 = .ok (.astore_n 2, 1) := by decide +kernel
theorem dl_16 : decode code 16 = .ok (.iconst 1, 1) := by decide +kernel
theorem dl_17 : decode code 17 = .ok (.newarray .long, 2) := by decide +kernel
theorem dl_19 : decode code 19 = .ok (.astore_n 3, 1) := by decide +kernel
theorem dl_20 : decode code 20 = .ok (.iconst 0, 1) := by decide +kernel
theorem dl_21 : decode code 21 = .ok (.istore 4, 2) := by decide +kernel
theorem dl_23 : decode code 23 = .ok (.iload 4, 2) := by decide +kernel
theorem dl_25 : decode code 25 = .ok (.aload_n 0, 1) := by decide +kernel
theorem dl_26 : decode code 26 = .ok (.arraylength, 1) := by decide +kernel
theorem dl_27 : decode code 27 = .ok (.iconst 4, 1) := by decide +kernel
theorem dl_28 : decode code 28 = .ok (.isub, 1) := by decide +kernel
theorem dl_29 : decode code 29 = .ok (.if_icmp .gt 879, 3) := by decide +kernel
theorem dl_32 : decode code 32 = .ok (.aload_n 0, 1) := by decide +kernel
theorem dl_33 : decode code 33 = .ok (.iload 4, 2) := by decide +kernel
theorem dl_35 : decode code 35 = .ok (.iaload, 1) := by decide +kernel
theorem dl_36 : decode code 36 = .ok (.bipush 15, 2) := by decide +kernel
theorem dl_38 : decode code 38 = .ok (.iand, 1) := by decide +kernel
theorem dl_108 : decode code 108 = .ok (.aload_n 1, 1) := by decide +kernel
theorem dl_109 : decode code 109 = .ok (.aload_n 0, 1) := by decide +kernel
theorem dl_110 : decode code 110 = .ok (.iload 4, 2) := by decide +kernel
theorem dl_112 : decode code 112 = .ok (.iconst 1, 1) := by decide +kernel
theorem dl_113 : decode code 113 = .ok (.iadd, 1) := by decide +kernel
theorem dl_114 : decode code 114 = .ok (.iaload, 1) := by decide +kernel
theorem dl_115 : decode code 115 = .ok (.aload_n 0, 1) := by decide +kernel
theorem dl_116 : decode code 116 = .ok (.iload 4, 2) := by decide +kernel
theorem dl_118 : decode code 118 = .ok (.iconst 2, 1) := by decide +kernel
theorem dl_119 : decode code 119 = .ok (.iadd, 1) := by decide +kernel
theorem dl_120 : decode code 120 = .ok (.iaload, 1) := by decide +kernel
theorem dl_121 : decode code 121 = .ok (.aload_n 0, 1) := by decide +kernel
theorem dl_122 : decode code 122 = .ok (.iload 4, 2) := by decide +kernel
theorem dl_124 : decode code 124 = .ok (.iconst 3, 1) := by decide +kernel
theorem dl_125 : decode code 125 = .ok (.iadd, 1) := by decide +kernel
theorem dl_126 : decode code 126 = .ok (.iaload, 1) := by decide +kernel
theorem dl_127 : decode code 127 = .ok (.aload_n 3, 1) := by decide +kernel
theorem dl_128 : decode code 128 = .ok (.invokestatic 56, 3) := by decide +kernel
theorem dl_131 : decode code 131 = .ok (.istore 5, 2) := by decide +kernel
theorem dl_133 : decode code 133 = .ok (.aload_n 2, 1) := by decide +kernel
theorem dl_134 : decode code 134 = .ok (.aload_n 0, 1) := by decide +kernel
theorem dl_135 : decode code 135 = .ok (.iload 4, 2) := by decide +kernel
theorem dl_137 : decode code 137 = .ok (.iconst 1, 1) := by decide +kernel
theorem dl_138 : decode code 138 = .ok (.iadd, 1) := by decide +kernel
theorem dl_139 : decode code 139 = .ok (.iaload, 1) := by decide +kernel
theorem dl_140 : decode code 140 = .ok (.aload_n 0, 1) := by decide +kernel
theorem dl_141 : decode code 141 = .ok (.iload 4, 2) := by decide +kernel
theorem dl_143 : decode code 143 = .ok (.iconst 2, 1) := by decide +kernel
theorem dl_144 : decode code 144 = .ok (.iadd, 1) := by decide +kernel
theorem dl_145 : decode code 145 = .ok (.iaload, 1) := by decide +kernel
theorem dl_146 : decode code 146 = .ok (.aload_n 0, 1) := by decide +kernel
theorem dl_147 : decode code 147 = .ok (.iload 4, 2) := by decide +kernel
theorem dl_149 : decode code 149 = .ok (.iconst 3, 1) := by decide +kernel
theorem dl_150 : decode code 150 = .ok (.iadd, 1) := by decide +kernel
theorem dl_151 : decode code 151 = .ok (.iaload, 1) := by decide +kernel
theorem dl_152 : decode code 152 = .ok (.invokevirtual 61, 3) := by decide +kernel
