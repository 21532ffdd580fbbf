theorem d_LW_0 : decode code 0 = .ok (.new 7, 3) := by decide +kernel
theorem d_LW_3 : decode code 3 = .ok (.dup, 1) := by decide +kernel
theorem d_LW_4 : decode code 4 = .ok (.invokespecial 9, 3) := by decide +kernel
theorem d_LW_7 : decode code 7 = .ok (.astore_n 1, 1) := by decide +kernel
theorem d_LW_8 : decode code 8 = .ok (.new 10, 3) := by decide +kernel
theorem d_LW_11 : decode code 11 = .ok (.dup, 1) := by decide +kernel
theorem d_LW_12 : decode code 12 = .ok (.invokespecial 12, 3) := by decide +kernel
theorem d_LW_15 : decode code 15 = .ok (.astore_n 2, 1) := by decide +kernel
theorem d_LW_16 : decode code 16 = .ok (.iconst 0, 1) := by decide +kernel
theorem d_LW_17 : decode code 17 = .ok (.istore_n 3, 1) := by decide +kernel
theorem d_LW_18 : decode code 18 = .ok (.iload_n 3, 1) := by decide +kernel
theorem d_LW_19 : decode code 19 = .ok (.aload_n 0, 1) := by decide +kernel
theorem d_LW_20 : decode code 20 = .ok (.arraylength, 1) := by decide +kernel
theorem d_LW_21 : decode code 21 = .ok (.bipush 6, 2) := by decide +kernel
theorem d_LW_23 : decode code 23 = .ok (.isub, 1) := by decide +kernel
theorem d_LW_24 : decode code 24 = .ok (.if_icmp .gt 439, 3) := by decide +kernel
theorem d_LW_27 : decode code 27 = .ok (.aload_n 0, 1) := by decide +kernel
theorem d_LW_28 : decode code 28 = .ok (.iload_n 3, 1) := by decide +kernel
theorem d_LW_29 : decode code 29 = .ok (.iaload, 1) := by decide +kernel
theorem d_LW_30 : decode code 30 = .ok (.bipush 15, 2) := by decide +kernel
theorem d_LW_32 : decode code 32 = .ok (.iand, 1) := by decide +kernel
theorem d_LW_33 : decode code 33 = .ok (.tableswitch 424 0 12 #[67, 130, 153, 186, 229, 242, 255, 308, 319, 342, 355, 378, 401], 67) := by decide +kernel
theorem d_LW_100 : decode code 100 = .ok (.aload_n 1, 1) := by decide +kernel
theorem d_LW_101 : decode code 101 = .ok (.aload_n 0, 1) := by decide +kernel
theorem d_LW_102 : decode code 102 = .ok (.iload_n 3, 1) := by decide +kernel
theorem d_LW_103 : decode code 103 = .ok (.iconst 1, 1) := by decide +kernel
theorem d_LW_104 : decode code 104 = .ok (.iadd, 1) := by decide +kernel
theorem d_LW_105 : decode code 105 = .ok (.iaload, 1) := by decide +kernel
theorem d_LW_106 : decode code 106 = .ok (.aload_n 0, 1) := by decide +kernel
theorem d_LW_107 : decode code 107 = .ok (.iload_n 3, 1) := by decide +kernel
theorem d_LW_108 : decode code 108 = .ok (.iconst 2, 1) := by decide +kernel
theorem d_LW_109 : decode code 109 = .ok (.iadd, 1) := by decide +kernel
theorem d_LW_110 : decode code 110 = .ok (.iaload, 1) := by decide +kernel
theorem d_LW_111 : decode code 111 = .ok (.aload_n 0, 1) := by decide +kernel
theorem d_LW_112 : decode code 112 = .ok (.iload_n 3, 1) := by decide +kernel
theorem d_LW_113 : decode code 113 = .ok (.iconst 3, 1) := by decide +kernel
theorem d_LW_114 : decode code 114 = .ok (.iadd, 1) := by decide +kernel
theorem d_LW_115 : decode code 115 = .ok (.iaload, 1) := by decide +kernel
theorem d_LW_116 : decode code 116 = .ok (.aload_n 0, 1) := by decide +kernel
theorem d_LW_117 : decode code 117 = .ok (.iload_n 3, 1) := by decide +kernel
theorem d_LW_118 : decode code 118 = .ok (.iconst 4, 1) := by decide +kernel
theorem d_LW_119 : decode code 119 = .ok (.iadd, 1) := by decide +kernel
theorem d_LW_120 : decode code 120 = .ok (.iaload, 1) := by decide +kernel
theorem d_LW_121 : decode code 121 = .ok (.aload_n 0, 1) := by decide +kernel
theorem d_LW_122 : decode code 122 = .ok (.iload_n 3, 1) := by decide +kernel
theorem d_LW_123 : decode code 123 = .ok (.iconst 5, 1) := by decide +kernel
theorem d_LW_124 : decode code 124 = .ok (.iadd, 1) := by decide +kernel
theorem d_LW_125 : decode code 125 = .ok (.iaload, 1) := by decide +kernel
theorem d_LW_126 : decode code 126 = .ok (.invokevirtual 13, 3) := by decide +kernel
theorem d_LW_129 : decode code 129 = .ok (.aload_n 2, 1) := by decide +kernel
theorem d_LW_130 : decode code 130 = .ok (.aload_n 0, 1) := by decide +kernel
theorem d_LW_131 : decode code 131 = .ok (.iload_n 3, 1) := by decide +kernel
theorem d_LW_132 : decode code 132 = .ok (.iconst 1, 1) := by decide +kernel
theorem d_LW_133 : decode code 133 = .ok (.iadd, 1) := by decide +kernel
theorem d_LW_134 : decode code 134 = .ok (.iaload, 1) := by decide +kernel
theorem d_LW_135 : decode code 135 = .ok (.aload_n 0, 1) := by decide +kernel
theorem d_LW_136 : decode code 136 = .ok (.iload_n 3, 1) := by decide +kernel
theorem d_LW_137 : decode code 137 = .ok (.iconst 2, 1) := by decide +kernel
theorem d_LW_138 : decode code 138 = .ok (.iadd, 1) := by decide +kernel
theorem d_LW_139 : decode code 139 = .ok (.iaload, 1) := by decide +kernel
theorem d_LW_140 : decode code 140 = .ok (.aload_n 0, 1) := by decide +kernel
theorem d_LW_141 : decode code 141 = .ok (.iload_n 3, 1) := by decide +kernel
theorem d_LW_142 : decode code 142 = .ok (.iconst 3, 1) := by decide +kernel
theorem d_LW_143 : decode code 143 = .ok (.iadd, 1) := by decide +kernel
theorem d_LW_144 : decode code 144 = .ok (.iaload, 1) := by decide +kernel
theorem d_LW_145 : decode code 145 = .ok (.aload_n 0, 1) := by decide +kernel
theorem d_LW_146 : decode code 146 = .ok (.iload_n 3, 1) := by decide +kernel
theorem d_LW_147 : decode code 147 = .ok (.iconst 4, 1) := by decide +kernel
theorem d_LW_148 : decode code 148 = .ok (.iadd, 1) := by decide +kernel
theorem d_LW_149 : decode code 149 = .ok (.iaload, 1) := by decide +kernel
theorem d_LW_150 : decode code 150 = .ok (.aload_n 0, 1) := by decide +kernel
theorem d_LW_151 : decode code 151 = .ok (.iload_n 3, 1) := by decide +kernel
theorem d_LW_152 : decode code 152 = .ok (.iconst 5, 1) := by decide +kernel
theorem d_LW_153 : decode code 153 = .ok (.iadd, 1) := by decide +kernel
theorem d_LW_154 : decode code 154 = .ok (.iaload, 1) := by decide +kernel
