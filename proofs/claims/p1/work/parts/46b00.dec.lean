/-! ===== the law, decoded ===== -/
set_option maxRecDepth 20000 in
theorem dw_0 : decode code 0 = .ok (.new 7, 3) := by decide +kernel
set_option maxRecDepth 20000 in
theorem dw_3 : decode code 3 = .ok (.dup, 1) := by decide +kernel
set_option maxRecDepth 20000 in
theorem dw_4 : decode code 4 = .ok (.invokespecial 9, 3) := by decide +kernel
set_option maxRecDepth 20000 in
theorem dw_7 : decode code 7 = .ok (.astore_n 1, 1) := by decide +kernel
set_option maxRecDepth 20000 in
theorem dw_8 : decode code 8 = .ok (.new 10, 3) := by decide +kernel
set_option maxRecDepth 20000 in
theorem dw_11 : decode code 11 = .ok (.dup, 1) := by decide +kernel
set_option maxRecDepth 20000 in
theorem dw_12 : decode code 12 = .ok (.invokespecial 12, 3) := by decide +kernel
set_option maxRecDepth 20000 in
theorem dw_15 : decode code 15 = .ok (.astore_n 2, 1) := by decide +kernel
set_option maxRecDepth 20000 in
theorem dw_16 : decode code 16 = .ok (.iconst 0, 1) := by decide +kernel
set_option maxRecDepth 20000 in
theorem dw_17 : decode code 17 = .ok (.istore_n 3, 1) := by decide +kernel
set_option maxRecDepth 20000 in
theorem dw_18 : decode code 18 = .ok (.iload_n 3, 1) := by decide +kernel
set_option maxRecDepth 20000 in
theorem dw_19 : decode code 19 = .ok (.aload_n 0, 1) := by decide +kernel
set_option maxRecDepth 20000 in
theorem dw_20 : decode code 20 = .ok (.arraylength, 1) := by decide +kernel
set_option maxRecDepth 20000 in
theorem dw_21 : decode code 21 = .ok (.iconst 5, 1) := by decide +kernel
set_option maxRecDepth 20000 in
theorem dw_22 : decode code 22 = .ok (.isub, 1) := by decide +kernel
set_option maxRecDepth 20000 in
theorem dw_23 : decode code 23 = .ok (.if_icmp .gt 948, 3) := by decide +kernel
set_option maxRecDepth 20000 in
theorem dw_26 : decode code 26 = .ok (.aload_n 0, 1) := by decide +kernel
set_option maxRecDepth 20000 in
theorem dw_27 : decode code 27 = .ok (.iload_n 3, 1) := by decide +kernel
set_option maxRecDepth 20000 in
theorem dw_28 : decode code 28 = .ok (.iaload, 1) := by decide +kernel
set_option maxRecDepth 20000 in
theorem dw_29 : decode code 29 = .ok (.bipush 31, 2) := by decide +kernel
set_option maxRecDepth 20000 in
theorem dw_31 : decode code 31 = .ok (.iand, 1) := by decide +kernel
set_option maxRecDepth 20000 in
theorem dw_32 : decode code 32 = .ok (.tableswitch 933 0 22 #[108, 151, 184, 207, 230, 263, 306, 329, 362, 395, 438, 497, 540, 583, 616, 669, 702, 735, 758, 791, 824, 867, 900], 108) := by decide +kernel
set_option maxRecDepth 20000 in
theorem dw_140 : decode code 140 = .ok (.aload_n 1, 1) := by decide +kernel
set_option maxRecDepth 20000 in
theorem dw_141 : decode code 141 = .ok (.aload_n 0, 1) := by decide +kernel
set_option maxRecDepth 20000 in
theorem dw_142 : decode code 142 = .ok (.iload_n 3, 1) := by decide +kernel
set_option maxRecDepth 20000 in
theorem dw_143 : decode code 143 = .ok (.iconst 1, 1) := by decide +kernel
set_option maxRecDepth 20000 in
theorem dw_144 : decode code 144 = .ok (.iadd, 1) := by decide +kernel
set_option maxRecDepth 20000 in
theorem dw_145 : decode code 145 = .ok (.iaload, 1) := by decide +kernel
set_option maxRecDepth 20000 in
theorem dw_146 : decode code 146 = .ok (.aload_n 0, 1) := by decide +kernel
set_option maxRecDepth 20000 in
theorem dw_147 : decode code 147 = .ok (.iload_n 3, 1) := by decide +kernel
set_option maxRecDepth 20000 in
theorem dw_148 : decode code 148 = .ok (.iconst 2, 1) := by decide +kernel
set_option maxRecDepth 20000 in
theorem dw_149 : decode code 149 = .ok (.iadd, 1) := by decide +kernel
set_option maxRecDepth 20000 in
theorem dw_150 : decode code 150 = .ok (.iaload, 1) := by decide +kernel
set_option maxRecDepth 20000 in
theorem dw_151 : decode code 151 = .ok (.aload_n 0, 1) := by decide +kernel
set_option maxRecDepth 20000 in
theorem dw_152 : decode code 152 = .ok (.iload_n 3, 1) := by decide +kernel
set_option maxRecDepth 20000 in
theorem dw_153 : decode code 153 = .ok (.iconst 3, 1) := by decide +kernel
set_option maxRecDepth 20000 in
theorem dw_154 : decode code 154 = .ok (.iadd, 1) := by decide +kernel
set_option maxRecDepth 20000 in
theorem dw_155 : decode code 155 = .ok (.iaload, 1) := by decide +kernel
set_option maxRecDepth 20000 in
theorem dw_156 : decode code 156 = .ok (.invokevirtual 13, 3) := by decide +kernel
set_option maxRecDepth 20000 in
theorem dw_159 : decode code 159 = .ok (.aload_n 2, 1) := by decide +kernel
set_option maxRecDepth 20000 in
theorem dw_160 : decode code 160 = .ok (.aload_n 0, 1) := by decide +kernel
set_option maxRecDepth 20000 in
theorem dw_161 : decode code 161 = .ok (.iload_n 3, 1) := by decide +kernel
set_option maxRecDepth 20000 in
theorem dw_162 : decode code 162 = .ok (.iconst 1, 1) := by decide +kernel
set_option maxRecDepth 20000 in
theorem dw_163 : decode code 163 = .ok (.iadd, 1) := by decide +kernel
set_option maxRecDepth 20000 in
theorem dw_164 : decode code 164 = .ok (.iaload, 1) := by decide +kernel
set_option maxRecDepth 20000 in
theorem dw_165 : decode code 165 = .ok (.aload_n 0, 1) := by decide +kernel
set_option maxRecDepth 20000 in
theorem dw_166 : decode code 166 = .ok (.iload_n 3, 1) := by decide +kernel
set_option maxRecDepth 20000 in
theorem dw_167 : decode code 167 = .ok (.iconst 2, 1) := by decide +kernel
set_option maxRecDepth 20000 in
theorem dw_168 : decode code 168 = .ok (.iadd, 1) := by decide +kernel
set_option maxRecDepth 20000 in
theorem dw_169 : decode code 169 = .ok (.iaload, 1) := by decide +kernel
set_option maxRecDepth 20000 in
theorem dw_170 : decode code 170 = .ok (.aload_n 0, 1) := by decide +kernel
set_option maxRecDepth 20000 in
theorem dw_171 : decode code 171 = .ok (.iload_n 3, 1) := by decide +kernel
set_option maxRecDepth 20000 in
theorem dw_172 : decode code 172 = .ok (.iconst 3, 1) := by decide +kernel
set_option maxRecDepth 20000 in
theorem dw_173 : decode code 173 = .ok (.iadd, 1) := by decide +kernel
set_option maxRecDepth 20000 in
theorem dw_174 : decode code 174 = .ok (.iaload, 1) := by decide +kernel
set_option maxRecDepth 20000 in
theorem dw_175 : decode code 175 = .ok (.invokevirtual 17, 3) := by decide +kernel
set_option maxRecDepth 20000 in
theorem dw_178 : decode code 178 = .ok (.if_icmp .eq 787, 3) := by decide +kernel
set_option maxRecDepth 20000 in
theorem dw_181 : decode code 181 = .ok (.iconst 0, 1) := by decide +kernel
set_option maxRecDepth 20000 in
theorem dw_182 : decode code 182 = .ok (.ireturn, 1) := by decide +kernel
set_option maxRecDepth 20000 in
theorem dw_183 : decode code 183 = .ok (.aload_n 1, 1) := by decide +kernel
