/-! DECODED: the law -/
theorem fW_law_0 : decode (m_cc M_W_law) 0 = .ok (.new 8, 3) := by decide +kernel
theorem fW_law_3 : decode (m_cc M_W_law) 3 = .ok (.dup, 1) := by decide +kernel
theorem fW_law_4 : decode (m_cc M_W_law) 4 = .ok (.invokespecial 70, 3) := by decide +kernel
theorem fW_law_7 : decode (m_cc M_W_law) 7 = .ok (.astore_n 1, 1) := by decide +kernel
theorem fW_law_8 : decode (m_cc M_W_law) 8 = .ok (.new 71, 3) := by decide +kernel
theorem fW_law_11 : decode (m_cc M_W_law) 11 = .ok (.dup, 1) := by decide +kernel
theorem fW_law_12 : decode (m_cc M_W_law) 12 = .ok (.invokespecial 73, 3) := by decide +kernel
theorem fW_law_15 : decode (m_cc M_W_law) 15 = .ok (.astore_n 2, 1) := by decide +kernel
theorem fW_law_16 : decode (m_cc M_W_law) 16 = .ok (.iconst 1, 1) := by decide +kernel
theorem fW_law_17 : decode (m_cc M_W_law) 17 = .ok (.newarray .long, 2) := by decide +kernel
theorem fW_law_19 : decode (m_cc M_W_law) 19 = .ok (.astore_n 3, 1) := by decide +kernel
theorem fW_law_20 : decode (m_cc M_W_law) 20 = .ok (.iconst 0, 1) := by decide +kernel
theorem fW_law_21 : decode (m_cc M_W_law) 21 = .ok (.istore 4, 2) := by decide +kernel
theorem fW_law_23 : decode (m_cc M_W_law) 23 = .ok (.iload 4, 2) := by decide +kernel
theorem fW_law_25 : decode (m_cc M_W_law) 25 = .ok (.aload_n 0, 1) := by decide +kernel
theorem fW_law_26 : decode (m_cc M_W_law) 26 = .ok (.arraylength, 1) := by decide +kernel
theorem fW_law_27 : decode (m_cc M_W_law) 27 = .ok (.iconst 5, 1) := by decide +kernel
theorem fW_law_28 : decode (m_cc M_W_law) 28 = .ok (.isub, 1) := by decide +kernel
theorem fW_law_29 : decode (m_cc M_W_law) 29 = .ok (.if_icmp .gt 1159, 3) := by decide +kernel
theorem fW_law_32 : decode (m_cc M_W_law) 32 = .ok (.aload_n 0, 1) := by decide +kernel
theorem fW_law_33 : decode (m_cc M_W_law) 33 = .ok (.iload 4, 2) := by decide +kernel
theorem fW_law_35 : decode (m_cc M_W_law) 35 = .ok (.iaload, 1) := by decide +kernel
theorem fW_law_36 : decode (m_cc M_W_law) 36 = .ok (.bipush 15, 2) := by decide +kernel
theorem fW_law_38 : decode (m_cc M_W_law) 38 = .ok (.iand, 1) := by decide +kernel
theorem fW_law_39 : decode (m_cc M_W_law) 39 = .ok (.tableswitch 1143 0 15 #[77, 169, 261, 329, 397, 453, 540, 615, 671, 719, 815, 871, 927, 995, 1063, 1118], 77) := by decide +kernel
theorem fW_law_116 : decode (m_cc M_W_law) 116 = .ok (.aload_n 1, 1) := by decide +kernel
theorem fW_law_117 : decode (m_cc M_W_law) 117 = .ok (.aload_n 0, 1) := by decide +kernel
theorem fW_law_118 : decode (m_cc M_W_law) 118 = .ok (.iload 4, 2) := by decide +kernel
theorem fW_law_120 : decode (m_cc M_W_law) 120 = .ok (.iconst 1, 1) := by decide +kernel
theorem fW_law_121 : decode (m_cc M_W_law) 121 = .ok (.iadd, 1) := by decide +kernel
theorem fW_law_122 : decode (m_cc M_W_law) 122 = .ok (.iaload, 1) := by decide +kernel
theorem fW_law_123 : decode (m_cc M_W_law) 123 = .ok (.aload_n 0, 1) := by decide +kernel
theorem fW_law_124 : decode (m_cc M_W_law) 124 = .ok (.iload 4, 2) := by decide +kernel
theorem fW_law_126 : decode (m_cc M_W_law) 126 = .ok (.iconst 2, 1) := by decide +kernel
theorem fW_law_127 : decode (m_cc M_W_law) 127 = .ok (.iadd, 1) := by decide +kernel
theorem fW_law_128 : decode (m_cc M_W_law) 128 = .ok (.iaload, 1) := by decide +kernel
theorem fW_law_129 : decode (m_cc M_W_law) 129 = .ok (.aload_n 0, 1) := by decide +kernel
theorem fW_law_130 : decode (m_cc M_W_law) 130 = .ok (.iload 4, 2) := by decide +kernel
theorem fW_law_132 : decode (m_cc M_W_law) 132 = .ok (.iconst 3, 1) := by decide +kernel
theorem fW_law_133 : decode (m_cc M_W_law) 133 = .ok (.iadd, 1) := by decide +kernel
theorem fW_law_134 : decode (m_cc M_W_law) 134 = .ok (.iaload, 1) := by decide +kernel
theorem fW_law_135 : decode (m_cc M_W_law) 135 = .ok (.aload_n 0, 1) := by decide +kernel
theorem fW_law_136 : decode (m_cc M_W_law) 136 = .ok (.iload 4, 2) := by decide +kernel
theorem fW_law_138 : decode (m_cc M_W_law) 138 = .ok (.iconst 4, 1) := by decide +kernel
theorem fW_law_139 : decode (m_cc M_W_law) 139 = .ok (.iadd, 1) := by decide +kernel
theorem fW_law_140 : decode (m_cc M_W_law) 140 = .ok (.iaload, 1) := by decide +kernel
theorem fW_law_141 : decode (m_cc M_W_law) 141 = .ok (.aload_n 3, 1) := by decide +kernel
theorem fW_law_142 : decode (m_cc M_W_law) 142 = .ok (.invokestatic 74, 3) := by decide +kernel
theorem fW_law_145 : decode (m_cc M_W_law) 145 = .ok (.istore 5, 2) := by decide +kernel
theorem fW_law_147 : decode (m_cc M_W_law) 147 = .ok (.aload_n 2, 1) := by decide +kernel
theorem fW_law_148 : decode (m_cc M_W_law) 148 = .ok (.aload_n 0, 1) := by decide +kernel
theorem fW_law_149 : decode (m_cc M_W_law) 149 = .ok (.iload 4, 2) := by decide +kernel
theorem fW_law_151 : decode (m_cc M_W_law) 151 = .ok (.iconst 1, 1) := by decide +kernel
theorem fW_law_152 : decode (m_cc M_W_law) 152 = .ok (.iadd, 1) := by decide +kernel
theorem fW_law_153 : decode (m_cc M_W_law) 153 = .ok (.iaload, 1) := by decide +kernel
theorem fW_law_154 : decode (m_cc M_W_law) 154 = .ok (.aload_n 0, 1) := by decide +kernel
theorem fW_law_155 : decode (m_cc M_W_law) 155 = .ok (.iload 4, 2) := by decide +kernel
theorem fW_law_157 : decode (m_cc M_W_law) 157 = .ok (.iconst 2, 1) := by decide +kernel
theorem fW_law_158 : decode (m_cc M_W_law) 158 = .ok (.iadd, 1) := by decide +kernel
theorem fW_law_159 : decode (m_cc M_W_law) 159 = .ok (.iaload, 1) := by decide +kernel
theorem fW_law_160 : decode (m_cc M_W_law) 160 = .ok (.aload_n 0, 1) := by decide +kernel
theorem fW_law_161 : decode (m_cc M_W_law) 161 = .ok (.iload 4, 2) := by decide +kernel
theorem fW_law_163 : decode (m_cc M_W_law) 163 = .ok (.iconst 3, 1) := by decide +kernel
theorem fW_law_164 : decode (m_cc M_W_law) 164 = .ok (.iadd, 1) := by decide +kernel
theorem fW_law_165 : decode (m_cc M_W_law) 165 = .ok (.iaload, 1) := by decide +kernel
theorem fW_law_166 : decode (m_cc M_W_law) 166 = .ok (.aload_n 0, 1) := by decide +kernel
theorem fW_law_167 : decode (m_cc M_W_law) 167 = .ok (.iload 4, 2) := by decide +kernel
theorem fW_law_169 : decode (m_cc M_W_law) 169 = .ok (.iconst 4, 1) := by decide +kernel
theorem fW_law_170 : decode (m_cc M_W_law) 170 = .ok (.iadd, 1) := by decide +kernel
theorem fW_law_171 : decode (m_cc M_W_law) 171 = .ok (.iaload, 1) := by decide +kernel
theorem fW_law_172 : decode (m_cc M_W_law) 172 = .ok (.invokevirtual 79, 3) := by decide +kernel
theorem fW_law_175 : decode (m_cc M_W_law) 175 = .ok (.istore 6, 2) := by decide +kernel
theorem fW_law_177 : decode (m_cc M_W_law) 177 = .ok (.aload_n 2, 1) := by decide +kernel
theorem fW_law_178 : decode (m_cc M_W_law) 178 = .ok (.invokevirtual 80, 3) := by decide +kernel
theorem fW_law_181 : decode (m_cc M_W_law) 181 = .ok (.iload 5, 2) := by decide +kernel
theorem fW_law_183 : decode (m_cc M_W_law) 183 = .ok (.if_icmp .eq 5, 3) := by decide +kernel
theorem fW_law_186 : decode (m_cc M_W_law) 186 = .ok (.iconst 0, 1) := by decide +kernel
theorem fW_law_187 : decode (m_cc M_W_law) 187 = .ok (.ireturn, 1) := by decide +kernel
theorem fW_law_188 : decode (m_cc M_W_law) 188 = .ok (.iload 5, 2) := by decide +kernel
theorem fW_law_190 : decode (m_cc M_W_law) 190 = .ok (.ifCond .ne 15, 3) := by decide +kernel
theorem fW_law_193 : decode (m_cc M_W_law) 193 = .ok (.aload_n 3, 1) := by decide +kernel
theorem fW_law_194 : decode (m_cc M_W_law) 194 = .ok (.iconst 0, 1) := by decide +kernel
theorem fW_law_195 : decode (m_cc M_W_law) 195 = .ok (.laload, 1) := by decide +kernel
theorem fW_law_196 : decode (m_cc M_W_law) 196 = .ok (.iload 6, 2) := by decide +kernel
theorem fW_law_198 : decode (m_cc M_W_law) 198 = .ok (.i2l, 1) := by decide +kernel
theorem fW_law_199 : decode (m_cc M_W_law) 199 = .ok (.lcmp, 1) := by decide +kernel
theorem fW_law_200 : decode (m_cc M_W_law) 200 = .ok (.ifCond .eq 5, 3) := by decide +kernel
theorem fW_law_203 : decode (m_cc M_W_law) 203 = .ok (.iconst 0, 1) := by decide +kernel
theorem fW_law_204 : decode (m_cc M_W_law) 204 = .ok (.ireturn, 1) := by decide +kernel
theorem fW_law_205 : decode (m_cc M_W_law) 205 = .ok (.goto 977, 3) := by decide +kernel
theorem fW_law_208 : decode (m_cc M_W_law) 208 = .ok (.aload_n 1, 1) := by decide +kernel
theorem fW_law_209 : decode (m_cc M_W_law) 209 = .ok (.aload_n 0, 1) := by decide +kernel
theorem fW_law_210 : decode (m_cc M_W_law) 210 = .ok (.iload 4, 2) := by decide +kernel
theorem fW_law_212 : decode (m_cc M_W_law) 212 = .ok (.iconst 1, 1) := by decide +kernel
theorem fW_law_213 : decode (m_cc M_W_law) 213 = .ok (.iadd, 1) := by decide +kernel
theorem fW_law_214 : decode (m_cc M_W_law) 214 = .ok (.iaload, 1) := by decide +kernel
theorem fW_law_215 : decode (m_cc M_W_law) 215 = .ok (.aload_n 0, 1) := by decide +kernel
theorem fW_law_216 : decode (m_cc M_W_law) 216 = .ok (.iload 4, 2) := by decide +kernel
theorem fW_law_218 : decode (m_cc M_W_law) 218 = .ok (.iconst 2, 1) := by decide +kernel
theorem fW_law_219 : decode (m_cc M_W_law) 219 = .ok (.iadd, 1) := by decide +kernel
theorem fW_law_220 : decode (m_cc M_W_law) 220 = .ok (.iaload, 1) := by decide +kernel
theorem fW_law_221 : decode (m_cc M_W_law) 221 = .ok (.aload_n 0, 1) := by decide +kernel
theorem fW_law_222 : decode (m_cc M_W_law) 222 = .ok (.iload 4, 2) := by decide +kernel
theorem fW_law_224 : decode (m_cc M_W_law) 224 = .ok (.iconst 3, 1) := by decide +kernel
theorem fW_law_225 : decode (m_cc M_W_law) 225 = .ok (.iadd, 1) := by decide +kernel
theorem fW_law_226 : decode (m_cc M_W_law) 226 = .ok (.iaload, 1) := by decide +kernel
theorem fW_law_227 : decode (m_cc M_W_law) 227 = .ok (.aload_n 0, 1) := by decide +kernel
theorem fW_law_228 : decode (m_cc M_W_law) 228 = .ok (.iload 4, 2) := by decide +kernel
theorem fW_law_230 : decode (m_cc M_W_law) 230 = .ok (.iconst 4, 1) := by decide +kernel
theorem fW_law_231 : decode (m_cc M_W_law) 231 = .ok (.iadd, 1) := by decide +kernel
theorem fW_law_232 : decode (m_cc M_W_law) 232 = .ok (.iaload, 1) := by decide +kernel
theorem fW_law_233 : decode (m_cc M_W_law) 233 = .ok (.aload_n 3, 1) := by decide +kernel
theorem fW_law_234 : decode (m_cc M_W_law) 234 = .ok (.invokestatic 84, 3) := by decide +kernel
theorem fW_law_237 : decode (m_cc M_W_law) 237 = .ok (.istore 5, 2) := by decide +kernel
theorem fW_law_239 : decode (m_cc M_W_law) 239 = .ok (.aload_n 2, 1) := by decide +kernel
theorem fW_law_240 : decode (m_cc M_W_law) 240 = .ok (.aload_n 0, 1) := by decide +kernel
theorem fW_law_241 : decode (m_cc M_W_law) 241 = .ok (.iload 4, 2) := by decide +kernel
theorem fW_law_243 : decode (m_cc M_W_law) 243 = .ok (.iconst 1, 1) := by decide +kernel
theorem fW_law_244 : decode (m_cc M_W_law) 244 = .ok (.iadd, 1) := by decide +kernel
theorem fW_law_245 : decode (m_cc M_W_law) 245 = .ok (.iaload, 1) := by decide +kernel
theorem fW_law_246 : decode (m_cc M_W_law) 246 = .ok (.aload_n 0, 1) := by decide +kernel
theorem fW_law_247 : decode (m_cc M_W_law) 247 = .ok (.iload 4, 2) := by decide +kernel
