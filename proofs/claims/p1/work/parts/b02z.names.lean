set_option maxRecDepth 20000 in
theorem dL_law_0_b : (decode cL_law 0 = .ok (.new 8, 3)) ∧ (decode cL_law 3 = .ok (.dup, 1)) ∧ (decode cL_law 4 = .ok (.invokespecial 42, 3)) ∧ (decode cL_law 7 = .ok (.astore_n 1, 1)) ∧ (decode cL_law 8 = .ok (.new 43, 3)) ∧ (decode cL_law 11 = .ok (.dup, 1)) := by decide +kernel
theorem dL_law_0 : decode cL_law 0 = .ok (.new 8, 3) := dL_law_0_b.1
theorem dL_law_3 : decode cL_law 3 = .ok (.dup, 1) := dL_law_0_b.2.1
theorem dL_law_4 : decode cL_law 4 = .ok (.invokespecial 42, 3) := dL_law_0_b.2.2.1
theorem dL_law_7 : decode cL_law 7 = .ok (.astore_n 1, 1) := dL_law_0_b.2.2.2.1
theorem dL_law_8 : decode cL_law 8 = .ok (.new 43, 3) := dL_law_0_b.2.2.2.2.1
theorem dL_law_11 : decode cL_law 11 = .ok (.dup, 1) := dL_law_0_b.2.2.2.2.2
set_option maxRecDepth 20000 in
theorem dL_law_12_b : (decode cL_law 12 = .ok (.invokespecial 45, 3)) ∧ (decode cL_law 15 = .ok (.astore_n 2, 1)) ∧ (decode cL_law 16 = .ok (.iconst 1, 1)) ∧ (decode cL_law 17 = .ok (.newarray .long, 2)) ∧ (decode cL_law 19 = .ok (.astore_n 3, 1)) ∧ (decode cL_law 20 = .ok (.iconst 0, 1)) := by decide +kernel
theorem dL_law_12 : decode cL_law 12 = .ok (.invokespecial 45, 3) := dL_law_12_b.1
theorem dL_law_15 : decode cL_law 15 = .ok (.astore_n 2, 1) := dL_law_12_b.2.1
theorem dL_law_16 : decode cL_law 16 = .ok (.iconst 1, 1) := dL_law_12_b.2.2.1
theorem dL_law_17 : decode cL_law 17 = .ok (.newarray .long, 2) := dL_law_12_b.2.2.2.1
theorem dL_law_19 : decode cL_law 19 = .ok (.astore_n 3, 1) := dL_law_12_b.2.2.2.2.1
theorem dL_law_20 : decode cL_law 20 = .ok (.iconst 0, 1) := dL_law_12_b.2.2.2.2.2
set_option maxRecDepth 20000 in
theorem dL_law_21_b : (decode cL_law 21 = .ok (.istore 4, 2)) ∧ (decode cL_law 23 = .ok (.iload 4, 2)) ∧ (decode cL_law 25 = .ok (.aload_n 0, 1)) ∧ (decode cL_law 26 = .ok (.arraylength, 1)) ∧ (decode cL_law 27 = .ok (.bipush 6, 2)) ∧ (decode cL_law 29 = .ok (.isub, 1)) := by decide +kernel
theorem dL_law_21 : decode cL_law 21 = .ok (.istore 4, 2) := dL_law_21_b.1
theorem dL_law_23 : decode cL_law 23 = .ok (.iload 4, 2) := dL_law_21_b.2.1
theorem dL_law_25 : decode cL_law 25 = .ok (.aload_n 0, 1) := dL_law_21_b.2.2.1
theorem dL_law_26 : decode cL_law 26 = .ok (.arraylength, 1) := dL_law_21_b.2.2.2.1
theorem dL_law_27 : decode cL_law 27 = .ok (.bipush 6, 2) := dL_law_21_b.2.2.2.2.1
theorem dL_law_29 : decode cL_law 29 = .ok (.isub, 1) := dL_law_21_b.2.2.2.2.2
set_option maxRecDepth 20000 in
theorem dL_law_30_b : (decode cL_law 30 = .ok (.if_icmp .gt 978, 3)) ∧ (decode cL_law 33 = .ok (.aload_n 0, 1)) ∧ (decode cL_law 34 = .ok (.iload 4, 2)) ∧ (decode cL_law 36 = .ok (.iaload, 1)) ∧ (decode cL_law 37 = .ok (.bipush 31, 2)) ∧ (decode cL_law 39 = .ok (.iand, 1)) := by decide +kernel
theorem dL_law_30 : decode cL_law 30 = .ok (.if_icmp .gt 978, 3) := dL_law_30_b.1
theorem dL_law_33 : decode cL_law 33 = .ok (.aload_n 0, 1) := dL_law_30_b.2.1
theorem dL_law_34 : decode cL_law 34 = .ok (.iload 4, 2) := dL_law_30_b.2.2.1
theorem dL_law_36 : decode cL_law 36 = .ok (.iaload, 1) := dL_law_30_b.2.2.2.1
theorem dL_law_37 : decode cL_law 37 = .ok (.bipush 31, 2) := dL_law_30_b.2.2.2.2.1
theorem dL_law_39 : decode cL_law 39 = .ok (.iand, 1) := dL_law_30_b.2.2.2.2.2
set_option maxRecDepth 20000 in
theorem dL_law_40_b : (decode cL_law 40 = .ok (.tableswitch 962 0 20 #[100, 173, 229, 242, 298, 366, 434, 471, 496, 533, 558, 583, 596, 664, 677, 733, 789, 857, 882, 938, 949], 100)) ∧ (decode cL_law 140 = .ok (.aload_n 1, 1)) ∧ (decode cL_law 141 = .ok (.aload_n 0, 1)) ∧ (decode cL_law 142 = .ok (.iload 4, 2)) ∧ (decode cL_law 144 = .ok (.iconst 1, 1)) ∧ (decode cL_law 145 = .ok (.iadd, 1)) := by decide +kernel
theorem dL_law_40 : decode cL_law 40 = .ok (.tableswitch 962 0 20 #[100, 173, 229, 242, 298, 366, 434, 471, 496, 533, 558, 583, 596, 664, 677, 733, 789, 857, 882, 938, 949], 100) := dL_law_40_b.1
theorem dL_law_140 : decode cL_law 140 = .ok (.aload_n 1, 1) := dL_law_40_b.2.1
theorem dL_law_141 : decode cL_law 141 = .ok (.aload_n 0, 1) := dL_law_40_b.2.2.1
theorem dL_law_142 : decode cL_law 142 = .ok (.iload 4, 2) := dL_law_40_b.2.2.2.1
theorem dL_law_144 : decode cL_law 144 = .ok (.iconst 1, 1) := dL_law_40_b.2.2.2.2.1
theorem dL_law_145 : decode cL_law 145 = .ok (.iadd, 1) := dL_law_40_b.2.2.2.2.2
set_option maxRecDepth 20000 in
theorem dL_law_146_b : (decode cL_law 146 = .ok (.iaload, 1)) ∧ (decode cL_law 147 = .ok (.aload_n 0, 1)) ∧ (decode cL_law 148 = .ok (.iload 4, 2)) ∧ (decode cL_law 150 = .ok (.iconst 2, 1)) ∧ (decode cL_law 151 = .ok (.iadd, 1)) ∧ (decode cL_law 152 = .ok (.iaload, 1)) := by decide +kernel
theorem dL_law_146 : decode cL_law 146 = .ok (.iaload, 1) := dL_law_146_b.1
theorem dL_law_147 : decode cL_law 147 = .ok (.aload_n 0, 1) := dL_law_146_b.2.1
theorem dL_law_148 : decode cL_law 148 = .ok (.iload 4, 2) := dL_law_146_b.2.2.1
theorem dL_law_150 : decode cL_law 150 = .ok (.iconst 2, 1) := dL_law_146_b.2.2.2.1
theorem dL_law_151 : decode cL_law 151 = .ok (.iadd, 1) := dL_law_146_b.2.2.2.2.1
theorem dL_law_152 : decode cL_law 152 = .ok (.iaload, 1) := dL_law_146_b.2.2.2.2.2
set_option maxRecDepth 20000 in
theorem dL_law_153_b : (decode cL_law 153 = .ok (.aload_n 0, 1)) ∧ (decode cL_law 154 = .ok (.iload 4, 2)) ∧ (decode cL_law 156 = .ok (.iconst 3, 1)) ∧ (decode cL_law 157 = .ok (.iadd, 1)) ∧ (decode cL_law 158 = .ok (.iaload, 1)) ∧ (decode cL_law 159 = .ok (.aload_n 0, 1)) := by decide +kernel
theorem dL_law_153 : decode cL_law 153 = .ok (.aload_n 0, 1) := dL_law_153_b.1
theorem dL_law_154 : decode cL_law 154 = .ok (.iload 4, 2) := dL_law_153_b.2.1
theorem dL_law_156 : decode cL_law 156 = .ok (.iconst 3, 1) := dL_law_153_b.2.2.1
theorem dL_law_157 : decode cL_law 157 = .ok (.iadd, 1) := dL_law_153_b.2.2.2.1
theorem dL_law_158 : decode cL_law 158 = .ok (.iaload, 1) := dL_law_153_b.2.2.2.2.1
theorem dL_law_159 : decode cL_law 159 = .ok (.aload_n 0, 1) := dL_law_153_b.2.2.2.2.2
set_option maxRecDepth 20000 in
theorem dL_law_160_b : (decode cL_law 160 = .ok (.iload 4, 2)) ∧ (decode cL_law 162 = .ok (.iconst 4, 1)) ∧ (decode cL_law 163 = .ok (.iadd, 1)) ∧ (decode cL_law 164 = .ok (.iaload, 1)) ∧ (decode cL_law 165 = .ok (.aload_n 0, 1)) ∧ (decode cL_law 166 = .ok (.iload 4, 2)) := by decide +kernel
theorem dL_law_160 : decode cL_law 160 = .ok (.iload 4, 2) := dL_law_160_b.1
theorem dL_law_162 : decode cL_law 162 = .ok (.iconst 4, 1) := dL_law_160_b.2.1
theorem dL_law_163 : decode cL_law 163 = .ok (.iadd, 1) := dL_law_160_b.2.2.1
theorem dL_law_164 : decode cL_law 164 = .ok (.iaload, 1) := dL_law_160_b.2.2.2.1
theorem dL_law_165 : decode cL_law 165 = .ok (.aload_n 0, 1) := dL_law_160_b.2.2.2.2.1
theorem dL_law_166 : decode cL_law 166 = .ok (.iload 4, 2) := dL_law_160_b.2.2.2.2.2
set_option maxRecDepth 20000 in
theorem dL_law_168_b : (decode cL_law 168 = .ok (.iconst 5, 1)) ∧ (decode cL_law 169 = .ok (.iadd, 1)) ∧ (decode cL_law 170 = .ok (.iaload, 1)) ∧ (decode cL_law 171 = .ok (.invokevirtual 46, 3)) ∧ (decode cL_law 174 = .ok (.aload_n 2, 1)) ∧ (decode cL_law 175 = .ok (.aload_n 0, 1)) := by decide +kernel
theorem dL_law_168 : decode cL_law 168 = .ok (.iconst 5, 1) := dL_law_168_b.1
theorem dL_law_169 : decode cL_law 169 = .ok (.iadd, 1) := dL_law_168_b.2.1
theorem dL_law_170 : decode cL_law 170 = .ok (.iaload, 1) := dL_law_168_b.2.2.1
theorem dL_law_171 : decode cL_law 171 = .ok (.invokevirtual 46, 3) := dL_law_168_b.2.2.2.1
theorem dL_law_174 : decode cL_law 174 = .ok (.aload_n 2, 1) := dL_law_168_b.2.2.2.2.1
theorem dL_law_175 : decode cL_law 175 = .ok (.aload_n 0, 1) := dL_law_168_b.2.2.2.2.2
set_option maxRecDepth 20000 in
theorem dL_law_176_b : (decode cL_law 176 = .ok (.iload 4, 2)) ∧ (decode cL_law 178 = .ok (.iconst 1, 1)) ∧ (decode cL_law 179 = .ok (.iadd, 1)) ∧ (decode cL_law 180 = .ok (.iaload, 1)) ∧ (decode cL_law 181 = .ok (.aload_n 0, 1)) ∧ (decode cL_law 182 = .ok (.iload 4, 2)) := by decide +kernel
theorem dL_law_176 : decode cL_law 176 = .ok (.iload 4, 2) := dL_law_176_b.1
theorem dL_law_178 : decode cL_law 178 = .ok (.iconst 1, 1) := dL_law_176_b.2.1
theorem dL_law_179 : decode cL_law 179 = .ok (.iadd, 1) := dL_law_176_b.2.2.1
theorem dL_law_180 : decode cL_law 180 = .ok (.iaload, 1) := dL_law_176_b.2.2.2.1
theorem dL_law_181 : decode cL_law 181 = .ok (.aload_n 0, 1) := dL_law_176_b.2.2.2.2.1
theorem dL_law_182 : decode cL_law 182 = .ok (.iload 4, 2) := dL_law_176_b.2.2.2.2.2
set_option maxRecDepth 20000 in
theorem dL_law_184_b : (decode cL_law 184 = .ok (.iconst 2, 1)) ∧ (decode cL_law 185 = .ok (.iadd, 1)) ∧ (decode cL_law 186 = .ok (.iaload, 1)) ∧ (decode cL_law 187 = .ok (.aload_n 0, 1)) ∧ (decode cL_law 188 = .ok (.iload 4, 2)) ∧ (decode cL_law 190 = .ok (.iconst 3, 1)) := by decide +kernel
theorem dL_law_184 : decode cL_law 184 = .ok (.iconst 2, 1) := dL_law_184_b.1
theorem dL_law_185 : decode cL_law 185 = .ok (.iadd, 1) := dL_law_184_b.2.1
theorem dL_law_186 : decode cL_law 186 = .ok (.iaload, 1) := dL_law_184_b.2.2.1
theorem dL_law_187 : decode cL_law 187 = .ok (.aload_n 0, 1) := dL_law_184_b.2.2.2.1
theorem dL_law_188 : decode cL_law 188 = .ok (.iload 4, 2) := dL_law_184_b.2.2.2.2.1
theorem dL_law_190 : decode cL_law 190 = .ok (.iconst 3, 1) := dL_law_184_b.2.2.2.2.2
set_option maxRecDepth 20000 in
theorem dL_law_191_b : (decode cL_law 191 = .ok (.iadd, 1)) ∧ (decode cL_law 192 = .ok (.iaload, 1)) ∧ (decode cL_law 193 = .ok (.aload_n 0, 1)) ∧ (decode cL_law 194 = .ok (.iload 4, 2)) ∧ (decode cL_law 196 = .ok (.iconst 4, 1)) ∧ (decode cL_law 197 = .ok (.iadd, 1)) := by decide +kernel
theorem dL_law_191 : decode cL_law 191 = .ok (.iadd, 1) := dL_law_191_b.1
theorem dL_law_192 : decode cL_law 192 = .ok (.iaload, 1) := dL_law_191_b.2.1
theorem dL_law_193 : decode cL_law 193 = .ok (.aload_n 0, 1) := dL_law_191_b.2.2.1
theorem dL_law_194 : decode cL_law 194 = .ok (.iload 4, 2) := dL_law_191_b.2.2.2.1
theorem dL_law_196 : decode cL_law 196 = .ok (.iconst 4, 1) := dL_law_191_b.2.2.2.2.1
theorem dL_law_197 : decode cL_law 197 = .ok (.iadd, 1) := dL_law_191_b.2.2.2.2.2
set_option maxRecDepth 20000 in
theorem dL_law_198_b : (decode cL_law 198 = .ok (.iaload, 1)) ∧ (decode cL_law 199 = .ok (.aload_n 0, 1)) ∧ (decode cL_law 200 = .ok (.iload 4, 2)) ∧ (decode cL_law 202 = .ok (.iconst 5, 1)) ∧ (decode cL_law 203 = .ok (.iadd, 1)) ∧ (decode cL_law 204 = .ok (.iaload, 1)) := by decide +kernel
theorem dL_law_198 : decode cL_law 198 = .ok (.iaload, 1) := dL_law_198_b.1
theorem dL_law_199 : decode cL_law 199 = .ok (.aload_n 0, 1) := dL_law_198_b.2.1
theorem dL_law_200 : decode cL_law 200 = .ok (.iload 4, 2) := dL_law_198_b.2.2.1
theorem dL_law_202 : decode cL_law 202 = .ok (.iconst 5, 1) := dL_law_198_b.2.2.2.1
theorem dL_law_203 : decode cL_law 203 = .ok (.iadd, 1) := dL_law_198_b.2.2.2.2.1
theorem dL_law_204 : decode cL_law 204 = .ok (.iaload, 1) := dL_law_198_b.2.2.2.2.2
set_option maxRecDepth 20000 in
theorem dL_law_205_b : (decode cL_law 205 = .ok (.invokevirtual 50, 3)) ∧ (decode cL_law 208 = .ok (.if_icmp .eq 794, 3)) ∧ (decode cL_law 211 = .ok (.iconst 0, 1)) ∧ (decode cL_law 212 = .ok (.ireturn, 1)) ∧ (decode cL_law 213 = .ok (.aload_n 1, 1)) ∧ (decode cL_law 214 = .ok (.aload_n 0, 1)) := by decide +kernel
theorem dL_law_205 : decode cL_law 205 = .ok (.invokevirtual 50, 3) := dL_law_205_b.1
theorem dL_law_208 : decode cL_law 208 = .ok (.if_icmp .eq 794, 3) := dL_law_205_b.2.1
theorem dL_law_211 : decode cL_law 211 = .ok (.iconst 0, 1) := dL_law_205_b.2.2.1
theorem dL_law_212 : decode cL_law 212 = .ok (.ireturn, 1) := dL_law_205_b.2.2.2.1
theorem dL_law_213 : decode cL_law 213 = .ok (.aload_n 1, 1) := dL_law_205_b.2.2.2.2.1
theorem dL_law_214 : decode cL_law 214 = .ok (.aload_n 0, 1) := dL_law_205_b.2.2.2.2.2
set_option maxRecDepth 20000 in
theorem dL_law_215_b : (decode cL_law 215 = .ok (.iload 4, 2)) ∧ (decode cL_law 217 = .ok (.iconst 1, 1)) ∧ (decode cL_law 218 = .ok (.iadd, 1)) ∧ (decode cL_law 219 = .ok (.iaload, 1)) ∧ (decode cL_law 220 = .ok (.aload_n 3, 1)) ∧ (decode cL_law 221 = .ok (.invokestatic 51, 3)) := by decide +kernel
theorem dL_law_215 : decode cL_law 215 = .ok (.iload 4, 2) := dL_law_215_b.1
theorem dL_law_217 : decode cL_law 217 = .ok (.iconst 1, 1) := dL_law_215_b.2.1
theorem dL_law_218 : decode cL_law 218 = .ok (.iadd, 1) := dL_law_215_b.2.2.1
theorem dL_law_219 : decode cL_law 219 = .ok (.iaload, 1) := dL_law_215_b.2.2.2.1
theorem dL_law_220 : decode cL_law 220 = .ok (.aload_n 3, 1) := dL_law_215_b.2.2.2.2.1
theorem dL_law_221 : decode cL_law 221 = .ok (.invokestatic 51, 3) := dL_law_215_b.2.2.2.2.2
set_option maxRecDepth 20000 in
theorem dL_law_224_b : (decode cL_law 224 = .ok (.istore 5, 2)) ∧ (decode cL_law 226 = .ok (.aload_n 2, 1)) ∧ (decode cL_law 227 = .ok (.aload_n 0, 1)) ∧ (decode cL_law 228 = .ok (.iload 4, 2)) ∧ (decode cL_law 230 = .ok (.iconst 1, 1)) ∧ (decode cL_law 231 = .ok (.iadd, 1)) := by decide +kernel
theorem dL_law_224 : decode cL_law 224 = .ok (.istore 5, 2) := dL_law_224_b.1
theorem dL_law_226 : decode cL_law 226 = .ok (.aload_n 2, 1) := dL_law_224_b.2.1
theorem dL_law_227 : decode cL_law 227 = .ok (.aload_n 0, 1) := dL_law_224_b.2.2.1
theorem dL_law_228 : decode cL_law 228 = .ok (.iload 4, 2) := dL_law_224_b.2.2.2.1
theorem dL_law_230 : decode cL_law 230 = .ok (.iconst 1, 1) := dL_law_224_b.2.2.2.2.1
theorem dL_law_231 : decode cL_law 231 = .ok (.iadd, 1) := dL_law_224_b.2.2.2.2.2
set_option maxRecDepth 20000 in
theorem dL_law_232_b : (decode cL_law 232 = .ok (.iaload, 1)) ∧ (decode cL_law 233 = .ok (.invokevirtual 56, 3)) ∧ (decode cL_law 236 = .ok (.istore 6, 2)) ∧ (decode cL_law 238 = .ok (.aload_n 2, 1)) ∧ (decode cL_law 239 = .ok (.invokevirtual 57, 3)) ∧ (decode cL_law 242 = .ok (.iload 5, 2)) := by decide +kernel
theorem dL_law_232 : decode cL_law 232 = .ok (.iaload, 1) := dL_law_232_b.1
theorem dL_law_233 : decode cL_law 233 = .ok (.invokevirtual 56, 3) := dL_law_232_b.2.1
theorem dL_law_236 : decode cL_law 236 = .ok (.istore 6, 2) := dL_law_232_b.2.2.1
theorem dL_law_238 : decode cL_law 238 = .ok (.aload_n 2, 1) := dL_law_232_b.2.2.2.1
theorem dL_law_239 : decode cL_law 239 = .ok (.invokevirtual 57, 3) := dL_law_232_b.2.2.2.2.1
theorem dL_law_242 : decode cL_law 242 = .ok (.iload 5, 2) := dL_law_232_b.2.2.2.2.2
set_option maxRecDepth 20000 in
theorem dL_law_244_b : (decode cL_law 244 = .ok (.if_icmp .eq 5, 3)) ∧ (decode cL_law 247 = .ok (.iconst 0, 1)) ∧ (decode cL_law 248 = .ok (.ireturn, 1)) ∧ (decode cL_law 249 = .ok (.iload 5, 2)) ∧ (decode cL_law 251 = .ok (.ifCond .ne 15, 3)) ∧ (decode cL_law 254 = .ok (.aload_n 3, 1)) := by decide +kernel
theorem dL_law_244 : decode cL_law 244 = .ok (.if_icmp .eq 5, 3) := dL_law_244_b.1
theorem dL_law_247 : decode cL_law 247 = .ok (.iconst 0, 1) := dL_law_244_b.2.1
theorem dL_law_248 : decode cL_law 248 = .ok (.ireturn, 1) := dL_law_244_b.2.2.1
theorem dL_law_249 : decode cL_law 249 = .ok (.iload 5, 2) := dL_law_244_b.2.2.2.1
theorem dL_law_251 : decode cL_law 251 = .ok (.ifCond .ne 15, 3) := dL_law_244_b.2.2.2.2.1
theorem dL_law_254 : decode cL_law 254 = .ok (.aload_n 3, 1) := dL_law_244_b.2.2.2.2.2
set_option maxRecDepth 20000 in
theorem dL_law_255_b : (decode cL_law 255 = .ok (.iconst 0, 1)) ∧ (decode cL_law 256 = .ok (.laload, 1)) ∧ (decode cL_law 257 = .ok (.iload 6, 2)) ∧ (decode cL_law 259 = .ok (.i2l, 1)) ∧ (decode cL_law 260 = .ok (.lcmp, 1)) ∧ (decode cL_law 261 = .ok (.ifCond .eq 5, 3)) := by decide +kernel
theorem dL_law_255 : decode cL_law 255 = .ok (.iconst 0, 1) := dL_law_255_b.1
theorem dL_law_256 : decode cL_law 256 = .ok (.laload, 1) := dL_law_255_b.2.1
theorem dL_law_257 : decode cL_law 257 = .ok (.iload 6, 2) := dL_law_255_b.2.2.1
theorem dL_law_259 : decode cL_law 259 = .ok (.i2l, 1) := dL_law_255_b.2.2.2.1
theorem dL_law_260 : decode cL_law 260 = .ok (.lcmp, 1) := dL_law_255_b.2.2.2.2.1
theorem dL_law_261 : decode cL_law 261 = .ok (.ifCond .eq 5, 3) := dL_law_255_b.2.2.2.2.2
set_option maxRecDepth 20000 in
theorem dL_law_264_b : (decode cL_law 264 = .ok (.iconst 0, 1)) ∧ (decode cL_law 265 = .ok (.ireturn, 1)) ∧ (decode cL_law 266 = .ok (.goto 736, 3)) ∧ (decode cL_law 269 = .ok (.aload_n 1, 1)) ∧ (decode cL_law 270 = .ok (.invokevirtual 61, 3)) ∧ (decode cL_law 273 = .ok (.aload_n 2, 1)) := by decide +kernel
theorem dL_law_264 : decode cL_law 264 = .ok (.iconst 0, 1) := dL_law_264_b.1
theorem dL_law_265 : decode cL_law 265 = .ok (.ireturn, 1) := dL_law_264_b.2.1
theorem dL_law_266 : decode cL_law 266 = .ok (.goto 736, 3) := dL_law_264_b.2.2.1
theorem dL_law_269 : decode cL_law 269 = .ok (.aload_n 1, 1) := dL_law_264_b.2.2.2.1
theorem dL_law_270 : decode cL_law 270 = .ok (.invokevirtual 61, 3) := dL_law_264_b.2.2.2.2.1
theorem dL_law_273 : decode cL_law 273 = .ok (.aload_n 2, 1) := dL_law_264_b.2.2.2.2.2
set_option maxRecDepth 20000 in
theorem dL_law_274_b : (decode cL_law 274 = .ok (.invokevirtual 64, 3)) ∧ (decode cL_law 277 = .ok (.if_icmp .eq 725, 3)) ∧ (decode cL_law 280 = .ok (.iconst 0, 1)) ∧ (decode cL_law 281 = .ok (.ireturn, 1)) ∧ (decode cL_law 282 = .ok (.aload_n 1, 1)) ∧ (decode cL_law 283 = .ok (.aload_n 0, 1)) := by decide +kernel
theorem dL_law_274 : decode cL_law 274 = .ok (.invokevirtual 64, 3) := dL_law_274_b.1
theorem dL_law_277 : decode cL_law 277 = .ok (.if_icmp .eq 725, 3) := dL_law_274_b.2.1
theorem dL_law_280 : decode cL_law 280 = .ok (.iconst 0, 1) := dL_law_274_b.2.2.1
theorem dL_law_281 : decode cL_law 281 = .ok (.ireturn, 1) := dL_law_274_b.2.2.2.1
theorem dL_law_282 : decode cL_law 282 = .ok (.aload_n 1, 1) := dL_law_274_b.2.2.2.2.1
theorem dL_law_283 : decode cL_law 283 = .ok (.aload_n 0, 1) := dL_law_274_b.2.2.2.2.2
set_option maxRecDepth 20000 in
theorem dL_law_284_b : (decode cL_law 284 = .ok (.iload 4, 2)) ∧ (decode cL_law 286 = .ok (.iconst 1, 1)) ∧ (decode cL_law 287 = .ok (.iadd, 1)) ∧ (decode cL_law 288 = .ok (.iaload, 1)) ∧ (decode cL_law 289 = .ok (.aload_n 3, 1)) ∧ (decode cL_law 290 = .ok (.invokestatic 65, 3)) := by decide +kernel
theorem dL_law_284 : decode cL_law 284 = .ok (.iload 4, 2) := dL_law_284_b.1
theorem dL_law_286 : decode cL_law 286 = .ok (.iconst 1, 1) := dL_law_284_b.2.1
theorem dL_law_287 : decode cL_law 287 = .ok (.iadd, 1) := dL_law_284_b.2.2.1
theorem dL_law_288 : decode cL_law 288 = .ok (.iaload, 1) := dL_law_284_b.2.2.2.1
theorem dL_law_289 : decode cL_law 289 = .ok (.aload_n 3, 1) := dL_law_284_b.2.2.2.2.1
theorem dL_law_290 : decode cL_law 290 = .ok (.invokestatic 65, 3) := dL_law_284_b.2.2.2.2.2
set_option maxRecDepth 20000 in
theorem dL_law_293_b : (decode cL_law 293 = .ok (.istore 5, 2)) ∧ (decode cL_law 295 = .ok (.aload_n 2, 1)) ∧ (decode cL_law 296 = .ok (.aload_n 0, 1)) ∧ (decode cL_law 297 = .ok (.iload 4, 2)) ∧ (decode cL_law 299 = .ok (.iconst 1, 1)) ∧ (decode cL_law 300 = .ok (.iadd, 1)) := by decide +kernel
theorem dL_law_293 : decode cL_law 293 = .ok (.istore 5, 2) := dL_law_293_b.1
theorem dL_law_295 : decode cL_law 295 = .ok (.aload_n 2, 1) := dL_law_293_b.2.1
theorem dL_law_296 : decode cL_law 296 = .ok (.aload_n 0, 1) := dL_law_293_b.2.2.1
theorem dL_law_297 : decode cL_law 297 = .ok (.iload 4, 2) := dL_law_293_b.2.2.2.1
theorem dL_law_299 : decode cL_law 299 = .ok (.iconst 1, 1) := dL_law_293_b.2.2.2.2.1
theorem dL_law_300 : decode cL_law 300 = .ok (.iadd, 1) := dL_law_293_b.2.2.2.2.2
set_option maxRecDepth 20000 in
theorem dL_law_301_b : (decode cL_law 301 = .ok (.iaload, 1)) ∧ (decode cL_law 302 = .ok (.invokevirtual 67, 3)) ∧ (decode cL_law 305 = .ok (.istore 6, 2)) ∧ (decode cL_law 307 = .ok (.aload_n 2, 1)) ∧ (decode cL_law 308 = .ok (.invokevirtual 57, 3)) ∧ (decode cL_law 311 = .ok (.iload 5, 2)) := by decide +kernel
theorem dL_law_301 : decode cL_law 301 = .ok (.iaload, 1) := dL_law_301_b.1
theorem dL_law_302 : decode cL_law 302 = .ok (.invokevirtual 67, 3) := dL_law_301_b.2.1
theorem dL_law_305 : decode cL_law 305 = .ok (.istore 6, 2) := dL_law_301_b.2.2.1
theorem dL_law_307 : decode cL_law 307 = .ok (.aload_n 2, 1) := dL_law_301_b.2.2.2.1
theorem dL_law_308 : decode cL_law 308 = .ok (.invokevirtual 57, 3) := dL_law_301_b.2.2.2.2.1
theorem dL_law_311 : decode cL_law 311 = .ok (.iload 5, 2) := dL_law_301_b.2.2.2.2.2
set_option maxRecDepth 20000 in
theorem dL_law_313_b : (decode cL_law 313 = .ok (.if_icmp .eq 5, 3)) ∧ (decode cL_law 316 = .ok (.iconst 0, 1)) ∧ (decode cL_law 317 = .ok (.ireturn, 1)) ∧ (decode cL_law 318 = .ok (.iload 5, 2)) ∧ (decode cL_law 320 = .ok (.ifCond .ne 15, 3)) ∧ (decode cL_law 323 = .ok (.aload_n 3, 1)) := by decide +kernel
theorem dL_law_313 : decode cL_law 313 = .ok (.if_icmp .eq 5, 3) := dL_law_313_b.1
theorem dL_law_316 : decode cL_law 316 = .ok (.iconst 0, 1) := dL_law_313_b.2.1
theorem dL_law_317 : decode cL_law 317 = .ok (.ireturn, 1) := dL_law_313_b.2.2.1
theorem dL_law_318 : decode cL_law 318 = .ok (.iload 5, 2) := dL_law_313_b.2.2.2.1
theorem dL_law_320 : decode cL_law 320 = .ok (.ifCond .ne 15, 3) := dL_law_313_b.2.2.2.2.1
theorem dL_law_323 : decode cL_law 323 = .ok (.aload_n 3, 1) := dL_law_313_b.2.2.2.2.2
set_option maxRecDepth 20000 in
theorem dL_law_324_b : (decode cL_law 324 = .ok (.iconst 0, 1)) ∧ (decode cL_law 325 = .ok (.laload, 1)) ∧ (decode cL_law 326 = .ok (.iload 6, 2)) ∧ (decode cL_law 328 = .ok (.i2l, 1)) ∧ (decode cL_law 329 = .ok (.lcmp, 1)) ∧ (decode cL_law 330 = .ok (.ifCond .eq 5, 3)) := by decide +kernel
theorem dL_law_324 : decode cL_law 324 = .ok (.iconst 0, 1) := dL_law_324_b.1
theorem dL_law_325 : decode cL_law 325 = .ok (.laload, 1) := dL_law_324_b.2.1
theorem dL_law_326 : decode cL_law 326 = .ok (.iload 6, 2) := dL_law_324_b.2.2.1
theorem dL_law_328 : decode cL_law 328 = .ok (.i2l, 1) := dL_law_324_b.2.2.2.1
theorem dL_law_329 : decode cL_law 329 = .ok (.lcmp, 1) := dL_law_324_b.2.2.2.2.1
theorem dL_law_330 : decode cL_law 330 = .ok (.ifCond .eq 5, 3) := dL_law_324_b.2.2.2.2.2
set_option maxRecDepth 20000 in
theorem dL_law_333_b : (decode cL_law 333 = .ok (.iconst 0, 1)) ∧ (decode cL_law 334 = .ok (.ireturn, 1)) ∧ (decode cL_law 335 = .ok (.goto 667, 3)) ∧ (decode cL_law 338 = .ok (.aload_n 1, 1)) ∧ (decode cL_law 339 = .ok (.aload_n 0, 1)) ∧ (decode cL_law 340 = .ok (.iload 4, 2)) := by decide +kernel
theorem dL_law_333 : decode cL_law 333 = .ok (.iconst 0, 1) := dL_law_333_b.1
theorem dL_law_334 : decode cL_law 334 = .ok (.ireturn, 1) := dL_law_333_b.2.1
theorem dL_law_335 : decode cL_law 335 = .ok (.goto 667, 3) := dL_law_333_b.2.2.1
theorem dL_law_338 : decode cL_law 338 = .ok (.aload_n 1, 1) := dL_law_333_b.2.2.2.1
theorem dL_law_339 : decode cL_law 339 = .ok (.aload_n 0, 1) := dL_law_333_b.2.2.2.2.1
theorem dL_law_340 : decode cL_law 340 = .ok (.iload 4, 2) := dL_law_333_b.2.2.2.2.2
set_option maxRecDepth 20000 in
theorem dL_law_342_b : (decode cL_law 342 = .ok (.iconst 1, 1)) ∧ (decode cL_law 343 = .ok (.iadd, 1)) ∧ (decode cL_law 344 = .ok (.iaload, 1)) ∧ (decode cL_law 345 = .ok (.aload_n 0, 1)) ∧ (decode cL_law 346 = .ok (.iload 4, 2)) ∧ (decode cL_law 348 = .ok (.iconst 2, 1)) := by decide +kernel
theorem dL_law_342 : decode cL_law 342 = .ok (.iconst 1, 1) := dL_law_342_b.1
theorem dL_law_343 : decode cL_law 343 = .ok (.iadd, 1) := dL_law_342_b.2.1
theorem dL_law_344 : decode cL_law 344 = .ok (.iaload, 1) := dL_law_342_b.2.2.1
theorem dL_law_345 : decode cL_law 345 = .ok (.aload_n 0, 1) := dL_law_342_b.2.2.2.1
theorem dL_law_346 : decode cL_law 346 = .ok (.iload 4, 2) := dL_law_342_b.2.2.2.2.1
theorem dL_law_348 : decode cL_law 348 = .ok (.iconst 2, 1) := dL_law_342_b.2.2.2.2.2
set_option maxRecDepth 20000 in
theorem dL_law_349_b : (decode cL_law 349 = .ok (.iadd, 1)) ∧ (decode cL_law 350 = .ok (.iaload, 1)) ∧ (decode cL_law 351 = .ok (.aload_n 3, 1)) ∧ (decode cL_law 352 = .ok (.invokestatic 68, 3)) ∧ (decode cL_law 355 = .ok (.istore 5, 2)) ∧ (decode cL_law 357 = .ok (.aload_n 2, 1)) := by decide +kernel
theorem dL_law_349 : decode cL_law 349 = .ok (.iadd, 1) := dL_law_349_b.1
theorem dL_law_350 : decode cL_law 350 = .ok (.iaload, 1) := dL_law_349_b.2.1
theorem dL_law_351 : decode cL_law 351 = .ok (.aload_n 3, 1) := dL_law_349_b.2.2.1
theorem dL_law_352 : decode cL_law 352 = .ok (.invokestatic 68, 3) := dL_law_349_b.2.2.2.1
theorem dL_law_355 : decode cL_law 355 = .ok (.istore 5, 2) := dL_law_349_b.2.2.2.2.1
theorem dL_law_357 : decode cL_law 357 = .ok (.aload_n 2, 1) := dL_law_349_b.2.2.2.2.2
set_option maxRecDepth 20000 in
theorem dL_law_358_b : (decode cL_law 358 = .ok (.aload_n 0, 1)) ∧ (decode cL_law 359 = .ok (.iload 4, 2)) ∧ (decode cL_law 361 = .ok (.iconst 1, 1)) ∧ (decode cL_law 362 = .ok (.iadd, 1)) ∧ (decode cL_law 363 = .ok (.iaload, 1)) ∧ (decode cL_law 364 = .ok (.aload_n 0, 1)) := by decide +kernel
theorem dL_law_358 : decode cL_law 358 = .ok (.aload_n 0, 1) := dL_law_358_b.1
theorem dL_law_359 : decode cL_law 359 = .ok (.iload 4, 2) := dL_law_358_b.2.1
theorem dL_law_361 : decode cL_law 361 = .ok (.iconst 1, 1) := dL_law_358_b.2.2.1
theorem dL_law_362 : decode cL_law 362 = .ok (.iadd, 1) := dL_law_358_b.2.2.2.1
theorem dL_law_363 : decode cL_law 363 = .ok (.iaload, 1) := dL_law_358_b.2.2.2.2.1
theorem dL_law_364 : decode cL_law 364 = .ok (.aload_n 0, 1) := dL_law_358_b.2.2.2.2.2
set_option maxRecDepth 20000 in
theorem dL_law_365_b : (decode cL_law 365 = .ok (.iload 4, 2)) ∧ (decode cL_law 367 = .ok (.iconst 2, 1)) ∧ (decode cL_law 368 = .ok (.iadd, 1)) ∧ (decode cL_law 369 = .ok (.iaload, 1)) ∧ (decode cL_law 370 = .ok (.invokevirtual 71, 3)) ∧ (decode cL_law 373 = .ok (.istore 6, 2)) := by decide +kernel
theorem dL_law_365 : decode cL_law 365 = .ok (.iload 4, 2) := dL_law_365_b.1
theorem dL_law_367 : decode cL_law 367 = .ok (.iconst 2, 1) := dL_law_365_b.2.1
theorem dL_law_368 : decode cL_law 368 = .ok (.iadd, 1) := dL_law_365_b.2.2.1
theorem dL_law_369 : decode cL_law 369 = .ok (.iaload, 1) := dL_law_365_b.2.2.2.1
theorem dL_law_370 : decode cL_law 370 = .ok (.invokevirtual 71, 3) := dL_law_365_b.2.2.2.2.1
theorem dL_law_373 : decode cL_law 373 = .ok (.istore 6, 2) := dL_law_365_b.2.2.2.2.2
set_option maxRecDepth 20000 in
theorem dL_law_375_b : (decode cL_law 375 = .ok (.aload_n 2, 1)) ∧ (decode cL_law 376 = .ok (.invokevirtual 57, 3)) ∧ (decode cL_law 379 = .ok (.iload 5, 2)) ∧ (decode cL_law 381 = .ok (.if_icmp .eq 5, 3)) ∧ (decode cL_law 384 = .ok (.iconst 0, 1)) ∧ (decode cL_law 385 = .ok (.ireturn, 1)) := by decide +kernel
theorem dL_law_375 : decode cL_law 375 = .ok (.aload_n 2, 1) := dL_law_375_b.1
theorem dL_law_376 : decode cL_law 376 = .ok (.invokevirtual 57, 3) := dL_law_375_b.2.1
theorem dL_law_379 : decode cL_law 379 = .ok (.iload 5, 2) := dL_law_375_b.2.2.1
theorem dL_law_381 : decode cL_law 381 = .ok (.if_icmp .eq 5, 3) := dL_law_375_b.2.2.2.1
theorem dL_law_384 : decode cL_law 384 = .ok (.iconst 0, 1) := dL_law_375_b.2.2.2.2.1
theorem dL_law_385 : decode cL_law 385 = .ok (.ireturn, 1) := dL_law_375_b.2.2.2.2.2
set_option maxRecDepth 20000 in
theorem dL_law_386_b : (decode cL_law 386 = .ok (.iload 5, 2)) ∧ (decode cL_law 388 = .ok (.ifCond .ne 15, 3)) ∧ (decode cL_law 391 = .ok (.aload_n 3, 1)) ∧ (decode cL_law 392 = .ok (.iconst 0, 1)) ∧ (decode cL_law 393 = .ok (.laload, 1)) ∧ (decode cL_law 394 = .ok (.iload 6, 2)) := by decide +kernel
theorem dL_law_386 : decode cL_law 386 = .ok (.iload 5, 2) := dL_law_386_b.1
theorem dL_law_388 : decode cL_law 388 = .ok (.ifCond .ne 15, 3) := dL_law_386_b.2.1
theorem dL_law_391 : decode cL_law 391 = .ok (.aload_n 3, 1) := dL_law_386_b.2.2.1
theorem dL_law_392 : decode cL_law 392 = .ok (.iconst 0, 1) := dL_law_386_b.2.2.2.1
theorem dL_law_393 : decode cL_law 393 = .ok (.laload, 1) := dL_law_386_b.2.2.2.2.1
theorem dL_law_394 : decode cL_law 394 = .ok (.iload 6, 2) := dL_law_386_b.2.2.2.2.2
set_option maxRecDepth 20000 in
theorem dL_law_396_b : (decode cL_law 396 = .ok (.i2l, 1)) ∧ (decode cL_law 397 = .ok (.lcmp, 1)) ∧ (decode cL_law 398 = .ok (.ifCond .eq 5, 3)) ∧ (decode cL_law 401 = .ok (.iconst 0, 1)) ∧ (decode cL_law 402 = .ok (.ireturn, 1)) ∧ (decode cL_law 403 = .ok (.goto 599, 3)) := by decide +kernel
theorem dL_law_396 : decode cL_law 396 = .ok (.i2l, 1) := dL_law_396_b.1
theorem dL_law_397 : decode cL_law 397 = .ok (.lcmp, 1) := dL_law_396_b.2.1
theorem dL_law_398 : decode cL_law 398 = .ok (.ifCond .eq 5, 3) := dL_law_396_b.2.2.1
theorem dL_law_401 : decode cL_law 401 = .ok (.iconst 0, 1) := dL_law_396_b.2.2.2.1
theorem dL_law_402 : decode cL_law 402 = .ok (.ireturn, 1) := dL_law_396_b.2.2.2.2.1
theorem dL_law_403 : decode cL_law 403 = .ok (.goto 599, 3) := dL_law_396_b.2.2.2.2.2
set_option maxRecDepth 20000 in
theorem dL_law_406_b : (decode cL_law 406 = .ok (.aload_n 1, 1)) ∧ (decode cL_law 407 = .ok (.aload_n 0, 1)) ∧ (decode cL_law 408 = .ok (.iload 4, 2)) ∧ (decode cL_law 410 = .ok (.iconst 1, 1)) ∧ (decode cL_law 411 = .ok (.iadd, 1)) ∧ (decode cL_law 412 = .ok (.iaload, 1)) := by decide +kernel
theorem dL_law_406 : decode cL_law 406 = .ok (.aload_n 1, 1) := dL_law_406_b.1
theorem dL_law_407 : decode cL_law 407 = .ok (.aload_n 0, 1) := dL_law_406_b.2.1
theorem dL_law_408 : decode cL_law 408 = .ok (.iload 4, 2) := dL_law_406_b.2.2.1
theorem dL_law_410 : decode cL_law 410 = .ok (.iconst 1, 1) := dL_law_406_b.2.2.2.1
theorem dL_law_411 : decode cL_law 411 = .ok (.iadd, 1) := dL_law_406_b.2.2.2.2.1
theorem dL_law_412 : decode cL_law 412 = .ok (.iaload, 1) := dL_law_406_b.2.2.2.2.2
set_option maxRecDepth 20000 in
theorem dL_law_413_b : (decode cL_law 413 = .ok (.aload_n 0, 1)) ∧ (decode cL_law 414 = .ok (.iload 4, 2)) ∧ (decode cL_law 416 = .ok (.iconst 2, 1)) ∧ (decode cL_law 417 = .ok (.iadd, 1)) ∧ (decode cL_law 418 = .ok (.iaload, 1)) ∧ (decode cL_law 419 = .ok (.aload_n 3, 1)) := by decide +kernel
theorem dL_law_413 : decode cL_law 413 = .ok (.aload_n 0, 1) := dL_law_413_b.1
theorem dL_law_414 : decode cL_law 414 = .ok (.iload 4, 2) := dL_law_413_b.2.1
theorem dL_law_416 : decode cL_law 416 = .ok (.iconst 2, 1) := dL_law_413_b.2.2.1
theorem dL_law_417 : decode cL_law 417 = .ok (.iadd, 1) := dL_law_413_b.2.2.2.1
theorem dL_law_418 : decode cL_law 418 = .ok (.iaload, 1) := dL_law_413_b.2.2.2.2.1
theorem dL_law_419 : decode cL_law 419 = .ok (.aload_n 3, 1) := dL_law_413_b.2.2.2.2.2
set_option maxRecDepth 20000 in
theorem dL_law_420_b : (decode cL_law 420 = .ok (.invokestatic 72, 3)) ∧ (decode cL_law 423 = .ok (.istore 5, 2)) ∧ (decode cL_law 425 = .ok (.aload_n 2, 1)) ∧ (decode cL_law 426 = .ok (.aload_n 0, 1)) ∧ (decode cL_law 427 = .ok (.iload 4, 2)) ∧ (decode cL_law 429 = .ok (.iconst 1, 1)) := by decide +kernel
theorem dL_law_420 : decode cL_law 420 = .ok (.invokestatic 72, 3) := dL_law_420_b.1
theorem dL_law_423 : decode cL_law 423 = .ok (.istore 5, 2) := dL_law_420_b.2.1
theorem dL_law_425 : decode cL_law 425 = .ok (.aload_n 2, 1) := dL_law_420_b.2.2.1
theorem dL_law_426 : decode cL_law 426 = .ok (.aload_n 0, 1) := dL_law_420_b.2.2.2.1
theorem dL_law_427 : decode cL_law 427 = .ok (.iload 4, 2) := dL_law_420_b.2.2.2.2.1
theorem dL_law_429 : decode cL_law 429 = .ok (.iconst 1, 1) := dL_law_420_b.2.2.2.2.2
set_option maxRecDepth 20000 in
theorem dL_law_430_b : (decode cL_law 430 = .ok (.iadd, 1)) ∧ (decode cL_law 431 = .ok (.iaload, 1)) ∧ (decode cL_law 432 = .ok (.aload_n 0, 1)) ∧ (decode cL_law 433 = .ok (.iload 4, 2)) ∧ (decode cL_law 435 = .ok (.iconst 2, 1)) ∧ (decode cL_law 436 = .ok (.iadd, 1)) := by decide +kernel
theorem dL_law_430 : decode cL_law 430 = .ok (.iadd, 1) := dL_law_430_b.1
theorem dL_law_431 : decode cL_law 431 = .ok (.iaload, 1) := dL_law_430_b.2.1
theorem dL_law_432 : decode cL_law 432 = .ok (.aload_n 0, 1) := dL_law_430_b.2.2.1
theorem dL_law_433 : decode cL_law 433 = .ok (.iload 4, 2) := dL_law_430_b.2.2.2.1
theorem dL_law_435 : decode cL_law 435 = .ok (.iconst 2, 1) := dL_law_430_b.2.2.2.2.1
theorem dL_law_436 : decode cL_law 436 = .ok (.iadd, 1) := dL_law_430_b.2.2.2.2.2
set_option maxRecDepth 20000 in
theorem dL_law_437_b : (decode cL_law 437 = .ok (.iaload, 1)) ∧ (decode cL_law 438 = .ok (.invokevirtual 74, 3)) ∧ (decode cL_law 441 = .ok (.istore 6, 2)) ∧ (decode cL_law 443 = .ok (.aload_n 2, 1)) ∧ (decode cL_law 444 = .ok (.invokevirtual 57, 3)) ∧ (decode cL_law 447 = .ok (.iload 5, 2)) := by decide +kernel
theorem dL_law_437 : decode cL_law 437 = .ok (.iaload, 1) := dL_law_437_b.1
theorem dL_law_438 : decode cL_law 438 = .ok (.invokevirtual 74, 3) := dL_law_437_b.2.1
theorem dL_law_441 : decode cL_law 441 = .ok (.istore 6, 2) := dL_law_437_b.2.2.1
theorem dL_law_443 : decode cL_law 443 = .ok (.aload_n 2, 1) := dL_law_437_b.2.2.2.1
theorem dL_law_444 : decode cL_law 444 = .ok (.invokevirtual 57, 3) := dL_law_437_b.2.2.2.2.1
theorem dL_law_447 : decode cL_law 447 = .ok (.iload 5, 2) := dL_law_437_b.2.2.2.2.2
set_option maxRecDepth 20000 in
theorem dL_law_449_b : (decode cL_law 449 = .ok (.if_icmp .eq 5, 3)) ∧ (decode cL_law 452 = .ok (.iconst 0, 1)) ∧ (decode cL_law 453 = .ok (.ireturn, 1)) ∧ (decode cL_law 454 = .ok (.iload 5, 2)) ∧ (decode cL_law 456 = .ok (.ifCond .ne 15, 3)) ∧ (decode cL_law 459 = .ok (.aload_n 3, 1)) := by decide +kernel
theorem dL_law_449 : decode cL_law 449 = .ok (.if_icmp .eq 5, 3) := dL_law_449_b.1
theorem dL_law_452 : decode cL_law 452 = .ok (.iconst 0, 1) := dL_law_449_b.2.1
theorem dL_law_453 : decode cL_law 453 = .ok (.ireturn, 1) := dL_law_449_b.2.2.1
theorem dL_law_454 : decode cL_law 454 = .ok (.iload 5, 2) := dL_law_449_b.2.2.2.1
theorem dL_law_456 : decode cL_law 456 = .ok (.ifCond .ne 15, 3) := dL_law_449_b.2.2.2.2.1
theorem dL_law_459 : decode cL_law 459 = .ok (.aload_n 3, 1) := dL_law_449_b.2.2.2.2.2
set_option maxRecDepth 20000 in
theorem dL_law_460_b : (decode cL_law 460 = .ok (.iconst 0, 1)) ∧ (decode cL_law 461 = .ok (.laload, 1)) ∧ (decode cL_law 462 = .ok (.iload 6, 2)) ∧ (decode cL_law 464 = .ok (.i2l, 1)) ∧ (decode cL_law 465 = .ok (.lcmp, 1)) ∧ (decode cL_law 466 = .ok (.ifCond .eq 5, 3)) := by decide +kernel
theorem dL_law_460 : decode cL_law 460 = .ok (.iconst 0, 1) := dL_law_460_b.1
theorem dL_law_461 : decode cL_law 461 = .ok (.laload, 1) := dL_law_460_b.2.1
theorem dL_law_462 : decode cL_law 462 = .ok (.iload 6, 2) := dL_law_460_b.2.2.1
theorem dL_law_464 : decode cL_law 464 = .ok (.i2l, 1) := dL_law_460_b.2.2.2.1
theorem dL_law_465 : decode cL_law 465 = .ok (.lcmp, 1) := dL_law_460_b.2.2.2.2.1
theorem dL_law_466 : decode cL_law 466 = .ok (.ifCond .eq 5, 3) := dL_law_460_b.2.2.2.2.2
set_option maxRecDepth 20000 in
theorem dL_law_469_b : (decode cL_law 469 = .ok (.iconst 0, 1)) ∧ (decode cL_law 470 = .ok (.ireturn, 1)) ∧ (decode cL_law 471 = .ok (.goto 531, 3)) ∧ (decode cL_law 474 = .ok (.aload_n 1, 1)) ∧ (decode cL_law 475 = .ok (.aload_n 0, 1)) ∧ (decode cL_law 476 = .ok (.iload 4, 2)) := by decide +kernel
theorem dL_law_469 : decode cL_law 469 = .ok (.iconst 0, 1) := dL_law_469_b.1
theorem dL_law_470 : decode cL_law 470 = .ok (.ireturn, 1) := dL_law_469_b.2.1
theorem dL_law_471 : decode cL_law 471 = .ok (.goto 531, 3) := dL_law_469_b.2.2.1
theorem dL_law_474 : decode cL_law 474 = .ok (.aload_n 1, 1) := dL_law_469_b.2.2.2.1
theorem dL_law_475 : decode cL_law 475 = .ok (.aload_n 0, 1) := dL_law_469_b.2.2.2.2.1
theorem dL_law_476 : decode cL_law 476 = .ok (.iload 4, 2) := dL_law_469_b.2.2.2.2.2
set_option maxRecDepth 20000 in
theorem dL_law_478_b : (decode cL_law 478 = .ok (.iconst 1, 1)) ∧ (decode cL_law 479 = .ok (.iadd, 1)) ∧ (decode cL_law 480 = .ok (.iaload, 1)) ∧ (decode cL_law 481 = .ok (.aload_n 0, 1)) ∧ (decode cL_law 482 = .ok (.iload 4, 2)) ∧ (decode cL_law 484 = .ok (.iconst 2, 1)) := by decide +kernel
theorem dL_law_478 : decode cL_law 478 = .ok (.iconst 1, 1) := dL_law_478_b.1
theorem dL_law_479 : decode cL_law 479 = .ok (.iadd, 1) := dL_law_478_b.2.1
theorem dL_law_480 : decode cL_law 480 = .ok (.iaload, 1) := dL_law_478_b.2.2.1
theorem dL_law_481 : decode cL_law 481 = .ok (.aload_n 0, 1) := dL_law_478_b.2.2.2.1
theorem dL_law_482 : decode cL_law 482 = .ok (.iload 4, 2) := dL_law_478_b.2.2.2.2.1
theorem dL_law_484 : decode cL_law 484 = .ok (.iconst 2, 1) := dL_law_478_b.2.2.2.2.2
set_option maxRecDepth 20000 in
theorem dL_law_485_b : (decode cL_law 485 = .ok (.iadd, 1)) ∧ (decode cL_law 486 = .ok (.iaload, 1)) ∧ (decode cL_law 487 = .ok (.invokevirtual 75, 3)) ∧ (decode cL_law 490 = .ok (.aload_n 2, 1)) ∧ (decode cL_law 491 = .ok (.aload_n 0, 1)) ∧ (decode cL_law 492 = .ok (.iload 4, 2)) := by decide +kernel
theorem dL_law_485 : decode cL_law 485 = .ok (.iadd, 1) := dL_law_485_b.1
theorem dL_law_486 : decode cL_law 486 = .ok (.iaload, 1) := dL_law_485_b.2.1
theorem dL_law_487 : decode cL_law 487 = .ok (.invokevirtual 75, 3) := dL_law_485_b.2.2.1
theorem dL_law_490 : decode cL_law 490 = .ok (.aload_n 2, 1) := dL_law_485_b.2.2.2.1
theorem dL_law_491 : decode cL_law 491 = .ok (.aload_n 0, 1) := dL_law_485_b.2.2.2.2.1
theorem dL_law_492 : decode cL_law 492 = .ok (.iload 4, 2) := dL_law_485_b.2.2.2.2.2
set_option maxRecDepth 20000 in
theorem dL_law_494_b : (decode cL_law 494 = .ok (.iconst 1, 1)) ∧ (decode cL_law 495 = .ok (.iadd, 1)) ∧ (decode cL_law 496 = .ok (.iaload, 1)) ∧ (decode cL_law 497 = .ok (.aload_n 0, 1)) ∧ (decode cL_law 498 = .ok (.iload 4, 2)) ∧ (decode cL_law 500 = .ok (.iconst 2, 1)) := by decide +kernel
theorem dL_law_494 : decode cL_law 494 = .ok (.iconst 1, 1) := dL_law_494_b.1
theorem dL_law_495 : decode cL_law 495 = .ok (.iadd, 1) := dL_law_494_b.2.1
theorem dL_law_496 : decode cL_law 496 = .ok (.iaload, 1) := dL_law_494_b.2.2.1
theorem dL_law_497 : decode cL_law 497 = .ok (.aload_n 0, 1) := dL_law_494_b.2.2.2.1
theorem dL_law_498 : decode cL_law 498 = .ok (.iload 4, 2) := dL_law_494_b.2.2.2.2.1
theorem dL_law_500 : decode cL_law 500 = .ok (.iconst 2, 1) := dL_law_494_b.2.2.2.2.2
set_option maxRecDepth 20000 in
theorem dL_law_501_b : (decode cL_law 501 = .ok (.iadd, 1)) ∧ (decode cL_law 502 = .ok (.iaload, 1)) ∧ (decode cL_law 503 = .ok (.invokevirtual 78, 3)) ∧ (decode cL_law 506 = .ok (.if_icmp .eq 496, 3)) ∧ (decode cL_law 509 = .ok (.iconst 0, 1)) ∧ (decode cL_law 510 = .ok (.ireturn, 1)) := by decide +kernel
theorem dL_law_501 : decode cL_law 501 = .ok (.iadd, 1) := dL_law_501_b.1
theorem dL_law_502 : decode cL_law 502 = .ok (.iaload, 1) := dL_law_501_b.2.1
theorem dL_law_503 : decode cL_law 503 = .ok (.invokevirtual 78, 3) := dL_law_501_b.2.2.1
theorem dL_law_506 : decode cL_law 506 = .ok (.if_icmp .eq 496, 3) := dL_law_501_b.2.2.2.1
theorem dL_law_509 : decode cL_law 509 = .ok (.iconst 0, 1) := dL_law_501_b.2.2.2.2.1
theorem dL_law_510 : decode cL_law 510 = .ok (.ireturn, 1) := dL_law_501_b.2.2.2.2.2
set_option maxRecDepth 20000 in
theorem dL_law_511_b : (decode cL_law 511 = .ok (.aload_n 1, 1)) ∧ (decode cL_law 512 = .ok (.aload_n 0, 1)) ∧ (decode cL_law 513 = .ok (.iload 4, 2)) ∧ (decode cL_law 515 = .ok (.iconst 1, 1)) ∧ (decode cL_law 516 = .ok (.iadd, 1)) ∧ (decode cL_law 517 = .ok (.iaload, 1)) := by decide +kernel
theorem dL_law_511 : decode cL_law 511 = .ok (.aload_n 1, 1) := dL_law_511_b.1
theorem dL_law_512 : decode cL_law 512 = .ok (.aload_n 0, 1) := dL_law_511_b.2.1
theorem dL_law_513 : decode cL_law 513 = .ok (.iload 4, 2) := dL_law_511_b.2.2.1
theorem dL_law_515 : decode cL_law 515 = .ok (.iconst 1, 1) := dL_law_511_b.2.2.2.1
theorem dL_law_516 : decode cL_law 516 = .ok (.iadd, 1) := dL_law_511_b.2.2.2.2.1
theorem dL_law_517 : decode cL_law 517 = .ok (.iaload, 1) := dL_law_511_b.2.2.2.2.2
set_option maxRecDepth 20000 in
theorem dL_law_518_b : (decode cL_law 518 = .ok (.invokevirtual 79, 3)) ∧ (decode cL_law 521 = .ok (.aload_n 2, 1)) ∧ (decode cL_law 522 = .ok (.aload_n 0, 1)) ∧ (decode cL_law 523 = .ok (.iload 4, 2)) ∧ (decode cL_law 525 = .ok (.iconst 1, 1)) ∧ (decode cL_law 526 = .ok (.iadd, 1)) := by decide +kernel
theorem dL_law_518 : decode cL_law 518 = .ok (.invokevirtual 79, 3) := dL_law_518_b.1
theorem dL_law_521 : decode cL_law 521 = .ok (.aload_n 2, 1) := dL_law_518_b.2.1
theorem dL_law_522 : decode cL_law 522 = .ok (.aload_n 0, 1) := dL_law_518_b.2.2.1
theorem dL_law_523 : decode cL_law 523 = .ok (.iload 4, 2) := dL_law_518_b.2.2.2.1
theorem dL_law_525 : decode cL_law 525 = .ok (.iconst 1, 1) := dL_law_518_b.2.2.2.2.1
theorem dL_law_526 : decode cL_law 526 = .ok (.iadd, 1) := dL_law_518_b.2.2.2.2.2
set_option maxRecDepth 20000 in
theorem dL_law_527_b : (decode cL_law 527 = .ok (.iaload, 1)) ∧ (decode cL_law 528 = .ok (.invokevirtual 82, 3)) ∧ (decode cL_law 531 = .ok (.if_icmp .eq 471, 3)) ∧ (decode cL_law 534 = .ok (.iconst 0, 1)) ∧ (decode cL_law 535 = .ok (.ireturn, 1)) ∧ (decode cL_law 536 = .ok (.aload_n 1, 1)) := by decide +kernel
theorem dL_law_527 : decode cL_law 527 = .ok (.iaload, 1) := dL_law_527_b.1
theorem dL_law_528 : decode cL_law 528 = .ok (.invokevirtual 82, 3) := dL_law_527_b.2.1
theorem dL_law_531 : decode cL_law 531 = .ok (.if_icmp .eq 471, 3) := dL_law_527_b.2.2.1
theorem dL_law_534 : decode cL_law 534 = .ok (.iconst 0, 1) := dL_law_527_b.2.2.2.1
theorem dL_law_535 : decode cL_law 535 = .ok (.ireturn, 1) := dL_law_527_b.2.2.2.2.1
theorem dL_law_536 : decode cL_law 536 = .ok (.aload_n 1, 1) := dL_law_527_b.2.2.2.2.2
set_option maxRecDepth 20000 in
theorem dL_law_537_b : (decode cL_law 537 = .ok (.aload_n 0, 1)) ∧ (decode cL_law 538 = .ok (.iload 4, 2)) ∧ (decode cL_law 540 = .ok (.iconst 1, 1)) ∧ (decode cL_law 541 = .ok (.iadd, 1)) ∧ (decode cL_law 542 = .ok (.iaload, 1)) ∧ (decode cL_law 543 = .ok (.aload_n 0, 1)) := by decide +kernel
theorem dL_law_537 : decode cL_law 537 = .ok (.aload_n 0, 1) := dL_law_537_b.1
theorem dL_law_538 : decode cL_law 538 = .ok (.iload 4, 2) := dL_law_537_b.2.1
theorem dL_law_540 : decode cL_law 540 = .ok (.iconst 1, 1) := dL_law_537_b.2.2.1
theorem dL_law_541 : decode cL_law 541 = .ok (.iadd, 1) := dL_law_537_b.2.2.2.1
theorem dL_law_542 : decode cL_law 542 = .ok (.iaload, 1) := dL_law_537_b.2.2.2.2.1
theorem dL_law_543 : decode cL_law 543 = .ok (.aload_n 0, 1) := dL_law_537_b.2.2.2.2.2
set_option maxRecDepth 20000 in
theorem dL_law_544_b : (decode cL_law 544 = .ok (.iload 4, 2)) ∧ (decode cL_law 546 = .ok (.iconst 2, 1)) ∧ (decode cL_law 547 = .ok (.iadd, 1)) ∧ (decode cL_law 548 = .ok (.iaload, 1)) ∧ (decode cL_law 549 = .ok (.invokevirtual 83, 3)) ∧ (decode cL_law 552 = .ok (.aload_n 2, 1)) := by decide +kernel
theorem dL_law_544 : decode cL_law 544 = .ok (.iload 4, 2) := dL_law_544_b.1
theorem dL_law_546 : decode cL_law 546 = .ok (.iconst 2, 1) := dL_law_544_b.2.1
theorem dL_law_547 : decode cL_law 547 = .ok (.iadd, 1) := dL_law_544_b.2.2.1
theorem dL_law_548 : decode cL_law 548 = .ok (.iaload, 1) := dL_law_544_b.2.2.2.1
theorem dL_law_549 : decode cL_law 549 = .ok (.invokevirtual 83, 3) := dL_law_544_b.2.2.2.2.1
theorem dL_law_552 : decode cL_law 552 = .ok (.aload_n 2, 1) := dL_law_544_b.2.2.2.2.2
set_option maxRecDepth 20000 in
theorem dL_law_553_b : (decode cL_law 553 = .ok (.aload_n 0, 1)) ∧ (decode cL_law 554 = .ok (.iload 4, 2)) ∧ (decode cL_law 556 = .ok (.iconst 1, 1)) ∧ (decode cL_law 557 = .ok (.iadd, 1)) ∧ (decode cL_law 558 = .ok (.iaload, 1)) ∧ (decode cL_law 559 = .ok (.aload_n 0, 1)) := by decide +kernel
theorem dL_law_553 : decode cL_law 553 = .ok (.aload_n 0, 1) := dL_law_553_b.1
theorem dL_law_554 : decode cL_law 554 = .ok (.iload 4, 2) := dL_law_553_b.2.1
theorem dL_law_556 : decode cL_law 556 = .ok (.iconst 1, 1) := dL_law_553_b.2.2.1
theorem dL_law_557 : decode cL_law 557 = .ok (.iadd, 1) := dL_law_553_b.2.2.2.1
theorem dL_law_558 : decode cL_law 558 = .ok (.iaload, 1) := dL_law_553_b.2.2.2.2.1
theorem dL_law_559 : decode cL_law 559 = .ok (.aload_n 0, 1) := dL_law_553_b.2.2.2.2.2
set_option maxRecDepth 20000 in
theorem dL_law_560_b : (decode cL_law 560 = .ok (.iload 4, 2)) ∧ (decode cL_law 562 = .ok (.iconst 2, 1)) ∧ (decode cL_law 563 = .ok (.iadd, 1)) ∧ (decode cL_law 564 = .ok (.iaload, 1)) ∧ (decode cL_law 565 = .ok (.invokevirtual 86, 3)) ∧ (decode cL_law 568 = .ok (.if_icmp .eq 434, 3)) := by decide +kernel
theorem dL_law_560 : decode cL_law 560 = .ok (.iload 4, 2) := dL_law_560_b.1
theorem dL_law_562 : decode cL_law 562 = .ok (.iconst 2, 1) := dL_law_560_b.2.1
theorem dL_law_563 : decode cL_law 563 = .ok (.iadd, 1) := dL_law_560_b.2.2.1
theorem dL_law_564 : decode cL_law 564 = .ok (.iaload, 1) := dL_law_560_b.2.2.2.1
theorem dL_law_565 : decode cL_law 565 = .ok (.invokevirtual 86, 3) := dL_law_560_b.2.2.2.2.1
theorem dL_law_568 : decode cL_law 568 = .ok (.if_icmp .eq 434, 3) := dL_law_560_b.2.2.2.2.2
set_option maxRecDepth 20000 in
theorem dL_law_571_b : (decode cL_law 571 = .ok (.iconst 0, 1)) ∧ (decode cL_law 572 = .ok (.ireturn, 1)) ∧ (decode cL_law 573 = .ok (.aload_n 1, 1)) ∧ (decode cL_law 574 = .ok (.aload_n 0, 1)) ∧ (decode cL_law 575 = .ok (.iload 4, 2)) ∧ (decode cL_law 577 = .ok (.iconst 1, 1)) := by decide +kernel
theorem dL_law_571 : decode cL_law 571 = .ok (.iconst 0, 1) := dL_law_571_b.1
theorem dL_law_572 : decode cL_law 572 = .ok (.ireturn, 1) := dL_law_571_b.2.1
theorem dL_law_573 : decode cL_law 573 = .ok (.aload_n 1, 1) := dL_law_571_b.2.2.1
theorem dL_law_574 : decode cL_law 574 = .ok (.aload_n 0, 1) := dL_law_571_b.2.2.2.1
theorem dL_law_575 : decode cL_law 575 = .ok (.iload 4, 2) := dL_law_571_b.2.2.2.2.1
theorem dL_law_577 : decode cL_law 577 = .ok (.iconst 1, 1) := dL_law_571_b.2.2.2.2.2
set_option maxRecDepth 20000 in
theorem dL_law_578_b : (decode cL_law 578 = .ok (.iadd, 1)) ∧ (decode cL_law 579 = .ok (.iaload, 1)) ∧ (decode cL_law 580 = .ok (.invokevirtual 87, 3)) ∧ (decode cL_law 583 = .ok (.aload_n 2, 1)) ∧ (decode cL_law 584 = .ok (.aload_n 0, 1)) ∧ (decode cL_law 585 = .ok (.iload 4, 2)) := by decide +kernel
theorem dL_law_578 : decode cL_law 578 = .ok (.iadd, 1) := dL_law_578_b.1
theorem dL_law_579 : decode cL_law 579 = .ok (.iaload, 1) := dL_law_578_b.2.1
theorem dL_law_580 : decode cL_law 580 = .ok (.invokevirtual 87, 3) := dL_law_578_b.2.2.1
theorem dL_law_583 : decode cL_law 583 = .ok (.aload_n 2, 1) := dL_law_578_b.2.2.2.1
theorem dL_law_584 : decode cL_law 584 = .ok (.aload_n 0, 1) := dL_law_578_b.2.2.2.2.1
theorem dL_law_585 : decode cL_law 585 = .ok (.iload 4, 2) := dL_law_578_b.2.2.2.2.2
set_option maxRecDepth 20000 in
theorem dL_law_587_b : (decode cL_law 587 = .ok (.iconst 1, 1)) ∧ (decode cL_law 588 = .ok (.iadd, 1)) ∧ (decode cL_law 589 = .ok (.iaload, 1)) ∧ (decode cL_law 590 = .ok (.invokevirtual 90, 3)) ∧ (decode cL_law 593 = .ok (.if_icmp .eq 409, 3)) ∧ (decode cL_law 596 = .ok (.iconst 0, 1)) := by decide +kernel
theorem dL_law_587 : decode cL_law 587 = .ok (.iconst 1, 1) := dL_law_587_b.1
theorem dL_law_588 : decode cL_law 588 = .ok (.iadd, 1) := dL_law_587_b.2.1
theorem dL_law_589 : decode cL_law 589 = .ok (.iaload, 1) := dL_law_587_b.2.2.1
theorem dL_law_590 : decode cL_law 590 = .ok (.invokevirtual 90, 3) := dL_law_587_b.2.2.2.1
theorem dL_law_593 : decode cL_law 593 = .ok (.if_icmp .eq 409, 3) := dL_law_587_b.2.2.2.2.1
theorem dL_law_596 : decode cL_law 596 = .ok (.iconst 0, 1) := dL_law_587_b.2.2.2.2.2
set_option maxRecDepth 20000 in
theorem dL_law_597_b : (decode cL_law 597 = .ok (.ireturn, 1)) ∧ (decode cL_law 598 = .ok (.aload_n 1, 1)) ∧ (decode cL_law 599 = .ok (.aload_n 0, 1)) ∧ (decode cL_law 600 = .ok (.iload 4, 2)) ∧ (decode cL_law 602 = .ok (.iconst 1, 1)) ∧ (decode cL_law 603 = .ok (.iadd, 1)) := by decide +kernel
theorem dL_law_597 : decode cL_law 597 = .ok (.ireturn, 1) := dL_law_597_b.1
theorem dL_law_598 : decode cL_law 598 = .ok (.aload_n 1, 1) := dL_law_597_b.2.1
theorem dL_law_599 : decode cL_law 599 = .ok (.aload_n 0, 1) := dL_law_597_b.2.2.1
theorem dL_law_600 : decode cL_law 600 = .ok (.iload 4, 2) := dL_law_597_b.2.2.2.1
theorem dL_law_602 : decode cL_law 602 = .ok (.iconst 1, 1) := dL_law_597_b.2.2.2.2.1
theorem dL_law_603 : decode cL_law 603 = .ok (.iadd, 1) := dL_law_597_b.2.2.2.2.2
set_option maxRecDepth 20000 in
theorem dL_law_604_b : (decode cL_law 604 = .ok (.iaload, 1)) ∧ (decode cL_law 605 = .ok (.invokevirtual 91, 3)) ∧ (decode cL_law 608 = .ok (.aload_n 2, 1)) ∧ (decode cL_law 609 = .ok (.aload_n 0, 1)) ∧ (decode cL_law 610 = .ok (.iload 4, 2)) ∧ (decode cL_law 612 = .ok (.iconst 1, 1)) := by decide +kernel
theorem dL_law_604 : decode cL_law 604 = .ok (.iaload, 1) := dL_law_604_b.1
theorem dL_law_605 : decode cL_law 605 = .ok (.invokevirtual 91, 3) := dL_law_604_b.2.1
theorem dL_law_608 : decode cL_law 608 = .ok (.aload_n 2, 1) := dL_law_604_b.2.2.1
theorem dL_law_609 : decode cL_law 609 = .ok (.aload_n 0, 1) := dL_law_604_b.2.2.2.1
theorem dL_law_610 : decode cL_law 610 = .ok (.iload 4, 2) := dL_law_604_b.2.2.2.2.1
theorem dL_law_612 : decode cL_law 612 = .ok (.iconst 1, 1) := dL_law_604_b.2.2.2.2.2
set_option maxRecDepth 20000 in
theorem dL_law_613_b : (decode cL_law 613 = .ok (.iadd, 1)) ∧ (decode cL_law 614 = .ok (.iaload, 1)) ∧ (decode cL_law 615 = .ok (.invokevirtual 94, 3)) ∧ (decode cL_law 618 = .ok (.if_icmp .eq 384, 3)) ∧ (decode cL_law 621 = .ok (.iconst 0, 1)) ∧ (decode cL_law 622 = .ok (.ireturn, 1)) := by decide +kernel
theorem dL_law_613 : decode cL_law 613 = .ok (.iadd, 1) := dL_law_613_b.1
theorem dL_law_614 : decode cL_law 614 = .ok (.iaload, 1) := dL_law_613_b.2.1
theorem dL_law_615 : decode cL_law 615 = .ok (.invokevirtual 94, 3) := dL_law_613_b.2.2.1
theorem dL_law_618 : decode cL_law 618 = .ok (.if_icmp .eq 384, 3) := dL_law_613_b.2.2.2.1
theorem dL_law_621 : decode cL_law 621 = .ok (.iconst 0, 1) := dL_law_613_b.2.2.2.2.1
theorem dL_law_622 : decode cL_law 622 = .ok (.ireturn, 1) := dL_law_613_b.2.2.2.2.2
set_option maxRecDepth 20000 in
theorem dL_law_623_b : (decode cL_law 623 = .ok (.aload_n 1, 1)) ∧ (decode cL_law 624 = .ok (.invokevirtual 95, 3)) ∧ (decode cL_law 627 = .ok (.aload_n 2, 1)) ∧ (decode cL_law 628 = .ok (.invokevirtual 98, 3)) ∧ (decode cL_law 631 = .ok (.if_icmp .eq 371, 3)) ∧ (decode cL_law 634 = .ok (.iconst 0, 1)) := by decide +kernel
theorem dL_law_623 : decode cL_law 623 = .ok (.aload_n 1, 1) := dL_law_623_b.1
theorem dL_law_624 : decode cL_law 624 = .ok (.invokevirtual 95, 3) := dL_law_623_b.2.1
theorem dL_law_627 : decode cL_law 627 = .ok (.aload_n 2, 1) := dL_law_623_b.2.2.1
theorem dL_law_628 : decode cL_law 628 = .ok (.invokevirtual 98, 3) := dL_law_623_b.2.2.2.1
theorem dL_law_631 : decode cL_law 631 = .ok (.if_icmp .eq 371, 3) := dL_law_623_b.2.2.2.2.1
theorem dL_law_634 : decode cL_law 634 = .ok (.iconst 0, 1) := dL_law_623_b.2.2.2.2.2
set_option maxRecDepth 20000 in
theorem dL_law_635_b : (decode cL_law 635 = .ok (.ireturn, 1)) ∧ (decode cL_law 636 = .ok (.aload_n 1, 1)) ∧ (decode cL_law 637 = .ok (.aload_n 0, 1)) ∧ (decode cL_law 638 = .ok (.iload 4, 2)) ∧ (decode cL_law 640 = .ok (.iconst 1, 1)) ∧ (decode cL_law 641 = .ok (.iadd, 1)) := by decide +kernel
theorem dL_law_635 : decode cL_law 635 = .ok (.ireturn, 1) := dL_law_635_b.1
theorem dL_law_636 : decode cL_law 636 = .ok (.aload_n 1, 1) := dL_law_635_b.2.1
theorem dL_law_637 : decode cL_law 637 = .ok (.aload_n 0, 1) := dL_law_635_b.2.2.1
theorem dL_law_638 : decode cL_law 638 = .ok (.iload 4, 2) := dL_law_635_b.2.2.2.1
theorem dL_law_640 : decode cL_law 640 = .ok (.iconst 1, 1) := dL_law_635_b.2.2.2.2.1
theorem dL_law_641 : decode cL_law 641 = .ok (.iadd, 1) := dL_law_635_b.2.2.2.2.2
set_option maxRecDepth 20000 in
theorem dL_law_642_b : (decode cL_law 642 = .ok (.iaload, 1)) ∧ (decode cL_law 643 = .ok (.aload_n 0, 1)) ∧ (decode cL_law 644 = .ok (.iload 4, 2)) ∧ (decode cL_law 646 = .ok (.iconst 2, 1)) ∧ (decode cL_law 647 = .ok (.iadd, 1)) ∧ (decode cL_law 648 = .ok (.iaload, 1)) := by decide +kernel
theorem dL_law_642 : decode cL_law 642 = .ok (.iaload, 1) := dL_law_642_b.1
theorem dL_law_643 : decode cL_law 643 = .ok (.aload_n 0, 1) := dL_law_642_b.2.1
theorem dL_law_644 : decode cL_law 644 = .ok (.iload 4, 2) := dL_law_642_b.2.2.1
theorem dL_law_646 : decode cL_law 646 = .ok (.iconst 2, 1) := dL_law_642_b.2.2.2.1
theorem dL_law_647 : decode cL_law 647 = .ok (.iadd, 1) := dL_law_642_b.2.2.2.2.1
theorem dL_law_648 : decode cL_law 648 = .ok (.iaload, 1) := dL_law_642_b.2.2.2.2.2
set_option maxRecDepth 20000 in
theorem dL_law_649_b : (decode cL_law 649 = .ok (.aload_n 3, 1)) ∧ (decode cL_law 650 = .ok (.invokestatic 99, 3)) ∧ (decode cL_law 653 = .ok (.istore 5, 2)) ∧ (decode cL_law 655 = .ok (.aload_n 2, 1)) ∧ (decode cL_law 656 = .ok (.aload_n 0, 1)) ∧ (decode cL_law 657 = .ok (.iload 4, 2)) := by decide +kernel
theorem dL_law_649 : decode cL_law 649 = .ok (.aload_n 3, 1) := dL_law_649_b.1
theorem dL_law_650 : decode cL_law 650 = .ok (.invokestatic 99, 3) := dL_law_649_b.2.1
theorem dL_law_653 : decode cL_law 653 = .ok (.istore 5, 2) := dL_law_649_b.2.2.1
theorem dL_law_655 : decode cL_law 655 = .ok (.aload_n 2, 1) := dL_law_649_b.2.2.2.1
theorem dL_law_656 : decode cL_law 656 = .ok (.aload_n 0, 1) := dL_law_649_b.2.2.2.2.1
theorem dL_law_657 : decode cL_law 657 = .ok (.iload 4, 2) := dL_law_649_b.2.2.2.2.2
set_option maxRecDepth 20000 in
theorem dL_law_659_b : (decode cL_law 659 = .ok (.iconst 1, 1)) ∧ (decode cL_law 660 = .ok (.iadd, 1)) ∧ (decode cL_law 661 = .ok (.iaload, 1)) ∧ (decode cL_law 662 = .ok (.aload_n 0, 1)) ∧ (decode cL_law 663 = .ok (.iload 4, 2)) ∧ (decode cL_law 665 = .ok (.iconst 2, 1)) := by decide +kernel
theorem dL_law_659 : decode cL_law 659 = .ok (.iconst 1, 1) := dL_law_659_b.1
theorem dL_law_660 : decode cL_law 660 = .ok (.iadd, 1) := dL_law_659_b.2.1
theorem dL_law_661 : decode cL_law 661 = .ok (.iaload, 1) := dL_law_659_b.2.2.1
theorem dL_law_662 : decode cL_law 662 = .ok (.aload_n 0, 1) := dL_law_659_b.2.2.2.1
theorem dL_law_663 : decode cL_law 663 = .ok (.iload 4, 2) := dL_law_659_b.2.2.2.2.1
theorem dL_law_665 : decode cL_law 665 = .ok (.iconst 2, 1) := dL_law_659_b.2.2.2.2.2
set_option maxRecDepth 20000 in
theorem dL_law_666_b : (decode cL_law 666 = .ok (.iadd, 1)) ∧ (decode cL_law 667 = .ok (.iaload, 1)) ∧ (decode cL_law 668 = .ok (.invokevirtual 101, 3)) ∧ (decode cL_law 671 = .ok (.istore 6, 2)) ∧ (decode cL_law 673 = .ok (.aload_n 2, 1)) ∧ (decode cL_law 674 = .ok (.invokevirtual 57, 3)) := by decide +kernel
theorem dL_law_666 : decode cL_law 666 = .ok (.iadd, 1) := dL_law_666_b.1
theorem dL_law_667 : decode cL_law 667 = .ok (.iaload, 1) := dL_law_666_b.2.1
theorem dL_law_668 : decode cL_law 668 = .ok (.invokevirtual 101, 3) := dL_law_666_b.2.2.1
theorem dL_law_671 : decode cL_law 671 = .ok (.istore 6, 2) := dL_law_666_b.2.2.2.1
theorem dL_law_673 : decode cL_law 673 = .ok (.aload_n 2, 1) := dL_law_666_b.2.2.2.2.1
theorem dL_law_674 : decode cL_law 674 = .ok (.invokevirtual 57, 3) := dL_law_666_b.2.2.2.2.2
set_option maxRecDepth 20000 in
theorem dL_law_677_b : (decode cL_law 677 = .ok (.iload 5, 2)) ∧ (decode cL_law 679 = .ok (.if_icmp .eq 5, 3)) ∧ (decode cL_law 682 = .ok (.iconst 0, 1)) ∧ (decode cL_law 683 = .ok (.ireturn, 1)) ∧ (decode cL_law 684 = .ok (.iload 5, 2)) ∧ (decode cL_law 686 = .ok (.ifCond .ne 15, 3)) := by decide +kernel
theorem dL_law_677 : decode cL_law 677 = .ok (.iload 5, 2) := dL_law_677_b.1
theorem dL_law_679 : decode cL_law 679 = .ok (.if_icmp .eq 5, 3) := dL_law_677_b.2.1
theorem dL_law_682 : decode cL_law 682 = .ok (.iconst 0, 1) := dL_law_677_b.2.2.1
theorem dL_law_683 : decode cL_law 683 = .ok (.ireturn, 1) := dL_law_677_b.2.2.2.1
theorem dL_law_684 : decode cL_law 684 = .ok (.iload 5, 2) := dL_law_677_b.2.2.2.2.1
theorem dL_law_686 : decode cL_law 686 = .ok (.ifCond .ne 15, 3) := dL_law_677_b.2.2.2.2.2
set_option maxRecDepth 20000 in
theorem dL_law_689_b : (decode cL_law 689 = .ok (.aload_n 3, 1)) ∧ (decode cL_law 690 = .ok (.iconst 0, 1)) ∧ (decode cL_law 691 = .ok (.laload, 1)) ∧ (decode cL_law 692 = .ok (.iload 6, 2)) ∧ (decode cL_law 694 = .ok (.i2l, 1)) ∧ (decode cL_law 695 = .ok (.lcmp, 1)) := by decide +kernel
theorem dL_law_689 : decode cL_law 689 = .ok (.aload_n 3, 1) := dL_law_689_b.1
theorem dL_law_690 : decode cL_law 690 = .ok (.iconst 0, 1) := dL_law_689_b.2.1
theorem dL_law_691 : decode cL_law 691 = .ok (.laload, 1) := dL_law_689_b.2.2.1
theorem dL_law_692 : decode cL_law 692 = .ok (.iload 6, 2) := dL_law_689_b.2.2.2.1
theorem dL_law_694 : decode cL_law 694 = .ok (.i2l, 1) := dL_law_689_b.2.2.2.2.1
theorem dL_law_695 : decode cL_law 695 = .ok (.lcmp, 1) := dL_law_689_b.2.2.2.2.2
set_option maxRecDepth 20000 in
theorem dL_law_696_b : (decode cL_law 696 = .ok (.ifCond .eq 5, 3)) ∧ (decode cL_law 699 = .ok (.iconst 0, 1)) ∧ (decode cL_law 700 = .ok (.ireturn, 1)) ∧ (decode cL_law 701 = .ok (.goto 301, 3)) ∧ (decode cL_law 704 = .ok (.aload_n 1, 1)) ∧ (decode cL_law 705 = .ok (.invokevirtual 102, 3)) := by decide +kernel
theorem dL_law_696 : decode cL_law 696 = .ok (.ifCond .eq 5, 3) := dL_law_696_b.1
theorem dL_law_699 : decode cL_law 699 = .ok (.iconst 0, 1) := dL_law_696_b.2.1
theorem dL_law_700 : decode cL_law 700 = .ok (.ireturn, 1) := dL_law_696_b.2.2.1
theorem dL_law_701 : decode cL_law 701 = .ok (.goto 301, 3) := dL_law_696_b.2.2.2.1
theorem dL_law_704 : decode cL_law 704 = .ok (.aload_n 1, 1) := dL_law_696_b.2.2.2.2.1
theorem dL_law_705 : decode cL_law 705 = .ok (.invokevirtual 102, 3) := dL_law_696_b.2.2.2.2.2
set_option maxRecDepth 20000 in
theorem dL_law_708_b : (decode cL_law 708 = .ok (.aload_n 2, 1)) ∧ (decode cL_law 709 = .ok (.invokevirtual 105, 3)) ∧ (decode cL_law 712 = .ok (.if_icmp .eq 290, 3)) ∧ (decode cL_law 715 = .ok (.iconst 0, 1)) ∧ (decode cL_law 716 = .ok (.ireturn, 1)) ∧ (decode cL_law 717 = .ok (.aload_n 1, 1)) := by decide +kernel
theorem dL_law_708 : decode cL_law 708 = .ok (.aload_n 2, 1) := dL_law_708_b.1
theorem dL_law_709 : decode cL_law 709 = .ok (.invokevirtual 105, 3) := dL_law_708_b.2.1
theorem dL_law_712 : decode cL_law 712 = .ok (.if_icmp .eq 290, 3) := dL_law_708_b.2.2.1
theorem dL_law_715 : decode cL_law 715 = .ok (.iconst 0, 1) := dL_law_708_b.2.2.2.1
theorem dL_law_716 : decode cL_law 716 = .ok (.ireturn, 1) := dL_law_708_b.2.2.2.2.1
theorem dL_law_717 : decode cL_law 717 = .ok (.aload_n 1, 1) := dL_law_708_b.2.2.2.2.2
set_option maxRecDepth 20000 in
theorem dL_law_718_b : (decode cL_law 718 = .ok (.aload_n 0, 1)) ∧ (decode cL_law 719 = .ok (.iload 4, 2)) ∧ (decode cL_law 721 = .ok (.iconst 1, 1)) ∧ (decode cL_law 722 = .ok (.iadd, 1)) ∧ (decode cL_law 723 = .ok (.iaload, 1)) ∧ (decode cL_law 724 = .ok (.aload_n 3, 1)) := by decide +kernel
theorem dL_law_718 : decode cL_law 718 = .ok (.aload_n 0, 1) := dL_law_718_b.1
theorem dL_law_719 : decode cL_law 719 = .ok (.iload 4, 2) := dL_law_718_b.2.1
theorem dL_law_721 : decode cL_law 721 = .ok (.iconst 1, 1) := dL_law_718_b.2.2.1
theorem dL_law_722 : decode cL_law 722 = .ok (.iadd, 1) := dL_law_718_b.2.2.2.1
theorem dL_law_723 : decode cL_law 723 = .ok (.iaload, 1) := dL_law_718_b.2.2.2.2.1
theorem dL_law_724 : decode cL_law 724 = .ok (.aload_n 3, 1) := dL_law_718_b.2.2.2.2.2
set_option maxRecDepth 20000 in
theorem dL_law_725_b : (decode cL_law 725 = .ok (.invokestatic 106, 3)) ∧ (decode cL_law 728 = .ok (.istore 5, 2)) ∧ (decode cL_law 730 = .ok (.aload_n 2, 1)) ∧ (decode cL_law 731 = .ok (.aload_n 0, 1)) ∧ (decode cL_law 732 = .ok (.iload 4, 2)) ∧ (decode cL_law 734 = .ok (.iconst 1, 1)) := by decide +kernel
theorem dL_law_725 : decode cL_law 725 = .ok (.invokestatic 106, 3) := dL_law_725_b.1
theorem dL_law_728 : decode cL_law 728 = .ok (.istore 5, 2) := dL_law_725_b.2.1
theorem dL_law_730 : decode cL_law 730 = .ok (.aload_n 2, 1) := dL_law_725_b.2.2.1
theorem dL_law_731 : decode cL_law 731 = .ok (.aload_n 0, 1) := dL_law_725_b.2.2.2.1
theorem dL_law_732 : decode cL_law 732 = .ok (.iload 4, 2) := dL_law_725_b.2.2.2.2.1
theorem dL_law_734 : decode cL_law 734 = .ok (.iconst 1, 1) := dL_law_725_b.2.2.2.2.2
set_option maxRecDepth 20000 in
theorem dL_law_735_b : (decode cL_law 735 = .ok (.iadd, 1)) ∧ (decode cL_law 736 = .ok (.iaload, 1)) ∧ (decode cL_law 737 = .ok (.invokevirtual 108, 3)) ∧ (decode cL_law 740 = .ok (.istore 6, 2)) ∧ (decode cL_law 742 = .ok (.aload_n 2, 1)) ∧ (decode cL_law 743 = .ok (.invokevirtual 57, 3)) := by decide +kernel
theorem dL_law_735 : decode cL_law 735 = .ok (.iadd, 1) := dL_law_735_b.1
theorem dL_law_736 : decode cL_law 736 = .ok (.iaload, 1) := dL_law_735_b.2.1
theorem dL_law_737 : decode cL_law 737 = .ok (.invokevirtual 108, 3) := dL_law_735_b.2.2.1
theorem dL_law_740 : decode cL_law 740 = .ok (.istore 6, 2) := dL_law_735_b.2.2.2.1
theorem dL_law_742 : decode cL_law 742 = .ok (.aload_n 2, 1) := dL_law_735_b.2.2.2.2.1
theorem dL_law_743 : decode cL_law 743 = .ok (.invokevirtual 57, 3) := dL_law_735_b.2.2.2.2.2
set_option maxRecDepth 20000 in
theorem dL_law_746_b : (decode cL_law 746 = .ok (.iload 5, 2)) ∧ (decode cL_law 748 = .ok (.if_icmp .eq 5, 3)) ∧ (decode cL_law 751 = .ok (.iconst 0, 1)) ∧ (decode cL_law 752 = .ok (.ireturn, 1)) ∧ (decode cL_law 753 = .ok (.iload 5, 2)) ∧ (decode cL_law 755 = .ok (.ifCond .ne 15, 3)) := by decide +kernel
theorem dL_law_746 : decode cL_law 746 = .ok (.iload 5, 2) := dL_law_746_b.1
theorem dL_law_748 : decode cL_law 748 = .ok (.if_icmp .eq 5, 3) := dL_law_746_b.2.1
theorem dL_law_751 : decode cL_law 751 = .ok (.iconst 0, 1) := dL_law_746_b.2.2.1
theorem dL_law_752 : decode cL_law 752 = .ok (.ireturn, 1) := dL_law_746_b.2.2.2.1
theorem dL_law_753 : decode cL_law 753 = .ok (.iload 5, 2) := dL_law_746_b.2.2.2.2.1
theorem dL_law_755 : decode cL_law 755 = .ok (.ifCond .ne 15, 3) := dL_law_746_b.2.2.2.2.2
set_option maxRecDepth 20000 in
theorem dL_law_758_b : (decode cL_law 758 = .ok (.aload_n 3, 1)) ∧ (decode cL_law 759 = .ok (.iconst 0, 1)) ∧ (decode cL_law 760 = .ok (.laload, 1)) ∧ (decode cL_law 761 = .ok (.iload 6, 2)) ∧ (decode cL_law 763 = .ok (.i2l, 1)) ∧ (decode cL_law 764 = .ok (.lcmp, 1)) := by decide +kernel
theorem dL_law_758 : decode cL_law 758 = .ok (.aload_n 3, 1) := dL_law_758_b.1
theorem dL_law_759 : decode cL_law 759 = .ok (.iconst 0, 1) := dL_law_758_b.2.1
theorem dL_law_760 : decode cL_law 760 = .ok (.laload, 1) := dL_law_758_b.2.2.1
theorem dL_law_761 : decode cL_law 761 = .ok (.iload 6, 2) := dL_law_758_b.2.2.2.1
theorem dL_law_763 : decode cL_law 763 = .ok (.i2l, 1) := dL_law_758_b.2.2.2.2.1
theorem dL_law_764 : decode cL_law 764 = .ok (.lcmp, 1) := dL_law_758_b.2.2.2.2.2
set_option maxRecDepth 20000 in
theorem dL_law_765_b : (decode cL_law 765 = .ok (.ifCond .eq 5, 3)) ∧ (decode cL_law 768 = .ok (.iconst 0, 1)) ∧ (decode cL_law 769 = .ok (.ireturn, 1)) ∧ (decode cL_law 770 = .ok (.goto 232, 3)) ∧ (decode cL_law 773 = .ok (.aload_n 1, 1)) ∧ (decode cL_law 774 = .ok (.aload_n 0, 1)) := by decide +kernel
theorem dL_law_765 : decode cL_law 765 = .ok (.ifCond .eq 5, 3) := dL_law_765_b.1
theorem dL_law_768 : decode cL_law 768 = .ok (.iconst 0, 1) := dL_law_765_b.2.1
theorem dL_law_769 : decode cL_law 769 = .ok (.ireturn, 1) := dL_law_765_b.2.2.1
theorem dL_law_770 : decode cL_law 770 = .ok (.goto 232, 3) := dL_law_765_b.2.2.2.1
theorem dL_law_773 : decode cL_law 773 = .ok (.aload_n 1, 1) := dL_law_765_b.2.2.2.2.1
theorem dL_law_774 : decode cL_law 774 = .ok (.aload_n 0, 1) := dL_law_765_b.2.2.2.2.2
set_option maxRecDepth 20000 in
theorem dL_law_775_b : (decode cL_law 775 = .ok (.iload 4, 2)) ∧ (decode cL_law 777 = .ok (.iconst 1, 1)) ∧ (decode cL_law 778 = .ok (.iadd, 1)) ∧ (decode cL_law 779 = .ok (.iaload, 1)) ∧ (decode cL_law 780 = .ok (.aload_n 3, 1)) ∧ (decode cL_law 781 = .ok (.invokestatic 109, 3)) := by decide +kernel
theorem dL_law_775 : decode cL_law 775 = .ok (.iload 4, 2) := dL_law_775_b.1
theorem dL_law_777 : decode cL_law 777 = .ok (.iconst 1, 1) := dL_law_775_b.2.1
theorem dL_law_778 : decode cL_law 778 = .ok (.iadd, 1) := dL_law_775_b.2.2.1
theorem dL_law_779 : decode cL_law 779 = .ok (.iaload, 1) := dL_law_775_b.2.2.2.1
theorem dL_law_780 : decode cL_law 780 = .ok (.aload_n 3, 1) := dL_law_775_b.2.2.2.2.1
theorem dL_law_781 : decode cL_law 781 = .ok (.invokestatic 109, 3) := dL_law_775_b.2.2.2.2.2
set_option maxRecDepth 20000 in
theorem dL_law_784_b : (decode cL_law 784 = .ok (.istore 5, 2)) ∧ (decode cL_law 786 = .ok (.aload_n 2, 1)) ∧ (decode cL_law 787 = .ok (.aload_n 0, 1)) ∧ (decode cL_law 788 = .ok (.iload 4, 2)) ∧ (decode cL_law 790 = .ok (.iconst 1, 1)) ∧ (decode cL_law 791 = .ok (.iadd, 1)) := by decide +kernel
theorem dL_law_784 : decode cL_law 784 = .ok (.istore 5, 2) := dL_law_784_b.1
theorem dL_law_786 : decode cL_law 786 = .ok (.aload_n 2, 1) := dL_law_784_b.2.1
theorem dL_law_787 : decode cL_law 787 = .ok (.aload_n 0, 1) := dL_law_784_b.2.2.1
theorem dL_law_788 : decode cL_law 788 = .ok (.iload 4, 2) := dL_law_784_b.2.2.2.1
theorem dL_law_790 : decode cL_law 790 = .ok (.iconst 1, 1) := dL_law_784_b.2.2.2.2.1
theorem dL_law_791 : decode cL_law 791 = .ok (.iadd, 1) := dL_law_784_b.2.2.2.2.2
set_option maxRecDepth 20000 in
theorem dL_law_792_b : (decode cL_law 792 = .ok (.iaload, 1)) ∧ (decode cL_law 793 = .ok (.invokevirtual 111, 3)) ∧ (decode cL_law 796 = .ok (.istore 6, 2)) ∧ (decode cL_law 798 = .ok (.aload_n 2, 1)) ∧ (decode cL_law 799 = .ok (.invokevirtual 57, 3)) ∧ (decode cL_law 802 = .ok (.iload 5, 2)) := by decide +kernel
theorem dL_law_792 : decode cL_law 792 = .ok (.iaload, 1) := dL_law_792_b.1
theorem dL_law_793 : decode cL_law 793 = .ok (.invokevirtual 111, 3) := dL_law_792_b.2.1
theorem dL_law_796 : decode cL_law 796 = .ok (.istore 6, 2) := dL_law_792_b.2.2.1
theorem dL_law_798 : decode cL_law 798 = .ok (.aload_n 2, 1) := dL_law_792_b.2.2.2.1
theorem dL_law_799 : decode cL_law 799 = .ok (.invokevirtual 57, 3) := dL_law_792_b.2.2.2.2.1
theorem dL_law_802 : decode cL_law 802 = .ok (.iload 5, 2) := dL_law_792_b.2.2.2.2.2
set_option maxRecDepth 20000 in
theorem dL_law_804_b : (decode cL_law 804 = .ok (.if_icmp .eq 5, 3)) ∧ (decode cL_law 807 = .ok (.iconst 0, 1)) ∧ (decode cL_law 808 = .ok (.ireturn, 1)) ∧ (decode cL_law 809 = .ok (.iload 5, 2)) ∧ (decode cL_law 811 = .ok (.ifCond .ne 15, 3)) ∧ (decode cL_law 814 = .ok (.aload_n 3, 1)) := by decide +kernel
theorem dL_law_804 : decode cL_law 804 = .ok (.if_icmp .eq 5, 3) := dL_law_804_b.1
theorem dL_law_807 : decode cL_law 807 = .ok (.iconst 0, 1) := dL_law_804_b.2.1
theorem dL_law_808 : decode cL_law 808 = .ok (.ireturn, 1) := dL_law_804_b.2.2.1
theorem dL_law_809 : decode cL_law 809 = .ok (.iload 5, 2) := dL_law_804_b.2.2.2.1
theorem dL_law_811 : decode cL_law 811 = .ok (.ifCond .ne 15, 3) := dL_law_804_b.2.2.2.2.1
theorem dL_law_814 : decode cL_law 814 = .ok (.aload_n 3, 1) := dL_law_804_b.2.2.2.2.2
set_option maxRecDepth 20000 in
theorem dL_law_815_b : (decode cL_law 815 = .ok (.iconst 0, 1)) ∧ (decode cL_law 816 = .ok (.laload, 1)) ∧ (decode cL_law 817 = .ok (.iload 6, 2)) ∧ (decode cL_law 819 = .ok (.i2l, 1)) ∧ (decode cL_law 820 = .ok (.lcmp, 1)) ∧ (decode cL_law 821 = .ok (.ifCond .eq 5, 3)) := by decide +kernel
theorem dL_law_815 : decode cL_law 815 = .ok (.iconst 0, 1) := dL_law_815_b.1
theorem dL_law_816 : decode cL_law 816 = .ok (.laload, 1) := dL_law_815_b.2.1
theorem dL_law_817 : decode cL_law 817 = .ok (.iload 6, 2) := dL_law_815_b.2.2.1
theorem dL_law_819 : decode cL_law 819 = .ok (.i2l, 1) := dL_law_815_b.2.2.2.1
theorem dL_law_820 : decode cL_law 820 = .ok (.lcmp, 1) := dL_law_815_b.2.2.2.2.1
theorem dL_law_821 : decode cL_law 821 = .ok (.ifCond .eq 5, 3) := dL_law_815_b.2.2.2.2.2
set_option maxRecDepth 20000 in
theorem dL_law_824_b : (decode cL_law 824 = .ok (.iconst 0, 1)) ∧ (decode cL_law 825 = .ok (.ireturn, 1)) ∧ (decode cL_law 826 = .ok (.goto 176, 3)) ∧ (decode cL_law 829 = .ok (.aload_n 1, 1)) ∧ (decode cL_law 830 = .ok (.aload_n 0, 1)) ∧ (decode cL_law 831 = .ok (.iload 4, 2)) := by decide +kernel
theorem dL_law_824 : decode cL_law 824 = .ok (.iconst 0, 1) := dL_law_824_b.1
theorem dL_law_825 : decode cL_law 825 = .ok (.ireturn, 1) := dL_law_824_b.2.1
theorem dL_law_826 : decode cL_law 826 = .ok (.goto 176, 3) := dL_law_824_b.2.2.1
theorem dL_law_829 : decode cL_law 829 = .ok (.aload_n 1, 1) := dL_law_824_b.2.2.2.1
theorem dL_law_830 : decode cL_law 830 = .ok (.aload_n 0, 1) := dL_law_824_b.2.2.2.2.1
theorem dL_law_831 : decode cL_law 831 = .ok (.iload 4, 2) := dL_law_824_b.2.2.2.2.2
set_option maxRecDepth 20000 in
theorem dL_law_833_b : (decode cL_law 833 = .ok (.iconst 1, 1)) ∧ (decode cL_law 834 = .ok (.iadd, 1)) ∧ (decode cL_law 835 = .ok (.iaload, 1)) ∧ (decode cL_law 836 = .ok (.aload_n 0, 1)) ∧ (decode cL_law 837 = .ok (.iload 4, 2)) ∧ (decode cL_law 839 = .ok (.iconst 2, 1)) := by decide +kernel
theorem dL_law_833 : decode cL_law 833 = .ok (.iconst 1, 1) := dL_law_833_b.1
theorem dL_law_834 : decode cL_law 834 = .ok (.iadd, 1) := dL_law_833_b.2.1
theorem dL_law_835 : decode cL_law 835 = .ok (.iaload, 1) := dL_law_833_b.2.2.1
theorem dL_law_836 : decode cL_law 836 = .ok (.aload_n 0, 1) := dL_law_833_b.2.2.2.1
theorem dL_law_837 : decode cL_law 837 = .ok (.iload 4, 2) := dL_law_833_b.2.2.2.2.1
theorem dL_law_839 : decode cL_law 839 = .ok (.iconst 2, 1) := dL_law_833_b.2.2.2.2.2
set_option maxRecDepth 20000 in
theorem dL_law_840_b : (decode cL_law 840 = .ok (.iadd, 1)) ∧ (decode cL_law 841 = .ok (.iaload, 1)) ∧ (decode cL_law 842 = .ok (.aload_n 3, 1)) ∧ (decode cL_law 843 = .ok (.invokestatic 112, 3)) ∧ (decode cL_law 846 = .ok (.istore 5, 2)) ∧ (decode cL_law 848 = .ok (.aload_n 2, 1)) := by decide +kernel
theorem dL_law_840 : decode cL_law 840 = .ok (.iadd, 1) := dL_law_840_b.1
theorem dL_law_841 : decode cL_law 841 = .ok (.iaload, 1) := dL_law_840_b.2.1
theorem dL_law_842 : decode cL_law 842 = .ok (.aload_n 3, 1) := dL_law_840_b.2.2.1
theorem dL_law_843 : decode cL_law 843 = .ok (.invokestatic 112, 3) := dL_law_840_b.2.2.2.1
theorem dL_law_846 : decode cL_law 846 = .ok (.istore 5, 2) := dL_law_840_b.2.2.2.2.1
theorem dL_law_848 : decode cL_law 848 = .ok (.aload_n 2, 1) := dL_law_840_b.2.2.2.2.2
set_option maxRecDepth 20000 in
theorem dL_law_849_b : (decode cL_law 849 = .ok (.aload_n 0, 1)) ∧ (decode cL_law 850 = .ok (.iload 4, 2)) ∧ (decode cL_law 852 = .ok (.iconst 1, 1)) ∧ (decode cL_law 853 = .ok (.iadd, 1)) ∧ (decode cL_law 854 = .ok (.iaload, 1)) ∧ (decode cL_law 855 = .ok (.aload_n 0, 1)) := by decide +kernel
theorem dL_law_849 : decode cL_law 849 = .ok (.aload_n 0, 1) := dL_law_849_b.1
theorem dL_law_850 : decode cL_law 850 = .ok (.iload 4, 2) := dL_law_849_b.2.1
theorem dL_law_852 : decode cL_law 852 = .ok (.iconst 1, 1) := dL_law_849_b.2.2.1
theorem dL_law_853 : decode cL_law 853 = .ok (.iadd, 1) := dL_law_849_b.2.2.2.1
theorem dL_law_854 : decode cL_law 854 = .ok (.iaload, 1) := dL_law_849_b.2.2.2.2.1
theorem dL_law_855 : decode cL_law 855 = .ok (.aload_n 0, 1) := dL_law_849_b.2.2.2.2.2
set_option maxRecDepth 20000 in
theorem dL_law_856_b : (decode cL_law 856 = .ok (.iload 4, 2)) ∧ (decode cL_law 858 = .ok (.iconst 2, 1)) ∧ (decode cL_law 859 = .ok (.iadd, 1)) ∧ (decode cL_law 860 = .ok (.iaload, 1)) ∧ (decode cL_law 861 = .ok (.invokevirtual 114, 3)) ∧ (decode cL_law 864 = .ok (.istore 6, 2)) := by decide +kernel
theorem dL_law_856 : decode cL_law 856 = .ok (.iload 4, 2) := dL_law_856_b.1
theorem dL_law_858 : decode cL_law 858 = .ok (.iconst 2, 1) := dL_law_856_b.2.1
theorem dL_law_859 : decode cL_law 859 = .ok (.iadd, 1) := dL_law_856_b.2.2.1
theorem dL_law_860 : decode cL_law 860 = .ok (.iaload, 1) := dL_law_856_b.2.2.2.1
theorem dL_law_861 : decode cL_law 861 = .ok (.invokevirtual 114, 3) := dL_law_856_b.2.2.2.2.1
theorem dL_law_864 : decode cL_law 864 = .ok (.istore 6, 2) := dL_law_856_b.2.2.2.2.2
set_option maxRecDepth 20000 in
theorem dL_law_866_b : (decode cL_law 866 = .ok (.aload_n 2, 1)) ∧ (decode cL_law 867 = .ok (.invokevirtual 57, 3)) ∧ (decode cL_law 870 = .ok (.iload 5, 2)) ∧ (decode cL_law 872 = .ok (.if_icmp .eq 5, 3)) ∧ (decode cL_law 875 = .ok (.iconst 0, 1)) ∧ (decode cL_law 876 = .ok (.ireturn, 1)) := by decide +kernel
theorem dL_law_866 : decode cL_law 866 = .ok (.aload_n 2, 1) := dL_law_866_b.1
theorem dL_law_867 : decode cL_law 867 = .ok (.invokevirtual 57, 3) := dL_law_866_b.2.1
theorem dL_law_870 : decode cL_law 870 = .ok (.iload 5, 2) := dL_law_866_b.2.2.1
theorem dL_law_872 : decode cL_law 872 = .ok (.if_icmp .eq 5, 3) := dL_law_866_b.2.2.2.1
theorem dL_law_875 : decode cL_law 875 = .ok (.iconst 0, 1) := dL_law_866_b.2.2.2.2.1
theorem dL_law_876 : decode cL_law 876 = .ok (.ireturn, 1) := dL_law_866_b.2.2.2.2.2
set_option maxRecDepth 20000 in
theorem dL_law_877_b : (decode cL_law 877 = .ok (.iload 5, 2)) ∧ (decode cL_law 879 = .ok (.ifCond .ne 15, 3)) ∧ (decode cL_law 882 = .ok (.aload_n 3, 1)) ∧ (decode cL_law 883 = .ok (.iconst 0, 1)) ∧ (decode cL_law 884 = .ok (.laload, 1)) ∧ (decode cL_law 885 = .ok (.iload 6, 2)) := by decide +kernel
theorem dL_law_877 : decode cL_law 877 = .ok (.iload 5, 2) := dL_law_877_b.1
theorem dL_law_879 : decode cL_law 879 = .ok (.ifCond .ne 15, 3) := dL_law_877_b.2.1
theorem dL_law_882 : decode cL_law 882 = .ok (.aload_n 3, 1) := dL_law_877_b.2.2.1
theorem dL_law_883 : decode cL_law 883 = .ok (.iconst 0, 1) := dL_law_877_b.2.2.2.1
theorem dL_law_884 : decode cL_law 884 = .ok (.laload, 1) := dL_law_877_b.2.2.2.2.1
theorem dL_law_885 : decode cL_law 885 = .ok (.iload 6, 2) := dL_law_877_b.2.2.2.2.2
set_option maxRecDepth 20000 in
theorem dL_law_887_b : (decode cL_law 887 = .ok (.i2l, 1)) ∧ (decode cL_law 888 = .ok (.lcmp, 1)) ∧ (decode cL_law 889 = .ok (.ifCond .eq 5, 3)) ∧ (decode cL_law 892 = .ok (.iconst 0, 1)) ∧ (decode cL_law 893 = .ok (.ireturn, 1)) ∧ (decode cL_law 894 = .ok (.goto 108, 3)) := by decide +kernel
theorem dL_law_887 : decode cL_law 887 = .ok (.i2l, 1) := dL_law_887_b.1
theorem dL_law_888 : decode cL_law 888 = .ok (.lcmp, 1) := dL_law_887_b.2.1
theorem dL_law_889 : decode cL_law 889 = .ok (.ifCond .eq 5, 3) := dL_law_887_b.2.2.1
theorem dL_law_892 : decode cL_law 892 = .ok (.iconst 0, 1) := dL_law_887_b.2.2.2.1
theorem dL_law_893 : decode cL_law 893 = .ok (.ireturn, 1) := dL_law_887_b.2.2.2.2.1
theorem dL_law_894 : decode cL_law 894 = .ok (.goto 108, 3) := dL_law_887_b.2.2.2.2.2
set_option maxRecDepth 20000 in
theorem dL_law_897_b : (decode cL_law 897 = .ok (.aload_n 1, 1)) ∧ (decode cL_law 898 = .ok (.aload_n 0, 1)) ∧ (decode cL_law 899 = .ok (.iload 4, 2)) ∧ (decode cL_law 901 = .ok (.iconst 1, 1)) ∧ (decode cL_law 902 = .ok (.iadd, 1)) ∧ (decode cL_law 903 = .ok (.iaload, 1)) := by decide +kernel
theorem dL_law_897 : decode cL_law 897 = .ok (.aload_n 1, 1) := dL_law_897_b.1
theorem dL_law_898 : decode cL_law 898 = .ok (.aload_n 0, 1) := dL_law_897_b.2.1
theorem dL_law_899 : decode cL_law 899 = .ok (.iload 4, 2) := dL_law_897_b.2.2.1
theorem dL_law_901 : decode cL_law 901 = .ok (.iconst 1, 1) := dL_law_897_b.2.2.2.1
theorem dL_law_902 : decode cL_law 902 = .ok (.iadd, 1) := dL_law_897_b.2.2.2.2.1
theorem dL_law_903 : decode cL_law 903 = .ok (.iaload, 1) := dL_law_897_b.2.2.2.2.2
set_option maxRecDepth 20000 in
theorem dL_law_904_b : (decode cL_law 904 = .ok (.invokevirtual 115, 3)) ∧ (decode cL_law 907 = .ok (.aload_n 2, 1)) ∧ (decode cL_law 908 = .ok (.aload_n 0, 1)) ∧ (decode cL_law 909 = .ok (.iload 4, 2)) ∧ (decode cL_law 911 = .ok (.iconst 1, 1)) ∧ (decode cL_law 912 = .ok (.iadd, 1)) := by decide +kernel
theorem dL_law_904 : decode cL_law 904 = .ok (.invokevirtual 115, 3) := dL_law_904_b.1
theorem dL_law_907 : decode cL_law 907 = .ok (.aload_n 2, 1) := dL_law_904_b.2.1
theorem dL_law_908 : decode cL_law 908 = .ok (.aload_n 0, 1) := dL_law_904_b.2.2.1
theorem dL_law_909 : decode cL_law 909 = .ok (.iload 4, 2) := dL_law_904_b.2.2.2.1
theorem dL_law_911 : decode cL_law 911 = .ok (.iconst 1, 1) := dL_law_904_b.2.2.2.2.1
theorem dL_law_912 : decode cL_law 912 = .ok (.iadd, 1) := dL_law_904_b.2.2.2.2.2
set_option maxRecDepth 20000 in
theorem dL_law_913_b : (decode cL_law 913 = .ok (.iaload, 1)) ∧ (decode cL_law 914 = .ok (.invokevirtual 118, 3)) ∧ (decode cL_law 917 = .ok (.if_icmp .eq 85, 3)) ∧ (decode cL_law 920 = .ok (.iconst 0, 1)) ∧ (decode cL_law 921 = .ok (.ireturn, 1)) ∧ (decode cL_law 922 = .ok (.aload_n 1, 1)) := by decide +kernel
theorem dL_law_913 : decode cL_law 913 = .ok (.iaload, 1) := dL_law_913_b.1
theorem dL_law_914 : decode cL_law 914 = .ok (.invokevirtual 118, 3) := dL_law_913_b.2.1
theorem dL_law_917 : decode cL_law 917 = .ok (.if_icmp .eq 85, 3) := dL_law_913_b.2.2.1
theorem dL_law_920 : decode cL_law 920 = .ok (.iconst 0, 1) := dL_law_913_b.2.2.2.1
theorem dL_law_921 : decode cL_law 921 = .ok (.ireturn, 1) := dL_law_913_b.2.2.2.2.1
theorem dL_law_922 : decode cL_law 922 = .ok (.aload_n 1, 1) := dL_law_913_b.2.2.2.2.2
set_option maxRecDepth 20000 in
theorem dL_law_923_b : (decode cL_law 923 = .ok (.aload_n 0, 1)) ∧ (decode cL_law 924 = .ok (.iload 4, 2)) ∧ (decode cL_law 926 = .ok (.iconst 1, 1)) ∧ (decode cL_law 927 = .ok (.iadd, 1)) ∧ (decode cL_law 928 = .ok (.iaload, 1)) ∧ (decode cL_law 929 = .ok (.aload_n 3, 1)) := by decide +kernel
theorem dL_law_923 : decode cL_law 923 = .ok (.aload_n 0, 1) := dL_law_923_b.1
theorem dL_law_924 : decode cL_law 924 = .ok (.iload 4, 2) := dL_law_923_b.2.1
theorem dL_law_926 : decode cL_law 926 = .ok (.iconst 1, 1) := dL_law_923_b.2.2.1
theorem dL_law_927 : decode cL_law 927 = .ok (.iadd, 1) := dL_law_923_b.2.2.2.1
theorem dL_law_928 : decode cL_law 928 = .ok (.iaload, 1) := dL_law_923_b.2.2.2.2.1
theorem dL_law_929 : decode cL_law 929 = .ok (.aload_n 3, 1) := dL_law_923_b.2.2.2.2.2
set_option maxRecDepth 20000 in
theorem dL_law_930_b : (decode cL_law 930 = .ok (.invokestatic 119, 3)) ∧ (decode cL_law 933 = .ok (.istore 5, 2)) ∧ (decode cL_law 935 = .ok (.aload_n 2, 1)) ∧ (decode cL_law 936 = .ok (.aload_n 0, 1)) ∧ (decode cL_law 937 = .ok (.iload 4, 2)) ∧ (decode cL_law 939 = .ok (.iconst 1, 1)) := by decide +kernel
theorem dL_law_930 : decode cL_law 930 = .ok (.invokestatic 119, 3) := dL_law_930_b.1
theorem dL_law_933 : decode cL_law 933 = .ok (.istore 5, 2) := dL_law_930_b.2.1
theorem dL_law_935 : decode cL_law 935 = .ok (.aload_n 2, 1) := dL_law_930_b.2.2.1
theorem dL_law_936 : decode cL_law 936 = .ok (.aload_n 0, 1) := dL_law_930_b.2.2.2.1
theorem dL_law_937 : decode cL_law 937 = .ok (.iload 4, 2) := dL_law_930_b.2.2.2.2.1
theorem dL_law_939 : decode cL_law 939 = .ok (.iconst 1, 1) := dL_law_930_b.2.2.2.2.2
set_option maxRecDepth 20000 in
theorem dL_law_940_b : (decode cL_law 940 = .ok (.iadd, 1)) ∧ (decode cL_law 941 = .ok (.iaload, 1)) ∧ (decode cL_law 942 = .ok (.invokevirtual 121, 3)) ∧ (decode cL_law 945 = .ok (.istore 6, 2)) ∧ (decode cL_law 947 = .ok (.aload_n 2, 1)) ∧ (decode cL_law 948 = .ok (.invokevirtual 57, 3)) := by decide +kernel
theorem dL_law_940 : decode cL_law 940 = .ok (.iadd, 1) := dL_law_940_b.1
theorem dL_law_941 : decode cL_law 941 = .ok (.iaload, 1) := dL_law_940_b.2.1
theorem dL_law_942 : decode cL_law 942 = .ok (.invokevirtual 121, 3) := dL_law_940_b.2.2.1
theorem dL_law_945 : decode cL_law 945 = .ok (.istore 6, 2) := dL_law_940_b.2.2.2.1
theorem dL_law_947 : decode cL_law 947 = .ok (.aload_n 2, 1) := dL_law_940_b.2.2.2.2.1
theorem dL_law_948 : decode cL_law 948 = .ok (.invokevirtual 57, 3) := dL_law_940_b.2.2.2.2.2
set_option maxRecDepth 20000 in
theorem dL_law_951_b : (decode cL_law 951 = .ok (.iload 5, 2)) ∧ (decode cL_law 953 = .ok (.if_icmp .eq 5, 3)) ∧ (decode cL_law 956 = .ok (.iconst 0, 1)) ∧ (decode cL_law 957 = .ok (.ireturn, 1)) ∧ (decode cL_law 958 = .ok (.iload 5, 2)) ∧ (decode cL_law 960 = .ok (.ifCond .ne 15, 3)) := by decide +kernel
theorem dL_law_951 : decode cL_law 951 = .ok (.iload 5, 2) := dL_law_951_b.1
theorem dL_law_953 : decode cL_law 953 = .ok (.if_icmp .eq 5, 3) := dL_law_951_b.2.1
theorem dL_law_956 : decode cL_law 956 = .ok (.iconst 0, 1) := dL_law_951_b.2.2.1
theorem dL_law_957 : decode cL_law 957 = .ok (.ireturn, 1) := dL_law_951_b.2.2.2.1
theorem dL_law_958 : decode cL_law 958 = .ok (.iload 5, 2) := dL_law_951_b.2.2.2.2.1
theorem dL_law_960 : decode cL_law 960 = .ok (.ifCond .ne 15, 3) := dL_law_951_b.2.2.2.2.2
set_option maxRecDepth 20000 in
theorem dL_law_963_b : (decode cL_law 963 = .ok (.aload_n 3, 1)) ∧ (decode cL_law 964 = .ok (.iconst 0, 1)) ∧ (decode cL_law 965 = .ok (.laload, 1)) ∧ (decode cL_law 966 = .ok (.iload 6, 2)) ∧ (decode cL_law 968 = .ok (.i2l, 1)) ∧ (decode cL_law 969 = .ok (.lcmp, 1)) := by decide +kernel
theorem dL_law_963 : decode cL_law 963 = .ok (.aload_n 3, 1) := dL_law_963_b.1
theorem dL_law_964 : decode cL_law 964 = .ok (.iconst 0, 1) := dL_law_963_b.2.1
theorem dL_law_965 : decode cL_law 965 = .ok (.laload, 1) := dL_law_963_b.2.2.1
theorem dL_law_966 : decode cL_law 966 = .ok (.iload 6, 2) := dL_law_963_b.2.2.2.1
theorem dL_law_968 : decode cL_law 968 = .ok (.i2l, 1) := dL_law_963_b.2.2.2.2.1
theorem dL_law_969 : decode cL_law 969 = .ok (.lcmp, 1) := dL_law_963_b.2.2.2.2.2
set_option maxRecDepth 20000 in
theorem dL_law_970_b : (decode cL_law 970 = .ok (.ifCond .eq 5, 3)) ∧ (decode cL_law 973 = .ok (.iconst 0, 1)) ∧ (decode cL_law 974 = .ok (.ireturn, 1)) ∧ (decode cL_law 975 = .ok (.goto 27, 3)) ∧ (decode cL_law 978 = .ok (.aload_n 1, 1)) ∧ (decode cL_law 979 = .ok (.invokevirtual 122, 3)) := by decide +kernel
theorem dL_law_970 : decode cL_law 970 = .ok (.ifCond .eq 5, 3) := dL_law_970_b.1
theorem dL_law_973 : decode cL_law 973 = .ok (.iconst 0, 1) := dL_law_970_b.2.1
theorem dL_law_974 : decode cL_law 974 = .ok (.ireturn, 1) := dL_law_970_b.2.2.1
theorem dL_law_975 : decode cL_law 975 = .ok (.goto 27, 3) := dL_law_970_b.2.2.2.1
theorem dL_law_978 : decode cL_law 978 = .ok (.aload_n 1, 1) := dL_law_970_b.2.2.2.2.1
theorem dL_law_979 : decode cL_law 979 = .ok (.invokevirtual 122, 3) := dL_law_970_b.2.2.2.2.2
set_option maxRecDepth 20000 in
theorem dL_law_982_b : (decode cL_law 982 = .ok (.aload_n 2, 1)) ∧ (decode cL_law 983 = .ok (.invokevirtual 125, 3)) ∧ (decode cL_law 986 = .ok (.goto 16, 3)) ∧ (decode cL_law 989 = .ok (.aload_n 1, 1)) ∧ (decode cL_law 990 = .ok (.invokevirtual 126, 3)) ∧ (decode cL_law 993 = .ok (.aload_n 2, 1)) := by decide +kernel
theorem dL_law_982 : decode cL_law 982 = .ok (.aload_n 2, 1) := dL_law_982_b.1
theorem dL_law_983 : decode cL_law 983 = .ok (.invokevirtual 125, 3) := dL_law_982_b.2.1
theorem dL_law_986 : decode cL_law 986 = .ok (.goto 16, 3) := dL_law_982_b.2.2.1
theorem dL_law_989 : decode cL_law 989 = .ok (.aload_n 1, 1) := dL_law_982_b.2.2.2.1
theorem dL_law_990 : decode cL_law 990 = .ok (.invokevirtual 126, 3) := dL_law_982_b.2.2.2.2.1
theorem dL_law_993 : decode cL_law 993 = .ok (.aload_n 2, 1) := dL_law_982_b.2.2.2.2.2
set_option maxRecDepth 20000 in
theorem dL_law_994_b : (decode cL_law 994 = .ok (.invokevirtual 130, 3)) ∧ (decode cL_law 997 = .ok (.if_icmp .eq 5, 3)) ∧ (decode cL_law 1000 = .ok (.iconst 0, 1)) ∧ (decode cL_law 1001 = .ok (.ireturn, 1)) ∧ (decode cL_law 1002 = .ok (.iinc 4 6, 3)) ∧ (decode cL_law 1005 = .ok (.goto (-982), 3)) := by decide +kernel
theorem dL_law_994 : decode cL_law 994 = .ok (.invokevirtual 130, 3) := dL_law_994_b.1
theorem dL_law_997 : decode cL_law 997 = .ok (.if_icmp .eq 5, 3) := dL_law_994_b.2.1
theorem dL_law_1000 : decode cL_law 1000 = .ok (.iconst 0, 1) := dL_law_994_b.2.2.1
theorem dL_law_1001 : decode cL_law 1001 = .ok (.ireturn, 1) := dL_law_994_b.2.2.2.1
theorem dL_law_1002 : decode cL_law 1002 = .ok (.iinc 4 6, 3) := dL_law_994_b.2.2.2.2.1
theorem dL_law_1005 : decode cL_law 1005 = .ok (.goto (-982), 3) := dL_law_994_b.2.2.2.2.2
set_option maxRecDepth 20000 in
theorem dL_law_1008_b : (decode cL_law 1008 = .ok (.iconst 1, 1)) ∧ (decode cL_law 1009 = .ok (.ireturn, 1)) := by decide +kernel
theorem dL_law_1008 : decode cL_law 1008 = .ok (.iconst 1, 1) := dL_law_1008_b.1
theorem dL_law_1009 : decode cL_law 1009 = .ok (.ireturn, 1) := dL_law_1008_b.2
