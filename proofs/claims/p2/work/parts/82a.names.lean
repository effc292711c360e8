set_option maxRecDepth 20000 in
theorem dL_law_0_b : (decode cL_law 0 = .ok (.new 8, 3)) ∧ (decode cL_law 3 = .ok (.dup, 1)) ∧ (decode cL_law 4 = .ok (.invokespecial 42, 3)) ∧ (decode cL_law 7 = .ok (.astore_n 1, 1)) ∧ (decode cL_law 8 = .ok (.new 43, 3)) ∧ (decode cL_law 11 = .ok (.dup, 1)) := by decide +kernel
theorem dL_law_0 : decode cL_law 0 = .ok (.new 8, 3) := dL_law_0_b.1
theorem dL_law_3 : decode cL_law 3 = .ok (.dup, 1) := dL_law_0_b.2.1
theorem dL_law_4 : decode cL_law 4 = .ok (.invokespecial 42, 3) := dL_law_0_b.2.2.1
theorem dL_law_7 : decode cL_law 7 = .ok (.astore_n 1, 1) := dL_law_0_b.2.2.2.1
theorem dL_law_8 : decode cL_law 8 = .ok (.new 43, 3) := dL_law_0_b.2.2.2.2.1
theorem dL_law_11 : decode cL_law 11 = .ok (.dup, 1) := dL_law_0_b.2.2.2.2.2
set_option maxRecDepth 20000 in
theorem dL_law_12_b : (decode cL_law 12 = .ok (.invokespecial 45, 3)) ∧ (decode cL_law 15 = .ok (.astore_n 2, 1)) ∧ (decode cL_law 16 = .ok (.iconst 1, 1)) ∧ (decode cL_law 17 = .ok (.newarray .long, 2)) ∧ (decode cL_law 19 = .ok (.astore_n 3, 1)) ∧ (decode cL_law 20 = .ok (.iconst 0, 1)) := by decide +kernel
theorem dL_law_12 : decode cL_law 12 = .ok (.invokespecial 45, 3) := dL_law_12_b.1
theorem dL_law_15 : decode cL_law 15 = .ok (.astore_n 2, 1) := dL_law_12_b.2.1
theorem dL_law_16 : decode cL_law 16 = .ok (.iconst 1, 1) := dL_law_12_b.2.2.1
theorem dL_law_17 : decode cL_law 17 = .ok (.newarray .long, 2) := dL_law_12_b.2.2.2.1
theorem dL_law_19 : decode cL_law 19 = .ok (.astore_n 3, 1) := dL_law_12_b.2.2.2.2.1
theorem dL_law_20 : decode cL_law 20 = .ok (.iconst 0, 1) := dL_law_12_b.2.2.2.2.2
set_option maxRecDepth 20000 in
theorem dL_law_21_b : (decode cL_law 21 = .ok (.istore 4, 2)) ∧ (decode cL_law 23 = .ok (.iload 4, 2)) ∧ (decode cL_law 25 = .ok (.aload_n 0, 1)) ∧ (decode cL_law 26 = .ok (.arraylength, 1)) ∧ (decode cL_law 27 = .ok (.bipush 6, 2)) ∧ (decode cL_law 29 = .ok (.isub, 1)) := by decide +kernel
theorem dL_law_21 : decode cL_law 21 = .ok (.istore 4, 2) := dL_law_21_b.1
theorem dL_law_23 : decode cL_law 23 = .ok (.iload 4, 2) := dL_law_21_b.2.1
theorem dL_law_25 : decode cL_law 25 = .ok (.aload_n 0, 1) := dL_law_21_b.2.2.1
theorem dL_law_26 : decode cL_law 26 = .ok (.arraylength, 1) := dL_law_21_b.2.2.2.1
theorem dL_law_27 : decode cL_law 27 = .ok (.bipush 6, 2) := dL_law_21_b.2.2.2.2.1
theorem dL_law_29 : decode cL_law 29 = .ok (.isub, 1) := dL_law_21_b.2.2.2.2.2
set_option maxRecDepth 20000 in
theorem dL_law_30_b : (decode cL_law 30 = .ok (.if_icmp .gt 726, 3)) ∧ (decode cL_law 33 = .ok (.aload_n 0, 1)) ∧ (decode cL_law 34 = .ok (.iload 4, 2)) ∧ (decode cL_law 36 = .ok (.iaload, 1)) ∧ (decode cL_law 37 = .ok (.bipush 31, 2)) ∧ (decode cL_law 39 = .ok (.iand, 1)) := by decide +kernel
theorem dL_law_30 : decode cL_law 30 = .ok (.if_icmp .gt 726, 3) := dL_law_30_b.1
theorem dL_law_33 : decode cL_law 33 = .ok (.aload_n 0, 1) := dL_law_30_b.2.1
theorem dL_law_34 : decode cL_law 34 = .ok (.iload 4, 2) := dL_law_30_b.2.2.1
theorem dL_law_36 : decode cL_law 36 = .ok (.iaload, 1) := dL_law_30_b.2.2.2.1
theorem dL_law_37 : decode cL_law 37 = .ok (.bipush 31, 2) := dL_law_30_b.2.2.2.2.1
theorem dL_law_39 : decode cL_law 39 = .ok (.iand, 1) := dL_law_30_b.2.2.2.2.2
set_option maxRecDepth 20000 in
theorem dL_law_40_b : (decode cL_law 40 = .ok (.tableswitch 710 0 20 #[100, 173, 201, 214, 242, 282, 322, 359, 384, 421, 446, 471, 484, 524, 537, 565, 593, 633, 658, 686, 697], 100)) ∧ (decode cL_law 140 = .ok (.aload_n 1, 1)) ∧ (decode cL_law 141 = .ok (.aload_n 0, 1)) ∧ (decode cL_law 142 = .ok (.iload 4, 2)) ∧ (decode cL_law 144 = .ok (.iconst 1, 1)) ∧ (decode cL_law 145 = .ok (.iadd, 1)) := by decide +kernel
theorem dL_law_40 : decode cL_law 40 = .ok (.tableswitch 710 0 20 #[100, 173, 201, 214, 242, 282, 322, 359, 384, 421, 446, 471, 484, 524, 537, 565, 593, 633, 658, 686, 697], 100) := dL_law_40_b.1
theorem dL_law_140 : decode cL_law 140 = .ok (.aload_n 1, 1) := dL_law_40_b.2.1
theorem dL_law_141 : decode cL_law 141 = .ok (.aload_n 0, 1) := dL_law_40_b.2.2.1
theorem dL_law_142 : decode cL_law 142 = .ok (.iload 4, 2) := dL_law_40_b.2.2.2.1
theorem dL_law_144 : decode cL_law 144 = .ok (.iconst 1, 1) := dL_law_40_b.2.2.2.2.1
theorem dL_law_145 : decode cL_law 145 = .ok (.iadd, 1) := dL_law_40_b.2.2.2.2.2
set_option maxRecDepth 20000 in
theorem dL_law_146_b : (decode cL_law 146 = .ok (.iaload, 1)) ∧ (decode cL_law 147 = .ok (.aload_n 0, 1)) ∧ (decode cL_law 148 = .ok (.iload 4, 2)) ∧ (decode cL_law 150 = .ok (.iconst 2, 1)) ∧ (decode cL_law 151 = .ok (.iadd, 1)) ∧ (decode cL_law 152 = .ok (.iaload, 1)) := by decide +kernel
theorem dL_law_146 : decode cL_law 146 = .ok (.iaload, 1) := dL_law_146_b.1
theorem dL_law_147 : decode cL_law 147 = .ok (.aload_n 0, 1) := dL_law_146_b.2.1
theorem dL_law_148 : decode cL_law 148 = .ok (.iload 4, 2) := dL_law_146_b.2.2.1
theorem dL_law_150 : decode cL_law 150 = .ok (.iconst 2, 1) := dL_law_146_b.2.2.2.1
theorem dL_law_151 : decode cL_law 151 = .ok (.iadd, 1) := dL_law_146_b.2.2.2.2.1
theorem dL_law_152 : decode cL_law 152 = .ok (.iaload, 1) := dL_law_146_b.2.2.2.2.2
set_option maxRecDepth 20000 in
theorem dL_law_153_b : (decode cL_law 153 = .ok (.aload_n 0, 1)) ∧ (decode cL_law 154 = .ok (.iload 4, 2)) ∧ (decode cL_law 156 = .ok (.iconst 3, 1)) ∧ (decode cL_law 157 = .ok (.iadd, 1)) ∧ (decode cL_law 158 = .ok (.iaload, 1)) ∧ (decode cL_law 159 = .ok (.aload_n 0, 1)) := by decide +kernel
theorem dL_law_153 : decode cL_law 153 = .ok (.aload_n 0, 1) := dL_law_153_b.1
theorem dL_law_154 : decode cL_law 154 = .ok (.iload 4, 2) := dL_law_153_b.2.1
theorem dL_law_156 : decode cL_law 156 = .ok (.iconst 3, 1) := dL_law_153_b.2.2.1
theorem dL_law_157 : decode cL_law 157 = .ok (.iadd, 1) := dL_law_153_b.2.2.2.1
theorem dL_law_158 : decode cL_law 158 = .ok (.iaload, 1) := dL_law_153_b.2.2.2.2.1
theorem dL_law_159 : decode cL_law 159 = .ok (.aload_n 0, 1) := dL_law_153_b.2.2.2.2.2
set_option maxRecDepth 20000 in
theorem dL_law_160_b : (decode cL_law 160 = .ok (.iload 4, 2)) ∧ (decode cL_law 162 = .ok (.iconst 4, 1)) ∧ (decode cL_law 163 = .ok (.iadd, 1)) ∧ (decode cL_law 164 = .ok (.iaload, 1)) ∧ (decode cL_law 165 = .ok (.aload_n 0, 1)) ∧ (decode cL_law 166 = .ok (.iload 4, 2)) := by decide +kernel
theorem dL_law_160 : decode cL_law 160 = .ok (.iload 4, 2) := dL_law_160_b.1
theorem dL_law_162 : decode cL_law 162 = .ok (.iconst 4, 1) := dL_law_160_b.2.1
theorem dL_law_163 : decode cL_law 163 = .ok (.iadd, 1) := dL_law_160_b.2.2.1
theorem dL_law_164 : decode cL_law 164 = .ok (.iaload, 1) := dL_law_160_b.2.2.2.1
theorem dL_law_165 : decode cL_law 165 = .ok (.aload_n 0, 1) := dL_law_160_b.2.2.2.2.1
theorem dL_law_166 : decode cL_law 166 = .ok (.iload 4, 2) := dL_law_160_b.2.2.2.2.2
set_option maxRecDepth 20000 in
theorem dL_law_168_b : (decode cL_law 168 = .ok (.iconst 5, 1)) ∧ (decode cL_law 169 = .ok (.iadd, 1)) ∧ (decode cL_law 170 = .ok (.iaload, 1)) ∧ (decode cL_law 171 = .ok (.invokevirtual 46, 3)) ∧ (decode cL_law 174 = .ok (.aload_n 2, 1)) ∧ (decode cL_law 175 = .ok (.aload_n 0, 1)) := by decide +kernel
theorem dL_law_168 : decode cL_law 168 = .ok (.iconst 5, 1) := dL_law_168_b.1
theorem dL_law_169 : decode cL_law 169 = .ok (.iadd, 1) := dL_law_168_b.2.1
theorem dL_law_170 : decode cL_law 170 = .ok (.iaload, 1) := dL_law_168_b.2.2.1
theorem dL_law_171 : decode cL_law 171 = .ok (.invokevirtual 46, 3) := dL_law_168_b.2.2.2.1
theorem dL_law_174 : decode cL_law 174 = .ok (.aload_n 2, 1) := dL_law_168_b.2.2.2.2.1
theorem dL_law_175 : decode cL_law 175 = .ok (.aload_n 0, 1) := dL_law_168_b.2.2.2.2.2
set_option maxRecDepth 20000 in
theorem dL_law_176_b : (decode cL_law 176 = .ok (.iload 4, 2)) ∧ (decode cL_law 178 = .ok (.iconst 1, 1)) ∧ (decode cL_law 179 = .ok (.iadd, 1)) ∧ (decode cL_law 180 = .ok (.iaload, 1)) ∧ (decode cL_law 181 = .ok (.aload_n 0, 1)) ∧ (decode cL_law 182 = .ok (.iload 4, 2)) := by decide +kernel
theorem dL_law_176 : decode cL_law 176 = .ok (.iload 4, 2) := dL_law_176_b.1
theorem dL_law_178 : decode cL_law 178 = .ok (.iconst 1, 1) := dL_law_176_b.2.1
theorem dL_law_179 : decode cL_law 179 = .ok (.iadd, 1) := dL_law_176_b.2.2.1
theorem dL_law_180 : decode cL_law 180 = .ok (.iaload, 1) := dL_law_176_b.2.2.2.1
theorem dL_law_181 : decode cL_law 181 = .ok (.aload_n 0, 1) := dL_law_176_b.2.2.2.2.1
theorem dL_law_182 : decode cL_law 182 = .ok (.iload 4, 2) := dL_law_176_b.2.2.2.2.2
set_option maxRecDepth 20000 in
theorem dL_law_184_b : (decode cL_law 184 = .ok (.iconst 2, 1)) ∧ (decode cL_law 185 = .ok (.iadd, 1)) ∧ (decode cL_law 186 = .ok (.iaload, 1)) ∧ (decode cL_law 187 = .ok (.aload_n 0, 1)) ∧ (decode cL_law 188 = .ok (.iload 4, 2)) ∧ (decode cL_law 190 = .ok (.iconst 3, 1)) := by decide +kernel
theorem dL_law_184 : decode cL_law 184 = .ok (.iconst 2, 1) := dL_law_184_b.1
theorem dL_law_185 : decode cL_law 185 = .ok (.iadd, 1) := dL_law_184_b.2.1
theorem dL_law_186 : decode cL_law 186 = .ok (.iaload, 1) := dL_law_184_b.2.2.1
theorem dL_law_187 : decode cL_law 187 = .ok (.aload_n 0, 1) := dL_law_184_b.2.2.2.1
theorem dL_law_188 : decode cL_law 188 = .ok (.iload 4, 2) := dL_law_184_b.2.2.2.2.1
theorem dL_law_190 : decode cL_law 190 = .ok (.iconst 3, 1) := dL_law_184_b.2.2.2.2.2
set_option maxRecDepth 20000 in
theorem dL_law_191_b : (decode cL_law 191 = .ok (.iadd, 1)) ∧ (decode cL_law 192 = .ok (.iaload, 1)) ∧ (decode cL_law 193 = .ok (.aload_n 0, 1)) ∧ (decode cL_law 194 = .ok (.iload 4, 2)) ∧ (decode cL_law 196 = .ok (.iconst 4, 1)) ∧ (decode cL_law 197 = .ok (.iadd, 1)) := by decide +kernel
theorem dL_law_191 : decode cL_law 191 = .ok (.iadd, 1) := dL_law_191_b.1
theorem dL_law_192 : decode cL_law 192 = .ok (.iaload, 1) := dL_law_191_b.2.1
theorem dL_law_193 : decode cL_law 193 = .ok (.aload_n 0, 1) := dL_law_191_b.2.2.1
theorem dL_law_194 : decode cL_law 194 = .ok (.iload 4, 2) := dL_law_191_b.2.2.2.1
theorem dL_law_196 : decode cL_law 196 = .ok (.iconst 4, 1) := dL_law_191_b.2.2.2.2.1
theorem dL_law_197 : decode cL_law 197 = .ok (.iadd, 1) := dL_law_191_b.2.2.2.2.2
set_option maxRecDepth 20000 in
theorem dL_law_198_b : (decode cL_law 198 = .ok (.iaload, 1)) ∧ (decode cL_law 199 = .ok (.aload_n 0, 1)) ∧ (decode cL_law 200 = .ok (.iload 4, 2)) ∧ (decode cL_law 202 = .ok (.iconst 5, 1)) ∧ (decode cL_law 203 = .ok (.iadd, 1)) ∧ (decode cL_law 204 = .ok (.iaload, 1)) := by decide +kernel
theorem dL_law_198 : decode cL_law 198 = .ok (.iaload, 1) := dL_law_198_b.1
theorem dL_law_199 : decode cL_law 199 = .ok (.aload_n 0, 1) := dL_law_198_b.2.1
theorem dL_law_200 : decode cL_law 200 = .ok (.iload 4, 2) := dL_law_198_b.2.2.1
theorem dL_law_202 : decode cL_law 202 = .ok (.iconst 5, 1) := dL_law_198_b.2.2.2.1
theorem dL_law_203 : decode cL_law 203 = .ok (.iadd, 1) := dL_law_198_b.2.2.2.2.1
theorem dL_law_204 : decode cL_law 204 = .ok (.iaload, 1) := dL_law_198_b.2.2.2.2.2
set_option maxRecDepth 20000 in
theorem dL_law_205_b : (decode cL_law 205 = .ok (.invokevirtual 50, 3)) ∧ (decode cL_law 208 = .ok (.if_icmp .eq 542, 3)) ∧ (decode cL_law 213 = .ok (.aload_n 1, 1)) ∧ (decode cL_law 214 = .ok (.aload_n 0, 1)) ∧ (decode cL_law 215 = .ok (.iload 4, 2)) ∧ (decode cL_law 217 = .ok (.iconst 1, 1)) := by decide +kernel
theorem dL_law_205 : decode cL_law 205 = .ok (.invokevirtual 50, 3) := dL_law_205_b.1
theorem dL_law_208 : decode cL_law 208 = .ok (.if_icmp .eq 542, 3) := dL_law_205_b.2.1
theorem dL_law_213 : decode cL_law 213 = .ok (.aload_n 1, 1) := dL_law_205_b.2.2.1
theorem dL_law_214 : decode cL_law 214 = .ok (.aload_n 0, 1) := dL_law_205_b.2.2.2.1
theorem dL_law_215 : decode cL_law 215 = .ok (.iload 4, 2) := dL_law_205_b.2.2.2.2.1
theorem dL_law_217 : decode cL_law 217 = .ok (.iconst 1, 1) := dL_law_205_b.2.2.2.2.2
set_option maxRecDepth 20000 in
theorem dL_law_218_b : (decode cL_law 218 = .ok (.iadd, 1)) ∧ (decode cL_law 219 = .ok (.iaload, 1)) ∧ (decode cL_law 220 = .ok (.aload_n 3, 1)) ∧ (decode cL_law 221 = .ok (.invokestatic 51, 3)) ∧ (decode cL_law 224 = .ok (.istore 5, 2)) ∧ (decode cL_law 226 = .ok (.aload_n 2, 1)) := by decide +kernel
theorem dL_law_218 : decode cL_law 218 = .ok (.iadd, 1) := dL_law_218_b.1
theorem dL_law_219 : decode cL_law 219 = .ok (.iaload, 1) := dL_law_218_b.2.1
theorem dL_law_220 : decode cL_law 220 = .ok (.aload_n 3, 1) := dL_law_218_b.2.2.1
theorem dL_law_221 : decode cL_law 221 = .ok (.invokestatic 51, 3) := dL_law_218_b.2.2.2.1
theorem dL_law_224 : decode cL_law 224 = .ok (.istore 5, 2) := dL_law_218_b.2.2.2.2.1
theorem dL_law_226 : decode cL_law 226 = .ok (.aload_n 2, 1) := dL_law_218_b.2.2.2.2.2
set_option maxRecDepth 20000 in
theorem dL_law_227_b : (decode cL_law 227 = .ok (.aload_n 0, 1)) ∧ (decode cL_law 228 = .ok (.iload 4, 2)) ∧ (decode cL_law 230 = .ok (.iconst 1, 1)) ∧ (decode cL_law 231 = .ok (.iadd, 1)) ∧ (decode cL_law 232 = .ok (.iaload, 1)) ∧ (decode cL_law 233 = .ok (.invokevirtual 56, 3)) := by decide +kernel
theorem dL_law_227 : decode cL_law 227 = .ok (.aload_n 0, 1) := dL_law_227_b.1
theorem dL_law_228 : decode cL_law 228 = .ok (.iload 4, 2) := dL_law_227_b.2.1
theorem dL_law_230 : decode cL_law 230 = .ok (.iconst 1, 1) := dL_law_227_b.2.2.1
theorem dL_law_231 : decode cL_law 231 = .ok (.iadd, 1) := dL_law_227_b.2.2.2.1
theorem dL_law_232 : decode cL_law 232 = .ok (.iaload, 1) := dL_law_227_b.2.2.2.2.1
theorem dL_law_233 : decode cL_law 233 = .ok (.invokevirtual 56, 3) := dL_law_227_b.2.2.2.2.2
set_option maxRecDepth 20000 in
theorem dL_law_236_b : (decode cL_law 236 = .ok (.istore 6, 2)) ∧ (decode cL_law 238 = .ok (.goto 512, 3)) ∧ (decode cL_law 241 = .ok (.aload_n 1, 1)) ∧ (decode cL_law 242 = .ok (.invokevirtual 57, 3)) ∧ (decode cL_law 245 = .ok (.pop, 1)) ∧ (decode cL_law 246 = .ok (.aload_n 2, 1)) := by decide +kernel
theorem dL_law_236 : decode cL_law 236 = .ok (.istore 6, 2) := dL_law_236_b.1
theorem dL_law_238 : decode cL_law 238 = .ok (.goto 512, 3) := dL_law_236_b.2.1
theorem dL_law_241 : decode cL_law 241 = .ok (.aload_n 1, 1) := dL_law_236_b.2.2.1
theorem dL_law_242 : decode cL_law 242 = .ok (.invokevirtual 57, 3) := dL_law_236_b.2.2.2.1
theorem dL_law_245 : decode cL_law 245 = .ok (.pop, 1) := dL_law_236_b.2.2.2.2.1
theorem dL_law_246 : decode cL_law 246 = .ok (.aload_n 2, 1) := dL_law_236_b.2.2.2.2.2
set_option maxRecDepth 20000 in
theorem dL_law_247_b : (decode cL_law 247 = .ok (.invokevirtual 61, 3)) ∧ (decode cL_law 250 = .ok (.pop, 1)) ∧ (decode cL_law 251 = .ok (.goto 499, 3)) ∧ (decode cL_law 254 = .ok (.aload_n 1, 1)) ∧ (decode cL_law 255 = .ok (.aload_n 0, 1)) ∧ (decode cL_law 256 = .ok (.iload 4, 2)) := by decide +kernel
theorem dL_law_247 : decode cL_law 247 = .ok (.invokevirtual 61, 3) := dL_law_247_b.1
theorem dL_law_250 : decode cL_law 250 = .ok (.pop, 1) := dL_law_247_b.2.1
theorem dL_law_251 : decode cL_law 251 = .ok (.goto 499, 3) := dL_law_247_b.2.2.1
theorem dL_law_254 : decode cL_law 254 = .ok (.aload_n 1, 1) := dL_law_247_b.2.2.2.1
theorem dL_law_255 : decode cL_law 255 = .ok (.aload_n 0, 1) := dL_law_247_b.2.2.2.2.1
theorem dL_law_256 : decode cL_law 256 = .ok (.iload 4, 2) := dL_law_247_b.2.2.2.2.2
set_option maxRecDepth 20000 in
theorem dL_law_258_b : (decode cL_law 258 = .ok (.iconst 1, 1)) ∧ (decode cL_law 259 = .ok (.iadd, 1)) ∧ (decode cL_law 260 = .ok (.iaload, 1)) ∧ (decode cL_law 261 = .ok (.aload_n 3, 1)) ∧ (decode cL_law 262 = .ok (.invokestatic 62, 3)) ∧ (decode cL_law 265 = .ok (.istore 5, 2)) := by decide +kernel
theorem dL_law_258 : decode cL_law 258 = .ok (.iconst 1, 1) := dL_law_258_b.1
theorem dL_law_259 : decode cL_law 259 = .ok (.iadd, 1) := dL_law_258_b.2.1
theorem dL_law_260 : decode cL_law 260 = .ok (.iaload, 1) := dL_law_258_b.2.2.1
theorem dL_law_261 : decode cL_law 261 = .ok (.aload_n 3, 1) := dL_law_258_b.2.2.2.1
theorem dL_law_262 : decode cL_law 262 = .ok (.invokestatic 62, 3) := dL_law_258_b.2.2.2.2.1
theorem dL_law_265 : decode cL_law 265 = .ok (.istore 5, 2) := dL_law_258_b.2.2.2.2.2
set_option maxRecDepth 20000 in
theorem dL_law_267_b : (decode cL_law 267 = .ok (.aload_n 2, 1)) ∧ (decode cL_law 268 = .ok (.aload_n 0, 1)) ∧ (decode cL_law 269 = .ok (.iload 4, 2)) ∧ (decode cL_law 271 = .ok (.iconst 1, 1)) ∧ (decode cL_law 272 = .ok (.iadd, 1)) ∧ (decode cL_law 273 = .ok (.iaload, 1)) := by decide +kernel
theorem dL_law_267 : decode cL_law 267 = .ok (.aload_n 2, 1) := dL_law_267_b.1
theorem dL_law_268 : decode cL_law 268 = .ok (.aload_n 0, 1) := dL_law_267_b.2.1
theorem dL_law_269 : decode cL_law 269 = .ok (.iload 4, 2) := dL_law_267_b.2.2.1
theorem dL_law_271 : decode cL_law 271 = .ok (.iconst 1, 1) := dL_law_267_b.2.2.2.1
theorem dL_law_272 : decode cL_law 272 = .ok (.iadd, 1) := dL_law_267_b.2.2.2.2.1
theorem dL_law_273 : decode cL_law 273 = .ok (.iaload, 1) := dL_law_267_b.2.2.2.2.2
set_option maxRecDepth 20000 in
theorem dL_law_274_b : (decode cL_law 274 = .ok (.invokevirtual 64, 3)) ∧ (decode cL_law 277 = .ok (.istore 6, 2)) ∧ (decode cL_law 279 = .ok (.goto 471, 3)) ∧ (decode cL_law 282 = .ok (.aload_n 1, 1)) ∧ (decode cL_law 283 = .ok (.aload_n 0, 1)) ∧ (decode cL_law 284 = .ok (.iload 4, 2)) := by decide +kernel
theorem dL_law_274 : decode cL_law 274 = .ok (.invokevirtual 64, 3) := dL_law_274_b.1
theorem dL_law_277 : decode cL_law 277 = .ok (.istore 6, 2) := dL_law_274_b.2.1
theorem dL_law_279 : decode cL_law 279 = .ok (.goto 471, 3) := dL_law_274_b.2.2.1
theorem dL_law_282 : decode cL_law 282 = .ok (.aload_n 1, 1) := dL_law_274_b.2.2.2.1
theorem dL_law_283 : decode cL_law 283 = .ok (.aload_n 0, 1) := dL_law_274_b.2.2.2.2.1
theorem dL_law_284 : decode cL_law 284 = .ok (.iload 4, 2) := dL_law_274_b.2.2.2.2.2
set_option maxRecDepth 20000 in
theorem dL_law_286_b : (decode cL_law 286 = .ok (.iconst 1, 1)) ∧ (decode cL_law 287 = .ok (.iadd, 1)) ∧ (decode cL_law 288 = .ok (.iaload, 1)) ∧ (decode cL_law 289 = .ok (.aload_n 0, 1)) ∧ (decode cL_law 290 = .ok (.iload 4, 2)) ∧ (decode cL_law 292 = .ok (.iconst 2, 1)) := by decide +kernel
theorem dL_law_286 : decode cL_law 286 = .ok (.iconst 1, 1) := dL_law_286_b.1
theorem dL_law_287 : decode cL_law 287 = .ok (.iadd, 1) := dL_law_286_b.2.1
theorem dL_law_288 : decode cL_law 288 = .ok (.iaload, 1) := dL_law_286_b.2.2.1
theorem dL_law_289 : decode cL_law 289 = .ok (.aload_n 0, 1) := dL_law_286_b.2.2.2.1
theorem dL_law_290 : decode cL_law 290 = .ok (.iload 4, 2) := dL_law_286_b.2.2.2.2.1
theorem dL_law_292 : decode cL_law 292 = .ok (.iconst 2, 1) := dL_law_286_b.2.2.2.2.2
set_option maxRecDepth 20000 in
theorem dL_law_293_b : (decode cL_law 293 = .ok (.iadd, 1)) ∧ (decode cL_law 294 = .ok (.iaload, 1)) ∧ (decode cL_law 295 = .ok (.aload_n 3, 1)) ∧ (decode cL_law 296 = .ok (.invokestatic 65, 3)) ∧ (decode cL_law 299 = .ok (.istore 5, 2)) ∧ (decode cL_law 301 = .ok (.aload_n 2, 1)) := by decide +kernel
theorem dL_law_293 : decode cL_law 293 = .ok (.iadd, 1) := dL_law_293_b.1
theorem dL_law_294 : decode cL_law 294 = .ok (.iaload, 1) := dL_law_293_b.2.1
theorem dL_law_295 : decode cL_law 295 = .ok (.aload_n 3, 1) := dL_law_293_b.2.2.1
theorem dL_law_296 : decode cL_law 296 = .ok (.invokestatic 65, 3) := dL_law_293_b.2.2.2.1
theorem dL_law_299 : decode cL_law 299 = .ok (.istore 5, 2) := dL_law_293_b.2.2.2.2.1
theorem dL_law_301 : decode cL_law 301 = .ok (.aload_n 2, 1) := dL_law_293_b.2.2.2.2.2
set_option maxRecDepth 20000 in
theorem dL_law_302_b : (decode cL_law 302 = .ok (.aload_n 0, 1)) ∧ (decode cL_law 303 = .ok (.iload 4, 2)) ∧ (decode cL_law 305 = .ok (.iconst 1, 1)) ∧ (decode cL_law 306 = .ok (.iadd, 1)) ∧ (decode cL_law 307 = .ok (.iaload, 1)) ∧ (decode cL_law 308 = .ok (.aload_n 0, 1)) := by decide +kernel
theorem dL_law_302 : decode cL_law 302 = .ok (.aload_n 0, 1) := dL_law_302_b.1
theorem dL_law_303 : decode cL_law 303 = .ok (.iload 4, 2) := dL_law_302_b.2.1
theorem dL_law_305 : decode cL_law 305 = .ok (.iconst 1, 1) := dL_law_302_b.2.2.1
theorem dL_law_306 : decode cL_law 306 = .ok (.iadd, 1) := dL_law_302_b.2.2.2.1
theorem dL_law_307 : decode cL_law 307 = .ok (.iaload, 1) := dL_law_302_b.2.2.2.2.1
theorem dL_law_308 : decode cL_law 308 = .ok (.aload_n 0, 1) := dL_law_302_b.2.2.2.2.2
set_option maxRecDepth 20000 in
theorem dL_law_309_b : (decode cL_law 309 = .ok (.iload 4, 2)) ∧ (decode cL_law 311 = .ok (.iconst 2, 1)) ∧ (decode cL_law 312 = .ok (.iadd, 1)) ∧ (decode cL_law 313 = .ok (.iaload, 1)) ∧ (decode cL_law 314 = .ok (.invokevirtual 68, 3)) ∧ (decode cL_law 317 = .ok (.istore 6, 2)) := by decide +kernel
theorem dL_law_309 : decode cL_law 309 = .ok (.iload 4, 2) := dL_law_309_b.1
theorem dL_law_311 : decode cL_law 311 = .ok (.iconst 2, 1) := dL_law_309_b.2.1
theorem dL_law_312 : decode cL_law 312 = .ok (.iadd, 1) := dL_law_309_b.2.2.1
theorem dL_law_313 : decode cL_law 313 = .ok (.iaload, 1) := dL_law_309_b.2.2.2.1
theorem dL_law_314 : decode cL_law 314 = .ok (.invokevirtual 68, 3) := dL_law_309_b.2.2.2.2.1
theorem dL_law_317 : decode cL_law 317 = .ok (.istore 6, 2) := dL_law_309_b.2.2.2.2.2
set_option maxRecDepth 20000 in
theorem dL_law_319_b : (decode cL_law 319 = .ok (.goto 431, 3)) ∧ (decode cL_law 322 = .ok (.aload_n 1, 1)) ∧ (decode cL_law 323 = .ok (.aload_n 0, 1)) ∧ (decode cL_law 324 = .ok (.iload 4, 2)) ∧ (decode cL_law 326 = .ok (.iconst 1, 1)) ∧ (decode cL_law 327 = .ok (.iadd, 1)) := by decide +kernel
theorem dL_law_319 : decode cL_law 319 = .ok (.goto 431, 3) := dL_law_319_b.1
theorem dL_law_322 : decode cL_law 322 = .ok (.aload_n 1, 1) := dL_law_319_b.2.1
theorem dL_law_323 : decode cL_law 323 = .ok (.aload_n 0, 1) := dL_law_319_b.2.2.1
theorem dL_law_324 : decode cL_law 324 = .ok (.iload 4, 2) := dL_law_319_b.2.2.2.1
theorem dL_law_326 : decode cL_law 326 = .ok (.iconst 1, 1) := dL_law_319_b.2.2.2.2.1
theorem dL_law_327 : decode cL_law 327 = .ok (.iadd, 1) := dL_law_319_b.2.2.2.2.2
set_option maxRecDepth 20000 in
theorem dL_law_328_b : (decode cL_law 328 = .ok (.iaload, 1)) ∧ (decode cL_law 329 = .ok (.aload_n 0, 1)) ∧ (decode cL_law 330 = .ok (.iload 4, 2)) ∧ (decode cL_law 332 = .ok (.iconst 2, 1)) ∧ (decode cL_law 333 = .ok (.iadd, 1)) ∧ (decode cL_law 334 = .ok (.iaload, 1)) := by decide +kernel
theorem dL_law_328 : decode cL_law 328 = .ok (.iaload, 1) := dL_law_328_b.1
theorem dL_law_329 : decode cL_law 329 = .ok (.aload_n 0, 1) := dL_law_328_b.2.1
theorem dL_law_330 : decode cL_law 330 = .ok (.iload 4, 2) := dL_law_328_b.2.2.1
theorem dL_law_332 : decode cL_law 332 = .ok (.iconst 2, 1) := dL_law_328_b.2.2.2.1
theorem dL_law_333 : decode cL_law 333 = .ok (.iadd, 1) := dL_law_328_b.2.2.2.2.1
theorem dL_law_334 : decode cL_law 334 = .ok (.iaload, 1) := dL_law_328_b.2.2.2.2.2
set_option maxRecDepth 20000 in
theorem dL_law_335_b : (decode cL_law 335 = .ok (.aload_n 3, 1)) ∧ (decode cL_law 336 = .ok (.invokestatic 69, 3)) ∧ (decode cL_law 339 = .ok (.istore 5, 2)) ∧ (decode cL_law 341 = .ok (.aload_n 2, 1)) ∧ (decode cL_law 342 = .ok (.aload_n 0, 1)) ∧ (decode cL_law 343 = .ok (.iload 4, 2)) := by decide +kernel
theorem dL_law_335 : decode cL_law 335 = .ok (.aload_n 3, 1) := dL_law_335_b.1
theorem dL_law_336 : decode cL_law 336 = .ok (.invokestatic 69, 3) := dL_law_335_b.2.1
theorem dL_law_339 : decode cL_law 339 = .ok (.istore 5, 2) := dL_law_335_b.2.2.1
theorem dL_law_341 : decode cL_law 341 = .ok (.aload_n 2, 1) := dL_law_335_b.2.2.2.1
theorem dL_law_342 : decode cL_law 342 = .ok (.aload_n 0, 1) := dL_law_335_b.2.2.2.2.1
theorem dL_law_343 : decode cL_law 343 = .ok (.iload 4, 2) := dL_law_335_b.2.2.2.2.2
set_option maxRecDepth 20000 in
theorem dL_law_345_b : (decode cL_law 345 = .ok (.iconst 1, 1)) ∧ (decode cL_law 346 = .ok (.iadd, 1)) ∧ (decode cL_law 347 = .ok (.iaload, 1)) ∧ (decode cL_law 348 = .ok (.aload_n 0, 1)) ∧ (decode cL_law 349 = .ok (.iload 4, 2)) ∧ (decode cL_law 351 = .ok (.iconst 2, 1)) := by decide +kernel
theorem dL_law_345 : decode cL_law 345 = .ok (.iconst 1, 1) := dL_law_345_b.1
theorem dL_law_346 : decode cL_law 346 = .ok (.iadd, 1) := dL_law_345_b.2.1
theorem dL_law_347 : decode cL_law 347 = .ok (.iaload, 1) := dL_law_345_b.2.2.1
theorem dL_law_348 : decode cL_law 348 = .ok (.aload_n 0, 1) := dL_law_345_b.2.2.2.1
theorem dL_law_349 : decode cL_law 349 = .ok (.iload 4, 2) := dL_law_345_b.2.2.2.2.1
theorem dL_law_351 : decode cL_law 351 = .ok (.iconst 2, 1) := dL_law_345_b.2.2.2.2.2
set_option maxRecDepth 20000 in
theorem dL_law_352_b : (decode cL_law 352 = .ok (.iadd, 1)) ∧ (decode cL_law 353 = .ok (.iaload, 1)) ∧ (decode cL_law 354 = .ok (.invokevirtual 71, 3)) ∧ (decode cL_law 357 = .ok (.istore 6, 2)) ∧ (decode cL_law 359 = .ok (.goto 391, 3)) ∧ (decode cL_law 362 = .ok (.aload_n 1, 1)) := by decide +kernel
theorem dL_law_352 : decode cL_law 352 = .ok (.iadd, 1) := dL_law_352_b.1
theorem dL_law_353 : decode cL_law 353 = .ok (.iaload, 1) := dL_law_352_b.2.1
theorem dL_law_354 : decode cL_law 354 = .ok (.invokevirtual 71, 3) := dL_law_352_b.2.2.1
theorem dL_law_357 : decode cL_law 357 = .ok (.istore 6, 2) := dL_law_352_b.2.2.2.1
theorem dL_law_359 : decode cL_law 359 = .ok (.goto 391, 3) := dL_law_352_b.2.2.2.2.1
theorem dL_law_362 : decode cL_law 362 = .ok (.aload_n 1, 1) := dL_law_352_b.2.2.2.2.2
set_option maxRecDepth 20000 in
theorem dL_law_363_b : (decode cL_law 363 = .ok (.aload_n 0, 1)) ∧ (decode cL_law 364 = .ok (.iload 4, 2)) ∧ (decode cL_law 366 = .ok (.iconst 1, 1)) ∧ (decode cL_law 367 = .ok (.iadd, 1)) ∧ (decode cL_law 368 = .ok (.iaload, 1)) ∧ (decode cL_law 369 = .ok (.aload_n 0, 1)) := by decide +kernel
theorem dL_law_363 : decode cL_law 363 = .ok (.aload_n 0, 1) := dL_law_363_b.1
theorem dL_law_364 : decode cL_law 364 = .ok (.iload 4, 2) := dL_law_363_b.2.1
theorem dL_law_366 : decode cL_law 366 = .ok (.iconst 1, 1) := dL_law_363_b.2.2.1
theorem dL_law_367 : decode cL_law 367 = .ok (.iadd, 1) := dL_law_363_b.2.2.2.1
theorem dL_law_368 : decode cL_law 368 = .ok (.iaload, 1) := dL_law_363_b.2.2.2.2.1
theorem dL_law_369 : decode cL_law 369 = .ok (.aload_n 0, 1) := dL_law_363_b.2.2.2.2.2
set_option maxRecDepth 20000 in
theorem dL_law_370_b : (decode cL_law 370 = .ok (.iload 4, 2)) ∧ (decode cL_law 372 = .ok (.iconst 2, 1)) ∧ (decode cL_law 373 = .ok (.iadd, 1)) ∧ (decode cL_law 374 = .ok (.iaload, 1)) ∧ (decode cL_law 375 = .ok (.invokevirtual 72, 3)) ∧ (decode cL_law 378 = .ok (.pop, 1)) := by decide +kernel
theorem dL_law_370 : decode cL_law 370 = .ok (.iload 4, 2) := dL_law_370_b.1
theorem dL_law_372 : decode cL_law 372 = .ok (.iconst 2, 1) := dL_law_370_b.2.1
theorem dL_law_373 : decode cL_law 373 = .ok (.iadd, 1) := dL_law_370_b.2.2.1
theorem dL_law_374 : decode cL_law 374 = .ok (.iaload, 1) := dL_law_370_b.2.2.2.1
theorem dL_law_375 : decode cL_law 375 = .ok (.invokevirtual 72, 3) := dL_law_370_b.2.2.2.2.1
theorem dL_law_378 : decode cL_law 378 = .ok (.pop, 1) := dL_law_370_b.2.2.2.2.2
set_option maxRecDepth 20000 in
theorem dL_law_379_b : (decode cL_law 379 = .ok (.aload_n 2, 1)) ∧ (decode cL_law 380 = .ok (.aload_n 0, 1)) ∧ (decode cL_law 381 = .ok (.iload 4, 2)) ∧ (decode cL_law 383 = .ok (.iconst 1, 1)) ∧ (decode cL_law 384 = .ok (.iadd, 1)) ∧ (decode cL_law 385 = .ok (.iaload, 1)) := by decide +kernel
theorem dL_law_379 : decode cL_law 379 = .ok (.aload_n 2, 1) := dL_law_379_b.1
theorem dL_law_380 : decode cL_law 380 = .ok (.aload_n 0, 1) := dL_law_379_b.2.1
theorem dL_law_381 : decode cL_law 381 = .ok (.iload 4, 2) := dL_law_379_b.2.2.1
theorem dL_law_383 : decode cL_law 383 = .ok (.iconst 1, 1) := dL_law_379_b.2.2.2.1
theorem dL_law_384 : decode cL_law 384 = .ok (.iadd, 1) := dL_law_379_b.2.2.2.2.1
theorem dL_law_385 : decode cL_law 385 = .ok (.iaload, 1) := dL_law_379_b.2.2.2.2.2
set_option maxRecDepth 20000 in
theorem dL_law_386_b : (decode cL_law 386 = .ok (.aload_n 0, 1)) ∧ (decode cL_law 387 = .ok (.iload 4, 2)) ∧ (decode cL_law 389 = .ok (.iconst 2, 1)) ∧ (decode cL_law 390 = .ok (.iadd, 1)) ∧ (decode cL_law 391 = .ok (.iaload, 1)) ∧ (decode cL_law 392 = .ok (.invokevirtual 75, 3)) := by decide +kernel
theorem dL_law_386 : decode cL_law 386 = .ok (.aload_n 0, 1) := dL_law_386_b.1
theorem dL_law_387 : decode cL_law 387 = .ok (.iload 4, 2) := dL_law_386_b.2.1
theorem dL_law_389 : decode cL_law 389 = .ok (.iconst 2, 1) := dL_law_386_b.2.2.1
theorem dL_law_390 : decode cL_law 390 = .ok (.iadd, 1) := dL_law_386_b.2.2.2.1
theorem dL_law_391 : decode cL_law 391 = .ok (.iaload, 1) := dL_law_386_b.2.2.2.2.1
theorem dL_law_392 : decode cL_law 392 = .ok (.invokevirtual 75, 3) := dL_law_386_b.2.2.2.2.2
set_option maxRecDepth 20000 in
theorem dL_law_395_b : (decode cL_law 395 = .ok (.pop, 1)) ∧ (decode cL_law 396 = .ok (.goto 354, 3)) ∧ (decode cL_law 399 = .ok (.aload_n 1, 1)) ∧ (decode cL_law 400 = .ok (.aload_n 0, 1)) ∧ (decode cL_law 401 = .ok (.iload 4, 2)) ∧ (decode cL_law 403 = .ok (.iconst 1, 1)) := by decide +kernel
theorem dL_law_395 : decode cL_law 395 = .ok (.pop, 1) := dL_law_395_b.1
theorem dL_law_396 : decode cL_law 396 = .ok (.goto 354, 3) := dL_law_395_b.2.1
theorem dL_law_399 : decode cL_law 399 = .ok (.aload_n 1, 1) := dL_law_395_b.2.2.1
theorem dL_law_400 : decode cL_law 400 = .ok (.aload_n 0, 1) := dL_law_395_b.2.2.2.1
theorem dL_law_401 : decode cL_law 401 = .ok (.iload 4, 2) := dL_law_395_b.2.2.2.2.1
theorem dL_law_403 : decode cL_law 403 = .ok (.iconst 1, 1) := dL_law_395_b.2.2.2.2.2
set_option maxRecDepth 20000 in
theorem dL_law_404_b : (decode cL_law 404 = .ok (.iadd, 1)) ∧ (decode cL_law 405 = .ok (.iaload, 1)) ∧ (decode cL_law 406 = .ok (.invokevirtual 76, 3)) ∧ (decode cL_law 409 = .ok (.pop, 1)) ∧ (decode cL_law 410 = .ok (.aload_n 2, 1)) ∧ (decode cL_law 411 = .ok (.aload_n 0, 1)) := by decide +kernel
theorem dL_law_404 : decode cL_law 404 = .ok (.iadd, 1) := dL_law_404_b.1
theorem dL_law_405 : decode cL_law 405 = .ok (.iaload, 1) := dL_law_404_b.2.1
theorem dL_law_406 : decode cL_law 406 = .ok (.invokevirtual 76, 3) := dL_law_404_b.2.2.1
theorem dL_law_409 : decode cL_law 409 = .ok (.pop, 1) := dL_law_404_b.2.2.2.1
theorem dL_law_410 : decode cL_law 410 = .ok (.aload_n 2, 1) := dL_law_404_b.2.2.2.2.1
theorem dL_law_411 : decode cL_law 411 = .ok (.aload_n 0, 1) := dL_law_404_b.2.2.2.2.2
set_option maxRecDepth 20000 in
theorem dL_law_412_b : (decode cL_law 412 = .ok (.iload 4, 2)) ∧ (decode cL_law 414 = .ok (.iconst 1, 1)) ∧ (decode cL_law 415 = .ok (.iadd, 1)) ∧ (decode cL_law 416 = .ok (.iaload, 1)) ∧ (decode cL_law 417 = .ok (.invokevirtual 79, 3)) ∧ (decode cL_law 420 = .ok (.pop, 1)) := by decide +kernel
theorem dL_law_412 : decode cL_law 412 = .ok (.iload 4, 2) := dL_law_412_b.1
theorem dL_law_414 : decode cL_law 414 = .ok (.iconst 1, 1) := dL_law_412_b.2.1
theorem dL_law_415 : decode cL_law 415 = .ok (.iadd, 1) := dL_law_412_b.2.2.1
theorem dL_law_416 : decode cL_law 416 = .ok (.iaload, 1) := dL_law_412_b.2.2.2.1
theorem dL_law_417 : decode cL_law 417 = .ok (.invokevirtual 79, 3) := dL_law_412_b.2.2.2.2.1
theorem dL_law_420 : decode cL_law 420 = .ok (.pop, 1) := dL_law_412_b.2.2.2.2.2
set_option maxRecDepth 20000 in
theorem dL_law_421_b : (decode cL_law 421 = .ok (.goto 329, 3)) ∧ (decode cL_law 424 = .ok (.aload_n 1, 1)) ∧ (decode cL_law 425 = .ok (.aload_n 0, 1)) ∧ (decode cL_law 426 = .ok (.iload 4, 2)) ∧ (decode cL_law 428 = .ok (.iconst 1, 1)) ∧ (decode cL_law 429 = .ok (.iadd, 1)) := by decide +kernel
theorem dL_law_421 : decode cL_law 421 = .ok (.goto 329, 3) := dL_law_421_b.1
theorem dL_law_424 : decode cL_law 424 = .ok (.aload_n 1, 1) := dL_law_421_b.2.1
theorem dL_law_425 : decode cL_law 425 = .ok (.aload_n 0, 1) := dL_law_421_b.2.2.1
theorem dL_law_426 : decode cL_law 426 = .ok (.iload 4, 2) := dL_law_421_b.2.2.2.1
theorem dL_law_428 : decode cL_law 428 = .ok (.iconst 1, 1) := dL_law_421_b.2.2.2.2.1
theorem dL_law_429 : decode cL_law 429 = .ok (.iadd, 1) := dL_law_421_b.2.2.2.2.2
set_option maxRecDepth 20000 in
theorem dL_law_430_b : (decode cL_law 430 = .ok (.iaload, 1)) ∧ (decode cL_law 431 = .ok (.aload_n 0, 1)) ∧ (decode cL_law 432 = .ok (.iload 4, 2)) ∧ (decode cL_law 434 = .ok (.iconst 2, 1)) ∧ (decode cL_law 435 = .ok (.iadd, 1)) ∧ (decode cL_law 436 = .ok (.iaload, 1)) := by decide +kernel
theorem dL_law_430 : decode cL_law 430 = .ok (.iaload, 1) := dL_law_430_b.1
theorem dL_law_431 : decode cL_law 431 = .ok (.aload_n 0, 1) := dL_law_430_b.2.1
theorem dL_law_432 : decode cL_law 432 = .ok (.iload 4, 2) := dL_law_430_b.2.2.1
theorem dL_law_434 : decode cL_law 434 = .ok (.iconst 2, 1) := dL_law_430_b.2.2.2.1
theorem dL_law_435 : decode cL_law 435 = .ok (.iadd, 1) := dL_law_430_b.2.2.2.2.1
theorem dL_law_436 : decode cL_law 436 = .ok (.iaload, 1) := dL_law_430_b.2.2.2.2.2
set_option maxRecDepth 20000 in
theorem dL_law_437_b : (decode cL_law 437 = .ok (.invokevirtual 80, 3)) ∧ (decode cL_law 440 = .ok (.pop, 1)) ∧ (decode cL_law 441 = .ok (.aload_n 2, 1)) ∧ (decode cL_law 442 = .ok (.aload_n 0, 1)) ∧ (decode cL_law 443 = .ok (.iload 4, 2)) ∧ (decode cL_law 445 = .ok (.iconst 1, 1)) := by decide +kernel
theorem dL_law_437 : decode cL_law 437 = .ok (.invokevirtual 80, 3) := dL_law_437_b.1
theorem dL_law_440 : decode cL_law 440 = .ok (.pop, 1) := dL_law_437_b.2.1
theorem dL_law_441 : decode cL_law 441 = .ok (.aload_n 2, 1) := dL_law_437_b.2.2.1
theorem dL_law_442 : decode cL_law 442 = .ok (.aload_n 0, 1) := dL_law_437_b.2.2.2.1
theorem dL_law_443 : decode cL_law 443 = .ok (.iload 4, 2) := dL_law_437_b.2.2.2.2.1
theorem dL_law_445 : decode cL_law 445 = .ok (.iconst 1, 1) := dL_law_437_b.2.2.2.2.2
set_option maxRecDepth 20000 in
theorem dL_law_446_b : (decode cL_law 446 = .ok (.iadd, 1)) ∧ (decode cL_law 447 = .ok (.iaload, 1)) ∧ (decode cL_law 448 = .ok (.aload_n 0, 1)) ∧ (decode cL_law 449 = .ok (.iload 4, 2)) ∧ (decode cL_law 451 = .ok (.iconst 2, 1)) ∧ (decode cL_law 452 = .ok (.iadd, 1)) := by decide +kernel
theorem dL_law_446 : decode cL_law 446 = .ok (.iadd, 1) := dL_law_446_b.1
theorem dL_law_447 : decode cL_law 447 = .ok (.iaload, 1) := dL_law_446_b.2.1
theorem dL_law_448 : decode cL_law 448 = .ok (.aload_n 0, 1) := dL_law_446_b.2.2.1
theorem dL_law_449 : decode cL_law 449 = .ok (.iload 4, 2) := dL_law_446_b.2.2.2.1
theorem dL_law_451 : decode cL_law 451 = .ok (.iconst 2, 1) := dL_law_446_b.2.2.2.2.1
theorem dL_law_452 : decode cL_law 452 = .ok (.iadd, 1) := dL_law_446_b.2.2.2.2.2
set_option maxRecDepth 20000 in
theorem dL_law_453_b : (decode cL_law 453 = .ok (.iaload, 1)) ∧ (decode cL_law 454 = .ok (.invokevirtual 83, 3)) ∧ (decode cL_law 457 = .ok (.pop, 1)) ∧ (decode cL_law 458 = .ok (.goto 292, 3)) ∧ (decode cL_law 461 = .ok (.aload_n 1, 1)) ∧ (decode cL_law 462 = .ok (.aload_n 0, 1)) := by decide +kernel
theorem dL_law_453 : decode cL_law 453 = .ok (.iaload, 1) := dL_law_453_b.1
theorem dL_law_454 : decode cL_law 454 = .ok (.invokevirtual 83, 3) := dL_law_453_b.2.1
theorem dL_law_457 : decode cL_law 457 = .ok (.pop, 1) := dL_law_453_b.2.2.1
theorem dL_law_458 : decode cL_law 458 = .ok (.goto 292, 3) := dL_law_453_b.2.2.2.1
theorem dL_law_461 : decode cL_law 461 = .ok (.aload_n 1, 1) := dL_law_453_b.2.2.2.2.1
theorem dL_law_462 : decode cL_law 462 = .ok (.aload_n 0, 1) := dL_law_453_b.2.2.2.2.2
set_option maxRecDepth 20000 in
theorem dL_law_463_b : (decode cL_law 463 = .ok (.iload 4, 2)) ∧ (decode cL_law 465 = .ok (.iconst 1, 1)) ∧ (decode cL_law 466 = .ok (.iadd, 1)) ∧ (decode cL_law 467 = .ok (.iaload, 1)) ∧ (decode cL_law 468 = .ok (.invokevirtual 84, 3)) ∧ (decode cL_law 471 = .ok (.pop, 1)) := by decide +kernel
theorem dL_law_463 : decode cL_law 463 = .ok (.iload 4, 2) := dL_law_463_b.1
theorem dL_law_465 : decode cL_law 465 = .ok (.iconst 1, 1) := dL_law_463_b.2.1
theorem dL_law_466 : decode cL_law 466 = .ok (.iadd, 1) := dL_law_463_b.2.2.1
theorem dL_law_467 : decode cL_law 467 = .ok (.iaload, 1) := dL_law_463_b.2.2.2.1
theorem dL_law_468 : decode cL_law 468 = .ok (.invokevirtual 84, 3) := dL_law_463_b.2.2.2.2.1
theorem dL_law_471 : decode cL_law 471 = .ok (.pop, 1) := dL_law_463_b.2.2.2.2.2
set_option maxRecDepth 20000 in
theorem dL_law_472_b : (decode cL_law 472 = .ok (.aload_n 2, 1)) ∧ (decode cL_law 473 = .ok (.aload_n 0, 1)) ∧ (decode cL_law 474 = .ok (.iload 4, 2)) ∧ (decode cL_law 476 = .ok (.iconst 1, 1)) ∧ (decode cL_law 477 = .ok (.iadd, 1)) ∧ (decode cL_law 478 = .ok (.iaload, 1)) := by decide +kernel
theorem dL_law_472 : decode cL_law 472 = .ok (.aload_n 2, 1) := dL_law_472_b.1
theorem dL_law_473 : decode cL_law 473 = .ok (.aload_n 0, 1) := dL_law_472_b.2.1
theorem dL_law_474 : decode cL_law 474 = .ok (.iload 4, 2) := dL_law_472_b.2.2.1
theorem dL_law_476 : decode cL_law 476 = .ok (.iconst 1, 1) := dL_law_472_b.2.2.2.1
theorem dL_law_477 : decode cL_law 477 = .ok (.iadd, 1) := dL_law_472_b.2.2.2.2.1
theorem dL_law_478 : decode cL_law 478 = .ok (.iaload, 1) := dL_law_472_b.2.2.2.2.2
set_option maxRecDepth 20000 in
theorem dL_law_479_b : (decode cL_law 479 = .ok (.invokevirtual 87, 3)) ∧ (decode cL_law 482 = .ok (.pop, 1)) ∧ (decode cL_law 483 = .ok (.goto 267, 3)) ∧ (decode cL_law 486 = .ok (.aload_n 1, 1)) ∧ (decode cL_law 487 = .ok (.aload_n 0, 1)) ∧ (decode cL_law 488 = .ok (.iload 4, 2)) := by decide +kernel
theorem dL_law_479 : decode cL_law 479 = .ok (.invokevirtual 87, 3) := dL_law_479_b.1
theorem dL_law_482 : decode cL_law 482 = .ok (.pop, 1) := dL_law_479_b.2.1
theorem dL_law_483 : decode cL_law 483 = .ok (.goto 267, 3) := dL_law_479_b.2.2.1
theorem dL_law_486 : decode cL_law 486 = .ok (.aload_n 1, 1) := dL_law_479_b.2.2.2.1
theorem dL_law_487 : decode cL_law 487 = .ok (.aload_n 0, 1) := dL_law_479_b.2.2.2.2.1
theorem dL_law_488 : decode cL_law 488 = .ok (.iload 4, 2) := dL_law_479_b.2.2.2.2.2
set_option maxRecDepth 20000 in
theorem dL_law_490_b : (decode cL_law 490 = .ok (.iconst 1, 1)) ∧ (decode cL_law 491 = .ok (.iadd, 1)) ∧ (decode cL_law 492 = .ok (.iaload, 1)) ∧ (decode cL_law 493 = .ok (.invokevirtual 88, 3)) ∧ (decode cL_law 496 = .ok (.pop, 1)) ∧ (decode cL_law 497 = .ok (.aload_n 2, 1)) := by decide +kernel
theorem dL_law_490 : decode cL_law 490 = .ok (.iconst 1, 1) := dL_law_490_b.1
theorem dL_law_491 : decode cL_law 491 = .ok (.iadd, 1) := dL_law_490_b.2.1
theorem dL_law_492 : decode cL_law 492 = .ok (.iaload, 1) := dL_law_490_b.2.2.1
theorem dL_law_493 : decode cL_law 493 = .ok (.invokevirtual 88, 3) := dL_law_490_b.2.2.2.1
theorem dL_law_496 : decode cL_law 496 = .ok (.pop, 1) := dL_law_490_b.2.2.2.2.1
theorem dL_law_497 : decode cL_law 497 = .ok (.aload_n 2, 1) := dL_law_490_b.2.2.2.2.2
set_option maxRecDepth 20000 in
theorem dL_law_498_b : (decode cL_law 498 = .ok (.aload_n 0, 1)) ∧ (decode cL_law 499 = .ok (.iload 4, 2)) ∧ (decode cL_law 501 = .ok (.iconst 1, 1)) ∧ (decode cL_law 502 = .ok (.iadd, 1)) ∧ (decode cL_law 503 = .ok (.iaload, 1)) ∧ (decode cL_law 504 = .ok (.invokevirtual 91, 3)) := by decide +kernel
theorem dL_law_498 : decode cL_law 498 = .ok (.aload_n 0, 1) := dL_law_498_b.1
theorem dL_law_499 : decode cL_law 499 = .ok (.iload 4, 2) := dL_law_498_b.2.1
theorem dL_law_501 : decode cL_law 501 = .ok (.iconst 1, 1) := dL_law_498_b.2.2.1
theorem dL_law_502 : decode cL_law 502 = .ok (.iadd, 1) := dL_law_498_b.2.2.2.1
theorem dL_law_503 : decode cL_law 503 = .ok (.iaload, 1) := dL_law_498_b.2.2.2.2.1
theorem dL_law_504 : decode cL_law 504 = .ok (.invokevirtual 91, 3) := dL_law_498_b.2.2.2.2.2
set_option maxRecDepth 20000 in
theorem dL_law_507_b : (decode cL_law 507 = .ok (.pop, 1)) ∧ (decode cL_law 508 = .ok (.goto 242, 3)) ∧ (decode cL_law 511 = .ok (.aload_n 1, 1)) ∧ (decode cL_law 512 = .ok (.invokevirtual 92, 3)) ∧ (decode cL_law 515 = .ok (.pop, 1)) ∧ (decode cL_law 516 = .ok (.aload_n 2, 1)) := by decide +kernel
theorem dL_law_507 : decode cL_law 507 = .ok (.pop, 1) := dL_law_507_b.1
theorem dL_law_508 : decode cL_law 508 = .ok (.goto 242, 3) := dL_law_507_b.2.1
theorem dL_law_511 : decode cL_law 511 = .ok (.aload_n 1, 1) := dL_law_507_b.2.2.1
theorem dL_law_512 : decode cL_law 512 = .ok (.invokevirtual 92, 3) := dL_law_507_b.2.2.2.1
theorem dL_law_515 : decode cL_law 515 = .ok (.pop, 1) := dL_law_507_b.2.2.2.2.1
theorem dL_law_516 : decode cL_law 516 = .ok (.aload_n 2, 1) := dL_law_507_b.2.2.2.2.2
set_option maxRecDepth 20000 in
theorem dL_law_517_b : (decode cL_law 517 = .ok (.invokevirtual 95, 3)) ∧ (decode cL_law 520 = .ok (.pop, 1)) ∧ (decode cL_law 521 = .ok (.goto 229, 3)) ∧ (decode cL_law 524 = .ok (.aload_n 1, 1)) ∧ (decode cL_law 525 = .ok (.aload_n 0, 1)) ∧ (decode cL_law 526 = .ok (.iload 4, 2)) := by decide +kernel
theorem dL_law_517 : decode cL_law 517 = .ok (.invokevirtual 95, 3) := dL_law_517_b.1
theorem dL_law_520 : decode cL_law 520 = .ok (.pop, 1) := dL_law_517_b.2.1
theorem dL_law_521 : decode cL_law 521 = .ok (.goto 229, 3) := dL_law_517_b.2.2.1
theorem dL_law_524 : decode cL_law 524 = .ok (.aload_n 1, 1) := dL_law_517_b.2.2.2.1
theorem dL_law_525 : decode cL_law 525 = .ok (.aload_n 0, 1) := dL_law_517_b.2.2.2.2.1
theorem dL_law_526 : decode cL_law 526 = .ok (.iload 4, 2) := dL_law_517_b.2.2.2.2.2
set_option maxRecDepth 20000 in
theorem dL_law_528_b : (decode cL_law 528 = .ok (.iconst 1, 1)) ∧ (decode cL_law 529 = .ok (.iadd, 1)) ∧ (decode cL_law 530 = .ok (.iaload, 1)) ∧ (decode cL_law 531 = .ok (.aload_n 0, 1)) ∧ (decode cL_law 532 = .ok (.iload 4, 2)) ∧ (decode cL_law 534 = .ok (.iconst 2, 1)) := by decide +kernel
theorem dL_law_528 : decode cL_law 528 = .ok (.iconst 1, 1) := dL_law_528_b.1
theorem dL_law_529 : decode cL_law 529 = .ok (.iadd, 1) := dL_law_528_b.2.1
theorem dL_law_530 : decode cL_law 530 = .ok (.iaload, 1) := dL_law_528_b.2.2.1
theorem dL_law_531 : decode cL_law 531 = .ok (.aload_n 0, 1) := dL_law_528_b.2.2.2.1
theorem dL_law_532 : decode cL_law 532 = .ok (.iload 4, 2) := dL_law_528_b.2.2.2.2.1
theorem dL_law_534 : decode cL_law 534 = .ok (.iconst 2, 1) := dL_law_528_b.2.2.2.2.2
set_option maxRecDepth 20000 in
theorem dL_law_535_b : (decode cL_law 535 = .ok (.iadd, 1)) ∧ (decode cL_law 536 = .ok (.iaload, 1)) ∧ (decode cL_law 537 = .ok (.aload_n 3, 1)) ∧ (decode cL_law 538 = .ok (.invokestatic 96, 3)) ∧ (decode cL_law 541 = .ok (.istore 5, 2)) ∧ (decode cL_law 543 = .ok (.aload_n 2, 1)) := by decide +kernel
theorem dL_law_535 : decode cL_law 535 = .ok (.iadd, 1) := dL_law_535_b.1
theorem dL_law_536 : decode cL_law 536 = .ok (.iaload, 1) := dL_law_535_b.2.1
theorem dL_law_537 : decode cL_law 537 = .ok (.aload_n 3, 1) := dL_law_535_b.2.2.1
theorem dL_law_538 : decode cL_law 538 = .ok (.invokestatic 96, 3) := dL_law_535_b.2.2.2.1
theorem dL_law_541 : decode cL_law 541 = .ok (.istore 5, 2) := dL_law_535_b.2.2.2.2.1
theorem dL_law_543 : decode cL_law 543 = .ok (.aload_n 2, 1) := dL_law_535_b.2.2.2.2.2
set_option maxRecDepth 20000 in
theorem dL_law_544_b : (decode cL_law 544 = .ok (.aload_n 0, 1)) ∧ (decode cL_law 545 = .ok (.iload 4, 2)) ∧ (decode cL_law 547 = .ok (.iconst 1, 1)) ∧ (decode cL_law 548 = .ok (.iadd, 1)) ∧ (decode cL_law 549 = .ok (.iaload, 1)) ∧ (decode cL_law 550 = .ok (.aload_n 0, 1)) := by decide +kernel
theorem dL_law_544 : decode cL_law 544 = .ok (.aload_n 0, 1) := dL_law_544_b.1
theorem dL_law_545 : decode cL_law 545 = .ok (.iload 4, 2) := dL_law_544_b.2.1
theorem dL_law_547 : decode cL_law 547 = .ok (.iconst 1, 1) := dL_law_544_b.2.2.1
theorem dL_law_548 : decode cL_law 548 = .ok (.iadd, 1) := dL_law_544_b.2.2.2.1
theorem dL_law_549 : decode cL_law 549 = .ok (.iaload, 1) := dL_law_544_b.2.2.2.2.1
theorem dL_law_550 : decode cL_law 550 = .ok (.aload_n 0, 1) := dL_law_544_b.2.2.2.2.2
set_option maxRecDepth 20000 in
theorem dL_law_551_b : (decode cL_law 551 = .ok (.iload 4, 2)) ∧ (decode cL_law 553 = .ok (.iconst 2, 1)) ∧ (decode cL_law 554 = .ok (.iadd, 1)) ∧ (decode cL_law 555 = .ok (.iaload, 1)) ∧ (decode cL_law 556 = .ok (.invokevirtual 98, 3)) ∧ (decode cL_law 559 = .ok (.istore 6, 2)) := by decide +kernel
theorem dL_law_551 : decode cL_law 551 = .ok (.iload 4, 2) := dL_law_551_b.1
theorem dL_law_553 : decode cL_law 553 = .ok (.iconst 2, 1) := dL_law_551_b.2.1
theorem dL_law_554 : decode cL_law 554 = .ok (.iadd, 1) := dL_law_551_b.2.2.1
theorem dL_law_555 : decode cL_law 555 = .ok (.iaload, 1) := dL_law_551_b.2.2.2.1
theorem dL_law_556 : decode cL_law 556 = .ok (.invokevirtual 98, 3) := dL_law_551_b.2.2.2.2.1
theorem dL_law_559 : decode cL_law 559 = .ok (.istore 6, 2) := dL_law_551_b.2.2.2.2.2
set_option maxRecDepth 20000 in
theorem dL_law_561_b : (decode cL_law 561 = .ok (.goto 189, 3)) ∧ (decode cL_law 564 = .ok (.aload_n 1, 1)) ∧ (decode cL_law 565 = .ok (.invokevirtual 99, 3)) ∧ (decode cL_law 568 = .ok (.pop, 1)) ∧ (decode cL_law 569 = .ok (.aload_n 2, 1)) ∧ (decode cL_law 570 = .ok (.invokevirtual 102, 3)) := by decide +kernel
theorem dL_law_561 : decode cL_law 561 = .ok (.goto 189, 3) := dL_law_561_b.1
theorem dL_law_564 : decode cL_law 564 = .ok (.aload_n 1, 1) := dL_law_561_b.2.1
theorem dL_law_565 : decode cL_law 565 = .ok (.invokevirtual 99, 3) := dL_law_561_b.2.2.1
theorem dL_law_568 : decode cL_law 568 = .ok (.pop, 1) := dL_law_561_b.2.2.2.1
theorem dL_law_569 : decode cL_law 569 = .ok (.aload_n 2, 1) := dL_law_561_b.2.2.2.2.1
theorem dL_law_570 : decode cL_law 570 = .ok (.invokevirtual 102, 3) := dL_law_561_b.2.2.2.2.2
set_option maxRecDepth 20000 in
theorem dL_law_573_b : (decode cL_law 573 = .ok (.pop, 1)) ∧ (decode cL_law 574 = .ok (.goto 176, 3)) ∧ (decode cL_law 577 = .ok (.aload_n 1, 1)) ∧ (decode cL_law 578 = .ok (.aload_n 0, 1)) ∧ (decode cL_law 579 = .ok (.iload 4, 2)) ∧ (decode cL_law 581 = .ok (.iconst 1, 1)) := by decide +kernel
theorem dL_law_573 : decode cL_law 573 = .ok (.pop, 1) := dL_law_573_b.1
theorem dL_law_574 : decode cL_law 574 = .ok (.goto 176, 3) := dL_law_573_b.2.1
theorem dL_law_577 : decode cL_law 577 = .ok (.aload_n 1, 1) := dL_law_573_b.2.2.1
theorem dL_law_578 : decode cL_law 578 = .ok (.aload_n 0, 1) := dL_law_573_b.2.2.2.1
theorem dL_law_579 : decode cL_law 579 = .ok (.iload 4, 2) := dL_law_573_b.2.2.2.2.1
theorem dL_law_581 : decode cL_law 581 = .ok (.iconst 1, 1) := dL_law_573_b.2.2.2.2.2
set_option maxRecDepth 20000 in
theorem dL_law_582_b : (decode cL_law 582 = .ok (.iadd, 1)) ∧ (decode cL_law 583 = .ok (.iaload, 1)) ∧ (decode cL_law 584 = .ok (.aload_n 3, 1)) ∧ (decode cL_law 585 = .ok (.invokestatic 103, 3)) ∧ (decode cL_law 588 = .ok (.istore 5, 2)) ∧ (decode cL_law 590 = .ok (.aload_n 2, 1)) := by decide +kernel
theorem dL_law_582 : decode cL_law 582 = .ok (.iadd, 1) := dL_law_582_b.1
theorem dL_law_583 : decode cL_law 583 = .ok (.iaload, 1) := dL_law_582_b.2.1
theorem dL_law_584 : decode cL_law 584 = .ok (.aload_n 3, 1) := dL_law_582_b.2.2.1
theorem dL_law_585 : decode cL_law 585 = .ok (.invokestatic 103, 3) := dL_law_582_b.2.2.2.1
theorem dL_law_588 : decode cL_law 588 = .ok (.istore 5, 2) := dL_law_582_b.2.2.2.2.1
theorem dL_law_590 : decode cL_law 590 = .ok (.aload_n 2, 1) := dL_law_582_b.2.2.2.2.2
set_option maxRecDepth 20000 in
theorem dL_law_591_b : (decode cL_law 591 = .ok (.aload_n 0, 1)) ∧ (decode cL_law 592 = .ok (.iload 4, 2)) ∧ (decode cL_law 594 = .ok (.iconst 1, 1)) ∧ (decode cL_law 595 = .ok (.iadd, 1)) ∧ (decode cL_law 596 = .ok (.iaload, 1)) ∧ (decode cL_law 597 = .ok (.invokevirtual 105, 3)) := by decide +kernel
theorem dL_law_591 : decode cL_law 591 = .ok (.aload_n 0, 1) := dL_law_591_b.1
theorem dL_law_592 : decode cL_law 592 = .ok (.iload 4, 2) := dL_law_591_b.2.1
theorem dL_law_594 : decode cL_law 594 = .ok (.iconst 1, 1) := dL_law_591_b.2.2.1
theorem dL_law_595 : decode cL_law 595 = .ok (.iadd, 1) := dL_law_591_b.2.2.2.1
theorem dL_law_596 : decode cL_law 596 = .ok (.iaload, 1) := dL_law_591_b.2.2.2.2.1
theorem dL_law_597 : decode cL_law 597 = .ok (.invokevirtual 105, 3) := dL_law_591_b.2.2.2.2.2
set_option maxRecDepth 20000 in
theorem dL_law_600_b : (decode cL_law 600 = .ok (.istore 6, 2)) ∧ (decode cL_law 602 = .ok (.goto 148, 3)) ∧ (decode cL_law 605 = .ok (.aload_n 1, 1)) ∧ (decode cL_law 606 = .ok (.aload_n 0, 1)) ∧ (decode cL_law 607 = .ok (.iload 4, 2)) ∧ (decode cL_law 609 = .ok (.iconst 1, 1)) := by decide +kernel
theorem dL_law_600 : decode cL_law 600 = .ok (.istore 6, 2) := dL_law_600_b.1
theorem dL_law_602 : decode cL_law 602 = .ok (.goto 148, 3) := dL_law_600_b.2.1
theorem dL_law_605 : decode cL_law 605 = .ok (.aload_n 1, 1) := dL_law_600_b.2.2.1
theorem dL_law_606 : decode cL_law 606 = .ok (.aload_n 0, 1) := dL_law_600_b.2.2.2.1
theorem dL_law_607 : decode cL_law 607 = .ok (.iload 4, 2) := dL_law_600_b.2.2.2.2.1
theorem dL_law_609 : decode cL_law 609 = .ok (.iconst 1, 1) := dL_law_600_b.2.2.2.2.2
set_option maxRecDepth 20000 in
theorem dL_law_610_b : (decode cL_law 610 = .ok (.iadd, 1)) ∧ (decode cL_law 611 = .ok (.iaload, 1)) ∧ (decode cL_law 612 = .ok (.aload_n 3, 1)) ∧ (decode cL_law 613 = .ok (.invokestatic 106, 3)) ∧ (decode cL_law 616 = .ok (.istore 5, 2)) ∧ (decode cL_law 618 = .ok (.aload_n 2, 1)) := by decide +kernel
theorem dL_law_610 : decode cL_law 610 = .ok (.iadd, 1) := dL_law_610_b.1
theorem dL_law_611 : decode cL_law 611 = .ok (.iaload, 1) := dL_law_610_b.2.1
theorem dL_law_612 : decode cL_law 612 = .ok (.aload_n 3, 1) := dL_law_610_b.2.2.1
theorem dL_law_613 : decode cL_law 613 = .ok (.invokestatic 106, 3) := dL_law_610_b.2.2.2.1
theorem dL_law_616 : decode cL_law 616 = .ok (.istore 5, 2) := dL_law_610_b.2.2.2.2.1
theorem dL_law_618 : decode cL_law 618 = .ok (.aload_n 2, 1) := dL_law_610_b.2.2.2.2.2
set_option maxRecDepth 20000 in
theorem dL_law_619_b : (decode cL_law 619 = .ok (.aload_n 0, 1)) ∧ (decode cL_law 620 = .ok (.iload 4, 2)) ∧ (decode cL_law 622 = .ok (.iconst 1, 1)) ∧ (decode cL_law 623 = .ok (.iadd, 1)) ∧ (decode cL_law 624 = .ok (.iaload, 1)) ∧ (decode cL_law 625 = .ok (.invokevirtual 108, 3)) := by decide +kernel
theorem dL_law_619 : decode cL_law 619 = .ok (.aload_n 0, 1) := dL_law_619_b.1
theorem dL_law_620 : decode cL_law 620 = .ok (.iload 4, 2) := dL_law_619_b.2.1
theorem dL_law_622 : decode cL_law 622 = .ok (.iconst 1, 1) := dL_law_619_b.2.2.1
theorem dL_law_623 : decode cL_law 623 = .ok (.iadd, 1) := dL_law_619_b.2.2.2.1
theorem dL_law_624 : decode cL_law 624 = .ok (.iaload, 1) := dL_law_619_b.2.2.2.2.1
theorem dL_law_625 : decode cL_law 625 = .ok (.invokevirtual 108, 3) := dL_law_619_b.2.2.2.2.2
set_option maxRecDepth 20000 in
theorem dL_law_628_b : (decode cL_law 628 = .ok (.istore 6, 2)) ∧ (decode cL_law 630 = .ok (.goto 120, 3)) ∧ (decode cL_law 633 = .ok (.aload_n 1, 1)) ∧ (decode cL_law 634 = .ok (.aload_n 0, 1)) ∧ (decode cL_law 635 = .ok (.iload 4, 2)) ∧ (decode cL_law 637 = .ok (.iconst 1, 1)) := by decide +kernel
theorem dL_law_628 : decode cL_law 628 = .ok (.istore 6, 2) := dL_law_628_b.1
theorem dL_law_630 : decode cL_law 630 = .ok (.goto 120, 3) := dL_law_628_b.2.1
theorem dL_law_633 : decode cL_law 633 = .ok (.aload_n 1, 1) := dL_law_628_b.2.2.1
theorem dL_law_634 : decode cL_law 634 = .ok (.aload_n 0, 1) := dL_law_628_b.2.2.2.1
theorem dL_law_635 : decode cL_law 635 = .ok (.iload 4, 2) := dL_law_628_b.2.2.2.2.1
theorem dL_law_637 : decode cL_law 637 = .ok (.iconst 1, 1) := dL_law_628_b.2.2.2.2.2
set_option maxRecDepth 20000 in
theorem dL_law_638_b : (decode cL_law 638 = .ok (.iadd, 1)) ∧ (decode cL_law 639 = .ok (.iaload, 1)) ∧ (decode cL_law 640 = .ok (.aload_n 0, 1)) ∧ (decode cL_law 641 = .ok (.iload 4, 2)) ∧ (decode cL_law 643 = .ok (.iconst 2, 1)) ∧ (decode cL_law 644 = .ok (.iadd, 1)) := by decide +kernel
theorem dL_law_638 : decode cL_law 638 = .ok (.iadd, 1) := dL_law_638_b.1
theorem dL_law_639 : decode cL_law 639 = .ok (.iaload, 1) := dL_law_638_b.2.1
theorem dL_law_640 : decode cL_law 640 = .ok (.aload_n 0, 1) := dL_law_638_b.2.2.1
theorem dL_law_641 : decode cL_law 641 = .ok (.iload 4, 2) := dL_law_638_b.2.2.2.1
theorem dL_law_643 : decode cL_law 643 = .ok (.iconst 2, 1) := dL_law_638_b.2.2.2.2.1
theorem dL_law_644 : decode cL_law 644 = .ok (.iadd, 1) := dL_law_638_b.2.2.2.2.2
set_option maxRecDepth 20000 in
theorem dL_law_645_b : (decode cL_law 645 = .ok (.iaload, 1)) ∧ (decode cL_law 646 = .ok (.aload_n 3, 1)) ∧ (decode cL_law 647 = .ok (.invokestatic 109, 3)) ∧ (decode cL_law 650 = .ok (.istore 5, 2)) ∧ (decode cL_law 652 = .ok (.aload_n 2, 1)) ∧ (decode cL_law 653 = .ok (.aload_n 0, 1)) := by decide +kernel
theorem dL_law_645 : decode cL_law 645 = .ok (.iaload, 1) := dL_law_645_b.1
theorem dL_law_646 : decode cL_law 646 = .ok (.aload_n 3, 1) := dL_law_645_b.2.1
theorem dL_law_647 : decode cL_law 647 = .ok (.invokestatic 109, 3) := dL_law_645_b.2.2.1
theorem dL_law_650 : decode cL_law 650 = .ok (.istore 5, 2) := dL_law_645_b.2.2.2.1
theorem dL_law_652 : decode cL_law 652 = .ok (.aload_n 2, 1) := dL_law_645_b.2.2.2.2.1
theorem dL_law_653 : decode cL_law 653 = .ok (.aload_n 0, 1) := dL_law_645_b.2.2.2.2.2
set_option maxRecDepth 20000 in
theorem dL_law_654_b : (decode cL_law 654 = .ok (.iload 4, 2)) ∧ (decode cL_law 656 = .ok (.iconst 1, 1)) ∧ (decode cL_law 657 = .ok (.iadd, 1)) ∧ (decode cL_law 658 = .ok (.iaload, 1)) ∧ (decode cL_law 659 = .ok (.aload_n 0, 1)) ∧ (decode cL_law 660 = .ok (.iload 4, 2)) := by decide +kernel
theorem dL_law_654 : decode cL_law 654 = .ok (.iload 4, 2) := dL_law_654_b.1
theorem dL_law_656 : decode cL_law 656 = .ok (.iconst 1, 1) := dL_law_654_b.2.1
theorem dL_law_657 : decode cL_law 657 = .ok (.iadd, 1) := dL_law_654_b.2.2.1
theorem dL_law_658 : decode cL_law 658 = .ok (.iaload, 1) := dL_law_654_b.2.2.2.1
theorem dL_law_659 : decode cL_law 659 = .ok (.aload_n 0, 1) := dL_law_654_b.2.2.2.2.1
theorem dL_law_660 : decode cL_law 660 = .ok (.iload 4, 2) := dL_law_654_b.2.2.2.2.2
set_option maxRecDepth 20000 in
theorem dL_law_662_b : (decode cL_law 662 = .ok (.iconst 2, 1)) ∧ (decode cL_law 663 = .ok (.iadd, 1)) ∧ (decode cL_law 664 = .ok (.iaload, 1)) ∧ (decode cL_law 665 = .ok (.invokevirtual 111, 3)) ∧ (decode cL_law 668 = .ok (.istore 6, 2)) ∧ (decode cL_law 670 = .ok (.goto 80, 3)) := by decide +kernel
theorem dL_law_662 : decode cL_law 662 = .ok (.iconst 2, 1) := dL_law_662_b.1
theorem dL_law_663 : decode cL_law 663 = .ok (.iadd, 1) := dL_law_662_b.2.1
theorem dL_law_664 : decode cL_law 664 = .ok (.iaload, 1) := dL_law_662_b.2.2.1
theorem dL_law_665 : decode cL_law 665 = .ok (.invokevirtual 111, 3) := dL_law_662_b.2.2.2.1
theorem dL_law_668 : decode cL_law 668 = .ok (.istore 6, 2) := dL_law_662_b.2.2.2.2.1
theorem dL_law_670 : decode cL_law 670 = .ok (.goto 80, 3) := dL_law_662_b.2.2.2.2.2
set_option maxRecDepth 20000 in
theorem dL_law_673_b : (decode cL_law 673 = .ok (.aload_n 1, 1)) ∧ (decode cL_law 674 = .ok (.aload_n 0, 1)) ∧ (decode cL_law 675 = .ok (.iload 4, 2)) ∧ (decode cL_law 677 = .ok (.iconst 1, 1)) ∧ (decode cL_law 678 = .ok (.iadd, 1)) ∧ (decode cL_law 679 = .ok (.iaload, 1)) := by decide +kernel
theorem dL_law_673 : decode cL_law 673 = .ok (.aload_n 1, 1) := dL_law_673_b.1
theorem dL_law_674 : decode cL_law 674 = .ok (.aload_n 0, 1) := dL_law_673_b.2.1
theorem dL_law_675 : decode cL_law 675 = .ok (.iload 4, 2) := dL_law_673_b.2.2.1
theorem dL_law_677 : decode cL_law 677 = .ok (.iconst 1, 1) := dL_law_673_b.2.2.2.1
theorem dL_law_678 : decode cL_law 678 = .ok (.iadd, 1) := dL_law_673_b.2.2.2.2.1
theorem dL_law_679 : decode cL_law 679 = .ok (.iaload, 1) := dL_law_673_b.2.2.2.2.2
set_option maxRecDepth 20000 in
theorem dL_law_680_b : (decode cL_law 680 = .ok (.invokevirtual 112, 3)) ∧ (decode cL_law 683 = .ok (.pop, 1)) ∧ (decode cL_law 684 = .ok (.aload_n 2, 1)) ∧ (decode cL_law 685 = .ok (.aload_n 0, 1)) ∧ (decode cL_law 686 = .ok (.iload 4, 2)) ∧ (decode cL_law 688 = .ok (.iconst 1, 1)) := by decide +kernel
theorem dL_law_680 : decode cL_law 680 = .ok (.invokevirtual 112, 3) := dL_law_680_b.1
theorem dL_law_683 : decode cL_law 683 = .ok (.pop, 1) := dL_law_680_b.2.1
theorem dL_law_684 : decode cL_law 684 = .ok (.aload_n 2, 1) := dL_law_680_b.2.2.1
theorem dL_law_685 : decode cL_law 685 = .ok (.aload_n 0, 1) := dL_law_680_b.2.2.2.1
theorem dL_law_686 : decode cL_law 686 = .ok (.iload 4, 2) := dL_law_680_b.2.2.2.2.1
theorem dL_law_688 : decode cL_law 688 = .ok (.iconst 1, 1) := dL_law_680_b.2.2.2.2.2
set_option maxRecDepth 20000 in
theorem dL_law_689_b : (decode cL_law 689 = .ok (.iadd, 1)) ∧ (decode cL_law 690 = .ok (.iaload, 1)) ∧ (decode cL_law 691 = .ok (.invokevirtual 115, 3)) ∧ (decode cL_law 694 = .ok (.pop, 1)) ∧ (decode cL_law 695 = .ok (.goto 55, 3)) ∧ (decode cL_law 698 = .ok (.aload_n 1, 1)) := by decide +kernel
theorem dL_law_689 : decode cL_law 689 = .ok (.iadd, 1) := dL_law_689_b.1
theorem dL_law_690 : decode cL_law 690 = .ok (.iaload, 1) := dL_law_689_b.2.1
theorem dL_law_691 : decode cL_law 691 = .ok (.invokevirtual 115, 3) := dL_law_689_b.2.2.1
theorem dL_law_694 : decode cL_law 694 = .ok (.pop, 1) := dL_law_689_b.2.2.2.1
theorem dL_law_695 : decode cL_law 695 = .ok (.goto 55, 3) := dL_law_689_b.2.2.2.2.1
theorem dL_law_698 : decode cL_law 698 = .ok (.aload_n 1, 1) := dL_law_689_b.2.2.2.2.2
set_option maxRecDepth 20000 in
theorem dL_law_699_b : (decode cL_law 699 = .ok (.aload_n 0, 1)) ∧ (decode cL_law 700 = .ok (.iload 4, 2)) ∧ (decode cL_law 702 = .ok (.iconst 1, 1)) ∧ (decode cL_law 703 = .ok (.iadd, 1)) ∧ (decode cL_law 704 = .ok (.iaload, 1)) ∧ (decode cL_law 705 = .ok (.aload_n 3, 1)) := by decide +kernel
theorem dL_law_699 : decode cL_law 699 = .ok (.aload_n 0, 1) := dL_law_699_b.1
theorem dL_law_700 : decode cL_law 700 = .ok (.iload 4, 2) := dL_law_699_b.2.1
theorem dL_law_702 : decode cL_law 702 = .ok (.iconst 1, 1) := dL_law_699_b.2.2.1
theorem dL_law_703 : decode cL_law 703 = .ok (.iadd, 1) := dL_law_699_b.2.2.2.1
theorem dL_law_704 : decode cL_law 704 = .ok (.iaload, 1) := dL_law_699_b.2.2.2.2.1
theorem dL_law_705 : decode cL_law 705 = .ok (.aload_n 3, 1) := dL_law_699_b.2.2.2.2.2
set_option maxRecDepth 20000 in
theorem dL_law_706_b : (decode cL_law 706 = .ok (.invokestatic 116, 3)) ∧ (decode cL_law 709 = .ok (.istore 5, 2)) ∧ (decode cL_law 711 = .ok (.aload_n 2, 1)) ∧ (decode cL_law 712 = .ok (.aload_n 0, 1)) ∧ (decode cL_law 713 = .ok (.iload 4, 2)) ∧ (decode cL_law 715 = .ok (.iconst 1, 1)) := by decide +kernel
theorem dL_law_706 : decode cL_law 706 = .ok (.invokestatic 116, 3) := dL_law_706_b.1
theorem dL_law_709 : decode cL_law 709 = .ok (.istore 5, 2) := dL_law_706_b.2.1
theorem dL_law_711 : decode cL_law 711 = .ok (.aload_n 2, 1) := dL_law_706_b.2.2.1
theorem dL_law_712 : decode cL_law 712 = .ok (.aload_n 0, 1) := dL_law_706_b.2.2.2.1
theorem dL_law_713 : decode cL_law 713 = .ok (.iload 4, 2) := dL_law_706_b.2.2.2.2.1
theorem dL_law_715 : decode cL_law 715 = .ok (.iconst 1, 1) := dL_law_706_b.2.2.2.2.2
set_option maxRecDepth 20000 in
theorem dL_law_716_b : (decode cL_law 716 = .ok (.iadd, 1)) ∧ (decode cL_law 717 = .ok (.iaload, 1)) ∧ (decode cL_law 718 = .ok (.invokevirtual 118, 3)) ∧ (decode cL_law 721 = .ok (.istore 6, 2)) ∧ (decode cL_law 723 = .ok (.goto 27, 3)) ∧ (decode cL_law 726 = .ok (.aload_n 1, 1)) := by decide +kernel
theorem dL_law_716 : decode cL_law 716 = .ok (.iadd, 1) := dL_law_716_b.1
theorem dL_law_717 : decode cL_law 717 = .ok (.iaload, 1) := dL_law_716_b.2.1
theorem dL_law_718 : decode cL_law 718 = .ok (.invokevirtual 118, 3) := dL_law_716_b.2.2.1
theorem dL_law_721 : decode cL_law 721 = .ok (.istore 6, 2) := dL_law_716_b.2.2.2.1
theorem dL_law_723 : decode cL_law 723 = .ok (.goto 27, 3) := dL_law_716_b.2.2.2.2.1
theorem dL_law_726 : decode cL_law 726 = .ok (.aload_n 1, 1) := dL_law_716_b.2.2.2.2.2
set_option maxRecDepth 20000 in
theorem dL_law_727_b : (decode cL_law 727 = .ok (.invokevirtual 119, 3)) ∧ (decode cL_law 730 = .ok (.aload_n 2, 1)) ∧ (decode cL_law 731 = .ok (.invokevirtual 122, 3)) ∧ (decode cL_law 734 = .ok (.goto 16, 3)) ∧ (decode cL_law 737 = .ok (.aload_n 1, 1)) ∧ (decode cL_law 738 = .ok (.invokevirtual 123, 3)) := by decide +kernel
theorem dL_law_727 : decode cL_law 727 = .ok (.invokevirtual 119, 3) := dL_law_727_b.1
theorem dL_law_730 : decode cL_law 730 = .ok (.aload_n 2, 1) := dL_law_727_b.2.1
theorem dL_law_731 : decode cL_law 731 = .ok (.invokevirtual 122, 3) := dL_law_727_b.2.2.1
theorem dL_law_734 : decode cL_law 734 = .ok (.goto 16, 3) := dL_law_727_b.2.2.2.1
theorem dL_law_737 : decode cL_law 737 = .ok (.aload_n 1, 1) := dL_law_727_b.2.2.2.2.1
theorem dL_law_738 : decode cL_law 738 = .ok (.invokevirtual 123, 3) := dL_law_727_b.2.2.2.2.2
set_option maxRecDepth 20000 in
theorem dL_law_741_b : (decode cL_law 741 = .ok (.pop, 1)) ∧ (decode cL_law 742 = .ok (.aload_n 2, 1)) ∧ (decode cL_law 743 = .ok (.invokevirtual 127, 3)) ∧ (decode cL_law 746 = .ok (.pop, 1)) ∧ (decode cL_law 747 = .ok (.goto 3, 3)) ∧ (decode cL_law 750 = .ok (.iinc 4 6, 3)) := by decide +kernel
theorem dL_law_741 : decode cL_law 741 = .ok (.pop, 1) := dL_law_741_b.1
theorem dL_law_742 : decode cL_law 742 = .ok (.aload_n 2, 1) := dL_law_741_b.2.1
theorem dL_law_743 : decode cL_law 743 = .ok (.invokevirtual 127, 3) := dL_law_741_b.2.2.1
theorem dL_law_746 : decode cL_law 746 = .ok (.pop, 1) := dL_law_741_b.2.2.2.1
theorem dL_law_747 : decode cL_law 747 = .ok (.goto 3, 3) := dL_law_741_b.2.2.2.2.1
theorem dL_law_750 : decode cL_law 750 = .ok (.iinc 4 6, 3) := dL_law_741_b.2.2.2.2.2
set_option maxRecDepth 20000 in
theorem dL_law_753_b : (decode cL_law 753 = .ok (.goto (-730), 3)) ∧ (decode cL_law 756 = .ok (.iconst 1, 1)) ∧ (decode cL_law 757 = .ok (.ireturn, 1)) := by decide +kernel
theorem dL_law_753 : decode cL_law 753 = .ok (.goto (-730), 3) := dL_law_753_b.1
theorem dL_law_756 : decode cL_law 756 = .ok (.iconst 1, 1) := dL_law_753_b.2.1
theorem dL_law_757 : decode cL_law 757 = .ok (.ireturn, 1) := dL_law_753_b.2.2
