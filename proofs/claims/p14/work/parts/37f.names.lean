set_option maxRecDepth 20000 in
theorem dX10_take_170_b : (decode cX10_take 170 = .ok (.aload_n 0, 1)) ∧ (decode cX10_take 171 = .ok (.getfield 74, 3)) ∧ (decode cX10_take 174 = .ok (.iload_n 1, 1)) ∧ (decode cX10_take 175 = .ok (.aload_n 0, 1)) ∧ (decode cX10_take 176 = .ok (.getfield 74, 3)) ∧ (decode cX10_take 179 = .ok (.sipush 600, 3)) := by decide +kernel
theorem dX10_take_170 : decode cX10_take 170 = .ok (.aload_n 0, 1) := dX10_take_170_b.1
theorem dX10_take_171 : decode cX10_take 171 = .ok (.getfield 74, 3) := dX10_take_170_b.2.1
theorem dX10_take_174 : decode cX10_take 174 = .ok (.iload_n 1, 1) := dX10_take_170_b.2.2.1
theorem dX10_take_175 : decode cX10_take 175 = .ok (.aload_n 0, 1) := dX10_take_170_b.2.2.2.1
theorem dX10_take_176 : decode cX10_take 176 = .ok (.getfield 74, 3) := dX10_take_170_b.2.2.2.2.1
theorem dX10_take_179 : decode cX10_take 179 = .ok (.sipush 600, 3) := dX10_take_170_b.2.2.2.2.2
set_option maxRecDepth 20000 in
theorem dX10_take_182_b : (decode cX10_take 182 = .ok (.iload_n 1, 1)) ∧ (decode cX10_take 183 = .ok (.iadd, 1)) ∧ (decode cX10_take 184 = .ok (.iaload, 1)) ∧ (decode cX10_take 185 = .ok (.iastore, 1)) ∧ (decode cX10_take 186 = .ok (.iinc 1 1, 3)) ∧ (decode cX10_take 189 = .ok (.goto (-27), 3)) := by decide +kernel
theorem dX10_take_182 : decode cX10_take 182 = .ok (.iload_n 1, 1) := dX10_take_182_b.1
theorem dX10_take_183 : decode cX10_take 183 = .ok (.iadd, 1) := dX10_take_182_b.2.1
theorem dX10_take_184 : decode cX10_take 184 = .ok (.iaload, 1) := dX10_take_182_b.2.2.1
theorem dX10_take_185 : decode cX10_take 185 = .ok (.iastore, 1) := dX10_take_182_b.2.2.2.1
theorem dX10_take_186 : decode cX10_take 186 = .ok (.iinc 1 1, 3) := dX10_take_182_b.2.2.2.2.1
theorem dX10_take_189 : decode cX10_take 189 = .ok (.goto (-27), 3) := dX10_take_182_b.2.2.2.2.2
set_option maxRecDepth 20000 in
theorem dX10_take_192_b : (decode cX10_take 192 = .ok (.iconst 0, 1)) ∧ (decode cX10_take 193 = .ok (.istore_n 1, 1)) ∧ (decode cX10_take 194 = .ok (.iload_n 1, 1)) ∧ (decode cX10_take 195 = .ok (.bipush 7, 2)) ∧ (decode cX10_take 197 = .ok (.if_icmp .ge 34, 3)) ∧ (decode cX10_take 200 = .ok (.aload_n 0, 1)) := by decide +kernel
theorem dX10_take_192 : decode cX10_take 192 = .ok (.iconst 0, 1) := dX10_take_192_b.1
theorem dX10_take_193 : decode cX10_take 193 = .ok (.istore_n 1, 1) := dX10_take_192_b.2.1
theorem dX10_take_194 : decode cX10_take 194 = .ok (.iload_n 1, 1) := dX10_take_192_b.2.2.1
theorem dX10_take_195 : decode cX10_take 195 = .ok (.bipush 7, 2) := dX10_take_192_b.2.2.2.1
theorem dX10_take_197 : decode cX10_take 197 = .ok (.if_icmp .ge 34, 3) := dX10_take_192_b.2.2.2.2.1
theorem dX10_take_200 : decode cX10_take 200 = .ok (.aload_n 0, 1) := dX10_take_192_b.2.2.2.2.2
set_option maxRecDepth 20000 in
theorem dX10_take_201_b : (decode cX10_take 201 = .ok (.getfield 87, 3)) ∧ (decode cX10_take 204 = .ok (.iload_n 1, 1)) ∧ (decode cX10_take 205 = .ok (.iload_n 1, 1)) ∧ (decode cX10_take 206 = .ok (.aload_n 0, 1)) ∧ (decode cX10_take 207 = .ok (.getfield 174, 3)) ∧ (decode cX10_take 210 = .ok (.if_icmp .ge 12, 3)) := by decide +kernel
theorem dX10_take_201 : decode cX10_take 201 = .ok (.getfield 87, 3) := dX10_take_201_b.1
theorem dX10_take_204 : decode cX10_take 204 = .ok (.iload_n 1, 1) := dX10_take_201_b.2.1
theorem dX10_take_205 : decode cX10_take 205 = .ok (.iload_n 1, 1) := dX10_take_201_b.2.2.1
theorem dX10_take_206 : decode cX10_take 206 = .ok (.aload_n 0, 1) := dX10_take_201_b.2.2.2.1
theorem dX10_take_207 : decode cX10_take 207 = .ok (.getfield 174, 3) := dX10_take_201_b.2.2.2.2.1
theorem dX10_take_210 : decode cX10_take 210 = .ok (.if_icmp .ge 12, 3) := dX10_take_201_b.2.2.2.2.2
set_option maxRecDepth 20000 in
theorem dX10_take_213_b : (decode cX10_take 213 = .ok (.aload_n 0, 1)) ∧ (decode cX10_take 214 = .ok (.getfield 62, 3)) ∧ (decode cX10_take 217 = .ok (.iload_n 1, 1)) ∧ (decode cX10_take 218 = .ok (.iaload, 1)) ∧ (decode cX10_take 219 = .ok (.goto 5, 3)) ∧ (decode cX10_take 222 = .ok (.bipush 15, 2)) := by decide +kernel
theorem dX10_take_213 : decode cX10_take 213 = .ok (.aload_n 0, 1) := dX10_take_213_b.1
theorem dX10_take_214 : decode cX10_take 214 = .ok (.getfield 62, 3) := dX10_take_213_b.2.1
theorem dX10_take_217 : decode cX10_take 217 = .ok (.iload_n 1, 1) := dX10_take_213_b.2.2.1
theorem dX10_take_218 : decode cX10_take 218 = .ok (.iaload, 1) := dX10_take_213_b.2.2.2.1
theorem dX10_take_219 : decode cX10_take 219 = .ok (.goto 5, 3) := dX10_take_213_b.2.2.2.2.1
theorem dX10_take_222 : decode cX10_take 222 = .ok (.bipush 15, 2) := dX10_take_213_b.2.2.2.2.2
set_option maxRecDepth 20000 in
theorem dX10_take_224_b : (decode cX10_take 224 = .ok (.iastore, 1)) ∧ (decode cX10_take 225 = .ok (.iinc 1 1, 3)) ∧ (decode cX10_take 228 = .ok (.goto (-34), 3)) ∧ (decode cX10_take 231 = .ok (.aload_n 0, 1)) ∧ (decode cX10_take 232 = .ok (.aload_n 0, 1)) ∧ (decode cX10_take 233 = .ok (.getfield 54, 3)) := by decide +kernel
theorem dX10_take_224 : decode cX10_take 224 = .ok (.iastore, 1) := dX10_take_224_b.1
theorem dX10_take_225 : decode cX10_take 225 = .ok (.iinc 1 1, 3) := dX10_take_224_b.2.1
theorem dX10_take_228 : decode cX10_take 228 = .ok (.goto (-34), 3) := dX10_take_224_b.2.2.1
theorem dX10_take_231 : decode cX10_take 231 = .ok (.aload_n 0, 1) := dX10_take_224_b.2.2.2.1
theorem dX10_take_232 : decode cX10_take 232 = .ok (.aload_n 0, 1) := dX10_take_224_b.2.2.2.2.1
theorem dX10_take_233 : decode cX10_take 233 = .ok (.getfield 54, 3) := dX10_take_224_b.2.2.2.2.2
set_option maxRecDepth 20000 in
theorem dX10_take_236_b : (decode cX10_take 236 = .ok (.iconst 1, 1)) ∧ (decode cX10_take 237 = .ok (.iaload, 1)) ∧ (decode cX10_take 238 = .ok (.putfield 327, 3)) ∧ (decode cX10_take 241 = .ok (.aload_n 0, 1)) ∧ (decode cX10_take 242 = .ok (.iconst 0, 1)) ∧ (decode cX10_take 243 = .ok (.putfield 330, 3)) := by decide +kernel
theorem dX10_take_236 : decode cX10_take 236 = .ok (.iconst 1, 1) := dX10_take_236_b.1
theorem dX10_take_237 : decode cX10_take 237 = .ok (.iaload, 1) := dX10_take_236_b.2.1
theorem dX10_take_238 : decode cX10_take 238 = .ok (.putfield 327, 3) := dX10_take_236_b.2.2.1
theorem dX10_take_241 : decode cX10_take 241 = .ok (.aload_n 0, 1) := dX10_take_236_b.2.2.2.1
theorem dX10_take_242 : decode cX10_take 242 = .ok (.iconst 0, 1) := dX10_take_236_b.2.2.2.2.1
theorem dX10_take_243 : decode cX10_take 243 = .ok (.putfield 330, 3) := dX10_take_236_b.2.2.2.2.2
set_option maxRecDepth 20000 in
theorem dX10_take_246_b : (decode cX10_take 246 = .ok (.aload_n 0, 1)) ∧ (decode cX10_take 247 = .ok (.iconst 0, 1)) ∧ (decode cX10_take 248 = .ok (.putfield 333, 3)) ∧ (decode cX10_take 251 = .ok (.aload_n 0, 1)) ∧ (decode cX10_take 252 = .ok (.iconst 0, 1)) ∧ (decode cX10_take 253 = .ok (.putfield 336, 3)) := by decide +kernel
theorem dX10_take_246 : decode cX10_take 246 = .ok (.aload_n 0, 1) := dX10_take_246_b.1
theorem dX10_take_247 : decode cX10_take 247 = .ok (.iconst 0, 1) := dX10_take_246_b.2.1
theorem dX10_take_248 : decode cX10_take 248 = .ok (.putfield 333, 3) := dX10_take_246_b.2.2.1
theorem dX10_take_251 : decode cX10_take 251 = .ok (.aload_n 0, 1) := dX10_take_246_b.2.2.2.1
theorem dX10_take_252 : decode cX10_take 252 = .ok (.iconst 0, 1) := dX10_take_246_b.2.2.2.2.1
theorem dX10_take_253 : decode cX10_take 253 = .ok (.putfield 336, 3) := dX10_take_246_b.2.2.2.2.2
set_option maxRecDepth 20000 in
theorem dX10_take_256_b : (decode cX10_take 256 = .ok (.aload_n 0, 1)) ∧ (decode cX10_take 257 = .ok (.iconst 0, 1)) ∧ (decode cX10_take 258 = .ok (.putfield 339, 3)) ∧ (decode cX10_take 261 = .ok (.return_, 1)) := by decide +kernel
theorem dX10_take_256 : decode cX10_take 256 = .ok (.aload_n 0, 1) := dX10_take_256_b.1
theorem dX10_take_257 : decode cX10_take 257 = .ok (.iconst 0, 1) := dX10_take_256_b.2.1
theorem dX10_take_258 : decode cX10_take 258 = .ok (.putfield 339, 3) := dX10_take_256_b.2.2.1
theorem dX10_take_261 : decode cX10_take 261 = .ok (.return_, 1) := dX10_take_256_b.2.2.2
set_option maxRecDepth 20000 in
theorem dX10_fault_0_b : (decode cX10_fault 0 = .ok (.aload_n 0, 1)) ∧ (decode cX10_fault 1 = .ok (.iconst 0, 1)) ∧ (decode cX10_fault 2 = .ok (.putfield 171, 3)) ∧ (decode cX10_fault 5 = .ok (.aload_n 0, 1)) ∧ (decode cX10_fault 6 = .ok (.getfield 83, 3)) ∧ (decode cX10_fault 9 = .ok (.ireturn, 1)) := by decide +kernel
theorem dX10_fault_0 : decode cX10_fault 0 = .ok (.aload_n 0, 1) := dX10_fault_0_b.1
theorem dX10_fault_1 : decode cX10_fault 1 = .ok (.iconst 0, 1) := dX10_fault_0_b.2.1
theorem dX10_fault_2 : decode cX10_fault 2 = .ok (.putfield 171, 3) := dX10_fault_0_b.2.2.1
theorem dX10_fault_5 : decode cX10_fault 5 = .ok (.aload_n 0, 1) := dX10_fault_0_b.2.2.2.1
theorem dX10_fault_6 : decode cX10_fault 6 = .ok (.getfield 83, 3) := dX10_fault_0_b.2.2.2.2.1
theorem dX10_fault_9 : decode cX10_fault 9 = .ok (.ireturn, 1) := dX10_fault_0_b.2.2.2.2.2
set_option maxRecDepth 20000 in
theorem dX10_ridesOf_0_b : (decode cX10_ridesOf 0 = .ok (.iconst 0, 1)) ∧ (decode cX10_ridesOf 1 = .ok (.istore_n 1, 1)) ∧ (decode cX10_ridesOf 2 = .ok (.iconst 0, 1)) ∧ (decode cX10_ridesOf 3 = .ok (.istore_n 2, 1)) ∧ (decode cX10_ridesOf 4 = .ok (.iload_n 2, 1)) ∧ (decode cX10_ridesOf 5 = .ok (.aload_n 0, 1)) := by decide +kernel
theorem dX10_ridesOf_0 : decode cX10_ridesOf 0 = .ok (.iconst 0, 1) := dX10_ridesOf_0_b.1
theorem dX10_ridesOf_1 : decode cX10_ridesOf 1 = .ok (.istore_n 1, 1) := dX10_ridesOf_0_b.2.1
theorem dX10_ridesOf_2 : decode cX10_ridesOf 2 = .ok (.iconst 0, 1) := dX10_ridesOf_0_b.2.2.1
theorem dX10_ridesOf_3 : decode cX10_ridesOf 3 = .ok (.istore_n 2, 1) := dX10_ridesOf_0_b.2.2.2.1
theorem dX10_ridesOf_4 : decode cX10_ridesOf 4 = .ok (.iload_n 2, 1) := dX10_ridesOf_0_b.2.2.2.2.1
theorem dX10_ridesOf_5 : decode cX10_ridesOf 5 = .ok (.aload_n 0, 1) := dX10_ridesOf_0_b.2.2.2.2.2
set_option maxRecDepth 20000 in
theorem dX10_ridesOf_6_b : (decode cX10_ridesOf 6 = .ok (.getfield 330, 3)) ∧ (decode cX10_ridesOf 9 = .ok (.if_icmp .ge 27, 3)) ∧ (decode cX10_ridesOf 12 = .ok (.iload_n 1, 1)) ∧ (decode cX10_ridesOf 13 = .ok (.aload_n 0, 1)) ∧ (decode cX10_ridesOf 14 = .ok (.getfield 93, 3)) ∧ (decode cX10_ridesOf 17 = .ok (.iload_n 2, 1)) := by decide +kernel
theorem dX10_ridesOf_6 : decode cX10_ridesOf 6 = .ok (.getfield 330, 3) := dX10_ridesOf_6_b.1
theorem dX10_ridesOf_9 : decode cX10_ridesOf 9 = .ok (.if_icmp .ge 27, 3) := dX10_ridesOf_6_b.2.1
theorem dX10_ridesOf_12 : decode cX10_ridesOf 12 = .ok (.iload_n 1, 1) := dX10_ridesOf_6_b.2.2.1
theorem dX10_ridesOf_13 : decode cX10_ridesOf 13 = .ok (.aload_n 0, 1) := dX10_ridesOf_6_b.2.2.2.1
theorem dX10_ridesOf_14 : decode cX10_ridesOf 14 = .ok (.getfield 93, 3) := dX10_ridesOf_6_b.2.2.2.2.1
theorem dX10_ridesOf_17 : decode cX10_ridesOf 17 = .ok (.iload_n 2, 1) := dX10_ridesOf_6_b.2.2.2.2.2
set_option maxRecDepth 20000 in
theorem dX10_ridesOf_18_b : (decode cX10_ridesOf 18 = .ok (.iaload, 1)) ∧ (decode cX10_ridesOf 19 = .ok (.iconst 2, 1)) ∧ (decode cX10_ridesOf 20 = .ok (.if_icmp .ne 7, 3)) ∧ (decode cX10_ridesOf 23 = .ok (.iconst 1, 1)) ∧ (decode cX10_ridesOf 24 = .ok (.goto 4, 3)) ∧ (decode cX10_ridesOf 27 = .ok (.iconst 0, 1)) := by decide +kernel
theorem dX10_ridesOf_18 : decode cX10_ridesOf 18 = .ok (.iaload, 1) := dX10_ridesOf_18_b.1
theorem dX10_ridesOf_19 : decode cX10_ridesOf 19 = .ok (.iconst 2, 1) := dX10_ridesOf_18_b.2.1
theorem dX10_ridesOf_20 : decode cX10_ridesOf 20 = .ok (.if_icmp .ne 7, 3) := dX10_ridesOf_18_b.2.2.1
theorem dX10_ridesOf_23 : decode cX10_ridesOf 23 = .ok (.iconst 1, 1) := dX10_ridesOf_18_b.2.2.2.1
theorem dX10_ridesOf_24 : decode cX10_ridesOf 24 = .ok (.goto 4, 3) := dX10_ridesOf_18_b.2.2.2.2.1
theorem dX10_ridesOf_27 : decode cX10_ridesOf 27 = .ok (.iconst 0, 1) := dX10_ridesOf_18_b.2.2.2.2.2
set_option maxRecDepth 20000 in
theorem dX10_ridesOf_28_b : (decode cX10_ridesOf 28 = .ok (.iadd, 1)) ∧ (decode cX10_ridesOf 29 = .ok (.istore_n 1, 1)) ∧ (decode cX10_ridesOf 30 = .ok (.iinc 2 1, 3)) ∧ (decode cX10_ridesOf 33 = .ok (.goto (-29), 3)) ∧ (decode cX10_ridesOf 36 = .ok (.iload_n 1, 1)) ∧ (decode cX10_ridesOf 37 = .ok (.ireturn, 1)) := by decide +kernel
theorem dX10_ridesOf_28 : decode cX10_ridesOf 28 = .ok (.iadd, 1) := dX10_ridesOf_28_b.1
theorem dX10_ridesOf_29 : decode cX10_ridesOf 29 = .ok (.istore_n 1, 1) := dX10_ridesOf_28_b.2.1
theorem dX10_ridesOf_30 : decode cX10_ridesOf 30 = .ok (.iinc 2 1, 3) := dX10_ridesOf_28_b.2.2.1
theorem dX10_ridesOf_33 : decode cX10_ridesOf 33 = .ok (.goto (-29), 3) := dX10_ridesOf_28_b.2.2.2.1
theorem dX10_ridesOf_36 : decode cX10_ridesOf 36 = .ok (.iload_n 1, 1) := dX10_ridesOf_28_b.2.2.2.2.1
theorem dX10_ridesOf_37 : decode cX10_ridesOf 37 = .ok (.ireturn, 1) := dX10_ridesOf_28_b.2.2.2.2.2
set_option maxRecDepth 20000 in
theorem dX10_count_0_b : (decode cX10_count 0 = .ok (.aload_n 0, 1)) ∧ (decode cX10_count 1 = .ok (.iconst 0, 1)) ∧ (decode cX10_count 2 = .ok (.putfield 171, 3)) ∧ (decode cX10_count 5 = .ok (.iload_n 1, 1)) ∧ (decode cX10_count 6 = .ok (.bipush 14, 2)) ∧ (decode cX10_count 8 = .ok (.bipush 16, 2)) := by decide +kernel
theorem dX10_count_0 : decode cX10_count 0 = .ok (.aload_n 0, 1) := dX10_count_0_b.1
theorem dX10_count_1 : decode cX10_count 1 = .ok (.iconst 0, 1) := dX10_count_0_b.2.1
theorem dX10_count_2 : decode cX10_count 2 = .ok (.putfield 171, 3) := dX10_count_0_b.2.2.1
theorem dX10_count_5 : decode cX10_count 5 = .ok (.iload_n 1, 1) := dX10_count_0_b.2.2.2.1
theorem dX10_count_6 : decode cX10_count 6 = .ok (.bipush 14, 2) := dX10_count_0_b.2.2.2.2.1
theorem dX10_count_8 : decode cX10_count 8 = .ok (.bipush 16, 2) := dX10_count_0_b.2.2.2.2.2
set_option maxRecDepth 20000 in
theorem dX10_count_10_b : (decode cX10_count 10 = .ok (.invokestatic 177, 3)) ∧ (decode cX10_count 13 = .ok (.ifCond .eq 13, 3)) ∧ (decode cX10_count 16 = .ok (.aload_n 0, 1)) ∧ (decode cX10_count 17 = .ok (.getfield 77, 3)) ∧ (decode cX10_count 20 = .ok (.iload_n 1, 1)) ∧ (decode cX10_count 21 = .ok (.bipush 14, 2)) := by decide +kernel
theorem dX10_count_10 : decode cX10_count 10 = .ok (.invokestatic 177, 3) := dX10_count_10_b.1
theorem dX10_count_13 : decode cX10_count 13 = .ok (.ifCond .eq 13, 3) := dX10_count_10_b.2.1
theorem dX10_count_16 : decode cX10_count 16 = .ok (.aload_n 0, 1) := dX10_count_10_b.2.2.1
theorem dX10_count_17 : decode cX10_count 17 = .ok (.getfield 77, 3) := dX10_count_10_b.2.2.2.1
theorem dX10_count_20 : decode cX10_count 20 = .ok (.iload_n 1, 1) := dX10_count_10_b.2.2.2.2.1
theorem dX10_count_21 : decode cX10_count 21 = .ok (.bipush 14, 2) := dX10_count_10_b.2.2.2.2.2
set_option maxRecDepth 20000 in
theorem dX10_count_23_b : (decode cX10_count 23 = .ok (.isub, 1)) ∧ (decode cX10_count 24 = .ok (.iaload, 1)) ∧ (decode cX10_count 25 = .ok (.ireturn, 1)) ∧ (decode cX10_count 26 = .ok (.iload_n 1, 1)) ∧ (decode cX10_count 27 = .ok (.tableswitch 123 0 13 #[69, 76, 81, 81, 81, 81, 81, 88, 93, 98, 103, 108, 113, 118], 69)) ∧ (decode cX10_count 96 = .ok (.aload_n 0, 1)) := by decide +kernel
theorem dX10_count_23 : decode cX10_count 23 = .ok (.isub, 1) := dX10_count_23_b.1
theorem dX10_count_24 : decode cX10_count 24 = .ok (.iaload, 1) := dX10_count_23_b.2.1
theorem dX10_count_25 : decode cX10_count 25 = .ok (.ireturn, 1) := dX10_count_23_b.2.2.1
theorem dX10_count_26 : decode cX10_count 26 = .ok (.iload_n 1, 1) := dX10_count_23_b.2.2.2.1
theorem dX10_count_27 : decode cX10_count 27 = .ok (.tableswitch 123 0 13 #[69, 76, 81, 81, 81, 81, 81, 88, 93, 98, 103, 108, 113, 118], 69) := dX10_count_23_b.2.2.2.2.1
theorem dX10_count_96 : decode cX10_count 96 = .ok (.aload_n 0, 1) := dX10_count_23_b.2.2.2.2.2
set_option maxRecDepth 20000 in
theorem dX10_count_97_b : (decode cX10_count 97 = .ok (.getfield 54, 3)) ∧ (decode cX10_count 100 = .ok (.iconst 0, 1)) ∧ (decode cX10_count 101 = .ok (.iaload, 1)) ∧ (decode cX10_count 102 = .ok (.ireturn, 1)) ∧ (decode cX10_count 103 = .ok (.aload_n 0, 1)) ∧ (decode cX10_count 104 = .ok (.getfield 174, 3)) := by decide +kernel
theorem dX10_count_97 : decode cX10_count 97 = .ok (.getfield 54, 3) := dX10_count_97_b.1
theorem dX10_count_100 : decode cX10_count 100 = .ok (.iconst 0, 1) := dX10_count_97_b.2.1
theorem dX10_count_101 : decode cX10_count 101 = .ok (.iaload, 1) := dX10_count_97_b.2.2.1
theorem dX10_count_102 : decode cX10_count 102 = .ok (.ireturn, 1) := dX10_count_97_b.2.2.2.1
theorem dX10_count_103 : decode cX10_count 103 = .ok (.aload_n 0, 1) := dX10_count_97_b.2.2.2.2.1
theorem dX10_count_104 : decode cX10_count 104 = .ok (.getfield 174, 3) := dX10_count_97_b.2.2.2.2.2
set_option maxRecDepth 20000 in
theorem dX10_count_107_b : (decode cX10_count 107 = .ok (.ireturn, 1)) ∧ (decode cX10_count 108 = .ok (.aload_n 0, 1)) ∧ (decode cX10_count 109 = .ok (.getfield 54, 3)) ∧ (decode cX10_count 112 = .ok (.iload_n 1, 1)) ∧ (decode cX10_count 113 = .ok (.iaload, 1)) ∧ (decode cX10_count 114 = .ok (.ireturn, 1)) := by decide +kernel
theorem dX10_count_107 : decode cX10_count 107 = .ok (.ireturn, 1) := dX10_count_107_b.1
theorem dX10_count_108 : decode cX10_count 108 = .ok (.aload_n 0, 1) := dX10_count_107_b.2.1
theorem dX10_count_109 : decode cX10_count 109 = .ok (.getfield 54, 3) := dX10_count_107_b.2.2.1
theorem dX10_count_112 : decode cX10_count 112 = .ok (.iload_n 1, 1) := dX10_count_107_b.2.2.2.1
theorem dX10_count_113 : decode cX10_count 113 = .ok (.iaload, 1) := dX10_count_107_b.2.2.2.2.1
theorem dX10_count_114 : decode cX10_count 114 = .ok (.ireturn, 1) := dX10_count_107_b.2.2.2.2.2
set_option maxRecDepth 20000 in
theorem dX10_count_115_b : (decode cX10_count 115 = .ok (.aload_n 0, 1)) ∧ (decode cX10_count 116 = .ok (.getfield 324, 3)) ∧ (decode cX10_count 119 = .ok (.ireturn, 1)) ∧ (decode cX10_count 120 = .ok (.aload_n 0, 1)) ∧ (decode cX10_count 121 = .ok (.getfield 327, 3)) ∧ (decode cX10_count 124 = .ok (.ireturn, 1)) := by decide +kernel
theorem dX10_count_115 : decode cX10_count 115 = .ok (.aload_n 0, 1) := dX10_count_115_b.1
theorem dX10_count_116 : decode cX10_count 116 = .ok (.getfield 324, 3) := dX10_count_115_b.2.1
theorem dX10_count_119 : decode cX10_count 119 = .ok (.ireturn, 1) := dX10_count_115_b.2.2.1
theorem dX10_count_120 : decode cX10_count 120 = .ok (.aload_n 0, 1) := dX10_count_115_b.2.2.2.1
theorem dX10_count_121 : decode cX10_count 121 = .ok (.getfield 327, 3) := dX10_count_115_b.2.2.2.2.1
theorem dX10_count_124 : decode cX10_count 124 = .ok (.ireturn, 1) := dX10_count_115_b.2.2.2.2.2
set_option maxRecDepth 20000 in
theorem dX10_count_125_b : (decode cX10_count 125 = .ok (.aload_n 0, 1)) ∧ (decode cX10_count 126 = .ok (.getfield 330, 3)) ∧ (decode cX10_count 129 = .ok (.ireturn, 1)) ∧ (decode cX10_count 130 = .ok (.aload_n 0, 1)) ∧ (decode cX10_count 131 = .ok (.invokevirtual 343, 3)) ∧ (decode cX10_count 134 = .ok (.ireturn, 1)) := by decide +kernel
theorem dX10_count_125 : decode cX10_count 125 = .ok (.aload_n 0, 1) := dX10_count_125_b.1
theorem dX10_count_126 : decode cX10_count 126 = .ok (.getfield 330, 3) := dX10_count_125_b.2.1
theorem dX10_count_129 : decode cX10_count 129 = .ok (.ireturn, 1) := dX10_count_125_b.2.2.1
theorem dX10_count_130 : decode cX10_count 130 = .ok (.aload_n 0, 1) := dX10_count_125_b.2.2.2.1
theorem dX10_count_131 : decode cX10_count 131 = .ok (.invokevirtual 343, 3) := dX10_count_125_b.2.2.2.2.1
theorem dX10_count_134 : decode cX10_count 134 = .ok (.ireturn, 1) := dX10_count_125_b.2.2.2.2.2
set_option maxRecDepth 20000 in
theorem dX10_count_135_b : (decode cX10_count 135 = .ok (.aload_n 0, 1)) ∧ (decode cX10_count 136 = .ok (.getfield 333, 3)) ∧ (decode cX10_count 139 = .ok (.ireturn, 1)) ∧ (decode cX10_count 140 = .ok (.aload_n 0, 1)) ∧ (decode cX10_count 141 = .ok (.getfield 336, 3)) ∧ (decode cX10_count 144 = .ok (.ireturn, 1)) := by decide +kernel
theorem dX10_count_135 : decode cX10_count 135 = .ok (.aload_n 0, 1) := dX10_count_135_b.1
theorem dX10_count_136 : decode cX10_count 136 = .ok (.getfield 333, 3) := dX10_count_135_b.2.1
theorem dX10_count_139 : decode cX10_count 139 = .ok (.ireturn, 1) := dX10_count_135_b.2.2.1
theorem dX10_count_140 : decode cX10_count 140 = .ok (.aload_n 0, 1) := dX10_count_135_b.2.2.2.1
theorem dX10_count_141 : decode cX10_count 141 = .ok (.getfield 336, 3) := dX10_count_135_b.2.2.2.2.1
theorem dX10_count_144 : decode cX10_count 144 = .ok (.ireturn, 1) := dX10_count_135_b.2.2.2.2.2
set_option maxRecDepth 20000 in
theorem dX10_count_145_b : (decode cX10_count 145 = .ok (.aload_n 0, 1)) ∧ (decode cX10_count 146 = .ok (.getfield 181, 3)) ∧ (decode cX10_count 149 = .ok (.ireturn, 1)) ∧ (decode cX10_count 150 = .ok (.aload_n 0, 1)) ∧ (decode cX10_count 151 = .ok (.iconst 1, 1)) ∧ (decode cX10_count 152 = .ok (.invokevirtual 315, 3)) := by decide +kernel
theorem dX10_count_145 : decode cX10_count 145 = .ok (.aload_n 0, 1) := dX10_count_145_b.1
theorem dX10_count_146 : decode cX10_count 146 = .ok (.getfield 181, 3) := dX10_count_145_b.2.1
theorem dX10_count_149 : decode cX10_count 149 = .ok (.ireturn, 1) := dX10_count_145_b.2.2.1
theorem dX10_count_150 : decode cX10_count 150 = .ok (.aload_n 0, 1) := dX10_count_145_b.2.2.2.1
theorem dX10_count_151 : decode cX10_count 151 = .ok (.iconst 1, 1) := dX10_count_145_b.2.2.2.2.1
theorem dX10_count_152 : decode cX10_count 152 = .ok (.invokevirtual 315, 3) := dX10_count_145_b.2.2.2.2.2
theorem dX10_count_155 : decode cX10_count 155 = .ok (.ireturn, 1) := by decide +kernel
set_option maxRecDepth 20000 in
theorem dX10_depthOf_0_b : (decode cX10_depthOf 0 = .ok (.iload_n 1, 1)) ∧ (decode cX10_depthOf 1 = .ok (.ifCond .ne 7, 3)) ∧ (decode cX10_depthOf 4 = .ok (.iload_n 2, 1)) ∧ (decode cX10_depthOf 5 = .ok (.goto 9, 3)) ∧ (decode cX10_depthOf 8 = .ok (.aload_n 0, 1)) ∧ (decode cX10_depthOf 9 = .ok (.invokevirtual 346, 3)) := by decide +kernel
theorem dX10_depthOf_0 : decode cX10_depthOf 0 = .ok (.iload_n 1, 1) := dX10_depthOf_0_b.1
theorem dX10_depthOf_1 : decode cX10_depthOf 1 = .ok (.ifCond .ne 7, 3) := dX10_depthOf_0_b.2.1
theorem dX10_depthOf_4 : decode cX10_depthOf 4 = .ok (.iload_n 2, 1) := dX10_depthOf_0_b.2.2.1
theorem dX10_depthOf_5 : decode cX10_depthOf 5 = .ok (.goto 9, 3) := dX10_depthOf_0_b.2.2.2.1
theorem dX10_depthOf_8 : decode cX10_depthOf 8 = .ok (.aload_n 0, 1) := dX10_depthOf_0_b.2.2.2.2.1
theorem dX10_depthOf_9 : decode cX10_depthOf 9 = .ok (.invokevirtual 346, 3) := dX10_depthOf_0_b.2.2.2.2.2
set_option maxRecDepth 20000 in
theorem dX10_depthOf_12_b : (decode cX10_depthOf 12 = .ok (.iload_n 2, 1)) ∧ (decode cX10_depthOf 13 = .ok (.isub, 1)) ∧ (decode cX10_depthOf 14 = .ok (.ireturn, 1)) := by decide +kernel
theorem dX10_depthOf_12 : decode cX10_depthOf 12 = .ok (.iload_n 2, 1) := dX10_depthOf_12_b.1
theorem dX10_depthOf_13 : decode cX10_depthOf 13 = .ok (.isub, 1) := dX10_depthOf_12_b.2.1
theorem dX10_depthOf_14 : decode cX10_depthOf 14 = .ok (.ireturn, 1) := dX10_depthOf_12_b.2.2
set_option maxRecDepth 20000 in
theorem dX10_isInBucket_0_b : (decode cX10_isInBucket 0 = .ok (.iload_n 0, 1)) ∧ (decode cX10_isInBucket 1 = .ok (.bipush 12, 2)) ∧ (decode cX10_isInBucket 3 = .ok (.iload_n 1, 1)) ∧ (decode cX10_isInBucket 4 = .ok (.iadd, 1)) ∧ (decode cX10_isInBucket 5 = .ok (.if_icmp .ne 7, 3)) ∧ (decode cX10_isInBucket 8 = .ok (.iconst 1, 1)) := by decide +kernel
theorem dX10_isInBucket_0 : decode cX10_isInBucket 0 = .ok (.iload_n 0, 1) := dX10_isInBucket_0_b.1
theorem dX10_isInBucket_1 : decode cX10_isInBucket 1 = .ok (.bipush 12, 2) := dX10_isInBucket_0_b.2.1
theorem dX10_isInBucket_3 : decode cX10_isInBucket 3 = .ok (.iload_n 1, 1) := dX10_isInBucket_0_b.2.2.1
theorem dX10_isInBucket_4 : decode cX10_isInBucket 4 = .ok (.iadd, 1) := dX10_isInBucket_0_b.2.2.2.1
theorem dX10_isInBucket_5 : decode cX10_isInBucket 5 = .ok (.if_icmp .ne 7, 3) := dX10_isInBucket_0_b.2.2.2.2.1
theorem dX10_isInBucket_8 : decode cX10_isInBucket 8 = .ok (.iconst 1, 1) := dX10_isInBucket_0_b.2.2.2.2.2
set_option maxRecDepth 20000 in
theorem dX10_isInBucket_9_b : (decode cX10_isInBucket 9 = .ok (.goto 4, 3)) ∧ (decode cX10_isInBucket 12 = .ok (.iconst 0, 1)) ∧ (decode cX10_isInBucket 13 = .ok (.ireturn, 1)) := by decide +kernel
theorem dX10_isInBucket_9 : decode cX10_isInBucket 9 = .ok (.goto 4, 3) := dX10_isInBucket_9_b.1
theorem dX10_isInBucket_12 : decode cX10_isInBucket 12 = .ok (.iconst 0, 1) := dX10_isInBucket_9_b.2.1
theorem dX10_isInBucket_13 : decode cX10_isInBucket 13 = .ok (.ireturn, 1) := dX10_isInBucket_9_b.2.2
set_option maxRecDepth 20000 in
theorem dX10_isServed_0_b : (decode cX10_isServed 0 = .ok (.iload_n 2, 1)) ∧ (decode cX10_isServed 1 = .ok (.bipush 14, 2)) ∧ (decode cX10_isServed 3 = .ok (.if_icmp .eq 23, 3)) ∧ (decode cX10_isServed 6 = .ok (.aload_n 0, 1)) ∧ (decode cX10_isServed 7 = .ok (.getfield 65, 3)) ∧ (decode cX10_isServed 10 = .ok (.iload_n 1, 1)) := by decide +kernel
theorem dX10_isServed_0 : decode cX10_isServed 0 = .ok (.iload_n 2, 1) := dX10_isServed_0_b.1
theorem dX10_isServed_1 : decode cX10_isServed 1 = .ok (.bipush 14, 2) := dX10_isServed_0_b.2.1
theorem dX10_isServed_3 : decode cX10_isServed 3 = .ok (.if_icmp .eq 23, 3) := dX10_isServed_0_b.2.2.1
theorem dX10_isServed_6 : decode cX10_isServed 6 = .ok (.aload_n 0, 1) := dX10_isServed_0_b.2.2.2.1
theorem dX10_isServed_7 : decode cX10_isServed 7 = .ok (.getfield 65, 3) := dX10_isServed_0_b.2.2.2.2.1
theorem dX10_isServed_10 : decode cX10_isServed 10 = .ok (.iload_n 1, 1) := dX10_isServed_0_b.2.2.2.2.2
set_option maxRecDepth 20000 in
theorem dX10_isServed_11_b : (decode cX10_isServed 11 = .ok (.iaload, 1)) ∧ (decode cX10_isServed 12 = .ok (.iconst (-1), 1)) ∧ (decode cX10_isServed 13 = .ok (.if_icmp .eq 17, 3)) ∧ (decode cX10_isServed 16 = .ok (.iload_n 2, 1)) ∧ (decode cX10_isServed 17 = .ok (.aload_n 0, 1)) ∧ (decode cX10_isServed 18 = .ok (.getfield 65, 3)) := by decide +kernel
theorem dX10_isServed_11 : decode cX10_isServed 11 = .ok (.iaload, 1) := dX10_isServed_11_b.1
theorem dX10_isServed_12 : decode cX10_isServed 12 = .ok (.iconst (-1), 1) := dX10_isServed_11_b.2.1
theorem dX10_isServed_13 : decode cX10_isServed 13 = .ok (.if_icmp .eq 17, 3) := dX10_isServed_11_b.2.2.1
theorem dX10_isServed_16 : decode cX10_isServed 16 = .ok (.iload_n 2, 1) := dX10_isServed_11_b.2.2.2.1
theorem dX10_isServed_17 : decode cX10_isServed 17 = .ok (.aload_n 0, 1) := dX10_isServed_11_b.2.2.2.2.1
theorem dX10_isServed_18 : decode cX10_isServed 18 = .ok (.getfield 65, 3) := dX10_isServed_11_b.2.2.2.2.2
set_option maxRecDepth 20000 in
theorem dX10_isServed_21_b : (decode cX10_isServed 21 = .ok (.iload_n 1, 1)) ∧ (decode cX10_isServed 22 = .ok (.iaload, 1)) ∧ (decode cX10_isServed 23 = .ok (.if_icmp .ne 7, 3)) ∧ (decode cX10_isServed 26 = .ok (.iconst 1, 1)) ∧ (decode cX10_isServed 27 = .ok (.goto 4, 3)) ∧ (decode cX10_isServed 30 = .ok (.iconst 0, 1)) := by decide +kernel
theorem dX10_isServed_21 : decode cX10_isServed 21 = .ok (.iload_n 1, 1) := dX10_isServed_21_b.1
theorem dX10_isServed_22 : decode cX10_isServed 22 = .ok (.iaload, 1) := dX10_isServed_21_b.2.1
theorem dX10_isServed_23 : decode cX10_isServed 23 = .ok (.if_icmp .ne 7, 3) := dX10_isServed_21_b.2.2.1
theorem dX10_isServed_26 : decode cX10_isServed 26 = .ok (.iconst 1, 1) := dX10_isServed_21_b.2.2.2.1
theorem dX10_isServed_27 : decode cX10_isServed 27 = .ok (.goto 4, 3) := dX10_isServed_21_b.2.2.2.2.1
theorem dX10_isServed_30 : decode cX10_isServed 30 = .ok (.iconst 0, 1) := dX10_isServed_21_b.2.2.2.2.2
theorem dX10_isServed_31 : decode cX10_isServed 31 = .ok (.ireturn, 1) := by decide +kernel
set_option maxRecDepth 20000 in
theorem dX10_thing_0_b : (decode cX10_thing 0 = .ok (.aload_n 0, 1)) ∧ (decode cX10_thing 1 = .ok (.iconst 0, 1)) ∧ (decode cX10_thing 2 = .ok (.putfield 171, 3)) ∧ (decode cX10_thing 5 = .ok (.aload_n 0, 1)) ∧ (decode cX10_thing 6 = .ok (.iload_n 1, 1)) ∧ (decode cX10_thing 7 = .ok (.invokevirtual 349, 3)) := by decide +kernel
theorem dX10_thing_0 : decode cX10_thing 0 = .ok (.aload_n 0, 1) := dX10_thing_0_b.1
theorem dX10_thing_1 : decode cX10_thing 1 = .ok (.iconst 0, 1) := dX10_thing_0_b.2.1
theorem dX10_thing_2 : decode cX10_thing 2 = .ok (.putfield 171, 3) := dX10_thing_0_b.2.2.1
theorem dX10_thing_5 : decode cX10_thing 5 = .ok (.aload_n 0, 1) := dX10_thing_0_b.2.2.2.1
theorem dX10_thing_6 : decode cX10_thing 6 = .ok (.iload_n 1, 1) := dX10_thing_0_b.2.2.2.2.1
theorem dX10_thing_7 : decode cX10_thing 7 = .ok (.invokevirtual 349, 3) := dX10_thing_0_b.2.2.2.2.2
set_option maxRecDepth 20000 in
theorem dX10_thing_10_b : (decode cX10_thing 10 = .ok (.ifCond .ne 9, 3)) ∧ (decode cX10_thing 13 = .ok (.aload_n 0, 1)) ∧ (decode cX10_thing 14 = .ok (.iconst 1, 1)) ∧ (decode cX10_thing 15 = .ok (.invokevirtual 315, 3)) ∧ (decode cX10_thing 18 = .ok (.ireturn, 1)) ∧ (decode cX10_thing 19 = .ok (.aload_n 0, 1)) := by decide +kernel
theorem dX10_thing_10 : decode cX10_thing 10 = .ok (.ifCond .ne 9, 3) := dX10_thing_10_b.1
theorem dX10_thing_13 : decode cX10_thing 13 = .ok (.aload_n 0, 1) := dX10_thing_10_b.2.1
theorem dX10_thing_14 : decode cX10_thing 14 = .ok (.iconst 1, 1) := dX10_thing_10_b.2.2.1
theorem dX10_thing_15 : decode cX10_thing 15 = .ok (.invokevirtual 315, 3) := dX10_thing_10_b.2.2.2.1
theorem dX10_thing_18 : decode cX10_thing 18 = .ok (.ireturn, 1) := dX10_thing_10_b.2.2.2.2.1
theorem dX10_thing_19 : decode cX10_thing 19 = .ok (.aload_n 0, 1) := dX10_thing_10_b.2.2.2.2.2
set_option maxRecDepth 20000 in
theorem dX10_thing_20_b : (decode cX10_thing 20 = .ok (.getfield 87, 3)) ∧ (decode cX10_thing 23 = .ok (.iload_n 1, 1)) ∧ (decode cX10_thing 24 = .ok (.iaload, 1)) ∧ (decode cX10_thing 25 = .ok (.istore_n 3, 1)) ∧ (decode cX10_thing 26 = .ok (.iload_n 3, 1)) ∧ (decode cX10_thing 27 = .ok (.bipush 12, 2)) := by decide +kernel
theorem dX10_thing_20 : decode cX10_thing 20 = .ok (.getfield 87, 3) := dX10_thing_20_b.1
theorem dX10_thing_23 : decode cX10_thing 23 = .ok (.iload_n 1, 1) := dX10_thing_20_b.2.1
theorem dX10_thing_24 : decode cX10_thing 24 = .ok (.iaload, 1) := dX10_thing_20_b.2.2.1
theorem dX10_thing_25 : decode cX10_thing 25 = .ok (.istore_n 3, 1) := dX10_thing_20_b.2.2.2.1
theorem dX10_thing_26 : decode cX10_thing 26 = .ok (.iload_n 3, 1) := dX10_thing_20_b.2.2.2.2.1
theorem dX10_thing_27 : decode cX10_thing 27 = .ok (.bipush 12, 2) := dX10_thing_20_b.2.2.2.2.2
set_option maxRecDepth 20000 in
theorem dX10_thing_29_b : (decode cX10_thing 29 = .ok (.if_icmp .eq 9, 3)) ∧ (decode cX10_thing 32 = .ok (.iload_n 3, 1)) ∧ (decode cX10_thing 33 = .ok (.bipush 13, 2)) ∧ (decode cX10_thing 35 = .ok (.if_icmp .ne 7, 3)) ∧ (decode cX10_thing 38 = .ok (.iconst 1, 1)) ∧ (decode cX10_thing 39 = .ok (.goto 4, 3)) := by decide +kernel
theorem dX10_thing_29 : decode cX10_thing 29 = .ok (.if_icmp .eq 9, 3) := dX10_thing_29_b.1
theorem dX10_thing_32 : decode cX10_thing 32 = .ok (.iload_n 3, 1) := dX10_thing_29_b.2.1
theorem dX10_thing_33 : decode cX10_thing 33 = .ok (.bipush 13, 2) := dX10_thing_29_b.2.2.1
theorem dX10_thing_35 : decode cX10_thing 35 = .ok (.if_icmp .ne 7, 3) := dX10_thing_29_b.2.2.2.1
theorem dX10_thing_38 : decode cX10_thing 38 = .ok (.iconst 1, 1) := dX10_thing_29_b.2.2.2.2.1
theorem dX10_thing_39 : decode cX10_thing 39 = .ok (.goto 4, 3) := dX10_thing_29_b.2.2.2.2.2
set_option maxRecDepth 20000 in
theorem dX10_thing_42_b : (decode cX10_thing 42 = .ok (.iconst 0, 1)) ∧ (decode cX10_thing 43 = .ok (.istore 4, 2)) ∧ (decode cX10_thing 45 = .ok (.iload_n 2, 1)) ∧ (decode cX10_thing 46 = .ok (.tableswitch 120 0 5 #[38, 45, 52, 59, 91, 105], 38)) ∧ (decode cX10_thing 84 = .ok (.aload_n 0, 1)) ∧ (decode cX10_thing 85 = .ok (.getfield 57, 3)) := by decide +kernel
theorem dX10_thing_42 : decode cX10_thing 42 = .ok (.iconst 0, 1) := dX10_thing_42_b.1
theorem dX10_thing_43 : decode cX10_thing 43 = .ok (.istore 4, 2) := dX10_thing_42_b.2.1
theorem dX10_thing_45 : decode cX10_thing 45 = .ok (.iload_n 2, 1) := dX10_thing_42_b.2.2.1
theorem dX10_thing_46 : decode cX10_thing 46 = .ok (.tableswitch 120 0 5 #[38, 45, 52, 59, 91, 105], 38) := dX10_thing_42_b.2.2.2.1
theorem dX10_thing_84 : decode cX10_thing 84 = .ok (.aload_n 0, 1) := dX10_thing_42_b.2.2.2.2.1
theorem dX10_thing_85 : decode cX10_thing 85 = .ok (.getfield 57, 3) := dX10_thing_42_b.2.2.2.2.2
set_option maxRecDepth 20000 in
theorem dX10_thing_88_b : (decode cX10_thing 88 = .ok (.iload_n 1, 1)) ∧ (decode cX10_thing 89 = .ok (.iaload, 1)) ∧ (decode cX10_thing 90 = .ok (.ireturn, 1)) ∧ (decode cX10_thing 91 = .ok (.aload_n 0, 1)) ∧ (decode cX10_thing 92 = .ok (.getfield 60, 3)) ∧ (decode cX10_thing 95 = .ok (.iload_n 1, 1)) := by decide +kernel
theorem dX10_thing_88 : decode cX10_thing 88 = .ok (.iload_n 1, 1) := dX10_thing_88_b.1
theorem dX10_thing_89 : decode cX10_thing 89 = .ok (.iaload, 1) := dX10_thing_88_b.2.1
theorem dX10_thing_90 : decode cX10_thing 90 = .ok (.ireturn, 1) := dX10_thing_88_b.2.2.1
theorem dX10_thing_91 : decode cX10_thing 91 = .ok (.aload_n 0, 1) := dX10_thing_88_b.2.2.2.1
theorem dX10_thing_92 : decode cX10_thing 92 = .ok (.getfield 60, 3) := dX10_thing_88_b.2.2.2.2.1
theorem dX10_thing_95 : decode cX10_thing 95 = .ok (.iload_n 1, 1) := dX10_thing_88_b.2.2.2.2.2
set_option maxRecDepth 20000 in
theorem dX10_thing_96_b : (decode cX10_thing 96 = .ok (.iaload, 1)) ∧ (decode cX10_thing 97 = .ok (.ireturn, 1)) ∧ (decode cX10_thing 98 = .ok (.aload_n 0, 1)) ∧ (decode cX10_thing 99 = .ok (.getfield 65, 3)) ∧ (decode cX10_thing 102 = .ok (.iload_n 1, 1)) ∧ (decode cX10_thing 103 = .ok (.iaload, 1)) := by decide +kernel
theorem dX10_thing_96 : decode cX10_thing 96 = .ok (.iaload, 1) := dX10_thing_96_b.1
theorem dX10_thing_97 : decode cX10_thing 97 = .ok (.ireturn, 1) := dX10_thing_96_b.2.1
theorem dX10_thing_98 : decode cX10_thing 98 = .ok (.aload_n 0, 1) := dX10_thing_96_b.2.2.1
theorem dX10_thing_99 : decode cX10_thing 99 = .ok (.getfield 65, 3) := dX10_thing_96_b.2.2.2.1
theorem dX10_thing_102 : decode cX10_thing 102 = .ok (.iload_n 1, 1) := dX10_thing_96_b.2.2.2.2.1
theorem dX10_thing_103 : decode cX10_thing 103 = .ok (.iaload, 1) := dX10_thing_96_b.2.2.2.2.2
set_option maxRecDepth 20000 in
theorem dX10_thing_104_b : (decode cX10_thing 104 = .ok (.ireturn, 1)) ∧ (decode cX10_thing 105 = .ok (.iload 4, 2)) ∧ (decode cX10_thing 107 = .ok (.ifCond .eq 18, 3)) ∧ (decode cX10_thing 110 = .ok (.aload_n 0, 1)) ∧ (decode cX10_thing 111 = .ok (.iload_n 3, 1)) ∧ (decode cX10_thing 112 = .ok (.bipush 12, 2)) := by decide +kernel
theorem dX10_thing_104 : decode cX10_thing 104 = .ok (.ireturn, 1) := dX10_thing_104_b.1
theorem dX10_thing_105 : decode cX10_thing 105 = .ok (.iload 4, 2) := dX10_thing_104_b.2.1
theorem dX10_thing_107 : decode cX10_thing 107 = .ok (.ifCond .eq 18, 3) := dX10_thing_104_b.2.2.1
theorem dX10_thing_110 : decode cX10_thing 110 = .ok (.aload_n 0, 1) := dX10_thing_104_b.2.2.2.1
theorem dX10_thing_111 : decode cX10_thing 111 = .ok (.iload_n 3, 1) := dX10_thing_104_b.2.2.2.2.1
theorem dX10_thing_112 : decode cX10_thing 112 = .ok (.bipush 12, 2) := dX10_thing_104_b.2.2.2.2.2
set_option maxRecDepth 20000 in
theorem dX10_thing_114_b : (decode cX10_thing 114 = .ok (.isub, 1)) ∧ (decode cX10_thing 115 = .ok (.aload_n 0, 1)) ∧ (decode cX10_thing 116 = .ok (.getfield 327, 3)) ∧ (decode cX10_thing 119 = .ok (.invokevirtual 352, 3)) ∧ (decode cX10_thing 122 = .ok (.goto 14, 3)) ∧ (decode cX10_thing 125 = .ok (.iload_n 3, 1)) := by decide +kernel
theorem dX10_thing_114 : decode cX10_thing 114 = .ok (.isub, 1) := dX10_thing_114_b.1
theorem dX10_thing_115 : decode cX10_thing 115 = .ok (.aload_n 0, 1) := dX10_thing_114_b.2.1
theorem dX10_thing_116 : decode cX10_thing 116 = .ok (.getfield 327, 3) := dX10_thing_114_b.2.2.1
theorem dX10_thing_119 : decode cX10_thing 119 = .ok (.invokevirtual 352, 3) := dX10_thing_114_b.2.2.2.1
theorem dX10_thing_122 : decode cX10_thing 122 = .ok (.goto 14, 3) := dX10_thing_114_b.2.2.2.2.1
theorem dX10_thing_125 : decode cX10_thing 125 = .ok (.iload_n 3, 1) := dX10_thing_114_b.2.2.2.2.2
set_option maxRecDepth 20000 in
theorem dX10_thing_126_b : (decode cX10_thing 126 = .ok (.bipush 14, 2)) ∧ (decode cX10_thing 128 = .ok (.if_icmp .ne 7, 3)) ∧ (decode cX10_thing 131 = .ok (.iconst (-1), 1)) ∧ (decode cX10_thing 132 = .ok (.goto 4, 3)) ∧ (decode cX10_thing 135 = .ok (.iload_n 3, 1)) ∧ (decode cX10_thing 136 = .ok (.ireturn, 1)) := by decide +kernel
theorem dX10_thing_126 : decode cX10_thing 126 = .ok (.bipush 14, 2) := dX10_thing_126_b.1
theorem dX10_thing_128 : decode cX10_thing 128 = .ok (.if_icmp .ne 7, 3) := dX10_thing_126_b.2.1
theorem dX10_thing_131 : decode cX10_thing 131 = .ok (.iconst (-1), 1) := dX10_thing_126_b.2.2.1
theorem dX10_thing_132 : decode cX10_thing 132 = .ok (.goto 4, 3) := dX10_thing_126_b.2.2.2.1
theorem dX10_thing_135 : decode cX10_thing 135 = .ok (.iload_n 3, 1) := dX10_thing_126_b.2.2.2.2.1
theorem dX10_thing_136 : decode cX10_thing 136 = .ok (.ireturn, 1) := dX10_thing_126_b.2.2.2.2.2
set_option maxRecDepth 20000 in
theorem dX10_thing_137_b : (decode cX10_thing 137 = .ok (.iload 4, 2)) ∧ (decode cX10_thing 139 = .ok (.ifCond .eq 10, 3)) ∧ (decode cX10_thing 142 = .ok (.iload_n 3, 1)) ∧ (decode cX10_thing 143 = .ok (.bipush 12, 2)) ∧ (decode cX10_thing 145 = .ok (.isub, 1)) ∧ (decode cX10_thing 146 = .ok (.goto 4, 3)) := by decide +kernel
theorem dX10_thing_137 : decode cX10_thing 137 = .ok (.iload 4, 2) := dX10_thing_137_b.1
theorem dX10_thing_139 : decode cX10_thing 139 = .ok (.ifCond .eq 10, 3) := dX10_thing_137_b.2.1
theorem dX10_thing_142 : decode cX10_thing 142 = .ok (.iload_n 3, 1) := dX10_thing_137_b.2.2.1
theorem dX10_thing_143 : decode cX10_thing 143 = .ok (.bipush 12, 2) := dX10_thing_137_b.2.2.2.1
theorem dX10_thing_145 : decode cX10_thing 145 = .ok (.isub, 1) := dX10_thing_137_b.2.2.2.2.1
theorem dX10_thing_146 : decode cX10_thing 146 = .ok (.goto 4, 3) := dX10_thing_137_b.2.2.2.2.2
set_option maxRecDepth 20000 in
theorem dX10_thing_149_b : (decode cX10_thing 149 = .ok (.iconst (-1), 1)) ∧ (decode cX10_thing 150 = .ok (.ireturn, 1)) ∧ (decode cX10_thing 151 = .ok (.aload_n 0, 1)) ∧ (decode cX10_thing 152 = .ok (.iload_n 1, 1)) ∧ (decode cX10_thing 153 = .ok (.iload_n 3, 1)) ∧ (decode cX10_thing 154 = .ok (.invokevirtual 355, 3)) := by decide +kernel
theorem dX10_thing_149 : decode cX10_thing 149 = .ok (.iconst (-1), 1) := dX10_thing_149_b.1
theorem dX10_thing_150 : decode cX10_thing 150 = .ok (.ireturn, 1) := dX10_thing_149_b.2.1
theorem dX10_thing_151 : decode cX10_thing 151 = .ok (.aload_n 0, 1) := dX10_thing_149_b.2.2.1
theorem dX10_thing_152 : decode cX10_thing 152 = .ok (.iload_n 1, 1) := dX10_thing_149_b.2.2.2.1
theorem dX10_thing_153 : decode cX10_thing 153 = .ok (.iload_n 3, 1) := dX10_thing_149_b.2.2.2.2.1
theorem dX10_thing_154 : decode cX10_thing 154 = .ok (.invokevirtual 355, 3) := dX10_thing_149_b.2.2.2.2.2
set_option maxRecDepth 20000 in
theorem dX10_thing_157_b : (decode cX10_thing 157 = .ok (.ifCond .eq 7, 3)) ∧ (decode cX10_thing 160 = .ok (.iconst 1, 1)) ∧ (decode cX10_thing 161 = .ok (.goto 4, 3)) ∧ (decode cX10_thing 164 = .ok (.iconst 0, 1)) ∧ (decode cX10_thing 165 = .ok (.ireturn, 1)) ∧ (decode cX10_thing 166 = .ok (.aload_n 0, 1)) := by decide +kernel
theorem dX10_thing_157 : decode cX10_thing 157 = .ok (.ifCond .eq 7, 3) := dX10_thing_157_b.1
theorem dX10_thing_160 : decode cX10_thing 160 = .ok (.iconst 1, 1) := dX10_thing_157_b.2.1
theorem dX10_thing_161 : decode cX10_thing 161 = .ok (.goto 4, 3) := dX10_thing_157_b.2.2.1
theorem dX10_thing_164 : decode cX10_thing 164 = .ok (.iconst 0, 1) := dX10_thing_157_b.2.2.2.1
theorem dX10_thing_165 : decode cX10_thing 165 = .ok (.ireturn, 1) := dX10_thing_157_b.2.2.2.2.1
theorem dX10_thing_166 : decode cX10_thing 166 = .ok (.aload_n 0, 1) := dX10_thing_157_b.2.2.2.2.2
set_option maxRecDepth 20000 in
theorem dX10_thing_167_b : (decode cX10_thing 167 = .ok (.iconst 1, 1)) ∧ (decode cX10_thing 168 = .ok (.invokevirtual 315, 3)) ∧ (decode cX10_thing 171 = .ok (.ireturn, 1)) := by decide +kernel
theorem dX10_thing_167 : decode cX10_thing 167 = .ok (.iconst 1, 1) := dX10_thing_167_b.1
theorem dX10_thing_168 : decode cX10_thing 168 = .ok (.invokevirtual 315, 3) := dX10_thing_167_b.2.1
theorem dX10_thing_171 : decode cX10_thing 171 = .ok (.ireturn, 1) := dX10_thing_167_b.2.2
set_option maxRecDepth 20000 in
theorem dX10_loadOf_0_b : (decode cX10_loadOf 0 = .ok (.iconst 0, 1)) ∧ (decode cX10_loadOf 1 = .ok (.istore_n 3, 1)) ∧ (decode cX10_loadOf 2 = .ok (.iconst 0, 1)) ∧ (decode cX10_loadOf 3 = .ok (.istore 4, 2)) ∧ (decode cX10_loadOf 5 = .ok (.iload 4, 2)) ∧ (decode cX10_loadOf 7 = .ok (.aload_n 0, 1)) := by decide +kernel
theorem dX10_loadOf_0 : decode cX10_loadOf 0 = .ok (.iconst 0, 1) := dX10_loadOf_0_b.1
theorem dX10_loadOf_1 : decode cX10_loadOf 1 = .ok (.istore_n 3, 1) := dX10_loadOf_0_b.2.1
theorem dX10_loadOf_2 : decode cX10_loadOf 2 = .ok (.iconst 0, 1) := dX10_loadOf_0_b.2.2.1
theorem dX10_loadOf_3 : decode cX10_loadOf 3 = .ok (.istore 4, 2) := dX10_loadOf_0_b.2.2.2.1
theorem dX10_loadOf_5 : decode cX10_loadOf 5 = .ok (.iload 4, 2) := dX10_loadOf_0_b.2.2.2.2.1
theorem dX10_loadOf_7 : decode cX10_loadOf 7 = .ok (.aload_n 0, 1) := dX10_loadOf_0_b.2.2.2.2.2
set_option maxRecDepth 20000 in
theorem dX10_loadOf_8_b : (decode cX10_loadOf 8 = .ok (.getfield 174, 3)) ∧ (decode cX10_loadOf 11 = .ok (.if_icmp .ge 34, 3)) ∧ (decode cX10_loadOf 14 = .ok (.iload_n 3, 1)) ∧ (decode cX10_loadOf 15 = .ok (.aload_n 1, 1)) ∧ (decode cX10_loadOf 16 = .ok (.iload 4, 2)) ∧ (decode cX10_loadOf 18 = .ok (.iaload, 1)) := by decide +kernel
theorem dX10_loadOf_8 : decode cX10_loadOf 8 = .ok (.getfield 174, 3) := dX10_loadOf_8_b.1
theorem dX10_loadOf_11 : decode cX10_loadOf 11 = .ok (.if_icmp .ge 34, 3) := dX10_loadOf_8_b.2.1
theorem dX10_loadOf_14 : decode cX10_loadOf 14 = .ok (.iload_n 3, 1) := dX10_loadOf_8_b.2.2.1
theorem dX10_loadOf_15 : decode cX10_loadOf 15 = .ok (.aload_n 1, 1) := dX10_loadOf_8_b.2.2.2.1
theorem dX10_loadOf_16 : decode cX10_loadOf 16 = .ok (.iload 4, 2) := dX10_loadOf_8_b.2.2.2.2.1
theorem dX10_loadOf_18 : decode cX10_loadOf 18 = .ok (.iaload, 1) := dX10_loadOf_8_b.2.2.2.2.2
set_option maxRecDepth 20000 in
theorem dX10_loadOf_19_b : (decode cX10_loadOf 19 = .ok (.iload_n 2, 1)) ∧ (decode cX10_loadOf 20 = .ok (.invokestatic 359, 3)) ∧ (decode cX10_loadOf 23 = .ok (.ifCond .eq 13, 3)) ∧ (decode cX10_loadOf 26 = .ok (.aload_n 0, 1)) ∧ (decode cX10_loadOf 27 = .ok (.getfield 60, 3)) ∧ (decode cX10_loadOf 30 = .ok (.iload 4, 2)) := by decide +kernel
theorem dX10_loadOf_19 : decode cX10_loadOf 19 = .ok (.iload_n 2, 1) := dX10_loadOf_19_b.1
theorem dX10_loadOf_20 : decode cX10_loadOf 20 = .ok (.invokestatic 359, 3) := dX10_loadOf_19_b.2.1
theorem dX10_loadOf_23 : decode cX10_loadOf 23 = .ok (.ifCond .eq 13, 3) := dX10_loadOf_19_b.2.2.1
theorem dX10_loadOf_26 : decode cX10_loadOf 26 = .ok (.aload_n 0, 1) := dX10_loadOf_19_b.2.2.2.1
theorem dX10_loadOf_27 : decode cX10_loadOf 27 = .ok (.getfield 60, 3) := dX10_loadOf_19_b.2.2.2.2.1
theorem dX10_loadOf_30 : decode cX10_loadOf 30 = .ok (.iload 4, 2) := dX10_loadOf_19_b.2.2.2.2.2
set_option maxRecDepth 20000 in
theorem dX10_loadOf_32_b : (decode cX10_loadOf 32 = .ok (.iaload, 1)) ∧ (decode cX10_loadOf 33 = .ok (.goto 4, 3)) ∧ (decode cX10_loadOf 36 = .ok (.iconst 0, 1)) ∧ (decode cX10_loadOf 37 = .ok (.iadd, 1)) ∧ (decode cX10_loadOf 38 = .ok (.istore_n 3, 1)) ∧ (decode cX10_loadOf 39 = .ok (.iinc 4 1, 3)) := by decide +kernel
theorem dX10_loadOf_32 : decode cX10_loadOf 32 = .ok (.iaload, 1) := dX10_loadOf_32_b.1
theorem dX10_loadOf_33 : decode cX10_loadOf 33 = .ok (.goto 4, 3) := dX10_loadOf_32_b.2.1
theorem dX10_loadOf_36 : decode cX10_loadOf 36 = .ok (.iconst 0, 1) := dX10_loadOf_32_b.2.2.1
theorem dX10_loadOf_37 : decode cX10_loadOf 37 = .ok (.iadd, 1) := dX10_loadOf_32_b.2.2.2.1
theorem dX10_loadOf_38 : decode cX10_loadOf 38 = .ok (.istore_n 3, 1) := dX10_loadOf_32_b.2.2.2.2.1
theorem dX10_loadOf_39 : decode cX10_loadOf 39 = .ok (.iinc 4 1, 3) := dX10_loadOf_32_b.2.2.2.2.2
set_option maxRecDepth 20000 in
theorem dX10_loadOf_42_b : (decode cX10_loadOf 42 = .ok (.goto (-37), 3)) ∧ (decode cX10_loadOf 45 = .ok (.iload_n 3, 1)) ∧ (decode cX10_loadOf 46 = .ok (.ireturn, 1)) := by decide +kernel
theorem dX10_loadOf_42 : decode cX10_loadOf 42 = .ok (.goto (-37), 3) := dX10_loadOf_42_b.1
theorem dX10_loadOf_45 : decode cX10_loadOf 45 = .ok (.iload_n 3, 1) := dX10_loadOf_42_b.2.1
theorem dX10_loadOf_46 : decode cX10_loadOf 46 = .ok (.ireturn, 1) := dX10_loadOf_42_b.2.2
set_option maxRecDepth 20000 in
theorem dX10_sideOf_0_b : (decode cX10_sideOf 0 = .ok (.aload_n 0, 1)) ∧ (decode cX10_sideOf 1 = .ok (.aload_n 1, 1)) ∧ (decode cX10_sideOf 2 = .ok (.iload_n 2, 1)) ∧ (decode cX10_sideOf 3 = .ok (.invokevirtual 362, 3)) ∧ (decode cX10_sideOf 6 = .ok (.aload_n 0, 1)) ∧ (decode cX10_sideOf 7 = .ok (.getfield 54, 3)) := by decide +kernel
theorem dX10_sideOf_0 : decode cX10_sideOf 0 = .ok (.aload_n 0, 1) := dX10_sideOf_0_b.1
theorem dX10_sideOf_1 : decode cX10_sideOf 1 = .ok (.aload_n 1, 1) := dX10_sideOf_0_b.2.1
theorem dX10_sideOf_2 : decode cX10_sideOf 2 = .ok (.iload_n 2, 1) := dX10_sideOf_0_b.2.2.1
theorem dX10_sideOf_3 : decode cX10_sideOf 3 = .ok (.invokevirtual 362, 3) := dX10_sideOf_0_b.2.2.2.1
theorem dX10_sideOf_6 : decode cX10_sideOf 6 = .ok (.aload_n 0, 1) := dX10_sideOf_0_b.2.2.2.2.1
theorem dX10_sideOf_7 : decode cX10_sideOf 7 = .ok (.getfield 54, 3) := dX10_sideOf_0_b.2.2.2.2.2
set_option maxRecDepth 20000 in
theorem dX10_sideOf_10_b : (decode cX10_sideOf 10 = .ok (.iconst 3, 1)) ∧ (decode cX10_sideOf 11 = .ok (.iaload, 1)) ∧ (decode cX10_sideOf 12 = .ok (.aload_n 0, 1)) ∧ (decode cX10_sideOf 13 = .ok (.iload_n 2, 1)) ∧ (decode cX10_sideOf 14 = .ok (.iload_n 3, 1)) ∧ (decode cX10_sideOf 15 = .ok (.invokevirtual 352, 3)) := by decide +kernel
theorem dX10_sideOf_10 : decode cX10_sideOf 10 = .ok (.iconst 3, 1) := dX10_sideOf_10_b.1
theorem dX10_sideOf_11 : decode cX10_sideOf 11 = .ok (.iaload, 1) := dX10_sideOf_10_b.2.1
theorem dX10_sideOf_12 : decode cX10_sideOf 12 = .ok (.aload_n 0, 1) := dX10_sideOf_10_b.2.2.1
theorem dX10_sideOf_13 : decode cX10_sideOf 13 = .ok (.iload_n 2, 1) := dX10_sideOf_10_b.2.2.2.1
theorem dX10_sideOf_14 : decode cX10_sideOf 14 = .ok (.iload_n 3, 1) := dX10_sideOf_10_b.2.2.2.2.1
theorem dX10_sideOf_15 : decode cX10_sideOf 15 = .ok (.invokevirtual 352, 3) := dX10_sideOf_10_b.2.2.2.2.2
set_option maxRecDepth 20000 in
theorem dX10_sideOf_18_b : (decode cX10_sideOf 18 = .ok (.imul, 1)) ∧ (decode cX10_sideOf 19 = .ok (.iadd, 1)) ∧ (decode cX10_sideOf 20 = .ok (.ireturn, 1)) := by decide +kernel
theorem dX10_sideOf_18 : decode cX10_sideOf 18 = .ok (.imul, 1) := dX10_sideOf_18_b.1
theorem dX10_sideOf_19 : decode cX10_sideOf 19 = .ok (.iadd, 1) := dX10_sideOf_18_b.2.1
theorem dX10_sideOf_20 : decode cX10_sideOf 20 = .ok (.ireturn, 1) := dX10_sideOf_18_b.2.2
set_option maxRecDepth 20000 in
theorem dX10_manyOf_0_b : (decode cX10_manyOf 0 = .ok (.iconst 0, 1)) ∧ (decode cX10_manyOf 1 = .ok (.istore 4, 2)) ∧ (decode cX10_manyOf 3 = .ok (.iconst 0, 1)) ∧ (decode cX10_manyOf 4 = .ok (.istore 5, 2)) ∧ (decode cX10_manyOf 6 = .ok (.iload 5, 2)) ∧ (decode cX10_manyOf 8 = .ok (.aload_n 0, 1)) := by decide +kernel
theorem dX10_manyOf_0 : decode cX10_manyOf 0 = .ok (.iconst 0, 1) := dX10_manyOf_0_b.1
theorem dX10_manyOf_1 : decode cX10_manyOf 1 = .ok (.istore 4, 2) := dX10_manyOf_0_b.2.1
theorem dX10_manyOf_3 : decode cX10_manyOf 3 = .ok (.iconst 0, 1) := dX10_manyOf_0_b.2.2.1
theorem dX10_manyOf_4 : decode cX10_manyOf 4 = .ok (.istore 5, 2) := dX10_manyOf_0_b.2.2.2.1
theorem dX10_manyOf_6 : decode cX10_manyOf 6 = .ok (.iload 5, 2) := dX10_manyOf_0_b.2.2.2.2.1
theorem dX10_manyOf_8 : decode cX10_manyOf 8 = .ok (.aload_n 0, 1) := dX10_manyOf_0_b.2.2.2.2.2
set_option maxRecDepth 20000 in
theorem dX10_manyOf_9_b : (decode cX10_manyOf 9 = .ok (.getfield 174, 3)) ∧ (decode cX10_manyOf 12 = .ok (.if_icmp .ge 41, 3)) ∧ (decode cX10_manyOf 15 = .ok (.iload 4, 2)) ∧ (decode cX10_manyOf 17 = .ok (.aload_n 1, 1)) ∧ (decode cX10_manyOf 18 = .ok (.iload 5, 2)) ∧ (decode cX10_manyOf 20 = .ok (.iaload, 1)) := by decide +kernel
theorem dX10_manyOf_9 : decode cX10_manyOf 9 = .ok (.getfield 174, 3) := dX10_manyOf_9_b.1
theorem dX10_manyOf_12 : decode cX10_manyOf 12 = .ok (.if_icmp .ge 41, 3) := dX10_manyOf_9_b.2.1
theorem dX10_manyOf_15 : decode cX10_manyOf 15 = .ok (.iload 4, 2) := dX10_manyOf_9_b.2.2.1
theorem dX10_manyOf_17 : decode cX10_manyOf 17 = .ok (.aload_n 1, 1) := dX10_manyOf_9_b.2.2.2.1
theorem dX10_manyOf_18 : decode cX10_manyOf 18 = .ok (.iload 5, 2) := dX10_manyOf_9_b.2.2.2.2.1
theorem dX10_manyOf_20 : decode cX10_manyOf 20 = .ok (.iaload, 1) := dX10_manyOf_9_b.2.2.2.2.2
set_option maxRecDepth 20000 in
theorem dX10_manyOf_21_b : (decode cX10_manyOf 21 = .ok (.iload_n 2, 1)) ∧ (decode cX10_manyOf 22 = .ok (.invokestatic 359, 3)) ∧ (decode cX10_manyOf 25 = .ok (.ifCond .eq 18, 3)) ∧ (decode cX10_manyOf 28 = .ok (.aload_n 0, 1)) ∧ (decode cX10_manyOf 29 = .ok (.getfield 57, 3)) ∧ (decode cX10_manyOf 32 = .ok (.iload 5, 2)) := by decide +kernel
theorem dX10_manyOf_21 : decode cX10_manyOf 21 = .ok (.iload_n 2, 1) := dX10_manyOf_21_b.1
theorem dX10_manyOf_22 : decode cX10_manyOf 22 = .ok (.invokestatic 359, 3) := dX10_manyOf_21_b.2.1
theorem dX10_manyOf_25 : decode cX10_manyOf 25 = .ok (.ifCond .eq 18, 3) := dX10_manyOf_21_b.2.2.1
theorem dX10_manyOf_28 : decode cX10_manyOf 28 = .ok (.aload_n 0, 1) := dX10_manyOf_21_b.2.2.2.1
theorem dX10_manyOf_29 : decode cX10_manyOf 29 = .ok (.getfield 57, 3) := dX10_manyOf_21_b.2.2.2.2.1
theorem dX10_manyOf_32 : decode cX10_manyOf 32 = .ok (.iload 5, 2) := dX10_manyOf_21_b.2.2.2.2.2
set_option maxRecDepth 20000 in
theorem dX10_manyOf_34_b : (decode cX10_manyOf 34 = .ok (.iaload, 1)) ∧ (decode cX10_manyOf 35 = .ok (.iload_n 3, 1)) ∧ (decode cX10_manyOf 36 = .ok (.if_icmp .ne 7, 3)) ∧ (decode cX10_manyOf 39 = .ok (.iconst 1, 1)) ∧ (decode cX10_manyOf 40 = .ok (.goto 4, 3)) ∧ (decode cX10_manyOf 43 = .ok (.iconst 0, 1)) := by decide +kernel
theorem dX10_manyOf_34 : decode cX10_manyOf 34 = .ok (.iaload, 1) := dX10_manyOf_34_b.1
theorem dX10_manyOf_35 : decode cX10_manyOf 35 = .ok (.iload_n 3, 1) := dX10_manyOf_34_b.2.1
theorem dX10_manyOf_36 : decode cX10_manyOf 36 = .ok (.if_icmp .ne 7, 3) := dX10_manyOf_34_b.2.2.1
theorem dX10_manyOf_39 : decode cX10_manyOf 39 = .ok (.iconst 1, 1) := dX10_manyOf_34_b.2.2.2.1
theorem dX10_manyOf_40 : decode cX10_manyOf 40 = .ok (.goto 4, 3) := dX10_manyOf_34_b.2.2.2.2.1
theorem dX10_manyOf_43 : decode cX10_manyOf 43 = .ok (.iconst 0, 1) := dX10_manyOf_34_b.2.2.2.2.2
set_option maxRecDepth 20000 in
theorem dX10_manyOf_44_b : (decode cX10_manyOf 44 = .ok (.iadd, 1)) ∧ (decode cX10_manyOf 45 = .ok (.istore 4, 2)) ∧ (decode cX10_manyOf 47 = .ok (.iinc 5 1, 3)) ∧ (decode cX10_manyOf 50 = .ok (.goto (-44), 3)) ∧ (decode cX10_manyOf 53 = .ok (.iload 4, 2)) ∧ (decode cX10_manyOf 55 = .ok (.ireturn, 1)) := by decide +kernel
theorem dX10_manyOf_44 : decode cX10_manyOf 44 = .ok (.iadd, 1) := dX10_manyOf_44_b.1
theorem dX10_manyOf_45 : decode cX10_manyOf 45 = .ok (.istore 4, 2) := dX10_manyOf_44_b.2.1
theorem dX10_manyOf_47 : decode cX10_manyOf 47 = .ok (.iinc 5 1, 3) := dX10_manyOf_44_b.2.2.1
theorem dX10_manyOf_50 : decode cX10_manyOf 50 = .ok (.goto (-44), 3) := dX10_manyOf_44_b.2.2.2.1
theorem dX10_manyOf_53 : decode cX10_manyOf 53 = .ok (.iload 4, 2) := dX10_manyOf_44_b.2.2.2.2.1
theorem dX10_manyOf_55 : decode cX10_manyOf 55 = .ok (.ireturn, 1) := dX10_manyOf_44_b.2.2.2.2.2
set_option maxRecDepth 20000 in
theorem dX10_reckon_0_b : (decode cX10_reckon 0 = .ok (.iload_n 0, 1)) ∧ (decode cX10_reckon 1 = .ok (.tableswitch 103 (-26) (-20) #[89, 78, 67, 55, 51, 47, 43], 43)) ∧ (decode cX10_reckon 44 = .ok (.iload_n 1, 1)) ∧ (decode cX10_reckon 45 = .ok (.iload_n 2, 1)) ∧ (decode cX10_reckon 46 = .ok (.iadd, 1)) ∧ (decode cX10_reckon 47 = .ok (.ireturn, 1)) := by decide +kernel
theorem dX10_reckon_0 : decode cX10_reckon 0 = .ok (.iload_n 0, 1) := dX10_reckon_0_b.1
theorem dX10_reckon_1 : decode cX10_reckon 1 = .ok (.tableswitch 103 (-26) (-20) #[89, 78, 67, 55, 51, 47, 43], 43) := dX10_reckon_0_b.2.1
theorem dX10_reckon_44 : decode cX10_reckon 44 = .ok (.iload_n 1, 1) := dX10_reckon_0_b.2.2.1
theorem dX10_reckon_45 : decode cX10_reckon 45 = .ok (.iload_n 2, 1) := dX10_reckon_0_b.2.2.2.1
theorem dX10_reckon_46 : decode cX10_reckon 46 = .ok (.iadd, 1) := dX10_reckon_0_b.2.2.2.2.1
theorem dX10_reckon_47 : decode cX10_reckon 47 = .ok (.ireturn, 1) := dX10_reckon_0_b.2.2.2.2.2
set_option maxRecDepth 20000 in
theorem dX10_reckon_48_b : (decode cX10_reckon 48 = .ok (.iload_n 1, 1)) ∧ (decode cX10_reckon 49 = .ok (.iload_n 2, 1)) ∧ (decode cX10_reckon 50 = .ok (.isub, 1)) ∧ (decode cX10_reckon 51 = .ok (.ireturn, 1)) ∧ (decode cX10_reckon 52 = .ok (.iload_n 1, 1)) ∧ (decode cX10_reckon 53 = .ok (.iload_n 2, 1)) := by decide +kernel
theorem dX10_reckon_48 : decode cX10_reckon 48 = .ok (.iload_n 1, 1) := dX10_reckon_48_b.1
theorem dX10_reckon_49 : decode cX10_reckon 49 = .ok (.iload_n 2, 1) := dX10_reckon_48_b.2.1
theorem dX10_reckon_50 : decode cX10_reckon 50 = .ok (.isub, 1) := dX10_reckon_48_b.2.2.1
theorem dX10_reckon_51 : decode cX10_reckon 51 = .ok (.ireturn, 1) := dX10_reckon_48_b.2.2.2.1
theorem dX10_reckon_52 : decode cX10_reckon 52 = .ok (.iload_n 1, 1) := dX10_reckon_48_b.2.2.2.2.1
theorem dX10_reckon_53 : decode cX10_reckon 53 = .ok (.iload_n 2, 1) := dX10_reckon_48_b.2.2.2.2.2
set_option maxRecDepth 20000 in
theorem dX10_reckon_54_b : (decode cX10_reckon 54 = .ok (.imul, 1)) ∧ (decode cX10_reckon 55 = .ok (.ireturn, 1)) ∧ (decode cX10_reckon 56 = .ok (.iload_n 2, 1)) ∧ (decode cX10_reckon 57 = .ok (.ifCond .ne 7, 3)) ∧ (decode cX10_reckon 60 = .ok (.iconst 0, 1)) ∧ (decode cX10_reckon 61 = .ok (.goto 6, 3)) := by decide +kernel
theorem dX10_reckon_54 : decode cX10_reckon 54 = .ok (.imul, 1) := dX10_reckon_54_b.1
theorem dX10_reckon_55 : decode cX10_reckon 55 = .ok (.ireturn, 1) := dX10_reckon_54_b.2.1
theorem dX10_reckon_56 : decode cX10_reckon 56 = .ok (.iload_n 2, 1) := dX10_reckon_54_b.2.2.1
theorem dX10_reckon_57 : decode cX10_reckon 57 = .ok (.ifCond .ne 7, 3) := dX10_reckon_54_b.2.2.2.1
theorem dX10_reckon_60 : decode cX10_reckon 60 = .ok (.iconst 0, 1) := dX10_reckon_54_b.2.2.2.2.1
theorem dX10_reckon_61 : decode cX10_reckon 61 = .ok (.goto 6, 3) := dX10_reckon_54_b.2.2.2.2.2
set_option maxRecDepth 20000 in
theorem dX10_reckon_64_b : (decode cX10_reckon 64 = .ok (.iload_n 1, 1)) ∧ (decode cX10_reckon 65 = .ok (.iload_n 2, 1)) ∧ (decode cX10_reckon 66 = .ok (.idiv, 1)) ∧ (decode cX10_reckon 67 = .ok (.ireturn, 1)) ∧ (decode cX10_reckon 68 = .ok (.iload_n 1, 1)) ∧ (decode cX10_reckon 69 = .ok (.iload_n 2, 1)) := by decide +kernel
theorem dX10_reckon_64 : decode cX10_reckon 64 = .ok (.iload_n 1, 1) := dX10_reckon_64_b.1
theorem dX10_reckon_65 : decode cX10_reckon 65 = .ok (.iload_n 2, 1) := dX10_reckon_64_b.2.1
theorem dX10_reckon_66 : decode cX10_reckon 66 = .ok (.idiv, 1) := dX10_reckon_64_b.2.2.1
theorem dX10_reckon_67 : decode cX10_reckon 67 = .ok (.ireturn, 1) := dX10_reckon_64_b.2.2.2.1
theorem dX10_reckon_68 : decode cX10_reckon 68 = .ok (.iload_n 1, 1) := dX10_reckon_64_b.2.2.2.2.1
theorem dX10_reckon_69 : decode cX10_reckon 69 = .ok (.iload_n 2, 1) := dX10_reckon_64_b.2.2.2.2.2
set_option maxRecDepth 20000 in
theorem dX10_reckon_70_b : (decode cX10_reckon 70 = .ok (.if_icmp .ge 7, 3)) ∧ (decode cX10_reckon 73 = .ok (.iconst 1, 1)) ∧ (decode cX10_reckon 74 = .ok (.goto 4, 3)) ∧ (decode cX10_reckon 77 = .ok (.iconst 0, 1)) ∧ (decode cX10_reckon 78 = .ok (.ireturn, 1)) ∧ (decode cX10_reckon 79 = .ok (.iload_n 1, 1)) := by decide +kernel
theorem dX10_reckon_70 : decode cX10_reckon 70 = .ok (.if_icmp .ge 7, 3) := dX10_reckon_70_b.1
theorem dX10_reckon_73 : decode cX10_reckon 73 = .ok (.iconst 1, 1) := dX10_reckon_70_b.2.1
theorem dX10_reckon_74 : decode cX10_reckon 74 = .ok (.goto 4, 3) := dX10_reckon_70_b.2.2.1
theorem dX10_reckon_77 : decode cX10_reckon 77 = .ok (.iconst 0, 1) := dX10_reckon_70_b.2.2.2.1
theorem dX10_reckon_78 : decode cX10_reckon 78 = .ok (.ireturn, 1) := dX10_reckon_70_b.2.2.2.2.1
theorem dX10_reckon_79 : decode cX10_reckon 79 = .ok (.iload_n 1, 1) := dX10_reckon_70_b.2.2.2.2.2
set_option maxRecDepth 20000 in
theorem dX10_reckon_80_b : (decode cX10_reckon 80 = .ok (.iload_n 2, 1)) ∧ (decode cX10_reckon 81 = .ok (.if_icmp .ne 7, 3)) ∧ (decode cX10_reckon 84 = .ok (.iconst 1, 1)) ∧ (decode cX10_reckon 85 = .ok (.goto 4, 3)) ∧ (decode cX10_reckon 88 = .ok (.iconst 0, 1)) ∧ (decode cX10_reckon 89 = .ok (.ireturn, 1)) := by decide +kernel
theorem dX10_reckon_80 : decode cX10_reckon 80 = .ok (.iload_n 2, 1) := dX10_reckon_80_b.1
theorem dX10_reckon_81 : decode cX10_reckon 81 = .ok (.if_icmp .ne 7, 3) := dX10_reckon_80_b.2.1
theorem dX10_reckon_84 : decode cX10_reckon 84 = .ok (.iconst 1, 1) := dX10_reckon_80_b.2.2.1
theorem dX10_reckon_85 : decode cX10_reckon 85 = .ok (.goto 4, 3) := dX10_reckon_80_b.2.2.2.1
theorem dX10_reckon_88 : decode cX10_reckon 88 = .ok (.iconst 0, 1) := dX10_reckon_80_b.2.2.2.2.1
theorem dX10_reckon_89 : decode cX10_reckon 89 = .ok (.ireturn, 1) := dX10_reckon_80_b.2.2.2.2.2
set_option maxRecDepth 20000 in
theorem dX10_reckon_90_b : (decode cX10_reckon 90 = .ok (.iload_n 1, 1)) ∧ (decode cX10_reckon 91 = .ok (.ifCond .eq 11, 3)) ∧ (decode cX10_reckon 94 = .ok (.iload_n 2, 1)) ∧ (decode cX10_reckon 95 = .ok (.ifCond .eq 7, 3)) ∧ (decode cX10_reckon 98 = .ok (.iconst 1, 1)) ∧ (decode cX10_reckon 99 = .ok (.goto 4, 3)) := by decide +kernel
theorem dX10_reckon_90 : decode cX10_reckon 90 = .ok (.iload_n 1, 1) := dX10_reckon_90_b.1
theorem dX10_reckon_91 : decode cX10_reckon 91 = .ok (.ifCond .eq 11, 3) := dX10_reckon_90_b.2.1
theorem dX10_reckon_94 : decode cX10_reckon 94 = .ok (.iload_n 2, 1) := dX10_reckon_90_b.2.2.1
theorem dX10_reckon_95 : decode cX10_reckon 95 = .ok (.ifCond .eq 7, 3) := dX10_reckon_90_b.2.2.2.1
theorem dX10_reckon_98 : decode cX10_reckon 98 = .ok (.iconst 1, 1) := dX10_reckon_90_b.2.2.2.2.1
theorem dX10_reckon_99 : decode cX10_reckon 99 = .ok (.goto 4, 3) := dX10_reckon_90_b.2.2.2.2.2
set_option maxRecDepth 20000 in
theorem dX10_reckon_102_b : (decode cX10_reckon 102 = .ok (.iconst 0, 1)) ∧ (decode cX10_reckon 103 = .ok (.ireturn, 1)) ∧ (decode cX10_reckon 104 = .ok (.iload_n 1, 1)) ∧ (decode cX10_reckon 105 = .ok (.ifCond .ne 7, 3)) ∧ (decode cX10_reckon 108 = .ok (.iload_n 2, 1)) ∧ (decode cX10_reckon 109 = .ok (.ifCond .eq 7, 3)) := by decide +kernel
theorem dX10_reckon_102 : decode cX10_reckon 102 = .ok (.iconst 0, 1) := dX10_reckon_102_b.1
theorem dX10_reckon_103 : decode cX10_reckon 103 = .ok (.ireturn, 1) := dX10_reckon_102_b.2.1
theorem dX10_reckon_104 : decode cX10_reckon 104 = .ok (.iload_n 1, 1) := dX10_reckon_102_b.2.2.1
theorem dX10_reckon_105 : decode cX10_reckon 105 = .ok (.ifCond .ne 7, 3) := dX10_reckon_102_b.2.2.2.1
theorem dX10_reckon_108 : decode cX10_reckon 108 = .ok (.iload_n 2, 1) := dX10_reckon_102_b.2.2.2.2.1
theorem dX10_reckon_109 : decode cX10_reckon 109 = .ok (.ifCond .eq 7, 3) := dX10_reckon_102_b.2.2.2.2.2
set_option maxRecDepth 20000 in
theorem dX10_reckon_112_b : (decode cX10_reckon 112 = .ok (.iconst 1, 1)) ∧ (decode cX10_reckon 113 = .ok (.goto 4, 3)) ∧ (decode cX10_reckon 116 = .ok (.iconst 0, 1)) ∧ (decode cX10_reckon 117 = .ok (.ireturn, 1)) := by decide +kernel
theorem dX10_reckon_112 : decode cX10_reckon 112 = .ok (.iconst 1, 1) := dX10_reckon_112_b.1
theorem dX10_reckon_113 : decode cX10_reckon 113 = .ok (.goto 4, 3) := dX10_reckon_112_b.2.1
theorem dX10_reckon_116 : decode cX10_reckon 116 = .ok (.iconst 0, 1) := dX10_reckon_112_b.2.2.1
theorem dX10_reckon_117 : decode cX10_reckon 117 = .ok (.ireturn, 1) := dX10_reckon_112_b.2.2.2
set_option maxRecDepth 20000 in
theorem dX10_holds_0_b : (decode cX10_holds 0 = .ok (.iconst 0, 1)) ∧ (decode cX10_holds 1 = .ok (.istore_n 2, 1)) ∧ (decode cX10_holds 2 = .ok (.aload_n 0, 1)) ∧ (decode cX10_holds 3 = .ok (.getfield 68, 3)) ∧ (decode cX10_holds 6 = .ok (.iload_n 1, 1)) ∧ (decode cX10_holds 7 = .ok (.iaload, 1)) := by decide +kernel
theorem dX10_holds_0 : decode cX10_holds 0 = .ok (.iconst 0, 1) := dX10_holds_0_b.1
theorem dX10_holds_1 : decode cX10_holds 1 = .ok (.istore_n 2, 1) := dX10_holds_0_b.2.1
theorem dX10_holds_2 : decode cX10_holds 2 = .ok (.aload_n 0, 1) := dX10_holds_0_b.2.2.1
theorem dX10_holds_3 : decode cX10_holds 3 = .ok (.getfield 68, 3) := dX10_holds_0_b.2.2.2.1
theorem dX10_holds_6 : decode cX10_holds 6 = .ok (.iload_n 1, 1) := dX10_holds_0_b.2.2.2.2.1
theorem dX10_holds_7 : decode cX10_holds 7 = .ok (.iaload, 1) := dX10_holds_0_b.2.2.2.2.2
set_option maxRecDepth 20000 in
theorem dX10_holds_8_b : (decode cX10_holds 8 = .ok (.istore_n 3, 1)) ∧ (decode cX10_holds 9 = .ok (.iload_n 3, 1)) ∧ (decode cX10_holds 10 = .ok (.aload_n 0, 1)) ∧ (decode cX10_holds 11 = .ok (.getfield 71, 3)) ∧ (decode cX10_holds 14 = .ok (.iload_n 1, 1)) ∧ (decode cX10_holds 15 = .ok (.iaload, 1)) := by decide +kernel
theorem dX10_holds_8 : decode cX10_holds 8 = .ok (.istore_n 3, 1) := dX10_holds_8_b.1
theorem dX10_holds_9 : decode cX10_holds 9 = .ok (.iload_n 3, 1) := dX10_holds_8_b.2.1
theorem dX10_holds_10 : decode cX10_holds 10 = .ok (.aload_n 0, 1) := dX10_holds_8_b.2.2.1
theorem dX10_holds_11 : decode cX10_holds 11 = .ok (.getfield 71, 3) := dX10_holds_8_b.2.2.2.1
theorem dX10_holds_14 : decode cX10_holds 14 = .ok (.iload_n 1, 1) := dX10_holds_8_b.2.2.2.2.1
theorem dX10_holds_15 : decode cX10_holds 15 = .ok (.iaload, 1) := dX10_holds_8_b.2.2.2.2.2
set_option maxRecDepth 20000 in
theorem dX10_holds_16_b : (decode cX10_holds 16 = .ok (.if_icmp .ge 119, 3)) ∧ (decode cX10_holds 19 = .ok (.aload_n 0, 1)) ∧ (decode cX10_holds 20 = .ok (.getfield 74, 3)) ∧ (decode cX10_holds 23 = .ok (.iload_n 3, 1)) ∧ (decode cX10_holds 24 = .ok (.iaload, 1)) ∧ (decode cX10_holds 25 = .ok (.istore 4, 2)) := by decide +kernel
theorem dX10_holds_16 : decode cX10_holds 16 = .ok (.if_icmp .ge 119, 3) := dX10_holds_16_b.1
theorem dX10_holds_19 : decode cX10_holds 19 = .ok (.aload_n 0, 1) := dX10_holds_16_b.2.1
theorem dX10_holds_20 : decode cX10_holds 20 = .ok (.getfield 74, 3) := dX10_holds_16_b.2.2.1
theorem dX10_holds_23 : decode cX10_holds 23 = .ok (.iload_n 3, 1) := dX10_holds_16_b.2.2.2.1
theorem dX10_holds_24 : decode cX10_holds 24 = .ok (.iaload, 1) := dX10_holds_16_b.2.2.2.2.1
theorem dX10_holds_25 : decode cX10_holds 25 = .ok (.istore 4, 2) := dX10_holds_16_b.2.2.2.2.2
set_option maxRecDepth 20000 in
theorem dX10_holds_27_b : (decode cX10_holds 27 = .ok (.iload 4, 2)) ∧ (decode cX10_holds 29 = .ok (.bipush (-20), 2)) ∧ (decode cX10_holds 31 = .ok (.if_icmp .le 34, 3)) ∧ (decode cX10_holds 34 = .ok (.aload_n 0, 1)) ∧ (decode cX10_holds 35 = .ok (.getfield 111, 3)) ∧ (decode cX10_holds 38 = .ok (.iload_n 2, 1)) := by decide +kernel
theorem dX10_holds_27 : decode cX10_holds 27 = .ok (.iload 4, 2) := dX10_holds_27_b.1
theorem dX10_holds_29 : decode cX10_holds 29 = .ok (.bipush (-20), 2) := dX10_holds_27_b.2.1
theorem dX10_holds_31 : decode cX10_holds 31 = .ok (.if_icmp .le 34, 3) := dX10_holds_27_b.2.2.1
theorem dX10_holds_34 : decode cX10_holds 34 = .ok (.aload_n 0, 1) := dX10_holds_27_b.2.2.2.1
theorem dX10_holds_35 : decode cX10_holds 35 = .ok (.getfield 111, 3) := dX10_holds_27_b.2.2.2.2.1
theorem dX10_holds_38 : decode cX10_holds 38 = .ok (.iload_n 2, 1) := dX10_holds_27_b.2.2.2.2.2
set_option maxRecDepth 20000 in
theorem dX10_holds_39_b : (decode cX10_holds 39 = .ok (.iload 4, 2)) ∧ (decode cX10_holds 41 = .ok (.ifCond .lt 8, 3)) ∧ (decode cX10_holds 44 = .ok (.iload 4, 2)) ∧ (decode cX10_holds 46 = .ok (.goto 12, 3)) ∧ (decode cX10_holds 49 = .ok (.aload_n 0, 1)) ∧ (decode cX10_holds 50 = .ok (.getfield 108, 3)) := by decide +kernel
theorem dX10_holds_39 : decode cX10_holds 39 = .ok (.iload 4, 2) := dX10_holds_39_b.1
theorem dX10_holds_41 : decode cX10_holds 41 = .ok (.ifCond .lt 8, 3) := dX10_holds_39_b.2.1
theorem dX10_holds_44 : decode cX10_holds 44 = .ok (.iload 4, 2) := dX10_holds_39_b.2.2.1
theorem dX10_holds_46 : decode cX10_holds 46 = .ok (.goto 12, 3) := dX10_holds_39_b.2.2.2.1
theorem dX10_holds_49 : decode cX10_holds 49 = .ok (.aload_n 0, 1) := dX10_holds_39_b.2.2.2.2.1
theorem dX10_holds_50 : decode cX10_holds 50 = .ok (.getfield 108, 3) := dX10_holds_39_b.2.2.2.2.2
set_option maxRecDepth 20000 in
theorem dX10_holds_53_b : (decode cX10_holds 53 = .ok (.iconst (-1), 1)) ∧ (decode cX10_holds 54 = .ok (.iload 4, 2)) ∧ (decode cX10_holds 56 = .ok (.isub, 1)) ∧ (decode cX10_holds 57 = .ok (.iaload, 1)) ∧ (decode cX10_holds 58 = .ok (.iastore, 1)) ∧ (decode cX10_holds 59 = .ok (.iinc 2 1, 3)) := by decide +kernel
theorem dX10_holds_53 : decode cX10_holds 53 = .ok (.iconst (-1), 1) := dX10_holds_53_b.1
theorem dX10_holds_54 : decode cX10_holds 54 = .ok (.iload 4, 2) := dX10_holds_53_b.2.1
theorem dX10_holds_56 : decode cX10_holds 56 = .ok (.isub, 1) := dX10_holds_53_b.2.2.1
theorem dX10_holds_57 : decode cX10_holds 57 = .ok (.iaload, 1) := dX10_holds_53_b.2.2.2.1
theorem dX10_holds_58 : decode cX10_holds 58 = .ok (.iastore, 1) := dX10_holds_53_b.2.2.2.2.1
theorem dX10_holds_59 : decode cX10_holds 59 = .ok (.iinc 2 1, 3) := dX10_holds_53_b.2.2.2.2.2
set_option maxRecDepth 20000 in
theorem dX10_holds_62_b : (decode cX10_holds 62 = .ok (.goto 67, 3)) ∧ (decode cX10_holds 65 = .ok (.iload 4, 2)) ∧ (decode cX10_holds 67 = .ok (.bipush (-28), 2)) ∧ (decode cX10_holds 69 = .ok (.if_icmp .ne 30, 3)) ∧ (decode cX10_holds 72 = .ok (.aload_n 0, 1)) ∧ (decode cX10_holds 73 = .ok (.getfield 111, 3)) := by decide +kernel
theorem dX10_holds_62 : decode cX10_holds 62 = .ok (.goto 67, 3) := dX10_holds_62_b.1
theorem dX10_holds_65 : decode cX10_holds 65 = .ok (.iload 4, 2) := dX10_holds_62_b.2.1
theorem dX10_holds_67 : decode cX10_holds 67 = .ok (.bipush (-28), 2) := dX10_holds_62_b.2.2.1
theorem dX10_holds_69 : decode cX10_holds 69 = .ok (.if_icmp .ne 30, 3) := dX10_holds_62_b.2.2.2.1
theorem dX10_holds_72 : decode cX10_holds 72 = .ok (.aload_n 0, 1) := dX10_holds_62_b.2.2.2.2.1
theorem dX10_holds_73 : decode cX10_holds 73 = .ok (.getfield 111, 3) := dX10_holds_62_b.2.2.2.2.2
set_option maxRecDepth 20000 in
theorem dX10_holds_76_b : (decode cX10_holds 76 = .ok (.iload_n 2, 1)) ∧ (decode cX10_holds 77 = .ok (.iconst 1, 1)) ∧ (decode cX10_holds 78 = .ok (.isub, 1)) ∧ (decode cX10_holds 79 = .ok (.aload_n 0, 1)) ∧ (decode cX10_holds 80 = .ok (.getfield 111, 3)) ∧ (decode cX10_holds 83 = .ok (.iload_n 2, 1)) := by decide +kernel
theorem dX10_holds_76 : decode cX10_holds 76 = .ok (.iload_n 2, 1) := dX10_holds_76_b.1
theorem dX10_holds_77 : decode cX10_holds 77 = .ok (.iconst 1, 1) := dX10_holds_76_b.2.1
theorem dX10_holds_78 : decode cX10_holds 78 = .ok (.isub, 1) := dX10_holds_76_b.2.2.1
theorem dX10_holds_79 : decode cX10_holds 79 = .ok (.aload_n 0, 1) := dX10_holds_76_b.2.2.2.1
theorem dX10_holds_80 : decode cX10_holds 80 = .ok (.getfield 111, 3) := dX10_holds_76_b.2.2.2.2.1
theorem dX10_holds_83 : decode cX10_holds 83 = .ok (.iload_n 2, 1) := dX10_holds_76_b.2.2.2.2.2
set_option maxRecDepth 20000 in
theorem dX10_holds_84_b : (decode cX10_holds 84 = .ok (.iconst 1, 1)) ∧ (decode cX10_holds 85 = .ok (.isub, 1)) ∧ (decode cX10_holds 86 = .ok (.iaload, 1)) ∧ (decode cX10_holds 87 = .ok (.ifCond .eq 7, 3)) ∧ (decode cX10_holds 90 = .ok (.iconst 0, 1)) ∧ (decode cX10_holds 91 = .ok (.goto 4, 3)) := by decide +kernel
theorem dX10_holds_84 : decode cX10_holds 84 = .ok (.iconst 1, 1) := dX10_holds_84_b.1
theorem dX10_holds_85 : decode cX10_holds 85 = .ok (.isub, 1) := dX10_holds_84_b.2.1
theorem dX10_holds_86 : decode cX10_holds 86 = .ok (.iaload, 1) := dX10_holds_84_b.2.2.1
theorem dX10_holds_87 : decode cX10_holds 87 = .ok (.ifCond .eq 7, 3) := dX10_holds_84_b.2.2.2.1
theorem dX10_holds_90 : decode cX10_holds 90 = .ok (.iconst 0, 1) := dX10_holds_84_b.2.2.2.2.1
theorem dX10_holds_91 : decode cX10_holds 91 = .ok (.goto 4, 3) := dX10_holds_84_b.2.2.2.2.2
set_option maxRecDepth 20000 in
theorem dX10_holds_94_b : (decode cX10_holds 94 = .ok (.iconst 1, 1)) ∧ (decode cX10_holds 95 = .ok (.iastore, 1)) ∧ (decode cX10_holds 96 = .ok (.goto 33, 3)) ∧ (decode cX10_holds 99 = .ok (.iinc 2 (-1), 3)) ∧ (decode cX10_holds 102 = .ok (.aload_n 0, 1)) ∧ (decode cX10_holds 103 = .ok (.getfield 111, 3)) := by decide +kernel
theorem dX10_holds_94 : decode cX10_holds 94 = .ok (.iconst 1, 1) := dX10_holds_94_b.1
theorem dX10_holds_95 : decode cX10_holds 95 = .ok (.iastore, 1) := dX10_holds_94_b.2.1
theorem dX10_holds_96 : decode cX10_holds 96 = .ok (.goto 33, 3) := dX10_holds_94_b.2.2.1
theorem dX10_holds_99 : decode cX10_holds 99 = .ok (.iinc 2 (-1), 3) := dX10_holds_94_b.2.2.2.1
theorem dX10_holds_102 : decode cX10_holds 102 = .ok (.aload_n 0, 1) := dX10_holds_94_b.2.2.2.2.1
theorem dX10_holds_103 : decode cX10_holds 103 = .ok (.getfield 111, 3) := dX10_holds_94_b.2.2.2.2.2
set_option maxRecDepth 20000 in
theorem dX10_holds_106_b : (decode cX10_holds 106 = .ok (.iload_n 2, 1)) ∧ (decode cX10_holds 107 = .ok (.iconst 1, 1)) ∧ (decode cX10_holds 108 = .ok (.isub, 1)) ∧ (decode cX10_holds 109 = .ok (.iload 4, 2)) ∧ (decode cX10_holds 111 = .ok (.aload_n 0, 1)) ∧ (decode cX10_holds 112 = .ok (.getfield 111, 3)) := by decide +kernel
theorem dX10_holds_106 : decode cX10_holds 106 = .ok (.iload_n 2, 1) := dX10_holds_106_b.1
theorem dX10_holds_107 : decode cX10_holds 107 = .ok (.iconst 1, 1) := dX10_holds_106_b.2.1
theorem dX10_holds_108 : decode cX10_holds 108 = .ok (.isub, 1) := dX10_holds_106_b.2.2.1
theorem dX10_holds_109 : decode cX10_holds 109 = .ok (.iload 4, 2) := dX10_holds_106_b.2.2.2.1
theorem dX10_holds_111 : decode cX10_holds 111 = .ok (.aload_n 0, 1) := dX10_holds_106_b.2.2.2.2.1
theorem dX10_holds_112 : decode cX10_holds 112 = .ok (.getfield 111, 3) := dX10_holds_106_b.2.2.2.2.2
set_option maxRecDepth 20000 in
theorem dX10_holds_115_b : (decode cX10_holds 115 = .ok (.iload_n 2, 1)) ∧ (decode cX10_holds 116 = .ok (.iconst 1, 1)) ∧ (decode cX10_holds 117 = .ok (.isub, 1)) ∧ (decode cX10_holds 118 = .ok (.iaload, 1)) ∧ (decode cX10_holds 119 = .ok (.aload_n 0, 1)) ∧ (decode cX10_holds 120 = .ok (.getfield 111, 3)) := by decide +kernel
theorem dX10_holds_115 : decode cX10_holds 115 = .ok (.iload_n 2, 1) := dX10_holds_115_b.1
theorem dX10_holds_116 : decode cX10_holds 116 = .ok (.iconst 1, 1) := dX10_holds_115_b.2.1
theorem dX10_holds_117 : decode cX10_holds 117 = .ok (.isub, 1) := dX10_holds_115_b.2.2.1
theorem dX10_holds_118 : decode cX10_holds 118 = .ok (.iaload, 1) := dX10_holds_115_b.2.2.2.1
theorem dX10_holds_119 : decode cX10_holds 119 = .ok (.aload_n 0, 1) := dX10_holds_115_b.2.2.2.2.1
theorem dX10_holds_120 : decode cX10_holds 120 = .ok (.getfield 111, 3) := dX10_holds_115_b.2.2.2.2.2
set_option maxRecDepth 20000 in
theorem dX10_holds_123_b : (decode cX10_holds 123 = .ok (.iload_n 2, 1)) ∧ (decode cX10_holds 124 = .ok (.iaload, 1)) ∧ (decode cX10_holds 125 = .ok (.invokestatic 366, 3)) ∧ (decode cX10_holds 128 = .ok (.iastore, 1)) ∧ (decode cX10_holds 129 = .ok (.iinc 3 1, 3)) ∧ (decode cX10_holds 132 = .ok (.goto (-123), 3)) := by decide +kernel
theorem dX10_holds_123 : decode cX10_holds 123 = .ok (.iload_n 2, 1) := dX10_holds_123_b.1
theorem dX10_holds_124 : decode cX10_holds 124 = .ok (.iaload, 1) := dX10_holds_123_b.2.1
theorem dX10_holds_125 : decode cX10_holds 125 = .ok (.invokestatic 366, 3) := dX10_holds_123_b.2.2.1
theorem dX10_holds_128 : decode cX10_holds 128 = .ok (.iastore, 1) := dX10_holds_123_b.2.2.2.1
theorem dX10_holds_129 : decode cX10_holds 129 = .ok (.iinc 3 1, 3) := dX10_holds_123_b.2.2.2.2.1
theorem dX10_holds_132 : decode cX10_holds 132 = .ok (.goto (-123), 3) := dX10_holds_123_b.2.2.2.2.2
set_option maxRecDepth 20000 in
theorem dX10_holds_135_b : (decode cX10_holds 135 = .ok (.aload_n 0, 1)) ∧ (decode cX10_holds 136 = .ok (.getfield 111, 3)) ∧ (decode cX10_holds 139 = .ok (.iconst 0, 1)) ∧ (decode cX10_holds 140 = .ok (.iaload, 1)) ∧ (decode cX10_holds 141 = .ok (.ifCond .eq 7, 3)) ∧ (decode cX10_holds 144 = .ok (.iconst 1, 1)) := by decide +kernel
theorem dX10_holds_135 : decode cX10_holds 135 = .ok (.aload_n 0, 1) := dX10_holds_135_b.1
theorem dX10_holds_136 : decode cX10_holds 136 = .ok (.getfield 111, 3) := dX10_holds_135_b.2.1
theorem dX10_holds_139 : decode cX10_holds 139 = .ok (.iconst 0, 1) := dX10_holds_135_b.2.2.1
theorem dX10_holds_140 : decode cX10_holds 140 = .ok (.iaload, 1) := dX10_holds_135_b.2.2.2.1
theorem dX10_holds_141 : decode cX10_holds 141 = .ok (.ifCond .eq 7, 3) := dX10_holds_135_b.2.2.2.2.1
theorem dX10_holds_144 : decode cX10_holds 144 = .ok (.iconst 1, 1) := dX10_holds_135_b.2.2.2.2.2
set_option maxRecDepth 20000 in
theorem dX10_holds_145_b : (decode cX10_holds 145 = .ok (.goto 4, 3)) ∧ (decode cX10_holds 148 = .ok (.iconst 0, 1)) ∧ (decode cX10_holds 149 = .ok (.ireturn, 1)) := by decide +kernel
theorem dX10_holds_145 : decode cX10_holds 145 = .ok (.goto 4, 3) := dX10_holds_145_b.1
theorem dX10_holds_148 : decode cX10_holds 148 = .ok (.iconst 0, 1) := dX10_holds_145_b.2.1
theorem dX10_holds_149 : decode cX10_holds 149 = .ok (.ireturn, 1) := dX10_holds_145_b.2.2
set_option maxRecDepth 20000 in
theorem dX10_brokenBy_0_b : (decode cX10_brokenBy 0 = .ok (.aload_n 0, 1)) ∧ (decode cX10_brokenBy 1 = .ok (.getfield 108, 3)) ∧ (decode cX10_brokenBy 4 = .ok (.iconst 0, 1)) ∧ (decode cX10_brokenBy 5 = .ok (.aload_n 0, 1)) ∧ (decode cX10_brokenBy 6 = .ok (.aload_n 1, 1)) ∧ (decode cX10_brokenBy 7 = .ok (.iload_n 2, 1)) := by decide +kernel
theorem dX10_brokenBy_0 : decode cX10_brokenBy 0 = .ok (.aload_n 0, 1) := dX10_brokenBy_0_b.1
theorem dX10_brokenBy_1 : decode cX10_brokenBy 1 = .ok (.getfield 108, 3) := dX10_brokenBy_0_b.2.1
theorem dX10_brokenBy_4 : decode cX10_brokenBy 4 = .ok (.iconst 0, 1) := dX10_brokenBy_0_b.2.2.1
theorem dX10_brokenBy_5 : decode cX10_brokenBy 5 = .ok (.aload_n 0, 1) := dX10_brokenBy_0_b.2.2.2.1
theorem dX10_brokenBy_6 : decode cX10_brokenBy 6 = .ok (.aload_n 1, 1) := dX10_brokenBy_0_b.2.2.2.2.1
theorem dX10_brokenBy_7 : decode cX10_brokenBy 7 = .ok (.iload_n 2, 1) := dX10_brokenBy_0_b.2.2.2.2.2
set_option maxRecDepth 20000 in
theorem dX10_brokenBy_8_b : (decode cX10_brokenBy 8 = .ok (.iconst 0, 1)) ∧ (decode cX10_brokenBy 9 = .ok (.invokevirtual 370, 3)) ∧ (decode cX10_brokenBy 12 = .ok (.iastore, 1)) ∧ (decode cX10_brokenBy 13 = .ok (.aload_n 0, 1)) ∧ (decode cX10_brokenBy 14 = .ok (.getfield 108, 3)) ∧ (decode cX10_brokenBy 17 = .ok (.iconst 1, 1)) := by decide +kernel
theorem dX10_brokenBy_8 : decode cX10_brokenBy 8 = .ok (.iconst 0, 1) := dX10_brokenBy_8_b.1
theorem dX10_brokenBy_9 : decode cX10_brokenBy 9 = .ok (.invokevirtual 370, 3) := dX10_brokenBy_8_b.2.1
theorem dX10_brokenBy_12 : decode cX10_brokenBy 12 = .ok (.iastore, 1) := dX10_brokenBy_8_b.2.2.1
theorem dX10_brokenBy_13 : decode cX10_brokenBy 13 = .ok (.aload_n 0, 1) := dX10_brokenBy_8_b.2.2.2.1
theorem dX10_brokenBy_14 : decode cX10_brokenBy 14 = .ok (.getfield 108, 3) := dX10_brokenBy_8_b.2.2.2.2.1
theorem dX10_brokenBy_17 : decode cX10_brokenBy 17 = .ok (.iconst 1, 1) := dX10_brokenBy_8_b.2.2.2.2.2
set_option maxRecDepth 20000 in
theorem dX10_brokenBy_18_b : (decode cX10_brokenBy 18 = .ok (.aload_n 0, 1)) ∧ (decode cX10_brokenBy 19 = .ok (.aload_n 1, 1)) ∧ (decode cX10_brokenBy 20 = .ok (.iload_n 2, 1)) ∧ (decode cX10_brokenBy 21 = .ok (.iconst 1, 1)) ∧ (decode cX10_brokenBy 22 = .ok (.invokevirtual 370, 3)) ∧ (decode cX10_brokenBy 25 = .ok (.iastore, 1)) := by decide +kernel
theorem dX10_brokenBy_18 : decode cX10_brokenBy 18 = .ok (.aload_n 0, 1) := dX10_brokenBy_18_b.1
theorem dX10_brokenBy_19 : decode cX10_brokenBy 19 = .ok (.aload_n 1, 1) := dX10_brokenBy_18_b.2.1
theorem dX10_brokenBy_20 : decode cX10_brokenBy 20 = .ok (.iload_n 2, 1) := dX10_brokenBy_18_b.2.2.1
theorem dX10_brokenBy_21 : decode cX10_brokenBy 21 = .ok (.iconst 1, 1) := dX10_brokenBy_18_b.2.2.2.1
theorem dX10_brokenBy_22 : decode cX10_brokenBy 22 = .ok (.invokevirtual 370, 3) := dX10_brokenBy_18_b.2.2.2.2.1
theorem dX10_brokenBy_25 : decode cX10_brokenBy 25 = .ok (.iastore, 1) := dX10_brokenBy_18_b.2.2.2.2.2
set_option maxRecDepth 20000 in
theorem dX10_brokenBy_26_b : (decode cX10_brokenBy 26 = .ok (.aload_n 0, 1)) ∧ (decode cX10_brokenBy 27 = .ok (.getfield 108, 3)) ∧ (decode cX10_brokenBy 30 = .ok (.iconst 2, 1)) ∧ (decode cX10_brokenBy 31 = .ok (.aload_n 0, 1)) ∧ (decode cX10_brokenBy 32 = .ok (.aload_n 1, 1)) ∧ (decode cX10_brokenBy 33 = .ok (.iload_n 2, 1)) := by decide +kernel
theorem dX10_brokenBy_26 : decode cX10_brokenBy 26 = .ok (.aload_n 0, 1) := dX10_brokenBy_26_b.1
theorem dX10_brokenBy_27 : decode cX10_brokenBy 27 = .ok (.getfield 108, 3) := dX10_brokenBy_26_b.2.1
theorem dX10_brokenBy_30 : decode cX10_brokenBy 30 = .ok (.iconst 2, 1) := dX10_brokenBy_26_b.2.2.1
theorem dX10_brokenBy_31 : decode cX10_brokenBy 31 = .ok (.aload_n 0, 1) := dX10_brokenBy_26_b.2.2.2.1
theorem dX10_brokenBy_32 : decode cX10_brokenBy 32 = .ok (.aload_n 1, 1) := dX10_brokenBy_26_b.2.2.2.2.1
theorem dX10_brokenBy_33 : decode cX10_brokenBy 33 = .ok (.iload_n 2, 1) := dX10_brokenBy_26_b.2.2.2.2.2
set_option maxRecDepth 20000 in
theorem dX10_brokenBy_34_b : (decode cX10_brokenBy 34 = .ok (.iconst 2, 1)) ∧ (decode cX10_brokenBy 35 = .ok (.invokevirtual 370, 3)) ∧ (decode cX10_brokenBy 38 = .ok (.iastore, 1)) ∧ (decode cX10_brokenBy 39 = .ok (.aload_n 0, 1)) ∧ (decode cX10_brokenBy 40 = .ok (.getfield 108, 3)) ∧ (decode cX10_brokenBy 43 = .ok (.iconst 3, 1)) := by decide +kernel
theorem dX10_brokenBy_34 : decode cX10_brokenBy 34 = .ok (.iconst 2, 1) := dX10_brokenBy_34_b.1
theorem dX10_brokenBy_35 : decode cX10_brokenBy 35 = .ok (.invokevirtual 370, 3) := dX10_brokenBy_34_b.2.1
theorem dX10_brokenBy_38 : decode cX10_brokenBy 38 = .ok (.iastore, 1) := dX10_brokenBy_34_b.2.2.1
theorem dX10_brokenBy_39 : decode cX10_brokenBy 39 = .ok (.aload_n 0, 1) := dX10_brokenBy_34_b.2.2.2.1
theorem dX10_brokenBy_40 : decode cX10_brokenBy 40 = .ok (.getfield 108, 3) := dX10_brokenBy_34_b.2.2.2.2.1
theorem dX10_brokenBy_43 : decode cX10_brokenBy 43 = .ok (.iconst 3, 1) := dX10_brokenBy_34_b.2.2.2.2.2
set_option maxRecDepth 20000 in
theorem dX10_brokenBy_44_b : (decode cX10_brokenBy 44 = .ok (.aload_n 0, 1)) ∧ (decode cX10_brokenBy 45 = .ok (.aload_n 1, 1)) ∧ (decode cX10_brokenBy 46 = .ok (.iload_n 2, 1)) ∧ (decode cX10_brokenBy 47 = .ok (.iconst 3, 1)) ∧ (decode cX10_brokenBy 48 = .ok (.invokevirtual 370, 3)) ∧ (decode cX10_brokenBy 51 = .ok (.iastore, 1)) := by decide +kernel
theorem dX10_brokenBy_44 : decode cX10_brokenBy 44 = .ok (.aload_n 0, 1) := dX10_brokenBy_44_b.1
theorem dX10_brokenBy_45 : decode cX10_brokenBy 45 = .ok (.aload_n 1, 1) := dX10_brokenBy_44_b.2.1
theorem dX10_brokenBy_46 : decode cX10_brokenBy 46 = .ok (.iload_n 2, 1) := dX10_brokenBy_44_b.2.2.1
theorem dX10_brokenBy_47 : decode cX10_brokenBy 47 = .ok (.iconst 3, 1) := dX10_brokenBy_44_b.2.2.2.1
theorem dX10_brokenBy_48 : decode cX10_brokenBy 48 = .ok (.invokevirtual 370, 3) := dX10_brokenBy_44_b.2.2.2.2.1
theorem dX10_brokenBy_51 : decode cX10_brokenBy 51 = .ok (.iastore, 1) := dX10_brokenBy_44_b.2.2.2.2.2
set_option maxRecDepth 20000 in
theorem dX10_brokenBy_52_b : (decode cX10_brokenBy 52 = .ok (.aload_n 0, 1)) ∧ (decode cX10_brokenBy 53 = .ok (.getfield 108, 3)) ∧ (decode cX10_brokenBy 56 = .ok (.iconst 4, 1)) ∧ (decode cX10_brokenBy 57 = .ok (.aload_n 0, 1)) ∧ (decode cX10_brokenBy 58 = .ok (.aload_n 1, 1)) ∧ (decode cX10_brokenBy 59 = .ok (.iload_n 2, 1)) := by decide +kernel
theorem dX10_brokenBy_52 : decode cX10_brokenBy 52 = .ok (.aload_n 0, 1) := dX10_brokenBy_52_b.1
theorem dX10_brokenBy_53 : decode cX10_brokenBy 53 = .ok (.getfield 108, 3) := dX10_brokenBy_52_b.2.1
theorem dX10_brokenBy_56 : decode cX10_brokenBy 56 = .ok (.iconst 4, 1) := dX10_brokenBy_52_b.2.2.1
theorem dX10_brokenBy_57 : decode cX10_brokenBy 57 = .ok (.aload_n 0, 1) := dX10_brokenBy_52_b.2.2.2.1
theorem dX10_brokenBy_58 : decode cX10_brokenBy 58 = .ok (.aload_n 1, 1) := dX10_brokenBy_52_b.2.2.2.2.1
theorem dX10_brokenBy_59 : decode cX10_brokenBy 59 = .ok (.iload_n 2, 1) := dX10_brokenBy_52_b.2.2.2.2.2
set_option maxRecDepth 20000 in
theorem dX10_brokenBy_60_b : (decode cX10_brokenBy 60 = .ok (.invokevirtual 362, 3)) ∧ (decode cX10_brokenBy 63 = .ok (.iastore, 1)) ∧ (decode cX10_brokenBy 64 = .ok (.aload_n 0, 1)) ∧ (decode cX10_brokenBy 65 = .ok (.getfield 108, 3)) ∧ (decode cX10_brokenBy 68 = .ok (.iconst 5, 1)) ∧ (decode cX10_brokenBy 69 = .ok (.aload_n 0, 1)) := by decide +kernel
theorem dX10_brokenBy_60 : decode cX10_brokenBy 60 = .ok (.invokevirtual 362, 3) := dX10_brokenBy_60_b.1
theorem dX10_brokenBy_63 : decode cX10_brokenBy 63 = .ok (.iastore, 1) := dX10_brokenBy_60_b.2.1
theorem dX10_brokenBy_64 : decode cX10_brokenBy 64 = .ok (.aload_n 0, 1) := dX10_brokenBy_60_b.2.2.1
theorem dX10_brokenBy_65 : decode cX10_brokenBy 65 = .ok (.getfield 108, 3) := dX10_brokenBy_60_b.2.2.2.1
theorem dX10_brokenBy_68 : decode cX10_brokenBy 68 = .ok (.iconst 5, 1) := dX10_brokenBy_60_b.2.2.2.2.1
theorem dX10_brokenBy_69 : decode cX10_brokenBy 69 = .ok (.aload_n 0, 1) := dX10_brokenBy_60_b.2.2.2.2.2
set_option maxRecDepth 20000 in
theorem dX10_brokenBy_70_b : (decode cX10_brokenBy 70 = .ok (.iload_n 2, 1)) ∧ (decode cX10_brokenBy 71 = .ok (.iload_n 3, 1)) ∧ (decode cX10_brokenBy 72 = .ok (.invokevirtual 352, 3)) ∧ (decode cX10_brokenBy 75 = .ok (.iastore, 1)) ∧ (decode cX10_brokenBy 76 = .ok (.aload_n 0, 1)) ∧ (decode cX10_brokenBy 77 = .ok (.getfield 108, 3)) := by decide +kernel
theorem dX10_brokenBy_70 : decode cX10_brokenBy 70 = .ok (.iload_n 2, 1) := dX10_brokenBy_70_b.1
theorem dX10_brokenBy_71 : decode cX10_brokenBy 71 = .ok (.iload_n 3, 1) := dX10_brokenBy_70_b.2.1
theorem dX10_brokenBy_72 : decode cX10_brokenBy 72 = .ok (.invokevirtual 352, 3) := dX10_brokenBy_70_b.2.2.1
theorem dX10_brokenBy_75 : decode cX10_brokenBy 75 = .ok (.iastore, 1) := dX10_brokenBy_70_b.2.2.2.1
theorem dX10_brokenBy_76 : decode cX10_brokenBy 76 = .ok (.aload_n 0, 1) := dX10_brokenBy_70_b.2.2.2.2.1
theorem dX10_brokenBy_77 : decode cX10_brokenBy 77 = .ok (.getfield 108, 3) := dX10_brokenBy_70_b.2.2.2.2.2
set_option maxRecDepth 20000 in
theorem dX10_brokenBy_80_b : (decode cX10_brokenBy 80 = .ok (.bipush 6, 2)) ∧ (decode cX10_brokenBy 82 = .ok (.aload_n 0, 1)) ∧ (decode cX10_brokenBy 83 = .ok (.aload_n 1, 1)) ∧ (decode cX10_brokenBy 84 = .ok (.iconst 1, 1)) ∧ (decode cX10_brokenBy 85 = .ok (.iload_n 2, 1)) ∧ (decode cX10_brokenBy 86 = .ok (.isub, 1)) := by decide +kernel
theorem dX10_brokenBy_80 : decode cX10_brokenBy 80 = .ok (.bipush 6, 2) := dX10_brokenBy_80_b.1
theorem dX10_brokenBy_82 : decode cX10_brokenBy 82 = .ok (.aload_n 0, 1) := dX10_brokenBy_80_b.2.1
theorem dX10_brokenBy_83 : decode cX10_brokenBy 83 = .ok (.aload_n 1, 1) := dX10_brokenBy_80_b.2.2.1
theorem dX10_brokenBy_84 : decode cX10_brokenBy 84 = .ok (.iconst 1, 1) := dX10_brokenBy_80_b.2.2.2.1
theorem dX10_brokenBy_85 : decode cX10_brokenBy 85 = .ok (.iload_n 2, 1) := dX10_brokenBy_80_b.2.2.2.2.1
theorem dX10_brokenBy_86 : decode cX10_brokenBy 86 = .ok (.isub, 1) := dX10_brokenBy_80_b.2.2.2.2.2
set_option maxRecDepth 20000 in
theorem dX10_brokenBy_87_b : (decode cX10_brokenBy 87 = .ok (.invokevirtual 362, 3)) ∧ (decode cX10_brokenBy 90 = .ok (.iastore, 1)) ∧ (decode cX10_brokenBy 91 = .ok (.iconst 0, 1)) ∧ (decode cX10_brokenBy 92 = .ok (.istore 4, 2)) ∧ (decode cX10_brokenBy 94 = .ok (.iload 4, 2)) ∧ (decode cX10_brokenBy 96 = .ok (.aload_n 0, 1)) := by decide +kernel
theorem dX10_brokenBy_87 : decode cX10_brokenBy 87 = .ok (.invokevirtual 362, 3) := dX10_brokenBy_87_b.1
theorem dX10_brokenBy_90 : decode cX10_brokenBy 90 = .ok (.iastore, 1) := dX10_brokenBy_87_b.2.1
theorem dX10_brokenBy_91 : decode cX10_brokenBy 91 = .ok (.iconst 0, 1) := dX10_brokenBy_87_b.2.2.1
theorem dX10_brokenBy_92 : decode cX10_brokenBy 92 = .ok (.istore 4, 2) := dX10_brokenBy_87_b.2.2.2.1
theorem dX10_brokenBy_94 : decode cX10_brokenBy 94 = .ok (.iload 4, 2) := dX10_brokenBy_87_b.2.2.2.2.1
theorem dX10_brokenBy_96 : decode cX10_brokenBy 96 = .ok (.aload_n 0, 1) := dX10_brokenBy_87_b.2.2.2.2.2
set_option maxRecDepth 20000 in
theorem dX10_brokenBy_97_b : (decode cX10_brokenBy 97 = .ok (.getfield 324, 3)) ∧ (decode cX10_brokenBy 100 = .ok (.if_icmp .ge 21, 3)) ∧ (decode cX10_brokenBy 103 = .ok (.aload_n 0, 1)) ∧ (decode cX10_brokenBy 104 = .ok (.iload 4, 2)) ∧ (decode cX10_brokenBy 106 = .ok (.invokevirtual 374, 3)) ∧ (decode cX10_brokenBy 109 = .ok (.ifCond .ne 6, 3)) := by decide +kernel
theorem dX10_brokenBy_97 : decode cX10_brokenBy 97 = .ok (.getfield 324, 3) := dX10_brokenBy_97_b.1
theorem dX10_brokenBy_100 : decode cX10_brokenBy 100 = .ok (.if_icmp .ge 21, 3) := dX10_brokenBy_97_b.2.1
theorem dX10_brokenBy_103 : decode cX10_brokenBy 103 = .ok (.aload_n 0, 1) := dX10_brokenBy_97_b.2.2.1
theorem dX10_brokenBy_104 : decode cX10_brokenBy 104 = .ok (.iload 4, 2) := dX10_brokenBy_97_b.2.2.2.1
theorem dX10_brokenBy_106 : decode cX10_brokenBy 106 = .ok (.invokevirtual 374, 3) := dX10_brokenBy_97_b.2.2.2.2.1
theorem dX10_brokenBy_109 : decode cX10_brokenBy 109 = .ok (.ifCond .ne 6, 3) := dX10_brokenBy_97_b.2.2.2.2.2
set_option maxRecDepth 20000 in
theorem dX10_brokenBy_112_b : (decode cX10_brokenBy 112 = .ok (.iload 4, 2)) ∧ (decode cX10_brokenBy 114 = .ok (.ireturn, 1)) ∧ (decode cX10_brokenBy 115 = .ok (.iinc 4 1, 3)) ∧ (decode cX10_brokenBy 118 = .ok (.goto (-24), 3)) ∧ (decode cX10_brokenBy 121 = .ok (.iconst (-1), 1)) ∧ (decode cX10_brokenBy 122 = .ok (.ireturn, 1)) := by decide +kernel
theorem dX10_brokenBy_112 : decode cX10_brokenBy 112 = .ok (.iload 4, 2) := dX10_brokenBy_112_b.1
theorem dX10_brokenBy_114 : decode cX10_brokenBy 114 = .ok (.ireturn, 1) := dX10_brokenBy_112_b.2.1
theorem dX10_brokenBy_115 : decode cX10_brokenBy 115 = .ok (.iinc 4 1, 3) := dX10_brokenBy_112_b.2.2.1
theorem dX10_brokenBy_118 : decode cX10_brokenBy 118 = .ok (.goto (-24), 3) := dX10_brokenBy_112_b.2.2.2.1
theorem dX10_brokenBy_121 : decode cX10_brokenBy 121 = .ok (.iconst (-1), 1) := dX10_brokenBy_112_b.2.2.2.2.1
theorem dX10_brokenBy_122 : decode cX10_brokenBy 122 = .ok (.ireturn, 1) := dX10_brokenBy_112_b.2.2.2.2.2
set_option maxRecDepth 20000 in
theorem dX10_bucket_0_b : (decode cX10_bucket 0 = .ok (.aload_n 0, 1)) ∧ (decode cX10_bucket 1 = .ok (.iconst 0, 1)) ∧ (decode cX10_bucket 2 = .ok (.putfield 171, 3)) ∧ (decode cX10_bucket 5 = .ok (.iload_n 1, 1)) ∧ (decode cX10_bucket 6 = .ok (.iconst 0, 1)) ∧ (decode cX10_bucket 7 = .ok (.iconst 1, 1)) := by decide +kernel
theorem dX10_bucket_0 : decode cX10_bucket 0 = .ok (.aload_n 0, 1) := dX10_bucket_0_b.1
theorem dX10_bucket_1 : decode cX10_bucket 1 = .ok (.iconst 0, 1) := dX10_bucket_0_b.2.1
theorem dX10_bucket_2 : decode cX10_bucket 2 = .ok (.putfield 171, 3) := dX10_bucket_0_b.2.2.1
theorem dX10_bucket_5 : decode cX10_bucket 5 = .ok (.iload_n 1, 1) := dX10_bucket_0_b.2.2.2.1
theorem dX10_bucket_6 : decode cX10_bucket 6 = .ok (.iconst 0, 1) := dX10_bucket_0_b.2.2.2.2.1
theorem dX10_bucket_7 : decode cX10_bucket 7 = .ok (.iconst 1, 1) := dX10_bucket_0_b.2.2.2.2.2
set_option maxRecDepth 20000 in
theorem dX10_bucket_8_b : (decode cX10_bucket 8 = .ok (.invokestatic 177, 3)) ∧ (decode cX10_bucket 11 = .ok (.ifCond .ne 9, 3)) ∧ (decode cX10_bucket 14 = .ok (.aload_n 0, 1)) ∧ (decode cX10_bucket 15 = .ok (.iconst 1, 1)) ∧ (decode cX10_bucket 16 = .ok (.invokevirtual 315, 3)) ∧ (decode cX10_bucket 19 = .ok (.ireturn, 1)) := by decide +kernel
theorem dX10_bucket_8 : decode cX10_bucket 8 = .ok (.invokestatic 177, 3) := dX10_bucket_8_b.1
theorem dX10_bucket_11 : decode cX10_bucket 11 = .ok (.ifCond .ne 9, 3) := dX10_bucket_8_b.2.1
theorem dX10_bucket_14 : decode cX10_bucket 14 = .ok (.aload_n 0, 1) := dX10_bucket_8_b.2.2.1
theorem dX10_bucket_15 : decode cX10_bucket 15 = .ok (.iconst 1, 1) := dX10_bucket_8_b.2.2.2.1
theorem dX10_bucket_16 : decode cX10_bucket 16 = .ok (.invokevirtual 315, 3) := dX10_bucket_8_b.2.2.2.2.1
theorem dX10_bucket_19 : decode cX10_bucket 19 = .ok (.ireturn, 1) := dX10_bucket_8_b.2.2.2.2.2
set_option maxRecDepth 20000 in
theorem dX10_bucket_20_b : (decode cX10_bucket 20 = .ok (.iconst 0, 1)) ∧ (decode cX10_bucket 21 = .ok (.istore_n 3, 1)) ∧ (decode cX10_bucket 22 = .ok (.iconst 0, 1)) ∧ (decode cX10_bucket 23 = .ok (.istore 4, 2)) ∧ (decode cX10_bucket 25 = .ok (.iload 4, 2)) ∧ (decode cX10_bucket 27 = .ok (.aload_n 0, 1)) := by decide +kernel
theorem dX10_bucket_20 : decode cX10_bucket 20 = .ok (.iconst 0, 1) := dX10_bucket_20_b.1
theorem dX10_bucket_21 : decode cX10_bucket 21 = .ok (.istore_n 3, 1) := dX10_bucket_20_b.2.1
theorem dX10_bucket_22 : decode cX10_bucket 22 = .ok (.iconst 0, 1) := dX10_bucket_20_b.2.2.1
theorem dX10_bucket_23 : decode cX10_bucket 23 = .ok (.istore 4, 2) := dX10_bucket_20_b.2.2.2.1
theorem dX10_bucket_25 : decode cX10_bucket 25 = .ok (.iload 4, 2) := dX10_bucket_20_b.2.2.2.2.1
theorem dX10_bucket_27 : decode cX10_bucket 27 = .ok (.aload_n 0, 1) := dX10_bucket_20_b.2.2.2.2.2
set_option maxRecDepth 20000 in
theorem dX10_bucket_28_b : (decode cX10_bucket 28 = .ok (.getfield 174, 3)) ∧ (decode cX10_bucket 31 = .ok (.if_icmp .ge 34, 3)) ∧ (decode cX10_bucket 34 = .ok (.iload_n 3, 1)) ∧ (decode cX10_bucket 35 = .ok (.aload_n 0, 1)) ∧ (decode cX10_bucket 36 = .ok (.getfield 87, 3)) ∧ (decode cX10_bucket 39 = .ok (.iload 4, 2)) := by decide +kernel
theorem dX10_bucket_28 : decode cX10_bucket 28 = .ok (.getfield 174, 3) := dX10_bucket_28_b.1
theorem dX10_bucket_31 : decode cX10_bucket 31 = .ok (.if_icmp .ge 34, 3) := dX10_bucket_28_b.2.1
theorem dX10_bucket_34 : decode cX10_bucket 34 = .ok (.iload_n 3, 1) := dX10_bucket_28_b.2.2.1
theorem dX10_bucket_35 : decode cX10_bucket 35 = .ok (.aload_n 0, 1) := dX10_bucket_28_b.2.2.2.1
theorem dX10_bucket_36 : decode cX10_bucket 36 = .ok (.getfield 87, 3) := dX10_bucket_28_b.2.2.2.2.1
theorem dX10_bucket_39 : decode cX10_bucket 39 = .ok (.iload 4, 2) := dX10_bucket_28_b.2.2.2.2.2
set_option maxRecDepth 20000 in
theorem dX10_bucket_41_b : (decode cX10_bucket 41 = .ok (.iaload, 1)) ∧ (decode cX10_bucket 42 = .ok (.iload_n 1, 1)) ∧ (decode cX10_bucket 43 = .ok (.invokestatic 359, 3)) ∧ (decode cX10_bucket 46 = .ok (.ifCond .eq 10, 3)) ∧ (decode cX10_bucket 49 = .ok (.iconst 1, 1)) ∧ (decode cX10_bucket 50 = .ok (.iload 4, 2)) := by decide +kernel
theorem dX10_bucket_41 : decode cX10_bucket 41 = .ok (.iaload, 1) := dX10_bucket_41_b.1
theorem dX10_bucket_42 : decode cX10_bucket 42 = .ok (.iload_n 1, 1) := dX10_bucket_41_b.2.1
theorem dX10_bucket_43 : decode cX10_bucket 43 = .ok (.invokestatic 359, 3) := dX10_bucket_41_b.2.2.1
theorem dX10_bucket_46 : decode cX10_bucket 46 = .ok (.ifCond .eq 10, 3) := dX10_bucket_41_b.2.2.2.1
theorem dX10_bucket_49 : decode cX10_bucket 49 = .ok (.iconst 1, 1) := dX10_bucket_41_b.2.2.2.2.1
theorem dX10_bucket_50 : decode cX10_bucket 50 = .ok (.iload 4, 2) := dX10_bucket_41_b.2.2.2.2.2
set_option maxRecDepth 20000 in
theorem dX10_bucket_52_b : (decode cX10_bucket 52 = .ok (.ishl, 1)) ∧ (decode cX10_bucket 53 = .ok (.goto 4, 3)) ∧ (decode cX10_bucket 56 = .ok (.iconst 0, 1)) ∧ (decode cX10_bucket 57 = .ok (.ior, 1)) ∧ (decode cX10_bucket 58 = .ok (.istore_n 3, 1)) ∧ (decode cX10_bucket 59 = .ok (.iinc 4 1, 3)) := by decide +kernel
theorem dX10_bucket_52 : decode cX10_bucket 52 = .ok (.ishl, 1) := dX10_bucket_52_b.1
theorem dX10_bucket_53 : decode cX10_bucket 53 = .ok (.goto 4, 3) := dX10_bucket_52_b.2.1
theorem dX10_bucket_56 : decode cX10_bucket 56 = .ok (.iconst 0, 1) := dX10_bucket_52_b.2.2.1
theorem dX10_bucket_57 : decode cX10_bucket 57 = .ok (.ior, 1) := dX10_bucket_52_b.2.2.2.1
theorem dX10_bucket_58 : decode cX10_bucket 58 = .ok (.istore_n 3, 1) := dX10_bucket_52_b.2.2.2.2.1
theorem dX10_bucket_59 : decode cX10_bucket 59 = .ok (.iinc 4 1, 3) := dX10_bucket_52_b.2.2.2.2.2
set_option maxRecDepth 20000 in
theorem dX10_bucket_62_b : (decode cX10_bucket 62 = .ok (.goto (-37), 3)) ∧ (decode cX10_bucket 65 = .ok (.iload_n 2, 1)) ∧ (decode cX10_bucket 66 = .ok (.tableswitch 84 0 4 #[34, 44, 58, 68, 70], 34)) ∧ (decode cX10_bucket 100 = .ok (.aload_n 0, 1)) ∧ (decode cX10_bucket 101 = .ok (.aload_n 0, 1)) ∧ (decode cX10_bucket 102 = .ok (.getfield 87, 3)) := by decide +kernel
theorem dX10_bucket_62 : decode cX10_bucket 62 = .ok (.goto (-37), 3) := dX10_bucket_62_b.1
theorem dX10_bucket_65 : decode cX10_bucket 65 = .ok (.iload_n 2, 1) := dX10_bucket_62_b.2.1
theorem dX10_bucket_66 : decode cX10_bucket 66 = .ok (.tableswitch 84 0 4 #[34, 44, 58, 68, 70], 34) := dX10_bucket_62_b.2.2.1
theorem dX10_bucket_100 : decode cX10_bucket 100 = .ok (.aload_n 0, 1) := dX10_bucket_62_b.2.2.2.1
theorem dX10_bucket_101 : decode cX10_bucket 101 = .ok (.aload_n 0, 1) := dX10_bucket_62_b.2.2.2.2.1
theorem dX10_bucket_102 : decode cX10_bucket 102 = .ok (.getfield 87, 3) := dX10_bucket_62_b.2.2.2.2.2
set_option maxRecDepth 20000 in
theorem dX10_bucket_105_b : (decode cX10_bucket 105 = .ok (.iload_n 1, 1)) ∧ (decode cX10_bucket 106 = .ok (.invokevirtual 362, 3)) ∧ (decode cX10_bucket 109 = .ok (.ireturn, 1)) ∧ (decode cX10_bucket 110 = .ok (.aload_n 0, 1)) ∧ (decode cX10_bucket 111 = .ok (.aload_n 0, 1)) ∧ (decode cX10_bucket 112 = .ok (.getfield 87, 3)) := by decide +kernel
theorem dX10_bucket_105 : decode cX10_bucket 105 = .ok (.iload_n 1, 1) := dX10_bucket_105_b.1
theorem dX10_bucket_106 : decode cX10_bucket 106 = .ok (.invokevirtual 362, 3) := dX10_bucket_105_b.2.1
theorem dX10_bucket_109 : decode cX10_bucket 109 = .ok (.ireturn, 1) := dX10_bucket_105_b.2.2.1
theorem dX10_bucket_110 : decode cX10_bucket 110 = .ok (.aload_n 0, 1) := dX10_bucket_105_b.2.2.2.1
theorem dX10_bucket_111 : decode cX10_bucket 111 = .ok (.aload_n 0, 1) := dX10_bucket_105_b.2.2.2.2.1
theorem dX10_bucket_112 : decode cX10_bucket 112 = .ok (.getfield 87, 3) := dX10_bucket_105_b.2.2.2.2.2
set_option maxRecDepth 20000 in
theorem dX10_bucket_115_b : (decode cX10_bucket 115 = .ok (.iload_n 1, 1)) ∧ (decode cX10_bucket 116 = .ok (.aload_n 0, 1)) ∧ (decode cX10_bucket 117 = .ok (.getfield 327, 3)) ∧ (decode cX10_bucket 120 = .ok (.invokevirtual 377, 3)) ∧ (decode cX10_bucket 123 = .ok (.ireturn, 1)) ∧ (decode cX10_bucket 124 = .ok (.aload_n 0, 1)) := by decide +kernel
theorem dX10_bucket_115 : decode cX10_bucket 115 = .ok (.iload_n 1, 1) := dX10_bucket_115_b.1
theorem dX10_bucket_116 : decode cX10_bucket 116 = .ok (.aload_n 0, 1) := dX10_bucket_115_b.2.1
theorem dX10_bucket_117 : decode cX10_bucket 117 = .ok (.getfield 327, 3) := dX10_bucket_115_b.2.2.1
theorem dX10_bucket_120 : decode cX10_bucket 120 = .ok (.invokevirtual 377, 3) := dX10_bucket_115_b.2.2.2.1
theorem dX10_bucket_123 : decode cX10_bucket 123 = .ok (.ireturn, 1) := dX10_bucket_115_b.2.2.2.2.1
theorem dX10_bucket_124 : decode cX10_bucket 124 = .ok (.aload_n 0, 1) := dX10_bucket_115_b.2.2.2.2.2
set_option maxRecDepth 20000 in
theorem dX10_bucket_125_b : (decode cX10_bucket 125 = .ok (.iload_n 1, 1)) ∧ (decode cX10_bucket 126 = .ok (.aload_n 0, 1)) ∧ (decode cX10_bucket 127 = .ok (.getfield 327, 3)) ∧ (decode cX10_bucket 130 = .ok (.invokevirtual 352, 3)) ∧ (decode cX10_bucket 133 = .ok (.ireturn, 1)) ∧ (decode cX10_bucket 134 = .ok (.iload_n 3, 1)) := by decide +kernel
theorem dX10_bucket_125 : decode cX10_bucket 125 = .ok (.iload_n 1, 1) := dX10_bucket_125_b.1
theorem dX10_bucket_126 : decode cX10_bucket 126 = .ok (.aload_n 0, 1) := dX10_bucket_125_b.2.1
theorem dX10_bucket_127 : decode cX10_bucket 127 = .ok (.getfield 327, 3) := dX10_bucket_125_b.2.2.1
theorem dX10_bucket_130 : decode cX10_bucket 130 = .ok (.invokevirtual 352, 3) := dX10_bucket_125_b.2.2.2.1
theorem dX10_bucket_133 : decode cX10_bucket 133 = .ok (.ireturn, 1) := dX10_bucket_125_b.2.2.2.2.1
theorem dX10_bucket_134 : decode cX10_bucket 134 = .ok (.iload_n 3, 1) := dX10_bucket_125_b.2.2.2.2.2
set_option maxRecDepth 20000 in
theorem dX10_bucket_135_b : (decode cX10_bucket 135 = .ok (.ireturn, 1)) ∧ (decode cX10_bucket 136 = .ok (.aload_n 0, 1)) ∧ (decode cX10_bucket 137 = .ok (.aload_n 0, 1)) ∧ (decode cX10_bucket 138 = .ok (.getfield 87, 3)) ∧ (decode cX10_bucket 141 = .ok (.iload_n 1, 1)) ∧ (decode cX10_bucket 142 = .ok (.aload_n 0, 1)) := by decide +kernel
theorem dX10_bucket_135 : decode cX10_bucket 135 = .ok (.ireturn, 1) := dX10_bucket_135_b.1
theorem dX10_bucket_136 : decode cX10_bucket 136 = .ok (.aload_n 0, 1) := dX10_bucket_135_b.2.1
theorem dX10_bucket_137 : decode cX10_bucket 137 = .ok (.aload_n 0, 1) := dX10_bucket_135_b.2.2.1
theorem dX10_bucket_138 : decode cX10_bucket 138 = .ok (.getfield 87, 3) := dX10_bucket_135_b.2.2.2.1
theorem dX10_bucket_141 : decode cX10_bucket 141 = .ok (.iload_n 1, 1) := dX10_bucket_135_b.2.2.2.2.1
theorem dX10_bucket_142 : decode cX10_bucket 142 = .ok (.aload_n 0, 1) := dX10_bucket_135_b.2.2.2.2.2
set_option maxRecDepth 20000 in
theorem dX10_bucket_143_b : (decode cX10_bucket 143 = .ok (.getfield 327, 3)) ∧ (decode cX10_bucket 146 = .ok (.invokevirtual 380, 3)) ∧ (decode cX10_bucket 149 = .ok (.ireturn, 1)) ∧ (decode cX10_bucket 150 = .ok (.aload_n 0, 1)) ∧ (decode cX10_bucket 151 = .ok (.iconst 1, 1)) ∧ (decode cX10_bucket 152 = .ok (.invokevirtual 315, 3)) := by decide +kernel
theorem dX10_bucket_143 : decode cX10_bucket 143 = .ok (.getfield 327, 3) := dX10_bucket_143_b.1
theorem dX10_bucket_146 : decode cX10_bucket 146 = .ok (.invokevirtual 380, 3) := dX10_bucket_143_b.2.1
theorem dX10_bucket_149 : decode cX10_bucket 149 = .ok (.ireturn, 1) := dX10_bucket_143_b.2.2.1
theorem dX10_bucket_150 : decode cX10_bucket 150 = .ok (.aload_n 0, 1) := dX10_bucket_143_b.2.2.2.1
theorem dX10_bucket_151 : decode cX10_bucket 151 = .ok (.iconst 1, 1) := dX10_bucket_143_b.2.2.2.2.1
theorem dX10_bucket_152 : decode cX10_bucket 152 = .ok (.invokevirtual 315, 3) := dX10_bucket_143_b.2.2.2.2.2
theorem dX10_bucket_155 : decode cX10_bucket 155 = .ok (.ireturn, 1) := by decide +kernel
set_option maxRecDepth 20000 in
theorem dX10_tellRide_0_b : (decode cX10_tellRide 0 = .ok (.aload_n 0, 1)) ∧ (decode cX10_tellRide 1 = .ok (.ldc_w 383, 3)) ∧ (decode cX10_tellRide 4 = .ok (.putfield 384, 3)) ∧ (decode cX10_tellRide 7 = .ok (.aload_n 0, 1)) ∧ (decode cX10_tellRide 8 = .ok (.ldc_w 387, 3)) ∧ (decode cX10_tellRide 11 = .ok (.putfield 388, 3)) := by decide +kernel
theorem dX10_tellRide_0 : decode cX10_tellRide 0 = .ok (.aload_n 0, 1) := dX10_tellRide_0_b.1
theorem dX10_tellRide_1 : decode cX10_tellRide 1 = .ok (.ldc_w 383, 3) := dX10_tellRide_0_b.2.1
theorem dX10_tellRide_4 : decode cX10_tellRide 4 = .ok (.putfield 384, 3) := dX10_tellRide_0_b.2.2.1
theorem dX10_tellRide_7 : decode cX10_tellRide 7 = .ok (.aload_n 0, 1) := dX10_tellRide_0_b.2.2.2.1
theorem dX10_tellRide_8 : decode cX10_tellRide 8 = .ok (.ldc_w 387, 3) := dX10_tellRide_0_b.2.2.2.2.1
theorem dX10_tellRide_11 : decode cX10_tellRide 11 = .ok (.putfield 388, 3) := dX10_tellRide_0_b.2.2.2.2.2
set_option maxRecDepth 20000 in
theorem dX10_tellRide_14_b : (decode cX10_tellRide 14 = .ok (.aload_n 0, 1)) ∧ (decode cX10_tellRide 15 = .ok (.iconst 0, 1)) ∧ (decode cX10_tellRide 16 = .ok (.putfield 391, 3)) ∧ (decode cX10_tellRide 19 = .ok (.iload_n 3, 1)) ∧ (decode cX10_tellRide 20 = .ok (.iload_n 2, 1)) ∧ (decode cX10_tellRide 21 = .ok (.if_icmp .le 7, 3)) := by decide +kernel
theorem dX10_tellRide_14 : decode cX10_tellRide 14 = .ok (.aload_n 0, 1) := dX10_tellRide_14_b.1
theorem dX10_tellRide_15 : decode cX10_tellRide 15 = .ok (.iconst 0, 1) := dX10_tellRide_14_b.2.1
theorem dX10_tellRide_16 : decode cX10_tellRide 16 = .ok (.putfield 391, 3) := dX10_tellRide_14_b.2.2.1
theorem dX10_tellRide_19 : decode cX10_tellRide 19 = .ok (.iload_n 3, 1) := dX10_tellRide_14_b.2.2.2.1
theorem dX10_tellRide_20 : decode cX10_tellRide 20 = .ok (.iload_n 2, 1) := dX10_tellRide_14_b.2.2.2.2.1
theorem dX10_tellRide_21 : decode cX10_tellRide 21 = .ok (.if_icmp .le 7, 3) := dX10_tellRide_14_b.2.2.2.2.2
set_option maxRecDepth 20000 in
theorem dX10_tellRide_24_b : (decode cX10_tellRide 24 = .ok (.iconst 1, 1)) ∧ (decode cX10_tellRide 25 = .ok (.goto 4, 3)) ∧ (decode cX10_tellRide 28 = .ok (.iconst (-1), 1)) ∧ (decode cX10_tellRide 29 = .ok (.istore 4, 2)) ∧ (decode cX10_tellRide 31 = .ok (.iload_n 3, 1)) ∧ (decode cX10_tellRide 32 = .ok (.iload_n 2, 1)) := by decide +kernel
theorem dX10_tellRide_24 : decode cX10_tellRide 24 = .ok (.iconst 1, 1) := dX10_tellRide_24_b.1
theorem dX10_tellRide_25 : decode cX10_tellRide 25 = .ok (.goto 4, 3) := dX10_tellRide_24_b.2.1
theorem dX10_tellRide_28 : decode cX10_tellRide 28 = .ok (.iconst (-1), 1) := dX10_tellRide_24_b.2.2.1
theorem dX10_tellRide_29 : decode cX10_tellRide 29 = .ok (.istore 4, 2) := dX10_tellRide_24_b.2.2.2.1
theorem dX10_tellRide_31 : decode cX10_tellRide 31 = .ok (.iload_n 3, 1) := dX10_tellRide_24_b.2.2.2.2.1
theorem dX10_tellRide_32 : decode cX10_tellRide 32 = .ok (.iload_n 2, 1) := dX10_tellRide_24_b.2.2.2.2.2
set_option maxRecDepth 20000 in
theorem dX10_tellRide_33_b : (decode cX10_tellRide 33 = .ok (.if_icmp .le 7, 3)) ∧ (decode cX10_tellRide 36 = .ok (.iconst 0, 1)) ∧ (decode cX10_tellRide 37 = .ok (.goto 4, 3)) ∧ (decode cX10_tellRide 40 = .ok (.iconst 1, 1)) ∧ (decode cX10_tellRide 41 = .ok (.istore 5, 2)) ∧ (decode cX10_tellRide 43 = .ok (.iload_n 2, 1)) := by decide +kernel
theorem dX10_tellRide_33 : decode cX10_tellRide 33 = .ok (.if_icmp .le 7, 3) := dX10_tellRide_33_b.1
theorem dX10_tellRide_36 : decode cX10_tellRide 36 = .ok (.iconst 0, 1) := dX10_tellRide_33_b.2.1
theorem dX10_tellRide_37 : decode cX10_tellRide 37 = .ok (.goto 4, 3) := dX10_tellRide_33_b.2.2.1
theorem dX10_tellRide_40 : decode cX10_tellRide 40 = .ok (.iconst 1, 1) := dX10_tellRide_33_b.2.2.2.1
theorem dX10_tellRide_41 : decode cX10_tellRide 41 = .ok (.istore 5, 2) := dX10_tellRide_33_b.2.2.2.2.1
theorem dX10_tellRide_43 : decode cX10_tellRide 43 = .ok (.iload_n 2, 1) := dX10_tellRide_33_b.2.2.2.2.2
set_option maxRecDepth 20000 in
theorem dX10_tellRide_44_b : (decode cX10_tellRide 44 = .ok (.istore 6, 2)) ∧ (decode cX10_tellRide 46 = .ok (.iload 6, 2)) ∧ (decode cX10_tellRide 48 = .ok (.iload_n 3, 1)) ∧ (decode cX10_tellRide 49 = .ok (.if_icmp .eq 106, 3)) ∧ (decode cX10_tellRide 52 = .ok (.aload_n 0, 1)) ∧ (decode cX10_tellRide 53 = .ok (.aload_n 1, 1)) := by decide +kernel
theorem dX10_tellRide_44 : decode cX10_tellRide 44 = .ok (.istore 6, 2) := dX10_tellRide_44_b.1
theorem dX10_tellRide_46 : decode cX10_tellRide 46 = .ok (.iload 6, 2) := dX10_tellRide_44_b.2.1
theorem dX10_tellRide_48 : decode cX10_tellRide 48 = .ok (.iload_n 3, 1) := dX10_tellRide_44_b.2.2.1
theorem dX10_tellRide_49 : decode cX10_tellRide 49 = .ok (.if_icmp .eq 106, 3) := dX10_tellRide_44_b.2.2.2.1
theorem dX10_tellRide_52 : decode cX10_tellRide 52 = .ok (.aload_n 0, 1) := dX10_tellRide_44_b.2.2.2.2.1
theorem dX10_tellRide_53 : decode cX10_tellRide 53 = .ok (.aload_n 1, 1) := dX10_tellRide_44_b.2.2.2.2.2
set_option maxRecDepth 20000 in
theorem dX10_tellRide_54_b : (decode cX10_tellRide 54 = .ok (.iload 5, 2)) ∧ (decode cX10_tellRide 56 = .ok (.iload 6, 2)) ∧ (decode cX10_tellRide 58 = .ok (.invokevirtual 377, 3)) ∧ (decode cX10_tellRide 61 = .ok (.aload_n 0, 1)) ∧ (decode cX10_tellRide 62 = .ok (.aload_n 1, 1)) ∧ (decode cX10_tellRide 63 = .ok (.iconst 1, 1)) := by decide +kernel
theorem dX10_tellRide_54 : decode cX10_tellRide 54 = .ok (.iload 5, 2) := dX10_tellRide_54_b.1
theorem dX10_tellRide_56 : decode cX10_tellRide 56 = .ok (.iload 6, 2) := dX10_tellRide_54_b.2.1
theorem dX10_tellRide_58 : decode cX10_tellRide 58 = .ok (.invokevirtual 377, 3) := dX10_tellRide_54_b.2.2.1
theorem dX10_tellRide_61 : decode cX10_tellRide 61 = .ok (.aload_n 0, 1) := dX10_tellRide_54_b.2.2.2.1
theorem dX10_tellRide_62 : decode cX10_tellRide 62 = .ok (.aload_n 1, 1) := dX10_tellRide_54_b.2.2.2.2.1
theorem dX10_tellRide_63 : decode cX10_tellRide 63 = .ok (.iconst 1, 1) := dX10_tellRide_54_b.2.2.2.2.2
set_option maxRecDepth 20000 in
theorem dX10_tellRide_64_b : (decode cX10_tellRide 64 = .ok (.iload 5, 2)) ∧ (decode cX10_tellRide 66 = .ok (.isub, 1)) ∧ (decode cX10_tellRide 67 = .ok (.iload 6, 2)) ∧ (decode cX10_tellRide 69 = .ok (.invokevirtual 377, 3)) ∧ (decode cX10_tellRide 72 = .ok (.isub, 1)) ∧ (decode cX10_tellRide 73 = .ok (.istore 7, 2)) := by decide +kernel
theorem dX10_tellRide_64 : decode cX10_tellRide 64 = .ok (.iload 5, 2) := dX10_tellRide_64_b.1
theorem dX10_tellRide_66 : decode cX10_tellRide 66 = .ok (.isub, 1) := dX10_tellRide_64_b.2.1
theorem dX10_tellRide_67 : decode cX10_tellRide 67 = .ok (.iload 6, 2) := dX10_tellRide_64_b.2.2.1
theorem dX10_tellRide_69 : decode cX10_tellRide 69 = .ok (.invokevirtual 377, 3) := dX10_tellRide_64_b.2.2.2.1
theorem dX10_tellRide_72 : decode cX10_tellRide 72 = .ok (.isub, 1) := dX10_tellRide_64_b.2.2.2.2.1
theorem dX10_tellRide_73 : decode cX10_tellRide 73 = .ok (.istore 7, 2) := dX10_tellRide_64_b.2.2.2.2.2
set_option maxRecDepth 20000 in
theorem dX10_tellRide_75_b : (decode cX10_tellRide 75 = .ok (.aload_n 0, 1)) ∧ (decode cX10_tellRide 76 = .ok (.aload_n 0, 1)) ∧ (decode cX10_tellRide 77 = .ok (.getfield 384, 3)) ∧ (decode cX10_tellRide 80 = .ok (.iload 7, 2)) ∧ (decode cX10_tellRide 82 = .ok (.invokestatic 211, 3)) ∧ (decode cX10_tellRide 85 = .ok (.putfield 384, 3)) := by decide +kernel
theorem dX10_tellRide_75 : decode cX10_tellRide 75 = .ok (.aload_n 0, 1) := dX10_tellRide_75_b.1
theorem dX10_tellRide_76 : decode cX10_tellRide 76 = .ok (.aload_n 0, 1) := dX10_tellRide_75_b.2.1
theorem dX10_tellRide_77 : decode cX10_tellRide 77 = .ok (.getfield 384, 3) := dX10_tellRide_75_b.2.2.1
theorem dX10_tellRide_80 : decode cX10_tellRide 80 = .ok (.iload 7, 2) := dX10_tellRide_75_b.2.2.2.1
theorem dX10_tellRide_82 : decode cX10_tellRide 82 = .ok (.invokestatic 211, 3) := dX10_tellRide_75_b.2.2.2.2.1
theorem dX10_tellRide_85 : decode cX10_tellRide 85 = .ok (.putfield 384, 3) := dX10_tellRide_75_b.2.2.2.2.2
set_option maxRecDepth 20000 in
theorem dX10_tellRide_88_b : (decode cX10_tellRide 88 = .ok (.aload_n 0, 1)) ∧ (decode cX10_tellRide 89 = .ok (.aload_n 0, 1)) ∧ (decode cX10_tellRide 90 = .ok (.getfield 388, 3)) ∧ (decode cX10_tellRide 93 = .ok (.iload 7, 2)) ∧ (decode cX10_tellRide 95 = .ok (.invokestatic 394, 3)) ∧ (decode cX10_tellRide 98 = .ok (.putfield 388, 3)) := by decide +kernel
theorem dX10_tellRide_88 : decode cX10_tellRide 88 = .ok (.aload_n 0, 1) := dX10_tellRide_88_b.1
theorem dX10_tellRide_89 : decode cX10_tellRide 89 = .ok (.aload_n 0, 1) := dX10_tellRide_88_b.2.1
theorem dX10_tellRide_90 : decode cX10_tellRide 90 = .ok (.getfield 388, 3) := dX10_tellRide_88_b.2.2.1
theorem dX10_tellRide_93 : decode cX10_tellRide 93 = .ok (.iload 7, 2) := dX10_tellRide_88_b.2.2.2.1
theorem dX10_tellRide_95 : decode cX10_tellRide 95 = .ok (.invokestatic 394, 3) := dX10_tellRide_88_b.2.2.2.2.1
theorem dX10_tellRide_98 : decode cX10_tellRide 98 = .ok (.putfield 388, 3) := dX10_tellRide_88_b.2.2.2.2.2
set_option maxRecDepth 20000 in
theorem dX10_tellRide_101_b : (decode cX10_tellRide 101 = .ok (.aload_n 0, 1)) ∧ (decode cX10_tellRide 102 = .ok (.dup, 1)) ∧ (decode cX10_tellRide 103 = .ok (.getfield 391, 3)) ∧ (decode cX10_tellRide 106 = .ok (.iconst 0, 1)) ∧ (decode cX10_tellRide 107 = .ok (.aload_n 0, 1)) ∧ (decode cX10_tellRide 108 = .ok (.getfield 54, 3)) := by decide +kernel
theorem dX10_tellRide_101 : decode cX10_tellRide 101 = .ok (.aload_n 0, 1) := dX10_tellRide_101_b.1
theorem dX10_tellRide_102 : decode cX10_tellRide 102 = .ok (.dup, 1) := dX10_tellRide_101_b.2.1
theorem dX10_tellRide_103 : decode cX10_tellRide 103 = .ok (.getfield 391, 3) := dX10_tellRide_101_b.2.2.1
theorem dX10_tellRide_106 : decode cX10_tellRide 106 = .ok (.iconst 0, 1) := dX10_tellRide_101_b.2.2.2.1
theorem dX10_tellRide_107 : decode cX10_tellRide 107 = .ok (.aload_n 0, 1) := dX10_tellRide_101_b.2.2.2.2.1
theorem dX10_tellRide_108 : decode cX10_tellRide 108 = .ok (.getfield 54, 3) := dX10_tellRide_101_b.2.2.2.2.2
set_option maxRecDepth 20000 in
theorem dX10_tellRide_111_b : (decode cX10_tellRide 111 = .ok (.iconst 4, 1)) ∧ (decode cX10_tellRide 112 = .ok (.iaload, 1)) ∧ (decode cX10_tellRide 113 = .ok (.iload 7, 2)) ∧ (decode cX10_tellRide 115 = .ok (.isub, 1)) ∧ (decode cX10_tellRide 116 = .ok (.invokestatic 394, 3)) ∧ (decode cX10_tellRide 119 = .ok (.iconst 0, 1)) := by decide +kernel
theorem dX10_tellRide_111 : decode cX10_tellRide 111 = .ok (.iconst 4, 1) := dX10_tellRide_111_b.1
theorem dX10_tellRide_112 : decode cX10_tellRide 112 = .ok (.iaload, 1) := dX10_tellRide_111_b.2.1
theorem dX10_tellRide_113 : decode cX10_tellRide 113 = .ok (.iload 7, 2) := dX10_tellRide_111_b.2.2.1
theorem dX10_tellRide_115 : decode cX10_tellRide 115 = .ok (.isub, 1) := dX10_tellRide_111_b.2.2.2.1
theorem dX10_tellRide_116 : decode cX10_tellRide 116 = .ok (.invokestatic 394, 3) := dX10_tellRide_111_b.2.2.2.2.1
theorem dX10_tellRide_119 : decode cX10_tellRide 119 = .ok (.iconst 0, 1) := dX10_tellRide_111_b.2.2.2.2.2
set_option maxRecDepth 20000 in
theorem dX10_tellRide_120_b : (decode cX10_tellRide 120 = .ok (.iload 7, 2)) ∧ (decode cX10_tellRide 122 = .ok (.aload_n 0, 1)) ∧ (decode cX10_tellRide 123 = .ok (.getfield 54, 3)) ∧ (decode cX10_tellRide 126 = .ok (.iconst 5, 1)) ∧ (decode cX10_tellRide 127 = .ok (.iaload, 1)) ∧ (decode cX10_tellRide 128 = .ok (.isub, 1)) := by decide +kernel
theorem dX10_tellRide_120 : decode cX10_tellRide 120 = .ok (.iload 7, 2) := dX10_tellRide_120_b.1
theorem dX10_tellRide_122 : decode cX10_tellRide 122 = .ok (.aload_n 0, 1) := dX10_tellRide_120_b.2.1
theorem dX10_tellRide_123 : decode cX10_tellRide 123 = .ok (.getfield 54, 3) := dX10_tellRide_120_b.2.2.1
theorem dX10_tellRide_126 : decode cX10_tellRide 126 = .ok (.iconst 5, 1) := dX10_tellRide_120_b.2.2.2.1
theorem dX10_tellRide_127 : decode cX10_tellRide 127 = .ok (.iaload, 1) := dX10_tellRide_120_b.2.2.2.2.1
theorem dX10_tellRide_128 : decode cX10_tellRide 128 = .ok (.isub, 1) := dX10_tellRide_120_b.2.2.2.2.2
set_option maxRecDepth 20000 in
theorem dX10_tellRide_129_b : (decode cX10_tellRide 129 = .ok (.aload_n 0, 1)) ∧ (decode cX10_tellRide 130 = .ok (.getfield 54, 3)) ∧ (decode cX10_tellRide 133 = .ok (.bipush 6, 2)) ∧ (decode cX10_tellRide 135 = .ok (.iaload, 1)) ∧ (decode cX10_tellRide 136 = .ok (.isub, 1)) ∧ (decode cX10_tellRide 137 = .ok (.invokestatic 394, 3)) := by decide +kernel
theorem dX10_tellRide_129 : decode cX10_tellRide 129 = .ok (.aload_n 0, 1) := dX10_tellRide_129_b.1
theorem dX10_tellRide_130 : decode cX10_tellRide 130 = .ok (.getfield 54, 3) := dX10_tellRide_129_b.2.1
theorem dX10_tellRide_133 : decode cX10_tellRide 133 = .ok (.bipush 6, 2) := dX10_tellRide_129_b.2.2.1
theorem dX10_tellRide_135 : decode cX10_tellRide 135 = .ok (.iaload, 1) := dX10_tellRide_129_b.2.2.2.1
theorem dX10_tellRide_136 : decode cX10_tellRide 136 = .ok (.isub, 1) := dX10_tellRide_129_b.2.2.2.2.1
theorem dX10_tellRide_137 : decode cX10_tellRide 137 = .ok (.invokestatic 394, 3) := dX10_tellRide_129_b.2.2.2.2.2
set_option maxRecDepth 20000 in
theorem dX10_tellRide_140_b : (decode cX10_tellRide 140 = .ok (.iadd, 1)) ∧ (decode cX10_tellRide 141 = .ok (.iadd, 1)) ∧ (decode cX10_tellRide 142 = .ok (.putfield 391, 3)) ∧ (decode cX10_tellRide 145 = .ok (.iload 6, 2)) ∧ (decode cX10_tellRide 147 = .ok (.iload 4, 2)) ∧ (decode cX10_tellRide 149 = .ok (.iadd, 1)) := by decide +kernel
theorem dX10_tellRide_140 : decode cX10_tellRide 140 = .ok (.iadd, 1) := dX10_tellRide_140_b.1
theorem dX10_tellRide_141 : decode cX10_tellRide 141 = .ok (.iadd, 1) := dX10_tellRide_140_b.2.1
theorem dX10_tellRide_142 : decode cX10_tellRide 142 = .ok (.putfield 391, 3) := dX10_tellRide_140_b.2.2.1
theorem dX10_tellRide_145 : decode cX10_tellRide 145 = .ok (.iload 6, 2) := dX10_tellRide_140_b.2.2.2.1
theorem dX10_tellRide_147 : decode cX10_tellRide 147 = .ok (.iload 4, 2) := dX10_tellRide_140_b.2.2.2.2.1
theorem dX10_tellRide_149 : decode cX10_tellRide 149 = .ok (.iadd, 1) := dX10_tellRide_140_b.2.2.2.2.2
set_option maxRecDepth 20000 in
theorem dX10_tellRide_150_b : (decode cX10_tellRide 150 = .ok (.istore 6, 2)) ∧ (decode cX10_tellRide 152 = .ok (.goto (-106), 3)) ∧ (decode cX10_tellRide 155 = .ok (.return_, 1)) := by decide +kernel
theorem dX10_tellRide_150 : decode cX10_tellRide 150 = .ok (.istore 6, 2) := dX10_tellRide_150_b.1
theorem dX10_tellRide_152 : decode cX10_tellRide 152 = .ok (.goto (-106), 3) := dX10_tellRide_150_b.2.1
theorem dX10_tellRide_155 : decode cX10_tellRide 155 = .ok (.return_, 1) := dX10_tellRide_150_b.2.2
set_option maxRecDepth 20000 in
theorem dX10_keepsCap_0_b : (decode cX10_keepsCap 0 = .ok (.aload_n 0, 1)) ∧ (decode cX10_keepsCap 1 = .ok (.aload_n 1, 1)) ∧ (decode cX10_keepsCap 2 = .ok (.iconst 0, 1)) ∧ (decode cX10_keepsCap 3 = .ok (.invokevirtual 362, 3)) ∧ (decode cX10_keepsCap 6 = .ok (.aload_n 0, 1)) ∧ (decode cX10_keepsCap 7 = .ok (.getfield 54, 3)) := by decide +kernel
theorem dX10_keepsCap_0 : decode cX10_keepsCap 0 = .ok (.aload_n 0, 1) := dX10_keepsCap_0_b.1
theorem dX10_keepsCap_1 : decode cX10_keepsCap 1 = .ok (.aload_n 1, 1) := dX10_keepsCap_0_b.2.1
theorem dX10_keepsCap_2 : decode cX10_keepsCap 2 = .ok (.iconst 0, 1) := dX10_keepsCap_0_b.2.2.1
theorem dX10_keepsCap_3 : decode cX10_keepsCap 3 = .ok (.invokevirtual 362, 3) := dX10_keepsCap_0_b.2.2.2.1
theorem dX10_keepsCap_6 : decode cX10_keepsCap 6 = .ok (.aload_n 0, 1) := dX10_keepsCap_0_b.2.2.2.2.1
theorem dX10_keepsCap_7 : decode cX10_keepsCap 7 = .ok (.getfield 54, 3) := dX10_keepsCap_0_b.2.2.2.2.2
set_option maxRecDepth 20000 in
theorem dX10_keepsCap_10_b : (decode cX10_keepsCap 10 = .ok (.iconst 2, 1)) ∧ (decode cX10_keepsCap 11 = .ok (.iaload, 1)) ∧ (decode cX10_keepsCap 12 = .ok (.if_icmp .gt 22, 3)) ∧ (decode cX10_keepsCap 15 = .ok (.aload_n 0, 1)) ∧ (decode cX10_keepsCap 16 = .ok (.aload_n 1, 1)) ∧ (decode cX10_keepsCap 17 = .ok (.iconst 1, 1)) := by decide +kernel
theorem dX10_keepsCap_10 : decode cX10_keepsCap 10 = .ok (.iconst 2, 1) := dX10_keepsCap_10_b.1
theorem dX10_keepsCap_11 : decode cX10_keepsCap 11 = .ok (.iaload, 1) := dX10_keepsCap_10_b.2.1
theorem dX10_keepsCap_12 : decode cX10_keepsCap 12 = .ok (.if_icmp .gt 22, 3) := dX10_keepsCap_10_b.2.2.1
theorem dX10_keepsCap_15 : decode cX10_keepsCap 15 = .ok (.aload_n 0, 1) := dX10_keepsCap_10_b.2.2.2.1
theorem dX10_keepsCap_16 : decode cX10_keepsCap 16 = .ok (.aload_n 1, 1) := dX10_keepsCap_10_b.2.2.2.2.1
theorem dX10_keepsCap_17 : decode cX10_keepsCap 17 = .ok (.iconst 1, 1) := dX10_keepsCap_10_b.2.2.2.2.2
set_option maxRecDepth 20000 in
theorem dX10_keepsCap_18_b : (decode cX10_keepsCap 18 = .ok (.invokevirtual 362, 3)) ∧ (decode cX10_keepsCap 21 = .ok (.aload_n 0, 1)) ∧ (decode cX10_keepsCap 22 = .ok (.getfield 54, 3)) ∧ (decode cX10_keepsCap 25 = .ok (.iconst 2, 1)) ∧ (decode cX10_keepsCap 26 = .ok (.iaload, 1)) ∧ (decode cX10_keepsCap 27 = .ok (.if_icmp .gt 7, 3)) := by decide +kernel
theorem dX10_keepsCap_18 : decode cX10_keepsCap 18 = .ok (.invokevirtual 362, 3) := dX10_keepsCap_18_b.1
theorem dX10_keepsCap_21 : decode cX10_keepsCap 21 = .ok (.aload_n 0, 1) := dX10_keepsCap_18_b.2.1
theorem dX10_keepsCap_22 : decode cX10_keepsCap 22 = .ok (.getfield 54, 3) := dX10_keepsCap_18_b.2.2.1
theorem dX10_keepsCap_25 : decode cX10_keepsCap 25 = .ok (.iconst 2, 1) := dX10_keepsCap_18_b.2.2.2.1
theorem dX10_keepsCap_26 : decode cX10_keepsCap 26 = .ok (.iaload, 1) := dX10_keepsCap_18_b.2.2.2.2.1
theorem dX10_keepsCap_27 : decode cX10_keepsCap 27 = .ok (.if_icmp .gt 7, 3) := dX10_keepsCap_18_b.2.2.2.2.2
set_option maxRecDepth 20000 in
theorem dX10_keepsCap_30_b : (decode cX10_keepsCap 30 = .ok (.iconst 1, 1)) ∧ (decode cX10_keepsCap 31 = .ok (.goto 4, 3)) ∧ (decode cX10_keepsCap 34 = .ok (.iconst 0, 1)) ∧ (decode cX10_keepsCap 35 = .ok (.ireturn, 1)) := by decide +kernel
theorem dX10_keepsCap_30 : decode cX10_keepsCap 30 = .ok (.iconst 1, 1) := dX10_keepsCap_30_b.1
theorem dX10_keepsCap_31 : decode cX10_keepsCap 31 = .ok (.goto 4, 3) := dX10_keepsCap_30_b.2.1
theorem dX10_keepsCap_34 : decode cX10_keepsCap 34 = .ok (.iconst 0, 1) := dX10_keepsCap_30_b.2.2.1
theorem dX10_keepsCap_35 : decode cX10_keepsCap 35 = .ok (.ireturn, 1) := dX10_keepsCap_30_b.2.2.2
set_option maxRecDepth 20000 in
theorem dX10_keepsRules_0_b : (decode cX10_keepsRules 0 = .ok (.aload_n 0, 1)) ∧ (decode cX10_keepsRules 1 = .ok (.aload_n 1, 1)) ∧ (decode cX10_keepsRules 2 = .ok (.iconst 0, 1)) ∧ (decode cX10_keepsRules 3 = .ok (.iload_n 2, 1)) ∧ (decode cX10_keepsRules 4 = .ok (.invokevirtual 380, 3)) ∧ (decode cX10_keepsRules 7 = .ok (.iconst (-1), 1)) := by decide +kernel
theorem dX10_keepsRules_0 : decode cX10_keepsRules 0 = .ok (.aload_n 0, 1) := dX10_keepsRules_0_b.1
theorem dX10_keepsRules_1 : decode cX10_keepsRules 1 = .ok (.aload_n 1, 1) := dX10_keepsRules_0_b.2.1
theorem dX10_keepsRules_2 : decode cX10_keepsRules 2 = .ok (.iconst 0, 1) := dX10_keepsRules_0_b.2.2.1
theorem dX10_keepsRules_3 : decode cX10_keepsRules 3 = .ok (.iload_n 2, 1) := dX10_keepsRules_0_b.2.2.2.1
theorem dX10_keepsRules_4 : decode cX10_keepsRules 4 = .ok (.invokevirtual 380, 3) := dX10_keepsRules_0_b.2.2.2.2.1
theorem dX10_keepsRules_7 : decode cX10_keepsRules 7 = .ok (.iconst (-1), 1) := dX10_keepsRules_0_b.2.2.2.2.2
set_option maxRecDepth 20000 in
theorem dX10_keepsRules_8_b : (decode cX10_keepsRules 8 = .ok (.if_icmp .ne 18, 3)) ∧ (decode cX10_keepsRules 11 = .ok (.aload_n 0, 1)) ∧ (decode cX10_keepsRules 12 = .ok (.aload_n 1, 1)) ∧ (decode cX10_keepsRules 13 = .ok (.iconst 1, 1)) ∧ (decode cX10_keepsRules 14 = .ok (.iload_n 2, 1)) ∧ (decode cX10_keepsRules 15 = .ok (.invokevirtual 380, 3)) := by decide +kernel
theorem dX10_keepsRules_8 : decode cX10_keepsRules 8 = .ok (.if_icmp .ne 18, 3) := dX10_keepsRules_8_b.1
theorem dX10_keepsRules_11 : decode cX10_keepsRules 11 = .ok (.aload_n 0, 1) := dX10_keepsRules_8_b.2.1
theorem dX10_keepsRules_12 : decode cX10_keepsRules 12 = .ok (.aload_n 1, 1) := dX10_keepsRules_8_b.2.2.1
theorem dX10_keepsRules_13 : decode cX10_keepsRules 13 = .ok (.iconst 1, 1) := dX10_keepsRules_8_b.2.2.2.1
theorem dX10_keepsRules_14 : decode cX10_keepsRules 14 = .ok (.iload_n 2, 1) := dX10_keepsRules_8_b.2.2.2.2.1
theorem dX10_keepsRules_15 : decode cX10_keepsRules 15 = .ok (.invokevirtual 380, 3) := dX10_keepsRules_8_b.2.2.2.2.2
set_option maxRecDepth 20000 in
theorem dX10_keepsRules_18_b : (decode cX10_keepsRules 18 = .ok (.iconst (-1), 1)) ∧ (decode cX10_keepsRules 19 = .ok (.if_icmp .ne 7, 3)) ∧ (decode cX10_keepsRules 22 = .ok (.iconst 1, 1)) ∧ (decode cX10_keepsRules 23 = .ok (.goto 4, 3)) ∧ (decode cX10_keepsRules 26 = .ok (.iconst 0, 1)) ∧ (decode cX10_keepsRules 27 = .ok (.ireturn, 1)) := by decide +kernel
theorem dX10_keepsRules_18 : decode cX10_keepsRules 18 = .ok (.iconst (-1), 1) := dX10_keepsRules_18_b.1
theorem dX10_keepsRules_19 : decode cX10_keepsRules 19 = .ok (.if_icmp .ne 7, 3) := dX10_keepsRules_18_b.2.1
theorem dX10_keepsRules_22 : decode cX10_keepsRules 22 = .ok (.iconst 1, 1) := dX10_keepsRules_18_b.2.2.1
theorem dX10_keepsRules_23 : decode cX10_keepsRules 23 = .ok (.goto 4, 3) := dX10_keepsRules_18_b.2.2.2.1
theorem dX10_keepsRules_26 : decode cX10_keepsRules 26 = .ok (.iconst 0, 1) := dX10_keepsRules_18_b.2.2.2.2.1
theorem dX10_keepsRules_27 : decode cX10_keepsRules 27 = .ok (.ireturn, 1) := dX10_keepsRules_18_b.2.2.2.2.2
set_option maxRecDepth 20000 in
theorem dX10_swing_0_b : (decode cX10_swing 0 = .ok (.iload_n 1, 1)) ∧ (decode cX10_swing 1 = .ok (.iconst 2, 1)) ∧ (decode cX10_swing 2 = .ok (.if_icmp .ne 5, 3)) ∧ (decode cX10_swing 5 = .ok (.iconst 0, 1)) ∧ (decode cX10_swing 6 = .ok (.ireturn, 1)) ∧ (decode cX10_swing 7 = .ok (.aload_n 0, 1)) := by decide +kernel
theorem dX10_swing_0 : decode cX10_swing 0 = .ok (.iload_n 1, 1) := dX10_swing_0_b.1
theorem dX10_swing_1 : decode cX10_swing 1 = .ok (.iconst 2, 1) := dX10_swing_0_b.2.1
theorem dX10_swing_2 : decode cX10_swing 2 = .ok (.if_icmp .ne 5, 3) := dX10_swing_0_b.2.2.1
theorem dX10_swing_5 : decode cX10_swing 5 = .ok (.iconst 0, 1) := dX10_swing_0_b.2.2.2.1
theorem dX10_swing_6 : decode cX10_swing 6 = .ok (.ireturn, 1) := dX10_swing_0_b.2.2.2.2.1
theorem dX10_swing_7 : decode cX10_swing 7 = .ok (.aload_n 0, 1) := dX10_swing_0_b.2.2.2.2.2
set_option maxRecDepth 20000 in
theorem dX10_swing_8_b : (decode cX10_swing 8 = .ok (.getfield 384, 3)) ∧ (decode cX10_swing 11 = .ok (.aload_n 0, 1)) ∧ (decode cX10_swing 12 = .ok (.getfield 54, 3)) ∧ (decode cX10_swing 15 = .ok (.iconst 4, 1)) ∧ (decode cX10_swing 16 = .ok (.iaload, 1)) ∧ (decode cX10_swing 17 = .ok (.if_icmp .ge 8, 3)) := by decide +kernel
theorem dX10_swing_8 : decode cX10_swing 8 = .ok (.getfield 384, 3) := dX10_swing_8_b.1
theorem dX10_swing_11 : decode cX10_swing 11 = .ok (.aload_n 0, 1) := dX10_swing_8_b.2.1
theorem dX10_swing_12 : decode cX10_swing 12 = .ok (.getfield 54, 3) := dX10_swing_8_b.2.2.1
theorem dX10_swing_15 : decode cX10_swing 15 = .ok (.iconst 4, 1) := dX10_swing_8_b.2.2.2.1
theorem dX10_swing_16 : decode cX10_swing 16 = .ok (.iaload, 1) := dX10_swing_8_b.2.2.2.2.1
theorem dX10_swing_17 : decode cX10_swing 17 = .ok (.if_icmp .ge 8, 3) := dX10_swing_8_b.2.2.2.2.2
set_option maxRecDepth 20000 in
theorem dX10_swing_20_b : (decode cX10_swing 20 = .ok (.bipush 6, 2)) ∧ (decode cX10_swing 22 = .ok (.goto 39, 3)) ∧ (decode cX10_swing 25 = .ok (.aload_n 0, 1)) ∧ (decode cX10_swing 26 = .ok (.getfield 388, 3)) ∧ (decode cX10_swing 29 = .ok (.aload_n 0, 1)) ∧ (decode cX10_swing 30 = .ok (.getfield 54, 3)) := by decide +kernel
theorem dX10_swing_20 : decode cX10_swing 20 = .ok (.bipush 6, 2) := dX10_swing_20_b.1
theorem dX10_swing_22 : decode cX10_swing 22 = .ok (.goto 39, 3) := dX10_swing_20_b.2.1
theorem dX10_swing_25 : decode cX10_swing 25 = .ok (.aload_n 0, 1) := dX10_swing_20_b.2.2.1
theorem dX10_swing_26 : decode cX10_swing 26 = .ok (.getfield 388, 3) := dX10_swing_20_b.2.2.2.1
theorem dX10_swing_29 : decode cX10_swing 29 = .ok (.aload_n 0, 1) := dX10_swing_20_b.2.2.2.2.1
theorem dX10_swing_30 : decode cX10_swing 30 = .ok (.getfield 54, 3) := dX10_swing_20_b.2.2.2.2.2
set_option maxRecDepth 20000 in
theorem dX10_swing_33_b : (decode cX10_swing 33 = .ok (.iconst 5, 1)) ∧ (decode cX10_swing 34 = .ok (.iaload, 1)) ∧ (decode cX10_swing 35 = .ok (.iload_n 1, 1)) ∧ (decode cX10_swing 36 = .ok (.iconst 1, 1)) ∧ (decode cX10_swing 37 = .ok (.if_icmp .ne 13, 3)) ∧ (decode cX10_swing 40 = .ok (.aload_n 0, 1)) := by decide +kernel
theorem dX10_swing_33 : decode cX10_swing 33 = .ok (.iconst 5, 1) := dX10_swing_33_b.1
theorem dX10_swing_34 : decode cX10_swing 34 = .ok (.iaload, 1) := dX10_swing_33_b.2.1
theorem dX10_swing_35 : decode cX10_swing 35 = .ok (.iload_n 1, 1) := dX10_swing_33_b.2.2.1
theorem dX10_swing_36 : decode cX10_swing 36 = .ok (.iconst 1, 1) := dX10_swing_33_b.2.2.2.1
theorem dX10_swing_37 : decode cX10_swing 37 = .ok (.if_icmp .ne 13, 3) := dX10_swing_33_b.2.2.2.2.1
theorem dX10_swing_40 : decode cX10_swing 40 = .ok (.aload_n 0, 1) := dX10_swing_33_b.2.2.2.2.2
set_option maxRecDepth 20000 in
theorem dX10_swing_41_b : (decode cX10_swing 41 = .ok (.getfield 54, 3)) ∧ (decode cX10_swing 44 = .ok (.bipush 6, 2)) ∧ (decode cX10_swing 46 = .ok (.iaload, 1)) ∧ (decode cX10_swing 47 = .ok (.goto 4, 3)) ∧ (decode cX10_swing 50 = .ok (.iconst 0, 1)) ∧ (decode cX10_swing 51 = .ok (.iadd, 1)) := by decide +kernel
theorem dX10_swing_41 : decode cX10_swing 41 = .ok (.getfield 54, 3) := dX10_swing_41_b.1
theorem dX10_swing_44 : decode cX10_swing 44 = .ok (.bipush 6, 2) := dX10_swing_41_b.2.1
theorem dX10_swing_46 : decode cX10_swing 46 = .ok (.iaload, 1) := dX10_swing_41_b.2.2.1
theorem dX10_swing_47 : decode cX10_swing 47 = .ok (.goto 4, 3) := dX10_swing_41_b.2.2.2.1
theorem dX10_swing_50 : decode cX10_swing 50 = .ok (.iconst 0, 1) := dX10_swing_41_b.2.2.2.2.1
theorem dX10_swing_51 : decode cX10_swing 51 = .ok (.iadd, 1) := dX10_swing_41_b.2.2.2.2.2
set_option maxRecDepth 20000 in
theorem dX10_swing_52_b : (decode cX10_swing 52 = .ok (.if_icmp .le 8, 3)) ∧ (decode cX10_swing 55 = .ok (.bipush 7, 2)) ∧ (decode cX10_swing 57 = .ok (.goto 4, 3)) ∧ (decode cX10_swing 60 = .ok (.iconst 0, 1)) ∧ (decode cX10_swing 61 = .ok (.ireturn, 1)) := by decide +kernel
theorem dX10_swing_52 : decode cX10_swing 52 = .ok (.if_icmp .le 8, 3) := dX10_swing_52_b.1
theorem dX10_swing_55 : decode cX10_swing 55 = .ok (.bipush 7, 2) := dX10_swing_52_b.2.1
theorem dX10_swing_57 : decode cX10_swing 57 = .ok (.goto 4, 3) := dX10_swing_52_b.2.2.1
theorem dX10_swing_60 : decode cX10_swing 60 = .ok (.iconst 0, 1) := dX10_swing_52_b.2.2.2.1
theorem dX10_swing_61 : decode cX10_swing 61 = .ok (.ireturn, 1) := dX10_swing_52_b.2.2.2.2
set_option maxRecDepth 20000 in
theorem dX10_rideTrouble_0_b : (decode cX10_rideTrouble 0 = .ok (.iload_n 1, 1)) ∧ (decode cX10_rideTrouble 1 = .ok (.iconst 0, 1)) ∧ (decode cX10_rideTrouble 2 = .ok (.aload_n 0, 1)) ∧ (decode cX10_rideTrouble 3 = .ok (.invokevirtual 346, 3)) ∧ (decode cX10_rideTrouble 6 = .ok (.invokestatic 177, 3)) ∧ (decode cX10_rideTrouble 9 = .ok (.ifCond .eq 12, 3)) := by decide +kernel
theorem dX10_rideTrouble_0 : decode cX10_rideTrouble 0 = .ok (.iload_n 1, 1) := dX10_rideTrouble_0_b.1
theorem dX10_rideTrouble_1 : decode cX10_rideTrouble 1 = .ok (.iconst 0, 1) := dX10_rideTrouble_0_b.2.1
theorem dX10_rideTrouble_2 : decode cX10_rideTrouble 2 = .ok (.aload_n 0, 1) := dX10_rideTrouble_0_b.2.2.1
theorem dX10_rideTrouble_3 : decode cX10_rideTrouble 3 = .ok (.invokevirtual 346, 3) := dX10_rideTrouble_0_b.2.2.2.1
theorem dX10_rideTrouble_6 : decode cX10_rideTrouble 6 = .ok (.invokestatic 177, 3) := dX10_rideTrouble_0_b.2.2.2.2.1
theorem dX10_rideTrouble_9 : decode cX10_rideTrouble 9 = .ok (.ifCond .eq 12, 3) := dX10_rideTrouble_0_b.2.2.2.2.2
set_option maxRecDepth 20000 in
theorem dX10_rideTrouble_12_b : (decode cX10_rideTrouble 12 = .ok (.iload_n 2, 1)) ∧ (decode cX10_rideTrouble 13 = .ok (.iconst 0, 1)) ∧ (decode cX10_rideTrouble 14 = .ok (.iconst 2, 1)) ∧ (decode cX10_rideTrouble 15 = .ok (.invokestatic 177, 3)) ∧ (decode cX10_rideTrouble 18 = .ok (.ifCond .ne 5, 3)) ∧ (decode cX10_rideTrouble 21 = .ok (.iconst 1, 1)) := by decide +kernel
theorem dX10_rideTrouble_12 : decode cX10_rideTrouble 12 = .ok (.iload_n 2, 1) := dX10_rideTrouble_12_b.1
theorem dX10_rideTrouble_13 : decode cX10_rideTrouble 13 = .ok (.iconst 0, 1) := dX10_rideTrouble_12_b.2.1
theorem dX10_rideTrouble_14 : decode cX10_rideTrouble 14 = .ok (.iconst 2, 1) := dX10_rideTrouble_12_b.2.2.1
theorem dX10_rideTrouble_15 : decode cX10_rideTrouble 15 = .ok (.invokestatic 177, 3) := dX10_rideTrouble_12_b.2.2.2.1
theorem dX10_rideTrouble_18 : decode cX10_rideTrouble 18 = .ok (.ifCond .ne 5, 3) := dX10_rideTrouble_12_b.2.2.2.2.1
theorem dX10_rideTrouble_21 : decode cX10_rideTrouble 21 = .ok (.iconst 1, 1) := dX10_rideTrouble_12_b.2.2.2.2.2
set_option maxRecDepth 20000 in
theorem dX10_rideTrouble_22_b : (decode cX10_rideTrouble 22 = .ok (.ireturn, 1)) ∧ (decode cX10_rideTrouble 23 = .ok (.iload_n 1, 1)) ∧ (decode cX10_rideTrouble 24 = .ok (.aload_n 0, 1)) ∧ (decode cX10_rideTrouble 25 = .ok (.getfield 327, 3)) ∧ (decode cX10_rideTrouble 28 = .ok (.if_icmp .ne 5, 3)) ∧ (decode cX10_rideTrouble 31 = .ok (.iconst 3, 1)) := by decide +kernel
theorem dX10_rideTrouble_22 : decode cX10_rideTrouble 22 = .ok (.ireturn, 1) := dX10_rideTrouble_22_b.1
theorem dX10_rideTrouble_23 : decode cX10_rideTrouble 23 = .ok (.iload_n 1, 1) := dX10_rideTrouble_22_b.2.1
theorem dX10_rideTrouble_24 : decode cX10_rideTrouble 24 = .ok (.aload_n 0, 1) := dX10_rideTrouble_22_b.2.2.1
theorem dX10_rideTrouble_25 : decode cX10_rideTrouble 25 = .ok (.getfield 327, 3) := dX10_rideTrouble_22_b.2.2.2.1
theorem dX10_rideTrouble_28 : decode cX10_rideTrouble 28 = .ok (.if_icmp .ne 5, 3) := dX10_rideTrouble_22_b.2.2.2.2.1
theorem dX10_rideTrouble_31 : decode cX10_rideTrouble 31 = .ok (.iconst 3, 1) := dX10_rideTrouble_22_b.2.2.2.2.2
set_option maxRecDepth 20000 in
theorem dX10_rideTrouble_32_b : (decode cX10_rideTrouble 32 = .ok (.ireturn, 1)) ∧ (decode cX10_rideTrouble 33 = .ok (.aload_n 0, 1)) ∧ (decode cX10_rideTrouble 34 = .ok (.aload_n 0, 1)) ∧ (decode cX10_rideTrouble 35 = .ok (.getfield 87, 3)) ∧ (decode cX10_rideTrouble 38 = .ok (.invokevirtual 397, 3)) ∧ (decode cX10_rideTrouble 41 = .ok (.ifCond .ne 5, 3)) := by decide +kernel
theorem dX10_rideTrouble_32 : decode cX10_rideTrouble 32 = .ok (.ireturn, 1) := dX10_rideTrouble_32_b.1
theorem dX10_rideTrouble_33 : decode cX10_rideTrouble 33 = .ok (.aload_n 0, 1) := dX10_rideTrouble_32_b.2.1
theorem dX10_rideTrouble_34 : decode cX10_rideTrouble 34 = .ok (.aload_n 0, 1) := dX10_rideTrouble_32_b.2.2.1
theorem dX10_rideTrouble_35 : decode cX10_rideTrouble 35 = .ok (.getfield 87, 3) := dX10_rideTrouble_32_b.2.2.2.1
theorem dX10_rideTrouble_38 : decode cX10_rideTrouble 38 = .ok (.invokevirtual 397, 3) := dX10_rideTrouble_32_b.2.2.2.2.1
theorem dX10_rideTrouble_41 : decode cX10_rideTrouble 41 = .ok (.ifCond .ne 5, 3) := dX10_rideTrouble_32_b.2.2.2.2.2
set_option maxRecDepth 20000 in
theorem dX10_rideTrouble_44_b : (decode cX10_rideTrouble 44 = .ok (.iconst 4, 1)) ∧ (decode cX10_rideTrouble 45 = .ok (.ireturn, 1)) ∧ (decode cX10_rideTrouble 46 = .ok (.aload_n 0, 1)) ∧ (decode cX10_rideTrouble 47 = .ok (.aload_n 0, 1)) ∧ (decode cX10_rideTrouble 48 = .ok (.getfield 87, 3)) ∧ (decode cX10_rideTrouble 51 = .ok (.aload_n 0, 1)) := by decide +kernel
theorem dX10_rideTrouble_44 : decode cX10_rideTrouble 44 = .ok (.iconst 4, 1) := dX10_rideTrouble_44_b.1
theorem dX10_rideTrouble_45 : decode cX10_rideTrouble 45 = .ok (.ireturn, 1) := dX10_rideTrouble_44_b.2.1
theorem dX10_rideTrouble_46 : decode cX10_rideTrouble 46 = .ok (.aload_n 0, 1) := dX10_rideTrouble_44_b.2.2.1
theorem dX10_rideTrouble_47 : decode cX10_rideTrouble 47 = .ok (.aload_n 0, 1) := dX10_rideTrouble_44_b.2.2.2.1
theorem dX10_rideTrouble_48 : decode cX10_rideTrouble 48 = .ok (.getfield 87, 3) := dX10_rideTrouble_44_b.2.2.2.2.1
theorem dX10_rideTrouble_51 : decode cX10_rideTrouble 51 = .ok (.aload_n 0, 1) := dX10_rideTrouble_44_b.2.2.2.2.2
set_option maxRecDepth 20000 in
theorem dX10_rideTrouble_52_b : (decode cX10_rideTrouble 52 = .ok (.getfield 327, 3)) ∧ (decode cX10_rideTrouble 55 = .ok (.invokevirtual 401, 3)) ∧ (decode cX10_rideTrouble 58 = .ok (.ifCond .ne 5, 3)) ∧ (decode cX10_rideTrouble 61 = .ok (.iconst 5, 1)) ∧ (decode cX10_rideTrouble 62 = .ok (.ireturn, 1)) ∧ (decode cX10_rideTrouble 63 = .ok (.aload_n 0, 1)) := by decide +kernel
theorem dX10_rideTrouble_52 : decode cX10_rideTrouble 52 = .ok (.getfield 327, 3) := dX10_rideTrouble_52_b.1
theorem dX10_rideTrouble_55 : decode cX10_rideTrouble 55 = .ok (.invokevirtual 401, 3) := dX10_rideTrouble_52_b.2.1
theorem dX10_rideTrouble_58 : decode cX10_rideTrouble 58 = .ok (.ifCond .ne 5, 3) := dX10_rideTrouble_52_b.2.2.1
theorem dX10_rideTrouble_61 : decode cX10_rideTrouble 61 = .ok (.iconst 5, 1) := dX10_rideTrouble_52_b.2.2.2.1
theorem dX10_rideTrouble_62 : decode cX10_rideTrouble 62 = .ok (.ireturn, 1) := dX10_rideTrouble_52_b.2.2.2.2.1
theorem dX10_rideTrouble_63 : decode cX10_rideTrouble 63 = .ok (.aload_n 0, 1) := dX10_rideTrouble_52_b.2.2.2.2.2
set_option maxRecDepth 20000 in
theorem dX10_rideTrouble_64_b : (decode cX10_rideTrouble 64 = .ok (.aload_n 0, 1)) ∧ (decode cX10_rideTrouble 65 = .ok (.getfield 87, 3)) ∧ (decode cX10_rideTrouble 68 = .ok (.aload_n 0, 1)) ∧ (decode cX10_rideTrouble 69 = .ok (.getfield 327, 3)) ∧ (decode cX10_rideTrouble 72 = .ok (.iload_n 1, 1)) ∧ (decode cX10_rideTrouble 73 = .ok (.invokevirtual 405, 3)) := by decide +kernel
theorem dX10_rideTrouble_64 : decode cX10_rideTrouble 64 = .ok (.aload_n 0, 1) := dX10_rideTrouble_64_b.1
theorem dX10_rideTrouble_65 : decode cX10_rideTrouble 65 = .ok (.getfield 87, 3) := dX10_rideTrouble_64_b.2.1
theorem dX10_rideTrouble_68 : decode cX10_rideTrouble 68 = .ok (.aload_n 0, 1) := dX10_rideTrouble_64_b.2.2.1
theorem dX10_rideTrouble_69 : decode cX10_rideTrouble 69 = .ok (.getfield 327, 3) := dX10_rideTrouble_64_b.2.2.2.1
theorem dX10_rideTrouble_72 : decode cX10_rideTrouble 72 = .ok (.iload_n 1, 1) := dX10_rideTrouble_64_b.2.2.2.2.1
theorem dX10_rideTrouble_73 : decode cX10_rideTrouble 73 = .ok (.invokevirtual 405, 3) := dX10_rideTrouble_64_b.2.2.2.2.2
set_option maxRecDepth 20000 in
theorem dX10_rideTrouble_76_b : (decode cX10_rideTrouble 76 = .ok (.aload_n 0, 1)) ∧ (decode cX10_rideTrouble 77 = .ok (.iload_n 2, 1)) ∧ (decode cX10_rideTrouble 78 = .ok (.invokevirtual 409, 3)) ∧ (decode cX10_rideTrouble 81 = .ok (.istore_n 3, 1)) ∧ (decode cX10_rideTrouble 82 = .ok (.iload_n 3, 1)) ∧ (decode cX10_rideTrouble 83 = .ok (.ifCond .eq 7, 3)) := by decide +kernel
theorem dX10_rideTrouble_76 : decode cX10_rideTrouble 76 = .ok (.aload_n 0, 1) := dX10_rideTrouble_76_b.1
theorem dX10_rideTrouble_77 : decode cX10_rideTrouble 77 = .ok (.iload_n 2, 1) := dX10_rideTrouble_76_b.2.1
theorem dX10_rideTrouble_78 : decode cX10_rideTrouble 78 = .ok (.invokevirtual 409, 3) := dX10_rideTrouble_76_b.2.2.1
theorem dX10_rideTrouble_81 : decode cX10_rideTrouble 81 = .ok (.istore_n 3, 1) := dX10_rideTrouble_76_b.2.2.2.1
theorem dX10_rideTrouble_82 : decode cX10_rideTrouble 82 = .ok (.iload_n 3, 1) := dX10_rideTrouble_76_b.2.2.2.2.1
theorem dX10_rideTrouble_83 : decode cX10_rideTrouble 83 = .ok (.ifCond .eq 7, 3) := dX10_rideTrouble_76_b.2.2.2.2.2
set_option maxRecDepth 20000 in
theorem dX10_rideTrouble_86_b : (decode cX10_rideTrouble 86 = .ok (.iload_n 3, 1)) ∧ (decode cX10_rideTrouble 87 = .ok (.goto 18, 3)) ∧ (decode cX10_rideTrouble 90 = .ok (.aload_n 0, 1)) ∧ (decode cX10_rideTrouble 91 = .ok (.getfield 330, 3)) ∧ (decode cX10_rideTrouble 94 = .ok (.bipush 60, 2)) ∧ (decode cX10_rideTrouble 96 = .ok (.if_icmp .ne 8, 3)) := by decide +kernel
theorem dX10_rideTrouble_86 : decode cX10_rideTrouble 86 = .ok (.iload_n 3, 1) := dX10_rideTrouble_86_b.1
theorem dX10_rideTrouble_87 : decode cX10_rideTrouble 87 = .ok (.goto 18, 3) := dX10_rideTrouble_86_b.2.1
theorem dX10_rideTrouble_90 : decode cX10_rideTrouble 90 = .ok (.aload_n 0, 1) := dX10_rideTrouble_86_b.2.2.1
theorem dX10_rideTrouble_91 : decode cX10_rideTrouble 91 = .ok (.getfield 330, 3) := dX10_rideTrouble_86_b.2.2.2.1
theorem dX10_rideTrouble_94 : decode cX10_rideTrouble 94 = .ok (.bipush 60, 2) := dX10_rideTrouble_86_b.2.2.2.2.1
theorem dX10_rideTrouble_96 : decode cX10_rideTrouble 96 = .ok (.if_icmp .ne 8, 3) := dX10_rideTrouble_86_b.2.2.2.2.2
set_option maxRecDepth 20000 in
theorem dX10_rideTrouble_99_b : (decode cX10_rideTrouble 99 = .ok (.bipush 8, 2)) ∧ (decode cX10_rideTrouble 101 = .ok (.goto 4, 3)) ∧ (decode cX10_rideTrouble 104 = .ok (.iconst 0, 1)) ∧ (decode cX10_rideTrouble 105 = .ok (.ireturn, 1)) := by decide +kernel
theorem dX10_rideTrouble_99 : decode cX10_rideTrouble 99 = .ok (.bipush 8, 2) := dX10_rideTrouble_99_b.1
theorem dX10_rideTrouble_101 : decode cX10_rideTrouble 101 = .ok (.goto 4, 3) := dX10_rideTrouble_99_b.2.1
theorem dX10_rideTrouble_104 : decode cX10_rideTrouble 104 = .ok (.iconst 0, 1) := dX10_rideTrouble_99_b.2.2.1
theorem dX10_rideTrouble_105 : decode cX10_rideTrouble 105 = .ok (.ireturn, 1) := dX10_rideTrouble_99_b.2.2.2
set_option maxRecDepth 20000 in
theorem dX10_refuse_0_b : (decode cX10_refuse 0 = .ok (.aload_n 0, 1)) ∧ (decode cX10_refuse 1 = .ok (.getfield 77, 3)) ∧ (decode cX10_refuse 4 = .ok (.iconst 1, 1)) ∧ (decode cX10_refuse 5 = .ok (.dup2, 1)) ∧ (decode cX10_refuse 6 = .ok (.iaload, 1)) ∧ (decode cX10_refuse 7 = .ok (.iconst 1, 1)) := by decide +kernel
theorem dX10_refuse_0 : decode cX10_refuse 0 = .ok (.aload_n 0, 1) := dX10_refuse_0_b.1
theorem dX10_refuse_1 : decode cX10_refuse 1 = .ok (.getfield 77, 3) := dX10_refuse_0_b.2.1
theorem dX10_refuse_4 : decode cX10_refuse 4 = .ok (.iconst 1, 1) := dX10_refuse_0_b.2.2.1
theorem dX10_refuse_5 : decode cX10_refuse 5 = .ok (.dup2, 1) := dX10_refuse_0_b.2.2.2.1
theorem dX10_refuse_6 : decode cX10_refuse 6 = .ok (.iaload, 1) := dX10_refuse_0_b.2.2.2.2.1
theorem dX10_refuse_7 : decode cX10_refuse 7 = .ok (.iconst 1, 1) := dX10_refuse_0_b.2.2.2.2.2
set_option maxRecDepth 20000 in
theorem dX10_refuse_8_b : (decode cX10_refuse 8 = .ok (.iadd, 1)) ∧ (decode cX10_refuse 9 = .ok (.iastore, 1)) ∧ (decode cX10_refuse 10 = .ok (.iload_n 1, 1)) ∧ (decode cX10_refuse 11 = .ok (.ireturn, 1)) := by decide +kernel
theorem dX10_refuse_8 : decode cX10_refuse 8 = .ok (.iadd, 1) := dX10_refuse_8_b.1
theorem dX10_refuse_9 : decode cX10_refuse 9 = .ok (.iastore, 1) := dX10_refuse_8_b.2.1
theorem dX10_refuse_10 : decode cX10_refuse 10 = .ok (.iload_n 1, 1) := dX10_refuse_8_b.2.2.1
theorem dX10_refuse_11 : decode cX10_refuse 11 = .ok (.ireturn, 1) := dX10_refuse_8_b.2.2.2
set_option maxRecDepth 20000 in
theorem dX10_add_0_b : (decode cX10_add 0 = .ok (.aload_n 0, 1)) ∧ (decode cX10_add 1 = .ok (.getfield 93, 3)) ∧ (decode cX10_add 4 = .ok (.aload_n 0, 1)) ∧ (decode cX10_add 5 = .ok (.getfield 330, 3)) ∧ (decode cX10_add 8 = .ok (.iload_n 1, 1)) ∧ (decode cX10_add 9 = .ok (.iastore, 1)) := by decide +kernel
theorem dX10_add_0 : decode cX10_add 0 = .ok (.aload_n 0, 1) := dX10_add_0_b.1
theorem dX10_add_1 : decode cX10_add 1 = .ok (.getfield 93, 3) := dX10_add_0_b.2.1
theorem dX10_add_4 : decode cX10_add 4 = .ok (.aload_n 0, 1) := dX10_add_0_b.2.2.1
theorem dX10_add_5 : decode cX10_add 5 = .ok (.getfield 330, 3) := dX10_add_0_b.2.2.2.1
theorem dX10_add_8 : decode cX10_add 8 = .ok (.iload_n 1, 1) := dX10_add_0_b.2.2.2.2.1
theorem dX10_add_9 : decode cX10_add 9 = .ok (.iastore, 1) := dX10_add_0_b.2.2.2.2.2
set_option maxRecDepth 20000 in
theorem dX10_add_10_b : (decode cX10_add 10 = .ok (.aload_n 0, 1)) ∧ (decode cX10_add 11 = .ok (.getfield 96, 3)) ∧ (decode cX10_add 14 = .ok (.aload_n 0, 1)) ∧ (decode cX10_add 15 = .ok (.getfield 330, 3)) ∧ (decode cX10_add 18 = .ok (.iload_n 2, 1)) ∧ (decode cX10_add 19 = .ok (.iastore, 1)) := by decide +kernel
theorem dX10_add_10 : decode cX10_add 10 = .ok (.aload_n 0, 1) := dX10_add_10_b.1
theorem dX10_add_11 : decode cX10_add 11 = .ok (.getfield 96, 3) := dX10_add_10_b.2.1
theorem dX10_add_14 : decode cX10_add 14 = .ok (.aload_n 0, 1) := dX10_add_10_b.2.2.1
theorem dX10_add_15 : decode cX10_add 15 = .ok (.getfield 330, 3) := dX10_add_10_b.2.2.2.1
theorem dX10_add_18 : decode cX10_add 18 = .ok (.iload_n 2, 1) := dX10_add_10_b.2.2.2.2.1
theorem dX10_add_19 : decode cX10_add 19 = .ok (.iastore, 1) := dX10_add_10_b.2.2.2.2.2
set_option maxRecDepth 20000 in
theorem dX10_add_20_b : (decode cX10_add 20 = .ok (.aload_n 0, 1)) ∧ (decode cX10_add 21 = .ok (.getfield 99, 3)) ∧ (decode cX10_add 24 = .ok (.aload_n 0, 1)) ∧ (decode cX10_add 25 = .ok (.getfield 330, 3)) ∧ (decode cX10_add 28 = .ok (.iload_n 3, 1)) ∧ (decode cX10_add 29 = .ok (.iastore, 1)) := by decide +kernel
theorem dX10_add_20 : decode cX10_add 20 = .ok (.aload_n 0, 1) := dX10_add_20_b.1
theorem dX10_add_21 : decode cX10_add 21 = .ok (.getfield 99, 3) := dX10_add_20_b.2.1
theorem dX10_add_24 : decode cX10_add 24 = .ok (.aload_n 0, 1) := dX10_add_20_b.2.2.1
theorem dX10_add_25 : decode cX10_add 25 = .ok (.getfield 330, 3) := dX10_add_20_b.2.2.2.1
theorem dX10_add_28 : decode cX10_add 28 = .ok (.iload_n 3, 1) := dX10_add_20_b.2.2.2.2.1
theorem dX10_add_29 : decode cX10_add 29 = .ok (.iastore, 1) := dX10_add_20_b.2.2.2.2.2
set_option maxRecDepth 20000 in
theorem dX10_add_30_b : (decode cX10_add 30 = .ok (.aload_n 0, 1)) ∧ (decode cX10_add 31 = .ok (.getfield 102, 3)) ∧ (decode cX10_add 34 = .ok (.aload_n 0, 1)) ∧ (decode cX10_add 35 = .ok (.getfield 330, 3)) ∧ (decode cX10_add 38 = .ok (.iload 4, 2)) ∧ (decode cX10_add 40 = .ok (.iastore, 1)) := by decide +kernel
theorem dX10_add_30 : decode cX10_add 30 = .ok (.aload_n 0, 1) := dX10_add_30_b.1
theorem dX10_add_31 : decode cX10_add 31 = .ok (.getfield 102, 3) := dX10_add_30_b.2.1
theorem dX10_add_34 : decode cX10_add 34 = .ok (.aload_n 0, 1) := dX10_add_30_b.2.2.1
theorem dX10_add_35 : decode cX10_add 35 = .ok (.getfield 330, 3) := dX10_add_30_b.2.2.2.1
theorem dX10_add_38 : decode cX10_add 38 = .ok (.iload 4, 2) := dX10_add_30_b.2.2.2.2.1
theorem dX10_add_40 : decode cX10_add 40 = .ok (.iastore, 1) := dX10_add_30_b.2.2.2.2.2
set_option maxRecDepth 20000 in
theorem dX10_add_41_b : (decode cX10_add 41 = .ok (.aload_n 0, 1)) ∧ (decode cX10_add 42 = .ok (.getfield 105, 3)) ∧ (decode cX10_add 45 = .ok (.aload_n 0, 1)) ∧ (decode cX10_add 46 = .ok (.getfield 330, 3)) ∧ (decode cX10_add 49 = .ok (.iload 5, 2)) ∧ (decode cX10_add 51 = .ok (.iastore, 1)) := by decide +kernel
theorem dX10_add_41 : decode cX10_add 41 = .ok (.aload_n 0, 1) := dX10_add_41_b.1
theorem dX10_add_42 : decode cX10_add 42 = .ok (.getfield 105, 3) := dX10_add_41_b.2.1
theorem dX10_add_45 : decode cX10_add 45 = .ok (.aload_n 0, 1) := dX10_add_41_b.2.2.1
theorem dX10_add_46 : decode cX10_add 46 = .ok (.getfield 330, 3) := dX10_add_41_b.2.2.2.1
theorem dX10_add_49 : decode cX10_add 49 = .ok (.iload 5, 2) := dX10_add_41_b.2.2.2.2.1
theorem dX10_add_51 : decode cX10_add 51 = .ok (.iastore, 1) := dX10_add_41_b.2.2.2.2.2
set_option maxRecDepth 20000 in
theorem dX10_add_52_b : (decode cX10_add 52 = .ok (.aload_n 0, 1)) ∧ (decode cX10_add 53 = .ok (.dup, 1)) ∧ (decode cX10_add 54 = .ok (.getfield 330, 3)) ∧ (decode cX10_add 57 = .ok (.iconst 1, 1)) ∧ (decode cX10_add 58 = .ok (.iadd, 1)) ∧ (decode cX10_add 59 = .ok (.putfield 330, 3)) := by decide +kernel
theorem dX10_add_52 : decode cX10_add 52 = .ok (.aload_n 0, 1) := dX10_add_52_b.1
theorem dX10_add_53 : decode cX10_add 53 = .ok (.dup, 1) := dX10_add_52_b.2.1
theorem dX10_add_54 : decode cX10_add 54 = .ok (.getfield 330, 3) := dX10_add_52_b.2.2.1
theorem dX10_add_57 : decode cX10_add 57 = .ok (.iconst 1, 1) := dX10_add_52_b.2.2.2.1
theorem dX10_add_58 : decode cX10_add 58 = .ok (.iadd, 1) := dX10_add_52_b.2.2.2.2.1
theorem dX10_add_59 : decode cX10_add 59 = .ok (.putfield 330, 3) := dX10_add_52_b.2.2.2.2.2
set_option maxRecDepth 20000 in
theorem dX10_add_62_b : (decode cX10_add 62 = .ok (.aload_n 0, 1)) ∧ (decode cX10_add 63 = .ok (.dup, 1)) ∧ (decode cX10_add 64 = .ok (.getfield 333, 3)) ∧ (decode cX10_add 67 = .ok (.iload 5, 2)) ∧ (decode cX10_add 69 = .ok (.iadd, 1)) ∧ (decode cX10_add 70 = .ok (.putfield 333, 3)) := by decide +kernel
theorem dX10_add_62 : decode cX10_add 62 = .ok (.aload_n 0, 1) := dX10_add_62_b.1
theorem dX10_add_63 : decode cX10_add 63 = .ok (.dup, 1) := dX10_add_62_b.2.1
theorem dX10_add_64 : decode cX10_add 64 = .ok (.getfield 333, 3) := dX10_add_62_b.2.2.1
theorem dX10_add_67 : decode cX10_add 67 = .ok (.iload 5, 2) := dX10_add_62_b.2.2.2.1
theorem dX10_add_69 : decode cX10_add 69 = .ok (.iadd, 1) := dX10_add_62_b.2.2.2.2.1
theorem dX10_add_70 : decode cX10_add 70 = .ok (.putfield 333, 3) := dX10_add_62_b.2.2.2.2.2
theorem dX10_add_73 : decode cX10_add 73 = .ok (.return_, 1) := by decide +kernel
set_option maxRecDepth 20000 in
theorem dX10_load_0_b : (decode cX10_load 0 = .ok (.aload_n 0, 1)) ∧ (decode cX10_load 1 = .ok (.iconst 0, 1)) ∧ (decode cX10_load 2 = .ok (.putfield 171, 3)) ∧ (decode cX10_load 5 = .ok (.aload_n 0, 1)) ∧ (decode cX10_load 6 = .ok (.iload_n 1, 1)) ∧ (decode cX10_load 7 = .ok (.invokevirtual 349, 3)) := by decide +kernel
theorem dX10_load_0 : decode cX10_load 0 = .ok (.aload_n 0, 1) := dX10_load_0_b.1
theorem dX10_load_1 : decode cX10_load 1 = .ok (.iconst 0, 1) := dX10_load_0_b.2.1
theorem dX10_load_2 : decode cX10_load 2 = .ok (.putfield 171, 3) := dX10_load_0_b.2.2.1
theorem dX10_load_5 : decode cX10_load 5 = .ok (.aload_n 0, 1) := dX10_load_0_b.2.2.2.1
theorem dX10_load_6 : decode cX10_load 6 = .ok (.iload_n 1, 1) := dX10_load_0_b.2.2.2.2.1
theorem dX10_load_7 : decode cX10_load 7 = .ok (.invokevirtual 349, 3) := dX10_load_0_b.2.2.2.2.2
set_option maxRecDepth 20000 in
theorem dX10_load_10_b : (decode cX10_load 10 = .ok (.ifCond .eq 12, 3)) ∧ (decode cX10_load 13 = .ok (.iload_n 2, 1)) ∧ (decode cX10_load 14 = .ok (.iconst 0, 1)) ∧ (decode cX10_load 15 = .ok (.iconst 1, 1)) ∧ (decode cX10_load 16 = .ok (.invokestatic 177, 3)) ∧ (decode cX10_load 19 = .ok (.ifCond .ne 9, 3)) := by decide +kernel
theorem dX10_load_10 : decode cX10_load 10 = .ok (.ifCond .eq 12, 3) := dX10_load_10_b.1
theorem dX10_load_13 : decode cX10_load 13 = .ok (.iload_n 2, 1) := dX10_load_10_b.2.1
theorem dX10_load_14 : decode cX10_load 14 = .ok (.iconst 0, 1) := dX10_load_10_b.2.2.1
theorem dX10_load_15 : decode cX10_load 15 = .ok (.iconst 1, 1) := dX10_load_10_b.2.2.2.1
theorem dX10_load_16 : decode cX10_load 16 = .ok (.invokestatic 177, 3) := dX10_load_10_b.2.2.2.2.1
theorem dX10_load_19 : decode cX10_load 19 = .ok (.ifCond .ne 9, 3) := dX10_load_10_b.2.2.2.2.2
set_option maxRecDepth 20000 in
theorem dX10_load_22_b : (decode cX10_load 22 = .ok (.aload_n 0, 1)) ∧ (decode cX10_load 23 = .ok (.iconst 1, 1)) ∧ (decode cX10_load 24 = .ok (.invokevirtual 412, 3)) ∧ (decode cX10_load 27 = .ok (.ireturn, 1)) ∧ (decode cX10_load 28 = .ok (.aload_n 0, 1)) ∧ (decode cX10_load 29 = .ok (.getfield 87, 3)) := by decide +kernel
theorem dX10_load_22 : decode cX10_load 22 = .ok (.aload_n 0, 1) := dX10_load_22_b.1
theorem dX10_load_23 : decode cX10_load 23 = .ok (.iconst 1, 1) := dX10_load_22_b.2.1
theorem dX10_load_24 : decode cX10_load 24 = .ok (.invokevirtual 412, 3) := dX10_load_22_b.2.2.1
theorem dX10_load_27 : decode cX10_load 27 = .ok (.ireturn, 1) := dX10_load_22_b.2.2.2.1
theorem dX10_load_28 : decode cX10_load 28 = .ok (.aload_n 0, 1) := dX10_load_22_b.2.2.2.2.1
theorem dX10_load_29 : decode cX10_load 29 = .ok (.getfield 87, 3) := dX10_load_22_b.2.2.2.2.2
set_option maxRecDepth 20000 in
theorem dX10_load_32_b : (decode cX10_load 32 = .ok (.iload_n 1, 1)) ∧ (decode cX10_load 33 = .ok (.iaload, 1)) ∧ (decode cX10_load 34 = .ok (.istore_n 3, 1)) ∧ (decode cX10_load 35 = .ok (.iload_n 3, 1)) ∧ (decode cX10_load 36 = .ok (.bipush 12, 2)) ∧ (decode cX10_load 38 = .ok (.if_icmp .eq 18, 3)) := by decide +kernel
theorem dX10_load_32 : decode cX10_load 32 = .ok (.iload_n 1, 1) := dX10_load_32_b.1
theorem dX10_load_33 : decode cX10_load 33 = .ok (.iaload, 1) := dX10_load_32_b.2.1
theorem dX10_load_34 : decode cX10_load 34 = .ok (.istore_n 3, 1) := dX10_load_32_b.2.2.1
theorem dX10_load_35 : decode cX10_load 35 = .ok (.iload_n 3, 1) := dX10_load_32_b.2.2.2.1
theorem dX10_load_36 : decode cX10_load 36 = .ok (.bipush 12, 2) := dX10_load_32_b.2.2.2.2.1
theorem dX10_load_38 : decode cX10_load 38 = .ok (.if_icmp .eq 18, 3) := dX10_load_32_b.2.2.2.2.2
set_option maxRecDepth 20000 in
theorem dX10_load_41_b : (decode cX10_load 41 = .ok (.iload_n 3, 1)) ∧ (decode cX10_load 42 = .ok (.bipush 13, 2)) ∧ (decode cX10_load 44 = .ok (.if_icmp .eq 12, 3)) ∧ (decode cX10_load 47 = .ok (.aload_n 0, 1)) ∧ (decode cX10_load 48 = .ok (.iload_n 1, 1)) ∧ (decode cX10_load 49 = .ok (.iload_n 3, 1)) := by decide +kernel
theorem dX10_load_41 : decode cX10_load 41 = .ok (.iload_n 3, 1) := dX10_load_41_b.1
theorem dX10_load_42 : decode cX10_load 42 = .ok (.bipush 13, 2) := dX10_load_41_b.2.1
theorem dX10_load_44 : decode cX10_load 44 = .ok (.if_icmp .eq 12, 3) := dX10_load_41_b.2.2.1
theorem dX10_load_47 : decode cX10_load 47 = .ok (.aload_n 0, 1) := dX10_load_41_b.2.2.2.1
theorem dX10_load_48 : decode cX10_load 48 = .ok (.iload_n 1, 1) := dX10_load_41_b.2.2.2.2.1
theorem dX10_load_49 : decode cX10_load 49 = .ok (.iload_n 3, 1) := dX10_load_41_b.2.2.2.2.2
set_option maxRecDepth 20000 in
theorem dX10_load_50_b : (decode cX10_load 50 = .ok (.invokevirtual 355, 3)) ∧ (decode cX10_load 53 = .ok (.ifCond .eq 9, 3)) ∧ (decode cX10_load 56 = .ok (.aload_n 0, 1)) ∧ (decode cX10_load 57 = .ok (.iconst 2, 1)) ∧ (decode cX10_load 58 = .ok (.invokevirtual 412, 3)) ∧ (decode cX10_load 61 = .ok (.ireturn, 1)) := by decide +kernel
theorem dX10_load_50 : decode cX10_load 50 = .ok (.invokevirtual 355, 3) := dX10_load_50_b.1
theorem dX10_load_53 : decode cX10_load 53 = .ok (.ifCond .eq 9, 3) := dX10_load_50_b.2.1
theorem dX10_load_56 : decode cX10_load 56 = .ok (.aload_n 0, 1) := dX10_load_50_b.2.2.1
theorem dX10_load_57 : decode cX10_load 57 = .ok (.iconst 2, 1) := dX10_load_50_b.2.2.2.1
theorem dX10_load_58 : decode cX10_load 58 = .ok (.invokevirtual 412, 3) := dX10_load_50_b.2.2.2.2.1
theorem dX10_load_61 : decode cX10_load 61 = .ok (.ireturn, 1) := dX10_load_50_b.2.2.2.2.2
set_option maxRecDepth 20000 in
theorem dX10_load_62_b : (decode cX10_load 62 = .ok (.aload_n 0, 1)) ∧ (decode cX10_load 63 = .ok (.iload_n 2, 1)) ∧ (decode cX10_load 64 = .ok (.aload_n 0, 1)) ∧ (decode cX10_load 65 = .ok (.getfield 327, 3)) ∧ (decode cX10_load 68 = .ok (.invokevirtual 352, 3)) ∧ (decode cX10_load 71 = .ok (.iload_n 3, 1)) := by decide +kernel
theorem dX10_load_62 : decode cX10_load 62 = .ok (.aload_n 0, 1) := dX10_load_62_b.1
theorem dX10_load_63 : decode cX10_load 63 = .ok (.iload_n 2, 1) := dX10_load_62_b.2.1
theorem dX10_load_64 : decode cX10_load 64 = .ok (.aload_n 0, 1) := dX10_load_62_b.2.2.1
theorem dX10_load_65 : decode cX10_load 65 = .ok (.getfield 327, 3) := dX10_load_62_b.2.2.2.1
theorem dX10_load_68 : decode cX10_load 68 = .ok (.invokevirtual 352, 3) := dX10_load_62_b.2.2.2.2.1
theorem dX10_load_71 : decode cX10_load 71 = .ok (.iload_n 3, 1) := dX10_load_62_b.2.2.2.2.2
set_option maxRecDepth 20000 in
theorem dX10_load_72_b : (decode cX10_load 72 = .ok (.if_icmp .eq 9, 3)) ∧ (decode cX10_load 75 = .ok (.aload_n 0, 1)) ∧ (decode cX10_load 76 = .ok (.iconst 3, 1)) ∧ (decode cX10_load 77 = .ok (.invokevirtual 412, 3)) ∧ (decode cX10_load 80 = .ok (.ireturn, 1)) ∧ (decode cX10_load 81 = .ok (.aload_n 0, 1)) := by decide +kernel
theorem dX10_load_72 : decode cX10_load 72 = .ok (.if_icmp .eq 9, 3) := dX10_load_72_b.1
theorem dX10_load_75 : decode cX10_load 75 = .ok (.aload_n 0, 1) := dX10_load_72_b.2.1
theorem dX10_load_76 : decode cX10_load 76 = .ok (.iconst 3, 1) := dX10_load_72_b.2.2.1
theorem dX10_load_77 : decode cX10_load 77 = .ok (.invokevirtual 412, 3) := dX10_load_72_b.2.2.2.1
theorem dX10_load_80 : decode cX10_load 80 = .ok (.ireturn, 1) := dX10_load_72_b.2.2.2.2.1
theorem dX10_load_81 : decode cX10_load 81 = .ok (.aload_n 0, 1) := dX10_load_72_b.2.2.2.2.2
set_option maxRecDepth 20000 in
theorem dX10_load_82_b : (decode cX10_load 82 = .ok (.getfield 330, 3)) ∧ (decode cX10_load 85 = .ok (.bipush 60, 2)) ∧ (decode cX10_load 87 = .ok (.if_icmp .ne 10, 3)) ∧ (decode cX10_load 90 = .ok (.aload_n 0, 1)) ∧ (decode cX10_load 91 = .ok (.bipush 8, 2)) ∧ (decode cX10_load 93 = .ok (.invokevirtual 412, 3)) := by decide +kernel
theorem dX10_load_82 : decode cX10_load 82 = .ok (.getfield 330, 3) := dX10_load_82_b.1
theorem dX10_load_85 : decode cX10_load 85 = .ok (.bipush 60, 2) := dX10_load_82_b.2.1
theorem dX10_load_87 : decode cX10_load 87 = .ok (.if_icmp .ne 10, 3) := dX10_load_82_b.2.2.1
theorem dX10_load_90 : decode cX10_load 90 = .ok (.aload_n 0, 1) := dX10_load_82_b.2.2.2.1
theorem dX10_load_91 : decode cX10_load 91 = .ok (.bipush 8, 2) := dX10_load_82_b.2.2.2.2.1
theorem dX10_load_93 : decode cX10_load 93 = .ok (.invokevirtual 412, 3) := dX10_load_82_b.2.2.2.2.2
set_option maxRecDepth 20000 in
theorem dX10_load_96_b : (decode cX10_load 96 = .ok (.ireturn, 1)) ∧ (decode cX10_load 97 = .ok (.aload_n 0, 1)) ∧ (decode cX10_load 98 = .ok (.iconst 0, 1)) ∧ (decode cX10_load 99 = .ok (.iload_n 1, 1)) ∧ (decode cX10_load 100 = .ok (.iload_n 2, 1)) ∧ (decode cX10_load 101 = .ok (.iload_n 3, 1)) := by decide +kernel
theorem dX10_load_96 : decode cX10_load 96 = .ok (.ireturn, 1) := dX10_load_96_b.1
theorem dX10_load_97 : decode cX10_load 97 = .ok (.aload_n 0, 1) := dX10_load_96_b.2.1
theorem dX10_load_98 : decode cX10_load 98 = .ok (.iconst 0, 1) := dX10_load_96_b.2.2.1
theorem dX10_load_99 : decode cX10_load 99 = .ok (.iload_n 1, 1) := dX10_load_96_b.2.2.2.1
theorem dX10_load_100 : decode cX10_load 100 = .ok (.iload_n 2, 1) := dX10_load_96_b.2.2.2.2.1
theorem dX10_load_101 : decode cX10_load 101 = .ok (.iload_n 3, 1) := dX10_load_96_b.2.2.2.2.2
set_option maxRecDepth 20000 in
theorem dX10_load_102_b : (decode cX10_load 102 = .ok (.iconst 0, 1)) ∧ (decode cX10_load 103 = .ok (.invokevirtual 415, 3)) ∧ (decode cX10_load 106 = .ok (.aload_n 0, 1)) ∧ (decode cX10_load 107 = .ok (.getfield 87, 3)) ∧ (decode cX10_load 110 = .ok (.iload_n 1, 1)) ∧ (decode cX10_load 111 = .ok (.bipush 12, 2)) := by decide +kernel
theorem dX10_load_102 : decode cX10_load 102 = .ok (.iconst 0, 1) := dX10_load_102_b.1
theorem dX10_load_103 : decode cX10_load 103 = .ok (.invokevirtual 415, 3) := dX10_load_102_b.2.1
theorem dX10_load_106 : decode cX10_load 106 = .ok (.aload_n 0, 1) := dX10_load_102_b.2.2.1
theorem dX10_load_107 : decode cX10_load 107 = .ok (.getfield 87, 3) := dX10_load_102_b.2.2.2.1
theorem dX10_load_110 : decode cX10_load 110 = .ok (.iload_n 1, 1) := dX10_load_102_b.2.2.2.2.1
theorem dX10_load_111 : decode cX10_load 111 = .ok (.bipush 12, 2) := dX10_load_102_b.2.2.2.2.2
set_option maxRecDepth 20000 in
theorem dX10_load_113_b : (decode cX10_load 113 = .ok (.iload_n 2, 1)) ∧ (decode cX10_load 114 = .ok (.iadd, 1)) ∧ (decode cX10_load 115 = .ok (.iastore, 1)) ∧ (decode cX10_load 116 = .ok (.iconst 0, 1)) ∧ (decode cX10_load 117 = .ok (.ireturn, 1)) := by decide +kernel
theorem dX10_load_113 : decode cX10_load 113 = .ok (.iload_n 2, 1) := dX10_load_113_b.1
theorem dX10_load_114 : decode cX10_load 114 = .ok (.iadd, 1) := dX10_load_113_b.2.1
theorem dX10_load_115 : decode cX10_load 115 = .ok (.iastore, 1) := dX10_load_113_b.2.2.1
theorem dX10_load_116 : decode cX10_load 116 = .ok (.iconst 0, 1) := dX10_load_113_b.2.2.2.1
theorem dX10_load_117 : decode cX10_load 117 = .ok (.ireturn, 1) := dX10_load_113_b.2.2.2.2
set_option maxRecDepth 20000 in
theorem dX10_unloadedAt_0_b : (decode cX10_unloadedAt 0 = .ok (.aload_n 0, 1)) ∧ (decode cX10_unloadedAt 1 = .ok (.getfield 57, 3)) ∧ (decode cX10_unloadedAt 4 = .ok (.iload_n 1, 1)) ∧ (decode cX10_unloadedAt 5 = .ok (.iaload, 1)) ∧ (decode cX10_unloadedAt 6 = .ok (.iconst 3, 1)) ∧ (decode cX10_unloadedAt 7 = .ok (.if_icmp .ne 18, 3)) := by decide +kernel
theorem dX10_unloadedAt_0 : decode cX10_unloadedAt 0 = .ok (.aload_n 0, 1) := dX10_unloadedAt_0_b.1
theorem dX10_unloadedAt_1 : decode cX10_unloadedAt 1 = .ok (.getfield 57, 3) := dX10_unloadedAt_0_b.2.1
theorem dX10_unloadedAt_4 : decode cX10_unloadedAt 4 = .ok (.iload_n 1, 1) := dX10_unloadedAt_0_b.2.2.1
theorem dX10_unloadedAt_5 : decode cX10_unloadedAt 5 = .ok (.iaload, 1) := dX10_unloadedAt_0_b.2.2.2.1
theorem dX10_unloadedAt_6 : decode cX10_unloadedAt 6 = .ok (.iconst 3, 1) := dX10_unloadedAt_0_b.2.2.2.2.1
theorem dX10_unloadedAt_7 : decode cX10_unloadedAt 7 = .ok (.if_icmp .ne 18, 3) := dX10_unloadedAt_0_b.2.2.2.2.2
set_option maxRecDepth 20000 in
theorem dX10_unloadedAt_10_b : (decode cX10_unloadedAt 10 = .ok (.aload_n 0, 1)) ∧ (decode cX10_unloadedAt 11 = .ok (.getfield 65, 3)) ∧ (decode cX10_unloadedAt 14 = .ok (.iload_n 1, 1)) ∧ (decode cX10_unloadedAt 15 = .ok (.iaload, 1)) ∧ (decode cX10_unloadedAt 16 = .ok (.iload_n 2, 1)) ∧ (decode cX10_unloadedAt 17 = .ok (.if_icmp .ne 8, 3)) := by decide +kernel
theorem dX10_unloadedAt_10 : decode cX10_unloadedAt 10 = .ok (.aload_n 0, 1) := dX10_unloadedAt_10_b.1
theorem dX10_unloadedAt_11 : decode cX10_unloadedAt 11 = .ok (.getfield 65, 3) := dX10_unloadedAt_10_b.2.1
theorem dX10_unloadedAt_14 : decode cX10_unloadedAt 14 = .ok (.iload_n 1, 1) := dX10_unloadedAt_10_b.2.2.1
theorem dX10_unloadedAt_15 : decode cX10_unloadedAt 15 = .ok (.iaload, 1) := dX10_unloadedAt_10_b.2.2.2.1
theorem dX10_unloadedAt_16 : decode cX10_unloadedAt 16 = .ok (.iload_n 2, 1) := dX10_unloadedAt_10_b.2.2.2.2.1
theorem dX10_unloadedAt_17 : decode cX10_unloadedAt 17 = .ok (.if_icmp .ne 8, 3) := dX10_unloadedAt_10_b.2.2.2.2.2
set_option maxRecDepth 20000 in
theorem dX10_unloadedAt_20_b : (decode cX10_unloadedAt 20 = .ok (.bipush 14, 2)) ∧ (decode cX10_unloadedAt 22 = .ok (.goto 4, 3)) ∧ (decode cX10_unloadedAt 25 = .ok (.iload_n 2, 1)) ∧ (decode cX10_unloadedAt 26 = .ok (.ireturn, 1)) := by decide +kernel
theorem dX10_unloadedAt_20 : decode cX10_unloadedAt 20 = .ok (.bipush 14, 2) := dX10_unloadedAt_20_b.1
theorem dX10_unloadedAt_22 : decode cX10_unloadedAt 22 = .ok (.goto 4, 3) := dX10_unloadedAt_20_b.2.1
theorem dX10_unloadedAt_25 : decode cX10_unloadedAt 25 = .ok (.iload_n 2, 1) := dX10_unloadedAt_20_b.2.2.1
theorem dX10_unloadedAt_26 : decode cX10_unloadedAt 26 = .ok (.ireturn, 1) := dX10_unloadedAt_20_b.2.2.2
set_option maxRecDepth 20000 in
theorem dX10_unload_0_b : (decode cX10_unload 0 = .ok (.aload_n 0, 1)) ∧ (decode cX10_unload 1 = .ok (.iconst 0, 1)) ∧ (decode cX10_unload 2 = .ok (.putfield 171, 3)) ∧ (decode cX10_unload 5 = .ok (.aload_n 0, 1)) ∧ (decode cX10_unload 6 = .ok (.iload_n 1, 1)) ∧ (decode cX10_unload 7 = .ok (.invokevirtual 349, 3)) := by decide +kernel
theorem dX10_unload_0 : decode cX10_unload 0 = .ok (.aload_n 0, 1) := dX10_unload_0_b.1
theorem dX10_unload_1 : decode cX10_unload 1 = .ok (.iconst 0, 1) := dX10_unload_0_b.2.1
theorem dX10_unload_2 : decode cX10_unload 2 = .ok (.putfield 171, 3) := dX10_unload_0_b.2.2.1
theorem dX10_unload_5 : decode cX10_unload 5 = .ok (.aload_n 0, 1) := dX10_unload_0_b.2.2.2.1
theorem dX10_unload_6 : decode cX10_unload 6 = .ok (.iload_n 1, 1) := dX10_unload_0_b.2.2.2.2.1
theorem dX10_unload_7 : decode cX10_unload 7 = .ok (.invokevirtual 349, 3) := dX10_unload_0_b.2.2.2.2.2
set_option maxRecDepth 20000 in
theorem dX10_unload_10_b : (decode cX10_unload 10 = .ok (.ifCond .ne 9, 3)) ∧ (decode cX10_unload 13 = .ok (.aload_n 0, 1)) ∧ (decode cX10_unload 14 = .ok (.iconst 1, 1)) ∧ (decode cX10_unload 15 = .ok (.invokevirtual 412, 3)) ∧ (decode cX10_unload 18 = .ok (.ireturn, 1)) ∧ (decode cX10_unload 19 = .ok (.aload_n 0, 1)) := by decide +kernel
theorem dX10_unload_10 : decode cX10_unload 10 = .ok (.ifCond .ne 9, 3) := dX10_unload_10_b.1
theorem dX10_unload_13 : decode cX10_unload 13 = .ok (.aload_n 0, 1) := dX10_unload_10_b.2.1
theorem dX10_unload_14 : decode cX10_unload 14 = .ok (.iconst 1, 1) := dX10_unload_10_b.2.2.1
theorem dX10_unload_15 : decode cX10_unload 15 = .ok (.invokevirtual 412, 3) := dX10_unload_10_b.2.2.2.1
theorem dX10_unload_18 : decode cX10_unload 18 = .ok (.ireturn, 1) := dX10_unload_10_b.2.2.2.2.1
theorem dX10_unload_19 : decode cX10_unload 19 = .ok (.aload_n 0, 1) := dX10_unload_10_b.2.2.2.2.2
set_option maxRecDepth 20000 in
theorem dX10_unload_20_b : (decode cX10_unload 20 = .ok (.getfield 87, 3)) ∧ (decode cX10_unload 23 = .ok (.iload_n 1, 1)) ∧ (decode cX10_unload 24 = .ok (.iaload, 1)) ∧ (decode cX10_unload 25 = .ok (.istore_n 2, 1)) ∧ (decode cX10_unload 26 = .ok (.iload_n 2, 1)) ∧ (decode cX10_unload 27 = .ok (.bipush 12, 2)) := by decide +kernel
theorem dX10_unload_20 : decode cX10_unload 20 = .ok (.getfield 87, 3) := dX10_unload_20_b.1
theorem dX10_unload_23 : decode cX10_unload 23 = .ok (.iload_n 1, 1) := dX10_unload_20_b.2.1
theorem dX10_unload_24 : decode cX10_unload 24 = .ok (.iaload, 1) := dX10_unload_20_b.2.2.1
theorem dX10_unload_25 : decode cX10_unload 25 = .ok (.istore_n 2, 1) := dX10_unload_20_b.2.2.2.1
theorem dX10_unload_26 : decode cX10_unload 26 = .ok (.iload_n 2, 1) := dX10_unload_20_b.2.2.2.2.1
theorem dX10_unload_27 : decode cX10_unload 27 = .ok (.bipush 12, 2) := dX10_unload_20_b.2.2.2.2.2
set_option maxRecDepth 20000 in
theorem dX10_unload_29_b : (decode cX10_unload 29 = .ok (.if_icmp .eq 15, 3)) ∧ (decode cX10_unload 32 = .ok (.iload_n 2, 1)) ∧ (decode cX10_unload 33 = .ok (.bipush 13, 2)) ∧ (decode cX10_unload 35 = .ok (.if_icmp .eq 9, 3)) ∧ (decode cX10_unload 38 = .ok (.aload_n 0, 1)) := by decide +kernel
theorem dX10_unload_29 : decode cX10_unload 29 = .ok (.if_icmp .eq 15, 3) := dX10_unload_29_b.1
theorem dX10_unload_32 : decode cX10_unload 32 = .ok (.iload_n 2, 1) := dX10_unload_29_b.2.1
theorem dX10_unload_33 : decode cX10_unload 33 = .ok (.bipush 13, 2) := dX10_unload_29_b.2.2.1
theorem dX10_unload_35 : decode cX10_unload 35 = .ok (.if_icmp .eq 9, 3) := dX10_unload_29_b.2.2.2.1
theorem dX10_unload_38 : decode cX10_unload 38 = .ok (.aload_n 0, 1) := dX10_unload_29_b.2.2.2.2
