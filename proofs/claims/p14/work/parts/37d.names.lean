set_option maxRecDepth 20000 in
theorem dX9_town_115_b : (decode cX9_town 115 = .ok (.invokevirtual 90, 3)) ∧ (decode cX9_town 118 = .ok (.iconst 0, 1)) ∧ (decode cX9_town 119 = .ok (.ireturn, 1)) := by decide +kernel
theorem dX9_town_115 : decode cX9_town 115 = .ok (.invokevirtual 90, 3) := dX9_town_115_b.1
theorem dX9_town_118 : decode cX9_town 118 = .ok (.iconst 0, 1) := dX9_town_115_b.2.1
theorem dX9_town_119 : decode cX9_town 119 = .ok (.ireturn, 1) := dX9_town_115_b.2.2
set_option maxRecDepth 20000 in
theorem dX9_fault_0_b : (decode cX9_fault 0 = .ok (.aload_n 0, 1)) ∧ (decode cX9_fault 1 = .ok (.getfield 17, 3)) ∧ (decode cX9_fault 4 = .ok (.ireturn, 1)) := by decide +kernel
theorem dX9_fault_0 : decode cX9_fault 0 = .ok (.aload_n 0, 1) := dX9_fault_0_b.1
theorem dX9_fault_1 : decode cX9_fault 1 = .ok (.getfield 17, 3) := dX9_fault_0_b.2.1
theorem dX9_fault_4 : decode cX9_fault 4 = .ok (.ireturn, 1) := dX9_fault_0_b.2.2
set_option maxRecDepth 20000 in
theorem dX9_count_0_b : (decode cX9_count 0 = .ok (.iload_n 1, 1)) ∧ (decode cX9_count 1 = .ok (.tableswitch 228 0 16 #[83, 91, 99, 107, 115, 123, 131, 139, 150, 161, 169, 177, 185, 193, 198, 208, 218], 83)) ∧ (decode cX9_count 84 = .ok (.aload_n 0, 1)) ∧ (decode cX9_count 85 = .ok (.getfield 23, 3)) ∧ (decode cX9_count 88 = .ok (.getfield 93, 3)) ∧ (decode cX9_count 91 = .ok (.ireturn, 1)) := by decide +kernel
theorem dX9_count_0 : decode cX9_count 0 = .ok (.iload_n 1, 1) := dX9_count_0_b.1
theorem dX9_count_1 : decode cX9_count 1 = .ok (.tableswitch 228 0 16 #[83, 91, 99, 107, 115, 123, 131, 139, 150, 161, 169, 177, 185, 193, 198, 208, 218], 83) := dX9_count_0_b.2.1
theorem dX9_count_84 : decode cX9_count 84 = .ok (.aload_n 0, 1) := dX9_count_0_b.2.2.1
theorem dX9_count_85 : decode cX9_count 85 = .ok (.getfield 23, 3) := dX9_count_0_b.2.2.2.1
theorem dX9_count_88 : decode cX9_count 88 = .ok (.getfield 93, 3) := dX9_count_0_b.2.2.2.2.1
theorem dX9_count_91 : decode cX9_count 91 = .ok (.ireturn, 1) := dX9_count_0_b.2.2.2.2.2
set_option maxRecDepth 20000 in
theorem dX9_count_92_b : (decode cX9_count 92 = .ok (.aload_n 0, 1)) ∧ (decode cX9_count 93 = .ok (.getfield 23, 3)) ∧ (decode cX9_count 96 = .ok (.getfield 96, 3)) ∧ (decode cX9_count 99 = .ok (.ireturn, 1)) ∧ (decode cX9_count 100 = .ok (.aload_n 0, 1)) ∧ (decode cX9_count 101 = .ok (.getfield 23, 3)) := by decide +kernel
theorem dX9_count_92 : decode cX9_count 92 = .ok (.aload_n 0, 1) := dX9_count_92_b.1
theorem dX9_count_93 : decode cX9_count 93 = .ok (.getfield 23, 3) := dX9_count_92_b.2.1
theorem dX9_count_96 : decode cX9_count 96 = .ok (.getfield 96, 3) := dX9_count_92_b.2.2.1
theorem dX9_count_99 : decode cX9_count 99 = .ok (.ireturn, 1) := dX9_count_92_b.2.2.2.1
theorem dX9_count_100 : decode cX9_count 100 = .ok (.aload_n 0, 1) := dX9_count_92_b.2.2.2.2.1
theorem dX9_count_101 : decode cX9_count 101 = .ok (.getfield 23, 3) := dX9_count_92_b.2.2.2.2.2
set_option maxRecDepth 20000 in
theorem dX9_count_104_b : (decode cX9_count 104 = .ok (.getfield 99, 3)) ∧ (decode cX9_count 107 = .ok (.ireturn, 1)) ∧ (decode cX9_count 108 = .ok (.aload_n 0, 1)) ∧ (decode cX9_count 109 = .ok (.getfield 23, 3)) ∧ (decode cX9_count 112 = .ok (.getfield 102, 3)) ∧ (decode cX9_count 115 = .ok (.ireturn, 1)) := by decide +kernel
theorem dX9_count_104 : decode cX9_count 104 = .ok (.getfield 99, 3) := dX9_count_104_b.1
theorem dX9_count_107 : decode cX9_count 107 = .ok (.ireturn, 1) := dX9_count_104_b.2.1
theorem dX9_count_108 : decode cX9_count 108 = .ok (.aload_n 0, 1) := dX9_count_104_b.2.2.1
theorem dX9_count_109 : decode cX9_count 109 = .ok (.getfield 23, 3) := dX9_count_104_b.2.2.2.1
theorem dX9_count_112 : decode cX9_count 112 = .ok (.getfield 102, 3) := dX9_count_104_b.2.2.2.2.1
theorem dX9_count_115 : decode cX9_count 115 = .ok (.ireturn, 1) := dX9_count_104_b.2.2.2.2.2
set_option maxRecDepth 20000 in
theorem dX9_count_116_b : (decode cX9_count 116 = .ok (.aload_n 0, 1)) ∧ (decode cX9_count 117 = .ok (.getfield 23, 3)) ∧ (decode cX9_count 120 = .ok (.getfield 105, 3)) ∧ (decode cX9_count 123 = .ok (.ireturn, 1)) ∧ (decode cX9_count 124 = .ok (.aload_n 0, 1)) ∧ (decode cX9_count 125 = .ok (.getfield 23, 3)) := by decide +kernel
theorem dX9_count_116 : decode cX9_count 116 = .ok (.aload_n 0, 1) := dX9_count_116_b.1
theorem dX9_count_117 : decode cX9_count 117 = .ok (.getfield 23, 3) := dX9_count_116_b.2.1
theorem dX9_count_120 : decode cX9_count 120 = .ok (.getfield 105, 3) := dX9_count_116_b.2.2.1
theorem dX9_count_123 : decode cX9_count 123 = .ok (.ireturn, 1) := dX9_count_116_b.2.2.2.1
theorem dX9_count_124 : decode cX9_count 124 = .ok (.aload_n 0, 1) := dX9_count_116_b.2.2.2.2.1
theorem dX9_count_125 : decode cX9_count 125 = .ok (.getfield 23, 3) := dX9_count_116_b.2.2.2.2.2
set_option maxRecDepth 20000 in
theorem dX9_count_128_b : (decode cX9_count 128 = .ok (.getfield 108, 3)) ∧ (decode cX9_count 131 = .ok (.ireturn, 1)) ∧ (decode cX9_count 132 = .ok (.aload_n 0, 1)) ∧ (decode cX9_count 133 = .ok (.getfield 23, 3)) ∧ (decode cX9_count 136 = .ok (.getfield 111, 3)) ∧ (decode cX9_count 139 = .ok (.ireturn, 1)) := by decide +kernel
theorem dX9_count_128 : decode cX9_count 128 = .ok (.getfield 108, 3) := dX9_count_128_b.1
theorem dX9_count_131 : decode cX9_count 131 = .ok (.ireturn, 1) := dX9_count_128_b.2.1
theorem dX9_count_132 : decode cX9_count 132 = .ok (.aload_n 0, 1) := dX9_count_128_b.2.2.1
theorem dX9_count_133 : decode cX9_count 133 = .ok (.getfield 23, 3) := dX9_count_128_b.2.2.2.1
theorem dX9_count_136 : decode cX9_count 136 = .ok (.getfield 111, 3) := dX9_count_128_b.2.2.2.2.1
theorem dX9_count_139 : decode cX9_count 139 = .ok (.ireturn, 1) := dX9_count_128_b.2.2.2.2.2
set_option maxRecDepth 20000 in
theorem dX9_count_140_b : (decode cX9_count 140 = .ok (.aload_n 0, 1)) ∧ (decode cX9_count 141 = .ok (.getfield 23, 3)) ∧ (decode cX9_count 144 = .ok (.getfield 114, 3)) ∧ (decode cX9_count 147 = .ok (.getfield 118, 3)) ∧ (decode cX9_count 150 = .ok (.ireturn, 1)) ∧ (decode cX9_count 151 = .ok (.aload_n 0, 1)) := by decide +kernel
theorem dX9_count_140 : decode cX9_count 140 = .ok (.aload_n 0, 1) := dX9_count_140_b.1
theorem dX9_count_141 : decode cX9_count 141 = .ok (.getfield 23, 3) := dX9_count_140_b.2.1
theorem dX9_count_144 : decode cX9_count 144 = .ok (.getfield 114, 3) := dX9_count_140_b.2.2.1
theorem dX9_count_147 : decode cX9_count 147 = .ok (.getfield 118, 3) := dX9_count_140_b.2.2.2.1
theorem dX9_count_150 : decode cX9_count 150 = .ok (.ireturn, 1) := dX9_count_140_b.2.2.2.2.1
theorem dX9_count_151 : decode cX9_count 151 = .ok (.aload_n 0, 1) := dX9_count_140_b.2.2.2.2.2
set_option maxRecDepth 20000 in
theorem dX9_count_152_b : (decode cX9_count 152 = .ok (.getfield 42, 3)) ∧ (decode cX9_count 155 = .ok (.getfield 123, 3)) ∧ (decode cX9_count 158 = .ok (.invokestatic 126, 3)) ∧ (decode cX9_count 161 = .ok (.ireturn, 1)) ∧ (decode cX9_count 162 = .ok (.aload_n 0, 1)) ∧ (decode cX9_count 163 = .ok (.getfield 42, 3)) := by decide +kernel
theorem dX9_count_152 : decode cX9_count 152 = .ok (.getfield 42, 3) := dX9_count_152_b.1
theorem dX9_count_155 : decode cX9_count 155 = .ok (.getfield 123, 3) := dX9_count_152_b.2.1
theorem dX9_count_158 : decode cX9_count 158 = .ok (.invokestatic 126, 3) := dX9_count_152_b.2.2.1
theorem dX9_count_161 : decode cX9_count 161 = .ok (.ireturn, 1) := dX9_count_152_b.2.2.2.1
theorem dX9_count_162 : decode cX9_count 162 = .ok (.aload_n 0, 1) := dX9_count_152_b.2.2.2.2.1
theorem dX9_count_163 : decode cX9_count 163 = .ok (.getfield 42, 3) := dX9_count_152_b.2.2.2.2.2
set_option maxRecDepth 20000 in
theorem dX9_count_166_b : (decode cX9_count 166 = .ok (.getfield 132, 3)) ∧ (decode cX9_count 169 = .ok (.ireturn, 1)) ∧ (decode cX9_count 170 = .ok (.aload_n 0, 1)) ∧ (decode cX9_count 171 = .ok (.getfield 42, 3)) ∧ (decode cX9_count 174 = .ok (.getfield 135, 3)) ∧ (decode cX9_count 177 = .ok (.ireturn, 1)) := by decide +kernel
theorem dX9_count_166 : decode cX9_count 166 = .ok (.getfield 132, 3) := dX9_count_166_b.1
theorem dX9_count_169 : decode cX9_count 169 = .ok (.ireturn, 1) := dX9_count_166_b.2.1
theorem dX9_count_170 : decode cX9_count 170 = .ok (.aload_n 0, 1) := dX9_count_166_b.2.2.1
theorem dX9_count_171 : decode cX9_count 171 = .ok (.getfield 42, 3) := dX9_count_166_b.2.2.2.1
theorem dX9_count_174 : decode cX9_count 174 = .ok (.getfield 135, 3) := dX9_count_166_b.2.2.2.2.1
theorem dX9_count_177 : decode cX9_count 177 = .ok (.ireturn, 1) := dX9_count_166_b.2.2.2.2.2
set_option maxRecDepth 20000 in
theorem dX9_count_178_b : (decode cX9_count 178 = .ok (.aload_n 0, 1)) ∧ (decode cX9_count 179 = .ok (.getfield 42, 3)) ∧ (decode cX9_count 182 = .ok (.getfield 138, 3)) ∧ (decode cX9_count 185 = .ok (.ireturn, 1)) ∧ (decode cX9_count 186 = .ok (.aload_n 0, 1)) ∧ (decode cX9_count 187 = .ok (.getfield 42, 3)) := by decide +kernel
theorem dX9_count_178 : decode cX9_count 178 = .ok (.aload_n 0, 1) := dX9_count_178_b.1
theorem dX9_count_179 : decode cX9_count 179 = .ok (.getfield 42, 3) := dX9_count_178_b.2.1
theorem dX9_count_182 : decode cX9_count 182 = .ok (.getfield 138, 3) := dX9_count_178_b.2.2.1
theorem dX9_count_185 : decode cX9_count 185 = .ok (.ireturn, 1) := dX9_count_178_b.2.2.2.1
theorem dX9_count_186 : decode cX9_count 186 = .ok (.aload_n 0, 1) := dX9_count_178_b.2.2.2.2.1
theorem dX9_count_187 : decode cX9_count 187 = .ok (.getfield 42, 3) := dX9_count_178_b.2.2.2.2.2
set_option maxRecDepth 20000 in
theorem dX9_count_190_b : (decode cX9_count 190 = .ok (.getfield 141, 3)) ∧ (decode cX9_count 193 = .ok (.ireturn, 1)) ∧ (decode cX9_count 194 = .ok (.aload_n 0, 1)) ∧ (decode cX9_count 195 = .ok (.getfield 13, 3)) ∧ (decode cX9_count 198 = .ok (.ireturn, 1)) ∧ (decode cX9_count 199 = .ok (.aload_n 0, 1)) := by decide +kernel
theorem dX9_count_190 : decode cX9_count 190 = .ok (.getfield 141, 3) := dX9_count_190_b.1
theorem dX9_count_193 : decode cX9_count 193 = .ok (.ireturn, 1) := dX9_count_190_b.2.1
theorem dX9_count_194 : decode cX9_count 194 = .ok (.aload_n 0, 1) := dX9_count_190_b.2.2.1
theorem dX9_count_195 : decode cX9_count 195 = .ok (.getfield 13, 3) := dX9_count_190_b.2.2.2.1
theorem dX9_count_198 : decode cX9_count 198 = .ok (.ireturn, 1) := dX9_count_190_b.2.2.2.2.1
theorem dX9_count_199 : decode cX9_count 199 = .ok (.aload_n 0, 1) := dX9_count_190_b.2.2.2.2.2
set_option maxRecDepth 20000 in
theorem dX9_count_200_b : (decode cX9_count 200 = .ok (.getfield 42, 3)) ∧ (decode cX9_count 203 = .ok (.getfield 87, 3)) ∧ (decode cX9_count 206 = .ok (.iconst 0, 1)) ∧ (decode cX9_count 207 = .ok (.iaload, 1)) ∧ (decode cX9_count 208 = .ok (.ireturn, 1)) ∧ (decode cX9_count 209 = .ok (.aload_n 0, 1)) := by decide +kernel
theorem dX9_count_200 : decode cX9_count 200 = .ok (.getfield 42, 3) := dX9_count_200_b.1
theorem dX9_count_203 : decode cX9_count 203 = .ok (.getfield 87, 3) := dX9_count_200_b.2.1
theorem dX9_count_206 : decode cX9_count 206 = .ok (.iconst 0, 1) := dX9_count_200_b.2.2.1
theorem dX9_count_207 : decode cX9_count 207 = .ok (.iaload, 1) := dX9_count_200_b.2.2.2.1
theorem dX9_count_208 : decode cX9_count 208 = .ok (.ireturn, 1) := dX9_count_200_b.2.2.2.2.1
theorem dX9_count_209 : decode cX9_count 209 = .ok (.aload_n 0, 1) := dX9_count_200_b.2.2.2.2.2
set_option maxRecDepth 20000 in
theorem dX9_count_210_b : (decode cX9_count 210 = .ok (.getfield 42, 3)) ∧ (decode cX9_count 213 = .ok (.getfield 87, 3)) ∧ (decode cX9_count 216 = .ok (.iconst 1, 1)) ∧ (decode cX9_count 217 = .ok (.iaload, 1)) ∧ (decode cX9_count 218 = .ok (.ireturn, 1)) ∧ (decode cX9_count 219 = .ok (.aload_n 0, 1)) := by decide +kernel
theorem dX9_count_210 : decode cX9_count 210 = .ok (.getfield 42, 3) := dX9_count_210_b.1
theorem dX9_count_213 : decode cX9_count 213 = .ok (.getfield 87, 3) := dX9_count_210_b.2.1
theorem dX9_count_216 : decode cX9_count 216 = .ok (.iconst 1, 1) := dX9_count_210_b.2.2.1
theorem dX9_count_217 : decode cX9_count 217 = .ok (.iaload, 1) := dX9_count_210_b.2.2.2.1
theorem dX9_count_218 : decode cX9_count 218 = .ok (.ireturn, 1) := dX9_count_210_b.2.2.2.2.1
theorem dX9_count_219 : decode cX9_count 219 = .ok (.aload_n 0, 1) := dX9_count_210_b.2.2.2.2.2
set_option maxRecDepth 20000 in
theorem dX9_count_220_b : (decode cX9_count 220 = .ok (.getfield 42, 3)) ∧ (decode cX9_count 223 = .ok (.getfield 87, 3)) ∧ (decode cX9_count 226 = .ok (.iconst 2, 1)) ∧ (decode cX9_count 227 = .ok (.iaload, 1)) ∧ (decode cX9_count 228 = .ok (.ireturn, 1)) ∧ (decode cX9_count 229 = .ok (.new 144, 3)) := by decide +kernel
theorem dX9_count_220 : decode cX9_count 220 = .ok (.getfield 42, 3) := dX9_count_220_b.1
theorem dX9_count_223 : decode cX9_count 223 = .ok (.getfield 87, 3) := dX9_count_220_b.2.1
theorem dX9_count_226 : decode cX9_count 226 = .ok (.iconst 2, 1) := dX9_count_220_b.2.2.1
theorem dX9_count_227 : decode cX9_count 227 = .ok (.iaload, 1) := dX9_count_220_b.2.2.2.1
theorem dX9_count_228 : decode cX9_count 228 = .ok (.ireturn, 1) := dX9_count_220_b.2.2.2.2.1
theorem dX9_count_229 : decode cX9_count 229 = .ok (.new 144, 3) := dX9_count_220_b.2.2.2.2.2
set_option maxRecDepth 20000 in
theorem dX9_count_232_b : (decode cX9_count 232 = .ok (.dup, 1)) ∧ (decode cX9_count 233 = .ok (.ldc 146, 2)) ∧ (decode cX9_count 235 = .ok (.invokespecial 148, 3)) ∧ (decode cX9_count 238 = .ok (.athrow, 1)) := by decide +kernel
theorem dX9_count_232 : decode cX9_count 232 = .ok (.dup, 1) := dX9_count_232_b.1
theorem dX9_count_233 : decode cX9_count 233 = .ok (.ldc 146, 2) := dX9_count_232_b.2.1
theorem dX9_count_235 : decode cX9_count 235 = .ok (.invokespecial 148, 3) := dX9_count_232_b.2.2.1
theorem dX9_count_238 : decode cX9_count 238 = .ok (.athrow, 1) := dX9_count_232_b.2.2.2
set_option maxRecDepth 20000 in
theorem dX9_thing_0_b : (decode cX9_thing 0 = .ok (.aload_n 0, 1)) ∧ (decode cX9_thing 1 = .ok (.getfield 23, 3)) ∧ (decode cX9_thing 4 = .ok (.iload_n 1, 1)) ∧ (decode cX9_thing 5 = .ok (.invokevirtual 149, 3)) ∧ (decode cX9_thing 8 = .ok (.ifCond .ne 13, 3)) ∧ (decode cX9_thing 11 = .ok (.new 144, 3)) := by decide +kernel
theorem dX9_thing_0 : decode cX9_thing 0 = .ok (.aload_n 0, 1) := dX9_thing_0_b.1
theorem dX9_thing_1 : decode cX9_thing 1 = .ok (.getfield 23, 3) := dX9_thing_0_b.2.1
theorem dX9_thing_4 : decode cX9_thing 4 = .ok (.iload_n 1, 1) := dX9_thing_0_b.2.2.1
theorem dX9_thing_5 : decode cX9_thing 5 = .ok (.invokevirtual 149, 3) := dX9_thing_0_b.2.2.2.1
theorem dX9_thing_8 : decode cX9_thing 8 = .ok (.ifCond .ne 13, 3) := dX9_thing_0_b.2.2.2.2.1
theorem dX9_thing_11 : decode cX9_thing 11 = .ok (.new 144, 3) := dX9_thing_0_b.2.2.2.2.2
set_option maxRecDepth 20000 in
theorem dX9_thing_14_b : (decode cX9_thing 14 = .ok (.dup, 1)) ∧ (decode cX9_thing 15 = .ok (.ldc 153, 2)) ∧ (decode cX9_thing 17 = .ok (.invokespecial 148, 3)) ∧ (decode cX9_thing 20 = .ok (.athrow, 1)) ∧ (decode cX9_thing 21 = .ok (.iload_n 2, 1)) ∧ (decode cX9_thing 22 = .ok (.tableswitch 120 0 5 #[38, 48, 58, 68, 84, 96], 38)) := by decide +kernel
theorem dX9_thing_14 : decode cX9_thing 14 = .ok (.dup, 1) := dX9_thing_14_b.1
theorem dX9_thing_15 : decode cX9_thing 15 = .ok (.ldc 153, 2) := dX9_thing_14_b.2.1
theorem dX9_thing_17 : decode cX9_thing 17 = .ok (.invokespecial 148, 3) := dX9_thing_14_b.2.2.1
theorem dX9_thing_20 : decode cX9_thing 20 = .ok (.athrow, 1) := dX9_thing_14_b.2.2.2.1
theorem dX9_thing_21 : decode cX9_thing 21 = .ok (.iload_n 2, 1) := dX9_thing_14_b.2.2.2.2.1
theorem dX9_thing_22 : decode cX9_thing 22 = .ok (.tableswitch 120 0 5 #[38, 48, 58, 68, 84, 96], 38) := dX9_thing_14_b.2.2.2.2.2
set_option maxRecDepth 20000 in
theorem dX9_thing_60_b : (decode cX9_thing 60 = .ok (.aload_n 0, 1)) ∧ (decode cX9_thing 61 = .ok (.getfield 23, 3)) ∧ (decode cX9_thing 64 = .ok (.getfield 155, 3)) ∧ (decode cX9_thing 67 = .ok (.iload_n 1, 1)) ∧ (decode cX9_thing 68 = .ok (.iaload, 1)) ∧ (decode cX9_thing 69 = .ok (.ireturn, 1)) := by decide +kernel
theorem dX9_thing_60 : decode cX9_thing 60 = .ok (.aload_n 0, 1) := dX9_thing_60_b.1
theorem dX9_thing_61 : decode cX9_thing 61 = .ok (.getfield 23, 3) := dX9_thing_60_b.2.1
theorem dX9_thing_64 : decode cX9_thing 64 = .ok (.getfield 155, 3) := dX9_thing_60_b.2.2.1
theorem dX9_thing_67 : decode cX9_thing 67 = .ok (.iload_n 1, 1) := dX9_thing_60_b.2.2.2.1
theorem dX9_thing_68 : decode cX9_thing 68 = .ok (.iaload, 1) := dX9_thing_60_b.2.2.2.2.1
theorem dX9_thing_69 : decode cX9_thing 69 = .ok (.ireturn, 1) := dX9_thing_60_b.2.2.2.2.2
set_option maxRecDepth 20000 in
theorem dX9_thing_70_b : (decode cX9_thing 70 = .ok (.aload_n 0, 1)) ∧ (decode cX9_thing 71 = .ok (.getfield 23, 3)) ∧ (decode cX9_thing 74 = .ok (.getfield 158, 3)) ∧ (decode cX9_thing 77 = .ok (.iload_n 1, 1)) ∧ (decode cX9_thing 78 = .ok (.iaload, 1)) ∧ (decode cX9_thing 79 = .ok (.ireturn, 1)) := by decide +kernel
theorem dX9_thing_70 : decode cX9_thing 70 = .ok (.aload_n 0, 1) := dX9_thing_70_b.1
theorem dX9_thing_71 : decode cX9_thing 71 = .ok (.getfield 23, 3) := dX9_thing_70_b.2.1
theorem dX9_thing_74 : decode cX9_thing 74 = .ok (.getfield 158, 3) := dX9_thing_70_b.2.2.1
theorem dX9_thing_77 : decode cX9_thing 77 = .ok (.iload_n 1, 1) := dX9_thing_70_b.2.2.2.1
theorem dX9_thing_78 : decode cX9_thing 78 = .ok (.iaload, 1) := dX9_thing_70_b.2.2.2.2.1
theorem dX9_thing_79 : decode cX9_thing 79 = .ok (.ireturn, 1) := dX9_thing_70_b.2.2.2.2.2
set_option maxRecDepth 20000 in
theorem dX9_thing_80_b : (decode cX9_thing 80 = .ok (.aload_n 0, 1)) ∧ (decode cX9_thing 81 = .ok (.getfield 23, 3)) ∧ (decode cX9_thing 84 = .ok (.getfield 161, 3)) ∧ (decode cX9_thing 87 = .ok (.iload_n 1, 1)) ∧ (decode cX9_thing 88 = .ok (.iaload, 1)) ∧ (decode cX9_thing 89 = .ok (.ireturn, 1)) := by decide +kernel
theorem dX9_thing_80 : decode cX9_thing 80 = .ok (.aload_n 0, 1) := dX9_thing_80_b.1
theorem dX9_thing_81 : decode cX9_thing 81 = .ok (.getfield 23, 3) := dX9_thing_80_b.2.1
theorem dX9_thing_84 : decode cX9_thing 84 = .ok (.getfield 161, 3) := dX9_thing_80_b.2.2.1
theorem dX9_thing_87 : decode cX9_thing 87 = .ok (.iload_n 1, 1) := dX9_thing_80_b.2.2.2.1
theorem dX9_thing_88 : decode cX9_thing 88 = .ok (.iaload, 1) := dX9_thing_80_b.2.2.2.2.1
theorem dX9_thing_89 : decode cX9_thing 89 = .ok (.ireturn, 1) := dX9_thing_80_b.2.2.2.2.2
set_option maxRecDepth 20000 in
theorem dX9_thing_90_b : (decode cX9_thing 90 = .ok (.aload_n 0, 1)) ∧ (decode cX9_thing 91 = .ok (.getfield 23, 3)) ∧ (decode cX9_thing 94 = .ok (.aload_n 0, 1)) ∧ (decode cX9_thing 95 = .ok (.getfield 42, 3)) ∧ (decode cX9_thing 98 = .ok (.getfield 123, 3)) ∧ (decode cX9_thing 101 = .ok (.iload_n 1, 1)) := by decide +kernel
theorem dX9_thing_90 : decode cX9_thing 90 = .ok (.aload_n 0, 1) := dX9_thing_90_b.1
theorem dX9_thing_91 : decode cX9_thing 91 = .ok (.getfield 23, 3) := dX9_thing_90_b.2.1
theorem dX9_thing_94 : decode cX9_thing 94 = .ok (.aload_n 0, 1) := dX9_thing_90_b.2.2.1
theorem dX9_thing_95 : decode cX9_thing 95 = .ok (.getfield 42, 3) := dX9_thing_90_b.2.2.2.1
theorem dX9_thing_98 : decode cX9_thing 98 = .ok (.getfield 123, 3) := dX9_thing_90_b.2.2.2.2.1
theorem dX9_thing_101 : decode cX9_thing 101 = .ok (.iload_n 1, 1) := dX9_thing_90_b.2.2.2.2.2
set_option maxRecDepth 20000 in
theorem dX9_thing_102_b : (decode cX9_thing 102 = .ok (.invokevirtual 164, 3)) ∧ (decode cX9_thing 105 = .ok (.ireturn, 1)) ∧ (decode cX9_thing 106 = .ok (.aload_n 0, 1)) ∧ (decode cX9_thing 107 = .ok (.getfield 42, 3)) ∧ (decode cX9_thing 110 = .ok (.getfield 123, 3)) ∧ (decode cX9_thing 113 = .ok (.iload_n 1, 1)) := by decide +kernel
theorem dX9_thing_102 : decode cX9_thing 102 = .ok (.invokevirtual 164, 3) := dX9_thing_102_b.1
theorem dX9_thing_105 : decode cX9_thing 105 = .ok (.ireturn, 1) := dX9_thing_102_b.2.1
theorem dX9_thing_106 : decode cX9_thing 106 = .ok (.aload_n 0, 1) := dX9_thing_102_b.2.2.1
theorem dX9_thing_107 : decode cX9_thing 107 = .ok (.getfield 42, 3) := dX9_thing_102_b.2.2.2.1
theorem dX9_thing_110 : decode cX9_thing 110 = .ok (.getfield 123, 3) := dX9_thing_102_b.2.2.2.2.1
theorem dX9_thing_113 : decode cX9_thing 113 = .ok (.iload_n 1, 1) := dX9_thing_102_b.2.2.2.2.2
set_option maxRecDepth 20000 in
theorem dX9_thing_114_b : (decode cX9_thing 114 = .ok (.invokestatic 168, 3)) ∧ (decode cX9_thing 117 = .ok (.ireturn, 1)) ∧ (decode cX9_thing 118 = .ok (.aload_n 0, 1)) ∧ (decode cX9_thing 119 = .ok (.getfield 23, 3)) ∧ (decode cX9_thing 122 = .ok (.aload_n 0, 1)) ∧ (decode cX9_thing 123 = .ok (.getfield 42, 3)) := by decide +kernel
theorem dX9_thing_114 : decode cX9_thing 114 = .ok (.invokestatic 168, 3) := dX9_thing_114_b.1
theorem dX9_thing_117 : decode cX9_thing 117 = .ok (.ireturn, 1) := dX9_thing_114_b.2.1
theorem dX9_thing_118 : decode cX9_thing 118 = .ok (.aload_n 0, 1) := dX9_thing_114_b.2.2.1
theorem dX9_thing_119 : decode cX9_thing 119 = .ok (.getfield 23, 3) := dX9_thing_114_b.2.2.2.1
theorem dX9_thing_122 : decode cX9_thing 122 = .ok (.aload_n 0, 1) := dX9_thing_114_b.2.2.2.2.1
theorem dX9_thing_123 : decode cX9_thing 123 = .ok (.getfield 42, 3) := dX9_thing_114_b.2.2.2.2.2
set_option maxRecDepth 20000 in
theorem dX9_thing_126_b : (decode cX9_thing 126 = .ok (.getfield 123, 3)) ∧ (decode cX9_thing 129 = .ok (.iload_n 1, 1)) ∧ (decode cX9_thing 130 = .ok (.invokevirtual 171, 3)) ∧ (decode cX9_thing 133 = .ok (.ifCond .eq 7, 3)) ∧ (decode cX9_thing 136 = .ok (.iconst 1, 1)) ∧ (decode cX9_thing 137 = .ok (.goto 4, 3)) := by decide +kernel
theorem dX9_thing_126 : decode cX9_thing 126 = .ok (.getfield 123, 3) := dX9_thing_126_b.1
theorem dX9_thing_129 : decode cX9_thing 129 = .ok (.iload_n 1, 1) := dX9_thing_126_b.2.1
theorem dX9_thing_130 : decode cX9_thing 130 = .ok (.invokevirtual 171, 3) := dX9_thing_126_b.2.2.1
theorem dX9_thing_133 : decode cX9_thing 133 = .ok (.ifCond .eq 7, 3) := dX9_thing_126_b.2.2.2.1
theorem dX9_thing_136 : decode cX9_thing 136 = .ok (.iconst 1, 1) := dX9_thing_126_b.2.2.2.2.1
theorem dX9_thing_137 : decode cX9_thing 137 = .ok (.goto 4, 3) := dX9_thing_126_b.2.2.2.2.2
set_option maxRecDepth 20000 in
theorem dX9_thing_140_b : (decode cX9_thing 140 = .ok (.iconst 0, 1)) ∧ (decode cX9_thing 141 = .ok (.ireturn, 1)) ∧ (decode cX9_thing 142 = .ok (.new 144, 3)) ∧ (decode cX9_thing 145 = .ok (.dup, 1)) ∧ (decode cX9_thing 146 = .ok (.ldc 175, 2)) ∧ (decode cX9_thing 148 = .ok (.invokespecial 148, 3)) := by decide +kernel
theorem dX9_thing_140 : decode cX9_thing 140 = .ok (.iconst 0, 1) := dX9_thing_140_b.1
theorem dX9_thing_141 : decode cX9_thing 141 = .ok (.ireturn, 1) := dX9_thing_140_b.2.1
theorem dX9_thing_142 : decode cX9_thing 142 = .ok (.new 144, 3) := dX9_thing_140_b.2.2.1
theorem dX9_thing_145 : decode cX9_thing 145 = .ok (.dup, 1) := dX9_thing_140_b.2.2.2.1
theorem dX9_thing_146 : decode cX9_thing 146 = .ok (.ldc 175, 2) := dX9_thing_140_b.2.2.2.2.1
theorem dX9_thing_148 : decode cX9_thing 148 = .ok (.invokespecial 148, 3) := dX9_thing_140_b.2.2.2.2.2
theorem dX9_thing_151 : decode cX9_thing 151 = .ok (.athrow, 1) := by decide +kernel
set_option maxRecDepth 20000 in
theorem dX9_bucket_0_b : (decode cX9_bucket 0 = .ok (.iload_n 1, 1)) ∧ (decode cX9_bucket 1 = .ok (.ifCond .lt 8, 3)) ∧ (decode cX9_bucket 4 = .ok (.iload_n 1, 1)) ∧ (decode cX9_bucket 5 = .ok (.iconst 1, 1)) ∧ (decode cX9_bucket 6 = .ok (.if_icmp .le 13, 3)) ∧ (decode cX9_bucket 9 = .ok (.new 144, 3)) := by decide +kernel
theorem dX9_bucket_0 : decode cX9_bucket 0 = .ok (.iload_n 1, 1) := dX9_bucket_0_b.1
theorem dX9_bucket_1 : decode cX9_bucket 1 = .ok (.ifCond .lt 8, 3) := dX9_bucket_0_b.2.1
theorem dX9_bucket_4 : decode cX9_bucket 4 = .ok (.iload_n 1, 1) := dX9_bucket_0_b.2.2.1
theorem dX9_bucket_5 : decode cX9_bucket 5 = .ok (.iconst 1, 1) := dX9_bucket_0_b.2.2.2.1
theorem dX9_bucket_6 : decode cX9_bucket 6 = .ok (.if_icmp .le 13, 3) := dX9_bucket_0_b.2.2.2.2.1
theorem dX9_bucket_9 : decode cX9_bucket 9 = .ok (.new 144, 3) := dX9_bucket_0_b.2.2.2.2.2
set_option maxRecDepth 20000 in
theorem dX9_bucket_12_b : (decode cX9_bucket 12 = .ok (.dup, 1)) ∧ (decode cX9_bucket 13 = .ok (.ldc 177, 2)) ∧ (decode cX9_bucket 15 = .ok (.invokespecial 148, 3)) ∧ (decode cX9_bucket 18 = .ok (.athrow, 1)) ∧ (decode cX9_bucket 19 = .ok (.aload_n 0, 1)) ∧ (decode cX9_bucket 20 = .ok (.getfield 23, 3)) := by decide +kernel
theorem dX9_bucket_12 : decode cX9_bucket 12 = .ok (.dup, 1) := dX9_bucket_12_b.1
theorem dX9_bucket_13 : decode cX9_bucket 13 = .ok (.ldc 177, 2) := dX9_bucket_12_b.2.1
theorem dX9_bucket_15 : decode cX9_bucket 15 = .ok (.invokespecial 148, 3) := dX9_bucket_12_b.2.2.1
theorem dX9_bucket_18 : decode cX9_bucket 18 = .ok (.athrow, 1) := dX9_bucket_12_b.2.2.2.1
theorem dX9_bucket_19 : decode cX9_bucket 19 = .ok (.aload_n 0, 1) := dX9_bucket_12_b.2.2.2.2.1
theorem dX9_bucket_20 : decode cX9_bucket 20 = .ok (.getfield 23, 3) := dX9_bucket_12_b.2.2.2.2.2
set_option maxRecDepth 20000 in
theorem dX9_bucket_23_b : (decode cX9_bucket 23 = .ok (.aload_n 0, 1)) ∧ (decode cX9_bucket 24 = .ok (.getfield 42, 3)) ∧ (decode cX9_bucket 27 = .ok (.getfield 123, 3)) ∧ (decode cX9_bucket 30 = .ok (.iload_n 1, 1)) ∧ (decode cX9_bucket 31 = .ok (.invokevirtual 179, 3)) ∧ (decode cX9_bucket 34 = .ok (.istore_n 3, 1)) := by decide +kernel
theorem dX9_bucket_23 : decode cX9_bucket 23 = .ok (.aload_n 0, 1) := dX9_bucket_23_b.1
theorem dX9_bucket_24 : decode cX9_bucket 24 = .ok (.getfield 42, 3) := dX9_bucket_23_b.2.1
theorem dX9_bucket_27 : decode cX9_bucket 27 = .ok (.getfield 123, 3) := dX9_bucket_23_b.2.2.1
theorem dX9_bucket_30 : decode cX9_bucket 30 = .ok (.iload_n 1, 1) := dX9_bucket_23_b.2.2.2.1
theorem dX9_bucket_31 : decode cX9_bucket 31 = .ok (.invokevirtual 179, 3) := dX9_bucket_23_b.2.2.2.2.1
theorem dX9_bucket_34 : decode cX9_bucket 34 = .ok (.istore_n 3, 1) := dX9_bucket_23_b.2.2.2.2.2
set_option maxRecDepth 20000 in
theorem dX9_bucket_35_b : (decode cX9_bucket 35 = .ok (.iload_n 2, 1)) ∧ (decode cX9_bucket 36 = .ok (.tableswitch 108 0 4 #[36, 52, 78, 80, 92], 36)) ∧ (decode cX9_bucket 72 = .ok (.aload_n 0, 1)) ∧ (decode cX9_bucket 73 = .ok (.getfield 23, 3)) ∧ (decode cX9_bucket 76 = .ok (.aload_n 0, 1)) ∧ (decode cX9_bucket 77 = .ok (.getfield 42, 3)) := by decide +kernel
theorem dX9_bucket_35 : decode cX9_bucket 35 = .ok (.iload_n 2, 1) := dX9_bucket_35_b.1
theorem dX9_bucket_36 : decode cX9_bucket 36 = .ok (.tableswitch 108 0 4 #[36, 52, 78, 80, 92], 36) := dX9_bucket_35_b.2.1
theorem dX9_bucket_72 : decode cX9_bucket 72 = .ok (.aload_n 0, 1) := dX9_bucket_35_b.2.2.1
theorem dX9_bucket_73 : decode cX9_bucket 73 = .ok (.getfield 23, 3) := dX9_bucket_35_b.2.2.2.1
theorem dX9_bucket_76 : decode cX9_bucket 76 = .ok (.aload_n 0, 1) := dX9_bucket_35_b.2.2.2.2.1
theorem dX9_bucket_77 : decode cX9_bucket 77 = .ok (.getfield 42, 3) := dX9_bucket_35_b.2.2.2.2.2
set_option maxRecDepth 20000 in
theorem dX9_bucket_80_b : (decode cX9_bucket 80 = .ok (.getfield 123, 3)) ∧ (decode cX9_bucket 83 = .ok (.iload_n 1, 1)) ∧ (decode cX9_bucket 84 = .ok (.invokevirtual 182, 3)) ∧ (decode cX9_bucket 87 = .ok (.ireturn, 1)) ∧ (decode cX9_bucket 88 = .ok (.aload_n 0, 1)) ∧ (decode cX9_bucket 89 = .ok (.getfield 23, 3)) := by decide +kernel
theorem dX9_bucket_80 : decode cX9_bucket 80 = .ok (.getfield 123, 3) := dX9_bucket_80_b.1
theorem dX9_bucket_83 : decode cX9_bucket 83 = .ok (.iload_n 1, 1) := dX9_bucket_80_b.2.1
theorem dX9_bucket_84 : decode cX9_bucket 84 = .ok (.invokevirtual 182, 3) := dX9_bucket_80_b.2.2.1
theorem dX9_bucket_87 : decode cX9_bucket 87 = .ok (.ireturn, 1) := dX9_bucket_80_b.2.2.2.1
theorem dX9_bucket_88 : decode cX9_bucket 88 = .ok (.aload_n 0, 1) := dX9_bucket_80_b.2.2.2.2.1
theorem dX9_bucket_89 : decode cX9_bucket 89 = .ok (.getfield 23, 3) := dX9_bucket_80_b.2.2.2.2.2
set_option maxRecDepth 20000 in
theorem dX9_bucket_92_b : (decode cX9_bucket 92 = .ok (.aload_n 0, 1)) ∧ (decode cX9_bucket 93 = .ok (.getfield 42, 3)) ∧ (decode cX9_bucket 96 = .ok (.getfield 123, 3)) ∧ (decode cX9_bucket 99 = .ok (.iload_n 1, 1)) ∧ (decode cX9_bucket 100 = .ok (.invokevirtual 182, 3)) ∧ (decode cX9_bucket 103 = .ok (.aload_n 0, 1)) := by decide +kernel
theorem dX9_bucket_92 : decode cX9_bucket 92 = .ok (.aload_n 0, 1) := dX9_bucket_92_b.1
theorem dX9_bucket_93 : decode cX9_bucket 93 = .ok (.getfield 42, 3) := dX9_bucket_92_b.2.1
theorem dX9_bucket_96 : decode cX9_bucket 96 = .ok (.getfield 123, 3) := dX9_bucket_92_b.2.2.1
theorem dX9_bucket_99 : decode cX9_bucket 99 = .ok (.iload_n 1, 1) := dX9_bucket_92_b.2.2.2.1
theorem dX9_bucket_100 : decode cX9_bucket 100 = .ok (.invokevirtual 182, 3) := dX9_bucket_92_b.2.2.2.2.1
theorem dX9_bucket_103 : decode cX9_bucket 103 = .ok (.aload_n 0, 1) := dX9_bucket_92_b.2.2.2.2.2
set_option maxRecDepth 20000 in
theorem dX9_bucket_104_b : (decode cX9_bucket 104 = .ok (.getfield 23, 3)) ∧ (decode cX9_bucket 107 = .ok (.getfield 102, 3)) ∧ (decode cX9_bucket 110 = .ok (.iload_n 3, 1)) ∧ (decode cX9_bucket 111 = .ok (.imul, 1)) ∧ (decode cX9_bucket 112 = .ok (.iadd, 1)) ∧ (decode cX9_bucket 113 = .ok (.ireturn, 1)) := by decide +kernel
theorem dX9_bucket_104 : decode cX9_bucket 104 = .ok (.getfield 23, 3) := dX9_bucket_104_b.1
theorem dX9_bucket_107 : decode cX9_bucket 107 = .ok (.getfield 102, 3) := dX9_bucket_104_b.2.1
theorem dX9_bucket_110 : decode cX9_bucket 110 = .ok (.iload_n 3, 1) := dX9_bucket_104_b.2.2.1
theorem dX9_bucket_111 : decode cX9_bucket 111 = .ok (.imul, 1) := dX9_bucket_104_b.2.2.2.1
theorem dX9_bucket_112 : decode cX9_bucket 112 = .ok (.iadd, 1) := dX9_bucket_104_b.2.2.2.2.1
theorem dX9_bucket_113 : decode cX9_bucket 113 = .ok (.ireturn, 1) := dX9_bucket_104_b.2.2.2.2.2
set_option maxRecDepth 20000 in
theorem dX9_bucket_114_b : (decode cX9_bucket 114 = .ok (.iload_n 3, 1)) ∧ (decode cX9_bucket 115 = .ok (.ireturn, 1)) ∧ (decode cX9_bucket 116 = .ok (.aload_n 0, 1)) ∧ (decode cX9_bucket 117 = .ok (.getfield 42, 3)) ∧ (decode cX9_bucket 120 = .ok (.getfield 123, 3)) ∧ (decode cX9_bucket 123 = .ok (.iload_n 1, 1)) := by decide +kernel
theorem dX9_bucket_114 : decode cX9_bucket 114 = .ok (.iload_n 3, 1) := dX9_bucket_114_b.1
theorem dX9_bucket_115 : decode cX9_bucket 115 = .ok (.ireturn, 1) := dX9_bucket_114_b.2.1
theorem dX9_bucket_116 : decode cX9_bucket 116 = .ok (.aload_n 0, 1) := dX9_bucket_114_b.2.2.1
theorem dX9_bucket_117 : decode cX9_bucket 117 = .ok (.getfield 42, 3) := dX9_bucket_114_b.2.2.2.1
theorem dX9_bucket_120 : decode cX9_bucket 120 = .ok (.getfield 123, 3) := dX9_bucket_114_b.2.2.2.2.1
theorem dX9_bucket_123 : decode cX9_bucket 123 = .ok (.iload_n 1, 1) := dX9_bucket_114_b.2.2.2.2.2
set_option maxRecDepth 20000 in
theorem dX9_bucket_124_b : (decode cX9_bucket 124 = .ok (.invokestatic 185, 3)) ∧ (decode cX9_bucket 127 = .ok (.ireturn, 1)) ∧ (decode cX9_bucket 128 = .ok (.aload_n 0, 1)) ∧ (decode cX9_bucket 129 = .ok (.getfield 23, 3)) ∧ (decode cX9_bucket 132 = .ok (.aload_n 0, 1)) ∧ (decode cX9_bucket 133 = .ok (.getfield 42, 3)) := by decide +kernel
theorem dX9_bucket_124 : decode cX9_bucket 124 = .ok (.invokestatic 185, 3) := dX9_bucket_124_b.1
theorem dX9_bucket_127 : decode cX9_bucket 127 = .ok (.ireturn, 1) := dX9_bucket_124_b.2.1
theorem dX9_bucket_128 : decode cX9_bucket 128 = .ok (.aload_n 0, 1) := dX9_bucket_124_b.2.2.1
theorem dX9_bucket_129 : decode cX9_bucket 129 = .ok (.getfield 23, 3) := dX9_bucket_124_b.2.2.2.1
theorem dX9_bucket_132 : decode cX9_bucket 132 = .ok (.aload_n 0, 1) := dX9_bucket_124_b.2.2.2.2.1
theorem dX9_bucket_133 : decode cX9_bucket 133 = .ok (.getfield 42, 3) := dX9_bucket_124_b.2.2.2.2.2
set_option maxRecDepth 20000 in
theorem dX9_bucket_136_b : (decode cX9_bucket 136 = .ok (.getfield 123, 3)) ∧ (decode cX9_bucket 139 = .ok (.iload_n 1, 1)) ∧ (decode cX9_bucket 140 = .ok (.invokevirtual 188, 3)) ∧ (decode cX9_bucket 143 = .ok (.ireturn, 1)) ∧ (decode cX9_bucket 144 = .ok (.new 144, 3)) ∧ (decode cX9_bucket 147 = .ok (.dup, 1)) := by decide +kernel
theorem dX9_bucket_136 : decode cX9_bucket 136 = .ok (.getfield 123, 3) := dX9_bucket_136_b.1
theorem dX9_bucket_139 : decode cX9_bucket 139 = .ok (.iload_n 1, 1) := dX9_bucket_136_b.2.1
theorem dX9_bucket_140 : decode cX9_bucket 140 = .ok (.invokevirtual 188, 3) := dX9_bucket_136_b.2.2.1
theorem dX9_bucket_143 : decode cX9_bucket 143 = .ok (.ireturn, 1) := dX9_bucket_136_b.2.2.2.1
theorem dX9_bucket_144 : decode cX9_bucket 144 = .ok (.new 144, 3) := dX9_bucket_136_b.2.2.2.2.1
theorem dX9_bucket_147 : decode cX9_bucket 147 = .ok (.dup, 1) := dX9_bucket_136_b.2.2.2.2.2
set_option maxRecDepth 20000 in
theorem dX9_bucket_148_b : (decode cX9_bucket 148 = .ok (.ldc 191, 2)) ∧ (decode cX9_bucket 150 = .ok (.invokespecial 148, 3)) ∧ (decode cX9_bucket 153 = .ok (.athrow, 1)) := by decide +kernel
theorem dX9_bucket_148 : decode cX9_bucket 148 = .ok (.ldc 191, 2) := dX9_bucket_148_b.1
theorem dX9_bucket_150 : decode cX9_bucket 150 = .ok (.invokespecial 148, 3) := dX9_bucket_148_b.2.1
theorem dX9_bucket_153 : decode cX9_bucket 153 = .ok (.athrow, 1) := dX9_bucket_148_b.2.2
set_option maxRecDepth 20000 in
theorem dX9_load_0_b : (decode cX9_load 0 = .ok (.aload_n 0, 1)) ∧ (decode cX9_load 1 = .ok (.aload_n 0, 1)) ∧ (decode cX9_load 2 = .ok (.getfield 23, 3)) ∧ (decode cX9_load 5 = .ok (.aload_n 0, 1)) ∧ (decode cX9_load 6 = .ok (.getfield 42, 3)) ∧ (decode cX9_load 9 = .ok (.getfield 123, 3)) := by decide +kernel
theorem dX9_load_0 : decode cX9_load 0 = .ok (.aload_n 0, 1) := dX9_load_0_b.1
theorem dX9_load_1 : decode cX9_load 1 = .ok (.aload_n 0, 1) := dX9_load_0_b.2.1
theorem dX9_load_2 : decode cX9_load 2 = .ok (.getfield 23, 3) := dX9_load_0_b.2.2.1
theorem dX9_load_5 : decode cX9_load 5 = .ok (.aload_n 0, 1) := dX9_load_0_b.2.2.2.1
theorem dX9_load_6 : decode cX9_load 6 = .ok (.getfield 42, 3) := dX9_load_0_b.2.2.2.2.1
theorem dX9_load_9 : decode cX9_load 9 = .ok (.getfield 123, 3) := dX9_load_0_b.2.2.2.2.2
set_option maxRecDepth 20000 in
theorem dX9_load_12_b : (decode cX9_load 12 = .ok (.iload_n 1, 1)) ∧ (decode cX9_load 13 = .ok (.iload_n 2, 1)) ∧ (decode cX9_load 14 = .ok (.invokevirtual 193, 3)) ∧ (decode cX9_load 17 = .ok (.invokevirtual 197, 3)) ∧ (decode cX9_load 20 = .ok (.istore_n 3, 1)) ∧ (decode cX9_load 21 = .ok (.iload_n 3, 1)) := by decide +kernel
theorem dX9_load_12 : decode cX9_load 12 = .ok (.iload_n 1, 1) := dX9_load_12_b.1
theorem dX9_load_13 : decode cX9_load 13 = .ok (.iload_n 2, 1) := dX9_load_12_b.2.1
theorem dX9_load_14 : decode cX9_load 14 = .ok (.invokevirtual 193, 3) := dX9_load_12_b.2.2.1
theorem dX9_load_17 : decode cX9_load 17 = .ok (.invokevirtual 197, 3) := dX9_load_12_b.2.2.2.1
theorem dX9_load_20 : decode cX9_load 20 = .ok (.istore_n 3, 1) := dX9_load_12_b.2.2.2.2.1
theorem dX9_load_21 : decode cX9_load 21 = .ok (.iload_n 3, 1) := dX9_load_12_b.2.2.2.2.2
set_option maxRecDepth 20000 in
theorem dX9_load_22_b : (decode cX9_load 22 = .ok (.ifCond .ne 29, 3)) ∧ (decode cX9_load 25 = .ok (.aload_n 0, 1)) ∧ (decode cX9_load 26 = .ok (.getfield 42, 3)) ∧ (decode cX9_load 29 = .ok (.iconst 0, 1)) ∧ (decode cX9_load 30 = .ok (.iload_n 1, 1)) ∧ (decode cX9_load 31 = .ok (.iload_n 2, 1)) := by decide +kernel
theorem dX9_load_22 : decode cX9_load 22 = .ok (.ifCond .ne 29, 3) := dX9_load_22_b.1
theorem dX9_load_25 : decode cX9_load 25 = .ok (.aload_n 0, 1) := dX9_load_22_b.2.1
theorem dX9_load_26 : decode cX9_load 26 = .ok (.getfield 42, 3) := dX9_load_22_b.2.2.1
theorem dX9_load_29 : decode cX9_load 29 = .ok (.iconst 0, 1) := dX9_load_22_b.2.2.2.1
theorem dX9_load_30 : decode cX9_load 30 = .ok (.iload_n 1, 1) := dX9_load_22_b.2.2.2.2.1
theorem dX9_load_31 : decode cX9_load 31 = .ok (.iload_n 2, 1) := dX9_load_22_b.2.2.2.2.2
set_option maxRecDepth 20000 in
theorem dX9_load_32_b : (decode cX9_load 32 = .ok (.iconst 0, 1)) ∧ (decode cX9_load 33 = .ok (.aload_n 0, 1)) ∧ (decode cX9_load 34 = .ok (.getfield 42, 3)) ∧ (decode cX9_load 37 = .ok (.getfield 123, 3)) ∧ (decode cX9_load 40 = .ok (.iload_n 1, 1)) ∧ (decode cX9_load 41 = .ok (.bipush 12, 2)) := by decide +kernel
theorem dX9_load_32 : decode cX9_load 32 = .ok (.iconst 0, 1) := dX9_load_32_b.1
theorem dX9_load_33 : decode cX9_load 33 = .ok (.aload_n 0, 1) := dX9_load_32_b.2.1
theorem dX9_load_34 : decode cX9_load 34 = .ok (.getfield 42, 3) := dX9_load_32_b.2.2.1
theorem dX9_load_37 : decode cX9_load 37 = .ok (.getfield 123, 3) := dX9_load_32_b.2.2.2.1
theorem dX9_load_40 : decode cX9_load 40 = .ok (.iload_n 1, 1) := dX9_load_32_b.2.2.2.2.1
theorem dX9_load_41 : decode cX9_load 41 = .ok (.bipush 12, 2) := dX9_load_32_b.2.2.2.2.2
set_option maxRecDepth 20000 in
theorem dX9_load_43_b : (decode cX9_load 43 = .ok (.iload_n 2, 1)) ∧ (decode cX9_load 44 = .ok (.iadd, 1)) ∧ (decode cX9_load 45 = .ok (.invokestatic 200, 3)) ∧ (decode cX9_load 48 = .ok (.invokevirtual 203, 3)) ∧ (decode cX9_load 51 = .ok (.iload_n 3, 1)) ∧ (decode cX9_load 52 = .ok (.ireturn, 1)) := by decide +kernel
theorem dX9_load_43 : decode cX9_load 43 = .ok (.iload_n 2, 1) := dX9_load_43_b.1
theorem dX9_load_44 : decode cX9_load 44 = .ok (.iadd, 1) := dX9_load_43_b.2.1
theorem dX9_load_45 : decode cX9_load 45 = .ok (.invokestatic 200, 3) := dX9_load_43_b.2.2.1
theorem dX9_load_48 : decode cX9_load 48 = .ok (.invokevirtual 203, 3) := dX9_load_43_b.2.2.2.1
theorem dX9_load_51 : decode cX9_load 51 = .ok (.iload_n 3, 1) := dX9_load_43_b.2.2.2.2.1
theorem dX9_load_52 : decode cX9_load 52 = .ok (.ireturn, 1) := dX9_load_43_b.2.2.2.2.2
set_option maxRecDepth 20000 in
theorem dX9_unload_0_b : (decode cX9_unload 0 = .ok (.aload_n 0, 1)) ∧ (decode cX9_unload 1 = .ok (.aload_n 0, 1)) ∧ (decode cX9_unload 2 = .ok (.getfield 23, 3)) ∧ (decode cX9_unload 5 = .ok (.aload_n 0, 1)) ∧ (decode cX9_unload 6 = .ok (.getfield 42, 3)) ∧ (decode cX9_unload 9 = .ok (.getfield 123, 3)) := by decide +kernel
theorem dX9_unload_0 : decode cX9_unload 0 = .ok (.aload_n 0, 1) := dX9_unload_0_b.1
theorem dX9_unload_1 : decode cX9_unload 1 = .ok (.aload_n 0, 1) := dX9_unload_0_b.2.1
theorem dX9_unload_2 : decode cX9_unload 2 = .ok (.getfield 23, 3) := dX9_unload_0_b.2.2.1
theorem dX9_unload_5 : decode cX9_unload 5 = .ok (.aload_n 0, 1) := dX9_unload_0_b.2.2.2.1
theorem dX9_unload_6 : decode cX9_unload 6 = .ok (.getfield 42, 3) := dX9_unload_0_b.2.2.2.2.1
theorem dX9_unload_9 : decode cX9_unload 9 = .ok (.getfield 123, 3) := dX9_unload_0_b.2.2.2.2.2
set_option maxRecDepth 20000 in
theorem dX9_unload_12_b : (decode cX9_unload 12 = .ok (.iload_n 1, 1)) ∧ (decode cX9_unload 13 = .ok (.invokevirtual 207, 3)) ∧ (decode cX9_unload 16 = .ok (.invokevirtual 197, 3)) ∧ (decode cX9_unload 19 = .ok (.istore_n 2, 1)) ∧ (decode cX9_unload 20 = .ok (.iload_n 2, 1)) ∧ (decode cX9_unload 21 = .ok (.ifCond .ne 42, 3)) := by decide +kernel
theorem dX9_unload_12 : decode cX9_unload 12 = .ok (.iload_n 1, 1) := dX9_unload_12_b.1
theorem dX9_unload_13 : decode cX9_unload 13 = .ok (.invokevirtual 207, 3) := dX9_unload_12_b.2.1
theorem dX9_unload_16 : decode cX9_unload 16 = .ok (.invokevirtual 197, 3) := dX9_unload_12_b.2.2.1
theorem dX9_unload_19 : decode cX9_unload 19 = .ok (.istore_n 2, 1) := dX9_unload_12_b.2.2.2.1
theorem dX9_unload_20 : decode cX9_unload 20 = .ok (.iload_n 2, 1) := dX9_unload_12_b.2.2.2.2.1
theorem dX9_unload_21 : decode cX9_unload 21 = .ok (.ifCond .ne 42, 3) := dX9_unload_12_b.2.2.2.2.2
set_option maxRecDepth 20000 in
theorem dX9_unload_24_b : (decode cX9_unload 24 = .ok (.aload_n 0, 1)) ∧ (decode cX9_unload 25 = .ok (.getfield 23, 3)) ∧ (decode cX9_unload 28 = .ok (.aload_n 0, 1)) ∧ (decode cX9_unload 29 = .ok (.getfield 42, 3)) ∧ (decode cX9_unload 32 = .ok (.getfield 123, 3)) ∧ (decode cX9_unload 35 = .ok (.iload_n 1, 1)) := by decide +kernel
theorem dX9_unload_24 : decode cX9_unload 24 = .ok (.aload_n 0, 1) := dX9_unload_24_b.1
theorem dX9_unload_25 : decode cX9_unload 25 = .ok (.getfield 23, 3) := dX9_unload_24_b.2.1
theorem dX9_unload_28 : decode cX9_unload 28 = .ok (.aload_n 0, 1) := dX9_unload_24_b.2.2.1
theorem dX9_unload_29 : decode cX9_unload 29 = .ok (.getfield 42, 3) := dX9_unload_24_b.2.2.2.1
theorem dX9_unload_32 : decode cX9_unload 32 = .ok (.getfield 123, 3) := dX9_unload_24_b.2.2.2.2.1
theorem dX9_unload_35 : decode cX9_unload 35 = .ok (.iload_n 1, 1) := dX9_unload_24_b.2.2.2.2.2
set_option maxRecDepth 20000 in
theorem dX9_unload_36_b : (decode cX9_unload 36 = .ok (.invokevirtual 210, 3)) ∧ (decode cX9_unload 39 = .ok (.istore_n 3, 1)) ∧ (decode cX9_unload 40 = .ok (.aload_n 0, 1)) ∧ (decode cX9_unload 41 = .ok (.getfield 42, 3)) ∧ (decode cX9_unload 44 = .ok (.iconst 1, 1)) ∧ (decode cX9_unload 45 = .ok (.iload_n 1, 1)) := by decide +kernel
theorem dX9_unload_36 : decode cX9_unload 36 = .ok (.invokevirtual 210, 3) := dX9_unload_36_b.1
theorem dX9_unload_39 : decode cX9_unload 39 = .ok (.istore_n 3, 1) := dX9_unload_36_b.2.1
theorem dX9_unload_40 : decode cX9_unload 40 = .ok (.aload_n 0, 1) := dX9_unload_36_b.2.2.1
theorem dX9_unload_41 : decode cX9_unload 41 = .ok (.getfield 42, 3) := dX9_unload_36_b.2.2.2.1
theorem dX9_unload_44 : decode cX9_unload 44 = .ok (.iconst 1, 1) := dX9_unload_36_b.2.2.2.2.1
theorem dX9_unload_45 : decode cX9_unload 45 = .ok (.iload_n 1, 1) := dX9_unload_36_b.2.2.2.2.2
set_option maxRecDepth 20000 in
theorem dX9_unload_46_b : (decode cX9_unload 46 = .ok (.iconst 0, 1)) ∧ (decode cX9_unload 47 = .ok (.iconst 0, 1)) ∧ (decode cX9_unload 48 = .ok (.aload_n 0, 1)) ∧ (decode cX9_unload 49 = .ok (.getfield 42, 3)) ∧ (decode cX9_unload 52 = .ok (.getfield 123, 3)) ∧ (decode cX9_unload 55 = .ok (.iload_n 1, 1)) := by decide +kernel
theorem dX9_unload_46 : decode cX9_unload 46 = .ok (.iconst 0, 1) := dX9_unload_46_b.1
theorem dX9_unload_47 : decode cX9_unload 47 = .ok (.iconst 0, 1) := dX9_unload_46_b.2.1
theorem dX9_unload_48 : decode cX9_unload 48 = .ok (.aload_n 0, 1) := dX9_unload_46_b.2.2.1
theorem dX9_unload_49 : decode cX9_unload 49 = .ok (.getfield 42, 3) := dX9_unload_46_b.2.2.2.1
theorem dX9_unload_52 : decode cX9_unload 52 = .ok (.getfield 123, 3) := dX9_unload_46_b.2.2.2.2.1
theorem dX9_unload_55 : decode cX9_unload 55 = .ok (.iload_n 1, 1) := dX9_unload_46_b.2.2.2.2.2
set_option maxRecDepth 20000 in
theorem dX9_unload_56_b : (decode cX9_unload 56 = .ok (.iload_n 3, 1)) ∧ (decode cX9_unload 57 = .ok (.invokestatic 200, 3)) ∧ (decode cX9_unload 60 = .ok (.invokevirtual 203, 3)) ∧ (decode cX9_unload 63 = .ok (.iload_n 2, 1)) ∧ (decode cX9_unload 64 = .ok (.ireturn, 1)) := by decide +kernel
theorem dX9_unload_56 : decode cX9_unload 56 = .ok (.iload_n 3, 1) := dX9_unload_56_b.1
theorem dX9_unload_57 : decode cX9_unload 57 = .ok (.invokestatic 200, 3) := dX9_unload_56_b.2.1
theorem dX9_unload_60 : decode cX9_unload 60 = .ok (.invokevirtual 203, 3) := dX9_unload_56_b.2.2.1
theorem dX9_unload_63 : decode cX9_unload 63 = .ok (.iload_n 2, 1) := dX9_unload_56_b.2.2.2.1
theorem dX9_unload_64 : decode cX9_unload 64 = .ok (.ireturn, 1) := dX9_unload_56_b.2.2.2.2
set_option maxRecDepth 20000 in
theorem dX9_ride_0_b : (decode cX9_ride 0 = .ok (.aload_n 0, 1)) ∧ (decode cX9_ride 1 = .ok (.aload_n 0, 1)) ∧ (decode cX9_ride 2 = .ok (.getfield 23, 3)) ∧ (decode cX9_ride 5 = .ok (.aload_n 0, 1)) ∧ (decode cX9_ride 6 = .ok (.getfield 42, 3)) ∧ (decode cX9_ride 9 = .ok (.getfield 123, 3)) := by decide +kernel
theorem dX9_ride_0 : decode cX9_ride 0 = .ok (.aload_n 0, 1) := dX9_ride_0_b.1
theorem dX9_ride_1 : decode cX9_ride 1 = .ok (.aload_n 0, 1) := dX9_ride_0_b.2.1
theorem dX9_ride_2 : decode cX9_ride 2 = .ok (.getfield 23, 3) := dX9_ride_0_b.2.2.1
theorem dX9_ride_5 : decode cX9_ride 5 = .ok (.aload_n 0, 1) := dX9_ride_0_b.2.2.2.1
theorem dX9_ride_6 : decode cX9_ride 6 = .ok (.getfield 42, 3) := dX9_ride_0_b.2.2.2.2.1
theorem dX9_ride_9 : decode cX9_ride 9 = .ok (.getfield 123, 3) := dX9_ride_0_b.2.2.2.2.2
set_option maxRecDepth 20000 in
theorem dX9_ride_12_b : (decode cX9_ride 12 = .ok (.iload_n 1, 1)) ∧ (decode cX9_ride 13 = .ok (.iload_n 2, 1)) ∧ (decode cX9_ride 14 = .ok (.invokevirtual 213, 3)) ∧ (decode cX9_ride 17 = .ok (.invokevirtual 197, 3)) ∧ (decode cX9_ride 20 = .ok (.istore_n 3, 1)) ∧ (decode cX9_ride 21 = .ok (.iload_n 3, 1)) := by decide +kernel
theorem dX9_ride_12 : decode cX9_ride 12 = .ok (.iload_n 1, 1) := dX9_ride_12_b.1
theorem dX9_ride_13 : decode cX9_ride 13 = .ok (.iload_n 2, 1) := dX9_ride_12_b.2.1
theorem dX9_ride_14 : decode cX9_ride 14 = .ok (.invokevirtual 213, 3) := dX9_ride_12_b.2.2.1
theorem dX9_ride_17 : decode cX9_ride 17 = .ok (.invokevirtual 197, 3) := dX9_ride_12_b.2.2.2.1
theorem dX9_ride_20 : decode cX9_ride 20 = .ok (.istore_n 3, 1) := dX9_ride_12_b.2.2.2.2.1
theorem dX9_ride_21 : decode cX9_ride 21 = .ok (.iload_n 3, 1) := dX9_ride_12_b.2.2.2.2.2
set_option maxRecDepth 20000 in
theorem dX9_ride_22_b : (decode cX9_ride 22 = .ok (.ifCond .ne 52, 3)) ∧ (decode cX9_ride 25 = .ok (.iload_n 2, 1)) ∧ (decode cX9_ride 26 = .ok (.iconst 2, 1)) ∧ (decode cX9_ride 27 = .ok (.if_icmp .ne 21, 3)) ∧ (decode cX9_ride 30 = .ok (.aload_n 0, 1)) ∧ (decode cX9_ride 31 = .ok (.getfield 23, 3)) := by decide +kernel
theorem dX9_ride_22 : decode cX9_ride 22 = .ok (.ifCond .ne 52, 3) := dX9_ride_22_b.1
theorem dX9_ride_25 : decode cX9_ride 25 = .ok (.iload_n 2, 1) := dX9_ride_22_b.2.1
theorem dX9_ride_26 : decode cX9_ride 26 = .ok (.iconst 2, 1) := dX9_ride_22_b.2.2.1
theorem dX9_ride_27 : decode cX9_ride 27 = .ok (.if_icmp .ne 21, 3) := dX9_ride_22_b.2.2.2.1
theorem dX9_ride_30 : decode cX9_ride 30 = .ok (.aload_n 0, 1) := dX9_ride_22_b.2.2.2.2.1
theorem dX9_ride_31 : decode cX9_ride 31 = .ok (.getfield 23, 3) := dX9_ride_22_b.2.2.2.2.2
set_option maxRecDepth 20000 in
theorem dX9_ride_34_b : (decode cX9_ride 34 = .ok (.aload_n 0, 1)) ∧ (decode cX9_ride 35 = .ok (.getfield 42, 3)) ∧ (decode cX9_ride 38 = .ok (.getfield 123, 3)) ∧ (decode cX9_ride 41 = .ok (.iload_n 1, 1)) ∧ (decode cX9_ride 42 = .ok (.invokevirtual 216, 3)) ∧ (decode cX9_ride 45 = .ok (.goto 4, 3)) := by decide +kernel
theorem dX9_ride_34 : decode cX9_ride 34 = .ok (.aload_n 0, 1) := dX9_ride_34_b.1
theorem dX9_ride_35 : decode cX9_ride 35 = .ok (.getfield 42, 3) := dX9_ride_34_b.2.1
theorem dX9_ride_38 : decode cX9_ride 38 = .ok (.getfield 123, 3) := dX9_ride_34_b.2.2.1
theorem dX9_ride_41 : decode cX9_ride 41 = .ok (.iload_n 1, 1) := dX9_ride_34_b.2.2.2.1
theorem dX9_ride_42 : decode cX9_ride 42 = .ok (.invokevirtual 216, 3) := dX9_ride_34_b.2.2.2.2.1
theorem dX9_ride_45 : decode cX9_ride 45 = .ok (.goto 4, 3) := dX9_ride_34_b.2.2.2.2.2
set_option maxRecDepth 20000 in
theorem dX9_ride_48_b : (decode cX9_ride 48 = .ok (.iconst 0, 1)) ∧ (decode cX9_ride 49 = .ok (.istore 4, 2)) ∧ (decode cX9_ride 51 = .ok (.aload_n 0, 1)) ∧ (decode cX9_ride 52 = .ok (.getfield 42, 3)) ∧ (decode cX9_ride 55 = .ok (.iconst 2, 1)) ∧ (decode cX9_ride 56 = .ok (.iload_n 1, 1)) := by decide +kernel
theorem dX9_ride_48 : decode cX9_ride 48 = .ok (.iconst 0, 1) := dX9_ride_48_b.1
theorem dX9_ride_49 : decode cX9_ride 49 = .ok (.istore 4, 2) := dX9_ride_48_b.2.1
theorem dX9_ride_51 : decode cX9_ride 51 = .ok (.aload_n 0, 1) := dX9_ride_48_b.2.2.1
theorem dX9_ride_52 : decode cX9_ride 52 = .ok (.getfield 42, 3) := dX9_ride_48_b.2.2.2.1
theorem dX9_ride_55 : decode cX9_ride 55 = .ok (.iconst 2, 1) := dX9_ride_48_b.2.2.2.2.1
theorem dX9_ride_56 : decode cX9_ride 56 = .ok (.iload_n 1, 1) := dX9_ride_48_b.2.2.2.2.2
set_option maxRecDepth 20000 in
theorem dX9_ride_57_b : (decode cX9_ride 57 = .ok (.iload_n 2, 1)) ∧ (decode cX9_ride 58 = .ok (.iload 4, 2)) ∧ (decode cX9_ride 60 = .ok (.aload_n 0, 1)) ∧ (decode cX9_ride 61 = .ok (.getfield 42, 3)) ∧ (decode cX9_ride 64 = .ok (.getfield 123, 3)) ∧ (decode cX9_ride 67 = .ok (.iload_n 1, 1)) := by decide +kernel
theorem dX9_ride_57 : decode cX9_ride 57 = .ok (.iload_n 2, 1) := dX9_ride_57_b.1
theorem dX9_ride_58 : decode cX9_ride 58 = .ok (.iload 4, 2) := dX9_ride_57_b.2.1
theorem dX9_ride_60 : decode cX9_ride 60 = .ok (.aload_n 0, 1) := dX9_ride_57_b.2.2.1
theorem dX9_ride_61 : decode cX9_ride 61 = .ok (.getfield 42, 3) := dX9_ride_57_b.2.2.2.1
theorem dX9_ride_64 : decode cX9_ride 64 = .ok (.getfield 123, 3) := dX9_ride_57_b.2.2.2.2.1
theorem dX9_ride_67 : decode cX9_ride 67 = .ok (.iload_n 1, 1) := dX9_ride_57_b.2.2.2.2.2
set_option maxRecDepth 20000 in
theorem dX9_ride_68_b : (decode cX9_ride 68 = .ok (.invokestatic 219, 3)) ∧ (decode cX9_ride 71 = .ok (.invokevirtual 203, 3)) ∧ (decode cX9_ride 74 = .ok (.iload_n 3, 1)) ∧ (decode cX9_ride 75 = .ok (.ireturn, 1)) := by decide +kernel
theorem dX9_ride_68 : decode cX9_ride 68 = .ok (.invokestatic 219, 3) := dX9_ride_68_b.1
theorem dX9_ride_71 : decode cX9_ride 71 = .ok (.invokevirtual 203, 3) := dX9_ride_68_b.2.1
theorem dX9_ride_74 : decode cX9_ride 74 = .ok (.iload_n 3, 1) := dX9_ride_68_b.2.2.1
theorem dX9_ride_75 : decode cX9_ride 75 = .ok (.ireturn, 1) := dX9_ride_68_b.2.2.2
set_option maxRecDepth 20000 in
theorem dX9_judged_0_b : (decode cX9_judged 0 = .ok (.iload_n 1, 1)) ∧ (decode cX9_judged 1 = .ok (.ifCond .ne 20, 3)) ∧ (decode cX9_judged 4 = .ok (.aload_n 0, 1)) ∧ (decode cX9_judged 5 = .ok (.getfield 42, 3)) ∧ (decode cX9_judged 8 = .ok (.getfield 132, 3)) ∧ (decode cX9_judged 11 = .ok (.bipush 60, 2)) := by decide +kernel
theorem dX9_judged_0 : decode cX9_judged 0 = .ok (.iload_n 1, 1) := dX9_judged_0_b.1
theorem dX9_judged_1 : decode cX9_judged 1 = .ok (.ifCond .ne 20, 3) := dX9_judged_0_b.2.1
theorem dX9_judged_4 : decode cX9_judged 4 = .ok (.aload_n 0, 1) := dX9_judged_0_b.2.2.1
theorem dX9_judged_5 : decode cX9_judged 5 = .ok (.getfield 42, 3) := dX9_judged_0_b.2.2.2.1
theorem dX9_judged_8 : decode cX9_judged 8 = .ok (.getfield 132, 3) := dX9_judged_0_b.2.2.2.2.1
theorem dX9_judged_11 : decode cX9_judged 11 = .ok (.bipush 60, 2) := dX9_judged_0_b.2.2.2.2.2
set_option maxRecDepth 20000 in
theorem dX9_judged_13_b : (decode cX9_judged 13 = .ok (.if_icmp .lt 8, 3)) ∧ (decode cX9_judged 16 = .ok (.bipush 8, 2)) ∧ (decode cX9_judged 18 = .ok (.goto 4, 3)) ∧ (decode cX9_judged 21 = .ok (.iload_n 1, 1)) ∧ (decode cX9_judged 22 = .ok (.istore_n 2, 1)) ∧ (decode cX9_judged 23 = .ok (.iload_n 2, 1)) := by decide +kernel
theorem dX9_judged_13 : decode cX9_judged 13 = .ok (.if_icmp .lt 8, 3) := dX9_judged_13_b.1
theorem dX9_judged_16 : decode cX9_judged 16 = .ok (.bipush 8, 2) := dX9_judged_13_b.2.1
theorem dX9_judged_18 : decode cX9_judged 18 = .ok (.goto 4, 3) := dX9_judged_13_b.2.2.1
theorem dX9_judged_21 : decode cX9_judged 21 = .ok (.iload_n 1, 1) := dX9_judged_13_b.2.2.2.1
theorem dX9_judged_22 : decode cX9_judged 22 = .ok (.istore_n 2, 1) := dX9_judged_13_b.2.2.2.2.1
theorem dX9_judged_23 : decode cX9_judged 23 = .ok (.iload_n 2, 1) := dX9_judged_13_b.2.2.2.2.2
set_option maxRecDepth 20000 in
theorem dX9_judged_24_b : (decode cX9_judged 24 = .ok (.ifCond .eq 16, 3)) ∧ (decode cX9_judged 27 = .ok (.aload_n 0, 1)) ∧ (decode cX9_judged 28 = .ok (.getfield 42, 3)) ∧ (decode cX9_judged 31 = .ok (.getfield 87, 3)) ∧ (decode cX9_judged 34 = .ok (.iconst 1, 1)) ∧ (decode cX9_judged 35 = .ok (.dup2, 1)) := by decide +kernel
theorem dX9_judged_24 : decode cX9_judged 24 = .ok (.ifCond .eq 16, 3) := dX9_judged_24_b.1
theorem dX9_judged_27 : decode cX9_judged 27 = .ok (.aload_n 0, 1) := dX9_judged_24_b.2.1
theorem dX9_judged_28 : decode cX9_judged 28 = .ok (.getfield 42, 3) := dX9_judged_24_b.2.2.1
theorem dX9_judged_31 : decode cX9_judged 31 = .ok (.getfield 87, 3) := dX9_judged_24_b.2.2.2.1
theorem dX9_judged_34 : decode cX9_judged 34 = .ok (.iconst 1, 1) := dX9_judged_24_b.2.2.2.2.1
theorem dX9_judged_35 : decode cX9_judged 35 = .ok (.dup2, 1) := dX9_judged_24_b.2.2.2.2.2
set_option maxRecDepth 20000 in
theorem dX9_judged_36_b : (decode cX9_judged 36 = .ok (.iaload, 1)) ∧ (decode cX9_judged 37 = .ok (.iconst 1, 1)) ∧ (decode cX9_judged 38 = .ok (.iadd, 1)) ∧ (decode cX9_judged 39 = .ok (.iastore, 1)) ∧ (decode cX9_judged 40 = .ok (.iload_n 2, 1)) ∧ (decode cX9_judged 41 = .ok (.ireturn, 1)) := by decide +kernel
theorem dX9_judged_36 : decode cX9_judged 36 = .ok (.iaload, 1) := dX9_judged_36_b.1
theorem dX9_judged_37 : decode cX9_judged 37 = .ok (.iconst 1, 1) := dX9_judged_36_b.2.1
theorem dX9_judged_38 : decode cX9_judged 38 = .ok (.iadd, 1) := dX9_judged_36_b.2.2.1
theorem dX9_judged_39 : decode cX9_judged 39 = .ok (.iastore, 1) := dX9_judged_36_b.2.2.2.1
theorem dX9_judged_40 : decode cX9_judged 40 = .ok (.iload_n 2, 1) := dX9_judged_36_b.2.2.2.2.1
theorem dX9_judged_41 : decode cX9_judged 41 = .ok (.ireturn, 1) := dX9_judged_36_b.2.2.2.2.2
set_option maxRecDepth 20000 in
theorem dX9_winding_0_b : (decode cX9_winding 0 = .ok (.aload_n 0, 1)) ∧ (decode cX9_winding 1 = .ok (.getfield 23, 3)) ∧ (decode cX9_winding 4 = .ok (.iload_n 1, 1)) ∧ (decode cX9_winding 5 = .ok (.invokevirtual 222, 3)) ∧ (decode cX9_winding 8 = .ok (.ifCond .eq 17, 3)) ∧ (decode cX9_winding 11 = .ok (.iload_n 1, 1)) := by decide +kernel
theorem dX9_winding_0 : decode cX9_winding 0 = .ok (.aload_n 0, 1) := dX9_winding_0_b.1
theorem dX9_winding_1 : decode cX9_winding 1 = .ok (.getfield 23, 3) := dX9_winding_0_b.2.1
theorem dX9_winding_4 : decode cX9_winding 4 = .ok (.iload_n 1, 1) := dX9_winding_0_b.2.2.1
theorem dX9_winding_5 : decode cX9_winding 5 = .ok (.invokevirtual 222, 3) := dX9_winding_0_b.2.2.2.1
theorem dX9_winding_8 : decode cX9_winding 8 = .ok (.ifCond .eq 17, 3) := dX9_winding_0_b.2.2.2.2.1
theorem dX9_winding_11 : decode cX9_winding 11 = .ok (.iload_n 1, 1) := dX9_winding_0_b.2.2.2.2.2
set_option maxRecDepth 20000 in
theorem dX9_winding_12_b : (decode cX9_winding 12 = .ok (.aload_n 0, 1)) ∧ (decode cX9_winding 13 = .ok (.getfield 42, 3)) ∧ (decode cX9_winding 16 = .ok (.getfield 123, 3)) ∧ (decode cX9_winding 19 = .ok (.invokestatic 126, 3)) ∧ (decode cX9_winding 22 = .ok (.if_icmp .ne 5, 3)) ∧ (decode cX9_winding 25 = .ok (.iconst (-1), 1)) := by decide +kernel
theorem dX9_winding_12 : decode cX9_winding 12 = .ok (.aload_n 0, 1) := dX9_winding_12_b.1
theorem dX9_winding_13 : decode cX9_winding 13 = .ok (.getfield 42, 3) := dX9_winding_12_b.2.1
theorem dX9_winding_16 : decode cX9_winding 16 = .ok (.getfield 123, 3) := dX9_winding_12_b.2.2.1
theorem dX9_winding_19 : decode cX9_winding 19 = .ok (.invokestatic 126, 3) := dX9_winding_12_b.2.2.2.1
theorem dX9_winding_22 : decode cX9_winding 22 = .ok (.if_icmp .ne 5, 3) := dX9_winding_12_b.2.2.2.2.1
theorem dX9_winding_25 : decode cX9_winding 25 = .ok (.iconst (-1), 1) := dX9_winding_12_b.2.2.2.2.2
set_option maxRecDepth 20000 in
theorem dX9_winding_26_b : (decode cX9_winding 26 = .ok (.ireturn, 1)) ∧ (decode cX9_winding 27 = .ok (.aload_n 0, 1)) ∧ (decode cX9_winding 28 = .ok (.getfield 23, 3)) ∧ (decode cX9_winding 31 = .ok (.aload_n 0, 1)) ∧ (decode cX9_winding 32 = .ok (.getfield 42, 3)) ∧ (decode cX9_winding 35 = .ok (.getfield 123, 3)) := by decide +kernel
theorem dX9_winding_26 : decode cX9_winding 26 = .ok (.ireturn, 1) := dX9_winding_26_b.1
theorem dX9_winding_27 : decode cX9_winding 27 = .ok (.aload_n 0, 1) := dX9_winding_26_b.2.1
theorem dX9_winding_28 : decode cX9_winding 28 = .ok (.getfield 23, 3) := dX9_winding_26_b.2.2.1
theorem dX9_winding_31 : decode cX9_winding 31 = .ok (.aload_n 0, 1) := dX9_winding_26_b.2.2.2.1
theorem dX9_winding_32 : decode cX9_winding 32 = .ok (.getfield 42, 3) := dX9_winding_26_b.2.2.2.2.1
theorem dX9_winding_35 : decode cX9_winding 35 = .ok (.getfield 123, 3) := dX9_winding_26_b.2.2.2.2.2
set_option maxRecDepth 20000 in
theorem dX9_winding_38_b : (decode cX9_winding 38 = .ok (.iload_n 1, 1)) ∧ (decode cX9_winding 39 = .ok (.invokevirtual 216, 3)) ∧ (decode cX9_winding 42 = .ok (.ireturn, 1)) := by decide +kernel
theorem dX9_winding_38 : decode cX9_winding 38 = .ok (.iload_n 1, 1) := dX9_winding_38_b.1
theorem dX9_winding_39 : decode cX9_winding 39 = .ok (.invokevirtual 216, 3) := dX9_winding_38_b.2.1
theorem dX9_winding_42 : decode cX9_winding 42 = .ok (.ireturn, 1) := dX9_winding_38_b.2.2
set_option maxRecDepth 20000 in
theorem dX9_may_0_b : (decode cX9_may 0 = .ok (.aload_n 0, 1)) ∧ (decode cX9_may 1 = .ok (.getfield 42, 3)) ∧ (decode cX9_may 4 = .ok (.getfield 132, 3)) ∧ (decode cX9_may 7 = .ok (.bipush 60, 2)) ∧ (decode cX9_may 9 = .ok (.if_icmp .lt 5, 3)) ∧ (decode cX9_may 12 = .ok (.iconst 0, 1)) := by decide +kernel
theorem dX9_may_0 : decode cX9_may 0 = .ok (.aload_n 0, 1) := dX9_may_0_b.1
theorem dX9_may_1 : decode cX9_may 1 = .ok (.getfield 42, 3) := dX9_may_0_b.2.1
theorem dX9_may_4 : decode cX9_may 4 = .ok (.getfield 132, 3) := dX9_may_0_b.2.2.1
theorem dX9_may_7 : decode cX9_may 7 = .ok (.bipush 60, 2) := dX9_may_0_b.2.2.2.1
theorem dX9_may_9 : decode cX9_may 9 = .ok (.if_icmp .lt 5, 3) := dX9_may_0_b.2.2.2.2.1
theorem dX9_may_12 : decode cX9_may 12 = .ok (.iconst 0, 1) := dX9_may_0_b.2.2.2.2.2
set_option maxRecDepth 20000 in
theorem dX9_may_13_b : (decode cX9_may 13 = .ok (.ireturn, 1)) ∧ (decode cX9_may 14 = .ok (.iconst 0, 1)) ∧ (decode cX9_may 15 = .ok (.istore_n 2, 1)) ∧ (decode cX9_may 16 = .ok (.iconst 0, 1)) ∧ (decode cX9_may 17 = .ok (.istore_n 3, 1)) ∧ (decode cX9_may 18 = .ok (.iload_n 3, 1)) := by decide +kernel
theorem dX9_may_13 : decode cX9_may 13 = .ok (.ireturn, 1) := dX9_may_13_b.1
theorem dX9_may_14 : decode cX9_may 14 = .ok (.iconst 0, 1) := dX9_may_13_b.2.1
theorem dX9_may_15 : decode cX9_may 15 = .ok (.istore_n 2, 1) := dX9_may_13_b.2.2.1
theorem dX9_may_16 : decode cX9_may 16 = .ok (.iconst 0, 1) := dX9_may_13_b.2.2.2.1
theorem dX9_may_17 : decode cX9_may 17 = .ok (.istore_n 3, 1) := dX9_may_13_b.2.2.2.2.1
theorem dX9_may_18 : decode cX9_may 18 = .ok (.iload_n 3, 1) := dX9_may_13_b.2.2.2.2.2
set_option maxRecDepth 20000 in
theorem dX9_may_19_b : (decode cX9_may 19 = .ok (.iconst 2, 1)) ∧ (decode cX9_may 20 = .ok (.if_icmp .gt 34, 3)) ∧ (decode cX9_may 23 = .ok (.aload_n 0, 1)) ∧ (decode cX9_may 24 = .ok (.getfield 23, 3)) ∧ (decode cX9_may 27 = .ok (.aload_n 0, 1)) ∧ (decode cX9_may 28 = .ok (.getfield 42, 3)) := by decide +kernel
theorem dX9_may_19 : decode cX9_may 19 = .ok (.iconst 2, 1) := dX9_may_19_b.1
theorem dX9_may_20 : decode cX9_may 20 = .ok (.if_icmp .gt 34, 3) := dX9_may_19_b.2.1
theorem dX9_may_23 : decode cX9_may 23 = .ok (.aload_n 0, 1) := dX9_may_19_b.2.2.1
theorem dX9_may_24 : decode cX9_may 24 = .ok (.getfield 23, 3) := dX9_may_19_b.2.2.2.1
theorem dX9_may_27 : decode cX9_may 27 = .ok (.aload_n 0, 1) := dX9_may_19_b.2.2.2.2.1
theorem dX9_may_28 : decode cX9_may 28 = .ok (.getfield 42, 3) := dX9_may_19_b.2.2.2.2.2
set_option maxRecDepth 20000 in
theorem dX9_may_31_b : (decode cX9_may 31 = .ok (.getfield 123, 3)) ∧ (decode cX9_may 34 = .ok (.iload_n 1, 1)) ∧ (decode cX9_may 35 = .ok (.iload_n 3, 1)) ∧ (decode cX9_may 36 = .ok (.invokevirtual 213, 3)) ∧ (decode cX9_may 39 = .ok (.ifCond .ne 9, 3)) ∧ (decode cX9_may 42 = .ok (.iload_n 2, 1)) := by decide +kernel
theorem dX9_may_31 : decode cX9_may 31 = .ok (.getfield 123, 3) := dX9_may_31_b.1
theorem dX9_may_34 : decode cX9_may 34 = .ok (.iload_n 1, 1) := dX9_may_31_b.2.1
theorem dX9_may_35 : decode cX9_may 35 = .ok (.iload_n 3, 1) := dX9_may_31_b.2.2.1
theorem dX9_may_36 : decode cX9_may 36 = .ok (.invokevirtual 213, 3) := dX9_may_31_b.2.2.2.1
theorem dX9_may_39 : decode cX9_may 39 = .ok (.ifCond .ne 9, 3) := dX9_may_31_b.2.2.2.2.1
theorem dX9_may_42 : decode cX9_may 42 = .ok (.iload_n 2, 1) := dX9_may_31_b.2.2.2.2.2
set_option maxRecDepth 20000 in
theorem dX9_may_43_b : (decode cX9_may 43 = .ok (.iconst 1, 1)) ∧ (decode cX9_may 44 = .ok (.iload_n 3, 1)) ∧ (decode cX9_may 45 = .ok (.ishl, 1)) ∧ (decode cX9_may 46 = .ok (.ior, 1)) ∧ (decode cX9_may 47 = .ok (.istore_n 2, 1)) ∧ (decode cX9_may 48 = .ok (.iinc 3 1, 3)) := by decide +kernel
theorem dX9_may_43 : decode cX9_may 43 = .ok (.iconst 1, 1) := dX9_may_43_b.1
theorem dX9_may_44 : decode cX9_may 44 = .ok (.iload_n 3, 1) := dX9_may_43_b.2.1
theorem dX9_may_45 : decode cX9_may 45 = .ok (.ishl, 1) := dX9_may_43_b.2.2.1
theorem dX9_may_46 : decode cX9_may 46 = .ok (.ior, 1) := dX9_may_43_b.2.2.2.1
theorem dX9_may_47 : decode cX9_may 47 = .ok (.istore_n 2, 1) := dX9_may_43_b.2.2.2.2.1
theorem dX9_may_48 : decode cX9_may 48 = .ok (.iinc 3 1, 3) := dX9_may_43_b.2.2.2.2.2
set_option maxRecDepth 20000 in
theorem dX9_may_51_b : (decode cX9_may 51 = .ok (.goto (-33), 3)) ∧ (decode cX9_may 54 = .ok (.iload_n 2, 1)) ∧ (decode cX9_may 55 = .ok (.ireturn, 1)) := by decide +kernel
theorem dX9_may_51 : decode cX9_may 51 = .ok (.goto (-33), 3) := dX9_may_51_b.1
theorem dX9_may_54 : decode cX9_may 54 = .ok (.iload_n 2, 1) := dX9_may_51_b.2.1
theorem dX9_may_55 : decode cX9_may 55 = .ok (.ireturn, 1) := dX9_may_51_b.2.2
set_option maxRecDepth 20000 in
theorem dX9_undo_0_b : (decode cX9_undo 0 = .ok (.aload_n 0, 1)) ∧ (decode cX9_undo 1 = .ok (.getfield 42, 3)) ∧ (decode cX9_undo 4 = .ok (.getfield 132, 3)) ∧ (decode cX9_undo 7 = .ok (.ifCond .gt 5, 3)) ∧ (decode cX9_undo 10 = .ok (.iconst (-1), 1)) ∧ (decode cX9_undo 11 = .ok (.ireturn, 1)) := by decide +kernel
theorem dX9_undo_0 : decode cX9_undo 0 = .ok (.aload_n 0, 1) := dX9_undo_0_b.1
theorem dX9_undo_1 : decode cX9_undo 1 = .ok (.getfield 42, 3) := dX9_undo_0_b.2.1
theorem dX9_undo_4 : decode cX9_undo 4 = .ok (.getfield 132, 3) := dX9_undo_0_b.2.2.1
theorem dX9_undo_7 : decode cX9_undo 7 = .ok (.ifCond .gt 5, 3) := dX9_undo_0_b.2.2.2.1
theorem dX9_undo_10 : decode cX9_undo 10 = .ok (.iconst (-1), 1) := dX9_undo_0_b.2.2.2.2.1
theorem dX9_undo_11 : decode cX9_undo 11 = .ok (.ireturn, 1) := dX9_undo_0_b.2.2.2.2.2
set_option maxRecDepth 20000 in
theorem dX9_undo_12_b : (decode cX9_undo 12 = .ok (.aload_n 0, 1)) ∧ (decode cX9_undo 13 = .ok (.getfield 42, 3)) ∧ (decode cX9_undo 16 = .ok (.invokevirtual 225, 3)) ∧ (decode cX9_undo 19 = .ok (.aload_n 0, 1)) ∧ (decode cX9_undo 20 = .ok (.getfield 42, 3)) ∧ (decode cX9_undo 23 = .ok (.getfield 132, 3)) := by decide +kernel
theorem dX9_undo_12 : decode cX9_undo 12 = .ok (.aload_n 0, 1) := dX9_undo_12_b.1
theorem dX9_undo_13 : decode cX9_undo 13 = .ok (.getfield 42, 3) := dX9_undo_12_b.2.1
theorem dX9_undo_16 : decode cX9_undo 16 = .ok (.invokevirtual 225, 3) := dX9_undo_12_b.2.2.1
theorem dX9_undo_19 : decode cX9_undo 19 = .ok (.aload_n 0, 1) := dX9_undo_12_b.2.2.2.1
theorem dX9_undo_20 : decode cX9_undo 20 = .ok (.getfield 42, 3) := dX9_undo_12_b.2.2.2.2.1
theorem dX9_undo_23 : decode cX9_undo 23 = .ok (.getfield 132, 3) := dX9_undo_12_b.2.2.2.2.2
theorem dX9_undo_26 : decode cX9_undo 26 = .ok (.ireturn, 1) := by decide +kernel
set_option maxRecDepth 20000 in
theorem dX9_moved_0_b : (decode cX9_moved 0 = .ok (.iload_n 1, 1)) ∧ (decode cX9_moved 1 = .ok (.ifCond .lt 14, 3)) ∧ (decode cX9_moved 4 = .ok (.iload_n 1, 1)) ∧ (decode cX9_moved 5 = .ok (.aload_n 0, 1)) ∧ (decode cX9_moved 6 = .ok (.getfield 42, 3)) ∧ (decode cX9_moved 9 = .ok (.getfield 132, 3)) := by decide +kernel
theorem dX9_moved_0 : decode cX9_moved 0 = .ok (.iload_n 1, 1) := dX9_moved_0_b.1
theorem dX9_moved_1 : decode cX9_moved 1 = .ok (.ifCond .lt 14, 3) := dX9_moved_0_b.2.1
theorem dX9_moved_4 : decode cX9_moved 4 = .ok (.iload_n 1, 1) := dX9_moved_0_b.2.2.1
theorem dX9_moved_5 : decode cX9_moved 5 = .ok (.aload_n 0, 1) := dX9_moved_0_b.2.2.2.1
theorem dX9_moved_6 : decode cX9_moved 6 = .ok (.getfield 42, 3) := dX9_moved_0_b.2.2.2.2.1
theorem dX9_moved_9 : decode cX9_moved 9 = .ok (.getfield 132, 3) := dX9_moved_0_b.2.2.2.2.2
set_option maxRecDepth 20000 in
theorem dX9_moved_12_b : (decode cX9_moved 12 = .ok (.if_icmp .lt 13, 3)) ∧ (decode cX9_moved 15 = .ok (.new 144, 3)) ∧ (decode cX9_moved 18 = .ok (.dup, 1)) ∧ (decode cX9_moved 19 = .ok (.ldc 228, 2)) ∧ (decode cX9_moved 21 = .ok (.invokespecial 148, 3)) ∧ (decode cX9_moved 24 = .ok (.athrow, 1)) := by decide +kernel
theorem dX9_moved_12 : decode cX9_moved 12 = .ok (.if_icmp .lt 13, 3) := dX9_moved_12_b.1
theorem dX9_moved_15 : decode cX9_moved 15 = .ok (.new 144, 3) := dX9_moved_12_b.2.1
theorem dX9_moved_18 : decode cX9_moved 18 = .ok (.dup, 1) := dX9_moved_12_b.2.2.1
theorem dX9_moved_19 : decode cX9_moved 19 = .ok (.ldc 228, 2) := dX9_moved_12_b.2.2.2.1
theorem dX9_moved_21 : decode cX9_moved 21 = .ok (.invokespecial 148, 3) := dX9_moved_12_b.2.2.2.2.1
theorem dX9_moved_24 : decode cX9_moved 24 = .ok (.athrow, 1) := dX9_moved_12_b.2.2.2.2.2
set_option maxRecDepth 20000 in
theorem dX9_moved_25_b : (decode cX9_moved 25 = .ok (.iload_n 2, 1)) ∧ (decode cX9_moved 26 = .ok (.tableswitch 56 0 2 #[26, 36, 46], 26)) ∧ (decode cX9_moved 52 = .ok (.aload_n 0, 1)) ∧ (decode cX9_moved 53 = .ok (.getfield 42, 3)) ∧ (decode cX9_moved 56 = .ok (.getfield 230, 3)) ∧ (decode cX9_moved 59 = .ok (.iload_n 1, 1)) := by decide +kernel
theorem dX9_moved_25 : decode cX9_moved 25 = .ok (.iload_n 2, 1) := dX9_moved_25_b.1
theorem dX9_moved_26 : decode cX9_moved 26 = .ok (.tableswitch 56 0 2 #[26, 36, 46], 26) := dX9_moved_25_b.2.1
theorem dX9_moved_52 : decode cX9_moved 52 = .ok (.aload_n 0, 1) := dX9_moved_25_b.2.2.1
theorem dX9_moved_53 : decode cX9_moved 53 = .ok (.getfield 42, 3) := dX9_moved_25_b.2.2.2.1
theorem dX9_moved_56 : decode cX9_moved 56 = .ok (.getfield 230, 3) := dX9_moved_25_b.2.2.2.2.1
theorem dX9_moved_59 : decode cX9_moved 59 = .ok (.iload_n 1, 1) := dX9_moved_25_b.2.2.2.2.2
set_option maxRecDepth 20000 in
theorem dX9_moved_60_b : (decode cX9_moved 60 = .ok (.iaload, 1)) ∧ (decode cX9_moved 61 = .ok (.ireturn, 1)) ∧ (decode cX9_moved 62 = .ok (.aload_n 0, 1)) ∧ (decode cX9_moved 63 = .ok (.getfield 42, 3)) ∧ (decode cX9_moved 66 = .ok (.getfield 233, 3)) ∧ (decode cX9_moved 69 = .ok (.iload_n 1, 1)) := by decide +kernel
theorem dX9_moved_60 : decode cX9_moved 60 = .ok (.iaload, 1) := dX9_moved_60_b.1
theorem dX9_moved_61 : decode cX9_moved 61 = .ok (.ireturn, 1) := dX9_moved_60_b.2.1
theorem dX9_moved_62 : decode cX9_moved 62 = .ok (.aload_n 0, 1) := dX9_moved_60_b.2.2.1
theorem dX9_moved_63 : decode cX9_moved 63 = .ok (.getfield 42, 3) := dX9_moved_60_b.2.2.2.1
theorem dX9_moved_66 : decode cX9_moved 66 = .ok (.getfield 233, 3) := dX9_moved_60_b.2.2.2.2.1
theorem dX9_moved_69 : decode cX9_moved 69 = .ok (.iload_n 1, 1) := dX9_moved_60_b.2.2.2.2.2
set_option maxRecDepth 20000 in
theorem dX9_moved_70_b : (decode cX9_moved 70 = .ok (.iaload, 1)) ∧ (decode cX9_moved 71 = .ok (.ireturn, 1)) ∧ (decode cX9_moved 72 = .ok (.aload_n 0, 1)) ∧ (decode cX9_moved 73 = .ok (.getfield 42, 3)) ∧ (decode cX9_moved 76 = .ok (.getfield 236, 3)) ∧ (decode cX9_moved 79 = .ok (.iload_n 1, 1)) := by decide +kernel
theorem dX9_moved_70 : decode cX9_moved 70 = .ok (.iaload, 1) := dX9_moved_70_b.1
theorem dX9_moved_71 : decode cX9_moved 71 = .ok (.ireturn, 1) := dX9_moved_70_b.2.1
theorem dX9_moved_72 : decode cX9_moved 72 = .ok (.aload_n 0, 1) := dX9_moved_70_b.2.2.1
theorem dX9_moved_73 : decode cX9_moved 73 = .ok (.getfield 42, 3) := dX9_moved_70_b.2.2.2.1
theorem dX9_moved_76 : decode cX9_moved 76 = .ok (.getfield 236, 3) := dX9_moved_70_b.2.2.2.2.1
theorem dX9_moved_79 : decode cX9_moved 79 = .ok (.iload_n 1, 1) := dX9_moved_70_b.2.2.2.2.2
set_option maxRecDepth 20000 in
theorem dX9_moved_80_b : (decode cX9_moved 80 = .ok (.iaload, 1)) ∧ (decode cX9_moved 81 = .ok (.ireturn, 1)) ∧ (decode cX9_moved 82 = .ok (.new 144, 3)) ∧ (decode cX9_moved 85 = .ok (.dup, 1)) ∧ (decode cX9_moved 86 = .ok (.ldc 239, 2)) ∧ (decode cX9_moved 88 = .ok (.invokespecial 148, 3)) := by decide +kernel
theorem dX9_moved_80 : decode cX9_moved 80 = .ok (.iaload, 1) := dX9_moved_80_b.1
theorem dX9_moved_81 : decode cX9_moved 81 = .ok (.ireturn, 1) := dX9_moved_80_b.2.1
theorem dX9_moved_82 : decode cX9_moved 82 = .ok (.new 144, 3) := dX9_moved_80_b.2.2.1
theorem dX9_moved_85 : decode cX9_moved 85 = .ok (.dup, 1) := dX9_moved_80_b.2.2.2.1
theorem dX9_moved_86 : decode cX9_moved 86 = .ok (.ldc 239, 2) := dX9_moved_80_b.2.2.2.2.1
theorem dX9_moved_88 : decode cX9_moved 88 = .ok (.invokespecial 148, 3) := dX9_moved_80_b.2.2.2.2.2
theorem dX9_moved_91 : decode cX9_moved 91 = .ok (.athrow, 1) := by decide +kernel
set_option maxRecDepth 20000 in
theorem dX9_back_0_b : (decode cX9_back 0 = .ok (.iconst 0, 1)) ∧ (decode cX9_back 1 = .ok (.istore_n 1, 1)) ∧ (decode cX9_back 2 = .ok (.aload_n 0, 1)) ∧ (decode cX9_back 3 = .ok (.getfield 42, 3)) ∧ (decode cX9_back 6 = .ok (.getfield 132, 3)) ∧ (decode cX9_back 9 = .ok (.iconst 1, 1)) := by decide +kernel
theorem dX9_back_0 : decode cX9_back 0 = .ok (.iconst 0, 1) := dX9_back_0_b.1
theorem dX9_back_1 : decode cX9_back 1 = .ok (.istore_n 1, 1) := dX9_back_0_b.2.1
theorem dX9_back_2 : decode cX9_back 2 = .ok (.aload_n 0, 1) := dX9_back_0_b.2.2.1
theorem dX9_back_3 : decode cX9_back 3 = .ok (.getfield 42, 3) := dX9_back_0_b.2.2.2.1
theorem dX9_back_6 : decode cX9_back 6 = .ok (.getfield 132, 3) := dX9_back_0_b.2.2.2.2.1
theorem dX9_back_9 : decode cX9_back 9 = .ok (.iconst 1, 1) := dX9_back_0_b.2.2.2.2.2
set_option maxRecDepth 20000 in
theorem dX9_back_10_b : (decode cX9_back 10 = .ok (.isub, 1)) ∧ (decode cX9_back 11 = .ok (.istore_n 2, 1)) ∧ (decode cX9_back 12 = .ok (.iload_n 2, 1)) ∧ (decode cX9_back 13 = .ok (.ifCond .lt 74, 3)) ∧ (decode cX9_back 16 = .ok (.aload_n 0, 1)) ∧ (decode cX9_back 17 = .ok (.getfield 42, 3)) := by decide +kernel
theorem dX9_back_10 : decode cX9_back 10 = .ok (.isub, 1) := dX9_back_10_b.1
theorem dX9_back_11 : decode cX9_back 11 = .ok (.istore_n 2, 1) := dX9_back_10_b.2.1
theorem dX9_back_12 : decode cX9_back 12 = .ok (.iload_n 2, 1) := dX9_back_10_b.2.2.1
theorem dX9_back_13 : decode cX9_back 13 = .ok (.ifCond .lt 74, 3) := dX9_back_10_b.2.2.2.1
theorem dX9_back_16 : decode cX9_back 16 = .ok (.aload_n 0, 1) := dX9_back_10_b.2.2.2.2.1
theorem dX9_back_17 : decode cX9_back 17 = .ok (.getfield 42, 3) := dX9_back_10_b.2.2.2.2.2
set_option maxRecDepth 20000 in
theorem dX9_back_20_b : (decode cX9_back 20 = .ok (.getfield 230, 3)) ∧ (decode cX9_back 23 = .ok (.iload_n 2, 1)) ∧ (decode cX9_back 24 = .ok (.iaload, 1)) ∧ (decode cX9_back 25 = .ok (.iconst 2, 1)) ∧ (decode cX9_back 26 = .ok (.if_icmp .ne 55, 3)) ∧ (decode cX9_back 29 = .ok (.aload_n 0, 1)) := by decide +kernel
theorem dX9_back_20 : decode cX9_back 20 = .ok (.getfield 230, 3) := dX9_back_20_b.1
theorem dX9_back_23 : decode cX9_back 23 = .ok (.iload_n 2, 1) := dX9_back_20_b.2.1
theorem dX9_back_24 : decode cX9_back 24 = .ok (.iaload, 1) := dX9_back_20_b.2.2.1
theorem dX9_back_25 : decode cX9_back 25 = .ok (.iconst 2, 1) := dX9_back_20_b.2.2.2.1
theorem dX9_back_26 : decode cX9_back 26 = .ok (.if_icmp .ne 55, 3) := dX9_back_20_b.2.2.2.2.1
theorem dX9_back_29 : decode cX9_back 29 = .ok (.aload_n 0, 1) := dX9_back_20_b.2.2.2.2.2
set_option maxRecDepth 20000 in
theorem dX9_back_30_b : (decode cX9_back 30 = .ok (.getfield 42, 3)) ∧ (decode cX9_back 33 = .ok (.getfield 241, 3)) ∧ (decode cX9_back 36 = .ok (.iload_n 2, 1)) ∧ (decode cX9_back 37 = .ok (.iaload, 1)) ∧ (decode cX9_back 38 = .ok (.aload_n 0, 1)) ∧ (decode cX9_back 39 = .ok (.getfield 42, 3)) := by decide +kernel
theorem dX9_back_30 : decode cX9_back 30 = .ok (.getfield 42, 3) := dX9_back_30_b.1
theorem dX9_back_33 : decode cX9_back 33 = .ok (.getfield 241, 3) := dX9_back_30_b.2.1
theorem dX9_back_36 : decode cX9_back 36 = .ok (.iload_n 2, 1) := dX9_back_30_b.2.2.1
theorem dX9_back_37 : decode cX9_back 37 = .ok (.iaload, 1) := dX9_back_30_b.2.2.2.1
theorem dX9_back_38 : decode cX9_back 38 = .ok (.aload_n 0, 1) := dX9_back_30_b.2.2.2.2.1
theorem dX9_back_39 : decode cX9_back 39 = .ok (.getfield 42, 3) := dX9_back_30_b.2.2.2.2.2
set_option maxRecDepth 20000 in
theorem dX9_back_42_b : (decode cX9_back 42 = .ok (.getfield 233, 3)) ∧ (decode cX9_back 45 = .ok (.iload_n 2, 1)) ∧ (decode cX9_back 46 = .ok (.iaload, 1)) ∧ (decode cX9_back 47 = .ok (.invokestatic 219, 3)) ∧ (decode cX9_back 50 = .ok (.istore_n 3, 1)) ∧ (decode cX9_back 51 = .ok (.aload_n 0, 1)) := by decide +kernel
theorem dX9_back_42 : decode cX9_back 42 = .ok (.getfield 233, 3) := dX9_back_42_b.1
theorem dX9_back_45 : decode cX9_back 45 = .ok (.iload_n 2, 1) := dX9_back_42_b.2.1
theorem dX9_back_46 : decode cX9_back 46 = .ok (.iaload, 1) := dX9_back_42_b.2.2.1
theorem dX9_back_47 : decode cX9_back 47 = .ok (.invokestatic 219, 3) := dX9_back_42_b.2.2.2.1
theorem dX9_back_50 : decode cX9_back 50 = .ok (.istore_n 3, 1) := dX9_back_42_b.2.2.2.2.1
theorem dX9_back_51 : decode cX9_back 51 = .ok (.aload_n 0, 1) := dX9_back_42_b.2.2.2.2.2
set_option maxRecDepth 20000 in
theorem dX9_back_52_b : (decode cX9_back 52 = .ok (.getfield 23, 3)) ∧ (decode cX9_back 55 = .ok (.iload_n 3, 1)) ∧ (decode cX9_back 56 = .ok (.aload_n 0, 1)) ∧ (decode cX9_back 57 = .ok (.getfield 42, 3)) ∧ (decode cX9_back 60 = .ok (.getfield 241, 3)) ∧ (decode cX9_back 63 = .ok (.iload_n 2, 1)) := by decide +kernel
theorem dX9_back_52 : decode cX9_back 52 = .ok (.getfield 23, 3) := dX9_back_52_b.1
theorem dX9_back_55 : decode cX9_back 55 = .ok (.iload_n 3, 1) := dX9_back_52_b.2.1
theorem dX9_back_56 : decode cX9_back 56 = .ok (.aload_n 0, 1) := dX9_back_52_b.2.2.1
theorem dX9_back_57 : decode cX9_back 57 = .ok (.getfield 42, 3) := dX9_back_52_b.2.2.2.1
theorem dX9_back_60 : decode cX9_back 60 = .ok (.getfield 241, 3) := dX9_back_52_b.2.2.2.2.1
theorem dX9_back_63 : decode cX9_back 63 = .ok (.iload_n 2, 1) := dX9_back_52_b.2.2.2.2.2
set_option maxRecDepth 20000 in
theorem dX9_back_64_b : (decode cX9_back 64 = .ok (.iaload, 1)) ∧ (decode cX9_back 65 = .ok (.invokestatic 126, 3)) ∧ (decode cX9_back 68 = .ok (.iconst 1, 1)) ∧ (decode cX9_back 69 = .ok (.invokevirtual 213, 3)) ∧ (decode cX9_back 72 = .ok (.ifCond .eq 6, 3)) ∧ (decode cX9_back 75 = .ok (.goto 12, 3)) := by decide +kernel
theorem dX9_back_64 : decode cX9_back 64 = .ok (.iaload, 1) := dX9_back_64_b.1
theorem dX9_back_65 : decode cX9_back 65 = .ok (.invokestatic 126, 3) := dX9_back_64_b.2.1
theorem dX9_back_68 : decode cX9_back 68 = .ok (.iconst 1, 1) := dX9_back_64_b.2.2.1
theorem dX9_back_69 : decode cX9_back 69 = .ok (.invokevirtual 213, 3) := dX9_back_64_b.2.2.2.1
theorem dX9_back_72 : decode cX9_back 72 = .ok (.ifCond .eq 6, 3) := dX9_back_64_b.2.2.2.2.1
theorem dX9_back_75 : decode cX9_back 75 = .ok (.goto 12, 3) := dX9_back_64_b.2.2.2.2.2
set_option maxRecDepth 20000 in
theorem dX9_back_78_b : (decode cX9_back 78 = .ok (.iinc 1 1, 3)) ∧ (decode cX9_back 81 = .ok (.iinc 2 (-1), 3)) ∧ (decode cX9_back 84 = .ok (.goto (-72), 3)) ∧ (decode cX9_back 87 = .ok (.iload_n 1, 1)) ∧ (decode cX9_back 88 = .ok (.ireturn, 1)) := by decide +kernel
theorem dX9_back_78 : decode cX9_back 78 = .ok (.iinc 1 1, 3) := dX9_back_78_b.1
theorem dX9_back_81 : decode cX9_back 81 = .ok (.iinc 2 (-1), 3) := dX9_back_78_b.2.1
theorem dX9_back_84 : decode cX9_back 84 = .ok (.goto (-72), 3) := dX9_back_78_b.2.2.1
theorem dX9_back_87 : decode cX9_back 87 = .ok (.iload_n 1, 1) := dX9_back_78_b.2.2.2.1
theorem dX9_back_88 : decode cX9_back 88 = .ok (.ireturn, 1) := dX9_back_78_b.2.2.2.2
set_option maxRecDepth 20000 in
theorem dX9_fewest_0_b : (decode cX9_fewest 0 = .ok (.iload_n 1, 1)) ∧ (decode cX9_fewest 1 = .ok (.ifCond .eq 18, 3)) ∧ (decode cX9_fewest 4 = .ok (.iload_n 1, 1)) ∧ (decode cX9_fewest 5 = .ok (.iconst 1, 1)) ∧ (decode cX9_fewest 6 = .ok (.if_icmp .eq 13, 3)) ∧ (decode cX9_fewest 9 = .ok (.new 144, 3)) := by decide +kernel
theorem dX9_fewest_0 : decode cX9_fewest 0 = .ok (.iload_n 1, 1) := dX9_fewest_0_b.1
theorem dX9_fewest_1 : decode cX9_fewest 1 = .ok (.ifCond .eq 18, 3) := dX9_fewest_0_b.2.1
theorem dX9_fewest_4 : decode cX9_fewest 4 = .ok (.iload_n 1, 1) := dX9_fewest_0_b.2.2.1
theorem dX9_fewest_5 : decode cX9_fewest 5 = .ok (.iconst 1, 1) := dX9_fewest_0_b.2.2.2.1
theorem dX9_fewest_6 : decode cX9_fewest 6 = .ok (.if_icmp .eq 13, 3) := dX9_fewest_0_b.2.2.2.2.1
theorem dX9_fewest_9 : decode cX9_fewest 9 = .ok (.new 144, 3) := dX9_fewest_0_b.2.2.2.2.2
set_option maxRecDepth 20000 in
theorem dX9_fewest_12_b : (decode cX9_fewest 12 = .ok (.dup, 1)) ∧ (decode cX9_fewest 13 = .ok (.ldc 244, 2)) ∧ (decode cX9_fewest 15 = .ok (.invokespecial 148, 3)) ∧ (decode cX9_fewest 18 = .ok (.athrow, 1)) ∧ (decode cX9_fewest 19 = .ok (.aload_n 0, 1)) ∧ (decode cX9_fewest 20 = .ok (.getfield 56, 3)) := by decide +kernel
theorem dX9_fewest_12 : decode cX9_fewest 12 = .ok (.dup, 1) := dX9_fewest_12_b.1
theorem dX9_fewest_13 : decode cX9_fewest 13 = .ok (.ldc 244, 2) := dX9_fewest_12_b.2.1
theorem dX9_fewest_15 : decode cX9_fewest 15 = .ok (.invokespecial 148, 3) := dX9_fewest_12_b.2.2.1
theorem dX9_fewest_18 : decode cX9_fewest 18 = .ok (.athrow, 1) := dX9_fewest_12_b.2.2.2.1
theorem dX9_fewest_19 : decode cX9_fewest 19 = .ok (.aload_n 0, 1) := dX9_fewest_12_b.2.2.2.2.1
theorem dX9_fewest_20 : decode cX9_fewest 20 = .ok (.getfield 56, 3) := dX9_fewest_12_b.2.2.2.2.2
set_option maxRecDepth 20000 in
theorem dX9_fewest_23_b : (decode cX9_fewest 23 = .ok (.aload_n 0, 1)) ∧ (decode cX9_fewest 24 = .ok (.getfield 23, 3)) ∧ (decode cX9_fewest 27 = .ok (.aload_n 0, 1)) ∧ (decode cX9_fewest 28 = .ok (.getfield 42, 3)) ∧ (decode cX9_fewest 31 = .ok (.getfield 123, 3)) ∧ (decode cX9_fewest 34 = .ok (.iload_n 1, 1)) := by decide +kernel
theorem dX9_fewest_23 : decode cX9_fewest 23 = .ok (.aload_n 0, 1) := dX9_fewest_23_b.1
theorem dX9_fewest_24 : decode cX9_fewest 24 = .ok (.getfield 23, 3) := dX9_fewest_23_b.2.1
theorem dX9_fewest_27 : decode cX9_fewest 27 = .ok (.aload_n 0, 1) := dX9_fewest_23_b.2.2.1
theorem dX9_fewest_28 : decode cX9_fewest 28 = .ok (.getfield 42, 3) := dX9_fewest_23_b.2.2.2.1
theorem dX9_fewest_31 : decode cX9_fewest 31 = .ok (.getfield 123, 3) := dX9_fewest_23_b.2.2.2.2.1
theorem dX9_fewest_34 : decode cX9_fewest 34 = .ok (.iload_n 1, 1) := dX9_fewest_23_b.2.2.2.2.2
set_option maxRecDepth 20000 in
theorem dX9_fewest_35_b : (decode cX9_fewest 35 = .ok (.iconst 1, 1)) ∧ (decode cX9_fewest 36 = .ok (.if_icmp .ne 7, 3)) ∧ (decode cX9_fewest 39 = .ok (.iconst 1, 1)) ∧ (decode cX9_fewest 40 = .ok (.goto 4, 3)) ∧ (decode cX9_fewest 43 = .ok (.iconst 0, 1)) ∧ (decode cX9_fewest 44 = .ok (.invokevirtual 246, 3)) := by decide +kernel
theorem dX9_fewest_35 : decode cX9_fewest 35 = .ok (.iconst 1, 1) := dX9_fewest_35_b.1
theorem dX9_fewest_36 : decode cX9_fewest 36 = .ok (.if_icmp .ne 7, 3) := dX9_fewest_35_b.2.1
theorem dX9_fewest_39 : decode cX9_fewest 39 = .ok (.iconst 1, 1) := dX9_fewest_35_b.2.2.1
theorem dX9_fewest_40 : decode cX9_fewest 40 = .ok (.goto 4, 3) := dX9_fewest_35_b.2.2.2.1
theorem dX9_fewest_43 : decode cX9_fewest 43 = .ok (.iconst 0, 1) := dX9_fewest_35_b.2.2.2.2.1
theorem dX9_fewest_44 : decode cX9_fewest 44 = .ok (.invokevirtual 246, 3) := dX9_fewest_35_b.2.2.2.2.2
set_option maxRecDepth 20000 in
theorem dX9_fewest_47_b : (decode cX9_fewest 47 = .ok (.istore_n 2, 1)) ∧ (decode cX9_fewest 48 = .ok (.iload_n 2, 1)) ∧ (decode cX9_fewest 49 = .ok (.ifCond .eq 13, 3)) ∧ (decode cX9_fewest 52 = .ok (.aload_n 0, 1)) ∧ (decode cX9_fewest 53 = .ok (.getfield 56, 3)) ∧ (decode cX9_fewest 56 = .ok (.invokevirtual 250, 3)) := by decide +kernel
theorem dX9_fewest_47 : decode cX9_fewest 47 = .ok (.istore_n 2, 1) := dX9_fewest_47_b.1
theorem dX9_fewest_48 : decode cX9_fewest 48 = .ok (.iload_n 2, 1) := dX9_fewest_47_b.2.1
theorem dX9_fewest_49 : decode cX9_fewest 49 = .ok (.ifCond .eq 13, 3) := dX9_fewest_47_b.2.2.1
theorem dX9_fewest_52 : decode cX9_fewest 52 = .ok (.aload_n 0, 1) := dX9_fewest_47_b.2.2.2.1
theorem dX9_fewest_53 : decode cX9_fewest 53 = .ok (.getfield 56, 3) := dX9_fewest_47_b.2.2.2.2.1
theorem dX9_fewest_56 : decode cX9_fewest 56 = .ok (.invokevirtual 250, 3) := dX9_fewest_47_b.2.2.2.2.2
set_option maxRecDepth 20000 in
theorem dX9_fewest_59_b : (decode cX9_fewest 59 = .ok (.goto 5, 3)) ∧ (decode cX9_fewest 62 = .ok (.bipush (-2), 2)) ∧ (decode cX9_fewest 64 = .ok (.ireturn, 1)) := by decide +kernel
theorem dX9_fewest_59 : decode cX9_fewest 59 = .ok (.goto 5, 3) := dX9_fewest_59_b.1
theorem dX9_fewest_62 : decode cX9_fewest 62 = .ok (.bipush (-2), 2) := dX9_fewest_59_b.2.1
theorem dX9_fewest_64 : decode cX9_fewest 64 = .ok (.ireturn, 1) := dX9_fewest_59_b.2.2
set_option maxRecDepth 20000 in
theorem dX9_reach_0_b : (decode cX9_reach 0 = .ok (.aload_n 0, 1)) ∧ (decode cX9_reach 1 = .ok (.getfield 23, 3)) ∧ (decode cX9_reach 4 = .ok (.iload_n 1, 1)) ∧ (decode cX9_reach 5 = .ok (.invokevirtual 149, 3)) ∧ (decode cX9_reach 8 = .ok (.ifCond .ne 13, 3)) ∧ (decode cX9_reach 11 = .ok (.new 144, 3)) := by decide +kernel
theorem dX9_reach_0 : decode cX9_reach 0 = .ok (.aload_n 0, 1) := dX9_reach_0_b.1
theorem dX9_reach_1 : decode cX9_reach 1 = .ok (.getfield 23, 3) := dX9_reach_0_b.2.1
theorem dX9_reach_4 : decode cX9_reach 4 = .ok (.iload_n 1, 1) := dX9_reach_0_b.2.2.1
theorem dX9_reach_5 : decode cX9_reach 5 = .ok (.invokevirtual 149, 3) := dX9_reach_0_b.2.2.2.1
theorem dX9_reach_8 : decode cX9_reach 8 = .ok (.ifCond .ne 13, 3) := dX9_reach_0_b.2.2.2.2.1
theorem dX9_reach_11 : decode cX9_reach 11 = .ok (.new 144, 3) := dX9_reach_0_b.2.2.2.2.2
set_option maxRecDepth 20000 in
theorem dX9_reach_14_b : (decode cX9_reach 14 = .ok (.dup, 1)) ∧ (decode cX9_reach 15 = .ok (.ldc 153, 2)) ∧ (decode cX9_reach 17 = .ok (.invokespecial 148, 3)) ∧ (decode cX9_reach 20 = .ok (.athrow, 1)) ∧ (decode cX9_reach 21 = .ok (.aload_n 0, 1)) ∧ (decode cX9_reach 22 = .ok (.getfield 23, 3)) := by decide +kernel
theorem dX9_reach_14 : decode cX9_reach 14 = .ok (.dup, 1) := dX9_reach_14_b.1
theorem dX9_reach_15 : decode cX9_reach 15 = .ok (.ldc 153, 2) := dX9_reach_14_b.2.1
theorem dX9_reach_17 : decode cX9_reach 17 = .ok (.invokespecial 148, 3) := dX9_reach_14_b.2.2.1
theorem dX9_reach_20 : decode cX9_reach 20 = .ok (.athrow, 1) := dX9_reach_14_b.2.2.2.1
theorem dX9_reach_21 : decode cX9_reach 21 = .ok (.aload_n 0, 1) := dX9_reach_14_b.2.2.2.2.1
theorem dX9_reach_22 : decode cX9_reach 22 = .ok (.getfield 23, 3) := dX9_reach_14_b.2.2.2.2.2
set_option maxRecDepth 20000 in
theorem dX9_reach_25_b : (decode cX9_reach 25 = .ok (.aload_n 0, 1)) ∧ (decode cX9_reach 26 = .ok (.getfield 42, 3)) ∧ (decode cX9_reach 29 = .ok (.getfield 123, 3)) ∧ (decode cX9_reach 32 = .ok (.iload_n 1, 1)) ∧ (decode cX9_reach 33 = .ok (.invokevirtual 171, 3)) ∧ (decode cX9_reach 36 = .ok (.ifCond .eq 32, 3)) := by decide +kernel
theorem dX9_reach_25 : decode cX9_reach 25 = .ok (.aload_n 0, 1) := dX9_reach_25_b.1
theorem dX9_reach_26 : decode cX9_reach 26 = .ok (.getfield 42, 3) := dX9_reach_25_b.2.1
theorem dX9_reach_29 : decode cX9_reach 29 = .ok (.getfield 123, 3) := dX9_reach_25_b.2.2.1
theorem dX9_reach_32 : decode cX9_reach 32 = .ok (.iload_n 1, 1) := dX9_reach_25_b.2.2.2.1
theorem dX9_reach_33 : decode cX9_reach 33 = .ok (.invokevirtual 171, 3) := dX9_reach_25_b.2.2.2.2.1
theorem dX9_reach_36 : decode cX9_reach 36 = .ok (.ifCond .eq 32, 3) := dX9_reach_25_b.2.2.2.2.2
set_option maxRecDepth 20000 in
theorem dX9_reach_39_b : (decode cX9_reach 39 = .ok (.aload_n 0, 1)) ∧ (decode cX9_reach 40 = .ok (.getfield 23, 3)) ∧ (decode cX9_reach 43 = .ok (.aload_n 0, 1)) ∧ (decode cX9_reach 44 = .ok (.getfield 42, 3)) ∧ (decode cX9_reach 47 = .ok (.getfield 123, 3)) ∧ (decode cX9_reach 50 = .ok (.iload_n 1, 1)) := by decide +kernel
theorem dX9_reach_39 : decode cX9_reach 39 = .ok (.aload_n 0, 1) := dX9_reach_39_b.1
theorem dX9_reach_40 : decode cX9_reach 40 = .ok (.getfield 23, 3) := dX9_reach_39_b.2.1
theorem dX9_reach_43 : decode cX9_reach 43 = .ok (.aload_n 0, 1) := dX9_reach_39_b.2.2.1
theorem dX9_reach_44 : decode cX9_reach 44 = .ok (.getfield 42, 3) := dX9_reach_39_b.2.2.2.1
theorem dX9_reach_47 : decode cX9_reach 47 = .ok (.getfield 123, 3) := dX9_reach_39_b.2.2.2.2.1
theorem dX9_reach_50 : decode cX9_reach 50 = .ok (.iload_n 1, 1) := dX9_reach_39_b.2.2.2.2.2
set_option maxRecDepth 20000 in
theorem dX9_reach_51_b : (decode cX9_reach 51 = .ok (.invokevirtual 164, 3)) ∧ (decode cX9_reach 54 = .ok (.istore_n 2, 1)) ∧ (decode cX9_reach 55 = .ok (.iload_n 2, 1)) ∧ (decode cX9_reach 56 = .ok (.iconst (-1), 1)) ∧ (decode cX9_reach 57 = .ok (.if_icmp .ne 7, 3)) ∧ (decode cX9_reach 60 = .ok (.iconst 0, 1)) := by decide +kernel
theorem dX9_reach_51 : decode cX9_reach 51 = .ok (.invokevirtual 164, 3) := dX9_reach_51_b.1
theorem dX9_reach_54 : decode cX9_reach 54 = .ok (.istore_n 2, 1) := dX9_reach_51_b.2.1
theorem dX9_reach_55 : decode cX9_reach 55 = .ok (.iload_n 2, 1) := dX9_reach_51_b.2.2.1
theorem dX9_reach_56 : decode cX9_reach 56 = .ok (.iconst (-1), 1) := dX9_reach_51_b.2.2.2.1
theorem dX9_reach_57 : decode cX9_reach 57 = .ok (.if_icmp .ne 7, 3) := dX9_reach_51_b.2.2.2.2.1
theorem dX9_reach_60 : decode cX9_reach 60 = .ok (.iconst 0, 1) := dX9_reach_51_b.2.2.2.2.2
set_option maxRecDepth 20000 in
theorem dX9_reach_61_b : (decode cX9_reach 61 = .ok (.goto 6, 3)) ∧ (decode cX9_reach 64 = .ok (.iconst 1, 1)) ∧ (decode cX9_reach 65 = .ok (.iload_n 2, 1)) ∧ (decode cX9_reach 66 = .ok (.ishl, 1)) ∧ (decode cX9_reach 67 = .ok (.ireturn, 1)) ∧ (decode cX9_reach 68 = .ok (.aload_n 0, 1)) := by decide +kernel
theorem dX9_reach_61 : decode cX9_reach 61 = .ok (.goto 6, 3) := dX9_reach_61_b.1
theorem dX9_reach_64 : decode cX9_reach 64 = .ok (.iconst 1, 1) := dX9_reach_61_b.2.1
theorem dX9_reach_65 : decode cX9_reach 65 = .ok (.iload_n 2, 1) := dX9_reach_61_b.2.2.1
theorem dX9_reach_66 : decode cX9_reach 66 = .ok (.ishl, 1) := dX9_reach_61_b.2.2.2.1
theorem dX9_reach_67 : decode cX9_reach 67 = .ok (.ireturn, 1) := dX9_reach_61_b.2.2.2.2.1
theorem dX9_reach_68 : decode cX9_reach 68 = .ok (.aload_n 0, 1) := dX9_reach_61_b.2.2.2.2.2
set_option maxRecDepth 20000 in
theorem dX9_reach_69_b : (decode cX9_reach 69 = .ok (.getfield 56, 3)) ∧ (decode cX9_reach 72 = .ok (.aload_n 0, 1)) ∧ (decode cX9_reach 73 = .ok (.getfield 23, 3)) ∧ (decode cX9_reach 76 = .ok (.aload_n 0, 1)) ∧ (decode cX9_reach 77 = .ok (.getfield 42, 3)) ∧ (decode cX9_reach 80 = .ok (.getfield 123, 3)) := by decide +kernel
theorem dX9_reach_69 : decode cX9_reach 69 = .ok (.getfield 56, 3) := dX9_reach_69_b.1
theorem dX9_reach_72 : decode cX9_reach 72 = .ok (.aload_n 0, 1) := dX9_reach_69_b.2.1
theorem dX9_reach_73 : decode cX9_reach 73 = .ok (.getfield 23, 3) := dX9_reach_69_b.2.2.1
theorem dX9_reach_76 : decode cX9_reach 76 = .ok (.aload_n 0, 1) := dX9_reach_69_b.2.2.2.1
theorem dX9_reach_77 : decode cX9_reach 77 = .ok (.getfield 42, 3) := dX9_reach_69_b.2.2.2.2.1
theorem dX9_reach_80 : decode cX9_reach 80 = .ok (.getfield 123, 3) := dX9_reach_69_b.2.2.2.2.2
set_option maxRecDepth 20000 in
theorem dX9_reach_83_b : (decode cX9_reach 83 = .ok (.iconst 0, 1)) ∧ (decode cX9_reach 84 = .ok (.invokevirtual 246, 3)) ∧ (decode cX9_reach 87 = .ok (.ifCond .eq 14, 3)) ∧ (decode cX9_reach 90 = .ok (.aload_n 0, 1)) ∧ (decode cX9_reach 91 = .ok (.getfield 56, 3)) ∧ (decode cX9_reach 94 = .ok (.iload_n 1, 1)) := by decide +kernel
theorem dX9_reach_83 : decode cX9_reach 83 = .ok (.iconst 0, 1) := dX9_reach_83_b.1
theorem dX9_reach_84 : decode cX9_reach 84 = .ok (.invokevirtual 246, 3) := dX9_reach_83_b.2.1
theorem dX9_reach_87 : decode cX9_reach 87 = .ok (.ifCond .eq 14, 3) := dX9_reach_83_b.2.2.1
theorem dX9_reach_90 : decode cX9_reach 90 = .ok (.aload_n 0, 1) := dX9_reach_83_b.2.2.2.1
theorem dX9_reach_91 : decode cX9_reach 91 = .ok (.getfield 56, 3) := dX9_reach_83_b.2.2.2.2.1
theorem dX9_reach_94 : decode cX9_reach 94 = .ok (.iload_n 1, 1) := dX9_reach_83_b.2.2.2.2.2
set_option maxRecDepth 20000 in
theorem dX9_reach_95_b : (decode cX9_reach 95 = .ok (.invokevirtual 253, 3)) ∧ (decode cX9_reach 98 = .ok (.goto 5, 3)) ∧ (decode cX9_reach 101 = .ok (.bipush (-2), 2)) ∧ (decode cX9_reach 103 = .ok (.ireturn, 1)) := by decide +kernel
theorem dX9_reach_95 : decode cX9_reach 95 = .ok (.invokevirtual 253, 3) := dX9_reach_95_b.1
theorem dX9_reach_98 : decode cX9_reach 98 = .ok (.goto 5, 3) := dX9_reach_95_b.2.1
theorem dX9_reach_101 : decode cX9_reach 101 = .ok (.bipush (-2), 2) := dX9_reach_95_b.2.2.1
theorem dX9_reach_103 : decode cX9_reach 103 = .ok (.ireturn, 1) := dX9_reach_95_b.2.2.2
set_option maxRecDepth 20000 in
theorem dX9_bars_0_b : (decode cX9_bars 0 = .ok (.aload_n 0, 1)) ∧ (decode cX9_bars 1 = .ok (.getfield 23, 3)) ∧ (decode cX9_bars 4 = .ok (.iload_n 1, 1)) ∧ (decode cX9_bars 5 = .ok (.invokevirtual 149, 3)) ∧ (decode cX9_bars 8 = .ok (.ifCond .eq 14, 3)) ∧ (decode cX9_bars 11 = .ok (.aload_n 0, 1)) := by decide +kernel
theorem dX9_bars_0 : decode cX9_bars 0 = .ok (.aload_n 0, 1) := dX9_bars_0_b.1
theorem dX9_bars_1 : decode cX9_bars 1 = .ok (.getfield 23, 3) := dX9_bars_0_b.2.1
theorem dX9_bars_4 : decode cX9_bars 4 = .ok (.iload_n 1, 1) := dX9_bars_0_b.2.2.1
theorem dX9_bars_5 : decode cX9_bars 5 = .ok (.invokevirtual 149, 3) := dX9_bars_0_b.2.2.2.1
theorem dX9_bars_8 : decode cX9_bars 8 = .ok (.ifCond .eq 14, 3) := dX9_bars_0_b.2.2.2.2.1
theorem dX9_bars_11 : decode cX9_bars 11 = .ok (.aload_n 0, 1) := dX9_bars_0_b.2.2.2.2.2
set_option maxRecDepth 20000 in
theorem dX9_bars_12_b : (decode cX9_bars 12 = .ok (.getfield 23, 3)) ∧ (decode cX9_bars 15 = .ok (.iload_n 2, 1)) ∧ (decode cX9_bars 16 = .ok (.invokevirtual 222, 3)) ∧ (decode cX9_bars 19 = .ok (.ifCond .ne 14, 3)) ∧ (decode cX9_bars 22 = .ok (.new 144, 3)) ∧ (decode cX9_bars 25 = .ok (.dup, 1)) := by decide +kernel
theorem dX9_bars_12 : decode cX9_bars 12 = .ok (.getfield 23, 3) := dX9_bars_12_b.1
theorem dX9_bars_15 : decode cX9_bars 15 = .ok (.iload_n 2, 1) := dX9_bars_12_b.2.1
theorem dX9_bars_16 : decode cX9_bars 16 = .ok (.invokevirtual 222, 3) := dX9_bars_12_b.2.2.1
theorem dX9_bars_19 : decode cX9_bars 19 = .ok (.ifCond .ne 14, 3) := dX9_bars_12_b.2.2.2.1
theorem dX9_bars_22 : decode cX9_bars 22 = .ok (.new 144, 3) := dX9_bars_12_b.2.2.2.2.1
theorem dX9_bars_25 : decode cX9_bars 25 = .ok (.dup, 1) := dX9_bars_12_b.2.2.2.2.2
set_option maxRecDepth 20000 in
theorem dX9_bars_26_b : (decode cX9_bars 26 = .ok (.ldc_w 256, 3)) ∧ (decode cX9_bars 29 = .ok (.invokespecial 148, 3)) ∧ (decode cX9_bars 32 = .ok (.athrow, 1)) ∧ (decode cX9_bars 33 = .ok (.aload_n 0, 1)) ∧ (decode cX9_bars 34 = .ok (.getfield 23, 3)) ∧ (decode cX9_bars 37 = .ok (.aload_n 0, 1)) := by decide +kernel
theorem dX9_bars_26 : decode cX9_bars 26 = .ok (.ldc_w 256, 3) := dX9_bars_26_b.1
theorem dX9_bars_29 : decode cX9_bars 29 = .ok (.invokespecial 148, 3) := dX9_bars_26_b.2.1
theorem dX9_bars_32 : decode cX9_bars 32 = .ok (.athrow, 1) := dX9_bars_26_b.2.2.1
theorem dX9_bars_33 : decode cX9_bars 33 = .ok (.aload_n 0, 1) := dX9_bars_26_b.2.2.2.1
theorem dX9_bars_34 : decode cX9_bars 34 = .ok (.getfield 23, 3) := dX9_bars_26_b.2.2.2.2.1
theorem dX9_bars_37 : decode cX9_bars 37 = .ok (.aload_n 0, 1) := dX9_bars_26_b.2.2.2.2.2
set_option maxRecDepth 20000 in
theorem dX9_bars_38_b : (decode cX9_bars 38 = .ok (.getfield 42, 3)) ∧ (decode cX9_bars 41 = .ok (.getfield 123, 3)) ∧ (decode cX9_bars 44 = .ok (.iload_n 1, 1)) ∧ (decode cX9_bars 45 = .ok (.invokevirtual 171, 3)) ∧ (decode cX9_bars 48 = .ok (.ifCond .eq 28, 3)) ∧ (decode cX9_bars 51 = .ok (.aload_n 0, 1)) := by decide +kernel
theorem dX9_bars_38 : decode cX9_bars 38 = .ok (.getfield 42, 3) := dX9_bars_38_b.1
theorem dX9_bars_41 : decode cX9_bars 41 = .ok (.getfield 123, 3) := dX9_bars_38_b.2.1
theorem dX9_bars_44 : decode cX9_bars 44 = .ok (.iload_n 1, 1) := dX9_bars_38_b.2.2.1
theorem dX9_bars_45 : decode cX9_bars 45 = .ok (.invokevirtual 171, 3) := dX9_bars_38_b.2.2.2.1
theorem dX9_bars_48 : decode cX9_bars 48 = .ok (.ifCond .eq 28, 3) := dX9_bars_38_b.2.2.2.2.1
theorem dX9_bars_51 : decode cX9_bars 51 = .ok (.aload_n 0, 1) := dX9_bars_38_b.2.2.2.2.2
set_option maxRecDepth 20000 in
theorem dX9_bars_52_b : (decode cX9_bars 52 = .ok (.getfield 23, 3)) ∧ (decode cX9_bars 55 = .ok (.aload_n 0, 1)) ∧ (decode cX9_bars 56 = .ok (.getfield 42, 3)) ∧ (decode cX9_bars 59 = .ok (.getfield 123, 3)) ∧ (decode cX9_bars 62 = .ok (.iload_n 1, 1)) ∧ (decode cX9_bars 63 = .ok (.invokevirtual 164, 3)) := by decide +kernel
theorem dX9_bars_52 : decode cX9_bars 52 = .ok (.getfield 23, 3) := dX9_bars_52_b.1
theorem dX9_bars_55 : decode cX9_bars 55 = .ok (.aload_n 0, 1) := dX9_bars_52_b.2.1
theorem dX9_bars_56 : decode cX9_bars 56 = .ok (.getfield 42, 3) := dX9_bars_52_b.2.2.1
theorem dX9_bars_59 : decode cX9_bars 59 = .ok (.getfield 123, 3) := dX9_bars_52_b.2.2.2.1
theorem dX9_bars_62 : decode cX9_bars 62 = .ok (.iload_n 1, 1) := dX9_bars_52_b.2.2.2.2.1
theorem dX9_bars_63 : decode cX9_bars 63 = .ok (.invokevirtual 164, 3) := dX9_bars_52_b.2.2.2.2.2
set_option maxRecDepth 20000 in
theorem dX9_bars_66_b : (decode cX9_bars 66 = .ok (.iload_n 2, 1)) ∧ (decode cX9_bars 67 = .ok (.if_icmp .ne 7, 3)) ∧ (decode cX9_bars 70 = .ok (.iconst (-1), 1)) ∧ (decode cX9_bars 71 = .ok (.goto 4, 3)) ∧ (decode cX9_bars 74 = .ok (.iconst 0, 1)) ∧ (decode cX9_bars 75 = .ok (.ireturn, 1)) := by decide +kernel
theorem dX9_bars_66 : decode cX9_bars 66 = .ok (.iload_n 2, 1) := dX9_bars_66_b.1
theorem dX9_bars_67 : decode cX9_bars 67 = .ok (.if_icmp .ne 7, 3) := dX9_bars_66_b.2.1
theorem dX9_bars_70 : decode cX9_bars 70 = .ok (.iconst (-1), 1) := dX9_bars_66_b.2.2.1
theorem dX9_bars_71 : decode cX9_bars 71 = .ok (.goto 4, 3) := dX9_bars_66_b.2.2.2.1
theorem dX9_bars_74 : decode cX9_bars 74 = .ok (.iconst 0, 1) := dX9_bars_66_b.2.2.2.2.1
theorem dX9_bars_75 : decode cX9_bars 75 = .ok (.ireturn, 1) := dX9_bars_66_b.2.2.2.2.2
set_option maxRecDepth 20000 in
theorem dX9_bars_76_b : (decode cX9_bars 76 = .ok (.iconst 0, 1)) ∧ (decode cX9_bars 77 = .ok (.istore_n 3, 1)) ∧ (decode cX9_bars 78 = .ok (.iconst 0, 1)) ∧ (decode cX9_bars 79 = .ok (.istore 4, 2)) ∧ (decode cX9_bars 81 = .ok (.iload 4, 2)) ∧ (decode cX9_bars 83 = .ok (.aload_n 0, 1)) := by decide +kernel
theorem dX9_bars_76 : decode cX9_bars 76 = .ok (.iconst 0, 1) := dX9_bars_76_b.1
theorem dX9_bars_77 : decode cX9_bars 77 = .ok (.istore_n 3, 1) := dX9_bars_76_b.2.1
theorem dX9_bars_78 : decode cX9_bars 78 = .ok (.iconst 0, 1) := dX9_bars_76_b.2.2.1
theorem dX9_bars_79 : decode cX9_bars 79 = .ok (.istore 4, 2) := dX9_bars_76_b.2.2.2.1
theorem dX9_bars_81 : decode cX9_bars 81 = .ok (.iload 4, 2) := dX9_bars_76_b.2.2.2.2.1
theorem dX9_bars_83 : decode cX9_bars 83 = .ok (.aload_n 0, 1) := dX9_bars_76_b.2.2.2.2.2
set_option maxRecDepth 20000 in
theorem dX9_bars_84_b : (decode cX9_bars 84 = .ok (.getfield 23, 3)) ∧ (decode cX9_bars 87 = .ok (.getfield 96, 3)) ∧ (decode cX9_bars 90 = .ok (.if_icmp .ge 144, 3)) ∧ (decode cX9_bars 93 = .ok (.iconst 0, 1)) ∧ (decode cX9_bars 94 = .ok (.istore 5, 2)) ∧ (decode cX9_bars 96 = .ok (.iload 5, 2)) := by decide +kernel
theorem dX9_bars_84 : decode cX9_bars 84 = .ok (.getfield 23, 3) := dX9_bars_84_b.1
theorem dX9_bars_87 : decode cX9_bars 87 = .ok (.getfield 96, 3) := dX9_bars_84_b.2.1
theorem dX9_bars_90 : decode cX9_bars 90 = .ok (.if_icmp .ge 144, 3) := dX9_bars_84_b.2.2.1
theorem dX9_bars_93 : decode cX9_bars 93 = .ok (.iconst 0, 1) := dX9_bars_84_b.2.2.2.1
theorem dX9_bars_94 : decode cX9_bars 94 = .ok (.istore 5, 2) := dX9_bars_84_b.2.2.2.2.1
theorem dX9_bars_96 : decode cX9_bars 96 = .ok (.iload 5, 2) := dX9_bars_84_b.2.2.2.2.2
set_option maxRecDepth 20000 in
theorem dX9_bars_98_b : (decode cX9_bars 98 = .ok (.iconst 1, 1)) ∧ (decode cX9_bars 99 = .ok (.aload_n 0, 1)) ∧ (decode cX9_bars 100 = .ok (.getfield 23, 3)) ∧ (decode cX9_bars 103 = .ok (.getfield 96, 3)) ∧ (decode cX9_bars 106 = .ok (.ishl, 1)) ∧ (decode cX9_bars 107 = .ok (.if_icmp .ge 121, 3)) := by decide +kernel
theorem dX9_bars_98 : decode cX9_bars 98 = .ok (.iconst 1, 1) := dX9_bars_98_b.1
theorem dX9_bars_99 : decode cX9_bars 99 = .ok (.aload_n 0, 1) := dX9_bars_98_b.2.1
theorem dX9_bars_100 : decode cX9_bars 100 = .ok (.getfield 23, 3) := dX9_bars_98_b.2.2.1
theorem dX9_bars_103 : decode cX9_bars 103 = .ok (.getfield 96, 3) := dX9_bars_98_b.2.2.2.1
theorem dX9_bars_106 : decode cX9_bars 106 = .ok (.ishl, 1) := dX9_bars_98_b.2.2.2.2.1
theorem dX9_bars_107 : decode cX9_bars 107 = .ok (.if_icmp .ge 121, 3) := dX9_bars_98_b.2.2.2.2.2
set_option maxRecDepth 20000 in
theorem dX9_bars_110_b : (decode cX9_bars 110 = .ok (.iload 5, 2)) ∧ (decode cX9_bars 112 = .ok (.invokestatic 258, 3)) ∧ (decode cX9_bars 115 = .ok (.iload 4, 2)) ∧ (decode cX9_bars 117 = .ok (.if_icmp .ne 16, 3)) ∧ (decode cX9_bars 120 = .ok (.iload 5, 2)) ∧ (decode cX9_bars 122 = .ok (.iload_n 1, 1)) := by decide +kernel
theorem dX9_bars_110 : decode cX9_bars 110 = .ok (.iload 5, 2) := dX9_bars_110_b.1
theorem dX9_bars_112 : decode cX9_bars 112 = .ok (.invokestatic 258, 3) := dX9_bars_110_b.2.1
theorem dX9_bars_115 : decode cX9_bars 115 = .ok (.iload 4, 2) := dX9_bars_110_b.2.2.1
theorem dX9_bars_117 : decode cX9_bars 117 = .ok (.if_icmp .ne 16, 3) := dX9_bars_110_b.2.2.2.1
theorem dX9_bars_120 : decode cX9_bars 120 = .ok (.iload 5, 2) := dX9_bars_110_b.2.2.2.2.1
theorem dX9_bars_122 : decode cX9_bars 122 = .ok (.iload_n 1, 1) := dX9_bars_110_b.2.2.2.2.2
set_option maxRecDepth 20000 in
theorem dX9_bars_123_b : (decode cX9_bars 123 = .ok (.ishr, 1)) ∧ (decode cX9_bars 124 = .ok (.iconst 1, 1)) ∧ (decode cX9_bars 125 = .ok (.iand, 1)) ∧ (decode cX9_bars 126 = .ok (.ifCond .ne 7, 3)) ∧ (decode cX9_bars 129 = .ok (.iconst 1, 1)) ∧ (decode cX9_bars 130 = .ok (.goto 4, 3)) := by decide +kernel
theorem dX9_bars_123 : decode cX9_bars 123 = .ok (.ishr, 1) := dX9_bars_123_b.1
theorem dX9_bars_124 : decode cX9_bars 124 = .ok (.iconst 1, 1) := dX9_bars_123_b.2.1
theorem dX9_bars_125 : decode cX9_bars 125 = .ok (.iand, 1) := dX9_bars_123_b.2.2.1
theorem dX9_bars_126 : decode cX9_bars 126 = .ok (.ifCond .ne 7, 3) := dX9_bars_123_b.2.2.2.1
theorem dX9_bars_129 : decode cX9_bars 129 = .ok (.iconst 1, 1) := dX9_bars_123_b.2.2.2.2.1
theorem dX9_bars_130 : decode cX9_bars 130 = .ok (.goto 4, 3) := dX9_bars_123_b.2.2.2.2.2
set_option maxRecDepth 20000 in
theorem dX9_bars_133_b : (decode cX9_bars 133 = .ok (.iconst 0, 1)) ∧ (decode cX9_bars 134 = .ok (.istore 6, 2)) ∧ (decode cX9_bars 136 = .ok (.iload 6, 2)) ∧ (decode cX9_bars 138 = .ok (.ifCond .eq 84, 3)) ∧ (decode cX9_bars 141 = .ok (.aload_n 0, 1)) ∧ (decode cX9_bars 142 = .ok (.iload 5, 2)) := by decide +kernel
theorem dX9_bars_133 : decode cX9_bars 133 = .ok (.iconst 0, 1) := dX9_bars_133_b.1
theorem dX9_bars_134 : decode cX9_bars 134 = .ok (.istore 6, 2) := dX9_bars_133_b.2.1
theorem dX9_bars_136 : decode cX9_bars 136 = .ok (.iload 6, 2) := dX9_bars_133_b.2.2.1
theorem dX9_bars_138 : decode cX9_bars 138 = .ok (.ifCond .eq 84, 3) := dX9_bars_133_b.2.2.2.1
theorem dX9_bars_141 : decode cX9_bars 141 = .ok (.aload_n 0, 1) := dX9_bars_133_b.2.2.2.2.1
theorem dX9_bars_142 : decode cX9_bars 142 = .ok (.iload 5, 2) := dX9_bars_133_b.2.2.2.2.2
set_option maxRecDepth 20000 in
theorem dX9_bars_144_b : (decode cX9_bars 144 = .ok (.iload_n 3, 1)) ∧ (decode cX9_bars 145 = .ok (.invokevirtual 263, 3)) ∧ (decode cX9_bars 148 = .ok (.ifCond .eq 6, 3)) ∧ (decode cX9_bars 151 = .ok (.goto 71, 3)) ∧ (decode cX9_bars 154 = .ok (.aload_n 0, 1)) ∧ (decode cX9_bars 155 = .ok (.getfield 56, 3)) := by decide +kernel
theorem dX9_bars_144 : decode cX9_bars 144 = .ok (.iload_n 3, 1) := dX9_bars_144_b.1
theorem dX9_bars_145 : decode cX9_bars 145 = .ok (.invokevirtual 263, 3) := dX9_bars_144_b.2.1
theorem dX9_bars_148 : decode cX9_bars 148 = .ok (.ifCond .eq 6, 3) := dX9_bars_144_b.2.2.1
theorem dX9_bars_151 : decode cX9_bars 151 = .ok (.goto 71, 3) := dX9_bars_144_b.2.2.2.1
theorem dX9_bars_154 : decode cX9_bars 154 = .ok (.aload_n 0, 1) := dX9_bars_144_b.2.2.2.2.1
theorem dX9_bars_155 : decode cX9_bars 155 = .ok (.getfield 56, 3) := dX9_bars_144_b.2.2.2.2.2
set_option maxRecDepth 20000 in
theorem dX9_bars_158_b : (decode cX9_bars 158 = .ok (.aload_n 0, 1)) ∧ (decode cX9_bars 159 = .ok (.getfield 23, 3)) ∧ (decode cX9_bars 162 = .ok (.aload_n 0, 1)) ∧ (decode cX9_bars 163 = .ok (.getfield 42, 3)) ∧ (decode cX9_bars 166 = .ok (.getfield 123, 3)) ∧ (decode cX9_bars 169 = .ok (.iload 5, 2)) := by decide +kernel
theorem dX9_bars_158 : decode cX9_bars 158 = .ok (.aload_n 0, 1) := dX9_bars_158_b.1
theorem dX9_bars_159 : decode cX9_bars 159 = .ok (.getfield 23, 3) := dX9_bars_158_b.2.1
theorem dX9_bars_162 : decode cX9_bars 162 = .ok (.aload_n 0, 1) := dX9_bars_158_b.2.2.1
theorem dX9_bars_163 : decode cX9_bars 163 = .ok (.getfield 42, 3) := dX9_bars_158_b.2.2.2.1
theorem dX9_bars_166 : decode cX9_bars 166 = .ok (.getfield 123, 3) := dX9_bars_158_b.2.2.2.2.1
theorem dX9_bars_169 : decode cX9_bars 169 = .ok (.iload 5, 2) := dX9_bars_158_b.2.2.2.2.2
set_option maxRecDepth 20000 in
theorem dX9_bars_171_b : (decode cX9_bars 171 = .ok (.invokestatic 266, 3)) ∧ (decode cX9_bars 174 = .ok (.iconst 0, 1)) ∧ (decode cX9_bars 175 = .ok (.invokevirtual 246, 3)) ∧ (decode cX9_bars 178 = .ok (.ifCond .ne 6, 3)) ∧ (decode cX9_bars 181 = .ok (.bipush (-2), 2)) ∧ (decode cX9_bars 183 = .ok (.ireturn, 1)) := by decide +kernel
theorem dX9_bars_171 : decode cX9_bars 171 = .ok (.invokestatic 266, 3) := dX9_bars_171_b.1
theorem dX9_bars_174 : decode cX9_bars 174 = .ok (.iconst 0, 1) := dX9_bars_171_b.2.1
theorem dX9_bars_175 : decode cX9_bars 175 = .ok (.invokevirtual 246, 3) := dX9_bars_171_b.2.2.1
theorem dX9_bars_178 : decode cX9_bars 178 = .ok (.ifCond .ne 6, 3) := dX9_bars_171_b.2.2.2.1
theorem dX9_bars_181 : decode cX9_bars 181 = .ok (.bipush (-2), 2) := dX9_bars_171_b.2.2.2.2.1
theorem dX9_bars_183 : decode cX9_bars 183 = .ok (.ireturn, 1) := dX9_bars_171_b.2.2.2.2.2
set_option maxRecDepth 20000 in
theorem dX9_bars_184_b : (decode cX9_bars 184 = .ok (.aload_n 0, 1)) ∧ (decode cX9_bars 185 = .ok (.getfield 56, 3)) ∧ (decode cX9_bars 188 = .ok (.iload_n 1, 1)) ∧ (decode cX9_bars 189 = .ok (.iload_n 2, 1)) ∧ (decode cX9_bars 190 = .ok (.invokevirtual 269, 3)) ∧ (decode cX9_bars 193 = .ok (.istore 7, 2)) := by decide +kernel
theorem dX9_bars_184 : decode cX9_bars 184 = .ok (.aload_n 0, 1) := dX9_bars_184_b.1
theorem dX9_bars_185 : decode cX9_bars 185 = .ok (.getfield 56, 3) := dX9_bars_184_b.2.1
theorem dX9_bars_188 : decode cX9_bars 188 = .ok (.iload_n 1, 1) := dX9_bars_184_b.2.2.1
theorem dX9_bars_189 : decode cX9_bars 189 = .ok (.iload_n 2, 1) := dX9_bars_184_b.2.2.2.1
theorem dX9_bars_190 : decode cX9_bars 190 = .ok (.invokevirtual 269, 3) := dX9_bars_184_b.2.2.2.2.1
theorem dX9_bars_193 : decode cX9_bars 193 = .ok (.istore 7, 2) := dX9_bars_184_b.2.2.2.2.2
set_option maxRecDepth 20000 in
theorem dX9_bars_195_b : (decode cX9_bars 195 = .ok (.iload 7, 2)) ∧ (decode cX9_bars 197 = .ok (.iconst (-1), 1)) ∧ (decode cX9_bars 198 = .ok (.if_icmp .ne 6, 3)) ∧ (decode cX9_bars 201 = .ok (.iload 5, 2)) ∧ (decode cX9_bars 203 = .ok (.ireturn, 1)) ∧ (decode cX9_bars 204 = .ok (.aload_n 0, 1)) := by decide +kernel
theorem dX9_bars_195 : decode cX9_bars 195 = .ok (.iload 7, 2) := dX9_bars_195_b.1
theorem dX9_bars_197 : decode cX9_bars 197 = .ok (.iconst (-1), 1) := dX9_bars_195_b.2.1
theorem dX9_bars_198 : decode cX9_bars 198 = .ok (.if_icmp .ne 6, 3) := dX9_bars_195_b.2.2.1
theorem dX9_bars_201 : decode cX9_bars 201 = .ok (.iload 5, 2) := dX9_bars_195_b.2.2.2.1
theorem dX9_bars_203 : decode cX9_bars 203 = .ok (.ireturn, 1) := dX9_bars_195_b.2.2.2.2.1
theorem dX9_bars_204 : decode cX9_bars 204 = .ok (.aload_n 0, 1) := dX9_bars_195_b.2.2.2.2.2
set_option maxRecDepth 20000 in
theorem dX9_bars_205_b : (decode cX9_bars 205 = .ok (.getfield 60, 3)) ∧ (decode cX9_bars 208 = .ok (.iload_n 3, 1)) ∧ (decode cX9_bars 209 = .ok (.aload_n 0, 1)) ∧ (decode cX9_bars 210 = .ok (.getfield 56, 3)) ∧ (decode cX9_bars 213 = .ok (.iload 7, 2)) ∧ (decode cX9_bars 215 = .ok (.invokevirtual 272, 3)) := by decide +kernel
theorem dX9_bars_205 : decode cX9_bars 205 = .ok (.getfield 60, 3) := dX9_bars_205_b.1
theorem dX9_bars_208 : decode cX9_bars 208 = .ok (.iload_n 3, 1) := dX9_bars_205_b.2.1
theorem dX9_bars_209 : decode cX9_bars 209 = .ok (.aload_n 0, 1) := dX9_bars_205_b.2.2.1
theorem dX9_bars_210 : decode cX9_bars 210 = .ok (.getfield 56, 3) := dX9_bars_205_b.2.2.2.1
theorem dX9_bars_213 : decode cX9_bars 213 = .ok (.iload 7, 2) := dX9_bars_205_b.2.2.2.2.1
theorem dX9_bars_215 : decode cX9_bars 215 = .ok (.invokevirtual 272, 3) := dX9_bars_205_b.2.2.2.2.2
set_option maxRecDepth 20000 in
theorem dX9_bars_218_b : (decode cX9_bars 218 = .ok (.iastore, 1)) ∧ (decode cX9_bars 219 = .ok (.iinc 3 1, 3)) ∧ (decode cX9_bars 222 = .ok (.iinc 5 1, 3)) ∧ (decode cX9_bars 225 = .ok (.goto (-129), 3)) ∧ (decode cX9_bars 228 = .ok (.iinc 4 1, 3)) ∧ (decode cX9_bars 231 = .ok (.goto (-150), 3)) := by decide +kernel
theorem dX9_bars_218 : decode cX9_bars 218 = .ok (.iastore, 1) := dX9_bars_218_b.1
theorem dX9_bars_219 : decode cX9_bars 219 = .ok (.iinc 3 1, 3) := dX9_bars_218_b.2.1
theorem dX9_bars_222 : decode cX9_bars 222 = .ok (.iinc 5 1, 3) := dX9_bars_218_b.2.2.1
theorem dX9_bars_225 : decode cX9_bars 225 = .ok (.goto (-129), 3) := dX9_bars_218_b.2.2.2.1
theorem dX9_bars_228 : decode cX9_bars 228 = .ok (.iinc 4 1, 3) := dX9_bars_218_b.2.2.2.2.1
theorem dX9_bars_231 : decode cX9_bars 231 = .ok (.goto (-150), 3) := dX9_bars_218_b.2.2.2.2.2
set_option maxRecDepth 20000 in
theorem dX9_bars_234_b : (decode cX9_bars 234 = .ok (.iconst (-1), 1)) ∧ (decode cX9_bars 235 = .ok (.ireturn, 1)) := by decide +kernel
theorem dX9_bars_234 : decode cX9_bars 234 = .ok (.iconst (-1), 1) := dX9_bars_234_b.1
theorem dX9_bars_235 : decode cX9_bars 235 = .ok (.ireturn, 1) := dX9_bars_234_b.2
set_option maxRecDepth 20000 in
theorem dX9_isSpared_0_b : (decode cX9_isSpared 0 = .ok (.iconst 0, 1)) ∧ (decode cX9_isSpared 1 = .ok (.istore_n 3, 1)) ∧ (decode cX9_isSpared 2 = .ok (.iload_n 3, 1)) ∧ (decode cX9_isSpared 3 = .ok (.iload_n 2, 1)) ∧ (decode cX9_isSpared 4 = .ok (.if_icmp .ge 22, 3)) ∧ (decode cX9_isSpared 7 = .ok (.aload_n 0, 1)) := by decide +kernel
theorem dX9_isSpared_0 : decode cX9_isSpared 0 = .ok (.iconst 0, 1) := dX9_isSpared_0_b.1
theorem dX9_isSpared_1 : decode cX9_isSpared 1 = .ok (.istore_n 3, 1) := dX9_isSpared_0_b.2.1
theorem dX9_isSpared_2 : decode cX9_isSpared 2 = .ok (.iload_n 3, 1) := dX9_isSpared_0_b.2.2.1
theorem dX9_isSpared_3 : decode cX9_isSpared 3 = .ok (.iload_n 2, 1) := dX9_isSpared_0_b.2.2.2.1
theorem dX9_isSpared_4 : decode cX9_isSpared 4 = .ok (.if_icmp .ge 22, 3) := dX9_isSpared_0_b.2.2.2.2.1
theorem dX9_isSpared_7 : decode cX9_isSpared 7 = .ok (.aload_n 0, 1) := dX9_isSpared_0_b.2.2.2.2.2
set_option maxRecDepth 20000 in
theorem dX9_isSpared_8_b : (decode cX9_isSpared 8 = .ok (.getfield 60, 3)) ∧ (decode cX9_isSpared 11 = .ok (.iload_n 3, 1)) ∧ (decode cX9_isSpared 12 = .ok (.iaload, 1)) ∧ (decode cX9_isSpared 13 = .ok (.iload_n 1, 1)) ∧ (decode cX9_isSpared 14 = .ok (.iand, 1)) ∧ (decode cX9_isSpared 15 = .ok (.ifCond .ne 5, 3)) := by decide +kernel
theorem dX9_isSpared_8 : decode cX9_isSpared 8 = .ok (.getfield 60, 3) := dX9_isSpared_8_b.1
theorem dX9_isSpared_11 : decode cX9_isSpared 11 = .ok (.iload_n 3, 1) := dX9_isSpared_8_b.2.1
theorem dX9_isSpared_12 : decode cX9_isSpared 12 = .ok (.iaload, 1) := dX9_isSpared_8_b.2.2.1
theorem dX9_isSpared_13 : decode cX9_isSpared 13 = .ok (.iload_n 1, 1) := dX9_isSpared_8_b.2.2.2.1
theorem dX9_isSpared_14 : decode cX9_isSpared 14 = .ok (.iand, 1) := dX9_isSpared_8_b.2.2.2.2.1
theorem dX9_isSpared_15 : decode cX9_isSpared 15 = .ok (.ifCond .ne 5, 3) := dX9_isSpared_8_b.2.2.2.2.2
set_option maxRecDepth 20000 in
theorem dX9_isSpared_18_b : (decode cX9_isSpared 18 = .ok (.iconst 1, 1)) ∧ (decode cX9_isSpared 19 = .ok (.ireturn, 1)) ∧ (decode cX9_isSpared 20 = .ok (.iinc 3 1, 3)) ∧ (decode cX9_isSpared 23 = .ok (.goto (-21), 3)) ∧ (decode cX9_isSpared 26 = .ok (.iconst 0, 1)) ∧ (decode cX9_isSpared 27 = .ok (.ireturn, 1)) := by decide +kernel
theorem dX9_isSpared_18 : decode cX9_isSpared 18 = .ok (.iconst 1, 1) := dX9_isSpared_18_b.1
theorem dX9_isSpared_19 : decode cX9_isSpared 19 = .ok (.ireturn, 1) := dX9_isSpared_18_b.2.1
theorem dX9_isSpared_20 : decode cX9_isSpared 20 = .ok (.iinc 3 1, 3) := dX9_isSpared_18_b.2.2.1
theorem dX9_isSpared_23 : decode cX9_isSpared 23 = .ok (.goto (-21), 3) := dX9_isSpared_18_b.2.2.2.1
theorem dX9_isSpared_26 : decode cX9_isSpared 26 = .ok (.iconst 0, 1) := dX9_isSpared_18_b.2.2.2.2.1
theorem dX9_isSpared_27 : decode cX9_isSpared 27 = .ok (.ireturn, 1) := dX9_isSpared_18_b.2.2.2.2.2
set_option maxRecDepth 20000 in
theorem dX9_day_0_b : (decode cX9_day 0 = .ok (.aload_n 0, 1)) ∧ (decode cX9_day 1 = .ok (.getfield 42, 3)) ∧ (decode cX9_day 4 = .ok (.getfield 141, 3)) ∧ (decode cX9_day 7 = .ok (.bipush 6, 2)) ∧ (decode cX9_day 9 = .ok (.if_icmp .ge 17, 3)) ∧ (decode cX9_day 12 = .ok (.iload_n 1, 1)) := by decide +kernel
theorem dX9_day_0 : decode cX9_day 0 = .ok (.aload_n 0, 1) := dX9_day_0_b.1
theorem dX9_day_1 : decode cX9_day 1 = .ok (.getfield 42, 3) := dX9_day_0_b.2.1
theorem dX9_day_4 : decode cX9_day 4 = .ok (.getfield 141, 3) := dX9_day_0_b.2.2.1
theorem dX9_day_7 : decode cX9_day 7 = .ok (.bipush 6, 2) := dX9_day_0_b.2.2.2.1
theorem dX9_day_9 : decode cX9_day 9 = .ok (.if_icmp .ge 17, 3) := dX9_day_0_b.2.2.2.2.1
theorem dX9_day_12 : decode cX9_day 12 = .ok (.iload_n 1, 1) := dX9_day_0_b.2.2.2.2.2
set_option maxRecDepth 20000 in
theorem dX9_day_13_b : (decode cX9_day 13 = .ok (.aload_n 0, 1)) ∧ (decode cX9_day 14 = .ok (.getfield 23, 3)) ∧ (decode cX9_day 17 = .ok (.invokevirtual 275, 3)) ∧ (decode cX9_day 20 = .ok (.iconst (-1), 1)) ∧ (decode cX9_day 21 = .ok (.ixor, 1)) ∧ (decode cX9_day 22 = .ok (.iand, 1)) := by decide +kernel
theorem dX9_day_13 : decode cX9_day 13 = .ok (.aload_n 0, 1) := dX9_day_13_b.1
theorem dX9_day_14 : decode cX9_day 14 = .ok (.getfield 23, 3) := dX9_day_13_b.2.1
theorem dX9_day_17 : decode cX9_day 17 = .ok (.invokevirtual 275, 3) := dX9_day_13_b.2.2.1
theorem dX9_day_20 : decode cX9_day 20 = .ok (.iconst (-1), 1) := dX9_day_13_b.2.2.2.1
theorem dX9_day_21 : decode cX9_day 21 = .ok (.ixor, 1) := dX9_day_13_b.2.2.2.2.1
theorem dX9_day_22 : decode cX9_day 22 = .ok (.iand, 1) := dX9_day_13_b.2.2.2.2.2
set_option maxRecDepth 20000 in
theorem dX9_day_23_b : (decode cX9_day 23 = .ok (.ifCond .eq 18, 3)) ∧ (decode cX9_day 26 = .ok (.aload_n 0, 1)) ∧ (decode cX9_day 27 = .ok (.getfield 42, 3)) ∧ (decode cX9_day 30 = .ok (.getfield 87, 3)) ∧ (decode cX9_day 33 = .ok (.iconst 2, 1)) ∧ (decode cX9_day 34 = .ok (.dup2, 1)) := by decide +kernel
theorem dX9_day_23 : decode cX9_day 23 = .ok (.ifCond .eq 18, 3) := dX9_day_23_b.1
theorem dX9_day_26 : decode cX9_day 26 = .ok (.aload_n 0, 1) := dX9_day_23_b.2.1
theorem dX9_day_27 : decode cX9_day 27 = .ok (.getfield 42, 3) := dX9_day_23_b.2.2.1
theorem dX9_day_30 : decode cX9_day 30 = .ok (.getfield 87, 3) := dX9_day_23_b.2.2.2.1
theorem dX9_day_33 : decode cX9_day 33 = .ok (.iconst 2, 1) := dX9_day_23_b.2.2.2.2.1
theorem dX9_day_34 : decode cX9_day 34 = .ok (.dup2, 1) := dX9_day_23_b.2.2.2.2.2
set_option maxRecDepth 20000 in
theorem dX9_day_35_b : (decode cX9_day 35 = .ok (.iaload, 1)) ∧ (decode cX9_day 36 = .ok (.iconst 1, 1)) ∧ (decode cX9_day 37 = .ok (.iadd, 1)) ∧ (decode cX9_day 38 = .ok (.iastore, 1)) ∧ (decode cX9_day 39 = .ok (.iconst (-1), 1)) ∧ (decode cX9_day 40 = .ok (.ireturn, 1)) := by decide +kernel
theorem dX9_day_35 : decode cX9_day 35 = .ok (.iaload, 1) := dX9_day_35_b.1
theorem dX9_day_36 : decode cX9_day 36 = .ok (.iconst 1, 1) := dX9_day_35_b.2.1
theorem dX9_day_37 : decode cX9_day 37 = .ok (.iadd, 1) := dX9_day_35_b.2.2.1
theorem dX9_day_38 : decode cX9_day 38 = .ok (.iastore, 1) := dX9_day_35_b.2.2.2.1
theorem dX9_day_39 : decode cX9_day 39 = .ok (.iconst (-1), 1) := dX9_day_35_b.2.2.2.2.1
theorem dX9_day_40 : decode cX9_day 40 = .ok (.ireturn, 1) := dX9_day_35_b.2.2.2.2.2
set_option maxRecDepth 20000 in
theorem dX9_day_41_b : (decode cX9_day 41 = .ok (.aload_n 0, 1)) ∧ (decode cX9_day 42 = .ok (.getfield 42, 3)) ∧ (decode cX9_day 45 = .ok (.getfield 278, 3)) ∧ (decode cX9_day 48 = .ok (.aload_n 0, 1)) ∧ (decode cX9_day 49 = .ok (.getfield 42, 3)) ∧ (decode cX9_day 52 = .ok (.getfield 141, 3)) := by decide +kernel
theorem dX9_day_41 : decode cX9_day 41 = .ok (.aload_n 0, 1) := dX9_day_41_b.1
theorem dX9_day_42 : decode cX9_day 42 = .ok (.getfield 42, 3) := dX9_day_41_b.2.1
theorem dX9_day_45 : decode cX9_day 45 = .ok (.getfield 278, 3) := dX9_day_41_b.2.2.1
theorem dX9_day_48 : decode cX9_day 48 = .ok (.aload_n 0, 1) := dX9_day_41_b.2.2.2.1
theorem dX9_day_49 : decode cX9_day 49 = .ok (.getfield 42, 3) := dX9_day_41_b.2.2.2.2.1
theorem dX9_day_52 : decode cX9_day 52 = .ok (.getfield 141, 3) := dX9_day_41_b.2.2.2.2.2
set_option maxRecDepth 20000 in
theorem dX9_day_55_b : (decode cX9_day 55 = .ok (.iload_n 1, 1)) ∧ (decode cX9_day 56 = .ok (.iastore, 1)) ∧ (decode cX9_day 57 = .ok (.aload_n 0, 1)) ∧ (decode cX9_day 58 = .ok (.getfield 42, 3)) ∧ (decode cX9_day 61 = .ok (.dup, 1)) ∧ (decode cX9_day 62 = .ok (.getfield 141, 3)) := by decide +kernel
theorem dX9_day_55 : decode cX9_day 55 = .ok (.iload_n 1, 1) := dX9_day_55_b.1
theorem dX9_day_56 : decode cX9_day 56 = .ok (.iastore, 1) := dX9_day_55_b.2.1
theorem dX9_day_57 : decode cX9_day 57 = .ok (.aload_n 0, 1) := dX9_day_55_b.2.2.1
theorem dX9_day_58 : decode cX9_day 58 = .ok (.getfield 42, 3) := dX9_day_55_b.2.2.2.1
theorem dX9_day_61 : decode cX9_day 61 = .ok (.dup, 1) := dX9_day_55_b.2.2.2.2.1
theorem dX9_day_62 : decode cX9_day 62 = .ok (.getfield 141, 3) := dX9_day_55_b.2.2.2.2.2
set_option maxRecDepth 20000 in
theorem dX9_day_65_b : (decode cX9_day 65 = .ok (.iconst 1, 1)) ∧ (decode cX9_day 66 = .ok (.iadd, 1)) ∧ (decode cX9_day 67 = .ok (.putfield 141, 3)) ∧ (decode cX9_day 70 = .ok (.aload_n 0, 1)) ∧ (decode cX9_day 71 = .ok (.getfield 42, 3)) ∧ (decode cX9_day 74 = .ok (.getfield 141, 3)) := by decide +kernel
theorem dX9_day_65 : decode cX9_day 65 = .ok (.iconst 1, 1) := dX9_day_65_b.1
theorem dX9_day_66 : decode cX9_day 66 = .ok (.iadd, 1) := dX9_day_65_b.2.1
theorem dX9_day_67 : decode cX9_day 67 = .ok (.putfield 141, 3) := dX9_day_65_b.2.2.1
theorem dX9_day_70 : decode cX9_day 70 = .ok (.aload_n 0, 1) := dX9_day_65_b.2.2.2.1
theorem dX9_day_71 : decode cX9_day 71 = .ok (.getfield 42, 3) := dX9_day_65_b.2.2.2.2.1
theorem dX9_day_74 : decode cX9_day 74 = .ok (.getfield 141, 3) := dX9_day_65_b.2.2.2.2.2
theorem dX9_day_77 : decode cX9_day 77 = .ok (.ireturn, 1) := by decide +kernel
set_option maxRecDepth 20000 in
theorem dX9_enough_0_b : (decode cX9_enough 0 = .ok (.iload_n 1, 1)) ∧ (decode cX9_enough 1 = .ok (.ifCond .eq 19, 3)) ∧ (decode cX9_enough 4 = .ok (.iload_n 1, 1)) ∧ (decode cX9_enough 5 = .ok (.iconst 1, 1)) ∧ (decode cX9_enough 6 = .ok (.if_icmp .eq 14, 3)) ∧ (decode cX9_enough 9 = .ok (.new 144, 3)) := by decide +kernel
theorem dX9_enough_0 : decode cX9_enough 0 = .ok (.iload_n 1, 1) := dX9_enough_0_b.1
theorem dX9_enough_1 : decode cX9_enough 1 = .ok (.ifCond .eq 19, 3) := dX9_enough_0_b.2.1
theorem dX9_enough_4 : decode cX9_enough 4 = .ok (.iload_n 1, 1) := dX9_enough_0_b.2.2.1
theorem dX9_enough_5 : decode cX9_enough 5 = .ok (.iconst 1, 1) := dX9_enough_0_b.2.2.2.1
theorem dX9_enough_6 : decode cX9_enough 6 = .ok (.if_icmp .eq 14, 3) := dX9_enough_0_b.2.2.2.2.1
theorem dX9_enough_9 : decode cX9_enough 9 = .ok (.new 144, 3) := dX9_enough_0_b.2.2.2.2.2
set_option maxRecDepth 20000 in
theorem dX9_enough_12_b : (decode cX9_enough 12 = .ok (.dup, 1)) ∧ (decode cX9_enough 13 = .ok (.ldc_w 281, 3)) ∧ (decode cX9_enough 16 = .ok (.invokespecial 148, 3)) ∧ (decode cX9_enough 19 = .ok (.athrow, 1)) ∧ (decode cX9_enough 20 = .ok (.iconst (-1), 1)) ∧ (decode cX9_enough 21 = .ok (.istore_n 2, 1)) := by decide +kernel
theorem dX9_enough_12 : decode cX9_enough 12 = .ok (.dup, 1) := dX9_enough_12_b.1
theorem dX9_enough_13 : decode cX9_enough 13 = .ok (.ldc_w 281, 3) := dX9_enough_12_b.2.1
theorem dX9_enough_16 : decode cX9_enough 16 = .ok (.invokespecial 148, 3) := dX9_enough_12_b.2.2.1
theorem dX9_enough_19 : decode cX9_enough 19 = .ok (.athrow, 1) := dX9_enough_12_b.2.2.2.1
theorem dX9_enough_20 : decode cX9_enough 20 = .ok (.iconst (-1), 1) := dX9_enough_12_b.2.2.2.2.1
theorem dX9_enough_21 : decode cX9_enough 21 = .ok (.istore_n 2, 1) := dX9_enough_12_b.2.2.2.2.2
set_option maxRecDepth 20000 in
theorem dX9_enough_22_b : (decode cX9_enough 22 = .ok (.aload_n 0, 1)) ∧ (decode cX9_enough 23 = .ok (.getfield 23, 3)) ∧ (decode cX9_enough 26 = .ok (.invokevirtual 283, 3)) ∧ (decode cX9_enough 29 = .ok (.istore_n 3, 1)) ∧ (decode cX9_enough 30 = .ok (.iconst 0, 1)) ∧ (decode cX9_enough 31 = .ok (.istore 4, 2)) := by decide +kernel
theorem dX9_enough_22 : decode cX9_enough 22 = .ok (.aload_n 0, 1) := dX9_enough_22_b.1
theorem dX9_enough_23 : decode cX9_enough 23 = .ok (.getfield 23, 3) := dX9_enough_22_b.2.1
theorem dX9_enough_26 : decode cX9_enough 26 = .ok (.invokevirtual 283, 3) := dX9_enough_22_b.2.2.1
theorem dX9_enough_29 : decode cX9_enough 29 = .ok (.istore_n 3, 1) := dX9_enough_22_b.2.2.2.1
theorem dX9_enough_30 : decode cX9_enough 30 = .ok (.iconst 0, 1) := dX9_enough_22_b.2.2.2.2.1
theorem dX9_enough_31 : decode cX9_enough 31 = .ok (.istore 4, 2) := dX9_enough_22_b.2.2.2.2.2
set_option maxRecDepth 20000 in
theorem dX9_enough_33_b : (decode cX9_enough 33 = .ok (.iload 4, 2)) ∧ (decode cX9_enough 35 = .ok (.iload_n 3, 1)) ∧ (decode cX9_enough 36 = .ok (.if_icmp .gt 47, 3)) ∧ (decode cX9_enough 39 = .ok (.aload_n 0, 1)) ∧ (decode cX9_enough 40 = .ok (.iload 4, 2)) ∧ (decode cX9_enough 42 = .ok (.invokevirtual 286, 3)) := by decide +kernel
theorem dX9_enough_33 : decode cX9_enough 33 = .ok (.iload 4, 2) := dX9_enough_33_b.1
theorem dX9_enough_35 : decode cX9_enough 35 = .ok (.iload_n 3, 1) := dX9_enough_33_b.2.1
theorem dX9_enough_36 : decode cX9_enough 36 = .ok (.if_icmp .gt 47, 3) := dX9_enough_33_b.2.2.1
theorem dX9_enough_39 : decode cX9_enough 39 = .ok (.aload_n 0, 1) := dX9_enough_33_b.2.2.2.1
theorem dX9_enough_40 : decode cX9_enough 40 = .ok (.iload 4, 2) := dX9_enough_33_b.2.2.2.2.1
theorem dX9_enough_42 : decode cX9_enough 42 = .ok (.invokevirtual 286, 3) := dX9_enough_33_b.2.2.2.2.2
set_option maxRecDepth 20000 in
theorem dX9_enough_45_b : (decode cX9_enough 45 = .ok (.istore 5, 2)) ∧ (decode cX9_enough 47 = .ok (.iload 5, 2)) ∧ (decode cX9_enough 49 = .ok (.bipush (-2), 2)) ∧ (decode cX9_enough 51 = .ok (.if_icmp .ne 6, 3)) ∧ (decode cX9_enough 54 = .ok (.bipush (-2), 2)) ∧ (decode cX9_enough 56 = .ok (.ireturn, 1)) := by decide +kernel
theorem dX9_enough_45 : decode cX9_enough 45 = .ok (.istore 5, 2) := dX9_enough_45_b.1
theorem dX9_enough_47 : decode cX9_enough 47 = .ok (.iload 5, 2) := dX9_enough_45_b.2.1
theorem dX9_enough_49 : decode cX9_enough 49 = .ok (.bipush (-2), 2) := dX9_enough_45_b.2.2.1
theorem dX9_enough_51 : decode cX9_enough 51 = .ok (.if_icmp .ne 6, 3) := dX9_enough_45_b.2.2.2.1
theorem dX9_enough_54 : decode cX9_enough 54 = .ok (.bipush (-2), 2) := dX9_enough_45_b.2.2.2.2.1
theorem dX9_enough_56 : decode cX9_enough 56 = .ok (.ireturn, 1) := dX9_enough_45_b.2.2.2.2.2
set_option maxRecDepth 20000 in
theorem dX9_enough_57_b : (decode cX9_enough 57 = .ok (.iload 5, 2)) ∧ (decode cX9_enough 59 = .ok (.iconst (-1), 1)) ∧ (decode cX9_enough 60 = .ok (.if_icmp .ne 14, 3)) ∧ (decode cX9_enough 63 = .ok (.iload_n 1, 1)) ∧ (decode cX9_enough 64 = .ok (.ifCond .ne 8, 3)) ∧ (decode cX9_enough 67 = .ok (.iload 4, 2)) := by decide +kernel
theorem dX9_enough_57 : decode cX9_enough 57 = .ok (.iload 5, 2) := dX9_enough_57_b.1
theorem dX9_enough_59 : decode cX9_enough 59 = .ok (.iconst (-1), 1) := dX9_enough_57_b.2.1
theorem dX9_enough_60 : decode cX9_enough 60 = .ok (.if_icmp .ne 14, 3) := dX9_enough_57_b.2.2.1
theorem dX9_enough_63 : decode cX9_enough 63 = .ok (.iload_n 1, 1) := dX9_enough_57_b.2.2.2.1
theorem dX9_enough_64 : decode cX9_enough 64 = .ok (.ifCond .ne 8, 3) := dX9_enough_57_b.2.2.2.2.1
theorem dX9_enough_67 : decode cX9_enough 67 = .ok (.iload 4, 2) := dX9_enough_57_b.2.2.2.2.2
set_option maxRecDepth 20000 in
theorem dX9_enough_69_b : (decode cX9_enough 69 = .ok (.goto 4, 3)) ∧ (decode cX9_enough 72 = .ok (.iload_n 2, 1)) ∧ (decode cX9_enough 73 = .ok (.ireturn, 1)) ∧ (decode cX9_enough 74 = .ok (.iload 5, 2)) ∧ (decode cX9_enough 76 = .ok (.istore_n 2, 1)) ∧ (decode cX9_enough 77 = .ok (.iinc 4 1, 3)) := by decide +kernel
theorem dX9_enough_69 : decode cX9_enough 69 = .ok (.goto 4, 3) := dX9_enough_69_b.1
theorem dX9_enough_72 : decode cX9_enough 72 = .ok (.iload_n 2, 1) := dX9_enough_69_b.2.1
theorem dX9_enough_73 : decode cX9_enough 73 = .ok (.ireturn, 1) := dX9_enough_69_b.2.2.1
theorem dX9_enough_74 : decode cX9_enough 74 = .ok (.iload 5, 2) := dX9_enough_69_b.2.2.2.1
theorem dX9_enough_76 : decode cX9_enough 76 = .ok (.istore_n 2, 1) := dX9_enough_69_b.2.2.2.2.1
theorem dX9_enough_77 : decode cX9_enough 77 = .ok (.iinc 4 1, 3) := dX9_enough_69_b.2.2.2.2.2
set_option maxRecDepth 20000 in
theorem dX9_enough_80_b : (decode cX9_enough 80 = .ok (.goto (-47), 3)) ∧ (decode cX9_enough 83 = .ok (.iconst (-1), 1)) ∧ (decode cX9_enough 84 = .ok (.ireturn, 1)) := by decide +kernel
theorem dX9_enough_80 : decode cX9_enough 80 = .ok (.goto (-47), 3) := dX9_enough_80_b.1
theorem dX9_enough_83 : decode cX9_enough 83 = .ok (.iconst (-1), 1) := dX9_enough_80_b.2.1
theorem dX9_enough_84 : decode cX9_enough 84 = .ok (.ireturn, 1) := dX9_enough_80_b.2.2
set_option maxRecDepth 20000 in
theorem dX9_firstFailingDay_0_b : (decode cX9_firstFailingDay 0 = .ok (.aload_n 0, 1)) ∧ (decode cX9_firstFailingDay 1 = .ok (.getfield 23, 3)) ∧ (decode cX9_firstFailingDay 4 = .ok (.iload_n 1, 1)) ∧ (decode cX9_firstFailingDay 5 = .ok (.invokevirtual 289, 3)) ∧ (decode cX9_firstFailingDay 8 = .ok (.istore_n 2, 1)) ∧ (decode cX9_firstFailingDay 9 = .ok (.iconst 0, 1)) := by decide +kernel
theorem dX9_firstFailingDay_0 : decode cX9_firstFailingDay 0 = .ok (.aload_n 0, 1) := dX9_firstFailingDay_0_b.1
theorem dX9_firstFailingDay_1 : decode cX9_firstFailingDay 1 = .ok (.getfield 23, 3) := dX9_firstFailingDay_0_b.2.1
theorem dX9_firstFailingDay_4 : decode cX9_firstFailingDay 4 = .ok (.iload_n 1, 1) := dX9_firstFailingDay_0_b.2.2.1
theorem dX9_firstFailingDay_5 : decode cX9_firstFailingDay 5 = .ok (.invokevirtual 289, 3) := dX9_firstFailingDay_0_b.2.2.2.1
theorem dX9_firstFailingDay_8 : decode cX9_firstFailingDay 8 = .ok (.istore_n 2, 1) := dX9_firstFailingDay_0_b.2.2.2.2.1
theorem dX9_firstFailingDay_9 : decode cX9_firstFailingDay 9 = .ok (.iconst 0, 1) := dX9_firstFailingDay_0_b.2.2.2.2.2
set_option maxRecDepth 20000 in
theorem dX9_firstFailingDay_10_b : (decode cX9_firstFailingDay 10 = .ok (.istore_n 3, 1)) ∧ (decode cX9_firstFailingDay 11 = .ok (.iload_n 3, 1)) ∧ (decode cX9_firstFailingDay 12 = .ok (.aload_n 0, 1)) ∧ (decode cX9_firstFailingDay 13 = .ok (.getfield 42, 3)) ∧ (decode cX9_firstFailingDay 16 = .ok (.getfield 141, 3)) ∧ (decode cX9_firstFailingDay 19 = .ok (.if_icmp .ge 67, 3)) := by decide +kernel
theorem dX9_firstFailingDay_10 : decode cX9_firstFailingDay 10 = .ok (.istore_n 3, 1) := dX9_firstFailingDay_10_b.1
theorem dX9_firstFailingDay_11 : decode cX9_firstFailingDay 11 = .ok (.iload_n 3, 1) := dX9_firstFailingDay_10_b.2.1
theorem dX9_firstFailingDay_12 : decode cX9_firstFailingDay 12 = .ok (.aload_n 0, 1) := dX9_firstFailingDay_10_b.2.2.1
theorem dX9_firstFailingDay_13 : decode cX9_firstFailingDay 13 = .ok (.getfield 42, 3) := dX9_firstFailingDay_10_b.2.2.2.1
theorem dX9_firstFailingDay_16 : decode cX9_firstFailingDay 16 = .ok (.getfield 141, 3) := dX9_firstFailingDay_10_b.2.2.2.2.1
theorem dX9_firstFailingDay_19 : decode cX9_firstFailingDay 19 = .ok (.if_icmp .ge 67, 3) := dX9_firstFailingDay_10_b.2.2.2.2.2
set_option maxRecDepth 20000 in
theorem dX9_firstFailingDay_22_b : (decode cX9_firstFailingDay 22 = .ok (.aload_n 0, 1)) ∧ (decode cX9_firstFailingDay 23 = .ok (.getfield 42, 3)) ∧ (decode cX9_firstFailingDay 26 = .ok (.getfield 278, 3)) ∧ (decode cX9_firstFailingDay 29 = .ok (.iload_n 3, 1)) ∧ (decode cX9_firstFailingDay 30 = .ok (.iaload, 1)) ∧ (decode cX9_firstFailingDay 31 = .ok (.iload_n 2, 1)) := by decide +kernel
theorem dX9_firstFailingDay_22 : decode cX9_firstFailingDay 22 = .ok (.aload_n 0, 1) := dX9_firstFailingDay_22_b.1
theorem dX9_firstFailingDay_23 : decode cX9_firstFailingDay 23 = .ok (.getfield 42, 3) := dX9_firstFailingDay_22_b.2.1
theorem dX9_firstFailingDay_26 : decode cX9_firstFailingDay 26 = .ok (.getfield 278, 3) := dX9_firstFailingDay_22_b.2.2.1
theorem dX9_firstFailingDay_29 : decode cX9_firstFailingDay 29 = .ok (.iload_n 3, 1) := dX9_firstFailingDay_22_b.2.2.2.1
theorem dX9_firstFailingDay_30 : decode cX9_firstFailingDay 30 = .ok (.iaload, 1) := dX9_firstFailingDay_22_b.2.2.2.2.1
theorem dX9_firstFailingDay_31 : decode cX9_firstFailingDay 31 = .ok (.iload_n 2, 1) := dX9_firstFailingDay_22_b.2.2.2.2.2
set_option maxRecDepth 20000 in
theorem dX9_firstFailingDay_32_b : (decode cX9_firstFailingDay 32 = .ok (.ior, 1)) ∧ (decode cX9_firstFailingDay 33 = .ok (.iconst (-1), 1)) ∧ (decode cX9_firstFailingDay 34 = .ok (.ixor, 1)) ∧ (decode cX9_firstFailingDay 35 = .ok (.istore 4, 2)) ∧ (decode cX9_firstFailingDay 37 = .ok (.aload_n 0, 1)) ∧ (decode cX9_firstFailingDay 38 = .ok (.getfield 56, 3)) := by decide +kernel
theorem dX9_firstFailingDay_32 : decode cX9_firstFailingDay 32 = .ok (.ior, 1) := dX9_firstFailingDay_32_b.1
theorem dX9_firstFailingDay_33 : decode cX9_firstFailingDay 33 = .ok (.iconst (-1), 1) := dX9_firstFailingDay_32_b.2.1
theorem dX9_firstFailingDay_34 : decode cX9_firstFailingDay 34 = .ok (.ixor, 1) := dX9_firstFailingDay_32_b.2.2.1
theorem dX9_firstFailingDay_35 : decode cX9_firstFailingDay 35 = .ok (.istore 4, 2) := dX9_firstFailingDay_32_b.2.2.2.1
theorem dX9_firstFailingDay_37 : decode cX9_firstFailingDay 37 = .ok (.aload_n 0, 1) := dX9_firstFailingDay_32_b.2.2.2.2.1
theorem dX9_firstFailingDay_38 : decode cX9_firstFailingDay 38 = .ok (.getfield 56, 3) := dX9_firstFailingDay_32_b.2.2.2.2.2
set_option maxRecDepth 20000 in
theorem dX9_firstFailingDay_41_b : (decode cX9_firstFailingDay 41 = .ok (.aload_n 0, 1)) ∧ (decode cX9_firstFailingDay 42 = .ok (.getfield 23, 3)) ∧ (decode cX9_firstFailingDay 45 = .ok (.aload_n 0, 1)) ∧ (decode cX9_firstFailingDay 46 = .ok (.getfield 23, 3)) ∧ (decode cX9_firstFailingDay 49 = .ok (.invokevirtual 64, 3)) ∧ (decode cX9_firstFailingDay 52 = .ok (.iload 4, 2)) := by decide +kernel
theorem dX9_firstFailingDay_41 : decode cX9_firstFailingDay 41 = .ok (.aload_n 0, 1) := dX9_firstFailingDay_41_b.1
theorem dX9_firstFailingDay_42 : decode cX9_firstFailingDay 42 = .ok (.getfield 23, 3) := dX9_firstFailingDay_41_b.2.1
theorem dX9_firstFailingDay_45 : decode cX9_firstFailingDay 45 = .ok (.aload_n 0, 1) := dX9_firstFailingDay_41_b.2.2.1
theorem dX9_firstFailingDay_46 : decode cX9_firstFailingDay 46 = .ok (.getfield 23, 3) := dX9_firstFailingDay_41_b.2.2.2.1
theorem dX9_firstFailingDay_49 : decode cX9_firstFailingDay 49 = .ok (.invokevirtual 64, 3) := dX9_firstFailingDay_41_b.2.2.2.2.1
theorem dX9_firstFailingDay_52 : decode cX9_firstFailingDay 52 = .ok (.iload 4, 2) := dX9_firstFailingDay_41_b.2.2.2.2.2
set_option maxRecDepth 20000 in
theorem dX9_firstFailingDay_54_b : (decode cX9_firstFailingDay 54 = .ok (.invokestatic 266, 3)) ∧ (decode cX9_firstFailingDay 57 = .ok (.iconst 0, 1)) ∧ (decode cX9_firstFailingDay 58 = .ok (.invokevirtual 246, 3)) ∧ (decode cX9_firstFailingDay 61 = .ok (.ifCond .ne 6, 3)) ∧ (decode cX9_firstFailingDay 64 = .ok (.bipush (-2), 2)) ∧ (decode cX9_firstFailingDay 66 = .ok (.ireturn, 1)) := by decide +kernel
theorem dX9_firstFailingDay_54 : decode cX9_firstFailingDay 54 = .ok (.invokestatic 266, 3) := dX9_firstFailingDay_54_b.1
theorem dX9_firstFailingDay_57 : decode cX9_firstFailingDay 57 = .ok (.iconst 0, 1) := dX9_firstFailingDay_54_b.2.1
theorem dX9_firstFailingDay_58 : decode cX9_firstFailingDay 58 = .ok (.invokevirtual 246, 3) := dX9_firstFailingDay_54_b.2.2.1
theorem dX9_firstFailingDay_61 : decode cX9_firstFailingDay 61 = .ok (.ifCond .ne 6, 3) := dX9_firstFailingDay_54_b.2.2.2.1
theorem dX9_firstFailingDay_64 : decode cX9_firstFailingDay 64 = .ok (.bipush (-2), 2) := dX9_firstFailingDay_54_b.2.2.2.2.1
theorem dX9_firstFailingDay_66 : decode cX9_firstFailingDay 66 = .ok (.ireturn, 1) := dX9_firstFailingDay_54_b.2.2.2.2.2
set_option maxRecDepth 20000 in
theorem dX9_firstFailingDay_67_b : (decode cX9_firstFailingDay 67 = .ok (.aload_n 0, 1)) ∧ (decode cX9_firstFailingDay 68 = .ok (.getfield 56, 3)) ∧ (decode cX9_firstFailingDay 71 = .ok (.invokevirtual 250, 3)) ∧ (decode cX9_firstFailingDay 74 = .ok (.iconst (-1), 1)) ∧ (decode cX9_firstFailingDay 75 = .ok (.if_icmp .ne 5, 3)) ∧ (decode cX9_firstFailingDay 78 = .ok (.iload_n 3, 1)) := by decide +kernel
theorem dX9_firstFailingDay_67 : decode cX9_firstFailingDay 67 = .ok (.aload_n 0, 1) := dX9_firstFailingDay_67_b.1
theorem dX9_firstFailingDay_68 : decode cX9_firstFailingDay 68 = .ok (.getfield 56, 3) := dX9_firstFailingDay_67_b.2.1
theorem dX9_firstFailingDay_71 : decode cX9_firstFailingDay 71 = .ok (.invokevirtual 250, 3) := dX9_firstFailingDay_67_b.2.2.1
theorem dX9_firstFailingDay_74 : decode cX9_firstFailingDay 74 = .ok (.iconst (-1), 1) := dX9_firstFailingDay_67_b.2.2.2.1
theorem dX9_firstFailingDay_75 : decode cX9_firstFailingDay 75 = .ok (.if_icmp .ne 5, 3) := dX9_firstFailingDay_67_b.2.2.2.2.1
theorem dX9_firstFailingDay_78 : decode cX9_firstFailingDay 78 = .ok (.iload_n 3, 1) := dX9_firstFailingDay_67_b.2.2.2.2.2
set_option maxRecDepth 20000 in
theorem dX9_firstFailingDay_79_b : (decode cX9_firstFailingDay 79 = .ok (.ireturn, 1)) ∧ (decode cX9_firstFailingDay 80 = .ok (.iinc 3 1, 3)) ∧ (decode cX9_firstFailingDay 83 = .ok (.goto (-72), 3)) ∧ (decode cX9_firstFailingDay 86 = .ok (.iconst (-1), 1)) ∧ (decode cX9_firstFailingDay 87 = .ok (.ireturn, 1)) := by decide +kernel
theorem dX9_firstFailingDay_79 : decode cX9_firstFailingDay 79 = .ok (.ireturn, 1) := dX9_firstFailingDay_79_b.1
theorem dX9_firstFailingDay_80 : decode cX9_firstFailingDay 80 = .ok (.iinc 3 1, 3) := dX9_firstFailingDay_79_b.2.1
theorem dX9_firstFailingDay_83 : decode cX9_firstFailingDay 83 = .ok (.goto (-72), 3) := dX9_firstFailingDay_79_b.2.2.1
theorem dX9_firstFailingDay_86 : decode cX9_firstFailingDay 86 = .ok (.iconst (-1), 1) := dX9_firstFailingDay_79_b.2.2.2.1
theorem dX9_firstFailingDay_87 : decode cX9_firstFailingDay 87 = .ok (.ireturn, 1) := dX9_firstFailingDay_79_b.2.2.2.2
set_option maxRecDepth 20000 in
theorem dX9_image_0_b : (decode cX9_image 0 = .ok (.aload_n 0, 1)) ∧ (decode cX9_image 1 = .ok (.getfield 46, 3)) ∧ (decode cX9_image 4 = .ok (.aload_n 0, 1)) ∧ (decode cX9_image 5 = .ok (.getfield 42, 3)) ∧ (decode cX9_image 8 = .ok (.invokevirtual 292, 3)) ∧ (decode cX9_image 11 = .ok (.aload_n 0, 1)) := by decide +kernel
theorem dX9_image_0 : decode cX9_image 0 = .ok (.aload_n 0, 1) := dX9_image_0_b.1
theorem dX9_image_1 : decode cX9_image 1 = .ok (.getfield 46, 3) := dX9_image_0_b.2.1
theorem dX9_image_4 : decode cX9_image 4 = .ok (.aload_n 0, 1) := dX9_image_0_b.2.2.1
theorem dX9_image_5 : decode cX9_image 5 = .ok (.getfield 42, 3) := dX9_image_0_b.2.2.2.1
theorem dX9_image_8 : decode cX9_image 8 = .ok (.invokevirtual 292, 3) := dX9_image_0_b.2.2.2.2.1
theorem dX9_image_11 : decode cX9_image 11 = .ok (.aload_n 0, 1) := dX9_image_0_b.2.2.2.2.2
set_option maxRecDepth 20000 in
theorem dX9_image_12_b : (decode cX9_image 12 = .ok (.iconst 1, 1)) ∧ (decode cX9_image 13 = .ok (.putfield 49, 3)) ∧ (decode cX9_image 16 = .ok (.return_, 1)) := by decide +kernel
theorem dX9_image_12 : decode cX9_image 12 = .ok (.iconst 1, 1) := dX9_image_12_b.1
theorem dX9_image_13 : decode cX9_image 13 = .ok (.putfield 49, 3) := dX9_image_12_b.2.1
theorem dX9_image_16 : decode cX9_image 16 = .ok (.return_, 1) := dX9_image_12_b.2.2
set_option maxRecDepth 20000 in
theorem dX9_restore_0_b : (decode cX9_restore 0 = .ok (.aload_n 0, 1)) ∧ (decode cX9_restore 1 = .ok (.getfield 49, 3)) ∧ (decode cX9_restore 4 = .ok (.ifCond .eq 14, 3)) ∧ (decode cX9_restore 7 = .ok (.aload_n 0, 1)) ∧ (decode cX9_restore 8 = .ok (.getfield 42, 3)) ∧ (decode cX9_restore 11 = .ok (.aload_n 0, 1)) := by decide +kernel
theorem dX9_restore_0 : decode cX9_restore 0 = .ok (.aload_n 0, 1) := dX9_restore_0_b.1
theorem dX9_restore_1 : decode cX9_restore 1 = .ok (.getfield 49, 3) := dX9_restore_0_b.2.1
theorem dX9_restore_4 : decode cX9_restore 4 = .ok (.ifCond .eq 14, 3) := dX9_restore_0_b.2.2.1
theorem dX9_restore_7 : decode cX9_restore 7 = .ok (.aload_n 0, 1) := dX9_restore_0_b.2.2.2.1
theorem dX9_restore_8 : decode cX9_restore 8 = .ok (.getfield 42, 3) := dX9_restore_0_b.2.2.2.2.1
theorem dX9_restore_11 : decode cX9_restore 11 = .ok (.aload_n 0, 1) := dX9_restore_0_b.2.2.2.2.2
set_option maxRecDepth 20000 in
theorem dX9_restore_12_b : (decode cX9_restore 12 = .ok (.getfield 46, 3)) ∧ (decode cX9_restore 15 = .ok (.invokevirtual 292, 3)) ∧ (decode cX9_restore 18 = .ok (.aload_n 0, 1)) ∧ (decode cX9_restore 19 = .ok (.getfield 49, 3)) ∧ (decode cX9_restore 22 = .ok (.ireturn, 1)) := by decide +kernel
theorem dX9_restore_12 : decode cX9_restore 12 = .ok (.getfield 46, 3) := dX9_restore_12_b.1
theorem dX9_restore_15 : decode cX9_restore 15 = .ok (.invokevirtual 292, 3) := dX9_restore_12_b.2.1
theorem dX9_restore_18 : decode cX9_restore 18 = .ok (.aload_n 0, 1) := dX9_restore_12_b.2.2.1
theorem dX9_restore_19 : decode cX9_restore 19 = .ok (.getfield 49, 3) := dX9_restore_12_b.2.2.2.1
theorem dX9_restore_22 : decode cX9_restore 22 = .ok (.ireturn, 1) := dX9_restore_12_b.2.2.2.2
set_option maxRecDepth 20000 in
theorem dX10_thrown_0_b : (decode cX10_thrown 0 = .ok (.aload_n 0, 1)) ∧ (decode cX10_thrown 1 = .ok (.getfield 171, 3)) ∧ (decode cX10_thrown 4 = .ok (.ireturn, 1)) := by decide +kernel
theorem dX10_thrown_0 : decode cX10_thrown 0 = .ok (.aload_n 0, 1) := dX10_thrown_0_b.1
theorem dX10_thrown_1 : decode cX10_thrown 1 = .ok (.getfield 171, 3) := dX10_thrown_0_b.2.1
theorem dX10_thrown_4 : decode cX10_thrown 4 = .ok (.ireturn, 1) := dX10_thrown_0_b.2.2
set_option maxRecDepth 20000 in
theorem dX10_fail_0_b : (decode cX10_fail 0 = .ok (.aload_n 0, 1)) ∧ (decode cX10_fail 1 = .ok (.iload_n 1, 1)) ∧ (decode cX10_fail 2 = .ok (.putfield 171, 3)) ∧ (decode cX10_fail 5 = .ok (.iconst 0, 1)) ∧ (decode cX10_fail 6 = .ok (.ireturn, 1)) := by decide +kernel
theorem dX10_fail_0 : decode cX10_fail 0 = .ok (.aload_n 0, 1) := dX10_fail_0_b.1
theorem dX10_fail_1 : decode cX10_fail 1 = .ok (.iload_n 1, 1) := dX10_fail_0_b.2.1
theorem dX10_fail_2 : decode cX10_fail 2 = .ok (.putfield 171, 3) := dX10_fail_0_b.2.2.1
theorem dX10_fail_5 : decode cX10_fail 5 = .ok (.iconst 0, 1) := dX10_fail_0_b.2.2.2.1
theorem dX10_fail_6 : decode cX10_fail 6 = .ok (.ireturn, 1) := dX10_fail_0_b.2.2.2.2
set_option maxRecDepth 20000 in
theorem dX10_isIn_0_b : (decode cX10_isIn 0 = .ok (.iload_n 0, 1)) ∧ (decode cX10_isIn 1 = .ok (.iload_n 1, 1)) ∧ (decode cX10_isIn 2 = .ok (.if_icmp .lt 12, 3)) ∧ (decode cX10_isIn 5 = .ok (.iload_n 0, 1)) ∧ (decode cX10_isIn 6 = .ok (.iload_n 2, 1)) ∧ (decode cX10_isIn 7 = .ok (.if_icmp .gt 7, 3)) := by decide +kernel
theorem dX10_isIn_0 : decode cX10_isIn 0 = .ok (.iload_n 0, 1) := dX10_isIn_0_b.1
theorem dX10_isIn_1 : decode cX10_isIn 1 = .ok (.iload_n 1, 1) := dX10_isIn_0_b.2.1
theorem dX10_isIn_2 : decode cX10_isIn 2 = .ok (.if_icmp .lt 12, 3) := dX10_isIn_0_b.2.2.1
theorem dX10_isIn_5 : decode cX10_isIn 5 = .ok (.iload_n 0, 1) := dX10_isIn_0_b.2.2.2.1
theorem dX10_isIn_6 : decode cX10_isIn 6 = .ok (.iload_n 2, 1) := dX10_isIn_0_b.2.2.2.2.1
theorem dX10_isIn_7 : decode cX10_isIn 7 = .ok (.if_icmp .gt 7, 3) := dX10_isIn_0_b.2.2.2.2.2
set_option maxRecDepth 20000 in
theorem dX10_isIn_10_b : (decode cX10_isIn 10 = .ok (.iconst 1, 1)) ∧ (decode cX10_isIn 11 = .ok (.goto 4, 3)) ∧ (decode cX10_isIn 14 = .ok (.iconst 0, 1)) ∧ (decode cX10_isIn 15 = .ok (.ireturn, 1)) := by decide +kernel
theorem dX10_isIn_10 : decode cX10_isIn 10 = .ok (.iconst 1, 1) := dX10_isIn_10_b.1
theorem dX10_isIn_11 : decode cX10_isIn 11 = .ok (.goto 4, 3) := dX10_isIn_10_b.2.1
theorem dX10_isIn_14 : decode cX10_isIn 14 = .ok (.iconst 0, 1) := dX10_isIn_10_b.2.2.1
theorem dX10_isIn_15 : decode cX10_isIn 15 = .ok (.ireturn, 1) := dX10_isIn_10_b.2.2.2
set_option maxRecDepth 20000 in
theorem dX10_atFirst_0_b : (decode cX10_atFirst 0 = .ok (.iconst 0, 1)) ∧ (decode cX10_atFirst 1 = .ok (.istore_n 2, 1)) ∧ (decode cX10_atFirst 2 = .ok (.iload_n 2, 1)) ∧ (decode cX10_atFirst 3 = .ok (.bipush 7, 2)) ∧ (decode cX10_atFirst 5 = .ok (.if_icmp .ge 55, 3)) ∧ (decode cX10_atFirst 8 = .ok (.aload_n 0, 1)) := by decide +kernel
theorem dX10_atFirst_0 : decode cX10_atFirst 0 = .ok (.iconst 0, 1) := dX10_atFirst_0_b.1
theorem dX10_atFirst_1 : decode cX10_atFirst 1 = .ok (.istore_n 2, 1) := dX10_atFirst_0_b.2.1
theorem dX10_atFirst_2 : decode cX10_atFirst 2 = .ok (.iload_n 2, 1) := dX10_atFirst_0_b.2.2.1
theorem dX10_atFirst_3 : decode cX10_atFirst 3 = .ok (.bipush 7, 2) := dX10_atFirst_0_b.2.2.2.1
theorem dX10_atFirst_5 : decode cX10_atFirst 5 = .ok (.if_icmp .ge 55, 3) := dX10_atFirst_0_b.2.2.2.2.1
theorem dX10_atFirst_8 : decode cX10_atFirst 8 = .ok (.aload_n 0, 1) := dX10_atFirst_0_b.2.2.2.2.2
set_option maxRecDepth 20000 in
theorem dX10_atFirst_9_b : (decode cX10_atFirst 9 = .ok (.getfield 54, 3)) ∧ (decode cX10_atFirst 12 = .ok (.iload_n 1, 1)) ∧ (decode cX10_atFirst 13 = .ok (.iload_n 2, 1)) ∧ (decode cX10_atFirst 14 = .ok (.iadd, 1)) ∧ (decode cX10_atFirst 15 = .ok (.iload_n 2, 1)) ∧ (decode cX10_atFirst 16 = .ok (.ifCond .ne 7, 3)) := by decide +kernel
theorem dX10_atFirst_9 : decode cX10_atFirst 9 = .ok (.getfield 54, 3) := dX10_atFirst_9_b.1
theorem dX10_atFirst_12 : decode cX10_atFirst 12 = .ok (.iload_n 1, 1) := dX10_atFirst_9_b.2.1
theorem dX10_atFirst_13 : decode cX10_atFirst 13 = .ok (.iload_n 2, 1) := dX10_atFirst_9_b.2.2.1
theorem dX10_atFirst_14 : decode cX10_atFirst 14 = .ok (.iadd, 1) := dX10_atFirst_9_b.2.2.2.1
theorem dX10_atFirst_15 : decode cX10_atFirst 15 = .ok (.iload_n 2, 1) := dX10_atFirst_9_b.2.2.2.2.1
theorem dX10_atFirst_16 : decode cX10_atFirst 16 = .ok (.ifCond .ne 7, 3) := dX10_atFirst_9_b.2.2.2.2.2
set_option maxRecDepth 20000 in
theorem dX10_atFirst_19_b : (decode cX10_atFirst 19 = .ok (.iconst 1, 1)) ∧ (decode cX10_atFirst 20 = .ok (.goto 33, 3)) ∧ (decode cX10_atFirst 23 = .ok (.iload_n 2, 1)) ∧ (decode cX10_atFirst 24 = .ok (.iconst 2, 1)) ∧ (decode cX10_atFirst 25 = .ok (.if_icmp .ne 8, 3)) ∧ (decode cX10_atFirst 28 = .ok (.bipush 99, 2)) := by decide +kernel
theorem dX10_atFirst_19 : decode cX10_atFirst 19 = .ok (.iconst 1, 1) := dX10_atFirst_19_b.1
theorem dX10_atFirst_20 : decode cX10_atFirst 20 = .ok (.goto 33, 3) := dX10_atFirst_19_b.2.1
theorem dX10_atFirst_23 : decode cX10_atFirst 23 = .ok (.iload_n 2, 1) := dX10_atFirst_19_b.2.2.1
theorem dX10_atFirst_24 : decode cX10_atFirst 24 = .ok (.iconst 2, 1) := dX10_atFirst_19_b.2.2.2.1
theorem dX10_atFirst_25 : decode cX10_atFirst 25 = .ok (.if_icmp .ne 8, 3) := dX10_atFirst_19_b.2.2.2.2.1
theorem dX10_atFirst_28 : decode cX10_atFirst 28 = .ok (.bipush 99, 2) := dX10_atFirst_19_b.2.2.2.2.2
set_option maxRecDepth 20000 in
theorem dX10_atFirst_30_b : (decode cX10_atFirst 30 = .ok (.goto 23, 3)) ∧ (decode cX10_atFirst 33 = .ok (.iload_n 2, 1)) ∧ (decode cX10_atFirst 34 = .ok (.iconst 4, 1)) ∧ (decode cX10_atFirst 35 = .ok (.if_icmp .ne 7, 3)) ∧ (decode cX10_atFirst 38 = .ok (.iconst 1, 1)) ∧ (decode cX10_atFirst 39 = .ok (.goto 14, 3)) := by decide +kernel
theorem dX10_atFirst_30 : decode cX10_atFirst 30 = .ok (.goto 23, 3) := dX10_atFirst_30_b.1
theorem dX10_atFirst_33 : decode cX10_atFirst 33 = .ok (.iload_n 2, 1) := dX10_atFirst_30_b.2.1
theorem dX10_atFirst_34 : decode cX10_atFirst 34 = .ok (.iconst 4, 1) := dX10_atFirst_30_b.2.2.1
theorem dX10_atFirst_35 : decode cX10_atFirst 35 = .ok (.if_icmp .ne 7, 3) := dX10_atFirst_30_b.2.2.2.1
theorem dX10_atFirst_38 : decode cX10_atFirst 38 = .ok (.iconst 1, 1) := dX10_atFirst_30_b.2.2.2.2.1
theorem dX10_atFirst_39 : decode cX10_atFirst 39 = .ok (.goto 14, 3) := dX10_atFirst_30_b.2.2.2.2.2
set_option maxRecDepth 20000 in
theorem dX10_atFirst_42_b : (decode cX10_atFirst 42 = .ok (.iload_n 2, 1)) ∧ (decode cX10_atFirst 43 = .ok (.iconst 5, 1)) ∧ (decode cX10_atFirst 44 = .ok (.if_icmp .ne 8, 3)) ∧ (decode cX10_atFirst 47 = .ok (.bipush 20, 2)) ∧ (decode cX10_atFirst 49 = .ok (.goto 4, 3)) ∧ (decode cX10_atFirst 52 = .ok (.iconst 0, 1)) := by decide +kernel
theorem dX10_atFirst_42 : decode cX10_atFirst 42 = .ok (.iload_n 2, 1) := dX10_atFirst_42_b.1
theorem dX10_atFirst_43 : decode cX10_atFirst 43 = .ok (.iconst 5, 1) := dX10_atFirst_42_b.2.1
theorem dX10_atFirst_44 : decode cX10_atFirst 44 = .ok (.if_icmp .ne 8, 3) := dX10_atFirst_42_b.2.2.1
theorem dX10_atFirst_47 : decode cX10_atFirst 47 = .ok (.bipush 20, 2) := dX10_atFirst_42_b.2.2.2.1
theorem dX10_atFirst_49 : decode cX10_atFirst 49 = .ok (.goto 4, 3) := dX10_atFirst_42_b.2.2.2.2.1
theorem dX10_atFirst_52 : decode cX10_atFirst 52 = .ok (.iconst 0, 1) := dX10_atFirst_42_b.2.2.2.2.2
set_option maxRecDepth 20000 in
theorem dX10_atFirst_53_b : (decode cX10_atFirst 53 = .ok (.iastore, 1)) ∧ (decode cX10_atFirst 54 = .ok (.iinc 2 1, 3)) ∧ (decode cX10_atFirst 57 = .ok (.goto (-55), 3)) ∧ (decode cX10_atFirst 60 = .ok (.return_, 1)) := by decide +kernel
theorem dX10_atFirst_53 : decode cX10_atFirst 53 = .ok (.iastore, 1) := dX10_atFirst_53_b.1
theorem dX10_atFirst_54 : decode cX10_atFirst 54 = .ok (.iinc 2 1, 3) := dX10_atFirst_53_b.2.1
theorem dX10_atFirst_57 : decode cX10_atFirst 57 = .ok (.goto (-55), 3) := dX10_atFirst_53_b.2.2.1
theorem dX10_atFirst_60 : decode cX10_atFirst 60 = .ok (.return_, 1) := dX10_atFirst_53_b.2.2.2
set_option maxRecDepth 20000 in
theorem dX10_isThing_0_b : (decode cX10_isThing 0 = .ok (.iload_n 1, 1)) ∧ (decode cX10_isThing 1 = .ok (.iconst 0, 1)) ∧ (decode cX10_isThing 2 = .ok (.aload_n 0, 1)) ∧ (decode cX10_isThing 3 = .ok (.getfield 174, 3)) ∧ (decode cX10_isThing 6 = .ok (.iconst 1, 1)) ∧ (decode cX10_isThing 7 = .ok (.isub, 1)) := by decide +kernel
theorem dX10_isThing_0 : decode cX10_isThing 0 = .ok (.iload_n 1, 1) := dX10_isThing_0_b.1
theorem dX10_isThing_1 : decode cX10_isThing 1 = .ok (.iconst 0, 1) := dX10_isThing_0_b.2.1
theorem dX10_isThing_2 : decode cX10_isThing 2 = .ok (.aload_n 0, 1) := dX10_isThing_0_b.2.2.1
theorem dX10_isThing_3 : decode cX10_isThing 3 = .ok (.getfield 174, 3) := dX10_isThing_0_b.2.2.2.1
theorem dX10_isThing_6 : decode cX10_isThing 6 = .ok (.iconst 1, 1) := dX10_isThing_0_b.2.2.2.2.1
theorem dX10_isThing_7 : decode cX10_isThing 7 = .ok (.isub, 1) := dX10_isThing_0_b.2.2.2.2.2
set_option maxRecDepth 20000 in
theorem dX10_isThing_8_b : (decode cX10_isThing 8 = .ok (.invokestatic 177, 3)) ∧ (decode cX10_isThing 11 = .ok (.ireturn, 1)) := by decide +kernel
theorem dX10_isThing_8 : decode cX10_isThing 8 = .ok (.invokestatic 177, 3) := dX10_isThing_8_b.1
theorem dX10_isThing_11 : decode cX10_isThing 11 = .ok (.ireturn, 1) := dX10_isThing_8_b.2
set_option maxRecDepth 20000 in
theorem dX10_depths_0_b : (decode cX10_depths 0 = .ok (.aload_n 0, 1)) ∧ (decode cX10_depths 1 = .ok (.getfield 54, 3)) ∧ (decode cX10_depths 4 = .ok (.iconst 0, 1)) ∧ (decode cX10_depths 5 = .ok (.iaload, 1)) ∧ (decode cX10_depths 6 = .ok (.ireturn, 1)) := by decide +kernel
theorem dX10_depths_0 : decode cX10_depths 0 = .ok (.aload_n 0, 1) := dX10_depths_0_b.1
theorem dX10_depths_1 : decode cX10_depths 1 = .ok (.getfield 54, 3) := dX10_depths_0_b.2.1
theorem dX10_depths_4 : decode cX10_depths 4 = .ok (.iconst 0, 1) := dX10_depths_0_b.2.2.1
theorem dX10_depths_5 : decode cX10_depths 5 = .ok (.iaload, 1) := dX10_depths_0_b.2.2.2.1
theorem dX10_depths_6 : decode cX10_depths 6 = .ok (.ireturn, 1) := dX10_depths_0_b.2.2.2.2
set_option maxRecDepth 20000 in
theorem dX10_feed_0_b : (decode cX10_feed 0 = .ok (.aload_n 0, 1)) ∧ (decode cX10_feed 1 = .ok (.iconst 0, 1)) ∧ (decode cX10_feed 2 = .ok (.putfield 171, 3)) ∧ (decode cX10_feed 5 = .ok (.aload_n 0, 1)) ∧ (decode cX10_feed 6 = .ok (.getfield 181, 3)) ∧ (decode cX10_feed 9 = .ok (.bipush 20, 2)) := by decide +kernel
theorem dX10_feed_0 : decode cX10_feed 0 = .ok (.aload_n 0, 1) := dX10_feed_0_b.1
theorem dX10_feed_1 : decode cX10_feed 1 = .ok (.iconst 0, 1) := dX10_feed_0_b.2.1
theorem dX10_feed_2 : decode cX10_feed 2 = .ok (.putfield 171, 3) := dX10_feed_0_b.2.2.1
theorem dX10_feed_5 : decode cX10_feed 5 = .ok (.aload_n 0, 1) := dX10_feed_0_b.2.2.2.1
theorem dX10_feed_6 : decode cX10_feed 6 = .ok (.getfield 181, 3) := dX10_feed_0_b.2.2.2.2.1
theorem dX10_feed_9 : decode cX10_feed 9 = .ok (.bipush 20, 2) := dX10_feed_0_b.2.2.2.2.2
set_option maxRecDepth 20000 in
theorem dX10_feed_11_b : (decode cX10_feed 11 = .ok (.iadd, 1)) ∧ (decode cX10_feed 12 = .ok (.sipush 600, 3)) ∧ (decode cX10_feed 15 = .ok (.if_icmp .le 5, 3)) ∧ (decode cX10_feed 18 = .ok (.iconst (-1), 1)) ∧ (decode cX10_feed 19 = .ok (.ireturn, 1)) ∧ (decode cX10_feed 20 = .ok (.iconst 0, 1)) := by decide +kernel
theorem dX10_feed_11 : decode cX10_feed 11 = .ok (.iadd, 1) := dX10_feed_11_b.1
theorem dX10_feed_12 : decode cX10_feed 12 = .ok (.sipush 600, 3) := dX10_feed_11_b.2.1
theorem dX10_feed_15 : decode cX10_feed 15 = .ok (.if_icmp .le 5, 3) := dX10_feed_11_b.2.2.1
theorem dX10_feed_18 : decode cX10_feed 18 = .ok (.iconst (-1), 1) := dX10_feed_11_b.2.2.2.1
theorem dX10_feed_19 : decode cX10_feed 19 = .ok (.ireturn, 1) := dX10_feed_11_b.2.2.2.2.1
theorem dX10_feed_20 : decode cX10_feed 20 = .ok (.iconst 0, 1) := dX10_feed_11_b.2.2.2.2.2
set_option maxRecDepth 20000 in
theorem dX10_feed_21_b : (decode cX10_feed 21 = .ok (.istore 6, 2)) ∧ (decode cX10_feed 23 = .ok (.iload 6, 2)) ∧ (decode cX10_feed 25 = .ok (.bipush 20, 2)) ∧ (decode cX10_feed 27 = .ok (.if_icmp .ge 93, 3)) ∧ (decode cX10_feed 30 = .ok (.iload 6, 2)) ∧ (decode cX10_feed 32 = .ok (.iconst 4, 1)) := by decide +kernel
theorem dX10_feed_21 : decode cX10_feed 21 = .ok (.istore 6, 2) := dX10_feed_21_b.1
theorem dX10_feed_23 : decode cX10_feed 23 = .ok (.iload 6, 2) := dX10_feed_21_b.2.1
theorem dX10_feed_25 : decode cX10_feed 25 = .ok (.bipush 20, 2) := dX10_feed_21_b.2.2.1
theorem dX10_feed_27 : decode cX10_feed 27 = .ok (.if_icmp .ge 93, 3) := dX10_feed_21_b.2.2.2.1
theorem dX10_feed_30 : decode cX10_feed 30 = .ok (.iload 6, 2) := dX10_feed_21_b.2.2.2.2.1
theorem dX10_feed_32 : decode cX10_feed 32 = .ok (.iconst 4, 1) := dX10_feed_21_b.2.2.2.2.2
set_option maxRecDepth 20000 in
theorem dX10_feed_33_b : (decode cX10_feed 33 = .ok (.if_icmp .ge 7, 3)) ∧ (decode cX10_feed 36 = .ok (.iload_n 1, 1)) ∧ (decode cX10_feed 37 = .ok (.goto 39, 3)) ∧ (decode cX10_feed 40 = .ok (.iload 6, 2)) ∧ (decode cX10_feed 42 = .ok (.bipush 8, 2)) ∧ (decode cX10_feed 44 = .ok (.if_icmp .ge 7, 3)) := by decide +kernel
theorem dX10_feed_33 : decode cX10_feed 33 = .ok (.if_icmp .ge 7, 3) := dX10_feed_33_b.1
theorem dX10_feed_36 : decode cX10_feed 36 = .ok (.iload_n 1, 1) := dX10_feed_33_b.2.1
theorem dX10_feed_37 : decode cX10_feed 37 = .ok (.goto 39, 3) := dX10_feed_33_b.2.2.1
theorem dX10_feed_40 : decode cX10_feed 40 = .ok (.iload 6, 2) := dX10_feed_33_b.2.2.2.1
theorem dX10_feed_42 : decode cX10_feed 42 = .ok (.bipush 8, 2) := dX10_feed_33_b.2.2.2.2.1
theorem dX10_feed_44 : decode cX10_feed 44 = .ok (.if_icmp .ge 7, 3) := dX10_feed_33_b.2.2.2.2.2
set_option maxRecDepth 20000 in
theorem dX10_feed_47_b : (decode cX10_feed 47 = .ok (.iload_n 2, 1)) ∧ (decode cX10_feed 48 = .ok (.goto 28, 3)) ∧ (decode cX10_feed 51 = .ok (.iload 6, 2)) ∧ (decode cX10_feed 53 = .ok (.bipush 12, 2)) ∧ (decode cX10_feed 55 = .ok (.if_icmp .ge 7, 3)) ∧ (decode cX10_feed 58 = .ok (.iload_n 3, 1)) := by decide +kernel
theorem dX10_feed_47 : decode cX10_feed 47 = .ok (.iload_n 2, 1) := dX10_feed_47_b.1
theorem dX10_feed_48 : decode cX10_feed 48 = .ok (.goto 28, 3) := dX10_feed_47_b.2.1
theorem dX10_feed_51 : decode cX10_feed 51 = .ok (.iload 6, 2) := dX10_feed_47_b.2.2.1
theorem dX10_feed_53 : decode cX10_feed 53 = .ok (.bipush 12, 2) := dX10_feed_47_b.2.2.2.1
theorem dX10_feed_55 : decode cX10_feed 55 = .ok (.if_icmp .ge 7, 3) := dX10_feed_47_b.2.2.2.2.1
theorem dX10_feed_58 : decode cX10_feed 58 = .ok (.iload_n 3, 1) := dX10_feed_47_b.2.2.2.2.2
set_option maxRecDepth 20000 in
theorem dX10_feed_59_b : (decode cX10_feed 59 = .ok (.goto 17, 3)) ∧ (decode cX10_feed 62 = .ok (.iload 6, 2)) ∧ (decode cX10_feed 64 = .ok (.bipush 16, 2)) ∧ (decode cX10_feed 66 = .ok (.if_icmp .ge 8, 3)) ∧ (decode cX10_feed 69 = .ok (.iload 4, 2)) ∧ (decode cX10_feed 71 = .ok (.goto 5, 3)) := by decide +kernel
theorem dX10_feed_59 : decode cX10_feed 59 = .ok (.goto 17, 3) := dX10_feed_59_b.1
theorem dX10_feed_62 : decode cX10_feed 62 = .ok (.iload 6, 2) := dX10_feed_59_b.2.1
theorem dX10_feed_64 : decode cX10_feed 64 = .ok (.bipush 16, 2) := dX10_feed_59_b.2.2.1
theorem dX10_feed_66 : decode cX10_feed 66 = .ok (.if_icmp .ge 8, 3) := dX10_feed_59_b.2.2.2.1
theorem dX10_feed_69 : decode cX10_feed 69 = .ok (.iload 4, 2) := dX10_feed_59_b.2.2.2.2.1
theorem dX10_feed_71 : decode cX10_feed 71 = .ok (.goto 5, 3) := dX10_feed_59_b.2.2.2.2.2
set_option maxRecDepth 20000 in
theorem dX10_feed_74_b : (decode cX10_feed 74 = .ok (.iload 5, 2)) ∧ (decode cX10_feed 76 = .ok (.istore 7, 2)) ∧ (decode cX10_feed 78 = .ok (.aload_n 0, 1)) ∧ (decode cX10_feed 79 = .ok (.getfield 80, 3)) ∧ (decode cX10_feed 82 = .ok (.aload_n 0, 1)) ∧ (decode cX10_feed 83 = .ok (.getfield 181, 3)) := by decide +kernel
theorem dX10_feed_74 : decode cX10_feed 74 = .ok (.iload 5, 2) := dX10_feed_74_b.1
theorem dX10_feed_76 : decode cX10_feed 76 = .ok (.istore 7, 2) := dX10_feed_74_b.2.1
theorem dX10_feed_78 : decode cX10_feed 78 = .ok (.aload_n 0, 1) := dX10_feed_74_b.2.2.1
theorem dX10_feed_79 : decode cX10_feed 79 = .ok (.getfield 80, 3) := dX10_feed_74_b.2.2.2.1
theorem dX10_feed_82 : decode cX10_feed 82 = .ok (.aload_n 0, 1) := dX10_feed_74_b.2.2.2.2.1
theorem dX10_feed_83 : decode cX10_feed 83 = .ok (.getfield 181, 3) := dX10_feed_74_b.2.2.2.2.2
set_option maxRecDepth 20000 in
theorem dX10_feed_86_b : (decode cX10_feed 86 = .ok (.iload 7, 2)) ∧ (decode cX10_feed 88 = .ok (.bipush 24, 2)) ∧ (decode cX10_feed 90 = .ok (.bipush 8, 2)) ∧ (decode cX10_feed 92 = .ok (.iload 6, 2)) ∧ (decode cX10_feed 94 = .ok (.iconst 4, 1)) ∧ (decode cX10_feed 95 = .ok (.irem, 1)) := by decide +kernel
theorem dX10_feed_86 : decode cX10_feed 86 = .ok (.iload 7, 2) := dX10_feed_86_b.1
theorem dX10_feed_88 : decode cX10_feed 88 = .ok (.bipush 24, 2) := dX10_feed_86_b.2.1
theorem dX10_feed_90 : decode cX10_feed 90 = .ok (.bipush 8, 2) := dX10_feed_86_b.2.2.1
theorem dX10_feed_92 : decode cX10_feed 92 = .ok (.iload 6, 2) := dX10_feed_86_b.2.2.2.1
theorem dX10_feed_94 : decode cX10_feed 94 = .ok (.iconst 4, 1) := dX10_feed_86_b.2.2.2.2.1
theorem dX10_feed_95 : decode cX10_feed 95 = .ok (.irem, 1) := dX10_feed_86_b.2.2.2.2.2
set_option maxRecDepth 20000 in
theorem dX10_feed_96_b : (decode cX10_feed 96 = .ok (.imul, 1)) ∧ (decode cX10_feed 97 = .ok (.isub, 1)) ∧ (decode cX10_feed 98 = .ok (.ishr, 1)) ∧ (decode cX10_feed 99 = .ok (.sipush 255, 3)) ∧ (decode cX10_feed 102 = .ok (.iand, 1)) ∧ (decode cX10_feed 103 = .ok (.iastore, 1)) := by decide +kernel
theorem dX10_feed_96 : decode cX10_feed 96 = .ok (.imul, 1) := dX10_feed_96_b.1
theorem dX10_feed_97 : decode cX10_feed 97 = .ok (.isub, 1) := dX10_feed_96_b.2.1
theorem dX10_feed_98 : decode cX10_feed 98 = .ok (.ishr, 1) := dX10_feed_96_b.2.2.1
theorem dX10_feed_99 : decode cX10_feed 99 = .ok (.sipush 255, 3) := dX10_feed_96_b.2.2.2.1
theorem dX10_feed_102 : decode cX10_feed 102 = .ok (.iand, 1) := dX10_feed_96_b.2.2.2.2.1
theorem dX10_feed_103 : decode cX10_feed 103 = .ok (.iastore, 1) := dX10_feed_96_b.2.2.2.2.2
set_option maxRecDepth 20000 in
theorem dX10_feed_104_b : (decode cX10_feed 104 = .ok (.aload_n 0, 1)) ∧ (decode cX10_feed 105 = .ok (.dup, 1)) ∧ (decode cX10_feed 106 = .ok (.getfield 181, 3)) ∧ (decode cX10_feed 109 = .ok (.iconst 1, 1)) ∧ (decode cX10_feed 110 = .ok (.iadd, 1)) ∧ (decode cX10_feed 111 = .ok (.putfield 181, 3)) := by decide +kernel
theorem dX10_feed_104 : decode cX10_feed 104 = .ok (.aload_n 0, 1) := dX10_feed_104_b.1
theorem dX10_feed_105 : decode cX10_feed 105 = .ok (.dup, 1) := dX10_feed_104_b.2.1
theorem dX10_feed_106 : decode cX10_feed 106 = .ok (.getfield 181, 3) := dX10_feed_104_b.2.2.1
theorem dX10_feed_109 : decode cX10_feed 109 = .ok (.iconst 1, 1) := dX10_feed_104_b.2.2.2.1
theorem dX10_feed_110 : decode cX10_feed 110 = .ok (.iadd, 1) := dX10_feed_104_b.2.2.2.2.1
theorem dX10_feed_111 : decode cX10_feed 111 = .ok (.putfield 181, 3) := dX10_feed_104_b.2.2.2.2.2
set_option maxRecDepth 20000 in
theorem dX10_feed_114_b : (decode cX10_feed 114 = .ok (.iinc 6 1, 3)) ∧ (decode cX10_feed 117 = .ok (.goto (-94), 3)) ∧ (decode cX10_feed 120 = .ok (.aload_n 0, 1)) ∧ (decode cX10_feed 121 = .ok (.getfield 181, 3)) ∧ (decode cX10_feed 124 = .ok (.ireturn, 1)) := by decide +kernel
theorem dX10_feed_114 : decode cX10_feed 114 = .ok (.iinc 6 1, 3) := dX10_feed_114_b.1
theorem dX10_feed_117 : decode cX10_feed 117 = .ok (.goto (-94), 3) := dX10_feed_114_b.2.1
theorem dX10_feed_120 : decode cX10_feed 120 = .ok (.aload_n 0, 1) := dX10_feed_114_b.2.2.1
theorem dX10_feed_121 : decode cX10_feed 121 = .ok (.getfield 181, 3) := dX10_feed_114_b.2.2.2.1
theorem dX10_feed_124 : decode cX10_feed 124 = .ok (.ireturn, 1) := dX10_feed_114_b.2.2.2.2
set_option maxRecDepth 20000 in
theorem dX10_byteAt_0_b : (decode cX10_byteAt 0 = .ok (.iload_n 1, 1)) ∧ (decode cX10_byteAt 1 = .ok (.aload_n 0, 1)) ∧ (decode cX10_byteAt 2 = .ok (.getfield 184, 3)) ∧ (decode cX10_byteAt 5 = .ok (.if_icmp .ge 12, 3)) := by decide +kernel
theorem dX10_byteAt_0 : decode cX10_byteAt 0 = .ok (.iload_n 1, 1) := dX10_byteAt_0_b.1
theorem dX10_byteAt_1 : decode cX10_byteAt 1 = .ok (.aload_n 0, 1) := dX10_byteAt_0_b.2.1
theorem dX10_byteAt_2 : decode cX10_byteAt 2 = .ok (.getfield 184, 3) := dX10_byteAt_0_b.2.2.1
theorem dX10_byteAt_5 : decode cX10_byteAt 5 = .ok (.if_icmp .ge 12, 3) := dX10_byteAt_0_b.2.2.2
