set_option maxRecDepth 20000 in
theorem dX10_reachOf_151_b : (decode cX10_reachOf 151 = .ok (.iload_n 1, 1)) ∧ (decode cX10_reachOf 152 = .ok (.iaload, 1)) ∧ (decode cX10_reachOf 153 = .ok (.bipush 14, 2)) ∧ (decode cX10_reachOf 155 = .ok (.if_icmp .eq 25, 3)) ∧ (decode cX10_reachOf 158 = .ok (.iload_n 3, 1)) ∧ (decode cX10_reachOf 159 = .ok (.iconst 1, 1)) := by decide +kernel
theorem dX10_reachOf_151 : decode cX10_reachOf 151 = .ok (.iload_n 1, 1) := dX10_reachOf_151_b.1
theorem dX10_reachOf_152 : decode cX10_reachOf 152 = .ok (.iaload, 1) := dX10_reachOf_151_b.2.1
theorem dX10_reachOf_153 : decode cX10_reachOf 153 = .ok (.bipush 14, 2) := dX10_reachOf_151_b.2.2.1
theorem dX10_reachOf_155 : decode cX10_reachOf 155 = .ok (.if_icmp .eq 25, 3) := dX10_reachOf_151_b.2.2.2.1
theorem dX10_reachOf_158 : decode cX10_reachOf 158 = .ok (.iload_n 3, 1) := dX10_reachOf_151_b.2.2.2.2.1
theorem dX10_reachOf_159 : decode cX10_reachOf 159 = .ok (.iconst 1, 1) := dX10_reachOf_151_b.2.2.2.2.2
set_option maxRecDepth 20000 in
theorem dX10_reachOf_160_b : (decode cX10_reachOf 160 = .ok (.aload_n 0, 1)) ∧ (decode cX10_reachOf 161 = .ok (.aload_n 0, 1)) ∧ (decode cX10_reachOf 162 = .ok (.getfield 134, 3)) ∧ (decode cX10_reachOf 165 = .ok (.iload_n 1, 1)) ∧ (decode cX10_reachOf 166 = .ok (.iaload, 1)) ∧ (decode cX10_reachOf 167 = .ok (.bipush 12, 2)) := by decide +kernel
theorem dX10_reachOf_160 : decode cX10_reachOf 160 = .ok (.aload_n 0, 1) := dX10_reachOf_160_b.1
theorem dX10_reachOf_161 : decode cX10_reachOf 161 = .ok (.aload_n 0, 1) := dX10_reachOf_160_b.2.1
theorem dX10_reachOf_162 : decode cX10_reachOf 162 = .ok (.getfield 134, 3) := dX10_reachOf_160_b.2.2.1
theorem dX10_reachOf_165 : decode cX10_reachOf 165 = .ok (.iload_n 1, 1) := dX10_reachOf_160_b.2.2.2.1
theorem dX10_reachOf_166 : decode cX10_reachOf 166 = .ok (.iaload, 1) := dX10_reachOf_160_b.2.2.2.2.1
theorem dX10_reachOf_167 : decode cX10_reachOf 167 = .ok (.bipush 12, 2) := dX10_reachOf_160_b.2.2.2.2.2
set_option maxRecDepth 20000 in
theorem dX10_reachOf_169_b : (decode cX10_reachOf 169 = .ok (.isub, 1)) ∧ (decode cX10_reachOf 170 = .ok (.aload_n 0, 1)) ∧ (decode cX10_reachOf 171 = .ok (.getfield 427, 3)) ∧ (decode cX10_reachOf 174 = .ok (.invokevirtual 352, 3)) ∧ (decode cX10_reachOf 177 = .ok (.ishl, 1)) ∧ (decode cX10_reachOf 178 = .ok (.ior, 1)) := by decide +kernel
theorem dX10_reachOf_169 : decode cX10_reachOf 169 = .ok (.isub, 1) := dX10_reachOf_169_b.1
theorem dX10_reachOf_170 : decode cX10_reachOf 170 = .ok (.aload_n 0, 1) := dX10_reachOf_169_b.2.1
theorem dX10_reachOf_171 : decode cX10_reachOf 171 = .ok (.getfield 427, 3) := dX10_reachOf_169_b.2.2.1
theorem dX10_reachOf_174 : decode cX10_reachOf 174 = .ok (.invokevirtual 352, 3) := dX10_reachOf_169_b.2.2.2.1
theorem dX10_reachOf_177 : decode cX10_reachOf 177 = .ok (.ishl, 1) := dX10_reachOf_169_b.2.2.2.2.1
theorem dX10_reachOf_178 : decode cX10_reachOf 178 = .ok (.ior, 1) := dX10_reachOf_169_b.2.2.2.2.2
set_option maxRecDepth 20000 in
theorem dX10_reachOf_179_b : (decode cX10_reachOf 179 = .ok (.istore_n 3, 1)) ∧ (decode cX10_reachOf 180 = .ok (.iinc 4 1, 3)) ∧ (decode cX10_reachOf 183 = .ok (.goto (-81), 3)) ∧ (decode cX10_reachOf 186 = .ok (.iload_n 3, 1)) ∧ (decode cX10_reachOf 187 = .ok (.ireturn, 1)) := by decide +kernel
theorem dX10_reachOf_179 : decode cX10_reachOf 179 = .ok (.istore_n 3, 1) := dX10_reachOf_179_b.1
theorem dX10_reachOf_180 : decode cX10_reachOf 180 = .ok (.iinc 4 1, 3) := dX10_reachOf_179_b.2.1
theorem dX10_reachOf_183 : decode cX10_reachOf 183 = .ok (.goto (-81), 3) := dX10_reachOf_179_b.2.2.1
theorem dX10_reachOf_186 : decode cX10_reachOf 186 = .ok (.iload_n 3, 1) := dX10_reachOf_179_b.2.2.2.1
theorem dX10_reachOf_187 : decode cX10_reachOf 187 = .ok (.ireturn, 1) := dX10_reachOf_179_b.2.2.2.2
set_option maxRecDepth 20000 in
theorem dX10_reach_0_b : (decode cX10_reach 0 = .ok (.aload_n 0, 1)) ∧ (decode cX10_reach 1 = .ok (.iconst 0, 1)) ∧ (decode cX10_reach 2 = .ok (.putfield 171, 3)) ∧ (decode cX10_reach 5 = .ok (.aload_n 0, 1)) ∧ (decode cX10_reach 6 = .ok (.iload_n 1, 1)) ∧ (decode cX10_reach 7 = .ok (.invokevirtual 349, 3)) := by decide +kernel
theorem dX10_reach_0 : decode cX10_reach 0 = .ok (.aload_n 0, 1) := dX10_reach_0_b.1
theorem dX10_reach_1 : decode cX10_reach 1 = .ok (.iconst 0, 1) := dX10_reach_0_b.2.1
theorem dX10_reach_2 : decode cX10_reach 2 = .ok (.putfield 171, 3) := dX10_reach_0_b.2.2.1
theorem dX10_reach_5 : decode cX10_reach 5 = .ok (.aload_n 0, 1) := dX10_reach_0_b.2.2.2.1
theorem dX10_reach_6 : decode cX10_reach 6 = .ok (.iload_n 1, 1) := dX10_reach_0_b.2.2.2.2.1
theorem dX10_reach_7 : decode cX10_reach 7 = .ok (.invokevirtual 349, 3) := dX10_reach_0_b.2.2.2.2.2
set_option maxRecDepth 20000 in
theorem dX10_reach_10_b : (decode cX10_reach 10 = .ok (.ifCond .eq 12, 3)) ∧ (decode cX10_reach 13 = .ok (.aload_n 0, 1)) ∧ (decode cX10_reach 14 = .ok (.iload_n 1, 1)) ∧ (decode cX10_reach 15 = .ok (.iconst 0, 1)) ∧ (decode cX10_reach 16 = .ok (.invokevirtual 479, 3)) ∧ (decode cX10_reach 19 = .ok (.goto 8, 3)) := by decide +kernel
theorem dX10_reach_10 : decode cX10_reach 10 = .ok (.ifCond .eq 12, 3) := dX10_reach_10_b.1
theorem dX10_reach_13 : decode cX10_reach 13 = .ok (.aload_n 0, 1) := dX10_reach_10_b.2.1
theorem dX10_reach_14 : decode cX10_reach 14 = .ok (.iload_n 1, 1) := dX10_reach_10_b.2.2.1
theorem dX10_reach_15 : decode cX10_reach 15 = .ok (.iconst 0, 1) := dX10_reach_10_b.2.2.2.1
theorem dX10_reach_16 : decode cX10_reach 16 = .ok (.invokevirtual 479, 3) := dX10_reach_10_b.2.2.2.2.1
theorem dX10_reach_19 : decode cX10_reach 19 = .ok (.goto 8, 3) := dX10_reach_10_b.2.2.2.2.2
set_option maxRecDepth 20000 in
theorem dX10_reach_22_b : (decode cX10_reach 22 = .ok (.aload_n 0, 1)) ∧ (decode cX10_reach 23 = .ok (.iconst 1, 1)) ∧ (decode cX10_reach 24 = .ok (.invokevirtual 315, 3)) ∧ (decode cX10_reach 27 = .ok (.ireturn, 1)) := by decide +kernel
theorem dX10_reach_22 : decode cX10_reach 22 = .ok (.aload_n 0, 1) := dX10_reach_22_b.1
theorem dX10_reach_23 : decode cX10_reach 23 = .ok (.iconst 1, 1) := dX10_reach_22_b.2.1
theorem dX10_reach_24 : decode cX10_reach 24 = .ok (.invokevirtual 315, 3) := dX10_reach_22_b.2.2.1
theorem dX10_reach_27 : decode cX10_reach 27 = .ok (.ireturn, 1) := dX10_reach_22_b.2.2.2
set_option maxRecDepth 20000 in
theorem dX10_bitsOf_0_b : (decode cX10_bitsOf 0 = .ok (.iconst 0, 1)) ∧ (decode cX10_bitsOf 1 = .ok (.istore_n 1, 1)) ∧ (decode cX10_bitsOf 2 = .ok (.iload_n 0, 1)) ∧ (decode cX10_bitsOf 3 = .ok (.istore_n 2, 1)) ∧ (decode cX10_bitsOf 4 = .ok (.iload_n 2, 1)) ∧ (decode cX10_bitsOf 5 = .ok (.ifCond .eq 15, 3)) := by decide +kernel
theorem dX10_bitsOf_0 : decode cX10_bitsOf 0 = .ok (.iconst 0, 1) := dX10_bitsOf_0_b.1
theorem dX10_bitsOf_1 : decode cX10_bitsOf 1 = .ok (.istore_n 1, 1) := dX10_bitsOf_0_b.2.1
theorem dX10_bitsOf_2 : decode cX10_bitsOf 2 = .ok (.iload_n 0, 1) := dX10_bitsOf_0_b.2.2.1
theorem dX10_bitsOf_3 : decode cX10_bitsOf 3 = .ok (.istore_n 2, 1) := dX10_bitsOf_0_b.2.2.2.1
theorem dX10_bitsOf_4 : decode cX10_bitsOf 4 = .ok (.iload_n 2, 1) := dX10_bitsOf_0_b.2.2.2.2.1
theorem dX10_bitsOf_5 : decode cX10_bitsOf 5 = .ok (.ifCond .eq 15, 3) := dX10_bitsOf_0_b.2.2.2.2.2
set_option maxRecDepth 20000 in
theorem dX10_bitsOf_8_b : (decode cX10_bitsOf 8 = .ok (.iinc 1 1, 3)) ∧ (decode cX10_bitsOf 11 = .ok (.iload_n 2, 1)) ∧ (decode cX10_bitsOf 12 = .ok (.iload_n 2, 1)) ∧ (decode cX10_bitsOf 13 = .ok (.iconst 1, 1)) ∧ (decode cX10_bitsOf 14 = .ok (.isub, 1)) ∧ (decode cX10_bitsOf 15 = .ok (.iand, 1)) := by decide +kernel
theorem dX10_bitsOf_8 : decode cX10_bitsOf 8 = .ok (.iinc 1 1, 3) := dX10_bitsOf_8_b.1
theorem dX10_bitsOf_11 : decode cX10_bitsOf 11 = .ok (.iload_n 2, 1) := dX10_bitsOf_8_b.2.1
theorem dX10_bitsOf_12 : decode cX10_bitsOf 12 = .ok (.iload_n 2, 1) := dX10_bitsOf_8_b.2.2.1
theorem dX10_bitsOf_13 : decode cX10_bitsOf 13 = .ok (.iconst 1, 1) := dX10_bitsOf_8_b.2.2.2.1
theorem dX10_bitsOf_14 : decode cX10_bitsOf 14 = .ok (.isub, 1) := dX10_bitsOf_8_b.2.2.2.2.1
theorem dX10_bitsOf_15 : decode cX10_bitsOf 15 = .ok (.iand, 1) := dX10_bitsOf_8_b.2.2.2.2.2
set_option maxRecDepth 20000 in
theorem dX10_bitsOf_16_b : (decode cX10_bitsOf 16 = .ok (.istore_n 2, 1)) ∧ (decode cX10_bitsOf 17 = .ok (.goto (-13), 3)) ∧ (decode cX10_bitsOf 20 = .ok (.iload_n 1, 1)) ∧ (decode cX10_bitsOf 21 = .ok (.ireturn, 1)) := by decide +kernel
theorem dX10_bitsOf_16 : decode cX10_bitsOf 16 = .ok (.istore_n 2, 1) := dX10_bitsOf_16_b.1
theorem dX10_bitsOf_17 : decode cX10_bitsOf 17 = .ok (.goto (-13), 3) := dX10_bitsOf_16_b.2.1
theorem dX10_bitsOf_20 : decode cX10_bitsOf 20 = .ok (.iload_n 1, 1) := dX10_bitsOf_16_b.2.2.1
theorem dX10_bitsOf_21 : decode cX10_bitsOf 21 = .ok (.ireturn, 1) := dX10_bitsOf_16_b.2.2.2
set_option maxRecDepth 20000 in
theorem dX10_bars_0_b : (decode cX10_bars 0 = .ok (.aload_n 0, 1)) ∧ (decode cX10_bars 1 = .ok (.iconst 0, 1)) ∧ (decode cX10_bars 2 = .ok (.putfield 171, 3)) ∧ (decode cX10_bars 5 = .ok (.aload_n 0, 1)) ∧ (decode cX10_bars 6 = .ok (.iload_n 1, 1)) ∧ (decode cX10_bars 7 = .ok (.invokevirtual 349, 3)) := by decide +kernel
theorem dX10_bars_0 : decode cX10_bars 0 = .ok (.aload_n 0, 1) := dX10_bars_0_b.1
theorem dX10_bars_1 : decode cX10_bars 1 = .ok (.iconst 0, 1) := dX10_bars_0_b.2.1
theorem dX10_bars_2 : decode cX10_bars 2 = .ok (.putfield 171, 3) := dX10_bars_0_b.2.2.1
theorem dX10_bars_5 : decode cX10_bars 5 = .ok (.aload_n 0, 1) := dX10_bars_0_b.2.2.2.1
theorem dX10_bars_6 : decode cX10_bars 6 = .ok (.iload_n 1, 1) := dX10_bars_0_b.2.2.2.2.1
theorem dX10_bars_7 : decode cX10_bars 7 = .ok (.invokevirtual 349, 3) := dX10_bars_0_b.2.2.2.2.2
set_option maxRecDepth 20000 in
theorem dX10_bars_10_b : (decode cX10_bars 10 = .ok (.ifCond .eq 15, 3)) ∧ (decode cX10_bars 13 = .ok (.iload_n 2, 1)) ∧ (decode cX10_bars 14 = .ok (.iconst 0, 1)) ∧ (decode cX10_bars 15 = .ok (.aload_n 0, 1)) ∧ (decode cX10_bars 16 = .ok (.invokevirtual 346, 3)) ∧ (decode cX10_bars 19 = .ok (.invokestatic 177, 3)) := by decide +kernel
theorem dX10_bars_10 : decode cX10_bars 10 = .ok (.ifCond .eq 15, 3) := dX10_bars_10_b.1
theorem dX10_bars_13 : decode cX10_bars 13 = .ok (.iload_n 2, 1) := dX10_bars_10_b.2.1
theorem dX10_bars_14 : decode cX10_bars 14 = .ok (.iconst 0, 1) := dX10_bars_10_b.2.2.1
theorem dX10_bars_15 : decode cX10_bars 15 = .ok (.aload_n 0, 1) := dX10_bars_10_b.2.2.2.1
theorem dX10_bars_16 : decode cX10_bars 16 = .ok (.invokevirtual 346, 3) := dX10_bars_10_b.2.2.2.2.1
theorem dX10_bars_19 : decode cX10_bars 19 = .ok (.invokestatic 177, 3) := dX10_bars_10_b.2.2.2.2.2
set_option maxRecDepth 20000 in
theorem dX10_bars_22_b : (decode cX10_bars 22 = .ok (.ifCond .ne 9, 3)) ∧ (decode cX10_bars 25 = .ok (.aload_n 0, 1)) ∧ (decode cX10_bars 26 = .ok (.iconst 1, 1)) ∧ (decode cX10_bars 27 = .ok (.invokevirtual 315, 3)) ∧ (decode cX10_bars 30 = .ok (.ireturn, 1)) ∧ (decode cX10_bars 31 = .ok (.iconst 0, 1)) := by decide +kernel
theorem dX10_bars_22 : decode cX10_bars 22 = .ok (.ifCond .ne 9, 3) := dX10_bars_22_b.1
theorem dX10_bars_25 : decode cX10_bars 25 = .ok (.aload_n 0, 1) := dX10_bars_22_b.2.1
theorem dX10_bars_26 : decode cX10_bars 26 = .ok (.iconst 1, 1) := dX10_bars_22_b.2.2.1
theorem dX10_bars_27 : decode cX10_bars 27 = .ok (.invokevirtual 315, 3) := dX10_bars_22_b.2.2.2.1
theorem dX10_bars_30 : decode cX10_bars 30 = .ok (.ireturn, 1) := dX10_bars_22_b.2.2.2.2.1
theorem dX10_bars_31 : decode cX10_bars 31 = .ok (.iconst 0, 1) := dX10_bars_22_b.2.2.2.2.2
set_option maxRecDepth 20000 in
theorem dX10_bars_32_b : (decode cX10_bars 32 = .ok (.istore_n 3, 1)) ∧ (decode cX10_bars 33 = .ok (.iload_n 3, 1)) ∧ (decode cX10_bars 34 = .ok (.aload_n 0, 1)) ∧ (decode cX10_bars 35 = .ok (.getfield 174, 3)) ∧ (decode cX10_bars 38 = .ok (.if_icmp .ge 82, 3)) ∧ (decode cX10_bars 41 = .ok (.iconst 0, 1)) := by decide +kernel
theorem dX10_bars_32 : decode cX10_bars 32 = .ok (.istore_n 3, 1) := dX10_bars_32_b.1
theorem dX10_bars_33 : decode cX10_bars 33 = .ok (.iload_n 3, 1) := dX10_bars_32_b.2.1
theorem dX10_bars_34 : decode cX10_bars 34 = .ok (.aload_n 0, 1) := dX10_bars_32_b.2.2.1
theorem dX10_bars_35 : decode cX10_bars 35 = .ok (.getfield 174, 3) := dX10_bars_32_b.2.2.2.1
theorem dX10_bars_38 : decode cX10_bars 38 = .ok (.if_icmp .ge 82, 3) := dX10_bars_32_b.2.2.2.2.1
theorem dX10_bars_41 : decode cX10_bars 41 = .ok (.iconst 0, 1) := dX10_bars_32_b.2.2.2.2.2
set_option maxRecDepth 20000 in
theorem dX10_bars_42_b : (decode cX10_bars 42 = .ok (.istore 4, 2)) ∧ (decode cX10_bars 44 = .ok (.iload 4, 2)) ∧ (decode cX10_bars 46 = .ok (.iconst 1, 1)) ∧ (decode cX10_bars 47 = .ok (.aload_n 0, 1)) ∧ (decode cX10_bars 48 = .ok (.getfield 174, 3)) ∧ (decode cX10_bars 51 = .ok (.ishl, 1)) := by decide +kernel
theorem dX10_bars_42 : decode cX10_bars 42 = .ok (.istore 4, 2) := dX10_bars_42_b.1
theorem dX10_bars_44 : decode cX10_bars 44 = .ok (.iload 4, 2) := dX10_bars_42_b.2.1
theorem dX10_bars_46 : decode cX10_bars 46 = .ok (.iconst 1, 1) := dX10_bars_42_b.2.2.1
theorem dX10_bars_47 : decode cX10_bars 47 = .ok (.aload_n 0, 1) := dX10_bars_42_b.2.2.2.1
theorem dX10_bars_48 : decode cX10_bars 48 = .ok (.getfield 174, 3) := dX10_bars_42_b.2.2.2.2.1
theorem dX10_bars_51 : decode cX10_bars 51 = .ok (.ishl, 1) := dX10_bars_42_b.2.2.2.2.2
set_option maxRecDepth 20000 in
theorem dX10_bars_52_b : (decode cX10_bars 52 = .ok (.if_icmp .ge 62, 3)) ∧ (decode cX10_bars 55 = .ok (.iload 4, 2)) ∧ (decode cX10_bars 57 = .ok (.invokestatic 482, 3)) ∧ (decode cX10_bars 60 = .ok (.iload_n 3, 1)) ∧ (decode cX10_bars 61 = .ok (.if_icmp .ne 47, 3)) ∧ (decode cX10_bars 64 = .ok (.iload 4, 2)) := by decide +kernel
theorem dX10_bars_52 : decode cX10_bars 52 = .ok (.if_icmp .ge 62, 3) := dX10_bars_52_b.1
theorem dX10_bars_55 : decode cX10_bars 55 = .ok (.iload 4, 2) := dX10_bars_52_b.2.1
theorem dX10_bars_57 : decode cX10_bars 57 = .ok (.invokestatic 482, 3) := dX10_bars_52_b.2.2.1
theorem dX10_bars_60 : decode cX10_bars 60 = .ok (.iload_n 3, 1) := dX10_bars_52_b.2.2.2.1
theorem dX10_bars_61 : decode cX10_bars 61 = .ok (.if_icmp .ne 47, 3) := dX10_bars_52_b.2.2.2.2.1
theorem dX10_bars_64 : decode cX10_bars 64 = .ok (.iload 4, 2) := dX10_bars_52_b.2.2.2.2.2
set_option maxRecDepth 20000 in
theorem dX10_bars_66_b : (decode cX10_bars 66 = .ok (.iload_n 1, 1)) ∧ (decode cX10_bars 67 = .ok (.ishr, 1)) ∧ (decode cX10_bars 68 = .ok (.iconst 1, 1)) ∧ (decode cX10_bars 69 = .ok (.iand, 1)) ∧ (decode cX10_bars 70 = .ok (.iconst 1, 1)) ∧ (decode cX10_bars 71 = .ok (.if_icmp .ne 6, 3)) := by decide +kernel
theorem dX10_bars_66 : decode cX10_bars 66 = .ok (.iload_n 1, 1) := dX10_bars_66_b.1
theorem dX10_bars_67 : decode cX10_bars 67 = .ok (.ishr, 1) := dX10_bars_66_b.2.1
theorem dX10_bars_68 : decode cX10_bars 68 = .ok (.iconst 1, 1) := dX10_bars_66_b.2.2.1
theorem dX10_bars_69 : decode cX10_bars 69 = .ok (.iand, 1) := dX10_bars_66_b.2.2.2.1
theorem dX10_bars_70 : decode cX10_bars 70 = .ok (.iconst 1, 1) := dX10_bars_66_b.2.2.2.2.1
theorem dX10_bars_71 : decode cX10_bars 71 = .ok (.if_icmp .ne 6, 3) := dX10_bars_66_b.2.2.2.2.2
set_option maxRecDepth 20000 in
theorem dX10_bars_74_b : (decode cX10_bars 74 = .ok (.goto 34, 3)) ∧ (decode cX10_bars 77 = .ok (.aload_n 0, 1)) ∧ (decode cX10_bars 78 = .ok (.iload_n 1, 1)) ∧ (decode cX10_bars 79 = .ok (.iload 4, 2)) ∧ (decode cX10_bars 81 = .ok (.invokevirtual 479, 3)) ∧ (decode cX10_bars 84 = .ok (.istore 5, 2)) := by decide +kernel
theorem dX10_bars_74 : decode cX10_bars 74 = .ok (.goto 34, 3) := dX10_bars_74_b.1
theorem dX10_bars_77 : decode cX10_bars 77 = .ok (.aload_n 0, 1) := dX10_bars_74_b.2.1
theorem dX10_bars_78 : decode cX10_bars 78 = .ok (.iload_n 1, 1) := dX10_bars_74_b.2.2.1
theorem dX10_bars_79 : decode cX10_bars 79 = .ok (.iload 4, 2) := dX10_bars_74_b.2.2.2.1
theorem dX10_bars_81 : decode cX10_bars 81 = .ok (.invokevirtual 479, 3) := dX10_bars_74_b.2.2.2.2.1
theorem dX10_bars_84 : decode cX10_bars 84 = .ok (.istore 5, 2) := dX10_bars_74_b.2.2.2.2.2
set_option maxRecDepth 20000 in
theorem dX10_bars_86_b : (decode cX10_bars 86 = .ok (.iload 5, 2)) ∧ (decode cX10_bars 88 = .ok (.bipush (-2), 2)) ∧ (decode cX10_bars 90 = .ok (.if_icmp .ne 6, 3)) ∧ (decode cX10_bars 93 = .ok (.bipush (-2), 2)) ∧ (decode cX10_bars 95 = .ok (.ireturn, 1)) ∧ (decode cX10_bars 96 = .ok (.iload 5, 2)) := by decide +kernel
theorem dX10_bars_86 : decode cX10_bars 86 = .ok (.iload 5, 2) := dX10_bars_86_b.1
theorem dX10_bars_88 : decode cX10_bars 88 = .ok (.bipush (-2), 2) := dX10_bars_86_b.2.1
theorem dX10_bars_90 : decode cX10_bars 90 = .ok (.if_icmp .ne 6, 3) := dX10_bars_86_b.2.2.1
theorem dX10_bars_93 : decode cX10_bars 93 = .ok (.bipush (-2), 2) := dX10_bars_86_b.2.2.2.1
theorem dX10_bars_95 : decode cX10_bars 95 = .ok (.ireturn, 1) := dX10_bars_86_b.2.2.2.2.1
theorem dX10_bars_96 : decode cX10_bars 96 = .ok (.iload 5, 2) := dX10_bars_86_b.2.2.2.2.2
set_option maxRecDepth 20000 in
theorem dX10_bars_98_b : (decode cX10_bars 98 = .ok (.iload_n 2, 1)) ∧ (decode cX10_bars 99 = .ok (.ishr, 1)) ∧ (decode cX10_bars 100 = .ok (.iconst 1, 1)) ∧ (decode cX10_bars 101 = .ok (.iand, 1)) ∧ (decode cX10_bars 102 = .ok (.ifCond .ne 6, 3)) ∧ (decode cX10_bars 105 = .ok (.iload 4, 2)) := by decide +kernel
theorem dX10_bars_98 : decode cX10_bars 98 = .ok (.iload_n 2, 1) := dX10_bars_98_b.1
theorem dX10_bars_99 : decode cX10_bars 99 = .ok (.ishr, 1) := dX10_bars_98_b.2.1
theorem dX10_bars_100 : decode cX10_bars 100 = .ok (.iconst 1, 1) := dX10_bars_98_b.2.2.1
theorem dX10_bars_101 : decode cX10_bars 101 = .ok (.iand, 1) := dX10_bars_98_b.2.2.2.1
theorem dX10_bars_102 : decode cX10_bars 102 = .ok (.ifCond .ne 6, 3) := dX10_bars_98_b.2.2.2.2.1
theorem dX10_bars_105 : decode cX10_bars 105 = .ok (.iload 4, 2) := dX10_bars_98_b.2.2.2.2.2
set_option maxRecDepth 20000 in
theorem dX10_bars_107_b : (decode cX10_bars 107 = .ok (.ireturn, 1)) ∧ (decode cX10_bars 108 = .ok (.iinc 4 1, 3)) ∧ (decode cX10_bars 111 = .ok (.goto (-67), 3)) ∧ (decode cX10_bars 114 = .ok (.iinc 3 1, 3)) ∧ (decode cX10_bars 117 = .ok (.goto (-84), 3)) ∧ (decode cX10_bars 120 = .ok (.iconst (-1), 1)) := by decide +kernel
theorem dX10_bars_107 : decode cX10_bars 107 = .ok (.ireturn, 1) := dX10_bars_107_b.1
theorem dX10_bars_108 : decode cX10_bars 108 = .ok (.iinc 4 1, 3) := dX10_bars_107_b.2.1
theorem dX10_bars_111 : decode cX10_bars 111 = .ok (.goto (-67), 3) := dX10_bars_107_b.2.2.1
theorem dX10_bars_114 : decode cX10_bars 114 = .ok (.iinc 3 1, 3) := dX10_bars_107_b.2.2.2.1
theorem dX10_bars_117 : decode cX10_bars 117 = .ok (.goto (-84), 3) := dX10_bars_107_b.2.2.2.2.1
theorem dX10_bars_120 : decode cX10_bars 120 = .ok (.iconst (-1), 1) := dX10_bars_107_b.2.2.2.2.2
theorem dX10_bars_121 : decode cX10_bars 121 = .ok (.ireturn, 1) := by decide +kernel
set_option maxRecDepth 20000 in
theorem dX10_day_0_b : (decode cX10_day 0 = .ok (.aload_n 0, 1)) ∧ (decode cX10_day 1 = .ok (.iconst 0, 1)) ∧ (decode cX10_day 2 = .ok (.putfield 171, 3)) ∧ (decode cX10_day 5 = .ok (.aload_n 0, 1)) ∧ (decode cX10_day 6 = .ok (.getfield 336, 3)) ∧ (decode cX10_day 9 = .ok (.bipush 6, 2)) := by decide +kernel
theorem dX10_day_0 : decode cX10_day 0 = .ok (.aload_n 0, 1) := dX10_day_0_b.1
theorem dX10_day_1 : decode cX10_day 1 = .ok (.iconst 0, 1) := dX10_day_0_b.2.1
theorem dX10_day_2 : decode cX10_day 2 = .ok (.putfield 171, 3) := dX10_day_0_b.2.2.1
theorem dX10_day_5 : decode cX10_day 5 = .ok (.aload_n 0, 1) := dX10_day_0_b.2.2.2.1
theorem dX10_day_6 : decode cX10_day 6 = .ok (.getfield 336, 3) := dX10_day_0_b.2.2.2.2.1
theorem dX10_day_9 : decode cX10_day 9 = .ok (.bipush 6, 2) := dX10_day_0_b.2.2.2.2.2
set_option maxRecDepth 20000 in
theorem dX10_day_11_b : (decode cX10_day 11 = .ok (.if_icmp .ge 23, 3)) ∧ (decode cX10_day 14 = .ok (.iload_n 1, 1)) ∧ (decode cX10_day 15 = .ok (.iconst 0, 1)) ∧ (decode cX10_day 16 = .ok (.iconst 1, 1)) ∧ (decode cX10_day 17 = .ok (.aload_n 0, 1)) ∧ (decode cX10_day 18 = .ok (.getfield 174, 3)) := by decide +kernel
theorem dX10_day_11 : decode cX10_day 11 = .ok (.if_icmp .ge 23, 3) := dX10_day_11_b.1
theorem dX10_day_14 : decode cX10_day 14 = .ok (.iload_n 1, 1) := dX10_day_11_b.2.1
theorem dX10_day_15 : decode cX10_day 15 = .ok (.iconst 0, 1) := dX10_day_11_b.2.2.1
theorem dX10_day_16 : decode cX10_day 16 = .ok (.iconst 1, 1) := dX10_day_11_b.2.2.2.1
theorem dX10_day_17 : decode cX10_day 17 = .ok (.aload_n 0, 1) := dX10_day_11_b.2.2.2.2.1
theorem dX10_day_18 : decode cX10_day 18 = .ok (.getfield 174, 3) := dX10_day_11_b.2.2.2.2.2
set_option maxRecDepth 20000 in
theorem dX10_day_21_b : (decode cX10_day 21 = .ok (.ishl, 1)) ∧ (decode cX10_day 22 = .ok (.iconst 1, 1)) ∧ (decode cX10_day 23 = .ok (.isub, 1)) ∧ (decode cX10_day 24 = .ok (.invokestatic 177, 3)) ∧ (decode cX10_day 27 = .ok (.ifCond .eq 7, 3)) ∧ (decode cX10_day 30 = .ok (.iconst 1, 1)) := by decide +kernel
theorem dX10_day_21 : decode cX10_day 21 = .ok (.ishl, 1) := dX10_day_21_b.1
theorem dX10_day_22 : decode cX10_day 22 = .ok (.iconst 1, 1) := dX10_day_21_b.2.1
theorem dX10_day_23 : decode cX10_day 23 = .ok (.isub, 1) := dX10_day_21_b.2.2.1
theorem dX10_day_24 : decode cX10_day 24 = .ok (.invokestatic 177, 3) := dX10_day_21_b.2.2.2.1
theorem dX10_day_27 : decode cX10_day 27 = .ok (.ifCond .eq 7, 3) := dX10_day_21_b.2.2.2.2.1
theorem dX10_day_30 : decode cX10_day 30 = .ok (.iconst 1, 1) := dX10_day_21_b.2.2.2.2.2
set_option maxRecDepth 20000 in
theorem dX10_day_31_b : (decode cX10_day 31 = .ok (.goto 4, 3)) ∧ (decode cX10_day 34 = .ok (.iconst 0, 1)) ∧ (decode cX10_day 35 = .ok (.istore_n 2, 1)) ∧ (decode cX10_day 36 = .ok (.iconst 0, 1)) ∧ (decode cX10_day 37 = .ok (.istore_n 3, 1)) ∧ (decode cX10_day 38 = .ok (.iload_n 3, 1)) := by decide +kernel
theorem dX10_day_31 : decode cX10_day 31 = .ok (.goto 4, 3) := dX10_day_31_b.1
theorem dX10_day_34 : decode cX10_day 34 = .ok (.iconst 0, 1) := dX10_day_31_b.2.1
theorem dX10_day_35 : decode cX10_day 35 = .ok (.istore_n 2, 1) := dX10_day_31_b.2.2.1
theorem dX10_day_36 : decode cX10_day 36 = .ok (.iconst 0, 1) := dX10_day_31_b.2.2.2.1
theorem dX10_day_37 : decode cX10_day 37 = .ok (.istore_n 3, 1) := dX10_day_31_b.2.2.2.2.1
theorem dX10_day_38 : decode cX10_day 38 = .ok (.iload_n 3, 1) := dX10_day_31_b.2.2.2.2.2
set_option maxRecDepth 20000 in
theorem dX10_day_39_b : (decode cX10_day 39 = .ok (.aload_n 0, 1)) ∧ (decode cX10_day 40 = .ok (.getfield 174, 3)) ∧ (decode cX10_day 43 = .ok (.if_icmp .ge 37, 3)) ∧ (decode cX10_day 46 = .ok (.iload_n 2, 1)) ∧ (decode cX10_day 47 = .ok (.ifCond .eq 33, 3)) ∧ (decode cX10_day 50 = .ok (.iload_n 1, 1)) := by decide +kernel
theorem dX10_day_39 : decode cX10_day 39 = .ok (.aload_n 0, 1) := dX10_day_39_b.1
theorem dX10_day_40 : decode cX10_day 40 = .ok (.getfield 174, 3) := dX10_day_39_b.2.1
theorem dX10_day_43 : decode cX10_day 43 = .ok (.if_icmp .ge 37, 3) := dX10_day_39_b.2.2.1
theorem dX10_day_46 : decode cX10_day 46 = .ok (.iload_n 2, 1) := dX10_day_39_b.2.2.2.1
theorem dX10_day_47 : decode cX10_day 47 = .ok (.ifCond .eq 33, 3) := dX10_day_39_b.2.2.2.2.1
theorem dX10_day_50 : decode cX10_day 50 = .ok (.iload_n 1, 1) := dX10_day_39_b.2.2.2.2.2
set_option maxRecDepth 20000 in
theorem dX10_day_51_b : (decode cX10_day 51 = .ok (.iload_n 3, 1)) ∧ (decode cX10_day 52 = .ok (.ishr, 1)) ∧ (decode cX10_day 53 = .ok (.iconst 1, 1)) ∧ (decode cX10_day 54 = .ok (.iand, 1)) ∧ (decode cX10_day 55 = .ok (.ifCond .eq 13, 3)) ∧ (decode cX10_day 58 = .ok (.aload_n 0, 1)) := by decide +kernel
theorem dX10_day_51 : decode cX10_day 51 = .ok (.iload_n 3, 1) := dX10_day_51_b.1
theorem dX10_day_52 : decode cX10_day 52 = .ok (.ishr, 1) := dX10_day_51_b.2.1
theorem dX10_day_53 : decode cX10_day 53 = .ok (.iconst 1, 1) := dX10_day_51_b.2.2.1
theorem dX10_day_54 : decode cX10_day 54 = .ok (.iand, 1) := dX10_day_51_b.2.2.2.1
theorem dX10_day_55 : decode cX10_day 55 = .ok (.ifCond .eq 13, 3) := dX10_day_51_b.2.2.2.2.1
theorem dX10_day_58 : decode cX10_day 58 = .ok (.aload_n 0, 1) := dX10_day_51_b.2.2.2.2.2
set_option maxRecDepth 20000 in
theorem dX10_day_59_b : (decode cX10_day 59 = .ok (.getfield 65, 3)) ∧ (decode cX10_day 62 = .ok (.iload_n 3, 1)) ∧ (decode cX10_day 63 = .ok (.iaload, 1)) ∧ (decode cX10_day 64 = .ok (.iconst (-1), 1)) ∧ (decode cX10_day 65 = .ok (.if_icmp .eq 7, 3)) ∧ (decode cX10_day 68 = .ok (.iconst 1, 1)) := by decide +kernel
theorem dX10_day_59 : decode cX10_day 59 = .ok (.getfield 65, 3) := dX10_day_59_b.1
theorem dX10_day_62 : decode cX10_day 62 = .ok (.iload_n 3, 1) := dX10_day_59_b.2.1
theorem dX10_day_63 : decode cX10_day 63 = .ok (.iaload, 1) := dX10_day_59_b.2.2.1
theorem dX10_day_64 : decode cX10_day 64 = .ok (.iconst (-1), 1) := dX10_day_59_b.2.2.2.1
theorem dX10_day_65 : decode cX10_day 65 = .ok (.if_icmp .eq 7, 3) := dX10_day_59_b.2.2.2.2.1
theorem dX10_day_68 : decode cX10_day 68 = .ok (.iconst 1, 1) := dX10_day_59_b.2.2.2.2.2
set_option maxRecDepth 20000 in
theorem dX10_day_69_b : (decode cX10_day 69 = .ok (.goto 4, 3)) ∧ (decode cX10_day 72 = .ok (.iconst 0, 1)) ∧ (decode cX10_day 73 = .ok (.istore_n 2, 1)) ∧ (decode cX10_day 74 = .ok (.iinc 3 1, 3)) ∧ (decode cX10_day 77 = .ok (.goto (-39), 3)) ∧ (decode cX10_day 80 = .ok (.iload_n 2, 1)) := by decide +kernel
theorem dX10_day_69 : decode cX10_day 69 = .ok (.goto 4, 3) := dX10_day_69_b.1
theorem dX10_day_72 : decode cX10_day 72 = .ok (.iconst 0, 1) := dX10_day_69_b.2.1
theorem dX10_day_73 : decode cX10_day 73 = .ok (.istore_n 2, 1) := dX10_day_69_b.2.2.1
theorem dX10_day_74 : decode cX10_day 74 = .ok (.iinc 3 1, 3) := dX10_day_69_b.2.2.2.1
theorem dX10_day_77 : decode cX10_day 77 = .ok (.goto (-39), 3) := dX10_day_69_b.2.2.2.2.1
theorem dX10_day_80 : decode cX10_day 80 = .ok (.iload_n 2, 1) := dX10_day_69_b.2.2.2.2.2
set_option maxRecDepth 20000 in
theorem dX10_day_81_b : (decode cX10_day 81 = .ok (.ifCond .ne 15, 3)) ∧ (decode cX10_day 84 = .ok (.aload_n 0, 1)) ∧ (decode cX10_day 85 = .ok (.getfield 77, 3)) ∧ (decode cX10_day 88 = .ok (.iconst 2, 1)) ∧ (decode cX10_day 89 = .ok (.dup2, 1)) ∧ (decode cX10_day 90 = .ok (.iaload, 1)) := by decide +kernel
theorem dX10_day_81 : decode cX10_day 81 = .ok (.ifCond .ne 15, 3) := dX10_day_81_b.1
theorem dX10_day_84 : decode cX10_day 84 = .ok (.aload_n 0, 1) := dX10_day_81_b.2.1
theorem dX10_day_85 : decode cX10_day 85 = .ok (.getfield 77, 3) := dX10_day_81_b.2.2.1
theorem dX10_day_88 : decode cX10_day 88 = .ok (.iconst 2, 1) := dX10_day_81_b.2.2.2.1
theorem dX10_day_89 : decode cX10_day 89 = .ok (.dup2, 1) := dX10_day_81_b.2.2.2.2.1
theorem dX10_day_90 : decode cX10_day 90 = .ok (.iaload, 1) := dX10_day_81_b.2.2.2.2.2
set_option maxRecDepth 20000 in
theorem dX10_day_91_b : (decode cX10_day 91 = .ok (.iconst 1, 1)) ∧ (decode cX10_day 92 = .ok (.iadd, 1)) ∧ (decode cX10_day 93 = .ok (.iastore, 1)) ∧ (decode cX10_day 94 = .ok (.iconst (-1), 1)) ∧ (decode cX10_day 95 = .ok (.ireturn, 1)) ∧ (decode cX10_day 96 = .ok (.aload_n 0, 1)) := by decide +kernel
theorem dX10_day_91 : decode cX10_day 91 = .ok (.iconst 1, 1) := dX10_day_91_b.1
theorem dX10_day_92 : decode cX10_day 92 = .ok (.iadd, 1) := dX10_day_91_b.2.1
theorem dX10_day_93 : decode cX10_day 93 = .ok (.iastore, 1) := dX10_day_91_b.2.2.1
theorem dX10_day_94 : decode cX10_day 94 = .ok (.iconst (-1), 1) := dX10_day_91_b.2.2.2.1
theorem dX10_day_95 : decode cX10_day 95 = .ok (.ireturn, 1) := dX10_day_91_b.2.2.2.2.1
theorem dX10_day_96 : decode cX10_day 96 = .ok (.aload_n 0, 1) := dX10_day_91_b.2.2.2.2.2
set_option maxRecDepth 20000 in
theorem dX10_day_97_b : (decode cX10_day 97 = .ok (.getfield 90, 3)) ∧ (decode cX10_day 100 = .ok (.aload_n 0, 1)) ∧ (decode cX10_day 101 = .ok (.getfield 336, 3)) ∧ (decode cX10_day 104 = .ok (.iload_n 1, 1)) ∧ (decode cX10_day 105 = .ok (.iastore, 1)) ∧ (decode cX10_day 106 = .ok (.aload_n 0, 1)) := by decide +kernel
theorem dX10_day_97 : decode cX10_day 97 = .ok (.getfield 90, 3) := dX10_day_97_b.1
theorem dX10_day_100 : decode cX10_day 100 = .ok (.aload_n 0, 1) := dX10_day_97_b.2.1
theorem dX10_day_101 : decode cX10_day 101 = .ok (.getfield 336, 3) := dX10_day_97_b.2.2.1
theorem dX10_day_104 : decode cX10_day 104 = .ok (.iload_n 1, 1) := dX10_day_97_b.2.2.2.1
theorem dX10_day_105 : decode cX10_day 105 = .ok (.iastore, 1) := dX10_day_97_b.2.2.2.2.1
theorem dX10_day_106 : decode cX10_day 106 = .ok (.aload_n 0, 1) := dX10_day_97_b.2.2.2.2.2
set_option maxRecDepth 20000 in
theorem dX10_day_107_b : (decode cX10_day 107 = .ok (.dup, 1)) ∧ (decode cX10_day 108 = .ok (.getfield 336, 3)) ∧ (decode cX10_day 111 = .ok (.iconst 1, 1)) ∧ (decode cX10_day 112 = .ok (.iadd, 1)) ∧ (decode cX10_day 113 = .ok (.putfield 336, 3)) ∧ (decode cX10_day 116 = .ok (.aload_n 0, 1)) := by decide +kernel
theorem dX10_day_107 : decode cX10_day 107 = .ok (.dup, 1) := dX10_day_107_b.1
theorem dX10_day_108 : decode cX10_day 108 = .ok (.getfield 336, 3) := dX10_day_107_b.2.1
theorem dX10_day_111 : decode cX10_day 111 = .ok (.iconst 1, 1) := dX10_day_107_b.2.2.1
theorem dX10_day_112 : decode cX10_day 112 = .ok (.iadd, 1) := dX10_day_107_b.2.2.2.1
theorem dX10_day_113 : decode cX10_day 113 = .ok (.putfield 336, 3) := dX10_day_107_b.2.2.2.2.1
theorem dX10_day_116 : decode cX10_day 116 = .ok (.aload_n 0, 1) := dX10_day_107_b.2.2.2.2.2
set_option maxRecDepth 20000 in
theorem dX10_day_117_b : (decode cX10_day 117 = .ok (.getfield 336, 3)) ∧ (decode cX10_day 120 = .ok (.ireturn, 1)) := by decide +kernel
theorem dX10_day_117 : decode cX10_day 117 = .ok (.getfield 336, 3) := dX10_day_117_b.1
theorem dX10_day_120 : decode cX10_day 120 = .ok (.ireturn, 1) := dX10_day_117_b.2
set_option maxRecDepth 20000 in
theorem dX10_stonesOf_0_b : (decode cX10_stonesOf 0 = .ok (.iconst 0, 1)) ∧ (decode cX10_stonesOf 1 = .ok (.istore_n 1, 1)) ∧ (decode cX10_stonesOf 2 = .ok (.iconst 0, 1)) ∧ (decode cX10_stonesOf 3 = .ok (.istore_n 2, 1)) ∧ (decode cX10_stonesOf 4 = .ok (.iload_n 2, 1)) ∧ (decode cX10_stonesOf 5 = .ok (.aload_n 0, 1)) := by decide +kernel
theorem dX10_stonesOf_0 : decode cX10_stonesOf 0 = .ok (.iconst 0, 1) := dX10_stonesOf_0_b.1
theorem dX10_stonesOf_1 : decode cX10_stonesOf 1 = .ok (.istore_n 1, 1) := dX10_stonesOf_0_b.2.1
theorem dX10_stonesOf_2 : decode cX10_stonesOf 2 = .ok (.iconst 0, 1) := dX10_stonesOf_0_b.2.2.1
theorem dX10_stonesOf_3 : decode cX10_stonesOf 3 = .ok (.istore_n 2, 1) := dX10_stonesOf_0_b.2.2.2.1
theorem dX10_stonesOf_4 : decode cX10_stonesOf 4 = .ok (.iload_n 2, 1) := dX10_stonesOf_0_b.2.2.2.2.1
theorem dX10_stonesOf_5 : decode cX10_stonesOf 5 = .ok (.aload_n 0, 1) := dX10_stonesOf_0_b.2.2.2.2.2
set_option maxRecDepth 20000 in
theorem dX10_stonesOf_6_b : (decode cX10_stonesOf 6 = .ok (.getfield 174, 3)) ∧ (decode cX10_stonesOf 9 = .ok (.if_icmp .ge 27, 3)) ∧ (decode cX10_stonesOf 12 = .ok (.iload_n 1, 1)) ∧ (decode cX10_stonesOf 13 = .ok (.aload_n 0, 1)) ∧ (decode cX10_stonesOf 14 = .ok (.getfield 57, 3)) ∧ (decode cX10_stonesOf 17 = .ok (.iload_n 2, 1)) := by decide +kernel
theorem dX10_stonesOf_6 : decode cX10_stonesOf 6 = .ok (.getfield 174, 3) := dX10_stonesOf_6_b.1
theorem dX10_stonesOf_9 : decode cX10_stonesOf 9 = .ok (.if_icmp .ge 27, 3) := dX10_stonesOf_6_b.2.1
theorem dX10_stonesOf_12 : decode cX10_stonesOf 12 = .ok (.iload_n 1, 1) := dX10_stonesOf_6_b.2.2.1
theorem dX10_stonesOf_13 : decode cX10_stonesOf 13 = .ok (.aload_n 0, 1) := dX10_stonesOf_6_b.2.2.2.1
theorem dX10_stonesOf_14 : decode cX10_stonesOf 14 = .ok (.getfield 57, 3) := dX10_stonesOf_6_b.2.2.2.2.1
theorem dX10_stonesOf_17 : decode cX10_stonesOf 17 = .ok (.iload_n 2, 1) := dX10_stonesOf_6_b.2.2.2.2.2
set_option maxRecDepth 20000 in
theorem dX10_stonesOf_18_b : (decode cX10_stonesOf 18 = .ok (.iaload, 1)) ∧ (decode cX10_stonesOf 19 = .ok (.iconst 2, 1)) ∧ (decode cX10_stonesOf 20 = .ok (.if_icmp .ne 7, 3)) ∧ (decode cX10_stonesOf 23 = .ok (.iconst 1, 1)) ∧ (decode cX10_stonesOf 24 = .ok (.goto 4, 3)) ∧ (decode cX10_stonesOf 27 = .ok (.iconst 0, 1)) := by decide +kernel
theorem dX10_stonesOf_18 : decode cX10_stonesOf 18 = .ok (.iaload, 1) := dX10_stonesOf_18_b.1
theorem dX10_stonesOf_19 : decode cX10_stonesOf 19 = .ok (.iconst 2, 1) := dX10_stonesOf_18_b.2.1
theorem dX10_stonesOf_20 : decode cX10_stonesOf 20 = .ok (.if_icmp .ne 7, 3) := dX10_stonesOf_18_b.2.2.1
theorem dX10_stonesOf_23 : decode cX10_stonesOf 23 = .ok (.iconst 1, 1) := dX10_stonesOf_18_b.2.2.2.1
theorem dX10_stonesOf_24 : decode cX10_stonesOf 24 = .ok (.goto 4, 3) := dX10_stonesOf_18_b.2.2.2.2.1
theorem dX10_stonesOf_27 : decode cX10_stonesOf 27 = .ok (.iconst 0, 1) := dX10_stonesOf_18_b.2.2.2.2.2
set_option maxRecDepth 20000 in
theorem dX10_stonesOf_28_b : (decode cX10_stonesOf 28 = .ok (.iadd, 1)) ∧ (decode cX10_stonesOf 29 = .ok (.istore_n 1, 1)) ∧ (decode cX10_stonesOf 30 = .ok (.iinc 2 1, 3)) ∧ (decode cX10_stonesOf 33 = .ok (.goto (-29), 3)) ∧ (decode cX10_stonesOf 36 = .ok (.iload_n 1, 1)) ∧ (decode cX10_stonesOf 37 = .ok (.ireturn, 1)) := by decide +kernel
theorem dX10_stonesOf_28 : decode cX10_stonesOf 28 = .ok (.iadd, 1) := dX10_stonesOf_28_b.1
theorem dX10_stonesOf_29 : decode cX10_stonesOf 29 = .ok (.istore_n 1, 1) := dX10_stonesOf_28_b.2.1
theorem dX10_stonesOf_30 : decode cX10_stonesOf 30 = .ok (.iinc 2 1, 3) := dX10_stonesOf_28_b.2.2.1
theorem dX10_stonesOf_33 : decode cX10_stonesOf 33 = .ok (.goto (-29), 3) := dX10_stonesOf_28_b.2.2.2.1
theorem dX10_stonesOf_36 : decode cX10_stonesOf 36 = .ok (.iload_n 1, 1) := dX10_stonesOf_28_b.2.2.2.2.1
theorem dX10_stonesOf_37 : decode cX10_stonesOf 37 = .ok (.ireturn, 1) := dX10_stonesOf_28_b.2.2.2.2.2
set_option maxRecDepth 20000 in
theorem dX10_canDay_0_b : (decode cX10_canDay 0 = .ok (.iconst 0, 1)) ∧ (decode cX10_canDay 1 = .ok (.istore_n 3, 1)) ∧ (decode cX10_canDay 2 = .ok (.iconst 0, 1)) ∧ (decode cX10_canDay 3 = .ok (.istore 4, 2)) ∧ (decode cX10_canDay 5 = .ok (.iload 4, 2)) ∧ (decode cX10_canDay 7 = .ok (.bipush 7, 2)) := by decide +kernel
theorem dX10_canDay_0 : decode cX10_canDay 0 = .ok (.iconst 0, 1) := dX10_canDay_0_b.1
theorem dX10_canDay_1 : decode cX10_canDay 1 = .ok (.istore_n 3, 1) := dX10_canDay_0_b.2.1
theorem dX10_canDay_2 : decode cX10_canDay 2 = .ok (.iconst 0, 1) := dX10_canDay_0_b.2.2.1
theorem dX10_canDay_3 : decode cX10_canDay 3 = .ok (.istore 4, 2) := dX10_canDay_0_b.2.2.2.1
theorem dX10_canDay_5 : decode cX10_canDay 5 = .ok (.iload 4, 2) := dX10_canDay_0_b.2.2.2.2.1
theorem dX10_canDay_7 : decode cX10_canDay 7 = .ok (.bipush 7, 2) := dX10_canDay_0_b.2.2.2.2.2
set_option maxRecDepth 20000 in
theorem dX10_canDay_9_b : (decode cX10_canDay 9 = .ok (.if_icmp .ge 117, 3)) ∧ (decode cX10_canDay 12 = .ok (.iload 4, 2)) ∧ (decode cX10_canDay 14 = .ok (.aload_n 0, 1)) ∧ (decode cX10_canDay 15 = .ok (.getfield 174, 3)) ∧ (decode cX10_canDay 18 = .ok (.if_icmp .ge 18, 3)) ∧ (decode cX10_canDay 21 = .ok (.aload_n 0, 1)) := by decide +kernel
theorem dX10_canDay_9 : decode cX10_canDay 9 = .ok (.if_icmp .ge 117, 3) := dX10_canDay_9_b.1
theorem dX10_canDay_12 : decode cX10_canDay 12 = .ok (.iload 4, 2) := dX10_canDay_9_b.2.1
theorem dX10_canDay_14 : decode cX10_canDay 14 = .ok (.aload_n 0, 1) := dX10_canDay_9_b.2.2.1
theorem dX10_canDay_15 : decode cX10_canDay 15 = .ok (.getfield 174, 3) := dX10_canDay_9_b.2.2.2.1
theorem dX10_canDay_18 : decode cX10_canDay 18 = .ok (.if_icmp .ge 18, 3) := dX10_canDay_9_b.2.2.2.2.1
theorem dX10_canDay_21 : decode cX10_canDay 21 = .ok (.aload_n 0, 1) := dX10_canDay_9_b.2.2.2.2.2
set_option maxRecDepth 20000 in
theorem dX10_canDay_22_b : (decode cX10_canDay 22 = .ok (.getfield 57, 3)) ∧ (decode cX10_canDay 25 = .ok (.iload 4, 2)) ∧ (decode cX10_canDay 27 = .ok (.iaload, 1)) ∧ (decode cX10_canDay 28 = .ok (.iconst 2, 1)) ∧ (decode cX10_canDay 29 = .ok (.if_icmp .ne 7, 3)) ∧ (decode cX10_canDay 32 = .ok (.iconst 1, 1)) := by decide +kernel
theorem dX10_canDay_22 : decode cX10_canDay 22 = .ok (.getfield 57, 3) := dX10_canDay_22_b.1
theorem dX10_canDay_25 : decode cX10_canDay 25 = .ok (.iload 4, 2) := dX10_canDay_22_b.2.1
theorem dX10_canDay_27 : decode cX10_canDay 27 = .ok (.iaload, 1) := dX10_canDay_22_b.2.2.1
theorem dX10_canDay_28 : decode cX10_canDay 28 = .ok (.iconst 2, 1) := dX10_canDay_22_b.2.2.2.1
theorem dX10_canDay_29 : decode cX10_canDay 29 = .ok (.if_icmp .ne 7, 3) := dX10_canDay_22_b.2.2.2.2.1
theorem dX10_canDay_32 : decode cX10_canDay 32 = .ok (.iconst 1, 1) := dX10_canDay_22_b.2.2.2.2.2
set_option maxRecDepth 20000 in
theorem dX10_canDay_33_b : (decode cX10_canDay 33 = .ok (.goto 4, 3)) ∧ (decode cX10_canDay 36 = .ok (.iconst 0, 1)) ∧ (decode cX10_canDay 37 = .ok (.istore 5, 2)) ∧ (decode cX10_canDay 39 = .ok (.iload 4, 2)) ∧ (decode cX10_canDay 41 = .ok (.aload_n 0, 1)) ∧ (decode cX10_canDay 42 = .ok (.getfield 174, 3)) := by decide +kernel
theorem dX10_canDay_33 : decode cX10_canDay 33 = .ok (.goto 4, 3) := dX10_canDay_33_b.1
theorem dX10_canDay_36 : decode cX10_canDay 36 = .ok (.iconst 0, 1) := dX10_canDay_33_b.2.1
theorem dX10_canDay_37 : decode cX10_canDay 37 = .ok (.istore 5, 2) := dX10_canDay_33_b.2.2.1
theorem dX10_canDay_39 : decode cX10_canDay 39 = .ok (.iload 4, 2) := dX10_canDay_33_b.2.2.2.1
theorem dX10_canDay_41 : decode cX10_canDay 41 = .ok (.aload_n 0, 1) := dX10_canDay_33_b.2.2.2.2.1
theorem dX10_canDay_42 : decode cX10_canDay 42 = .ok (.getfield 174, 3) := dX10_canDay_33_b.2.2.2.2.2
set_option maxRecDepth 20000 in
theorem dX10_canDay_45_b : (decode cX10_canDay 45 = .ok (.if_icmp .ge 35, 3)) ∧ (decode cX10_canDay 48 = .ok (.iload 5, 2)) ∧ (decode cX10_canDay 50 = .ok (.ifCond .eq 11, 3)) ∧ (decode cX10_canDay 53 = .ok (.iload_n 3, 1)) ∧ (decode cX10_canDay 54 = .ok (.iload_n 2, 1)) ∧ (decode cX10_canDay 55 = .ok (.if_icmp .ge 25, 3)) := by decide +kernel
theorem dX10_canDay_45 : decode cX10_canDay 45 = .ok (.if_icmp .ge 35, 3) := dX10_canDay_45_b.1
theorem dX10_canDay_48 : decode cX10_canDay 48 = .ok (.iload 5, 2) := dX10_canDay_45_b.2.1
theorem dX10_canDay_50 : decode cX10_canDay 50 = .ok (.ifCond .eq 11, 3) := dX10_canDay_45_b.2.2.1
theorem dX10_canDay_53 : decode cX10_canDay 53 = .ok (.iload_n 3, 1) := dX10_canDay_45_b.2.2.2.1
theorem dX10_canDay_54 : decode cX10_canDay 54 = .ok (.iload_n 2, 1) := dX10_canDay_45_b.2.2.2.2.1
theorem dX10_canDay_55 : decode cX10_canDay 55 = .ok (.if_icmp .ge 25, 3) := dX10_canDay_45_b.2.2.2.2.2
set_option maxRecDepth 20000 in
theorem dX10_canDay_58_b : (decode cX10_canDay 58 = .ok (.goto 18, 3)) ∧ (decode cX10_canDay 61 = .ok (.aload_n 0, 1)) ∧ (decode cX10_canDay 62 = .ok (.getfield 90, 3)) ∧ (decode cX10_canDay 65 = .ok (.iload_n 1, 1)) ∧ (decode cX10_canDay 66 = .ok (.iaload, 1)) ∧ (decode cX10_canDay 67 = .ok (.iload 4, 2)) := by decide +kernel
theorem dX10_canDay_58 : decode cX10_canDay 58 = .ok (.goto 18, 3) := dX10_canDay_58_b.1
theorem dX10_canDay_61 : decode cX10_canDay 61 = .ok (.aload_n 0, 1) := dX10_canDay_58_b.2.1
theorem dX10_canDay_62 : decode cX10_canDay 62 = .ok (.getfield 90, 3) := dX10_canDay_58_b.2.2.1
theorem dX10_canDay_65 : decode cX10_canDay 65 = .ok (.iload_n 1, 1) := dX10_canDay_58_b.2.2.2.1
theorem dX10_canDay_66 : decode cX10_canDay 66 = .ok (.iaload, 1) := dX10_canDay_58_b.2.2.2.2.1
theorem dX10_canDay_67 : decode cX10_canDay 67 = .ok (.iload 4, 2) := dX10_canDay_58_b.2.2.2.2.2
set_option maxRecDepth 20000 in
theorem dX10_canDay_69_b : (decode cX10_canDay 69 = .ok (.ishr, 1)) ∧ (decode cX10_canDay 70 = .ok (.iconst 1, 1)) ∧ (decode cX10_canDay 71 = .ok (.iand, 1)) ∧ (decode cX10_canDay 72 = .ok (.iconst 1, 1)) ∧ (decode cX10_canDay 73 = .ok (.if_icmp .ne 7, 3)) ∧ (decode cX10_canDay 76 = .ok (.iconst 1, 1)) := by decide +kernel
theorem dX10_canDay_69 : decode cX10_canDay 69 = .ok (.ishr, 1) := dX10_canDay_69_b.1
theorem dX10_canDay_70 : decode cX10_canDay 70 = .ok (.iconst 1, 1) := dX10_canDay_69_b.2.1
theorem dX10_canDay_71 : decode cX10_canDay 71 = .ok (.iand, 1) := dX10_canDay_69_b.2.2.1
theorem dX10_canDay_72 : decode cX10_canDay 72 = .ok (.iconst 1, 1) := dX10_canDay_69_b.2.2.2.1
theorem dX10_canDay_73 : decode cX10_canDay 73 = .ok (.if_icmp .ne 7, 3) := dX10_canDay_69_b.2.2.2.2.1
theorem dX10_canDay_76 : decode cX10_canDay 76 = .ok (.iconst 1, 1) := dX10_canDay_69_b.2.2.2.2.2
set_option maxRecDepth 20000 in
theorem dX10_canDay_77_b : (decode cX10_canDay 77 = .ok (.goto 4, 3)) ∧ (decode cX10_canDay 80 = .ok (.iconst 0, 1)) ∧ (decode cX10_canDay 81 = .ok (.istore 6, 2)) ∧ (decode cX10_canDay 83 = .ok (.aload_n 0, 1)) ∧ (decode cX10_canDay 84 = .ok (.getfield 140, 3)) ∧ (decode cX10_canDay 87 = .ok (.iload 4, 2)) := by decide +kernel
theorem dX10_canDay_77 : decode cX10_canDay 77 = .ok (.goto 4, 3) := dX10_canDay_77_b.1
theorem dX10_canDay_80 : decode cX10_canDay 80 = .ok (.iconst 0, 1) := dX10_canDay_77_b.2.1
theorem dX10_canDay_81 : decode cX10_canDay 81 = .ok (.istore 6, 2) := dX10_canDay_77_b.2.2.1
theorem dX10_canDay_83 : decode cX10_canDay 83 = .ok (.aload_n 0, 1) := dX10_canDay_77_b.2.2.2.1
theorem dX10_canDay_84 : decode cX10_canDay 84 = .ok (.getfield 140, 3) := dX10_canDay_77_b.2.2.2.2.1
theorem dX10_canDay_87 : decode cX10_canDay 87 = .ok (.iload 4, 2) := dX10_canDay_77_b.2.2.2.2.2
set_option maxRecDepth 20000 in
theorem dX10_canDay_89_b : (decode cX10_canDay 89 = .ok (.iload 6, 2)) ∧ (decode cX10_canDay 91 = .ok (.ifCond .eq 13, 3)) ∧ (decode cX10_canDay 94 = .ok (.aload_n 0, 1)) ∧ (decode cX10_canDay 95 = .ok (.getfield 62, 3)) ∧ (decode cX10_canDay 98 = .ok (.iload 4, 2)) ∧ (decode cX10_canDay 100 = .ok (.iaload, 1)) := by decide +kernel
theorem dX10_canDay_89 : decode cX10_canDay 89 = .ok (.iload 6, 2) := dX10_canDay_89_b.1
theorem dX10_canDay_91 : decode cX10_canDay 91 = .ok (.ifCond .eq 13, 3) := dX10_canDay_89_b.2.1
theorem dX10_canDay_94 : decode cX10_canDay 94 = .ok (.aload_n 0, 1) := dX10_canDay_89_b.2.2.1
theorem dX10_canDay_95 : decode cX10_canDay 95 = .ok (.getfield 62, 3) := dX10_canDay_89_b.2.2.2.1
theorem dX10_canDay_98 : decode cX10_canDay 98 = .ok (.iload 4, 2) := dX10_canDay_89_b.2.2.2.2.1
theorem dX10_canDay_100 : decode cX10_canDay 100 = .ok (.iaload, 1) := dX10_canDay_89_b.2.2.2.2.2
set_option maxRecDepth 20000 in
theorem dX10_canDay_101_b : (decode cX10_canDay 101 = .ok (.goto 5, 3)) ∧ (decode cX10_canDay 104 = .ok (.bipush 15, 2)) ∧ (decode cX10_canDay 106 = .ok (.iastore, 1)) ∧ (decode cX10_canDay 107 = .ok (.iload_n 3, 1)) ∧ (decode cX10_canDay 108 = .ok (.iload 5, 2)) ∧ (decode cX10_canDay 110 = .ok (.ifCond .eq 7, 3)) := by decide +kernel
theorem dX10_canDay_101 : decode cX10_canDay 101 = .ok (.goto 5, 3) := dX10_canDay_101_b.1
theorem dX10_canDay_104 : decode cX10_canDay 104 = .ok (.bipush 15, 2) := dX10_canDay_101_b.2.1
theorem dX10_canDay_106 : decode cX10_canDay 106 = .ok (.iastore, 1) := dX10_canDay_101_b.2.2.1
theorem dX10_canDay_107 : decode cX10_canDay 107 = .ok (.iload_n 3, 1) := dX10_canDay_101_b.2.2.2.1
theorem dX10_canDay_108 : decode cX10_canDay 108 = .ok (.iload 5, 2) := dX10_canDay_101_b.2.2.2.2.1
theorem dX10_canDay_110 : decode cX10_canDay 110 = .ok (.ifCond .eq 7, 3) := dX10_canDay_101_b.2.2.2.2.2
set_option maxRecDepth 20000 in
theorem dX10_canDay_113_b : (decode cX10_canDay 113 = .ok (.iconst 1, 1)) ∧ (decode cX10_canDay 114 = .ok (.goto 4, 3)) ∧ (decode cX10_canDay 117 = .ok (.iconst 0, 1)) ∧ (decode cX10_canDay 118 = .ok (.iadd, 1)) ∧ (decode cX10_canDay 119 = .ok (.istore_n 3, 1)) ∧ (decode cX10_canDay 120 = .ok (.iinc 4 1, 3)) := by decide +kernel
theorem dX10_canDay_113 : decode cX10_canDay 113 = .ok (.iconst 1, 1) := dX10_canDay_113_b.1
theorem dX10_canDay_114 : decode cX10_canDay 114 = .ok (.goto 4, 3) := dX10_canDay_113_b.2.1
theorem dX10_canDay_117 : decode cX10_canDay 117 = .ok (.iconst 0, 1) := dX10_canDay_113_b.2.2.1
theorem dX10_canDay_118 : decode cX10_canDay 118 = .ok (.iadd, 1) := dX10_canDay_113_b.2.2.2.1
theorem dX10_canDay_119 : decode cX10_canDay 119 = .ok (.istore_n 3, 1) := dX10_canDay_113_b.2.2.2.2.1
theorem dX10_canDay_120 : decode cX10_canDay 120 = .ok (.iinc 4 1, 3) := dX10_canDay_113_b.2.2.2.2.2
set_option maxRecDepth 20000 in
theorem dX10_canDay_123_b : (decode cX10_canDay 123 = .ok (.goto (-118), 3)) ∧ (decode cX10_canDay 126 = .ok (.aload_n 0, 1)) ∧ (decode cX10_canDay 127 = .ok (.aload_n 0, 1)) ∧ (decode cX10_canDay 128 = .ok (.getfield 140, 3)) ∧ (decode cX10_canDay 131 = .ok (.aload_n 0, 1)) ∧ (decode cX10_canDay 132 = .ok (.getfield 54, 3)) := by decide +kernel
theorem dX10_canDay_123 : decode cX10_canDay 123 = .ok (.goto (-118), 3) := dX10_canDay_123_b.1
theorem dX10_canDay_126 : decode cX10_canDay 126 = .ok (.aload_n 0, 1) := dX10_canDay_123_b.2.1
theorem dX10_canDay_127 : decode cX10_canDay 127 = .ok (.aload_n 0, 1) := dX10_canDay_123_b.2.2.1
theorem dX10_canDay_128 : decode cX10_canDay 128 = .ok (.getfield 140, 3) := dX10_canDay_123_b.2.2.2.1
theorem dX10_canDay_131 : decode cX10_canDay 131 = .ok (.aload_n 0, 1) := dX10_canDay_123_b.2.2.2.2.1
theorem dX10_canDay_132 : decode cX10_canDay 132 = .ok (.getfield 54, 3) := dX10_canDay_123_b.2.2.2.2.2
set_option maxRecDepth 20000 in
theorem dX10_canDay_135_b : (decode cX10_canDay 135 = .ok (.iconst 1, 1)) ∧ (decode cX10_canDay 136 = .ok (.iaload, 1)) ∧ (decode cX10_canDay 137 = .ok (.iconst 0, 1)) ∧ (decode cX10_canDay 138 = .ok (.invokevirtual 472, 3)) ∧ (decode cX10_canDay 141 = .ok (.ifCond .ne 6, 3)) ∧ (decode cX10_canDay 144 = .ok (.bipush (-2), 2)) := by decide +kernel
theorem dX10_canDay_135 : decode cX10_canDay 135 = .ok (.iconst 1, 1) := dX10_canDay_135_b.1
theorem dX10_canDay_136 : decode cX10_canDay 136 = .ok (.iaload, 1) := dX10_canDay_135_b.2.1
theorem dX10_canDay_137 : decode cX10_canDay 137 = .ok (.iconst 0, 1) := dX10_canDay_135_b.2.2.1
theorem dX10_canDay_138 : decode cX10_canDay 138 = .ok (.invokevirtual 472, 3) := dX10_canDay_135_b.2.2.2.1
theorem dX10_canDay_141 : decode cX10_canDay 141 = .ok (.ifCond .ne 6, 3) := dX10_canDay_135_b.2.2.2.2.1
theorem dX10_canDay_144 : decode cX10_canDay 144 = .ok (.bipush (-2), 2) := dX10_canDay_135_b.2.2.2.2.2
set_option maxRecDepth 20000 in
theorem dX10_canDay_146_b : (decode cX10_canDay 146 = .ok (.ireturn, 1)) ∧ (decode cX10_canDay 147 = .ok (.aload_n 0, 1)) ∧ (decode cX10_canDay 148 = .ok (.invokevirtual 476, 3)) ∧ (decode cX10_canDay 151 = .ok (.iconst (-1), 1)) ∧ (decode cX10_canDay 152 = .ok (.if_icmp .ne 7, 3)) ∧ (decode cX10_canDay 155 = .ok (.iconst 0, 1)) := by decide +kernel
theorem dX10_canDay_146 : decode cX10_canDay 146 = .ok (.ireturn, 1) := dX10_canDay_146_b.1
theorem dX10_canDay_147 : decode cX10_canDay 147 = .ok (.aload_n 0, 1) := dX10_canDay_146_b.2.1
theorem dX10_canDay_148 : decode cX10_canDay 148 = .ok (.invokevirtual 476, 3) := dX10_canDay_146_b.2.2.1
theorem dX10_canDay_151 : decode cX10_canDay 151 = .ok (.iconst (-1), 1) := dX10_canDay_146_b.2.2.2.1
theorem dX10_canDay_152 : decode cX10_canDay 152 = .ok (.if_icmp .ne 7, 3) := dX10_canDay_146_b.2.2.2.2.1
theorem dX10_canDay_155 : decode cX10_canDay 155 = .ok (.iconst 0, 1) := dX10_canDay_146_b.2.2.2.2.2
set_option maxRecDepth 20000 in
theorem dX10_canDay_156_b : (decode cX10_canDay 156 = .ok (.goto 4, 3)) ∧ (decode cX10_canDay 159 = .ok (.iconst 1, 1)) ∧ (decode cX10_canDay 160 = .ok (.ireturn, 1)) := by decide +kernel
theorem dX10_canDay_156 : decode cX10_canDay 156 = .ok (.goto 4, 3) := dX10_canDay_156_b.1
theorem dX10_canDay_159 : decode cX10_canDay 159 = .ok (.iconst 1, 1) := dX10_canDay_156_b.2.1
theorem dX10_canDay_160 : decode cX10_canDay 160 = .ok (.ireturn, 1) := dX10_canDay_156_b.2.2
set_option maxRecDepth 20000 in
theorem dX10_enough_0_b : (decode cX10_enough 0 = .ok (.aload_n 0, 1)) ∧ (decode cX10_enough 1 = .ok (.iconst 0, 1)) ∧ (decode cX10_enough 2 = .ok (.putfield 171, 3)) ∧ (decode cX10_enough 5 = .ok (.iload_n 1, 1)) ∧ (decode cX10_enough 6 = .ok (.ifCond .lt 8, 3)) ∧ (decode cX10_enough 9 = .ok (.iload_n 1, 1)) := by decide +kernel
theorem dX10_enough_0 : decode cX10_enough 0 = .ok (.aload_n 0, 1) := dX10_enough_0_b.1
theorem dX10_enough_1 : decode cX10_enough 1 = .ok (.iconst 0, 1) := dX10_enough_0_b.2.1
theorem dX10_enough_2 : decode cX10_enough 2 = .ok (.putfield 171, 3) := dX10_enough_0_b.2.2.1
theorem dX10_enough_5 : decode cX10_enough 5 = .ok (.iload_n 1, 1) := dX10_enough_0_b.2.2.2.1
theorem dX10_enough_6 : decode cX10_enough 6 = .ok (.ifCond .lt 8, 3) := dX10_enough_0_b.2.2.2.2.1
theorem dX10_enough_9 : decode cX10_enough 9 = .ok (.iload_n 1, 1) := dX10_enough_0_b.2.2.2.2.2
set_option maxRecDepth 20000 in
theorem dX10_enough_10_b : (decode cX10_enough 10 = .ok (.iconst 1, 1)) ∧ (decode cX10_enough 11 = .ok (.if_icmp .le 9, 3)) ∧ (decode cX10_enough 14 = .ok (.aload_n 0, 1)) ∧ (decode cX10_enough 15 = .ok (.iconst 1, 1)) ∧ (decode cX10_enough 16 = .ok (.invokevirtual 315, 3)) ∧ (decode cX10_enough 19 = .ok (.ireturn, 1)) := by decide +kernel
theorem dX10_enough_10 : decode cX10_enough 10 = .ok (.iconst 1, 1) := dX10_enough_10_b.1
theorem dX10_enough_11 : decode cX10_enough 11 = .ok (.if_icmp .le 9, 3) := dX10_enough_10_b.2.1
theorem dX10_enough_14 : decode cX10_enough 14 = .ok (.aload_n 0, 1) := dX10_enough_10_b.2.2.1
theorem dX10_enough_15 : decode cX10_enough 15 = .ok (.iconst 1, 1) := dX10_enough_10_b.2.2.2.1
theorem dX10_enough_16 : decode cX10_enough 16 = .ok (.invokevirtual 315, 3) := dX10_enough_10_b.2.2.2.2.1
theorem dX10_enough_19 : decode cX10_enough 19 = .ok (.ireturn, 1) := dX10_enough_10_b.2.2.2.2.2
set_option maxRecDepth 20000 in
theorem dX10_enough_20_b : (decode cX10_enough 20 = .ok (.iconst (-1), 1)) ∧ (decode cX10_enough 21 = .ok (.istore_n 2, 1)) ∧ (decode cX10_enough 22 = .ok (.iconst 0, 1)) ∧ (decode cX10_enough 23 = .ok (.istore_n 3, 1)) ∧ (decode cX10_enough 24 = .ok (.iload_n 3, 1)) ∧ (decode cX10_enough 25 = .ok (.aload_n 0, 1)) := by decide +kernel
theorem dX10_enough_20 : decode cX10_enough 20 = .ok (.iconst (-1), 1) := dX10_enough_20_b.1
theorem dX10_enough_21 : decode cX10_enough 21 = .ok (.istore_n 2, 1) := dX10_enough_20_b.2.1
theorem dX10_enough_22 : decode cX10_enough 22 = .ok (.iconst 0, 1) := dX10_enough_20_b.2.2.1
theorem dX10_enough_23 : decode cX10_enough 23 = .ok (.istore_n 3, 1) := dX10_enough_20_b.2.2.2.1
theorem dX10_enough_24 : decode cX10_enough 24 = .ok (.iload_n 3, 1) := dX10_enough_20_b.2.2.2.2.1
theorem dX10_enough_25 : decode cX10_enough 25 = .ok (.aload_n 0, 1) := dX10_enough_20_b.2.2.2.2.2
set_option maxRecDepth 20000 in
theorem dX10_enough_26_b : (decode cX10_enough 26 = .ok (.invokevirtual 485, 3)) ∧ (decode cX10_enough 29 = .ok (.if_icmp .gt 87, 3)) ∧ (decode cX10_enough 32 = .ok (.iconst 0, 1)) ∧ (decode cX10_enough 33 = .ok (.istore 4, 2)) ∧ (decode cX10_enough 35 = .ok (.iconst 1, 1)) ∧ (decode cX10_enough 36 = .ok (.istore 5, 2)) := by decide +kernel
theorem dX10_enough_26 : decode cX10_enough 26 = .ok (.invokevirtual 485, 3) := dX10_enough_26_b.1
theorem dX10_enough_29 : decode cX10_enough 29 = .ok (.if_icmp .gt 87, 3) := dX10_enough_26_b.2.1
theorem dX10_enough_32 : decode cX10_enough 32 = .ok (.iconst 0, 1) := dX10_enough_26_b.2.2.1
theorem dX10_enough_33 : decode cX10_enough 33 = .ok (.istore 4, 2) := dX10_enough_26_b.2.2.2.1
theorem dX10_enough_35 : decode cX10_enough 35 = .ok (.iconst 1, 1) := dX10_enough_26_b.2.2.2.2.1
theorem dX10_enough_36 : decode cX10_enough 36 = .ok (.istore 5, 2) := dX10_enough_26_b.2.2.2.2.2
set_option maxRecDepth 20000 in
theorem dX10_enough_38_b : (decode cX10_enough 38 = .ok (.iload 4, 2)) ∧ (decode cX10_enough 40 = .ok (.aload_n 0, 1)) ∧ (decode cX10_enough 41 = .ok (.getfield 336, 3)) ∧ (decode cX10_enough 44 = .ok (.if_icmp .ge 37, 3)) ∧ (decode cX10_enough 47 = .ok (.iload 5, 2)) ∧ (decode cX10_enough 49 = .ok (.iconst 1, 1)) := by decide +kernel
theorem dX10_enough_38 : decode cX10_enough 38 = .ok (.iload 4, 2) := dX10_enough_38_b.1
theorem dX10_enough_40 : decode cX10_enough 40 = .ok (.aload_n 0, 1) := dX10_enough_38_b.2.1
theorem dX10_enough_41 : decode cX10_enough 41 = .ok (.getfield 336, 3) := dX10_enough_38_b.2.2.1
theorem dX10_enough_44 : decode cX10_enough 44 = .ok (.if_icmp .ge 37, 3) := dX10_enough_38_b.2.2.2.1
theorem dX10_enough_47 : decode cX10_enough 47 = .ok (.iload 5, 2) := dX10_enough_38_b.2.2.2.2.1
theorem dX10_enough_49 : decode cX10_enough 49 = .ok (.iconst 1, 1) := dX10_enough_38_b.2.2.2.2.2
set_option maxRecDepth 20000 in
theorem dX10_enough_50_b : (decode cX10_enough 50 = .ok (.if_icmp .ne 31, 3)) ∧ (decode cX10_enough 53 = .ok (.aload_n 0, 1)) ∧ (decode cX10_enough 54 = .ok (.iload 4, 2)) ∧ (decode cX10_enough 56 = .ok (.iload_n 3, 1)) ∧ (decode cX10_enough 57 = .ok (.invokevirtual 488, 3)) ∧ (decode cX10_enough 60 = .ok (.istore 5, 2)) := by decide +kernel
theorem dX10_enough_50 : decode cX10_enough 50 = .ok (.if_icmp .ne 31, 3) := dX10_enough_50_b.1
theorem dX10_enough_53 : decode cX10_enough 53 = .ok (.aload_n 0, 1) := dX10_enough_50_b.2.1
theorem dX10_enough_54 : decode cX10_enough 54 = .ok (.iload 4, 2) := dX10_enough_50_b.2.2.1
theorem dX10_enough_56 : decode cX10_enough 56 = .ok (.iload_n 3, 1) := dX10_enough_50_b.2.2.2.1
theorem dX10_enough_57 : decode cX10_enough 57 = .ok (.invokevirtual 488, 3) := dX10_enough_50_b.2.2.2.2.1
theorem dX10_enough_60 : decode cX10_enough 60 = .ok (.istore 5, 2) := dX10_enough_50_b.2.2.2.2.2
set_option maxRecDepth 20000 in
theorem dX10_enough_62_b : (decode cX10_enough 62 = .ok (.iload 4, 2)) ∧ (decode cX10_enough 64 = .ok (.iload 5, 2)) ∧ (decode cX10_enough 66 = .ok (.iconst 1, 1)) ∧ (decode cX10_enough 67 = .ok (.if_icmp .ne 7, 3)) ∧ (decode cX10_enough 70 = .ok (.iconst 1, 1)) ∧ (decode cX10_enough 71 = .ok (.goto 4, 3)) := by decide +kernel
theorem dX10_enough_62 : decode cX10_enough 62 = .ok (.iload 4, 2) := dX10_enough_62_b.1
theorem dX10_enough_64 : decode cX10_enough 64 = .ok (.iload 5, 2) := dX10_enough_62_b.2.1
theorem dX10_enough_66 : decode cX10_enough 66 = .ok (.iconst 1, 1) := dX10_enough_62_b.2.2.1
theorem dX10_enough_67 : decode cX10_enough 67 = .ok (.if_icmp .ne 7, 3) := dX10_enough_62_b.2.2.2.1
theorem dX10_enough_70 : decode cX10_enough 70 = .ok (.iconst 1, 1) := dX10_enough_62_b.2.2.2.2.1
theorem dX10_enough_71 : decode cX10_enough 71 = .ok (.goto 4, 3) := dX10_enough_62_b.2.2.2.2.2
set_option maxRecDepth 20000 in
theorem dX10_enough_74_b : (decode cX10_enough 74 = .ok (.iconst 0, 1)) ∧ (decode cX10_enough 75 = .ok (.iadd, 1)) ∧ (decode cX10_enough 76 = .ok (.istore 4, 2)) ∧ (decode cX10_enough 78 = .ok (.goto (-40), 3)) ∧ (decode cX10_enough 81 = .ok (.iload 5, 2)) ∧ (decode cX10_enough 83 = .ok (.bipush (-2), 2)) := by decide +kernel
theorem dX10_enough_74 : decode cX10_enough 74 = .ok (.iconst 0, 1) := dX10_enough_74_b.1
theorem dX10_enough_75 : decode cX10_enough 75 = .ok (.iadd, 1) := dX10_enough_74_b.2.1
theorem dX10_enough_76 : decode cX10_enough 76 = .ok (.istore 4, 2) := dX10_enough_74_b.2.2.1
theorem dX10_enough_78 : decode cX10_enough 78 = .ok (.goto (-40), 3) := dX10_enough_74_b.2.2.2.1
theorem dX10_enough_81 : decode cX10_enough 81 = .ok (.iload 5, 2) := dX10_enough_74_b.2.2.2.2.1
theorem dX10_enough_83 : decode cX10_enough 83 = .ok (.bipush (-2), 2) := dX10_enough_74_b.2.2.2.2.2
set_option maxRecDepth 20000 in
theorem dX10_enough_85_b : (decode cX10_enough 85 = .ok (.if_icmp .ne 6, 3)) ∧ (decode cX10_enough 88 = .ok (.bipush (-2), 2)) ∧ (decode cX10_enough 90 = .ok (.ireturn, 1)) ∧ (decode cX10_enough 91 = .ok (.iload 5, 2)) ∧ (decode cX10_enough 93 = .ok (.iconst 1, 1)) ∧ (decode cX10_enough 94 = .ok (.if_icmp .ne 13, 3)) := by decide +kernel
theorem dX10_enough_85 : decode cX10_enough 85 = .ok (.if_icmp .ne 6, 3) := dX10_enough_85_b.1
theorem dX10_enough_88 : decode cX10_enough 88 = .ok (.bipush (-2), 2) := dX10_enough_85_b.2.1
theorem dX10_enough_90 : decode cX10_enough 90 = .ok (.ireturn, 1) := dX10_enough_85_b.2.2.1
theorem dX10_enough_91 : decode cX10_enough 91 = .ok (.iload 5, 2) := dX10_enough_85_b.2.2.2.1
theorem dX10_enough_93 : decode cX10_enough 93 = .ok (.iconst 1, 1) := dX10_enough_85_b.2.2.2.2.1
theorem dX10_enough_94 : decode cX10_enough 94 = .ok (.if_icmp .ne 13, 3) := dX10_enough_85_b.2.2.2.2.2
set_option maxRecDepth 20000 in
theorem dX10_enough_97_b : (decode cX10_enough 97 = .ok (.iload_n 1, 1)) ∧ (decode cX10_enough 98 = .ok (.ifCond .ne 7, 3)) ∧ (decode cX10_enough 101 = .ok (.iload_n 3, 1)) ∧ (decode cX10_enough 102 = .ok (.goto 4, 3)) ∧ (decode cX10_enough 105 = .ok (.iload_n 2, 1)) ∧ (decode cX10_enough 106 = .ok (.ireturn, 1)) := by decide +kernel
theorem dX10_enough_97 : decode cX10_enough 97 = .ok (.iload_n 1, 1) := dX10_enough_97_b.1
theorem dX10_enough_98 : decode cX10_enough 98 = .ok (.ifCond .ne 7, 3) := dX10_enough_97_b.2.1
theorem dX10_enough_101 : decode cX10_enough 101 = .ok (.iload_n 3, 1) := dX10_enough_97_b.2.2.1
theorem dX10_enough_102 : decode cX10_enough 102 = .ok (.goto 4, 3) := dX10_enough_97_b.2.2.2.1
theorem dX10_enough_105 : decode cX10_enough 105 = .ok (.iload_n 2, 1) := dX10_enough_97_b.2.2.2.2.1
theorem dX10_enough_106 : decode cX10_enough 106 = .ok (.ireturn, 1) := dX10_enough_97_b.2.2.2.2.2
set_option maxRecDepth 20000 in
theorem dX10_enough_107_b : (decode cX10_enough 107 = .ok (.iload 4, 2)) ∧ (decode cX10_enough 109 = .ok (.istore_n 2, 1)) ∧ (decode cX10_enough 110 = .ok (.iinc 3 1, 3)) ∧ (decode cX10_enough 113 = .ok (.goto (-89), 3)) ∧ (decode cX10_enough 116 = .ok (.iconst (-1), 1)) ∧ (decode cX10_enough 117 = .ok (.ireturn, 1)) := by decide +kernel
theorem dX10_enough_107 : decode cX10_enough 107 = .ok (.iload 4, 2) := dX10_enough_107_b.1
theorem dX10_enough_109 : decode cX10_enough 109 = .ok (.istore_n 2, 1) := dX10_enough_107_b.2.1
theorem dX10_enough_110 : decode cX10_enough 110 = .ok (.iinc 3 1, 3) := dX10_enough_107_b.2.2.1
theorem dX10_enough_113 : decode cX10_enough 113 = .ok (.goto (-89), 3) := dX10_enough_107_b.2.2.2.1
theorem dX10_enough_116 : decode cX10_enough 116 = .ok (.iconst (-1), 1) := dX10_enough_107_b.2.2.2.2.1
theorem dX10_enough_117 : decode cX10_enough 117 = .ok (.ireturn, 1) := dX10_enough_107_b.2.2.2.2.2
set_option maxRecDepth 20000 in
theorem dX10_be_0_b : (decode cX10_be 0 = .ok (.iconst 0, 1)) ∧ (decode cX10_be 1 = .ok (.istore_n 2, 1)) ∧ (decode cX10_be 2 = .ok (.iload_n 2, 1)) ∧ (decode cX10_be 3 = .ok (.aload_n 0, 1)) ∧ (decode cX10_be 4 = .ok (.arraylength, 1)) ∧ (decode cX10_be 5 = .ok (.if_icmp .ge 15, 3)) := by decide +kernel
theorem dX10_be_0 : decode cX10_be 0 = .ok (.iconst 0, 1) := dX10_be_0_b.1
theorem dX10_be_1 : decode cX10_be 1 = .ok (.istore_n 2, 1) := dX10_be_0_b.2.1
theorem dX10_be_2 : decode cX10_be 2 = .ok (.iload_n 2, 1) := dX10_be_0_b.2.2.1
theorem dX10_be_3 : decode cX10_be 3 = .ok (.aload_n 0, 1) := dX10_be_0_b.2.2.2.1
theorem dX10_be_4 : decode cX10_be 4 = .ok (.arraylength, 1) := dX10_be_0_b.2.2.2.2.1
theorem dX10_be_5 : decode cX10_be 5 = .ok (.if_icmp .ge 15, 3) := dX10_be_0_b.2.2.2.2.2
set_option maxRecDepth 20000 in
theorem dX10_be_8_b : (decode cX10_be 8 = .ok (.aload_n 0, 1)) ∧ (decode cX10_be 9 = .ok (.iload_n 2, 1)) ∧ (decode cX10_be 10 = .ok (.aload_n 1, 1)) ∧ (decode cX10_be 11 = .ok (.iload_n 2, 1)) ∧ (decode cX10_be 12 = .ok (.iaload, 1)) ∧ (decode cX10_be 13 = .ok (.iastore, 1)) := by decide +kernel
theorem dX10_be_8 : decode cX10_be 8 = .ok (.aload_n 0, 1) := dX10_be_8_b.1
theorem dX10_be_9 : decode cX10_be 9 = .ok (.iload_n 2, 1) := dX10_be_8_b.2.1
theorem dX10_be_10 : decode cX10_be 10 = .ok (.aload_n 1, 1) := dX10_be_8_b.2.2.1
theorem dX10_be_11 : decode cX10_be 11 = .ok (.iload_n 2, 1) := dX10_be_8_b.2.2.2.1
theorem dX10_be_12 : decode cX10_be 12 = .ok (.iaload, 1) := dX10_be_8_b.2.2.2.2.1
theorem dX10_be_13 : decode cX10_be 13 = .ok (.iastore, 1) := dX10_be_8_b.2.2.2.2.2
set_option maxRecDepth 20000 in
theorem dX10_be_14_b : (decode cX10_be 14 = .ok (.iinc 2 1, 3)) ∧ (decode cX10_be 17 = .ok (.goto (-15), 3)) ∧ (decode cX10_be 20 = .ok (.return_, 1)) := by decide +kernel
theorem dX10_be_14 : decode cX10_be 14 = .ok (.iinc 2 1, 3) := dX10_be_14_b.1
theorem dX10_be_17 : decode cX10_be 17 = .ok (.goto (-15), 3) := dX10_be_14_b.2.1
theorem dX10_be_20 : decode cX10_be 20 = .ok (.return_, 1) := dX10_be_14_b.2.2
set_option maxRecDepth 20000 in
theorem dX10_image_0_b : (decode cX10_image 0 = .ok (.aload_n 0, 1)) ∧ (decode cX10_image 1 = .ok (.iconst 0, 1)) ∧ (decode cX10_image 2 = .ok (.putfield 171, 3)) ∧ (decode cX10_image 5 = .ok (.aload_n 0, 1)) ∧ (decode cX10_image 6 = .ok (.iconst 1, 1)) ∧ (decode cX10_image 7 = .ok (.putfield 339, 3)) := by decide +kernel
theorem dX10_image_0 : decode cX10_image 0 = .ok (.aload_n 0, 1) := dX10_image_0_b.1
theorem dX10_image_1 : decode cX10_image 1 = .ok (.iconst 0, 1) := dX10_image_0_b.2.1
theorem dX10_image_2 : decode cX10_image 2 = .ok (.putfield 171, 3) := dX10_image_0_b.2.2.1
theorem dX10_image_5 : decode cX10_image 5 = .ok (.aload_n 0, 1) := dX10_image_0_b.2.2.2.1
theorem dX10_image_6 : decode cX10_image 6 = .ok (.iconst 1, 1) := dX10_image_0_b.2.2.2.2.1
theorem dX10_image_7 : decode cX10_image 7 = .ok (.putfield 339, 3) := dX10_image_0_b.2.2.2.2.2
set_option maxRecDepth 20000 in
theorem dX10_image_10_b : (decode cX10_image 10 = .ok (.aload_n 0, 1)) ∧ (decode cX10_image 11 = .ok (.aload_n 0, 1)) ∧ (decode cX10_image 12 = .ok (.getfield 327, 3)) ∧ (decode cX10_image 15 = .ok (.putfield 491, 3)) ∧ (decode cX10_image 18 = .ok (.aload_n 0, 1)) ∧ (decode cX10_image 19 = .ok (.aload_n 0, 1)) := by decide +kernel
theorem dX10_image_10 : decode cX10_image 10 = .ok (.aload_n 0, 1) := dX10_image_10_b.1
theorem dX10_image_11 : decode cX10_image 11 = .ok (.aload_n 0, 1) := dX10_image_10_b.2.1
theorem dX10_image_12 : decode cX10_image 12 = .ok (.getfield 327, 3) := dX10_image_10_b.2.2.1
theorem dX10_image_15 : decode cX10_image 15 = .ok (.putfield 491, 3) := dX10_image_10_b.2.2.2.1
theorem dX10_image_18 : decode cX10_image 18 = .ok (.aload_n 0, 1) := dX10_image_10_b.2.2.2.2.1
theorem dX10_image_19 : decode cX10_image 19 = .ok (.aload_n 0, 1) := dX10_image_10_b.2.2.2.2.2
set_option maxRecDepth 20000 in
theorem dX10_image_20_b : (decode cX10_image 20 = .ok (.getfield 330, 3)) ∧ (decode cX10_image 23 = .ok (.putfield 494, 3)) ∧ (decode cX10_image 26 = .ok (.aload_n 0, 1)) ∧ (decode cX10_image 27 = .ok (.aload_n 0, 1)) ∧ (decode cX10_image 28 = .ok (.getfield 333, 3)) ∧ (decode cX10_image 31 = .ok (.putfield 497, 3)) := by decide +kernel
theorem dX10_image_20 : decode cX10_image 20 = .ok (.getfield 330, 3) := dX10_image_20_b.1
theorem dX10_image_23 : decode cX10_image 23 = .ok (.putfield 494, 3) := dX10_image_20_b.2.1
theorem dX10_image_26 : decode cX10_image 26 = .ok (.aload_n 0, 1) := dX10_image_20_b.2.2.1
theorem dX10_image_27 : decode cX10_image 27 = .ok (.aload_n 0, 1) := dX10_image_20_b.2.2.2.1
theorem dX10_image_28 : decode cX10_image 28 = .ok (.getfield 333, 3) := dX10_image_20_b.2.2.2.2.1
theorem dX10_image_31 : decode cX10_image 31 = .ok (.putfield 497, 3) := dX10_image_20_b.2.2.2.2.2
set_option maxRecDepth 20000 in
theorem dX10_image_34_b : (decode cX10_image 34 = .ok (.aload_n 0, 1)) ∧ (decode cX10_image 35 = .ok (.aload_n 0, 1)) ∧ (decode cX10_image 36 = .ok (.getfield 336, 3)) ∧ (decode cX10_image 39 = .ok (.putfield 500, 3)) ∧ (decode cX10_image 42 = .ok (.aload_n 0, 1)) ∧ (decode cX10_image 43 = .ok (.getfield 143, 3)) := by decide +kernel
theorem dX10_image_34 : decode cX10_image 34 = .ok (.aload_n 0, 1) := dX10_image_34_b.1
theorem dX10_image_35 : decode cX10_image 35 = .ok (.aload_n 0, 1) := dX10_image_34_b.2.1
theorem dX10_image_36 : decode cX10_image 36 = .ok (.getfield 336, 3) := dX10_image_34_b.2.2.1
theorem dX10_image_39 : decode cX10_image 39 = .ok (.putfield 500, 3) := dX10_image_34_b.2.2.2.1
theorem dX10_image_42 : decode cX10_image 42 = .ok (.aload_n 0, 1) := dX10_image_34_b.2.2.2.2.1
theorem dX10_image_43 : decode cX10_image 43 = .ok (.getfield 143, 3) := dX10_image_34_b.2.2.2.2.2
set_option maxRecDepth 20000 in
theorem dX10_image_46_b : (decode cX10_image 46 = .ok (.aload_n 0, 1)) ∧ (decode cX10_image 47 = .ok (.getfield 87, 3)) ∧ (decode cX10_image 50 = .ok (.invokestatic 503, 3)) ∧ (decode cX10_image 53 = .ok (.aload_n 0, 1)) ∧ (decode cX10_image 54 = .ok (.getfield 146, 3)) ∧ (decode cX10_image 57 = .ok (.aload_n 0, 1)) := by decide +kernel
theorem dX10_image_46 : decode cX10_image 46 = .ok (.aload_n 0, 1) := dX10_image_46_b.1
theorem dX10_image_47 : decode cX10_image 47 = .ok (.getfield 87, 3) := dX10_image_46_b.2.1
theorem dX10_image_50 : decode cX10_image 50 = .ok (.invokestatic 503, 3) := dX10_image_46_b.2.2.1
theorem dX10_image_53 : decode cX10_image 53 = .ok (.aload_n 0, 1) := dX10_image_46_b.2.2.2.1
theorem dX10_image_54 : decode cX10_image 54 = .ok (.getfield 146, 3) := dX10_image_46_b.2.2.2.2.1
theorem dX10_image_57 : decode cX10_image 57 = .ok (.aload_n 0, 1) := dX10_image_46_b.2.2.2.2.2
set_option maxRecDepth 20000 in
theorem dX10_image_58_b : (decode cX10_image 58 = .ok (.getfield 90, 3)) ∧ (decode cX10_image 61 = .ok (.invokestatic 503, 3)) ∧ (decode cX10_image 64 = .ok (.aload_n 0, 1)) ∧ (decode cX10_image 65 = .ok (.getfield 149, 3)) ∧ (decode cX10_image 68 = .ok (.aload_n 0, 1)) ∧ (decode cX10_image 69 = .ok (.getfield 93, 3)) := by decide +kernel
theorem dX10_image_58 : decode cX10_image 58 = .ok (.getfield 90, 3) := dX10_image_58_b.1
theorem dX10_image_61 : decode cX10_image 61 = .ok (.invokestatic 503, 3) := dX10_image_58_b.2.1
theorem dX10_image_64 : decode cX10_image 64 = .ok (.aload_n 0, 1) := dX10_image_58_b.2.2.1
theorem dX10_image_65 : decode cX10_image 65 = .ok (.getfield 149, 3) := dX10_image_58_b.2.2.2.1
theorem dX10_image_68 : decode cX10_image 68 = .ok (.aload_n 0, 1) := dX10_image_58_b.2.2.2.2.1
theorem dX10_image_69 : decode cX10_image 69 = .ok (.getfield 93, 3) := dX10_image_58_b.2.2.2.2.2
set_option maxRecDepth 20000 in
theorem dX10_image_72_b : (decode cX10_image 72 = .ok (.invokestatic 503, 3)) ∧ (decode cX10_image 75 = .ok (.aload_n 0, 1)) ∧ (decode cX10_image 76 = .ok (.getfield 152, 3)) ∧ (decode cX10_image 79 = .ok (.aload_n 0, 1)) ∧ (decode cX10_image 80 = .ok (.getfield 96, 3)) ∧ (decode cX10_image 83 = .ok (.invokestatic 503, 3)) := by decide +kernel
theorem dX10_image_72 : decode cX10_image 72 = .ok (.invokestatic 503, 3) := dX10_image_72_b.1
theorem dX10_image_75 : decode cX10_image 75 = .ok (.aload_n 0, 1) := dX10_image_72_b.2.1
theorem dX10_image_76 : decode cX10_image 76 = .ok (.getfield 152, 3) := dX10_image_72_b.2.2.1
theorem dX10_image_79 : decode cX10_image 79 = .ok (.aload_n 0, 1) := dX10_image_72_b.2.2.2.1
theorem dX10_image_80 : decode cX10_image 80 = .ok (.getfield 96, 3) := dX10_image_72_b.2.2.2.2.1
theorem dX10_image_83 : decode cX10_image 83 = .ok (.invokestatic 503, 3) := dX10_image_72_b.2.2.2.2.2
set_option maxRecDepth 20000 in
theorem dX10_image_86_b : (decode cX10_image 86 = .ok (.aload_n 0, 1)) ∧ (decode cX10_image 87 = .ok (.getfield 155, 3)) ∧ (decode cX10_image 90 = .ok (.aload_n 0, 1)) ∧ (decode cX10_image 91 = .ok (.getfield 99, 3)) ∧ (decode cX10_image 94 = .ok (.invokestatic 503, 3)) ∧ (decode cX10_image 97 = .ok (.aload_n 0, 1)) := by decide +kernel
theorem dX10_image_86 : decode cX10_image 86 = .ok (.aload_n 0, 1) := dX10_image_86_b.1
theorem dX10_image_87 : decode cX10_image 87 = .ok (.getfield 155, 3) := dX10_image_86_b.2.1
theorem dX10_image_90 : decode cX10_image 90 = .ok (.aload_n 0, 1) := dX10_image_86_b.2.2.1
theorem dX10_image_91 : decode cX10_image 91 = .ok (.getfield 99, 3) := dX10_image_86_b.2.2.2.1
theorem dX10_image_94 : decode cX10_image 94 = .ok (.invokestatic 503, 3) := dX10_image_86_b.2.2.2.2.1
theorem dX10_image_97 : decode cX10_image 97 = .ok (.aload_n 0, 1) := dX10_image_86_b.2.2.2.2.2
set_option maxRecDepth 20000 in
theorem dX10_image_98_b : (decode cX10_image 98 = .ok (.getfield 158, 3)) ∧ (decode cX10_image 101 = .ok (.aload_n 0, 1)) ∧ (decode cX10_image 102 = .ok (.getfield 102, 3)) ∧ (decode cX10_image 105 = .ok (.invokestatic 503, 3)) ∧ (decode cX10_image 108 = .ok (.aload_n 0, 1)) ∧ (decode cX10_image 109 = .ok (.getfield 161, 3)) := by decide +kernel
theorem dX10_image_98 : decode cX10_image 98 = .ok (.getfield 158, 3) := dX10_image_98_b.1
theorem dX10_image_101 : decode cX10_image 101 = .ok (.aload_n 0, 1) := dX10_image_98_b.2.1
theorem dX10_image_102 : decode cX10_image 102 = .ok (.getfield 102, 3) := dX10_image_98_b.2.2.1
theorem dX10_image_105 : decode cX10_image 105 = .ok (.invokestatic 503, 3) := dX10_image_98_b.2.2.2.1
theorem dX10_image_108 : decode cX10_image 108 = .ok (.aload_n 0, 1) := dX10_image_98_b.2.2.2.2.1
theorem dX10_image_109 : decode cX10_image 109 = .ok (.getfield 161, 3) := dX10_image_98_b.2.2.2.2.2
set_option maxRecDepth 20000 in
theorem dX10_image_112_b : (decode cX10_image 112 = .ok (.aload_n 0, 1)) ∧ (decode cX10_image 113 = .ok (.getfield 105, 3)) ∧ (decode cX10_image 116 = .ok (.invokestatic 503, 3)) ∧ (decode cX10_image 119 = .ok (.aload_n 0, 1)) ∧ (decode cX10_image 120 = .ok (.getfield 164, 3)) ∧ (decode cX10_image 123 = .ok (.aload_n 0, 1)) := by decide +kernel
theorem dX10_image_112 : decode cX10_image 112 = .ok (.aload_n 0, 1) := dX10_image_112_b.1
theorem dX10_image_113 : decode cX10_image 113 = .ok (.getfield 105, 3) := dX10_image_112_b.2.1
theorem dX10_image_116 : decode cX10_image 116 = .ok (.invokestatic 503, 3) := dX10_image_112_b.2.2.1
theorem dX10_image_119 : decode cX10_image 119 = .ok (.aload_n 0, 1) := dX10_image_112_b.2.2.2.1
theorem dX10_image_120 : decode cX10_image 120 = .ok (.getfield 164, 3) := dX10_image_112_b.2.2.2.2.1
theorem dX10_image_123 : decode cX10_image 123 = .ok (.aload_n 0, 1) := dX10_image_112_b.2.2.2.2.2
set_option maxRecDepth 20000 in
theorem dX10_image_124_b : (decode cX10_image 124 = .ok (.getfield 77, 3)) ∧ (decode cX10_image 127 = .ok (.invokestatic 503, 3)) ∧ (decode cX10_image 130 = .ok (.return_, 1)) := by decide +kernel
theorem dX10_image_124 : decode cX10_image 124 = .ok (.getfield 77, 3) := dX10_image_124_b.1
theorem dX10_image_127 : decode cX10_image 127 = .ok (.invokestatic 503, 3) := dX10_image_124_b.2.1
theorem dX10_image_130 : decode cX10_image 130 = .ok (.return_, 1) := dX10_image_124_b.2.2
set_option maxRecDepth 20000 in
theorem dX10_restore_0_b : (decode cX10_restore 0 = .ok (.aload_n 0, 1)) ∧ (decode cX10_restore 1 = .ok (.iconst 0, 1)) ∧ (decode cX10_restore 2 = .ok (.putfield 171, 3)) ∧ (decode cX10_restore 5 = .ok (.aload_n 0, 1)) ∧ (decode cX10_restore 6 = .ok (.getfield 339, 3)) ∧ (decode cX10_restore 9 = .ok (.ifCond .ne 5, 3)) := by decide +kernel
theorem dX10_restore_0 : decode cX10_restore 0 = .ok (.aload_n 0, 1) := dX10_restore_0_b.1
theorem dX10_restore_1 : decode cX10_restore 1 = .ok (.iconst 0, 1) := dX10_restore_0_b.2.1
theorem dX10_restore_2 : decode cX10_restore 2 = .ok (.putfield 171, 3) := dX10_restore_0_b.2.2.1
theorem dX10_restore_5 : decode cX10_restore 5 = .ok (.aload_n 0, 1) := dX10_restore_0_b.2.2.2.1
theorem dX10_restore_6 : decode cX10_restore 6 = .ok (.getfield 339, 3) := dX10_restore_0_b.2.2.2.2.1
theorem dX10_restore_9 : decode cX10_restore 9 = .ok (.ifCond .ne 5, 3) := dX10_restore_0_b.2.2.2.2.2
set_option maxRecDepth 20000 in
theorem dX10_restore_12_b : (decode cX10_restore 12 = .ok (.iconst 0, 1)) ∧ (decode cX10_restore 13 = .ok (.ireturn, 1)) ∧ (decode cX10_restore 14 = .ok (.aload_n 0, 1)) ∧ (decode cX10_restore 15 = .ok (.aload_n 0, 1)) ∧ (decode cX10_restore 16 = .ok (.getfield 491, 3)) ∧ (decode cX10_restore 19 = .ok (.putfield 327, 3)) := by decide +kernel
theorem dX10_restore_12 : decode cX10_restore 12 = .ok (.iconst 0, 1) := dX10_restore_12_b.1
theorem dX10_restore_13 : decode cX10_restore 13 = .ok (.ireturn, 1) := dX10_restore_12_b.2.1
theorem dX10_restore_14 : decode cX10_restore 14 = .ok (.aload_n 0, 1) := dX10_restore_12_b.2.2.1
theorem dX10_restore_15 : decode cX10_restore 15 = .ok (.aload_n 0, 1) := dX10_restore_12_b.2.2.2.1
theorem dX10_restore_16 : decode cX10_restore 16 = .ok (.getfield 491, 3) := dX10_restore_12_b.2.2.2.2.1
theorem dX10_restore_19 : decode cX10_restore 19 = .ok (.putfield 327, 3) := dX10_restore_12_b.2.2.2.2.2
set_option maxRecDepth 20000 in
theorem dX10_restore_22_b : (decode cX10_restore 22 = .ok (.aload_n 0, 1)) ∧ (decode cX10_restore 23 = .ok (.aload_n 0, 1)) ∧ (decode cX10_restore 24 = .ok (.getfield 494, 3)) ∧ (decode cX10_restore 27 = .ok (.putfield 330, 3)) ∧ (decode cX10_restore 30 = .ok (.aload_n 0, 1)) ∧ (decode cX10_restore 31 = .ok (.aload_n 0, 1)) := by decide +kernel
theorem dX10_restore_22 : decode cX10_restore 22 = .ok (.aload_n 0, 1) := dX10_restore_22_b.1
theorem dX10_restore_23 : decode cX10_restore 23 = .ok (.aload_n 0, 1) := dX10_restore_22_b.2.1
theorem dX10_restore_24 : decode cX10_restore 24 = .ok (.getfield 494, 3) := dX10_restore_22_b.2.2.1
theorem dX10_restore_27 : decode cX10_restore 27 = .ok (.putfield 330, 3) := dX10_restore_22_b.2.2.2.1
theorem dX10_restore_30 : decode cX10_restore 30 = .ok (.aload_n 0, 1) := dX10_restore_22_b.2.2.2.2.1
theorem dX10_restore_31 : decode cX10_restore 31 = .ok (.aload_n 0, 1) := dX10_restore_22_b.2.2.2.2.2
set_option maxRecDepth 20000 in
theorem dX10_restore_32_b : (decode cX10_restore 32 = .ok (.getfield 497, 3)) ∧ (decode cX10_restore 35 = .ok (.putfield 333, 3)) ∧ (decode cX10_restore 38 = .ok (.aload_n 0, 1)) ∧ (decode cX10_restore 39 = .ok (.aload_n 0, 1)) ∧ (decode cX10_restore 40 = .ok (.getfield 500, 3)) ∧ (decode cX10_restore 43 = .ok (.putfield 336, 3)) := by decide +kernel
theorem dX10_restore_32 : decode cX10_restore 32 = .ok (.getfield 497, 3) := dX10_restore_32_b.1
theorem dX10_restore_35 : decode cX10_restore 35 = .ok (.putfield 333, 3) := dX10_restore_32_b.2.1
theorem dX10_restore_38 : decode cX10_restore 38 = .ok (.aload_n 0, 1) := dX10_restore_32_b.2.2.1
theorem dX10_restore_39 : decode cX10_restore 39 = .ok (.aload_n 0, 1) := dX10_restore_32_b.2.2.2.1
theorem dX10_restore_40 : decode cX10_restore 40 = .ok (.getfield 500, 3) := dX10_restore_32_b.2.2.2.2.1
theorem dX10_restore_43 : decode cX10_restore 43 = .ok (.putfield 336, 3) := dX10_restore_32_b.2.2.2.2.2
set_option maxRecDepth 20000 in
theorem dX10_restore_46_b : (decode cX10_restore 46 = .ok (.aload_n 0, 1)) ∧ (decode cX10_restore 47 = .ok (.getfield 87, 3)) ∧ (decode cX10_restore 50 = .ok (.aload_n 0, 1)) ∧ (decode cX10_restore 51 = .ok (.getfield 143, 3)) ∧ (decode cX10_restore 54 = .ok (.invokestatic 503, 3)) ∧ (decode cX10_restore 57 = .ok (.aload_n 0, 1)) := by decide +kernel
theorem dX10_restore_46 : decode cX10_restore 46 = .ok (.aload_n 0, 1) := dX10_restore_46_b.1
theorem dX10_restore_47 : decode cX10_restore 47 = .ok (.getfield 87, 3) := dX10_restore_46_b.2.1
theorem dX10_restore_50 : decode cX10_restore 50 = .ok (.aload_n 0, 1) := dX10_restore_46_b.2.2.1
theorem dX10_restore_51 : decode cX10_restore 51 = .ok (.getfield 143, 3) := dX10_restore_46_b.2.2.2.1
theorem dX10_restore_54 : decode cX10_restore 54 = .ok (.invokestatic 503, 3) := dX10_restore_46_b.2.2.2.2.1
theorem dX10_restore_57 : decode cX10_restore 57 = .ok (.aload_n 0, 1) := dX10_restore_46_b.2.2.2.2.2
set_option maxRecDepth 20000 in
theorem dX10_restore_58_b : (decode cX10_restore 58 = .ok (.getfield 90, 3)) ∧ (decode cX10_restore 61 = .ok (.aload_n 0, 1)) ∧ (decode cX10_restore 62 = .ok (.getfield 146, 3)) ∧ (decode cX10_restore 65 = .ok (.invokestatic 503, 3)) ∧ (decode cX10_restore 68 = .ok (.aload_n 0, 1)) ∧ (decode cX10_restore 69 = .ok (.getfield 93, 3)) := by decide +kernel
theorem dX10_restore_58 : decode cX10_restore 58 = .ok (.getfield 90, 3) := dX10_restore_58_b.1
theorem dX10_restore_61 : decode cX10_restore 61 = .ok (.aload_n 0, 1) := dX10_restore_58_b.2.1
theorem dX10_restore_62 : decode cX10_restore 62 = .ok (.getfield 146, 3) := dX10_restore_58_b.2.2.1
theorem dX10_restore_65 : decode cX10_restore 65 = .ok (.invokestatic 503, 3) := dX10_restore_58_b.2.2.2.1
theorem dX10_restore_68 : decode cX10_restore 68 = .ok (.aload_n 0, 1) := dX10_restore_58_b.2.2.2.2.1
theorem dX10_restore_69 : decode cX10_restore 69 = .ok (.getfield 93, 3) := dX10_restore_58_b.2.2.2.2.2
set_option maxRecDepth 20000 in
theorem dX10_restore_72_b : (decode cX10_restore 72 = .ok (.aload_n 0, 1)) ∧ (decode cX10_restore 73 = .ok (.getfield 149, 3)) ∧ (decode cX10_restore 76 = .ok (.invokestatic 503, 3)) ∧ (decode cX10_restore 79 = .ok (.aload_n 0, 1)) ∧ (decode cX10_restore 80 = .ok (.getfield 96, 3)) ∧ (decode cX10_restore 83 = .ok (.aload_n 0, 1)) := by decide +kernel
theorem dX10_restore_72 : decode cX10_restore 72 = .ok (.aload_n 0, 1) := dX10_restore_72_b.1
theorem dX10_restore_73 : decode cX10_restore 73 = .ok (.getfield 149, 3) := dX10_restore_72_b.2.1
theorem dX10_restore_76 : decode cX10_restore 76 = .ok (.invokestatic 503, 3) := dX10_restore_72_b.2.2.1
theorem dX10_restore_79 : decode cX10_restore 79 = .ok (.aload_n 0, 1) := dX10_restore_72_b.2.2.2.1
theorem dX10_restore_80 : decode cX10_restore 80 = .ok (.getfield 96, 3) := dX10_restore_72_b.2.2.2.2.1
theorem dX10_restore_83 : decode cX10_restore 83 = .ok (.aload_n 0, 1) := dX10_restore_72_b.2.2.2.2.2
set_option maxRecDepth 20000 in
theorem dX10_restore_84_b : (decode cX10_restore 84 = .ok (.getfield 152, 3)) ∧ (decode cX10_restore 87 = .ok (.invokestatic 503, 3)) ∧ (decode cX10_restore 90 = .ok (.aload_n 0, 1)) ∧ (decode cX10_restore 91 = .ok (.getfield 99, 3)) ∧ (decode cX10_restore 94 = .ok (.aload_n 0, 1)) ∧ (decode cX10_restore 95 = .ok (.getfield 155, 3)) := by decide +kernel
theorem dX10_restore_84 : decode cX10_restore 84 = .ok (.getfield 152, 3) := dX10_restore_84_b.1
theorem dX10_restore_87 : decode cX10_restore 87 = .ok (.invokestatic 503, 3) := dX10_restore_84_b.2.1
theorem dX10_restore_90 : decode cX10_restore 90 = .ok (.aload_n 0, 1) := dX10_restore_84_b.2.2.1
theorem dX10_restore_91 : decode cX10_restore 91 = .ok (.getfield 99, 3) := dX10_restore_84_b.2.2.2.1
theorem dX10_restore_94 : decode cX10_restore 94 = .ok (.aload_n 0, 1) := dX10_restore_84_b.2.2.2.2.1
theorem dX10_restore_95 : decode cX10_restore 95 = .ok (.getfield 155, 3) := dX10_restore_84_b.2.2.2.2.2
set_option maxRecDepth 20000 in
theorem dX10_restore_98_b : (decode cX10_restore 98 = .ok (.invokestatic 503, 3)) ∧ (decode cX10_restore 101 = .ok (.aload_n 0, 1)) ∧ (decode cX10_restore 102 = .ok (.getfield 102, 3)) ∧ (decode cX10_restore 105 = .ok (.aload_n 0, 1)) ∧ (decode cX10_restore 106 = .ok (.getfield 158, 3)) ∧ (decode cX10_restore 109 = .ok (.invokestatic 503, 3)) := by decide +kernel
theorem dX10_restore_98 : decode cX10_restore 98 = .ok (.invokestatic 503, 3) := dX10_restore_98_b.1
theorem dX10_restore_101 : decode cX10_restore 101 = .ok (.aload_n 0, 1) := dX10_restore_98_b.2.1
theorem dX10_restore_102 : decode cX10_restore 102 = .ok (.getfield 102, 3) := dX10_restore_98_b.2.2.1
theorem dX10_restore_105 : decode cX10_restore 105 = .ok (.aload_n 0, 1) := dX10_restore_98_b.2.2.2.1
theorem dX10_restore_106 : decode cX10_restore 106 = .ok (.getfield 158, 3) := dX10_restore_98_b.2.2.2.2.1
theorem dX10_restore_109 : decode cX10_restore 109 = .ok (.invokestatic 503, 3) := dX10_restore_98_b.2.2.2.2.2
set_option maxRecDepth 20000 in
theorem dX10_restore_112_b : (decode cX10_restore 112 = .ok (.aload_n 0, 1)) ∧ (decode cX10_restore 113 = .ok (.getfield 105, 3)) ∧ (decode cX10_restore 116 = .ok (.aload_n 0, 1)) ∧ (decode cX10_restore 117 = .ok (.getfield 161, 3)) ∧ (decode cX10_restore 120 = .ok (.invokestatic 503, 3)) ∧ (decode cX10_restore 123 = .ok (.aload_n 0, 1)) := by decide +kernel
theorem dX10_restore_112 : decode cX10_restore 112 = .ok (.aload_n 0, 1) := dX10_restore_112_b.1
theorem dX10_restore_113 : decode cX10_restore 113 = .ok (.getfield 105, 3) := dX10_restore_112_b.2.1
theorem dX10_restore_116 : decode cX10_restore 116 = .ok (.aload_n 0, 1) := dX10_restore_112_b.2.2.1
theorem dX10_restore_117 : decode cX10_restore 117 = .ok (.getfield 161, 3) := dX10_restore_112_b.2.2.2.1
theorem dX10_restore_120 : decode cX10_restore 120 = .ok (.invokestatic 503, 3) := dX10_restore_112_b.2.2.2.2.1
theorem dX10_restore_123 : decode cX10_restore 123 = .ok (.aload_n 0, 1) := dX10_restore_112_b.2.2.2.2.2
set_option maxRecDepth 20000 in
theorem dX10_restore_124_b : (decode cX10_restore 124 = .ok (.getfield 77, 3)) ∧ (decode cX10_restore 127 = .ok (.aload_n 0, 1)) ∧ (decode cX10_restore 128 = .ok (.getfield 164, 3)) ∧ (decode cX10_restore 131 = .ok (.invokestatic 503, 3)) ∧ (decode cX10_restore 134 = .ok (.iconst 1, 1)) ∧ (decode cX10_restore 135 = .ok (.ireturn, 1)) := by decide +kernel
theorem dX10_restore_124 : decode cX10_restore 124 = .ok (.getfield 77, 3) := dX10_restore_124_b.1
theorem dX10_restore_127 : decode cX10_restore 127 = .ok (.aload_n 0, 1) := dX10_restore_124_b.2.1
theorem dX10_restore_128 : decode cX10_restore 128 = .ok (.getfield 164, 3) := dX10_restore_124_b.2.2.1
theorem dX10_restore_131 : decode cX10_restore 131 = .ok (.invokestatic 503, 3) := dX10_restore_124_b.2.2.2.1
theorem dX10_restore_134 : decode cX10_restore 134 = .ok (.iconst 1, 1) := dX10_restore_124_b.2.2.2.2.1
theorem dX10_restore_135 : decode cX10_restore 135 = .ok (.ireturn, 1) := dX10_restore_124_b.2.2.2.2.2
set_option maxRecDepth 20000 in
theorem dJx29ce0_ordinal_8abf5_0_b : (decode cJx29ce0_ordinal_8abf5 0 = .ok (.aload_n 0, 1)) ∧ (decode cJx29ce0_ordinal_8abf5 1 = .ok (.getfield 7, 3)) ∧ (decode cJx29ce0_ordinal_8abf5 4 = .ok (.ireturn, 1)) := by decide +kernel
theorem dJx29ce0_ordinal_8abf5_0 : decode cJx29ce0_ordinal_8abf5 0 = .ok (.aload_n 0, 1) := dJx29ce0_ordinal_8abf5_0_b.1
theorem dJx29ce0_ordinal_8abf5_1 : decode cJx29ce0_ordinal_8abf5 1 = .ok (.getfield 7, 3) := dJx29ce0_ordinal_8abf5_0_b.2.1
theorem dJx29ce0_ordinal_8abf5_4 : decode cJx29ce0_ordinal_8abf5 4 = .ok (.ireturn, 1) := dJx29ce0_ordinal_8abf5_0_b.2.2
set_option maxRecDepth 20000 in
theorem dJ6_bitCount_0f7a4_0_b : (decode cJ6_bitCount_0f7a4 0 = .ok (.iload_n 0, 1)) ∧ (decode cJ6_bitCount_0f7a4 1 = .ok (.iload_n 0, 1)) ∧ (decode cJ6_bitCount_0f7a4 2 = .ok (.iconst 1, 1)) ∧ (decode cJ6_bitCount_0f7a4 3 = .ok (.iushr, 1)) ∧ (decode cJ6_bitCount_0f7a4 4 = .ok (.ldc_w 265, 3)) ∧ (decode cJ6_bitCount_0f7a4 7 = .ok (.iand, 1)) := by decide +kernel
theorem dJ6_bitCount_0f7a4_0 : decode cJ6_bitCount_0f7a4 0 = .ok (.iload_n 0, 1) := dJ6_bitCount_0f7a4_0_b.1
theorem dJ6_bitCount_0f7a4_1 : decode cJ6_bitCount_0f7a4 1 = .ok (.iload_n 0, 1) := dJ6_bitCount_0f7a4_0_b.2.1
theorem dJ6_bitCount_0f7a4_2 : decode cJ6_bitCount_0f7a4 2 = .ok (.iconst 1, 1) := dJ6_bitCount_0f7a4_0_b.2.2.1
theorem dJ6_bitCount_0f7a4_3 : decode cJ6_bitCount_0f7a4 3 = .ok (.iushr, 1) := dJ6_bitCount_0f7a4_0_b.2.2.2.1
theorem dJ6_bitCount_0f7a4_4 : decode cJ6_bitCount_0f7a4 4 = .ok (.ldc_w 265, 3) := dJ6_bitCount_0f7a4_0_b.2.2.2.2.1
theorem dJ6_bitCount_0f7a4_7 : decode cJ6_bitCount_0f7a4 7 = .ok (.iand, 1) := dJ6_bitCount_0f7a4_0_b.2.2.2.2.2
set_option maxRecDepth 20000 in
theorem dJ6_bitCount_0f7a4_8_b : (decode cJ6_bitCount_0f7a4 8 = .ok (.isub, 1)) ∧ (decode cJ6_bitCount_0f7a4 9 = .ok (.istore_n 0, 1)) ∧ (decode cJ6_bitCount_0f7a4 10 = .ok (.iload_n 0, 1)) ∧ (decode cJ6_bitCount_0f7a4 11 = .ok (.ldc_w 266, 3)) ∧ (decode cJ6_bitCount_0f7a4 14 = .ok (.iand, 1)) ∧ (decode cJ6_bitCount_0f7a4 15 = .ok (.iload_n 0, 1)) := by decide +kernel
theorem dJ6_bitCount_0f7a4_8 : decode cJ6_bitCount_0f7a4 8 = .ok (.isub, 1) := dJ6_bitCount_0f7a4_8_b.1
theorem dJ6_bitCount_0f7a4_9 : decode cJ6_bitCount_0f7a4 9 = .ok (.istore_n 0, 1) := dJ6_bitCount_0f7a4_8_b.2.1
theorem dJ6_bitCount_0f7a4_10 : decode cJ6_bitCount_0f7a4 10 = .ok (.iload_n 0, 1) := dJ6_bitCount_0f7a4_8_b.2.2.1
theorem dJ6_bitCount_0f7a4_11 : decode cJ6_bitCount_0f7a4 11 = .ok (.ldc_w 266, 3) := dJ6_bitCount_0f7a4_8_b.2.2.2.1
theorem dJ6_bitCount_0f7a4_14 : decode cJ6_bitCount_0f7a4 14 = .ok (.iand, 1) := dJ6_bitCount_0f7a4_8_b.2.2.2.2.1
theorem dJ6_bitCount_0f7a4_15 : decode cJ6_bitCount_0f7a4 15 = .ok (.iload_n 0, 1) := dJ6_bitCount_0f7a4_8_b.2.2.2.2.2
set_option maxRecDepth 20000 in
theorem dJ6_bitCount_0f7a4_16_b : (decode cJ6_bitCount_0f7a4 16 = .ok (.iconst 2, 1)) ∧ (decode cJ6_bitCount_0f7a4 17 = .ok (.iushr, 1)) ∧ (decode cJ6_bitCount_0f7a4 18 = .ok (.ldc_w 266, 3)) ∧ (decode cJ6_bitCount_0f7a4 21 = .ok (.iand, 1)) ∧ (decode cJ6_bitCount_0f7a4 22 = .ok (.iadd, 1)) ∧ (decode cJ6_bitCount_0f7a4 23 = .ok (.istore_n 0, 1)) := by decide +kernel
theorem dJ6_bitCount_0f7a4_16 : decode cJ6_bitCount_0f7a4 16 = .ok (.iconst 2, 1) := dJ6_bitCount_0f7a4_16_b.1
theorem dJ6_bitCount_0f7a4_17 : decode cJ6_bitCount_0f7a4 17 = .ok (.iushr, 1) := dJ6_bitCount_0f7a4_16_b.2.1
theorem dJ6_bitCount_0f7a4_18 : decode cJ6_bitCount_0f7a4 18 = .ok (.ldc_w 266, 3) := dJ6_bitCount_0f7a4_16_b.2.2.1
theorem dJ6_bitCount_0f7a4_21 : decode cJ6_bitCount_0f7a4 21 = .ok (.iand, 1) := dJ6_bitCount_0f7a4_16_b.2.2.2.1
theorem dJ6_bitCount_0f7a4_22 : decode cJ6_bitCount_0f7a4 22 = .ok (.iadd, 1) := dJ6_bitCount_0f7a4_16_b.2.2.2.2.1
theorem dJ6_bitCount_0f7a4_23 : decode cJ6_bitCount_0f7a4 23 = .ok (.istore_n 0, 1) := dJ6_bitCount_0f7a4_16_b.2.2.2.2.2
set_option maxRecDepth 20000 in
theorem dJ6_bitCount_0f7a4_24_b : (decode cJ6_bitCount_0f7a4 24 = .ok (.iload_n 0, 1)) ∧ (decode cJ6_bitCount_0f7a4 25 = .ok (.iload_n 0, 1)) ∧ (decode cJ6_bitCount_0f7a4 26 = .ok (.iconst 4, 1)) ∧ (decode cJ6_bitCount_0f7a4 27 = .ok (.iushr, 1)) ∧ (decode cJ6_bitCount_0f7a4 28 = .ok (.iadd, 1)) ∧ (decode cJ6_bitCount_0f7a4 29 = .ok (.ldc_w 267, 3)) := by decide +kernel
theorem dJ6_bitCount_0f7a4_24 : decode cJ6_bitCount_0f7a4 24 = .ok (.iload_n 0, 1) := dJ6_bitCount_0f7a4_24_b.1
theorem dJ6_bitCount_0f7a4_25 : decode cJ6_bitCount_0f7a4 25 = .ok (.iload_n 0, 1) := dJ6_bitCount_0f7a4_24_b.2.1
theorem dJ6_bitCount_0f7a4_26 : decode cJ6_bitCount_0f7a4 26 = .ok (.iconst 4, 1) := dJ6_bitCount_0f7a4_24_b.2.2.1
theorem dJ6_bitCount_0f7a4_27 : decode cJ6_bitCount_0f7a4 27 = .ok (.iushr, 1) := dJ6_bitCount_0f7a4_24_b.2.2.2.1
theorem dJ6_bitCount_0f7a4_28 : decode cJ6_bitCount_0f7a4 28 = .ok (.iadd, 1) := dJ6_bitCount_0f7a4_24_b.2.2.2.2.1
theorem dJ6_bitCount_0f7a4_29 : decode cJ6_bitCount_0f7a4 29 = .ok (.ldc_w 267, 3) := dJ6_bitCount_0f7a4_24_b.2.2.2.2.2
set_option maxRecDepth 20000 in
theorem dJ6_bitCount_0f7a4_32_b : (decode cJ6_bitCount_0f7a4 32 = .ok (.iand, 1)) ∧ (decode cJ6_bitCount_0f7a4 33 = .ok (.istore_n 0, 1)) ∧ (decode cJ6_bitCount_0f7a4 34 = .ok (.iload_n 0, 1)) ∧ (decode cJ6_bitCount_0f7a4 35 = .ok (.iload_n 0, 1)) ∧ (decode cJ6_bitCount_0f7a4 36 = .ok (.bipush 8, 2)) ∧ (decode cJ6_bitCount_0f7a4 38 = .ok (.iushr, 1)) := by decide +kernel
theorem dJ6_bitCount_0f7a4_32 : decode cJ6_bitCount_0f7a4 32 = .ok (.iand, 1) := dJ6_bitCount_0f7a4_32_b.1
theorem dJ6_bitCount_0f7a4_33 : decode cJ6_bitCount_0f7a4 33 = .ok (.istore_n 0, 1) := dJ6_bitCount_0f7a4_32_b.2.1
theorem dJ6_bitCount_0f7a4_34 : decode cJ6_bitCount_0f7a4 34 = .ok (.iload_n 0, 1) := dJ6_bitCount_0f7a4_32_b.2.2.1
theorem dJ6_bitCount_0f7a4_35 : decode cJ6_bitCount_0f7a4 35 = .ok (.iload_n 0, 1) := dJ6_bitCount_0f7a4_32_b.2.2.2.1
theorem dJ6_bitCount_0f7a4_36 : decode cJ6_bitCount_0f7a4 36 = .ok (.bipush 8, 2) := dJ6_bitCount_0f7a4_32_b.2.2.2.2.1
theorem dJ6_bitCount_0f7a4_38 : decode cJ6_bitCount_0f7a4 38 = .ok (.iushr, 1) := dJ6_bitCount_0f7a4_32_b.2.2.2.2.2
set_option maxRecDepth 20000 in
theorem dJ6_bitCount_0f7a4_39_b : (decode cJ6_bitCount_0f7a4 39 = .ok (.iadd, 1)) ∧ (decode cJ6_bitCount_0f7a4 40 = .ok (.istore_n 0, 1)) ∧ (decode cJ6_bitCount_0f7a4 41 = .ok (.iload_n 0, 1)) ∧ (decode cJ6_bitCount_0f7a4 42 = .ok (.iload_n 0, 1)) ∧ (decode cJ6_bitCount_0f7a4 43 = .ok (.bipush 16, 2)) ∧ (decode cJ6_bitCount_0f7a4 45 = .ok (.iushr, 1)) := by decide +kernel
theorem dJ6_bitCount_0f7a4_39 : decode cJ6_bitCount_0f7a4 39 = .ok (.iadd, 1) := dJ6_bitCount_0f7a4_39_b.1
theorem dJ6_bitCount_0f7a4_40 : decode cJ6_bitCount_0f7a4 40 = .ok (.istore_n 0, 1) := dJ6_bitCount_0f7a4_39_b.2.1
theorem dJ6_bitCount_0f7a4_41 : decode cJ6_bitCount_0f7a4 41 = .ok (.iload_n 0, 1) := dJ6_bitCount_0f7a4_39_b.2.2.1
theorem dJ6_bitCount_0f7a4_42 : decode cJ6_bitCount_0f7a4 42 = .ok (.iload_n 0, 1) := dJ6_bitCount_0f7a4_39_b.2.2.2.1
theorem dJ6_bitCount_0f7a4_43 : decode cJ6_bitCount_0f7a4 43 = .ok (.bipush 16, 2) := dJ6_bitCount_0f7a4_39_b.2.2.2.2.1
theorem dJ6_bitCount_0f7a4_45 : decode cJ6_bitCount_0f7a4 45 = .ok (.iushr, 1) := dJ6_bitCount_0f7a4_39_b.2.2.2.2.2
set_option maxRecDepth 20000 in
theorem dJ6_bitCount_0f7a4_46_b : (decode cJ6_bitCount_0f7a4 46 = .ok (.iadd, 1)) ∧ (decode cJ6_bitCount_0f7a4 47 = .ok (.istore_n 0, 1)) ∧ (decode cJ6_bitCount_0f7a4 48 = .ok (.iload_n 0, 1)) ∧ (decode cJ6_bitCount_0f7a4 49 = .ok (.bipush 63, 2)) ∧ (decode cJ6_bitCount_0f7a4 51 = .ok (.iand, 1)) ∧ (decode cJ6_bitCount_0f7a4 52 = .ok (.ireturn, 1)) := by decide +kernel
theorem dJ6_bitCount_0f7a4_46 : decode cJ6_bitCount_0f7a4 46 = .ok (.iadd, 1) := dJ6_bitCount_0f7a4_46_b.1
theorem dJ6_bitCount_0f7a4_47 : decode cJ6_bitCount_0f7a4 47 = .ok (.istore_n 0, 1) := dJ6_bitCount_0f7a4_46_b.2.1
theorem dJ6_bitCount_0f7a4_48 : decode cJ6_bitCount_0f7a4 48 = .ok (.iload_n 0, 1) := dJ6_bitCount_0f7a4_46_b.2.2.1
theorem dJ6_bitCount_0f7a4_49 : decode cJ6_bitCount_0f7a4 49 = .ok (.bipush 63, 2) := dJ6_bitCount_0f7a4_46_b.2.2.2.1
theorem dJ6_bitCount_0f7a4_51 : decode cJ6_bitCount_0f7a4 51 = .ok (.iand, 1) := dJ6_bitCount_0f7a4_46_b.2.2.2.2.1
theorem dJ6_bitCount_0f7a4_52 : decode cJ6_bitCount_0f7a4 52 = .ok (.ireturn, 1) := dJ6_bitCount_0f7a4_46_b.2.2.2.2.2
set_option maxRecDepth 20000 in
theorem dJ0_length_8abf5_0_b : (decode cJ0_length_8abf5 0 = .ok (.aload_n 0, 1)) ∧ (decode cJ0_length_8abf5 1 = .ok (.getfield 9, 3)) ∧ (decode cJ0_length_8abf5 4 = .ok (.arraylength, 1)) ∧ (decode cJ0_length_8abf5 5 = .ok (.aload_n 0, 1)) ∧ (decode cJ0_length_8abf5 6 = .ok (.invokevirtual 335, 3)) ∧ (decode cJ0_length_8abf5 9 = .ok (.ishr, 1)) := by decide +kernel
theorem dJ0_length_8abf5_0 : decode cJ0_length_8abf5 0 = .ok (.aload_n 0, 1) := dJ0_length_8abf5_0_b.1
theorem dJ0_length_8abf5_1 : decode cJ0_length_8abf5 1 = .ok (.getfield 9, 3) := dJ0_length_8abf5_0_b.2.1
theorem dJ0_length_8abf5_4 : decode cJ0_length_8abf5 4 = .ok (.arraylength, 1) := dJ0_length_8abf5_0_b.2.2.1
theorem dJ0_length_8abf5_5 : decode cJ0_length_8abf5 5 = .ok (.aload_n 0, 1) := dJ0_length_8abf5_0_b.2.2.2.1
theorem dJ0_length_8abf5_6 : decode cJ0_length_8abf5 6 = .ok (.invokevirtual 335, 3) := dJ0_length_8abf5_0_b.2.2.2.2.1
theorem dJ0_length_8abf5_9 : decode cJ0_length_8abf5 9 = .ok (.ishr, 1) := dJ0_length_8abf5_0_b.2.2.2.2.2
theorem dJ0_length_8abf5_10 : decode cJ0_length_8abf5 10 = .ok (.ireturn, 1) := by decide +kernel
set_option maxRecDepth 20000 in
theorem dJ0_charAt_5068e_0_b : (decode cJ0_charAt_5068e 0 = .ok (.aload_n 0, 1)) ∧ (decode cJ0_charAt_5068e 1 = .ok (.invokevirtual 492, 3)) ∧ (decode cJ0_charAt_5068e 4 = .ok (.ifCond .eq 12, 3)) ∧ (decode cJ0_charAt_5068e 7 = .ok (.aload_n 0, 1)) ∧ (decode cJ0_charAt_5068e 8 = .ok (.getfield 9, 3)) ∧ (decode cJ0_charAt_5068e 11 = .ok (.iload_n 1, 1)) := by decide +kernel
theorem dJ0_charAt_5068e_0 : decode cJ0_charAt_5068e 0 = .ok (.aload_n 0, 1) := dJ0_charAt_5068e_0_b.1
theorem dJ0_charAt_5068e_1 : decode cJ0_charAt_5068e 1 = .ok (.invokevirtual 492, 3) := dJ0_charAt_5068e_0_b.2.1
theorem dJ0_charAt_5068e_4 : decode cJ0_charAt_5068e 4 = .ok (.ifCond .eq 12, 3) := dJ0_charAt_5068e_0_b.2.2.1
theorem dJ0_charAt_5068e_7 : decode cJ0_charAt_5068e 7 = .ok (.aload_n 0, 1) := dJ0_charAt_5068e_0_b.2.2.2.1
theorem dJ0_charAt_5068e_8 : decode cJ0_charAt_5068e 8 = .ok (.getfield 9, 3) := dJ0_charAt_5068e_0_b.2.2.2.2.1
theorem dJ0_charAt_5068e_11 : decode cJ0_charAt_5068e 11 = .ok (.iload_n 1, 1) := dJ0_charAt_5068e_0_b.2.2.2.2.2
set_option maxRecDepth 20000 in
theorem dJ0_charAt_5068e_12_b : (decode cJ0_charAt_5068e 12 = .ok (.invokestatic 495, 3)) ∧ (decode cJ0_charAt_5068e 15 = .ok (.ireturn, 1)) ∧ (decode cJ0_charAt_5068e 16 = .ok (.aload_n 0, 1)) ∧ (decode cJ0_charAt_5068e 17 = .ok (.getfield 9, 3)) ∧ (decode cJ0_charAt_5068e 20 = .ok (.iload_n 1, 1)) ∧ (decode cJ0_charAt_5068e 21 = .ok (.invokestatic 498, 3)) := by decide +kernel
theorem dJ0_charAt_5068e_12 : decode cJ0_charAt_5068e 12 = .ok (.invokestatic 495, 3) := dJ0_charAt_5068e_12_b.1
theorem dJ0_charAt_5068e_15 : decode cJ0_charAt_5068e 15 = .ok (.ireturn, 1) := dJ0_charAt_5068e_12_b.2.1
theorem dJ0_charAt_5068e_16 : decode cJ0_charAt_5068e 16 = .ok (.aload_n 0, 1) := dJ0_charAt_5068e_12_b.2.2.1
theorem dJ0_charAt_5068e_17 : decode cJ0_charAt_5068e 17 = .ok (.getfield 9, 3) := dJ0_charAt_5068e_12_b.2.2.2.1
theorem dJ0_charAt_5068e_20 : decode cJ0_charAt_5068e 20 = .ok (.iload_n 1, 1) := dJ0_charAt_5068e_12_b.2.2.2.2.1
theorem dJ0_charAt_5068e_21 : decode cJ0_charAt_5068e 21 = .ok (.invokestatic 498, 3) := dJ0_charAt_5068e_12_b.2.2.2.2.2
theorem dJ0_charAt_5068e_24 : decode cJ0_charAt_5068e 24 = .ok (.ireturn, 1) := by decide +kernel
set_option maxRecDepth 20000 in
theorem dJ0_coder_7d493_0_b : (decode cJ0_coder_7d493 0 = .ok (.getstatic 38, 3)) ∧ (decode cJ0_coder_7d493 3 = .ok (.ifCond .eq 10, 3)) ∧ (decode cJ0_coder_7d493 6 = .ok (.aload_n 0, 1)) ∧ (decode cJ0_coder_7d493 7 = .ok (.getfield 15, 3)) ∧ (decode cJ0_coder_7d493 10 = .ok (.goto 4, 3)) ∧ (decode cJ0_coder_7d493 13 = .ok (.iconst 1, 1)) := by decide +kernel
theorem dJ0_coder_7d493_0 : decode cJ0_coder_7d493 0 = .ok (.getstatic 38, 3) := dJ0_coder_7d493_0_b.1
theorem dJ0_coder_7d493_3 : decode cJ0_coder_7d493 3 = .ok (.ifCond .eq 10, 3) := dJ0_coder_7d493_0_b.2.1
theorem dJ0_coder_7d493_6 : decode cJ0_coder_7d493 6 = .ok (.aload_n 0, 1) := dJ0_coder_7d493_0_b.2.2.1
theorem dJ0_coder_7d493_7 : decode cJ0_coder_7d493 7 = .ok (.getfield 15, 3) := dJ0_coder_7d493_0_b.2.2.2.1
theorem dJ0_coder_7d493_10 : decode cJ0_coder_7d493 10 = .ok (.goto 4, 3) := dJ0_coder_7d493_0_b.2.2.2.2.1
theorem dJ0_coder_7d493_13 : decode cJ0_coder_7d493 13 = .ok (.iconst 1, 1) := dJ0_coder_7d493_0_b.2.2.2.2.2
theorem dJ0_coder_7d493_14 : decode cJ0_coder_7d493 14 = .ok (.ireturn, 1) := by decide +kernel
set_option maxRecDepth 20000 in
theorem dJ0_isLatin1_aae02_0_b : (decode cJ0_isLatin1_aae02 0 = .ok (.getstatic 38, 3)) ∧ (decode cJ0_isLatin1_aae02 3 = .ok (.ifCond .eq 14, 3)) ∧ (decode cJ0_isLatin1_aae02 6 = .ok (.aload_n 0, 1)) ∧ (decode cJ0_isLatin1_aae02 7 = .ok (.getfield 15, 3)) ∧ (decode cJ0_isLatin1_aae02 10 = .ok (.ifCond .ne 7, 3)) ∧ (decode cJ0_isLatin1_aae02 13 = .ok (.iconst 1, 1)) := by decide +kernel
theorem dJ0_isLatin1_aae02_0 : decode cJ0_isLatin1_aae02 0 = .ok (.getstatic 38, 3) := dJ0_isLatin1_aae02_0_b.1
theorem dJ0_isLatin1_aae02_3 : decode cJ0_isLatin1_aae02 3 = .ok (.ifCond .eq 14, 3) := dJ0_isLatin1_aae02_0_b.2.1
theorem dJ0_isLatin1_aae02_6 : decode cJ0_isLatin1_aae02 6 = .ok (.aload_n 0, 1) := dJ0_isLatin1_aae02_0_b.2.2.1
theorem dJ0_isLatin1_aae02_7 : decode cJ0_isLatin1_aae02 7 = .ok (.getfield 15, 3) := dJ0_isLatin1_aae02_0_b.2.2.2.1
theorem dJ0_isLatin1_aae02_10 : decode cJ0_isLatin1_aae02 10 = .ok (.ifCond .ne 7, 3) := dJ0_isLatin1_aae02_0_b.2.2.2.2.1
theorem dJ0_isLatin1_aae02_13 : decode cJ0_isLatin1_aae02 13 = .ok (.iconst 1, 1) := dJ0_isLatin1_aae02_0_b.2.2.2.2.2
set_option maxRecDepth 20000 in
theorem dJ0_isLatin1_aae02_14_b : (decode cJ0_isLatin1_aae02 14 = .ok (.goto 4, 3)) ∧ (decode cJ0_isLatin1_aae02 17 = .ok (.iconst 0, 1)) ∧ (decode cJ0_isLatin1_aae02 18 = .ok (.ireturn, 1)) := by decide +kernel
theorem dJ0_isLatin1_aae02_14 : decode cJ0_isLatin1_aae02 14 = .ok (.goto 4, 3) := dJ0_isLatin1_aae02_14_b.1
theorem dJ0_isLatin1_aae02_17 : decode cJ0_isLatin1_aae02 17 = .ok (.iconst 0, 1) := dJ0_isLatin1_aae02_14_b.2.1
theorem dJ0_isLatin1_aae02_18 : decode cJ0_isLatin1_aae02 18 = .ok (.ireturn, 1) := dJ0_isLatin1_aae02_14_b.2.2
set_option maxRecDepth 20000 in
theorem dJ0_checkIndex_df160_0_b : (decode cJ0_checkIndex_df160 0 = .ok (.iload_n 0, 1)) ∧ (decode cJ0_checkIndex_df160 1 = .ok (.iload_n 1, 1)) ∧ (decode cJ0_checkIndex_df160 2 = .ok (.getstatic 1053, 3)) ∧ (decode cJ0_checkIndex_df160 5 = .ok (.invokestatic 1059, 3)) ∧ (decode cJ0_checkIndex_df160 8 = .ok (.pop, 1)) ∧ (decode cJ0_checkIndex_df160 9 = .ok (.return_, 1)) := by decide +kernel
theorem dJ0_checkIndex_df160_0 : decode cJ0_checkIndex_df160 0 = .ok (.iload_n 0, 1) := dJ0_checkIndex_df160_0_b.1
theorem dJ0_checkIndex_df160_1 : decode cJ0_checkIndex_df160 1 = .ok (.iload_n 1, 1) := dJ0_checkIndex_df160_0_b.2.1
theorem dJ0_checkIndex_df160_2 : decode cJ0_checkIndex_df160 2 = .ok (.getstatic 1053, 3) := dJ0_checkIndex_df160_0_b.2.2.1
theorem dJ0_checkIndex_df160_5 : decode cJ0_checkIndex_df160 5 = .ok (.invokestatic 1059, 3) := dJ0_checkIndex_df160_0_b.2.2.2.1
theorem dJ0_checkIndex_df160_8 : decode cJ0_checkIndex_df160 8 = .ok (.pop, 1) := dJ0_checkIndex_df160_0_b.2.2.2.2.1
theorem dJ0_checkIndex_df160_9 : decode cJ0_checkIndex_df160 9 = .ok (.return_, 1) := dJ0_checkIndex_df160_0_b.2.2.2.2.2
set_option maxRecDepth 20000 in
theorem dJ1_charAt_3b067_0_b : (decode cJ1_charAt_3b067 0 = .ok (.iload_n 1, 1)) ∧ (decode cJ1_charAt_3b067 1 = .ok (.aload_n 0, 1)) ∧ (decode cJ1_charAt_3b067 2 = .ok (.arraylength, 1)) ∧ (decode cJ1_charAt_3b067 3 = .ok (.invokestatic 9, 3)) ∧ (decode cJ1_charAt_3b067 6 = .ok (.aload_n 0, 1)) ∧ (decode cJ1_charAt_3b067 7 = .ok (.iload_n 1, 1)) := by decide +kernel
theorem dJ1_charAt_3b067_0 : decode cJ1_charAt_3b067 0 = .ok (.iload_n 1, 1) := dJ1_charAt_3b067_0_b.1
theorem dJ1_charAt_3b067_1 : decode cJ1_charAt_3b067 1 = .ok (.aload_n 0, 1) := dJ1_charAt_3b067_0_b.2.1
theorem dJ1_charAt_3b067_2 : decode cJ1_charAt_3b067 2 = .ok (.arraylength, 1) := dJ1_charAt_3b067_0_b.2.2.1
theorem dJ1_charAt_3b067_3 : decode cJ1_charAt_3b067 3 = .ok (.invokestatic 9, 3) := dJ1_charAt_3b067_0_b.2.2.2.1
theorem dJ1_charAt_3b067_6 : decode cJ1_charAt_3b067 6 = .ok (.aload_n 0, 1) := dJ1_charAt_3b067_0_b.2.2.2.2.1
theorem dJ1_charAt_3b067_7 : decode cJ1_charAt_3b067 7 = .ok (.iload_n 1, 1) := dJ1_charAt_3b067_0_b.2.2.2.2.2
set_option maxRecDepth 20000 in
theorem dJ1_charAt_3b067_8_b : (decode cJ1_charAt_3b067 8 = .ok (.baload, 1)) ∧ (decode cJ1_charAt_3b067 9 = .ok (.sipush 255, 3)) ∧ (decode cJ1_charAt_3b067 12 = .ok (.iand, 1)) ∧ (decode cJ1_charAt_3b067 13 = .ok (.i2c, 1)) ∧ (decode cJ1_charAt_3b067 14 = .ok (.ireturn, 1)) := by decide +kernel
theorem dJ1_charAt_3b067_8 : decode cJ1_charAt_3b067 8 = .ok (.baload, 1) := dJ1_charAt_3b067_8_b.1
theorem dJ1_charAt_3b067_9 : decode cJ1_charAt_3b067 9 = .ok (.sipush 255, 3) := dJ1_charAt_3b067_8_b.2.1
theorem dJ1_charAt_3b067_12 : decode cJ1_charAt_3b067 12 = .ok (.iand, 1) := dJ1_charAt_3b067_8_b.2.2.1
theorem dJ1_charAt_3b067_13 : decode cJ1_charAt_3b067 13 = .ok (.i2c, 1) := dJ1_charAt_3b067_8_b.2.2.2.1
theorem dJ1_charAt_3b067_14 : decode cJ1_charAt_3b067 14 = .ok (.ireturn, 1) := dJ1_charAt_3b067_8_b.2.2.2.2
set_option maxRecDepth 20000 in
theorem dJ7_fill_53178_0_b : (decode cJ7_fill_53178 0 = .ok (.iconst 0, 1)) ∧ (decode cJ7_fill_53178 1 = .ok (.istore_n 2, 1)) ∧ (decode cJ7_fill_53178 2 = .ok (.aload_n 0, 1)) ∧ (decode cJ7_fill_53178 3 = .ok (.arraylength, 1)) ∧ (decode cJ7_fill_53178 4 = .ok (.istore_n 3, 1)) ∧ (decode cJ7_fill_53178 5 = .ok (.iload_n 2, 1)) := by decide +kernel
theorem dJ7_fill_53178_0 : decode cJ7_fill_53178 0 = .ok (.iconst 0, 1) := dJ7_fill_53178_0_b.1
theorem dJ7_fill_53178_1 : decode cJ7_fill_53178 1 = .ok (.istore_n 2, 1) := dJ7_fill_53178_0_b.2.1
theorem dJ7_fill_53178_2 : decode cJ7_fill_53178 2 = .ok (.aload_n 0, 1) := dJ7_fill_53178_0_b.2.2.1
theorem dJ7_fill_53178_3 : decode cJ7_fill_53178 3 = .ok (.arraylength, 1) := dJ7_fill_53178_0_b.2.2.2.1
theorem dJ7_fill_53178_4 : decode cJ7_fill_53178 4 = .ok (.istore_n 3, 1) := dJ7_fill_53178_0_b.2.2.2.2.1
theorem dJ7_fill_53178_5 : decode cJ7_fill_53178 5 = .ok (.iload_n 2, 1) := dJ7_fill_53178_0_b.2.2.2.2.2
set_option maxRecDepth 20000 in
theorem dJ7_fill_53178_6_b : (decode cJ7_fill_53178 6 = .ok (.iload_n 3, 1)) ∧ (decode cJ7_fill_53178 7 = .ok (.if_icmp .ge 13, 3)) ∧ (decode cJ7_fill_53178 10 = .ok (.aload_n 0, 1)) ∧ (decode cJ7_fill_53178 11 = .ok (.iload_n 2, 1)) ∧ (decode cJ7_fill_53178 12 = .ok (.iload_n 1, 1)) ∧ (decode cJ7_fill_53178 13 = .ok (.iastore, 1)) := by decide +kernel
theorem dJ7_fill_53178_6 : decode cJ7_fill_53178 6 = .ok (.iload_n 3, 1) := dJ7_fill_53178_6_b.1
theorem dJ7_fill_53178_7 : decode cJ7_fill_53178 7 = .ok (.if_icmp .ge 13, 3) := dJ7_fill_53178_6_b.2.1
theorem dJ7_fill_53178_10 : decode cJ7_fill_53178 10 = .ok (.aload_n 0, 1) := dJ7_fill_53178_6_b.2.2.1
theorem dJ7_fill_53178_11 : decode cJ7_fill_53178 11 = .ok (.iload_n 2, 1) := dJ7_fill_53178_6_b.2.2.2.1
theorem dJ7_fill_53178_12 : decode cJ7_fill_53178 12 = .ok (.iload_n 1, 1) := dJ7_fill_53178_6_b.2.2.2.2.1
theorem dJ7_fill_53178_13 : decode cJ7_fill_53178 13 = .ok (.iastore, 1) := dJ7_fill_53178_6_b.2.2.2.2.2
set_option maxRecDepth 20000 in
theorem dJ7_fill_53178_14_b : (decode cJ7_fill_53178 14 = .ok (.iinc 2 1, 3)) ∧ (decode cJ7_fill_53178 17 = .ok (.goto (-12), 3)) ∧ (decode cJ7_fill_53178 20 = .ok (.return_, 1)) := by decide +kernel
theorem dJ7_fill_53178_14 : decode cJ7_fill_53178 14 = .ok (.iinc 2 1, 3) := dJ7_fill_53178_14_b.1
theorem dJ7_fill_53178_17 : decode cJ7_fill_53178 17 = .ok (.goto (-12), 3) := dJ7_fill_53178_14_b.2.1
theorem dJ7_fill_53178_20 : decode cJ7_fill_53178 20 = .ok (.return_, 1) := dJ7_fill_53178_14_b.2.2
set_option maxRecDepth 20000 in
theorem dJ3_checkIndex_8e157_0_b : (decode cJ3_checkIndex_8e157 0 = .ok (.iload_n 0, 1)) ∧ (decode cJ3_checkIndex_8e157 1 = .ok (.ifCond .lt 8, 3)) ∧ (decode cJ3_checkIndex_8e157 4 = .ok (.iload_n 0, 1)) ∧ (decode cJ3_checkIndex_8e157 5 = .ok (.iload_n 1, 1)) ∧ (decode cJ3_checkIndex_8e157 6 = .ok (.if_icmp .lt 10, 3)) ∧ (decode cJ3_checkIndex_8e157 9 = .ok (.aload_n 2, 1)) := by decide +kernel
theorem dJ3_checkIndex_8e157_0 : decode cJ3_checkIndex_8e157 0 = .ok (.iload_n 0, 1) := dJ3_checkIndex_8e157_0_b.1
theorem dJ3_checkIndex_8e157_1 : decode cJ3_checkIndex_8e157 1 = .ok (.ifCond .lt 8, 3) := dJ3_checkIndex_8e157_0_b.2.1
theorem dJ3_checkIndex_8e157_4 : decode cJ3_checkIndex_8e157 4 = .ok (.iload_n 0, 1) := dJ3_checkIndex_8e157_0_b.2.2.1
theorem dJ3_checkIndex_8e157_5 : decode cJ3_checkIndex_8e157 5 = .ok (.iload_n 1, 1) := dJ3_checkIndex_8e157_0_b.2.2.2.1
theorem dJ3_checkIndex_8e157_6 : decode cJ3_checkIndex_8e157 6 = .ok (.if_icmp .lt 10, 3) := dJ3_checkIndex_8e157_0_b.2.2.2.2.1
theorem dJ3_checkIndex_8e157_9 : decode cJ3_checkIndex_8e157 9 = .ok (.aload_n 2, 1) := dJ3_checkIndex_8e157_0_b.2.2.2.2.2
set_option maxRecDepth 20000 in
theorem dJ3_checkIndex_8e157_10_b : (decode cJ3_checkIndex_8e157 10 = .ok (.iload_n 0, 1)) ∧ (decode cJ3_checkIndex_8e157 11 = .ok (.iload_n 1, 1)) ∧ (decode cJ3_checkIndex_8e157 12 = .ok (.invokestatic 95, 3)) ∧ (decode cJ3_checkIndex_8e157 15 = .ok (.athrow, 1)) ∧ (decode cJ3_checkIndex_8e157 16 = .ok (.iload_n 0, 1)) ∧ (decode cJ3_checkIndex_8e157 17 = .ok (.ireturn, 1)) := by decide +kernel
theorem dJ3_checkIndex_8e157_10 : decode cJ3_checkIndex_8e157 10 = .ok (.iload_n 0, 1) := dJ3_checkIndex_8e157_10_b.1
theorem dJ3_checkIndex_8e157_11 : decode cJ3_checkIndex_8e157 11 = .ok (.iload_n 1, 1) := dJ3_checkIndex_8e157_10_b.2.1
theorem dJ3_checkIndex_8e157_12 : decode cJ3_checkIndex_8e157 12 = .ok (.invokestatic 95, 3) := dJ3_checkIndex_8e157_10_b.2.2.1
theorem dJ3_checkIndex_8e157_15 : decode cJ3_checkIndex_8e157 15 = .ok (.athrow, 1) := dJ3_checkIndex_8e157_10_b.2.2.2.1
theorem dJ3_checkIndex_8e157_16 : decode cJ3_checkIndex_8e157 16 = .ok (.iload_n 0, 1) := dJ3_checkIndex_8e157_10_b.2.2.2.2.1
theorem dJ3_checkIndex_8e157_17 : decode cJ3_checkIndex_8e157 17 = .ok (.ireturn, 1) := dJ3_checkIndex_8e157_10_b.2.2.2.2.2
set_option maxRecDepth 20000 in
theorem dL_town_0_b : (decode cL_town 0 = .ok (.aload_n 2, 1)) ∧ (decode cL_town 1 = .ok (.iconst 0, 1)) ∧ (decode cL_town 2 = .ok (.aload_n 0, 1)) ∧ (decode cL_town 3 = .ok (.iload_n 1, 1)) ∧ (decode cL_town 4 = .ok (.invokevirtual 7, 3)) ∧ (decode cL_town 7 = .ok (.i2l, 1)) := by decide +kernel
theorem dL_town_0 : decode cL_town 0 = .ok (.aload_n 2, 1) := dL_town_0_b.1
theorem dL_town_1 : decode cL_town 1 = .ok (.iconst 0, 1) := dL_town_0_b.2.1
theorem dL_town_2 : decode cL_town 2 = .ok (.aload_n 0, 1) := dL_town_0_b.2.2.1
theorem dL_town_3 : decode cL_town 3 = .ok (.iload_n 1, 1) := dL_town_0_b.2.2.2.1
theorem dL_town_4 : decode cL_town 4 = .ok (.invokevirtual 7, 3) := dL_town_0_b.2.2.2.2.1
theorem dL_town_7 : decode cL_town 7 = .ok (.i2l, 1) := dL_town_0_b.2.2.2.2.2
set_option maxRecDepth 20000 in
theorem dL_town_8_b : (decode cL_town 8 = .ok (.lastore, 1)) ∧ (decode cL_town 9 = .ok (.goto 6, 3)) ∧ (decode cL_town 12 = .ok (.astore_n 3, 1)) ∧ (decode cL_town 13 = .ok (.iconst 1, 1)) ∧ (decode cL_town 14 = .ok (.ireturn, 1)) ∧ (decode cL_town 15 = .ok (.iconst 0, 1)) := by decide +kernel
theorem dL_town_8 : decode cL_town 8 = .ok (.lastore, 1) := dL_town_8_b.1
theorem dL_town_9 : decode cL_town 9 = .ok (.goto 6, 3) := dL_town_8_b.2.1
theorem dL_town_12 : decode cL_town 12 = .ok (.astore_n 3, 1) := dL_town_8_b.2.2.1
theorem dL_town_13 : decode cL_town 13 = .ok (.iconst 1, 1) := dL_town_8_b.2.2.2.1
theorem dL_town_14 : decode cL_town 14 = .ok (.ireturn, 1) := dL_town_8_b.2.2.2.2.1
theorem dL_town_15 : decode cL_town 15 = .ok (.iconst 0, 1) := dL_town_8_b.2.2.2.2.2
theorem dL_town_16 : decode cL_town 16 = .ok (.ireturn, 1) := by decide +kernel
set_option maxRecDepth 20000 in
theorem dL_count_0_b : (decode cL_count 0 = .ok (.aload_n 2, 1)) ∧ (decode cL_count 1 = .ok (.iconst 0, 1)) ∧ (decode cL_count 2 = .ok (.aload_n 0, 1)) ∧ (decode cL_count 3 = .ok (.iload_n 1, 1)) ∧ (decode cL_count 4 = .ok (.invokevirtual 15, 3)) ∧ (decode cL_count 7 = .ok (.i2l, 1)) := by decide +kernel
theorem dL_count_0 : decode cL_count 0 = .ok (.aload_n 2, 1) := dL_count_0_b.1
theorem dL_count_1 : decode cL_count 1 = .ok (.iconst 0, 1) := dL_count_0_b.2.1
theorem dL_count_2 : decode cL_count 2 = .ok (.aload_n 0, 1) := dL_count_0_b.2.2.1
theorem dL_count_3 : decode cL_count 3 = .ok (.iload_n 1, 1) := dL_count_0_b.2.2.2.1
theorem dL_count_4 : decode cL_count 4 = .ok (.invokevirtual 15, 3) := dL_count_0_b.2.2.2.2.1
theorem dL_count_7 : decode cL_count 7 = .ok (.i2l, 1) := dL_count_0_b.2.2.2.2.2
set_option maxRecDepth 20000 in
theorem dL_count_8_b : (decode cL_count 8 = .ok (.lastore, 1)) ∧ (decode cL_count 9 = .ok (.goto 6, 3)) ∧ (decode cL_count 12 = .ok (.astore_n 3, 1)) ∧ (decode cL_count 13 = .ok (.iconst 1, 1)) ∧ (decode cL_count 14 = .ok (.ireturn, 1)) ∧ (decode cL_count 15 = .ok (.iconst 0, 1)) := by decide +kernel
theorem dL_count_8 : decode cL_count 8 = .ok (.lastore, 1) := dL_count_8_b.1
theorem dL_count_9 : decode cL_count 9 = .ok (.goto 6, 3) := dL_count_8_b.2.1
theorem dL_count_12 : decode cL_count 12 = .ok (.astore_n 3, 1) := dL_count_8_b.2.2.1
theorem dL_count_13 : decode cL_count 13 = .ok (.iconst 1, 1) := dL_count_8_b.2.2.2.1
theorem dL_count_14 : decode cL_count 14 = .ok (.ireturn, 1) := dL_count_8_b.2.2.2.2.1
theorem dL_count_15 : decode cL_count 15 = .ok (.iconst 0, 1) := dL_count_8_b.2.2.2.2.2
theorem dL_count_16 : decode cL_count 16 = .ok (.ireturn, 1) := by decide +kernel
set_option maxRecDepth 20000 in
theorem dL_thing_0_b : (decode cL_thing 0 = .ok (.aload_n 3, 1)) ∧ (decode cL_thing 1 = .ok (.iconst 0, 1)) ∧ (decode cL_thing 2 = .ok (.aload_n 0, 1)) ∧ (decode cL_thing 3 = .ok (.iload_n 1, 1)) ∧ (decode cL_thing 4 = .ok (.iload_n 2, 1)) ∧ (decode cL_thing 5 = .ok (.invokevirtual 20, 3)) := by decide +kernel
theorem dL_thing_0 : decode cL_thing 0 = .ok (.aload_n 3, 1) := dL_thing_0_b.1
theorem dL_thing_1 : decode cL_thing 1 = .ok (.iconst 0, 1) := dL_thing_0_b.2.1
theorem dL_thing_2 : decode cL_thing 2 = .ok (.aload_n 0, 1) := dL_thing_0_b.2.2.1
theorem dL_thing_3 : decode cL_thing 3 = .ok (.iload_n 1, 1) := dL_thing_0_b.2.2.2.1
theorem dL_thing_4 : decode cL_thing 4 = .ok (.iload_n 2, 1) := dL_thing_0_b.2.2.2.2.1
theorem dL_thing_5 : decode cL_thing 5 = .ok (.invokevirtual 20, 3) := dL_thing_0_b.2.2.2.2.2
set_option maxRecDepth 20000 in
theorem dL_thing_8_b : (decode cL_thing 8 = .ok (.i2l, 1)) ∧ (decode cL_thing 9 = .ok (.lastore, 1)) ∧ (decode cL_thing 10 = .ok (.goto 7, 3)) ∧ (decode cL_thing 13 = .ok (.astore 4, 2)) ∧ (decode cL_thing 15 = .ok (.iconst 1, 1)) ∧ (decode cL_thing 16 = .ok (.ireturn, 1)) := by decide +kernel
theorem dL_thing_8 : decode cL_thing 8 = .ok (.i2l, 1) := dL_thing_8_b.1
theorem dL_thing_9 : decode cL_thing 9 = .ok (.lastore, 1) := dL_thing_8_b.2.1
theorem dL_thing_10 : decode cL_thing 10 = .ok (.goto 7, 3) := dL_thing_8_b.2.2.1
theorem dL_thing_13 : decode cL_thing 13 = .ok (.astore 4, 2) := dL_thing_8_b.2.2.2.1
theorem dL_thing_15 : decode cL_thing 15 = .ok (.iconst 1, 1) := dL_thing_8_b.2.2.2.2.1
theorem dL_thing_16 : decode cL_thing 16 = .ok (.ireturn, 1) := dL_thing_8_b.2.2.2.2.2
set_option maxRecDepth 20000 in
theorem dL_thing_17_b : (decode cL_thing 17 = .ok (.iconst 0, 1)) ∧ (decode cL_thing 18 = .ok (.ireturn, 1)) := by decide +kernel
theorem dL_thing_17 : decode cL_thing 17 = .ok (.iconst 0, 1) := dL_thing_17_b.1
theorem dL_thing_18 : decode cL_thing 18 = .ok (.ireturn, 1) := dL_thing_17_b.2
set_option maxRecDepth 20000 in
theorem dL_bucket_0_b : (decode cL_bucket 0 = .ok (.aload_n 3, 1)) ∧ (decode cL_bucket 1 = .ok (.iconst 0, 1)) ∧ (decode cL_bucket 2 = .ok (.aload_n 0, 1)) ∧ (decode cL_bucket 3 = .ok (.iload_n 1, 1)) ∧ (decode cL_bucket 4 = .ok (.iload_n 2, 1)) ∧ (decode cL_bucket 5 = .ok (.invokevirtual 24, 3)) := by decide +kernel
theorem dL_bucket_0 : decode cL_bucket 0 = .ok (.aload_n 3, 1) := dL_bucket_0_b.1
theorem dL_bucket_1 : decode cL_bucket 1 = .ok (.iconst 0, 1) := dL_bucket_0_b.2.1
theorem dL_bucket_2 : decode cL_bucket 2 = .ok (.aload_n 0, 1) := dL_bucket_0_b.2.2.1
theorem dL_bucket_3 : decode cL_bucket 3 = .ok (.iload_n 1, 1) := dL_bucket_0_b.2.2.2.1
theorem dL_bucket_4 : decode cL_bucket 4 = .ok (.iload_n 2, 1) := dL_bucket_0_b.2.2.2.2.1
theorem dL_bucket_5 : decode cL_bucket 5 = .ok (.invokevirtual 24, 3) := dL_bucket_0_b.2.2.2.2.2
set_option maxRecDepth 20000 in
theorem dL_bucket_8_b : (decode cL_bucket 8 = .ok (.i2l, 1)) ∧ (decode cL_bucket 9 = .ok (.lastore, 1)) ∧ (decode cL_bucket 10 = .ok (.goto 7, 3)) ∧ (decode cL_bucket 13 = .ok (.astore 4, 2)) ∧ (decode cL_bucket 15 = .ok (.iconst 1, 1)) ∧ (decode cL_bucket 16 = .ok (.ireturn, 1)) := by decide +kernel
theorem dL_bucket_8 : decode cL_bucket 8 = .ok (.i2l, 1) := dL_bucket_8_b.1
theorem dL_bucket_9 : decode cL_bucket 9 = .ok (.lastore, 1) := dL_bucket_8_b.2.1
theorem dL_bucket_10 : decode cL_bucket 10 = .ok (.goto 7, 3) := dL_bucket_8_b.2.2.1
theorem dL_bucket_13 : decode cL_bucket 13 = .ok (.astore 4, 2) := dL_bucket_8_b.2.2.2.1
theorem dL_bucket_15 : decode cL_bucket 15 = .ok (.iconst 1, 1) := dL_bucket_8_b.2.2.2.2.1
theorem dL_bucket_16 : decode cL_bucket 16 = .ok (.ireturn, 1) := dL_bucket_8_b.2.2.2.2.2
set_option maxRecDepth 20000 in
theorem dL_bucket_17_b : (decode cL_bucket 17 = .ok (.iconst 0, 1)) ∧ (decode cL_bucket 18 = .ok (.ireturn, 1)) := by decide +kernel
theorem dL_bucket_17 : decode cL_bucket 17 = .ok (.iconst 0, 1) := dL_bucket_17_b.1
theorem dL_bucket_18 : decode cL_bucket 18 = .ok (.ireturn, 1) := dL_bucket_17_b.2
set_option maxRecDepth 20000 in
theorem dL_moved_0_b : (decode cL_moved 0 = .ok (.aload_n 3, 1)) ∧ (decode cL_moved 1 = .ok (.iconst 0, 1)) ∧ (decode cL_moved 2 = .ok (.aload_n 0, 1)) ∧ (decode cL_moved 3 = .ok (.iload_n 1, 1)) ∧ (decode cL_moved 4 = .ok (.iload_n 2, 1)) ∧ (decode cL_moved 5 = .ok (.invokevirtual 27, 3)) := by decide +kernel
theorem dL_moved_0 : decode cL_moved 0 = .ok (.aload_n 3, 1) := dL_moved_0_b.1
theorem dL_moved_1 : decode cL_moved 1 = .ok (.iconst 0, 1) := dL_moved_0_b.2.1
theorem dL_moved_2 : decode cL_moved 2 = .ok (.aload_n 0, 1) := dL_moved_0_b.2.2.1
theorem dL_moved_3 : decode cL_moved 3 = .ok (.iload_n 1, 1) := dL_moved_0_b.2.2.2.1
theorem dL_moved_4 : decode cL_moved 4 = .ok (.iload_n 2, 1) := dL_moved_0_b.2.2.2.2.1
theorem dL_moved_5 : decode cL_moved 5 = .ok (.invokevirtual 27, 3) := dL_moved_0_b.2.2.2.2.2
set_option maxRecDepth 20000 in
theorem dL_moved_8_b : (decode cL_moved 8 = .ok (.i2l, 1)) ∧ (decode cL_moved 9 = .ok (.lastore, 1)) ∧ (decode cL_moved 10 = .ok (.goto 7, 3)) ∧ (decode cL_moved 13 = .ok (.astore 4, 2)) ∧ (decode cL_moved 15 = .ok (.iconst 1, 1)) ∧ (decode cL_moved 16 = .ok (.ireturn, 1)) := by decide +kernel
theorem dL_moved_8 : decode cL_moved 8 = .ok (.i2l, 1) := dL_moved_8_b.1
theorem dL_moved_9 : decode cL_moved 9 = .ok (.lastore, 1) := dL_moved_8_b.2.1
theorem dL_moved_10 : decode cL_moved 10 = .ok (.goto 7, 3) := dL_moved_8_b.2.2.1
theorem dL_moved_13 : decode cL_moved 13 = .ok (.astore 4, 2) := dL_moved_8_b.2.2.2.1
theorem dL_moved_15 : decode cL_moved 15 = .ok (.iconst 1, 1) := dL_moved_8_b.2.2.2.2.1
theorem dL_moved_16 : decode cL_moved 16 = .ok (.ireturn, 1) := dL_moved_8_b.2.2.2.2.2
set_option maxRecDepth 20000 in
theorem dL_moved_17_b : (decode cL_moved 17 = .ok (.iconst 0, 1)) ∧ (decode cL_moved 18 = .ok (.ireturn, 1)) := by decide +kernel
theorem dL_moved_17 : decode cL_moved 17 = .ok (.iconst 0, 1) := dL_moved_17_b.1
theorem dL_moved_18 : decode cL_moved 18 = .ok (.ireturn, 1) := dL_moved_17_b.2
set_option maxRecDepth 20000 in
theorem dL_fewest_0_b : (decode cL_fewest 0 = .ok (.aload_n 2, 1)) ∧ (decode cL_fewest 1 = .ok (.iconst 0, 1)) ∧ (decode cL_fewest 2 = .ok (.aload_n 0, 1)) ∧ (decode cL_fewest 3 = .ok (.iload_n 1, 1)) ∧ (decode cL_fewest 4 = .ok (.invokevirtual 30, 3)) ∧ (decode cL_fewest 7 = .ok (.i2l, 1)) := by decide +kernel
theorem dL_fewest_0 : decode cL_fewest 0 = .ok (.aload_n 2, 1) := dL_fewest_0_b.1
theorem dL_fewest_1 : decode cL_fewest 1 = .ok (.iconst 0, 1) := dL_fewest_0_b.2.1
theorem dL_fewest_2 : decode cL_fewest 2 = .ok (.aload_n 0, 1) := dL_fewest_0_b.2.2.1
theorem dL_fewest_3 : decode cL_fewest 3 = .ok (.iload_n 1, 1) := dL_fewest_0_b.2.2.2.1
theorem dL_fewest_4 : decode cL_fewest 4 = .ok (.invokevirtual 30, 3) := dL_fewest_0_b.2.2.2.2.1
theorem dL_fewest_7 : decode cL_fewest 7 = .ok (.i2l, 1) := dL_fewest_0_b.2.2.2.2.2
set_option maxRecDepth 20000 in
theorem dL_fewest_8_b : (decode cL_fewest 8 = .ok (.lastore, 1)) ∧ (decode cL_fewest 9 = .ok (.goto 6, 3)) ∧ (decode cL_fewest 12 = .ok (.astore_n 3, 1)) ∧ (decode cL_fewest 13 = .ok (.iconst 1, 1)) ∧ (decode cL_fewest 14 = .ok (.ireturn, 1)) ∧ (decode cL_fewest 15 = .ok (.iconst 0, 1)) := by decide +kernel
theorem dL_fewest_8 : decode cL_fewest 8 = .ok (.lastore, 1) := dL_fewest_8_b.1
theorem dL_fewest_9 : decode cL_fewest 9 = .ok (.goto 6, 3) := dL_fewest_8_b.2.1
theorem dL_fewest_12 : decode cL_fewest 12 = .ok (.astore_n 3, 1) := dL_fewest_8_b.2.2.1
theorem dL_fewest_13 : decode cL_fewest 13 = .ok (.iconst 1, 1) := dL_fewest_8_b.2.2.2.1
theorem dL_fewest_14 : decode cL_fewest 14 = .ok (.ireturn, 1) := dL_fewest_8_b.2.2.2.2.1
theorem dL_fewest_15 : decode cL_fewest 15 = .ok (.iconst 0, 1) := dL_fewest_8_b.2.2.2.2.2
theorem dL_fewest_16 : decode cL_fewest 16 = .ok (.ireturn, 1) := by decide +kernel
set_option maxRecDepth 20000 in
theorem dL_reach_0_b : (decode cL_reach 0 = .ok (.aload_n 2, 1)) ∧ (decode cL_reach 1 = .ok (.iconst 0, 1)) ∧ (decode cL_reach 2 = .ok (.aload_n 0, 1)) ∧ (decode cL_reach 3 = .ok (.iload_n 1, 1)) ∧ (decode cL_reach 4 = .ok (.invokevirtual 33, 3)) ∧ (decode cL_reach 7 = .ok (.i2l, 1)) := by decide +kernel
theorem dL_reach_0 : decode cL_reach 0 = .ok (.aload_n 2, 1) := dL_reach_0_b.1
theorem dL_reach_1 : decode cL_reach 1 = .ok (.iconst 0, 1) := dL_reach_0_b.2.1
theorem dL_reach_2 : decode cL_reach 2 = .ok (.aload_n 0, 1) := dL_reach_0_b.2.2.1
theorem dL_reach_3 : decode cL_reach 3 = .ok (.iload_n 1, 1) := dL_reach_0_b.2.2.2.1
theorem dL_reach_4 : decode cL_reach 4 = .ok (.invokevirtual 33, 3) := dL_reach_0_b.2.2.2.2.1
theorem dL_reach_7 : decode cL_reach 7 = .ok (.i2l, 1) := dL_reach_0_b.2.2.2.2.2
set_option maxRecDepth 20000 in
theorem dL_reach_8_b : (decode cL_reach 8 = .ok (.lastore, 1)) ∧ (decode cL_reach 9 = .ok (.goto 6, 3)) ∧ (decode cL_reach 12 = .ok (.astore_n 3, 1)) ∧ (decode cL_reach 13 = .ok (.iconst 1, 1)) ∧ (decode cL_reach 14 = .ok (.ireturn, 1)) ∧ (decode cL_reach 15 = .ok (.iconst 0, 1)) := by decide +kernel
theorem dL_reach_8 : decode cL_reach 8 = .ok (.lastore, 1) := dL_reach_8_b.1
theorem dL_reach_9 : decode cL_reach 9 = .ok (.goto 6, 3) := dL_reach_8_b.2.1
theorem dL_reach_12 : decode cL_reach 12 = .ok (.astore_n 3, 1) := dL_reach_8_b.2.2.1
theorem dL_reach_13 : decode cL_reach 13 = .ok (.iconst 1, 1) := dL_reach_8_b.2.2.2.1
theorem dL_reach_14 : decode cL_reach 14 = .ok (.ireturn, 1) := dL_reach_8_b.2.2.2.2.1
theorem dL_reach_15 : decode cL_reach 15 = .ok (.iconst 0, 1) := dL_reach_8_b.2.2.2.2.2
theorem dL_reach_16 : decode cL_reach 16 = .ok (.ireturn, 1) := by decide +kernel
set_option maxRecDepth 20000 in
theorem dL_bars_0_b : (decode cL_bars 0 = .ok (.aload_n 3, 1)) ∧ (decode cL_bars 1 = .ok (.iconst 0, 1)) ∧ (decode cL_bars 2 = .ok (.aload_n 0, 1)) ∧ (decode cL_bars 3 = .ok (.iload_n 1, 1)) ∧ (decode cL_bars 4 = .ok (.iload_n 2, 1)) ∧ (decode cL_bars 5 = .ok (.invokevirtual 36, 3)) := by decide +kernel
theorem dL_bars_0 : decode cL_bars 0 = .ok (.aload_n 3, 1) := dL_bars_0_b.1
theorem dL_bars_1 : decode cL_bars 1 = .ok (.iconst 0, 1) := dL_bars_0_b.2.1
theorem dL_bars_2 : decode cL_bars 2 = .ok (.aload_n 0, 1) := dL_bars_0_b.2.2.1
theorem dL_bars_3 : decode cL_bars 3 = .ok (.iload_n 1, 1) := dL_bars_0_b.2.2.2.1
theorem dL_bars_4 : decode cL_bars 4 = .ok (.iload_n 2, 1) := dL_bars_0_b.2.2.2.2.1
theorem dL_bars_5 : decode cL_bars 5 = .ok (.invokevirtual 36, 3) := dL_bars_0_b.2.2.2.2.2
set_option maxRecDepth 20000 in
theorem dL_bars_8_b : (decode cL_bars 8 = .ok (.i2l, 1)) ∧ (decode cL_bars 9 = .ok (.lastore, 1)) ∧ (decode cL_bars 10 = .ok (.goto 7, 3)) ∧ (decode cL_bars 13 = .ok (.astore 4, 2)) ∧ (decode cL_bars 15 = .ok (.iconst 1, 1)) ∧ (decode cL_bars 16 = .ok (.ireturn, 1)) := by decide +kernel
theorem dL_bars_8 : decode cL_bars 8 = .ok (.i2l, 1) := dL_bars_8_b.1
theorem dL_bars_9 : decode cL_bars 9 = .ok (.lastore, 1) := dL_bars_8_b.2.1
theorem dL_bars_10 : decode cL_bars 10 = .ok (.goto 7, 3) := dL_bars_8_b.2.2.1
theorem dL_bars_13 : decode cL_bars 13 = .ok (.astore 4, 2) := dL_bars_8_b.2.2.2.1
theorem dL_bars_15 : decode cL_bars 15 = .ok (.iconst 1, 1) := dL_bars_8_b.2.2.2.2.1
theorem dL_bars_16 : decode cL_bars 16 = .ok (.ireturn, 1) := dL_bars_8_b.2.2.2.2.2
set_option maxRecDepth 20000 in
theorem dL_bars_17_b : (decode cL_bars 17 = .ok (.iconst 0, 1)) ∧ (decode cL_bars 18 = .ok (.ireturn, 1)) := by decide +kernel
theorem dL_bars_17 : decode cL_bars 17 = .ok (.iconst 0, 1) := dL_bars_17_b.1
theorem dL_bars_18 : decode cL_bars 18 = .ok (.ireturn, 1) := dL_bars_17_b.2
set_option maxRecDepth 20000 in
theorem dL_enough_0_b : (decode cL_enough 0 = .ok (.aload_n 2, 1)) ∧ (decode cL_enough 1 = .ok (.iconst 0, 1)) ∧ (decode cL_enough 2 = .ok (.aload_n 0, 1)) ∧ (decode cL_enough 3 = .ok (.iload_n 1, 1)) ∧ (decode cL_enough 4 = .ok (.invokevirtual 39, 3)) ∧ (decode cL_enough 7 = .ok (.i2l, 1)) := by decide +kernel
theorem dL_enough_0 : decode cL_enough 0 = .ok (.aload_n 2, 1) := dL_enough_0_b.1
theorem dL_enough_1 : decode cL_enough 1 = .ok (.iconst 0, 1) := dL_enough_0_b.2.1
theorem dL_enough_2 : decode cL_enough 2 = .ok (.aload_n 0, 1) := dL_enough_0_b.2.2.1
theorem dL_enough_3 : decode cL_enough 3 = .ok (.iload_n 1, 1) := dL_enough_0_b.2.2.2.1
theorem dL_enough_4 : decode cL_enough 4 = .ok (.invokevirtual 39, 3) := dL_enough_0_b.2.2.2.2.1
theorem dL_enough_7 : decode cL_enough 7 = .ok (.i2l, 1) := dL_enough_0_b.2.2.2.2.2
set_option maxRecDepth 20000 in
theorem dL_enough_8_b : (decode cL_enough 8 = .ok (.lastore, 1)) ∧ (decode cL_enough 9 = .ok (.goto 6, 3)) ∧ (decode cL_enough 12 = .ok (.astore_n 3, 1)) ∧ (decode cL_enough 13 = .ok (.iconst 1, 1)) ∧ (decode cL_enough 14 = .ok (.ireturn, 1)) ∧ (decode cL_enough 15 = .ok (.iconst 0, 1)) := by decide +kernel
theorem dL_enough_8 : decode cL_enough 8 = .ok (.lastore, 1) := dL_enough_8_b.1
theorem dL_enough_9 : decode cL_enough 9 = .ok (.goto 6, 3) := dL_enough_8_b.2.1
theorem dL_enough_12 : decode cL_enough 12 = .ok (.astore_n 3, 1) := dL_enough_8_b.2.2.1
theorem dL_enough_13 : decode cL_enough 13 = .ok (.iconst 1, 1) := dL_enough_8_b.2.2.2.1
theorem dL_enough_14 : decode cL_enough 14 = .ok (.ireturn, 1) := dL_enough_8_b.2.2.2.2.1
theorem dL_enough_15 : decode cL_enough 15 = .ok (.iconst 0, 1) := dL_enough_8_b.2.2.2.2.2
theorem dL_enough_16 : decode cL_enough 16 = .ok (.ireturn, 1) := by decide +kernel
