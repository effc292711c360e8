theorem dX9_town_12 : decode cX9_town 12 = .ok (.new 75, 3) := by decide +kernel
theorem dX9_town_15 : decode cX9_town 15 = .ok (.dup, 1) := by decide +kernel
theorem dX9_town_16 : decode cX9_town 16 = .ok (.ldc 77, 2) := by decide +kernel
theorem dX9_town_18 : decode cX9_town 18 = .ok (.invokespecial 79, 3) := by decide +kernel
theorem dX9_town_21 : decode cX9_town 21 = .ok (.athrow, 1) := by decide +kernel
theorem dX9_count_229 : decode cX9_count 229 = .ok (.new 144, 3) := by decide +kernel
theorem dX9_count_232 : decode cX9_count 232 = .ok (.dup, 1) := by decide +kernel
theorem dX9_count_233 : decode cX9_count 233 = .ok (.ldc 146, 2) := by decide +kernel
theorem dX9_count_235 : decode cX9_count 235 = .ok (.invokespecial 148, 3) := by decide +kernel
theorem dX9_count_238 : decode cX9_count 238 = .ok (.athrow, 1) := by decide +kernel
set_option maxRecDepth 20000 in
theorem ggX9_thing_X3_has : GoodIn wsX9_thing wsX3_has := goodIn_r _ [8, 9, 41, 42, 43, 44, 45, 46, 47, 48, 49, 50, 51, 52, 53, 54] (by decide +kernel) (by decide +kernel)
set_option maxRecDepth 20000 in
theorem gX9_thing_X3_has_n149 : GoodIn wsX9_thing (wsX3_has) := ggX9_thing_X3_has
theorem dX9_thing_0 : decode cX9_thing 0 = .ok (.aload_n 0, 1) := by decide +kernel
theorem dX9_thing_1 : decode cX9_thing 1 = .ok (.getfield 23, 3) := by decide +kernel
theorem dX9_thing_4 : decode cX9_thing 4 = .ok (.iload_n 1, 1) := by decide +kernel
theorem dX9_thing_5 : decode cX9_thing 5 = .ok (.invokevirtual 149, 3) := by decide +kernel
theorem dX9_thing_8 : decode cX9_thing 8 = .ok (.ifCond .ne 13, 3) := by decide +kernel
theorem dX9_thing_11 : decode cX9_thing 11 = .ok (.new 144, 3) := by decide +kernel
theorem dX9_thing_14 : decode cX9_thing 14 = .ok (.dup, 1) := by decide +kernel
theorem dX9_thing_15 : decode cX9_thing 15 = .ok (.ldc 153, 2) := by decide +kernel
theorem dX9_thing_17 : decode cX9_thing 17 = .ok (.invokespecial 148, 3) := by decide +kernel
theorem dX9_thing_20 : decode cX9_thing 20 = .ok (.athrow, 1) := by decide +kernel
theorem dX9_bucket_9 : decode cX9_bucket 9 = .ok (.new 144, 3) := by decide +kernel
theorem dX9_bucket_12 : decode cX9_bucket 12 = .ok (.dup, 1) := by decide +kernel
theorem dX9_bucket_13 : decode cX9_bucket 13 = .ok (.ldc 177, 2) := by decide +kernel
theorem dX9_bucket_15 : decode cX9_bucket 15 = .ok (.invokespecial 148, 3) := by decide +kernel
theorem dX9_bucket_18 : decode cX9_bucket 18 = .ok (.athrow, 1) := by decide +kernel
theorem dX9_bucket_144 : decode cX9_bucket 144 = .ok (.new 144, 3) := by decide +kernel
theorem dX9_bucket_147 : decode cX9_bucket 147 = .ok (.dup, 1) := by decide +kernel
theorem dX9_bucket_148 : decode cX9_bucket 148 = .ok (.ldc 191, 2) := by decide +kernel
theorem dX9_bucket_150 : decode cX9_bucket 150 = .ok (.invokespecial 148, 3) := by decide +kernel
theorem dX9_bucket_153 : decode cX9_bucket 153 = .ok (.athrow, 1) := by decide +kernel
theorem dX9_moved_0 : decode cX9_moved 0 = .ok (.iload_n 1, 1) := by decide +kernel
theorem dX9_moved_1 : decode cX9_moved 1 = .ok (.ifCond .lt 14, 3) := by decide +kernel
theorem dX9_moved_4 : decode cX9_moved 4 = .ok (.iload_n 1, 1) := by decide +kernel
theorem dX9_moved_5 : decode cX9_moved 5 = .ok (.aload_n 0, 1) := by decide +kernel
theorem dX9_moved_6 : decode cX9_moved 6 = .ok (.getfield 42, 3) := by decide +kernel
theorem dX9_moved_9 : decode cX9_moved 9 = .ok (.getfield 132, 3) := by decide +kernel
theorem dX9_moved_12 : decode cX9_moved 12 = .ok (.if_icmp .lt 13, 3) := by decide +kernel
theorem dX9_moved_15 : decode cX9_moved 15 = .ok (.new 144, 3) := by decide +kernel
theorem dX9_moved_18 : decode cX9_moved 18 = .ok (.dup, 1) := by decide +kernel
theorem dX9_moved_19 : decode cX9_moved 19 = .ok (.ldc 228, 2) := by decide +kernel
theorem dX9_moved_21 : decode cX9_moved 21 = .ok (.invokespecial 148, 3) := by decide +kernel
theorem dX9_moved_24 : decode cX9_moved 24 = .ok (.athrow, 1) := by decide +kernel
theorem dX9_fewest_9 : decode cX9_fewest 9 = .ok (.new 144, 3) := by decide +kernel
theorem dX9_fewest_12 : decode cX9_fewest 12 = .ok (.dup, 1) := by decide +kernel
theorem dX9_fewest_13 : decode cX9_fewest 13 = .ok (.ldc 244, 2) := by decide +kernel
theorem dX9_fewest_15 : decode cX9_fewest 15 = .ok (.invokespecial 148, 3) := by decide +kernel
theorem dX9_fewest_18 : decode cX9_fewest 18 = .ok (.athrow, 1) := by decide +kernel
set_option maxRecDepth 20000 in
theorem ggX9_reach_X3_has : GoodIn wsX9_reach wsX3_has := goodIn_r _ [9, 10, 152, 153, 154, 155, 156, 157, 158, 159, 160, 161, 162, 163, 164, 165] (by decide +kernel) (by decide +kernel)
set_option maxRecDepth 20000 in
theorem gX9_reach_X3_has_n149 : GoodIn wsX9_reach (wsX3_has) := ggX9_reach_X3_has
theorem dX9_reach_0 : decode cX9_reach 0 = .ok (.aload_n 0, 1) := by decide +kernel
theorem dX9_reach_1 : decode cX9_reach 1 = .ok (.getfield 23, 3) := by decide +kernel
theorem dX9_reach_4 : decode cX9_reach 4 = .ok (.iload_n 1, 1) := by decide +kernel
theorem dX9_reach_5 : decode cX9_reach 5 = .ok (.invokevirtual 149, 3) := by decide +kernel
theorem dX9_reach_8 : decode cX9_reach 8 = .ok (.ifCond .ne 13, 3) := by decide +kernel
theorem dX9_reach_11 : decode cX9_reach 11 = .ok (.new 144, 3) := by decide +kernel
theorem dX9_reach_14 : decode cX9_reach 14 = .ok (.dup, 1) := by decide +kernel
theorem dX9_reach_15 : decode cX9_reach 15 = .ok (.ldc 153, 2) := by decide +kernel
theorem dX9_reach_17 : decode cX9_reach 17 = .ok (.invokespecial 148, 3) := by decide +kernel
theorem dX9_reach_20 : decode cX9_reach 20 = .ok (.athrow, 1) := by decide +kernel
set_option maxRecDepth 20000 in
theorem ggX9_bars_X3_has : GoodIn wsX9_bars wsX3_has := goodIn_r _ [10, 11, 173, 174, 175, 176, 177, 178, 179, 180, 181, 182, 183, 184, 185, 186] (by decide +kernel) (by decide +kernel)
set_option maxRecDepth 20000 in
theorem gX9_bars_X3_has_n149 : GoodIn wsX9_bars (wsX3_has) := ggX9_bars_X3_has
theorem dX9_bars_0 : decode cX9_bars 0 = .ok (.aload_n 0, 1) := by decide +kernel
theorem dX9_bars_1 : decode cX9_bars 1 = .ok (.getfield 23, 3) := by decide +kernel
theorem dX9_bars_4 : decode cX9_bars 4 = .ok (.iload_n 1, 1) := by decide +kernel
theorem dX9_bars_5 : decode cX9_bars 5 = .ok (.invokevirtual 149, 3) := by decide +kernel
theorem dX9_bars_8 : decode cX9_bars 8 = .ok (.ifCond .eq 14, 3) := by decide +kernel
theorem dX9_bars_22 : decode cX9_bars 22 = .ok (.new 144, 3) := by decide +kernel
theorem dX9_bars_25 : decode cX9_bars 25 = .ok (.dup, 1) := by decide +kernel
theorem dX9_bars_26 : decode cX9_bars 26 = .ok (.ldc_w 256, 3) := by decide +kernel
theorem dX9_bars_29 : decode cX9_bars 29 = .ok (.invokespecial 148, 3) := by decide +kernel
theorem dX9_bars_32 : decode cX9_bars 32 = .ok (.athrow, 1) := by decide +kernel
theorem dX9_enough_9 : decode cX9_enough 9 = .ok (.new 144, 3) := by decide +kernel
theorem dX9_enough_12 : decode cX9_enough 12 = .ok (.dup, 1) := by decide +kernel
theorem dX9_enough_13 : decode cX9_enough 13 = .ok (.ldc_w 281, 3) := by decide +kernel
theorem dX9_enough_16 : decode cX9_enough 16 = .ok (.invokespecial 148, 3) := by decide +kernel
theorem dX9_enough_19 : decode cX9_enough 19 = .ok (.athrow, 1) := by decide +kernel
set_option maxRecDepth 20000 in
theorem ggX10_init_X10_atFirst : GoodIn wsX10_init wsX10_atFirst := goodIn_r _ [51, 8, 52, 53, 54, 55, 56, 57, 58, 59, 60, 61, 62, 63, 64, 65, 66, 67, 68, 69, 70, 71, 72, 73, 74, 75, 76, 77, 78, 79, 80, 81, 82, 83, 84, 85, 86, 87, 88, 89, 90, 91, 92, 93, 94, 95, 96, 97, 98, 99, 100, 101, 102, 103, 104, 105, 106, 107, 108, 109, 110, 111, 112, 113, 114, 115, 116, 117, 118, 119, 120, 121, 122] (by decide +kernel) (by decide +kernel)
set_option maxRecDepth 20000 in
theorem gX10_init_X10_atFirst : GoodIn wsX10_init (wsV RX10 167 RX10 yX10_atFirst wsX10_atFirst) := goodIn_app (goodIn_of _ (by decide +kernel)) ggX10_init_X10_atFirst
theorem dX10_init_0 : decode cX10_init 0 = .ok (.aload_n 0, 1) := by decide +kernel
theorem dX10_init_1 : decode cX10_init 1 = .ok (.invokespecial 1, 3) := by decide +kernel
theorem dX10_init_4 : decode cX10_init 4 = .ok (.aload_n 0, 1) := by decide +kernel
theorem dX10_init_5 : decode cX10_init 5 = .ok (.bipush 12, 2) := by decide +kernel
theorem dX10_init_7 : decode cX10_init 7 = .ok (.anewarray 7, 3) := by decide +kernel
theorem dX10_init_10 : decode cX10_init 10 = .ok (.dup, 1) := by decide +kernel
theorem dX10_init_11 : decode cX10_init 11 = .ok (.iconst 0, 1) := by decide +kernel
theorem dX10_init_12 : decode cX10_init 12 = .ok (.ldc 9, 2) := by decide +kernel
theorem dX10_init_14 : decode cX10_init 14 = .ok (.aastore, 1) := by decide +kernel
theorem dX10_init_15 : decode cX10_init 15 = .ok (.dup, 1) := by decide +kernel
theorem dX10_init_16 : decode cX10_init 16 = .ok (.iconst 1, 1) := by decide +kernel
theorem dX10_init_17 : decode cX10_init 17 = .ok (.ldc 11, 2) := by decide +kernel
theorem dX10_init_19 : decode cX10_init 19 = .ok (.aastore, 1) := by decide +kernel
theorem dX10_init_20 : decode cX10_init 20 = .ok (.dup, 1) := by decide +kernel
theorem dX10_init_21 : decode cX10_init 21 = .ok (.iconst 2, 1) := by decide +kernel
theorem dX10_init_22 : decode cX10_init 22 = .ok (.ldc 13, 2) := by decide +kernel
theorem dX10_init_24 : decode cX10_init 24 = .ok (.aastore, 1) := by decide +kernel
theorem dX10_init_25 : decode cX10_init 25 = .ok (.dup, 1) := by decide +kernel
theorem dX10_init_26 : decode cX10_init 26 = .ok (.iconst 3, 1) := by decide +kernel
theorem dX10_init_27 : decode cX10_init 27 = .ok (.ldc 15, 2) := by decide +kernel
theorem dX10_init_29 : decode cX10_init 29 = .ok (.aastore, 1) := by decide +kernel
theorem dX10_init_30 : decode cX10_init 30 = .ok (.dup, 1) := by decide +kernel
theorem dX10_init_31 : decode cX10_init 31 = .ok (.iconst 4, 1) := by decide +kernel
theorem dX10_init_32 : decode cX10_init 32 = .ok (.ldc 17, 2) := by decide +kernel
theorem dX10_init_34 : decode cX10_init 34 = .ok (.aastore, 1) := by decide +kernel
theorem dX10_init_35 : decode cX10_init 35 = .ok (.dup, 1) := by decide +kernel
theorem dX10_init_36 : decode cX10_init 36 = .ok (.iconst 5, 1) := by decide +kernel
theorem dX10_init_37 : decode cX10_init 37 = .ok (.ldc 19, 2) := by decide +kernel
theorem dX10_init_39 : decode cX10_init 39 = .ok (.aastore, 1) := by decide +kernel
theorem dX10_init_40 : decode cX10_init 40 = .ok (.dup, 1) := by decide +kernel
theorem dX10_init_41 : decode cX10_init 41 = .ok (.bipush 6, 2) := by decide +kernel
theorem dX10_init_43 : decode cX10_init 43 = .ok (.ldc 21, 2) := by decide +kernel
theorem dX10_init_45 : decode cX10_init 45 = .ok (.aastore, 1) := by decide +kernel
theorem dX10_init_46 : decode cX10_init 46 = .ok (.dup, 1) := by decide +kernel
theorem dX10_init_47 : decode cX10_init 47 = .ok (.bipush 7, 2) := by decide +kernel
theorem dX10_init_49 : decode cX10_init 49 = .ok (.ldc 23, 2) := by decide +kernel
theorem dX10_init_51 : decode cX10_init 51 = .ok (.aastore, 1) := by decide +kernel
theorem dX10_init_52 : decode cX10_init 52 = .ok (.dup, 1) := by decide +kernel
theorem dX10_init_53 : decode cX10_init 53 = .ok (.bipush 8, 2) := by decide +kernel
theorem dX10_init_55 : decode cX10_init 55 = .ok (.ldc 25, 2) := by decide +kernel
theorem dX10_init_57 : decode cX10_init 57 = .ok (.aastore, 1) := by decide +kernel
theorem dX10_init_58 : decode cX10_init 58 = .ok (.dup, 1) := by decide +kernel
theorem dX10_init_59 : decode cX10_init 59 = .ok (.bipush 9, 2) := by decide +kernel
theorem dX10_init_61 : decode cX10_init 61 = .ok (.ldc 27, 2) := by decide +kernel
theorem dX10_init_63 : decode cX10_init 63 = .ok (.aastore, 1) := by decide +kernel
theorem dX10_init_64 : decode cX10_init 64 = .ok (.dup, 1) := by decide +kernel
theorem dX10_init_65 : decode cX10_init 65 = .ok (.bipush 10, 2) := by decide +kernel
theorem dX10_init_67 : decode cX10_init 67 = .ok (.ldc 29, 2) := by decide +kernel
theorem dX10_init_69 : decode cX10_init 69 = .ok (.aastore, 1) := by decide +kernel
theorem dX10_init_70 : decode cX10_init 70 = .ok (.dup, 1) := by decide +kernel
theorem dX10_init_71 : decode cX10_init 71 = .ok (.bipush 11, 2) := by decide +kernel
theorem dX10_init_73 : decode cX10_init 73 = .ok (.ldc 31, 2) := by decide +kernel
theorem dX10_init_75 : decode cX10_init 75 = .ok (.aastore, 1) := by decide +kernel
theorem dX10_init_76 : decode cX10_init 76 = .ok (.putfield 33, 3) := by decide +kernel
theorem dX10_init_79 : decode cX10_init 79 = .ok (.aload_n 0, 1) := by decide +kernel
theorem dX10_init_80 : decode cX10_init 80 = .ok (.bipush 7, 2) := by decide +kernel
theorem dX10_init_82 : decode cX10_init 82 = .ok (.anewarray 7, 3) := by decide +kernel
theorem dX10_init_85 : decode cX10_init 85 = .ok (.dup, 1) := by decide +kernel
theorem dX10_init_86 : decode cX10_init 86 = .ok (.iconst 0, 1) := by decide +kernel
theorem dX10_init_87 : decode cX10_init 87 = .ok (.ldc 39, 2) := by decide +kernel
theorem dX10_init_89 : decode cX10_init 89 = .ok (.aastore, 1) := by decide +kernel
theorem dX10_init_90 : decode cX10_init 90 = .ok (.dup, 1) := by decide +kernel
theorem dX10_init_91 : decode cX10_init 91 = .ok (.iconst 1, 1) := by decide +kernel
theorem dX10_init_92 : decode cX10_init 92 = .ok (.ldc 41, 2) := by decide +kernel
theorem dX10_init_94 : decode cX10_init 94 = .ok (.aastore, 1) := by decide +kernel
theorem dX10_init_95 : decode cX10_init 95 = .ok (.dup, 1) := by decide +kernel
theorem dX10_init_96 : decode cX10_init 96 = .ok (.iconst 2, 1) := by decide +kernel
theorem dX10_init_97 : decode cX10_init 97 = .ok (.ldc 43, 2) := by decide +kernel
theorem dX10_init_99 : decode cX10_init 99 = .ok (.aastore, 1) := by decide +kernel
theorem dX10_init_100 : decode cX10_init 100 = .ok (.dup, 1) := by decide +kernel
theorem dX10_init_101 : decode cX10_init 101 = .ok (.iconst 3, 1) := by decide +kernel
theorem dX10_init_102 : decode cX10_init 102 = .ok (.ldc 45, 2) := by decide +kernel
theorem dX10_init_104 : decode cX10_init 104 = .ok (.aastore, 1) := by decide +kernel
theorem dX10_init_105 : decode cX10_init 105 = .ok (.dup, 1) := by decide +kernel
theorem dX10_init_106 : decode cX10_init 106 = .ok (.iconst 4, 1) := by decide +kernel
theorem dX10_init_107 : decode cX10_init 107 = .ok (.ldc 47, 2) := by decide +kernel
theorem dX10_init_109 : decode cX10_init 109 = .ok (.aastore, 1) := by decide +kernel
theorem dX10_init_110 : decode cX10_init 110 = .ok (.dup, 1) := by decide +kernel
theorem dX10_init_111 : decode cX10_init 111 = .ok (.iconst 5, 1) := by decide +kernel
theorem dX10_init_112 : decode cX10_init 112 = .ok (.ldc 9, 2) := by decide +kernel
theorem dX10_init_114 : decode cX10_init 114 = .ok (.aastore, 1) := by decide +kernel
theorem dX10_init_115 : decode cX10_init 115 = .ok (.dup, 1) := by decide +kernel
theorem dX10_init_116 : decode cX10_init 116 = .ok (.bipush 6, 2) := by decide +kernel
theorem dX10_init_118 : decode cX10_init 118 = .ok (.ldc 49, 2) := by decide +kernel
theorem dX10_init_120 : decode cX10_init 120 = .ok (.aastore, 1) := by decide +kernel
theorem dX10_init_121 : decode cX10_init 121 = .ok (.putfield 51, 3) := by decide +kernel
theorem dX10_init_124 : decode cX10_init 124 = .ok (.aload_n 0, 1) := by decide +kernel
theorem dX10_init_125 : decode cX10_init 125 = .ok (.bipush 14, 2) := by decide +kernel
theorem dX10_init_127 : decode cX10_init 127 = .ok (.newarray .int, 2) := by decide +kernel
theorem dX10_init_129 : decode cX10_init 129 = .ok (.putfield 54, 3) := by decide +kernel
theorem dX10_init_132 : decode cX10_init 132 = .ok (.aload_n 0, 1) := by decide +kernel
theorem dX10_init_133 : decode cX10_init 133 = .ok (.bipush 14, 2) := by decide +kernel
theorem dX10_init_135 : decode cX10_init 135 = .ok (.newarray .int, 2) := by decide +kernel
theorem dX10_init_137 : decode cX10_init 137 = .ok (.putfield 57, 3) := by decide +kernel
theorem dX10_init_140 : decode cX10_init 140 = .ok (.aload_n 0, 1) := by decide +kernel
theorem dX10_init_141 : decode cX10_init 141 = .ok (.bipush 14, 2) := by decide +kernel
theorem dX10_init_143 : decode cX10_init 143 = .ok (.newarray .int, 2) := by decide +kernel
theorem dX10_init_145 : decode cX10_init 145 = .ok (.putfield 60, 3) := by decide +kernel
theorem dX10_init_148 : decode cX10_init 148 = .ok (.aload_n 0, 1) := by decide +kernel
theorem dX10_init_149 : decode cX10_init 149 = .ok (.bipush 14, 2) := by decide +kernel
theorem dX10_init_151 : decode cX10_init 151 = .ok (.newarray .int, 2) := by decide +kernel
theorem dX10_init_153 : decode cX10_init 153 = .ok (.putfield 62, 3) := by decide +kernel
theorem dX10_init_156 : decode cX10_init 156 = .ok (.aload_n 0, 1) := by decide +kernel
theorem dX10_init_157 : decode cX10_init 157 = .ok (.bipush 14, 2) := by decide +kernel
theorem dX10_init_159 : decode cX10_init 159 = .ok (.newarray .int, 2) := by decide +kernel
theorem dX10_init_161 : decode cX10_init 161 = .ok (.putfield 65, 3) := by decide +kernel
theorem dX10_init_164 : decode cX10_init 164 = .ok (.aload_n 0, 1) := by decide +kernel
theorem dX10_init_165 : decode cX10_init 165 = .ok (.bipush 8, 2) := by decide +kernel
theorem dX10_init_167 : decode cX10_init 167 = .ok (.newarray .int, 2) := by decide +kernel
theorem dX10_init_169 : decode cX10_init 169 = .ok (.putfield 68, 3) := by decide +kernel
theorem dX10_init_172 : decode cX10_init 172 = .ok (.aload_n 0, 1) := by decide +kernel
theorem dX10_init_173 : decode cX10_init 173 = .ok (.bipush 8, 2) := by decide +kernel
theorem dX10_init_175 : decode cX10_init 175 = .ok (.newarray .int, 2) := by decide +kernel
theorem dX10_init_177 : decode cX10_init 177 = .ok (.putfield 71, 3) := by decide +kernel
theorem dX10_init_180 : decode cX10_init 180 = .ok (.aload_n 0, 1) := by decide +kernel
theorem dX10_init_181 : decode cX10_init 181 = .ok (.sipush 1200, 3) := by decide +kernel
theorem dX10_init_184 : decode cX10_init 184 = .ok (.newarray .int, 2) := by decide +kernel
theorem dX10_init_186 : decode cX10_init 186 = .ok (.putfield 74, 3) := by decide +kernel
theorem dX10_init_189 : decode cX10_init 189 = .ok (.aload_n 0, 1) := by decide +kernel
theorem dX10_init_190 : decode cX10_init 190 = .ok (.iconst 3, 1) := by decide +kernel
theorem dX10_init_191 : decode cX10_init 191 = .ok (.newarray .int, 2) := by decide +kernel
theorem dX10_init_193 : decode cX10_init 193 = .ok (.putfield 77, 3) := by decide +kernel
theorem dX10_init_196 : decode cX10_init 196 = .ok (.aload_n 0, 1) := by decide +kernel
theorem dX10_init_197 : decode cX10_init 197 = .ok (.sipush 600, 3) := by decide +kernel
theorem dX10_init_200 : decode cX10_init 200 = .ok (.newarray .int, 2) := by decide +kernel
theorem dX10_init_202 : decode cX10_init 202 = .ok (.putfield 80, 3) := by decide +kernel
theorem dX10_init_205 : decode cX10_init 205 = .ok (.aload_n 0, 1) := by decide +kernel
theorem dX10_init_206 : decode cX10_init 206 = .ok (.iconst (-1), 1) := by decide +kernel
theorem dX10_init_207 : decode cX10_init 207 = .ok (.putfield 83, 3) := by decide +kernel
theorem dX10_init_210 : decode cX10_init 210 = .ok (.aload_n 0, 1) := by decide +kernel
theorem dX10_init_211 : decode cX10_init 211 = .ok (.bipush 7, 2) := by decide +kernel
theorem dX10_init_213 : decode cX10_init 213 = .ok (.newarray .int, 2) := by decide +kernel
theorem dX10_init_215 : decode cX10_init 215 = .ok (.dup, 1) := by decide +kernel
theorem dX10_init_216 : decode cX10_init 216 = .ok (.iconst 0, 1) := by decide +kernel
theorem dX10_init_217 : decode cX10_init 217 = .ok (.bipush 15, 2) := by decide +kernel
theorem dX10_init_219 : decode cX10_init 219 = .ok (.iastore, 1) := by decide +kernel
theorem dX10_init_220 : decode cX10_init 220 = .ok (.dup, 1) := by decide +kernel
theorem dX10_init_221 : decode cX10_init 221 = .ok (.iconst 1, 1) := by decide +kernel
theorem dX10_init_222 : decode cX10_init 222 = .ok (.bipush 15, 2) := by decide +kernel
theorem dX10_init_224 : decode cX10_init 224 = .ok (.iastore, 1) := by decide +kernel
theorem dX10_init_225 : decode cX10_init 225 = .ok (.dup, 1) := by decide +kernel
theorem dX10_init_226 : decode cX10_init 226 = .ok (.iconst 2, 1) := by decide +kernel
theorem dX10_init_227 : decode cX10_init 227 = .ok (.bipush 15, 2) := by decide +kernel
theorem dX10_init_229 : decode cX10_init 229 = .ok (.iastore, 1) := by decide +kernel
theorem dX10_init_230 : decode cX10_init 230 = .ok (.dup, 1) := by decide +kernel
theorem dX10_init_231 : decode cX10_init 231 = .ok (.iconst 3, 1) := by decide +kernel
theorem dX10_init_232 : decode cX10_init 232 = .ok (.bipush 15, 2) := by decide +kernel
theorem dX10_init_234 : decode cX10_init 234 = .ok (.iastore, 1) := by decide +kernel
theorem dX10_init_235 : decode cX10_init 235 = .ok (.dup, 1) := by decide +kernel
theorem dX10_init_236 : decode cX10_init 236 = .ok (.iconst 4, 1) := by decide +kernel
theorem dX10_init_237 : decode cX10_init 237 = .ok (.bipush 15, 2) := by decide +kernel
theorem dX10_init_239 : decode cX10_init 239 = .ok (.iastore, 1) := by decide +kernel
theorem dX10_init_240 : decode cX10_init 240 = .ok (.dup, 1) := by decide +kernel
theorem dX10_init_241 : decode cX10_init 241 = .ok (.iconst 5, 1) := by decide +kernel
theorem dX10_init_242 : decode cX10_init 242 = .ok (.bipush 15, 2) := by decide +kernel
theorem dX10_init_244 : decode cX10_init 244 = .ok (.iastore, 1) := by decide +kernel
theorem dX10_init_245 : decode cX10_init 245 = .ok (.dup, 1) := by decide +kernel
theorem dX10_init_246 : decode cX10_init 246 = .ok (.bipush 6, 2) := by decide +kernel
theorem dX10_init_248 : decode cX10_init 248 = .ok (.bipush 15, 2) := by decide +kernel
theorem dX10_init_250 : decode cX10_init 250 = .ok (.iastore, 1) := by decide +kernel
theorem dX10_init_251 : decode cX10_init 251 = .ok (.putfield 87, 3) := by decide +kernel
theorem dX10_init_254 : decode cX10_init 254 = .ok (.aload_n 0, 1) := by decide +kernel
theorem dX10_init_255 : decode cX10_init 255 = .ok (.bipush 6, 2) := by decide +kernel
theorem dX10_init_257 : decode cX10_init 257 = .ok (.newarray .int, 2) := by decide +kernel
theorem dX10_init_259 : decode cX10_init 259 = .ok (.putfield 90, 3) := by decide +kernel
theorem dX10_init_262 : decode cX10_init 262 = .ok (.aload_n 0, 1) := by decide +kernel
theorem dX10_init_263 : decode cX10_init 263 = .ok (.bipush 60, 2) := by decide +kernel
theorem dX10_init_265 : decode cX10_init 265 = .ok (.newarray .int, 2) := by decide +kernel
theorem dX10_init_267 : decode cX10_init 267 = .ok (.putfield 93, 3) := by decide +kernel
theorem dX10_init_270 : decode cX10_init 270 = .ok (.aload_n 0, 1) := by decide +kernel
theorem dX10_init_271 : decode cX10_init 271 = .ok (.bipush 60, 2) := by decide +kernel
theorem dX10_init_273 : decode cX10_init 273 = .ok (.newarray .int, 2) := by decide +kernel
theorem dX10_init_275 : decode cX10_init 275 = .ok (.putfield 96, 3) := by decide +kernel
theorem dX10_init_278 : decode cX10_init 278 = .ok (.aload_n 0, 1) := by decide +kernel
theorem dX10_init_279 : decode cX10_init 279 = .ok (.bipush 60, 2) := by decide +kernel
theorem dX10_init_281 : decode cX10_init 281 = .ok (.newarray .int, 2) := by decide +kernel
theorem dX10_init_283 : decode cX10_init 283 = .ok (.putfield 99, 3) := by decide +kernel
theorem dX10_init_286 : decode cX10_init 286 = .ok (.aload_n 0, 1) := by decide +kernel
theorem dX10_init_287 : decode cX10_init 287 = .ok (.bipush 60, 2) := by decide +kernel
theorem dX10_init_289 : decode cX10_init 289 = .ok (.newarray .int, 2) := by decide +kernel
theorem dX10_init_291 : decode cX10_init 291 = .ok (.putfield 102, 3) := by decide +kernel
theorem dX10_init_294 : decode cX10_init 294 = .ok (.aload_n 0, 1) := by decide +kernel
theorem dX10_init_295 : decode cX10_init 295 = .ok (.bipush 60, 2) := by decide +kernel
theorem dX10_init_297 : decode cX10_init 297 = .ok (.newarray .int, 2) := by decide +kernel
theorem dX10_init_299 : decode cX10_init 299 = .ok (.putfield 105, 3) := by decide +kernel
theorem dX10_init_302 : decode cX10_init 302 = .ok (.aload_n 0, 1) := by decide +kernel
theorem dX10_init_303 : decode cX10_init 303 = .ok (.bipush 7, 2) := by decide +kernel
theorem dX10_init_305 : decode cX10_init 305 = .ok (.newarray .int, 2) := by decide +kernel
theorem dX10_init_307 : decode cX10_init 307 = .ok (.putfield 108, 3) := by decide +kernel
theorem dX10_init_310 : decode cX10_init 310 = .ok (.aload_n 0, 1) := by decide +kernel
theorem dX10_init_311 : decode cX10_init 311 = .ok (.bipush 60, 2) := by decide +kernel
theorem dX10_init_313 : decode cX10_init 313 = .ok (.newarray .int, 2) := by decide +kernel
theorem dX10_init_315 : decode cX10_init 315 = .ok (.putfield 111, 3) := by decide +kernel
theorem dX10_init_318 : decode cX10_init 318 = .ok (.aload_n 0, 1) := by decide +kernel
theorem dX10_init_319 : decode cX10_init 319 = .ok (.bipush 7, 2) := by decide +kernel
theorem dX10_init_321 : decode cX10_init 321 = .ok (.newarray .int, 2) := by decide +kernel
theorem dX10_init_323 : decode cX10_init 323 = .ok (.putfield 114, 3) := by decide +kernel
theorem dX10_init_326 : decode cX10_init 326 = .ok (.aload_n 0, 1) := by decide +kernel
theorem dX10_init_327 : decode cX10_init 327 = .ok (.sipush 1501, 3) := by decide +kernel
theorem dX10_init_330 : decode cX10_init 330 = .ok (.newarray .long, 2) := by decide +kernel
theorem dX10_init_332 : decode cX10_init 332 = .ok (.putfield 117, 3) := by decide +kernel
theorem dX10_init_335 : decode cX10_init 335 = .ok (.aload_n 0, 1) := by decide +kernel
theorem dX10_init_336 : decode cX10_init 336 = .ok (.sipush 1501, 3) := by decide +kernel
theorem dX10_init_339 : decode cX10_init 339 = .ok (.newarray .int, 2) := by decide +kernel
theorem dX10_init_341 : decode cX10_init 341 = .ok (.putfield 121, 3) := by decide +kernel
theorem dX10_init_344 : decode cX10_init 344 = .ok (.aload_n 0, 1) := by decide +kernel
theorem dX10_init_345 : decode cX10_init 345 = .ok (.sipush 1501, 3) := by decide +kernel
theorem dX10_init_348 : decode cX10_init 348 = .ok (.newarray .int, 2) := by decide +kernel
theorem dX10_init_350 : decode cX10_init 350 = .ok (.putfield 124, 3) := by decide +kernel
theorem dX10_init_353 : decode cX10_init 353 = .ok (.aload_n 0, 1) := by decide +kernel
theorem dX10_init_354 : decode cX10_init 354 = .ok (.sipush 8192, 3) := by decide +kernel
theorem dX10_init_357 : decode cX10_init 357 = .ok (.newarray .int, 2) := by decide +kernel
theorem dX10_init_359 : decode cX10_init 359 = .ok (.putfield 127, 3) := by decide +kernel
theorem dX10_init_362 : decode cX10_init 362 = .ok (.aload_n 0, 1) := by decide +kernel
theorem dX10_init_363 : decode cX10_init 363 = .ok (.sipush 1501, 3) := by decide +kernel
theorem dX10_init_366 : decode cX10_init 366 = .ok (.newarray .boolean, 2) := by decide +kernel
theorem dX10_init_368 : decode cX10_init 368 = .ok (.putfield 130, 3) := by decide +kernel
theorem dX10_init_371 : decode cX10_init 371 = .ok (.aload_n 0, 1) := by decide +kernel
theorem dX10_init_372 : decode cX10_init 372 = .ok (.bipush 7, 2) := by decide +kernel
theorem dX10_init_374 : decode cX10_init 374 = .ok (.newarray .int, 2) := by decide +kernel
theorem dX10_init_376 : decode cX10_init 376 = .ok (.putfield 134, 3) := by decide +kernel
theorem dX10_init_379 : decode cX10_init 379 = .ok (.aload_n 0, 1) := by decide +kernel
theorem dX10_init_380 : decode cX10_init 380 = .ok (.bipush 7, 2) := by decide +kernel
theorem dX10_init_382 : decode cX10_init 382 = .ok (.newarray .int, 2) := by decide +kernel
theorem dX10_init_384 : decode cX10_init 384 = .ok (.putfield 137, 3) := by decide +kernel
theorem dX10_init_387 : decode cX10_init 387 = .ok (.aload_n 0, 1) := by decide +kernel
theorem dX10_init_388 : decode cX10_init 388 = .ok (.bipush 7, 2) := by decide +kernel
theorem dX10_init_390 : decode cX10_init 390 = .ok (.newarray .int, 2) := by decide +kernel
theorem dX10_init_392 : decode cX10_init 392 = .ok (.putfield 140, 3) := by decide +kernel
theorem dX10_init_395 : decode cX10_init 395 = .ok (.aload_n 0, 1) := by decide +kernel
theorem dX10_init_396 : decode cX10_init 396 = .ok (.bipush 7, 2) := by decide +kernel
theorem dX10_init_398 : decode cX10_init 398 = .ok (.newarray .int, 2) := by decide +kernel
theorem dX10_init_400 : decode cX10_init 400 = .ok (.putfield 143, 3) := by decide +kernel
theorem dX10_init_403 : decode cX10_init 403 = .ok (.aload_n 0, 1) := by decide +kernel
theorem dX10_init_404 : decode cX10_init 404 = .ok (.bipush 6, 2) := by decide +kernel
theorem dX10_init_406 : decode cX10_init 406 = .ok (.newarray .int, 2) := by decide +kernel
theorem dX10_init_408 : decode cX10_init 408 = .ok (.putfield 146, 3) := by decide +kernel
theorem dX10_init_411 : decode cX10_init 411 = .ok (.aload_n 0, 1) := by decide +kernel
theorem dX10_init_412 : decode cX10_init 412 = .ok (.bipush 60, 2) := by decide +kernel
theorem dX10_init_414 : decode cX10_init 414 = .ok (.newarray .int, 2) := by decide +kernel
theorem dX10_init_416 : decode cX10_init 416 = .ok (.putfield 149, 3) := by decide +kernel
theorem dX10_init_419 : decode cX10_init 419 = .ok (.aload_n 0, 1) := by decide +kernel
theorem dX10_init_420 : decode cX10_init 420 = .ok (.bipush 60, 2) := by decide +kernel
theorem dX10_init_422 : decode cX10_init 422 = .ok (.newarray .int, 2) := by decide +kernel
theorem dX10_init_424 : decode cX10_init 424 = .ok (.putfield 152, 3) := by decide +kernel
theorem dX10_init_427 : decode cX10_init 427 = .ok (.aload_n 0, 1) := by decide +kernel
theorem dX10_init_428 : decode cX10_init 428 = .ok (.bipush 60, 2) := by decide +kernel
theorem dX10_init_430 : decode cX10_init 430 = .ok (.newarray .int, 2) := by decide +kernel
theorem dX10_init_432 : decode cX10_init 432 = .ok (.putfield 155, 3) := by decide +kernel
theorem dX10_init_435 : decode cX10_init 435 = .ok (.aload_n 0, 1) := by decide +kernel
theorem dX10_init_436 : decode cX10_init 436 = .ok (.bipush 60, 2) := by decide +kernel
theorem dX10_init_438 : decode cX10_init 438 = .ok (.newarray .int, 2) := by decide +kernel
theorem dX10_init_440 : decode cX10_init 440 = .ok (.putfield 158, 3) := by decide +kernel
theorem dX10_init_443 : decode cX10_init 443 = .ok (.aload_n 0, 1) := by decide +kernel
theorem dX10_init_444 : decode cX10_init 444 = .ok (.bipush 60, 2) := by decide +kernel
theorem dX10_init_446 : decode cX10_init 446 = .ok (.newarray .int, 2) := by decide +kernel
theorem dX10_init_448 : decode cX10_init 448 = .ok (.putfield 161, 3) := by decide +kernel
theorem dX10_init_451 : decode cX10_init 451 = .ok (.aload_n 0, 1) := by decide +kernel
theorem dX10_init_452 : decode cX10_init 452 = .ok (.iconst 3, 1) := by decide +kernel
theorem dX10_init_453 : decode cX10_init 453 = .ok (.newarray .int, 2) := by decide +kernel
theorem dX10_init_455 : decode cX10_init 455 = .ok (.putfield 164, 3) := by decide +kernel
theorem dX10_init_458 : decode cX10_init 458 = .ok (.aload_n 0, 1) := by decide +kernel
theorem dX10_init_459 : decode cX10_init 459 = .ok (.iconst 0, 1) := by decide +kernel
theorem dX10_init_460 : decode cX10_init 460 = .ok (.invokevirtual 167, 3) := by decide +kernel
theorem dX10_init_463 : decode cX10_init 463 = .ok (.return_, 1) := by decide +kernel
theorem dX10_thrown_0 : decode cX10_thrown 0 = .ok (.aload_n 0, 1) := by decide +kernel
theorem dX10_thrown_1 : decode cX10_thrown 1 = .ok (.getfield 171, 3) := by decide +kernel
theorem dX10_thrown_4 : decode cX10_thrown 4 = .ok (.ireturn, 1) := by decide +kernel
theorem dX10_fail_0 : decode cX10_fail 0 = .ok (.aload_n 0, 1) := by decide +kernel
theorem dX10_fail_1 : decode cX10_fail 1 = .ok (.iload_n 1, 1) := by decide +kernel
theorem dX10_fail_2 : decode cX10_fail 2 = .ok (.putfield 171, 3) := by decide +kernel
theorem dX10_fail_5 : decode cX10_fail 5 = .ok (.iconst 0, 1) := by decide +kernel
theorem dX10_fail_6 : decode cX10_fail 6 = .ok (.ireturn, 1) := by decide +kernel
theorem dX10_isIn_0 : decode cX10_isIn 0 = .ok (.iload_n 0, 1) := by decide +kernel
theorem dX10_isIn_1 : decode cX10_isIn 1 = .ok (.iload_n 1, 1) := by decide +kernel
theorem dX10_isIn_2 : decode cX10_isIn 2 = .ok (.if_icmp .lt 12, 3) := by decide +kernel
theorem dX10_isIn_5 : decode cX10_isIn 5 = .ok (.iload_n 0, 1) := by decide +kernel
theorem dX10_isIn_6 : decode cX10_isIn 6 = .ok (.iload_n 2, 1) := by decide +kernel
theorem dX10_isIn_7 : decode cX10_isIn 7 = .ok (.if_icmp .gt 7, 3) := by decide +kernel
theorem dX10_isIn_10 : decode cX10_isIn 10 = .ok (.iconst 1, 1) := by decide +kernel
theorem dX10_isIn_11 : decode cX10_isIn 11 = .ok (.goto 4, 3) := by decide +kernel
theorem dX10_isIn_14 : decode cX10_isIn 14 = .ok (.iconst 0, 1) := by decide +kernel
theorem dX10_isIn_15 : decode cX10_isIn 15 = .ok (.ireturn, 1) := by decide +kernel
theorem dX10_atFirst_0 : decode cX10_atFirst 0 = .ok (.iconst 0, 1) := by decide +kernel
theorem dX10_atFirst_1 : decode cX10_atFirst 1 = .ok (.istore_n 2, 1) := by decide +kernel
theorem dX10_atFirst_2 : decode cX10_atFirst 2 = .ok (.iload_n 2, 1) := by decide +kernel
theorem dX10_atFirst_3 : decode cX10_atFirst 3 = .ok (.bipush 7, 2) := by decide +kernel
theorem dX10_atFirst_5 : decode cX10_atFirst 5 = .ok (.if_icmp .ge 55, 3) := by decide +kernel
theorem dX10_atFirst_8 : decode cX10_atFirst 8 = .ok (.aload_n 0, 1) := by decide +kernel
theorem dX10_atFirst_9 : decode cX10_atFirst 9 = .ok (.getfield 54, 3) := by decide +kernel
theorem dX10_atFirst_12 : decode cX10_atFirst 12 = .ok (.iload_n 1, 1) := by decide +kernel
theorem dX10_atFirst_13 : decode cX10_atFirst 13 = .ok (.iload_n 2, 1) := by decide +kernel
theorem dX10_atFirst_14 : decode cX10_atFirst 14 = .ok (.iadd, 1) := by decide +kernel
theorem dX10_atFirst_15 : decode cX10_atFirst 15 = .ok (.iload_n 2, 1) := by decide +kernel
theorem dX10_atFirst_16 : decode cX10_atFirst 16 = .ok (.ifCond .ne 7, 3) := by decide +kernel
theorem dX10_atFirst_19 : decode cX10_atFirst 19 = .ok (.iconst 1, 1) := by decide +kernel
theorem dX10_atFirst_20 : decode cX10_atFirst 20 = .ok (.goto 33, 3) := by decide +kernel
theorem dX10_atFirst_23 : decode cX10_atFirst 23 = .ok (.iload_n 2, 1) := by decide +kernel
theorem dX10_atFirst_24 : decode cX10_atFirst 24 = .ok (.iconst 2, 1) := by decide +kernel
theorem dX10_atFirst_25 : decode cX10_atFirst 25 = .ok (.if_icmp .ne 8, 3) := by decide +kernel
theorem dX10_atFirst_28 : decode cX10_atFirst 28 = .ok (.bipush 99, 2) := by decide +kernel
theorem dX10_atFirst_30 : decode cX10_atFirst 30 = .ok (.goto 23, 3) := by decide +kernel
theorem dX10_atFirst_33 : decode cX10_atFirst 33 = .ok (.iload_n 2, 1) := by decide +kernel
theorem dX10_atFirst_34 : decode cX10_atFirst 34 = .ok (.iconst 4, 1) := by decide +kernel
theorem dX10_atFirst_35 : decode cX10_atFirst 35 = .ok (.if_icmp .ne 7, 3) := by decide +kernel
theorem dX10_atFirst_38 : decode cX10_atFirst 38 = .ok (.iconst 1, 1) := by decide +kernel
theorem dX10_atFirst_39 : decode cX10_atFirst 39 = .ok (.goto 14, 3) := by decide +kernel
theorem dX10_atFirst_42 : decode cX10_atFirst 42 = .ok (.iload_n 2, 1) := by decide +kernel
theorem dX10_atFirst_43 : decode cX10_atFirst 43 = .ok (.iconst 5, 1) := by decide +kernel
theorem dX10_atFirst_44 : decode cX10_atFirst 44 = .ok (.if_icmp .ne 8, 3) := by decide +kernel
theorem dX10_atFirst_47 : decode cX10_atFirst 47 = .ok (.bipush 20, 2) := by decide +kernel
theorem dX10_atFirst_49 : decode cX10_atFirst 49 = .ok (.goto 4, 3) := by decide +kernel
theorem dX10_atFirst_52 : decode cX10_atFirst 52 = .ok (.iconst 0, 1) := by decide +kernel
theorem dX10_atFirst_53 : decode cX10_atFirst 53 = .ok (.iastore, 1) := by decide +kernel
theorem dX10_atFirst_54 : decode cX10_atFirst 54 = .ok (.iinc 2 1, 3) := by decide +kernel
theorem dX10_atFirst_57 : decode cX10_atFirst 57 = .ok (.goto (-55), 3) := by decide +kernel
theorem dX10_atFirst_60 : decode cX10_atFirst 60 = .ok (.return_, 1) := by decide +kernel
set_option maxRecDepth 20000 in
theorem ggX10_isThing_X10_isIn : GoodIn wsX10_isThing wsX10_isIn := goodIn_r _ [5] (by decide +kernel) (by decide +kernel)
set_option maxRecDepth 20000 in
theorem gX10_isThing_X10_isIn : GoodIn wsX10_isThing (va_wsS RX10 177 yX10_isIn wsX10_isIn) := goodIn_app (goodIn_of _ (by decide +kernel)) ggX10_isThing_X10_isIn
theorem dX10_isThing_0 : decode cX10_isThing 0 = .ok (.iload_n 1, 1) := by decide +kernel
theorem dX10_isThing_1 : decode cX10_isThing 1 = .ok (.iconst 0, 1) := by decide +kernel
theorem dX10_isThing_2 : decode cX10_isThing 2 = .ok (.aload_n 0, 1) := by decide +kernel
theorem dX10_isThing_3 : decode cX10_isThing 3 = .ok (.getfield 174, 3) := by decide +kernel
theorem dX10_isThing_6 : decode cX10_isThing 6 = .ok (.iconst 1, 1) := by decide +kernel
theorem dX10_isThing_7 : decode cX10_isThing 7 = .ok (.isub, 1) := by decide +kernel
theorem dX10_isThing_8 : decode cX10_isThing 8 = .ok (.invokestatic 177, 3) := by decide +kernel
theorem dX10_isThing_11 : decode cX10_isThing 11 = .ok (.ireturn, 1) := by decide +kernel
theorem dX10_depths_0 : decode cX10_depths 0 = .ok (.aload_n 0, 1) := by decide +kernel
theorem dX10_depths_1 : decode cX10_depths 1 = .ok (.getfield 54, 3) := by decide +kernel
theorem dX10_depths_4 : decode cX10_depths 4 = .ok (.iconst 0, 1) := by decide +kernel
theorem dX10_depths_5 : decode cX10_depths 5 = .ok (.iaload, 1) := by decide +kernel
theorem dX10_depths_6 : decode cX10_depths 6 = .ok (.ireturn, 1) := by decide +kernel
theorem dX10_feed_0 : decode cX10_feed 0 = .ok (.aload_n 0, 1) := by decide +kernel
theorem dX10_feed_1 : decode cX10_feed 1 = .ok (.iconst 0, 1) := by decide +kernel
theorem dX10_feed_2 : decode cX10_feed 2 = .ok (.putfield 171, 3) := by decide +kernel
theorem dX10_feed_5 : decode cX10_feed 5 = .ok (.aload_n 0, 1) := by decide +kernel
theorem dX10_feed_6 : decode cX10_feed 6 = .ok (.getfield 181, 3) := by decide +kernel
theorem dX10_feed_9 : decode cX10_feed 9 = .ok (.bipush 20, 2) := by decide +kernel
theorem dX10_feed_11 : decode cX10_feed 11 = .ok (.iadd, 1) := by decide +kernel
theorem dX10_feed_12 : decode cX10_feed 12 = .ok (.sipush 600, 3) := by decide +kernel
theorem dX10_feed_15 : decode cX10_feed 15 = .ok (.if_icmp .le 5, 3) := by decide +kernel
theorem dX10_feed_20 : decode cX10_feed 20 = .ok (.iconst 0, 1) := by decide +kernel
theorem dX10_feed_21 : decode cX10_feed 21 = .ok (.istore 6, 2) := by decide +kernel
theorem dX10_feed_23 : decode cX10_feed 23 = .ok (.iload 6, 2) := by decide +kernel
theorem dX10_feed_25 : decode cX10_feed 25 = .ok (.bipush 20, 2) := by decide +kernel
theorem dX10_feed_27 : decode cX10_feed 27 = .ok (.if_icmp .ge 93, 3) := by decide +kernel
theorem dX10_feed_30 : decode cX10_feed 30 = .ok (.iload 6, 2) := by decide +kernel
theorem dX10_feed_32 : decode cX10_feed 32 = .ok (.iconst 4, 1) := by decide +kernel
theorem dX10_feed_33 : decode cX10_feed 33 = .ok (.if_icmp .ge 7, 3) := by decide +kernel
theorem dX10_feed_36 : decode cX10_feed 36 = .ok (.iload_n 1, 1) := by decide +kernel
theorem dX10_feed_37 : decode cX10_feed 37 = .ok (.goto 39, 3) := by decide +kernel
theorem dX10_feed_40 : decode cX10_feed 40 = .ok (.iload 6, 2) := by decide +kernel
theorem dX10_feed_42 : decode cX10_feed 42 = .ok (.bipush 8, 2) := by decide +kernel
theorem dX10_feed_44 : decode cX10_feed 44 = .ok (.if_icmp .ge 7, 3) := by decide +kernel
theorem dX10_feed_47 : decode cX10_feed 47 = .ok (.iload_n 2, 1) := by decide +kernel
theorem dX10_feed_48 : decode cX10_feed 48 = .ok (.goto 28, 3) := by decide +kernel
theorem dX10_feed_51 : decode cX10_feed 51 = .ok (.iload 6, 2) := by decide +kernel
theorem dX10_feed_53 : decode cX10_feed 53 = .ok (.bipush 12, 2) := by decide +kernel
theorem dX10_feed_55 : decode cX10_feed 55 = .ok (.if_icmp .ge 7, 3) := by decide +kernel
theorem dX10_feed_58 : decode cX10_feed 58 = .ok (.iload_n 3, 1) := by decide +kernel
theorem dX10_feed_59 : decode cX10_feed 59 = .ok (.goto 17, 3) := by decide +kernel
theorem dX10_feed_62 : decode cX10_feed 62 = .ok (.iload 6, 2) := by decide +kernel
theorem dX10_feed_64 : decode cX10_feed 64 = .ok (.bipush 16, 2) := by decide +kernel
theorem dX10_feed_66 : decode cX10_feed 66 = .ok (.if_icmp .ge 8, 3) := by decide +kernel
theorem dX10_feed_69 : decode cX10_feed 69 = .ok (.iload 4, 2) := by decide +kernel
theorem dX10_feed_71 : decode cX10_feed 71 = .ok (.goto 5, 3) := by decide +kernel
theorem dX10_feed_74 : decode cX10_feed 74 = .ok (.iload 5, 2) := by decide +kernel
theorem dX10_feed_76 : decode cX10_feed 76 = .ok (.istore 7, 2) := by decide +kernel
theorem dX10_feed_78 : decode cX10_feed 78 = .ok (.aload_n 0, 1) := by decide +kernel
theorem dX10_feed_79 : decode cX10_feed 79 = .ok (.getfield 80, 3) := by decide +kernel
theorem dX10_feed_82 : decode cX10_feed 82 = .ok (.aload_n 0, 1) := by decide +kernel
theorem dX10_feed_83 : decode cX10_feed 83 = .ok (.getfield 181, 3) := by decide +kernel
theorem dX10_feed_86 : decode cX10_feed 86 = .ok (.iload 7, 2) := by decide +kernel
theorem dX10_feed_88 : decode cX10_feed 88 = .ok (.bipush 24, 2) := by decide +kernel
theorem dX10_feed_90 : decode cX10_feed 90 = .ok (.bipush 8, 2) := by decide +kernel
theorem dX10_feed_92 : decode cX10_feed 92 = .ok (.iload 6, 2) := by decide +kernel
theorem dX10_feed_94 : decode cX10_feed 94 = .ok (.iconst 4, 1) := by decide +kernel
theorem dX10_feed_95 : decode cX10_feed 95 = .ok (.irem, 1) := by decide +kernel
theorem dX10_feed_96 : decode cX10_feed 96 = .ok (.imul, 1) := by decide +kernel
theorem dX10_feed_97 : decode cX10_feed 97 = .ok (.isub, 1) := by decide +kernel
theorem dX10_feed_98 : decode cX10_feed 98 = .ok (.ishr, 1) := by decide +kernel
theorem dX10_feed_99 : decode cX10_feed 99 = .ok (.sipush 255, 3) := by decide +kernel
theorem dX10_feed_102 : decode cX10_feed 102 = .ok (.iand, 1) := by decide +kernel
theorem dX10_feed_103 : decode cX10_feed 103 = .ok (.iastore, 1) := by decide +kernel
theorem dX10_feed_104 : decode cX10_feed 104 = .ok (.aload_n 0, 1) := by decide +kernel
theorem dX10_feed_105 : decode cX10_feed 105 = .ok (.dup, 1) := by decide +kernel
theorem dX10_feed_106 : decode cX10_feed 106 = .ok (.getfield 181, 3) := by decide +kernel
theorem dX10_feed_109 : decode cX10_feed 109 = .ok (.iconst 1, 1) := by decide +kernel
theorem dX10_feed_110 : decode cX10_feed 110 = .ok (.iadd, 1) := by decide +kernel
theorem dX10_feed_111 : decode cX10_feed 111 = .ok (.putfield 181, 3) := by decide +kernel
theorem dX10_feed_114 : decode cX10_feed 114 = .ok (.iinc 6 1, 3) := by decide +kernel
theorem dX10_feed_117 : decode cX10_feed 117 = .ok (.goto (-94), 3) := by decide +kernel
theorem dX10_feed_120 : decode cX10_feed 120 = .ok (.aload_n 0, 1) := by decide +kernel
theorem dX10_feed_121 : decode cX10_feed 121 = .ok (.getfield 181, 3) := by decide +kernel
theorem dX10_feed_124 : decode cX10_feed 124 = .ok (.ireturn, 1) := by decide +kernel
theorem dX10_byteAt_0 : decode cX10_byteAt 0 = .ok (.iload_n 1, 1) := by decide +kernel
theorem dX10_byteAt_1 : decode cX10_byteAt 1 = .ok (.aload_n 0, 1) := by decide +kernel
theorem dX10_byteAt_2 : decode cX10_byteAt 2 = .ok (.getfield 184, 3) := by decide +kernel
theorem dX10_byteAt_5 : decode cX10_byteAt 5 = .ok (.if_icmp .ge 12, 3) := by decide +kernel
theorem dX10_byteAt_17 : decode cX10_byteAt 17 = .ok (.iconst (-1), 1) := by decide +kernel
theorem dX10_byteAt_18 : decode cX10_byteAt 18 = .ok (.ireturn, 1) := by decide +kernel
set_option maxRecDepth 20000 in
theorem ggX10_stepOn_X10_byteAt : GoodIn wsX10_stepOn wsX10_byteAt := goodIn_r _ [15, 16, 17, 27, 28, 29, 30, 31, 32, 33, 34, 35, 36, 37, 38, 39, 40, 41, 42, 43, 44, 45, 46, 47, 48, 49, 50, 51, 52, 53, 54, 55, 56, 57, 58, 59, 60, 61, 62, 63, 64, 65, 66, 67, 68, 69, 70, 71, 72, 73, 74, 75, 76, 77, 78, 79, 80, 81, 82, 83, 84, 85, 86, 87, 88, 89, 90, 91, 92, 93, 94, 95, 96, 97] (by decide +kernel) (by decide +kernel)
set_option maxRecDepth 20000 in
theorem gX10_stepOn_X10_byteAt : GoodIn wsX10_stepOn (wsV RX10 190 RX10 yX10_byteAt wsX10_byteAt) := goodIn_app (goodIn_of _ (by decide +kernel)) ggX10_stepOn_X10_byteAt
theorem dX10_stepOn_0 : decode cX10_stepOn 0 = .ok (.aload_n 0, 1) := by decide +kernel
theorem dX10_stepOn_1 : decode cX10_stepOn 1 = .ok (.aload_n 0, 1) := by decide +kernel
theorem dX10_stepOn_2 : decode cX10_stepOn 2 = .ok (.getfield 187, 3) := by decide +kernel
theorem dX10_stepOn_5 : decode cX10_stepOn 5 = .ok (.invokevirtual 190, 3) := by decide +kernel
theorem dX10_stepOn_8 : decode cX10_stepOn 8 = .ok (.bipush 32, 2) := by decide +kernel
theorem dX10_stepOn_10 : decode cX10_stepOn 10 = .ok (.if_icmp .eq 16, 3) := by decide +kernel
theorem dX10_stepOn_13 : decode cX10_stepOn 13 = .ok (.aload_n 0, 1) := by decide +kernel
theorem dX10_stepOn_14 : decode cX10_stepOn 14 = .ok (.aload_n 0, 1) := by decide +kernel
theorem dX10_stepOn_15 : decode cX10_stepOn 15 = .ok (.getfield 187, 3) := by decide +kernel
theorem dX10_stepOn_18 : decode cX10_stepOn 18 = .ok (.invokevirtual 190, 3) := by decide +kernel
theorem dX10_stepOn_21 : decode cX10_stepOn 21 = .ok (.bipush 10, 2) := by decide +kernel
theorem dX10_stepOn_23 : decode cX10_stepOn 23 = .ok (.if_icmp .ne 16, 3) := by decide +kernel
theorem dX10_stepOn_39 : decode cX10_stepOn 39 = .ok (.aload_n 0, 1) := by decide +kernel
theorem dX10_stepOn_40 : decode cX10_stepOn 40 = .ok (.aload_n 0, 1) := by decide +kernel
theorem dX10_stepOn_41 : decode cX10_stepOn 41 = .ok (.getfield 187, 3) := by decide +kernel
theorem dX10_stepOn_44 : decode cX10_stepOn 44 = .ok (.putfield 194, 3) := by decide +kernel
theorem dX10_stepOn_47 : decode cX10_stepOn 47 = .ok (.aload_n 0, 1) := by decide +kernel
theorem dX10_stepOn_48 : decode cX10_stepOn 48 = .ok (.aload_n 0, 1) := by decide +kernel
theorem dX10_stepOn_49 : decode cX10_stepOn 49 = .ok (.getfield 187, 3) := by decide +kernel
theorem dX10_stepOn_52 : decode cX10_stepOn 52 = .ok (.invokevirtual 190, 3) := by decide +kernel
theorem dX10_stepOn_55 : decode cX10_stepOn 55 = .ok (.istore_n 1, 1) := by decide +kernel
theorem dX10_stepOn_56 : decode cX10_stepOn 56 = .ok (.iload_n 1, 1) := by decide +kernel
theorem dX10_stepOn_57 : decode cX10_stepOn 57 = .ok (.iconst (-1), 1) := by decide +kernel
theorem dX10_stepOn_58 : decode cX10_stepOn 58 = .ok (.if_icmp .ne 11, 3) := by decide +kernel
theorem dX10_stepOn_61 : decode cX10_stepOn 61 = .ok (.aload_n 0, 1) := by decide +kernel
theorem dX10_stepOn_62 : decode cX10_stepOn 62 = .ok (.iconst 0, 1) := by decide +kernel
theorem dX10_stepOn_63 : decode cX10_stepOn 63 = .ok (.putfield 197, 3) := by decide +kernel
theorem dX10_stepOn_66 : decode cX10_stepOn 66 = .ok (.goto 146, 3) := by decide +kernel
theorem dX10_stepOn_212 : decode cX10_stepOn 212 = .ok (.aload_n 0, 1) := by decide +kernel
theorem dX10_stepOn_213 : decode cX10_stepOn 213 = .ok (.aload_n 0, 1) := by decide +kernel
theorem dX10_stepOn_214 : decode cX10_stepOn 214 = .ok (.getfield 187, 3) := by decide +kernel
theorem dX10_stepOn_217 : decode cX10_stepOn 217 = .ok (.putfield 220, 3) := by decide +kernel
theorem dX10_stepOn_220 : decode cX10_stepOn 220 = .ok (.return_, 1) := by decide +kernel
set_option maxRecDepth 20000 in
theorem ggX10_town_X10_fail : GoodIn wsX10_town wsX10_fail := goodIn_r _ [17, 1, 198, 199, 200, 201, 202, 203, 204, 205, 206, 207, 208, 209, 210, 211, 212, 213, 214, 215, 216, 217, 218, 219, 220, 221, 222, 223, 224, 225, 226, 227, 228, 229, 230, 231, 232, 233, 234, 235, 236, 237, 238, 239, 240, 241, 242, 243, 244, 245, 246, 247, 248, 249, 250, 251, 252, 253, 254, 255, 256, 257, 258, 259, 260, 261, 262, 263, 264, 265, 266, 267, 268] (by decide +kernel) (by decide +kernel)
set_option maxRecDepth 20000 in
theorem gX10_town_X10_fail : GoodIn wsX10_town (wsV RX10 315 RX10 yX10_fail wsX10_fail) := goodIn_app (goodIn_of _ (by decide +kernel)) ggX10_town_X10_fail
set_option maxRecDepth 20000 in
theorem ggX10_town_X10_atFirst : GoodIn wsX10_town wsX10_atFirst := goodIn_r _ [21, 22, 198, 199, 200, 201, 202, 203, 204, 205, 206, 207, 208, 209, 210, 211, 212, 213, 214, 215, 216, 217, 218, 219, 220, 221, 222, 223, 224, 225, 226, 227, 228, 229, 230, 231, 232, 233, 234, 235, 236, 237, 238, 239, 240, 241, 242, 243, 244, 245, 246, 247, 248, 249, 250, 251, 252, 253, 254, 255, 256, 257, 258, 259, 260, 261, 262, 263, 264, 265, 266, 267, 268] (by decide +kernel) (by decide +kernel)
set_option maxRecDepth 20000 in
theorem gX10_town_X10_atFirst : GoodIn wsX10_town (wsV RX10 167 RX10 yX10_atFirst wsX10_atFirst) := goodIn_app (goodIn_of _ (by decide +kernel)) ggX10_town_X10_atFirst
set_option maxRecDepth 20000 in
theorem ggX10_town_X10_stepOn : GoodIn wsX10_town wsX10_stepOn := goodIn_r _ [26, 4, 27, 10, 28, 29, 30, 31, 32, 33, 34, 35, 36, 37, 16, 38, 3, 39, 40, 41, 42, 43, 44, 45, 46, 47, 48, 198, 199, 200, 201, 202, 203, 204, 205, 206, 207, 208, 209, 210, 211, 212, 213, 214, 215, 216, 217, 218, 219, 220, 221, 222, 223, 224, 225, 226, 227, 228, 229, 230, 231, 232, 233, 234, 235, 236, 237, 238, 239, 240, 241, 242, 243, 244, 245, 246, 247, 248, 249, 250, 251, 252, 253, 254, 255, 256, 257, 258, 259, 260, 261, 262, 263, 264, 265, 266, 267, 268] (by decide +kernel) (by decide +kernel)
set_option maxRecDepth 20000 in
theorem gX10_town_X10_stepOn : GoodIn wsX10_town (wsV RX10 241 RX10 yX10_stepOn wsX10_stepOn) := goodIn_app (goodIn_of _ (by decide +kernel)) ggX10_town_X10_stepOn
set_option maxRecDepth 20000 in
theorem ggX10_town_X10_take : GoodIn wsX10_town wsX10_take := goodIn_r _ [189, 22, 8, 190, 9, 191, 136, 137, 138, 139, 54, 55, 7, 163, 192, 193, 194, 195, 196, 197, 198, 199, 200, 201, 202, 203, 204, 205, 206, 207, 208, 209, 210, 211, 212, 213, 214, 215, 216, 217, 218, 219, 220, 221, 222, 223, 224, 225, 226, 227, 228, 229, 230, 231, 232, 233, 234, 235, 236, 237, 238, 239, 240, 241, 242, 243, 244, 245, 246, 247, 248, 249, 250, 251, 252, 253, 254, 255, 256, 257, 258, 259, 260, 261, 262, 263, 264, 265, 266, 267, 268] (by decide +kernel) (by decide +kernel)
set_option maxRecDepth 20000 in
theorem gX10_town_X10_take : GoodIn wsX10_town (wsV RX10 321 RX10 yX10_take wsX10_take) := goodIn_app (goodIn_of _ (by decide +kernel)) ggX10_town_X10_take
theorem dX10_town_0 : decode cX10_town 0 = .ok (.aload_n 0, 1) := by decide +kernel
theorem dX10_town_1 : decode cX10_town 1 = .ok (.iconst 0, 1) := by decide +kernel
theorem dX10_town_2 : decode cX10_town 2 = .ok (.putfield 171, 3) := by decide +kernel
theorem dX10_town_5 : decode cX10_town 5 = .ok (.iload_n 1, 1) := by decide +kernel
theorem dX10_town_6 : decode cX10_town 6 = .ok (.ifCond .lt 11, 3) := by decide +kernel
theorem dX10_town_9 : decode cX10_town 9 = .ok (.iload_n 1, 1) := by decide +kernel
theorem dX10_town_10 : decode cX10_town 10 = .ok (.aload_n 0, 1) := by decide +kernel
theorem dX10_town_11 : decode cX10_town 11 = .ok (.getfield 181, 3) := by decide +kernel
theorem dX10_town_14 : decode cX10_town 14 = .ok (.if_icmp .le 9, 3) := by decide +kernel
theorem dX10_town_17 : decode cX10_town 17 = .ok (.aload_n 0, 1) := by decide +kernel
theorem dX10_town_18 : decode cX10_town 18 = .ok (.iconst 1, 1) := by decide +kernel
theorem dX10_town_19 : decode cX10_town 19 = .ok (.invokevirtual 315, 3) := by decide +kernel
theorem dX10_town_22 : decode cX10_town 22 = .ok (.ireturn, 1) := by decide +kernel
theorem dX10_town_23 : decode cX10_town 23 = .ok (.aload_n 0, 1) := by decide +kernel
theorem dX10_town_24 : decode cX10_town 24 = .ok (.iconst 0, 1) := by decide +kernel
theorem dX10_town_25 : decode cX10_town 25 = .ok (.putfield 181, 3) := by decide +kernel
theorem dX10_town_28 : decode cX10_town 28 = .ok (.aload_n 0, 1) := by decide +kernel
theorem dX10_town_29 : decode cX10_town 29 = .ok (.iload_n 1, 1) := by decide +kernel
theorem dX10_town_30 : decode cX10_town 30 = .ok (.putfield 184, 3) := by decide +kernel
theorem dX10_town_33 : decode cX10_town 33 = .ok (.aload_n 0, 1) := by decide +kernel
theorem dX10_town_34 : decode cX10_town 34 = .ok (.iconst 0, 1) := by decide +kernel
theorem dX10_town_35 : decode cX10_town 35 = .ok (.putfield 187, 3) := by decide +kernel
theorem dX10_town_38 : decode cX10_town 38 = .ok (.aload_n 0, 1) := by decide +kernel
theorem dX10_town_39 : decode cX10_town 39 = .ok (.iconst 0, 1) := by decide +kernel
theorem dX10_town_40 : decode cX10_town 40 = .ok (.putfield 223, 3) := by decide +kernel
theorem dX10_town_43 : decode cX10_town 43 = .ok (.aload_n 0, 1) := by decide +kernel
theorem dX10_town_44 : decode cX10_town 44 = .ok (.iconst (-1), 1) := by decide +kernel
theorem dX10_town_45 : decode cX10_town 45 = .ok (.putfield 83, 3) := by decide +kernel
theorem dX10_town_48 : decode cX10_town 48 = .ok (.aload_n 0, 1) := by decide +kernel
theorem dX10_town_49 : decode cX10_town 49 = .ok (.iconst 0, 1) := by decide +kernel
theorem dX10_town_50 : decode cX10_town 50 = .ok (.putfield 250, 3) := by decide +kernel
theorem dX10_town_53 : decode cX10_town 53 = .ok (.aload_n 0, 1) := by decide +kernel
theorem dX10_town_54 : decode cX10_town 54 = .ok (.iconst 0, 1) := by decide +kernel
theorem dX10_town_55 : decode cX10_town 55 = .ok (.putfield 290, 3) := by decide +kernel
theorem dX10_town_58 : decode cX10_town 58 = .ok (.aload_n 0, 1) := by decide +kernel
theorem dX10_town_59 : decode cX10_town 59 = .ok (.iconst 0, 1) := by decide +kernel
theorem dX10_town_60 : decode cX10_town 60 = .ok (.putfield 303, 3) := by decide +kernel
theorem dX10_town_63 : decode cX10_town 63 = .ok (.aload_n 0, 1) := by decide +kernel
theorem dX10_town_64 : decode cX10_town 64 = .ok (.bipush 7, 2) := by decide +kernel
theorem dX10_town_66 : decode cX10_town 66 = .ok (.invokevirtual 167, 3) := by decide +kernel
theorem dX10_town_69 : decode cX10_town 69 = .ok (.aload_n 0, 1) := by decide +kernel
theorem dX10_town_70 : decode cX10_town 70 = .ok (.invokevirtual 241, 3) := by decide +kernel
theorem dX10_town_73 : decode cX10_town 73 = .ok (.iconst 0, 1) := by decide +kernel
theorem dX10_town_74 : decode cX10_town 74 = .ok (.istore_n 2, 1) := by decide +kernel
theorem dX10_town_75 : decode cX10_town 75 = .ok (.aload_n 0, 1) := by decide +kernel
theorem dX10_town_76 : decode cX10_town 76 = .ok (.getfield 223, 3) := by decide +kernel
theorem dX10_town_79 : decode cX10_town 79 = .ok (.ifCond .ne 19, 3) := by decide +kernel
theorem dX10_town_82 : decode cX10_town 82 = .ok (.aload_n 0, 1) := by decide +kernel
theorem dX10_town_83 : decode cX10_town 83 = .ok (.getfield 197, 3) := by decide +kernel
theorem dX10_town_86 : decode cX10_town 86 = .ok (.ifCond .eq 12, 3) := by decide +kernel
theorem dX10_town_98 : decode cX10_town 98 = .ok (.aload_n 0, 1) := by decide +kernel
theorem dX10_town_99 : decode cX10_town 99 = .ok (.getfield 223, 3) := by decide +kernel
theorem dX10_town_102 : decode cX10_town 102 = .ok (.ifCond .eq 26, 3) := by decide +kernel
theorem dX10_town_128 : decode cX10_town 128 = .ok (.aload_n 0, 1) := by decide +kernel
theorem dX10_town_129 : decode cX10_town 129 = .ok (.invokevirtual 321, 3) := by decide +kernel
theorem dX10_town_132 : decode cX10_town 132 = .ok (.iconst 0, 1) := by decide +kernel
theorem dX10_town_133 : decode cX10_town 133 = .ok (.ireturn, 1) := by decide +kernel
theorem dX10_take_0 : decode cX10_take 0 = .ok (.iconst 0, 1) := by decide +kernel
theorem dX10_take_1 : decode cX10_take 1 = .ok (.istore_n 1, 1) := by decide +kernel
theorem dX10_take_2 : decode cX10_take 2 = .ok (.iload_n 1, 1) := by decide +kernel
theorem dX10_take_3 : decode cX10_take 3 = .ok (.bipush 7, 2) := by decide +kernel
theorem dX10_take_5 : decode cX10_take 5 = .ok (.if_icmp .ge 24, 3) := by decide +kernel
theorem dX10_take_8 : decode cX10_take 8 = .ok (.aload_n 0, 1) := by decide +kernel
theorem dX10_take_9 : decode cX10_take 9 = .ok (.getfield 54, 3) := by decide +kernel
theorem dX10_take_12 : decode cX10_take 12 = .ok (.iload_n 1, 1) := by decide +kernel
theorem dX10_take_13 : decode cX10_take 13 = .ok (.aload_n 0, 1) := by decide +kernel
theorem dX10_take_14 : decode cX10_take 14 = .ok (.getfield 54, 3) := by decide +kernel
theorem dX10_take_17 : decode cX10_take 17 = .ok (.bipush 7, 2) := by decide +kernel
theorem dX10_take_19 : decode cX10_take 19 = .ok (.iload_n 1, 1) := by decide +kernel
theorem dX10_take_20 : decode cX10_take 20 = .ok (.iadd, 1) := by decide +kernel
theorem dX10_take_21 : decode cX10_take 21 = .ok (.iaload, 1) := by decide +kernel
theorem dX10_take_22 : decode cX10_take 22 = .ok (.iastore, 1) := by decide +kernel
theorem dX10_take_23 : decode cX10_take 23 = .ok (.iinc 1 1, 3) := by decide +kernel
theorem dX10_take_26 : decode cX10_take 26 = .ok (.goto (-24), 3) := by decide +kernel
theorem dX10_take_29 : decode cX10_take 29 = .ok (.aload_n 0, 1) := by decide +kernel
theorem dX10_take_30 : decode cX10_take 30 = .ok (.aload_n 0, 1) := by decide +kernel
theorem dX10_take_31 : decode cX10_take 31 = .ok (.getfield 290, 3) := by decide +kernel
theorem dX10_take_34 : decode cX10_take 34 = .ok (.putfield 174, 3) := by decide +kernel
theorem dX10_take_37 : decode cX10_take 37 = .ok (.aload_n 0, 1) := by decide +kernel
theorem dX10_take_38 : decode cX10_take 38 = .ok (.aload_n 0, 1) := by decide +kernel
theorem dX10_take_39 : decode cX10_take 39 = .ok (.getfield 303, 3) := by decide +kernel
theorem dX10_take_42 : decode cX10_take 42 = .ok (.putfield 324, 3) := by decide +kernel
theorem dX10_take_45 : decode cX10_take 45 = .ok (.iconst 0, 1) := by decide +kernel
theorem dX10_take_46 : decode cX10_take 46 = .ok (.istore_n 1, 1) := by decide +kernel
theorem dX10_take_47 : decode cX10_take 47 = .ok (.iload_n 1, 1) := by decide +kernel
theorem dX10_take_48 : decode cX10_take 48 = .ok (.bipush 7, 2) := by decide +kernel
theorem dX10_take_50 : decode cX10_take 50 = .ok (.if_icmp .ge 69, 3) := by decide +kernel
theorem dX10_take_53 : decode cX10_take 53 = .ok (.aload_n 0, 1) := by decide +kernel
theorem dX10_take_54 : decode cX10_take 54 = .ok (.getfield 57, 3) := by decide +kernel
theorem dX10_take_57 : decode cX10_take 57 = .ok (.iload_n 1, 1) := by decide +kernel
theorem dX10_take_58 : decode cX10_take 58 = .ok (.aload_n 0, 1) := by decide +kernel
theorem dX10_take_59 : decode cX10_take 59 = .ok (.getfield 57, 3) := by decide +kernel
theorem dX10_take_62 : decode cX10_take 62 = .ok (.bipush 7, 2) := by decide +kernel
theorem dX10_take_64 : decode cX10_take 64 = .ok (.iload_n 1, 1) := by decide +kernel
theorem dX10_take_65 : decode cX10_take 65 = .ok (.iadd, 1) := by decide +kernel
theorem dX10_take_66 : decode cX10_take 66 = .ok (.iaload, 1) := by decide +kernel
theorem dX10_take_67 : decode cX10_take 67 = .ok (.iastore, 1) := by decide +kernel
theorem dX10_take_68 : decode cX10_take 68 = .ok (.aload_n 0, 1) := by decide +kernel
theorem dX10_take_69 : decode cX10_take 69 = .ok (.getfield 60, 3) := by decide +kernel
theorem dX10_take_72 : decode cX10_take 72 = .ok (.iload_n 1, 1) := by decide +kernel
theorem dX10_take_73 : decode cX10_take 73 = .ok (.aload_n 0, 1) := by decide +kernel
theorem dX10_take_74 : decode cX10_take 74 = .ok (.getfield 60, 3) := by decide +kernel
theorem dX10_take_77 : decode cX10_take 77 = .ok (.bipush 7, 2) := by decide +kernel
theorem dX10_take_79 : decode cX10_take 79 = .ok (.iload_n 1, 1) := by decide +kernel
theorem dX10_take_80 : decode cX10_take 80 = .ok (.iadd, 1) := by decide +kernel
theorem dX10_take_81 : decode cX10_take 81 = .ok (.iaload, 1) := by decide +kernel
theorem dX10_take_82 : decode cX10_take 82 = .ok (.iastore, 1) := by decide +kernel
theorem dX10_take_83 : decode cX10_take 83 = .ok (.aload_n 0, 1) := by decide +kernel
theorem dX10_take_84 : decode cX10_take 84 = .ok (.getfield 62, 3) := by decide +kernel
theorem dX10_take_87 : decode cX10_take 87 = .ok (.iload_n 1, 1) := by decide +kernel
theorem dX10_take_88 : decode cX10_take 88 = .ok (.aload_n 0, 1) := by decide +kernel
theorem dX10_take_89 : decode cX10_take 89 = .ok (.getfield 62, 3) := by decide +kernel
theorem dX10_take_92 : decode cX10_take 92 = .ok (.bipush 7, 2) := by decide +kernel
theorem dX10_take_94 : decode cX10_take 94 = .ok (.iload_n 1, 1) := by decide +kernel
theorem dX10_take_95 : decode cX10_take 95 = .ok (.iadd, 1) := by decide +kernel
theorem dX10_take_96 : decode cX10_take 96 = .ok (.iaload, 1) := by decide +kernel
theorem dX10_take_97 : decode cX10_take 97 = .ok (.iastore, 1) := by decide +kernel
theorem dX10_take_98 : decode cX10_take 98 = .ok (.aload_n 0, 1) := by decide +kernel
theorem dX10_take_99 : decode cX10_take 99 = .ok (.getfield 65, 3) := by decide +kernel
theorem dX10_take_102 : decode cX10_take 102 = .ok (.iload_n 1, 1) := by decide +kernel
theorem dX10_take_103 : decode cX10_take 103 = .ok (.aload_n 0, 1) := by decide +kernel
theorem dX10_take_104 : decode cX10_take 104 = .ok (.getfield 65, 3) := by decide +kernel
theorem dX10_take_107 : decode cX10_take 107 = .ok (.bipush 7, 2) := by decide +kernel
theorem dX10_take_109 : decode cX10_take 109 = .ok (.iload_n 1, 1) := by decide +kernel
theorem dX10_take_110 : decode cX10_take 110 = .ok (.iadd, 1) := by decide +kernel
theorem dX10_take_111 : decode cX10_take 111 = .ok (.iaload, 1) := by decide +kernel
theorem dX10_take_112 : decode cX10_take 112 = .ok (.iastore, 1) := by decide +kernel
theorem dX10_take_113 : decode cX10_take 113 = .ok (.iinc 1 1, 3) := by decide +kernel
theorem dX10_take_116 : decode cX10_take 116 = .ok (.goto (-69), 3) := by decide +kernel
theorem dX10_take_119 : decode cX10_take 119 = .ok (.iconst 0, 1) := by decide +kernel
theorem dX10_take_120 : decode cX10_take 120 = .ok (.istore_n 1, 1) := by decide +kernel
theorem dX10_take_121 : decode cX10_take 121 = .ok (.iload_n 1, 1) := by decide +kernel
theorem dX10_take_122 : decode cX10_take 122 = .ok (.iconst 4, 1) := by decide +kernel
theorem dX10_take_123 : decode cX10_take 123 = .ok (.if_icmp .ge 37, 3) := by decide +kernel
theorem dX10_take_126 : decode cX10_take 126 = .ok (.aload_n 0, 1) := by decide +kernel
theorem dX10_take_127 : decode cX10_take 127 = .ok (.getfield 68, 3) := by decide +kernel
theorem dX10_take_130 : decode cX10_take 130 = .ok (.iload_n 1, 1) := by decide +kernel
theorem dX10_take_131 : decode cX10_take 131 = .ok (.aload_n 0, 1) := by decide +kernel
theorem dX10_take_132 : decode cX10_take 132 = .ok (.getfield 68, 3) := by decide +kernel
theorem dX10_take_135 : decode cX10_take 135 = .ok (.iconst 4, 1) := by decide +kernel
theorem dX10_take_136 : decode cX10_take 136 = .ok (.iload_n 1, 1) := by decide +kernel
theorem dX10_take_137 : decode cX10_take 137 = .ok (.iadd, 1) := by decide +kernel
theorem dX10_take_138 : decode cX10_take 138 = .ok (.iaload, 1) := by decide +kernel
theorem dX10_take_139 : decode cX10_take 139 = .ok (.iastore, 1) := by decide +kernel
theorem dX10_take_140 : decode cX10_take 140 = .ok (.aload_n 0, 1) := by decide +kernel
theorem dX10_take_141 : decode cX10_take 141 = .ok (.getfield 71, 3) := by decide +kernel
theorem dX10_take_144 : decode cX10_take 144 = .ok (.iload_n 1, 1) := by decide +kernel
theorem dX10_take_145 : decode cX10_take 145 = .ok (.aload_n 0, 1) := by decide +kernel
theorem dX10_take_146 : decode cX10_take 146 = .ok (.getfield 71, 3) := by decide +kernel
theorem dX10_take_149 : decode cX10_take 149 = .ok (.iconst 4, 1) := by decide +kernel
theorem dX10_take_150 : decode cX10_take 150 = .ok (.iload_n 1, 1) := by decide +kernel
theorem dX10_take_151 : decode cX10_take 151 = .ok (.iadd, 1) := by decide +kernel
theorem dX10_take_152 : decode cX10_take 152 = .ok (.iaload, 1) := by decide +kernel
theorem dX10_take_153 : decode cX10_take 153 = .ok (.iastore, 1) := by decide +kernel
theorem dX10_take_154 : decode cX10_take 154 = .ok (.iinc 1 1, 3) := by decide +kernel
theorem dX10_take_157 : decode cX10_take 157 = .ok (.goto (-36), 3) := by decide +kernel
theorem dX10_take_160 : decode cX10_take 160 = .ok (.iconst 0, 1) := by decide +kernel
theorem dX10_take_161 : decode cX10_take 161 = .ok (.istore_n 1, 1) := by decide +kernel
theorem dX10_take_162 : decode cX10_take 162 = .ok (.iload_n 1, 1) := by decide +kernel
theorem dX10_take_163 : decode cX10_take 163 = .ok (.aload_n 0, 1) := by decide +kernel
theorem dX10_take_164 : decode cX10_take 164 = .ok (.getfield 250, 3) := by decide +kernel
theorem dX10_take_167 : decode cX10_take 167 = .ok (.if_icmp .ge 25, 3) := by decide +kernel
theorem dX10_take_192 : decode cX10_take 192 = .ok (.iconst 0, 1) := by decide +kernel
theorem dX10_take_193 : decode cX10_take 193 = .ok (.istore_n 1, 1) := by decide +kernel
theorem dX10_take_194 : decode cX10_take 194 = .ok (.iload_n 1, 1) := by decide +kernel
theorem dX10_take_195 : decode cX10_take 195 = .ok (.bipush 7, 2) := by decide +kernel
theorem dX10_take_197 : decode cX10_take 197 = .ok (.if_icmp .ge 34, 3) := by decide +kernel
theorem dX10_take_200 : decode cX10_take 200 = .ok (.aload_n 0, 1) := by decide +kernel
theorem dX10_take_201 : decode cX10_take 201 = .ok (.getfield 87, 3) := by decide +kernel
theorem dX10_take_204 : decode cX10_take 204 = .ok (.iload_n 1, 1) := by decide +kernel
theorem dX10_take_205 : decode cX10_take 205 = .ok (.iload_n 1, 1) := by decide +kernel
theorem dX10_take_206 : decode cX10_take 206 = .ok (.aload_n 0, 1) := by decide +kernel
theorem dX10_take_207 : decode cX10_take 207 = .ok (.getfield 174, 3) := by decide +kernel
theorem dX10_take_210 : decode cX10_take 210 = .ok (.if_icmp .ge 12, 3) := by decide +kernel
theorem dX10_take_222 : decode cX10_take 222 = .ok (.bipush 15, 2) := by decide +kernel
theorem dX10_take_224 : decode cX10_take 224 = .ok (.iastore, 1) := by decide +kernel
