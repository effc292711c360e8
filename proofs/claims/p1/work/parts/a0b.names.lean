theorem dX10_take_225 : decode cX10_take 225 = .ok (.iinc 1 1, 3) := by decide +kernel
theorem dX10_take_228 : decode cX10_take 228 = .ok (.goto (-34), 3) := by decide +kernel
theorem dX10_take_231 : decode cX10_take 231 = .ok (.aload_n 0, 1) := by decide +kernel
theorem dX10_take_232 : decode cX10_take 232 = .ok (.aload_n 0, 1) := by decide +kernel
theorem dX10_take_233 : decode cX10_take 233 = .ok (.getfield 54, 3) := by decide +kernel
theorem dX10_take_236 : decode cX10_take 236 = .ok (.iconst 1, 1) := by decide +kernel
theorem dX10_take_237 : decode cX10_take 237 = .ok (.iaload, 1) := by decide +kernel
theorem dX10_take_238 : decode cX10_take 238 = .ok (.putfield 327, 3) := by decide +kernel
theorem dX10_take_241 : decode cX10_take 241 = .ok (.aload_n 0, 1) := by decide +kernel
theorem dX10_take_242 : decode cX10_take 242 = .ok (.iconst 0, 1) := by decide +kernel
theorem dX10_take_243 : decode cX10_take 243 = .ok (.putfield 330, 3) := by decide +kernel
theorem dX10_take_246 : decode cX10_take 246 = .ok (.aload_n 0, 1) := by decide +kernel
theorem dX10_take_247 : decode cX10_take 247 = .ok (.iconst 0, 1) := by decide +kernel
theorem dX10_take_248 : decode cX10_take 248 = .ok (.putfield 333, 3) := by decide +kernel
theorem dX10_take_251 : decode cX10_take 251 = .ok (.aload_n 0, 1) := by decide +kernel
theorem dX10_take_252 : decode cX10_take 252 = .ok (.iconst 0, 1) := by decide +kernel
theorem dX10_take_253 : decode cX10_take 253 = .ok (.putfield 336, 3) := by decide +kernel
theorem dX10_take_256 : decode cX10_take 256 = .ok (.aload_n 0, 1) := by decide +kernel
theorem dX10_take_257 : decode cX10_take 257 = .ok (.iconst 0, 1) := by decide +kernel
theorem dX10_take_258 : decode cX10_take 258 = .ok (.putfield 339, 3) := by decide +kernel
theorem dX10_take_261 : decode cX10_take 261 = .ok (.return_, 1) := by decide +kernel
theorem dX10_fault_0 : decode cX10_fault 0 = .ok (.aload_n 0, 1) := by decide +kernel
theorem dX10_fault_1 : decode cX10_fault 1 = .ok (.iconst 0, 1) := by decide +kernel
theorem dX10_fault_2 : decode cX10_fault 2 = .ok (.putfield 171, 3) := by decide +kernel
theorem dX10_fault_5 : decode cX10_fault 5 = .ok (.aload_n 0, 1) := by decide +kernel
theorem dX10_fault_6 : decode cX10_fault 6 = .ok (.getfield 83, 3) := by decide +kernel
theorem dX10_fault_9 : decode cX10_fault 9 = .ok (.ireturn, 1) := by decide +kernel
theorem dX10_ridesOf_0 : decode cX10_ridesOf 0 = .ok (.iconst 0, 1) := by decide +kernel
theorem dX10_ridesOf_1 : decode cX10_ridesOf 1 = .ok (.istore_n 1, 1) := by decide +kernel
theorem dX10_ridesOf_2 : decode cX10_ridesOf 2 = .ok (.iconst 0, 1) := by decide +kernel
theorem dX10_ridesOf_3 : decode cX10_ridesOf 3 = .ok (.istore_n 2, 1) := by decide +kernel
theorem dX10_ridesOf_4 : decode cX10_ridesOf 4 = .ok (.iload_n 2, 1) := by decide +kernel
theorem dX10_ridesOf_5 : decode cX10_ridesOf 5 = .ok (.aload_n 0, 1) := by decide +kernel
theorem dX10_ridesOf_6 : decode cX10_ridesOf 6 = .ok (.getfield 330, 3) := by decide +kernel
theorem dX10_ridesOf_9 : decode cX10_ridesOf 9 = .ok (.if_icmp .ge 27, 3) := by decide +kernel
theorem dX10_ridesOf_36 : decode cX10_ridesOf 36 = .ok (.iload_n 1, 1) := by decide +kernel
theorem dX10_ridesOf_37 : decode cX10_ridesOf 37 = .ok (.ireturn, 1) := by decide +kernel
set_option maxRecDepth 20000 in
theorem ggX10_count_X10_isIn : GoodIn wsX10_count wsX10_isIn := goodIn_r _ [14] (by decide +kernel) (by decide +kernel)
set_option maxRecDepth 20000 in
theorem gX10_count_X10_isIn : GoodIn wsX10_count (va_wsS RX10 177 yX10_isIn wsX10_isIn) := goodIn_app (goodIn_of _ (by decide +kernel)) ggX10_count_X10_isIn
set_option maxRecDepth 20000 in
theorem ggX10_count_X10_ridesOf : GoodIn wsX10_count wsX10_ridesOf := goodIn_r _ [18, 7, 19, 24, 25, 26, 27, 28, 29, 30, 31, 32, 33, 34, 35, 36, 37, 38, 39, 40, 41, 42, 43, 44, 45, 46, 47, 48, 49, 50, 51, 52, 53, 54, 55, 56, 57, 58, 59, 60, 61, 62, 63, 64, 65, 66, 67, 68, 69, 70, 71, 72, 73, 74, 75, 76, 77, 78, 79, 80, 81, 82, 83, 84, 85, 86, 87, 88, 89, 90, 91, 92, 93, 94] (by decide +kernel) (by decide +kernel)
set_option maxRecDepth 20000 in
theorem gX10_count_X10_ridesOf : GoodIn wsX10_count (wsV RX10 343 RX10 yX10_ridesOf wsX10_ridesOf) := goodIn_app (goodIn_of _ (by decide +kernel)) ggX10_count_X10_ridesOf
set_option maxRecDepth 20000 in
theorem ggX10_count_X10_fail : GoodIn wsX10_count wsX10_fail := goodIn_r _ [23, 1, 24, 25, 26, 27, 28, 29, 30, 31, 32, 33, 34, 35, 36, 37, 38, 39, 40, 41, 42, 43, 44, 45, 46, 47, 48, 49, 50, 51, 52, 53, 54, 55, 56, 57, 58, 59, 60, 61, 62, 63, 64, 65, 66, 67, 68, 69, 70, 71, 72, 73, 74, 75, 76, 77, 78, 79, 80, 81, 82, 83, 84, 85, 86, 87, 88, 89, 90, 91, 92, 93, 94] (by decide +kernel) (by decide +kernel)
set_option maxRecDepth 20000 in
theorem gX10_count_X10_fail : GoodIn wsX10_count (wsV RX10 315 RX10 yX10_fail wsX10_fail) := goodIn_app (goodIn_of _ (by decide +kernel)) ggX10_count_X10_fail
theorem dX10_count_0 : decode cX10_count 0 = .ok (.aload_n 0, 1) := by decide +kernel
theorem dX10_count_1 : decode cX10_count 1 = .ok (.iconst 0, 1) := by decide +kernel
theorem dX10_count_2 : decode cX10_count 2 = .ok (.putfield 171, 3) := by decide +kernel
theorem dX10_count_5 : decode cX10_count 5 = .ok (.iload_n 1, 1) := by decide +kernel
theorem dX10_count_6 : decode cX10_count 6 = .ok (.bipush 14, 2) := by decide +kernel
theorem dX10_count_8 : decode cX10_count 8 = .ok (.bipush 16, 2) := by decide +kernel
theorem dX10_count_10 : decode cX10_count 10 = .ok (.invokestatic 177, 3) := by decide +kernel
theorem dX10_count_13 : decode cX10_count 13 = .ok (.ifCond .eq 13, 3) := by decide +kernel
theorem dX10_count_16 : decode cX10_count 16 = .ok (.aload_n 0, 1) := by decide +kernel
theorem dX10_count_17 : decode cX10_count 17 = .ok (.getfield 77, 3) := by decide +kernel
theorem dX10_count_20 : decode cX10_count 20 = .ok (.iload_n 1, 1) := by decide +kernel
theorem dX10_count_21 : decode cX10_count 21 = .ok (.bipush 14, 2) := by decide +kernel
theorem dX10_count_23 : decode cX10_count 23 = .ok (.isub, 1) := by decide +kernel
theorem dX10_count_24 : decode cX10_count 24 = .ok (.iaload, 1) := by decide +kernel
theorem dX10_count_25 : decode cX10_count 25 = .ok (.ireturn, 1) := by decide +kernel
theorem dX10_count_26 : decode cX10_count 26 = .ok (.iload_n 1, 1) := by decide +kernel
theorem dX10_count_27 : decode cX10_count 27 = .ok (.tableswitch 123 0 13 #[69, 76, 81, 81, 81, 81, 81, 88, 93, 98, 103, 108, 113, 118], 69) := by decide +kernel
theorem dX10_count_96 : decode cX10_count 96 = .ok (.aload_n 0, 1) := by decide +kernel
theorem dX10_count_97 : decode cX10_count 97 = .ok (.getfield 54, 3) := by decide +kernel
theorem dX10_count_100 : decode cX10_count 100 = .ok (.iconst 0, 1) := by decide +kernel
theorem dX10_count_101 : decode cX10_count 101 = .ok (.iaload, 1) := by decide +kernel
theorem dX10_count_102 : decode cX10_count 102 = .ok (.ireturn, 1) := by decide +kernel
theorem dX10_count_103 : decode cX10_count 103 = .ok (.aload_n 0, 1) := by decide +kernel
theorem dX10_count_104 : decode cX10_count 104 = .ok (.getfield 174, 3) := by decide +kernel
theorem dX10_count_107 : decode cX10_count 107 = .ok (.ireturn, 1) := by decide +kernel
theorem dX10_count_108 : decode cX10_count 108 = .ok (.aload_n 0, 1) := by decide +kernel
theorem dX10_count_109 : decode cX10_count 109 = .ok (.getfield 54, 3) := by decide +kernel
theorem dX10_count_112 : decode cX10_count 112 = .ok (.iload_n 1, 1) := by decide +kernel
theorem dX10_count_113 : decode cX10_count 113 = .ok (.iaload, 1) := by decide +kernel
theorem dX10_count_114 : decode cX10_count 114 = .ok (.ireturn, 1) := by decide +kernel
theorem dX10_count_115 : decode cX10_count 115 = .ok (.aload_n 0, 1) := by decide +kernel
theorem dX10_count_116 : decode cX10_count 116 = .ok (.getfield 324, 3) := by decide +kernel
theorem dX10_count_119 : decode cX10_count 119 = .ok (.ireturn, 1) := by decide +kernel
theorem dX10_count_120 : decode cX10_count 120 = .ok (.aload_n 0, 1) := by decide +kernel
theorem dX10_count_121 : decode cX10_count 121 = .ok (.getfield 327, 3) := by decide +kernel
theorem dX10_count_124 : decode cX10_count 124 = .ok (.ireturn, 1) := by decide +kernel
theorem dX10_count_125 : decode cX10_count 125 = .ok (.aload_n 0, 1) := by decide +kernel
theorem dX10_count_126 : decode cX10_count 126 = .ok (.getfield 330, 3) := by decide +kernel
theorem dX10_count_129 : decode cX10_count 129 = .ok (.ireturn, 1) := by decide +kernel
theorem dX10_count_130 : decode cX10_count 130 = .ok (.aload_n 0, 1) := by decide +kernel
theorem dX10_count_131 : decode cX10_count 131 = .ok (.invokevirtual 343, 3) := by decide +kernel
theorem dX10_count_134 : decode cX10_count 134 = .ok (.ireturn, 1) := by decide +kernel
theorem dX10_count_135 : decode cX10_count 135 = .ok (.aload_n 0, 1) := by decide +kernel
theorem dX10_count_136 : decode cX10_count 136 = .ok (.getfield 333, 3) := by decide +kernel
theorem dX10_count_139 : decode cX10_count 139 = .ok (.ireturn, 1) := by decide +kernel
theorem dX10_count_140 : decode cX10_count 140 = .ok (.aload_n 0, 1) := by decide +kernel
theorem dX10_count_141 : decode cX10_count 141 = .ok (.getfield 336, 3) := by decide +kernel
theorem dX10_count_144 : decode cX10_count 144 = .ok (.ireturn, 1) := by decide +kernel
theorem dX10_count_145 : decode cX10_count 145 = .ok (.aload_n 0, 1) := by decide +kernel
theorem dX10_count_146 : decode cX10_count 146 = .ok (.getfield 181, 3) := by decide +kernel
theorem dX10_count_149 : decode cX10_count 149 = .ok (.ireturn, 1) := by decide +kernel
theorem dX10_count_150 : decode cX10_count 150 = .ok (.aload_n 0, 1) := by decide +kernel
theorem dX10_count_151 : decode cX10_count 151 = .ok (.iconst 1, 1) := by decide +kernel
theorem dX10_count_152 : decode cX10_count 152 = .ok (.invokevirtual 315, 3) := by decide +kernel
theorem dX10_count_155 : decode cX10_count 155 = .ok (.ireturn, 1) := by decide +kernel
set_option maxRecDepth 20000 in
theorem ggX10_depthOf_X10_depths : GoodIn wsX10_depthOf wsX10_depths := goodIn_r _ [5, 6, 7, 8, 9, 10, 11, 12, 13, 14, 15, 16, 17, 18, 19, 20, 21, 22, 23, 24, 25, 26, 27, 28, 29, 30, 31, 32, 33, 34, 35, 36, 37, 38, 39, 40, 41, 42, 43, 44, 45, 46, 47, 48, 49, 50, 51, 52, 53, 54, 55, 56, 57, 58, 59, 60, 61, 62, 63, 64, 65, 66, 67, 68, 69, 70, 71, 72, 73, 74, 75, 76, 77] (by decide +kernel) (by decide +kernel)
set_option maxRecDepth 20000 in
theorem gX10_depthOf_X10_depths : GoodIn wsX10_depthOf (wsV RX10 346 RX10 yX10_depths wsX10_depths) := goodIn_app (goodIn_of _ (by decide +kernel)) ggX10_depthOf_X10_depths
theorem dX10_depthOf_0 : decode cX10_depthOf 0 = .ok (.iload_n 1, 1) := by decide +kernel
theorem dX10_depthOf_1 : decode cX10_depthOf 1 = .ok (.ifCond .ne 7, 3) := by decide +kernel
theorem dX10_depthOf_4 : decode cX10_depthOf 4 = .ok (.iload_n 2, 1) := by decide +kernel
theorem dX10_depthOf_5 : decode cX10_depthOf 5 = .ok (.goto 9, 3) := by decide +kernel
theorem dX10_depthOf_8 : decode cX10_depthOf 8 = .ok (.aload_n 0, 1) := by decide +kernel
theorem dX10_depthOf_9 : decode cX10_depthOf 9 = .ok (.invokevirtual 346, 3) := by decide +kernel
theorem dX10_depthOf_12 : decode cX10_depthOf 12 = .ok (.iload_n 2, 1) := by decide +kernel
theorem dX10_depthOf_13 : decode cX10_depthOf 13 = .ok (.isub, 1) := by decide +kernel
theorem dX10_depthOf_14 : decode cX10_depthOf 14 = .ok (.ireturn, 1) := by decide +kernel
set_option maxRecDepth 20000 in
theorem ggX10_thing_X10_isThing : GoodIn wsX10_thing wsX10_isThing := goodIn_r _ [11, 12, 13, 14, 10, 15, 33, 34, 35, 36, 37, 38, 39, 40, 41, 42, 43, 44, 45, 46, 47, 48, 49, 50, 51, 52, 53, 54, 55, 56, 57, 58, 59, 60, 61, 62, 63, 64, 65, 66, 67, 68, 69, 70, 71, 72, 73, 74, 75, 76, 77, 78, 79, 80, 81, 82, 83, 84, 85, 86, 87, 88, 89, 90, 91, 92, 93, 94, 95, 96, 97, 98, 99, 100, 101, 102, 103] (by decide +kernel) (by decide +kernel)
set_option maxRecDepth 20000 in
theorem gX10_thing_X10_isThing : GoodIn wsX10_thing (wsV RX10 349 RX10 yX10_isThing wsX10_isThing) := goodIn_app (goodIn_of _ (by decide +kernel)) ggX10_thing_X10_isThing
set_option maxRecDepth 20000 in
theorem ggX10_thing_X10_fail : GoodIn wsX10_thing wsX10_fail := goodIn_r _ [19, 1, 33, 34, 35, 36, 37, 38, 39, 40, 41, 42, 43, 44, 45, 46, 47, 48, 49, 50, 51, 52, 53, 54, 55, 56, 57, 58, 59, 60, 61, 62, 63, 64, 65, 66, 67, 68, 69, 70, 71, 72, 73, 74, 75, 76, 77, 78, 79, 80, 81, 82, 83, 84, 85, 86, 87, 88, 89, 90, 91, 92, 93, 94, 95, 96, 97, 98, 99, 100, 101, 102, 103] (by decide +kernel) (by decide +kernel)
set_option maxRecDepth 20000 in
theorem gX10_thing_X10_fail : GoodIn wsX10_thing (wsV RX10 315 RX10 yX10_fail wsX10_fail) := goodIn_app (goodIn_of _ (by decide +kernel)) ggX10_thing_X10_fail
theorem dX10_thing_0 : decode cX10_thing 0 = .ok (.aload_n 0, 1) := by decide +kernel
theorem dX10_thing_1 : decode cX10_thing 1 = .ok (.iconst 0, 1) := by decide +kernel
theorem dX10_thing_2 : decode cX10_thing 2 = .ok (.putfield 171, 3) := by decide +kernel
theorem dX10_thing_5 : decode cX10_thing 5 = .ok (.aload_n 0, 1) := by decide +kernel
theorem dX10_thing_6 : decode cX10_thing 6 = .ok (.iload_n 1, 1) := by decide +kernel
theorem dX10_thing_7 : decode cX10_thing 7 = .ok (.invokevirtual 349, 3) := by decide +kernel
theorem dX10_thing_10 : decode cX10_thing 10 = .ok (.ifCond .ne 9, 3) := by decide +kernel
theorem dX10_thing_13 : decode cX10_thing 13 = .ok (.aload_n 0, 1) := by decide +kernel
theorem dX10_thing_14 : decode cX10_thing 14 = .ok (.iconst 1, 1) := by decide +kernel
theorem dX10_thing_15 : decode cX10_thing 15 = .ok (.invokevirtual 315, 3) := by decide +kernel
theorem dX10_thing_18 : decode cX10_thing 18 = .ok (.ireturn, 1) := by decide +kernel
theorem dX10_loadOf_0 : decode cX10_loadOf 0 = .ok (.iconst 0, 1) := by decide +kernel
theorem dX10_loadOf_1 : decode cX10_loadOf 1 = .ok (.istore_n 3, 1) := by decide +kernel
theorem dX10_loadOf_2 : decode cX10_loadOf 2 = .ok (.iconst 0, 1) := by decide +kernel
theorem dX10_loadOf_3 : decode cX10_loadOf 3 = .ok (.istore 4, 2) := by decide +kernel
theorem dX10_loadOf_5 : decode cX10_loadOf 5 = .ok (.iload 4, 2) := by decide +kernel
theorem dX10_loadOf_7 : decode cX10_loadOf 7 = .ok (.aload_n 0, 1) := by decide +kernel
theorem dX10_loadOf_8 : decode cX10_loadOf 8 = .ok (.getfield 174, 3) := by decide +kernel
theorem dX10_loadOf_11 : decode cX10_loadOf 11 = .ok (.if_icmp .ge 34, 3) := by decide +kernel
theorem dX10_loadOf_45 : decode cX10_loadOf 45 = .ok (.iload_n 3, 1) := by decide +kernel
theorem dX10_loadOf_46 : decode cX10_loadOf 46 = .ok (.ireturn, 1) := by decide +kernel
set_option maxRecDepth 20000 in
theorem ggX10_sideOf_X10_loadOf : GoodIn wsX10_sideOf wsX10_loadOf := goodIn_r _ [6, 7, 8, 9, 10, 5, 11, 20, 21, 22, 23, 24, 25, 26, 27, 28, 29, 30, 31, 32, 33, 34, 35, 36, 37, 38, 39, 40, 41, 42, 43, 44, 45, 46, 47, 48, 49, 50, 51, 52, 53, 54, 55, 56, 57, 58, 59, 60, 61, 62, 63, 64, 65, 66, 67, 68, 69, 70, 71, 72, 73, 74, 75, 76, 77, 78, 79, 80, 81, 82, 83, 84, 85, 86, 87, 88, 89, 90] (by decide +kernel) (by decide +kernel)
set_option maxRecDepth 20000 in
theorem gX10_sideOf_X10_loadOf : GoodIn wsX10_sideOf (wsV RX10 362 RX10 yX10_loadOf wsX10_loadOf) := goodIn_app (goodIn_of _ (by decide +kernel)) ggX10_sideOf_X10_loadOf
set_option maxRecDepth 20000 in
theorem ggX10_sideOf_X10_depthOf : GoodIn wsX10_sideOf wsX10_depthOf := goodIn_r _ [15, 16, 17, 18, 5, 19, 1, 20, 21, 22, 23, 24, 25, 26, 27, 28, 29, 30, 31, 32, 33, 34, 35, 36, 37, 38, 39, 40, 41, 42, 43, 44, 45, 46, 47, 48, 49, 50, 51, 52, 53, 54, 55, 56, 57, 58, 59, 60, 61, 62, 63, 64, 65, 66, 67, 68, 69, 70, 71, 72, 73, 74, 75, 76, 77, 78, 79, 80, 81, 82, 83, 84, 85, 86, 87, 88, 89, 90] (by decide +kernel) (by decide +kernel)
set_option maxRecDepth 20000 in
theorem gX10_sideOf_X10_depthOf : GoodIn wsX10_sideOf (wsV RX10 352 RX10 yX10_depthOf wsX10_depthOf) := goodIn_app (goodIn_of _ (by decide +kernel)) ggX10_sideOf_X10_depthOf
theorem dX10_sideOf_0 : decode cX10_sideOf 0 = .ok (.aload_n 0, 1) := by decide +kernel
theorem dX10_sideOf_1 : decode cX10_sideOf 1 = .ok (.aload_n 1, 1) := by decide +kernel
theorem dX10_sideOf_2 : decode cX10_sideOf 2 = .ok (.iload_n 2, 1) := by decide +kernel
theorem dX10_sideOf_3 : decode cX10_sideOf 3 = .ok (.invokevirtual 362, 3) := by decide +kernel
theorem dX10_sideOf_6 : decode cX10_sideOf 6 = .ok (.aload_n 0, 1) := by decide +kernel
theorem dX10_sideOf_7 : decode cX10_sideOf 7 = .ok (.getfield 54, 3) := by decide +kernel
theorem dX10_sideOf_10 : decode cX10_sideOf 10 = .ok (.iconst 3, 1) := by decide +kernel
theorem dX10_sideOf_11 : decode cX10_sideOf 11 = .ok (.iaload, 1) := by decide +kernel
theorem dX10_sideOf_12 : decode cX10_sideOf 12 = .ok (.aload_n 0, 1) := by decide +kernel
theorem dX10_sideOf_13 : decode cX10_sideOf 13 = .ok (.iload_n 2, 1) := by decide +kernel
theorem dX10_sideOf_14 : decode cX10_sideOf 14 = .ok (.iload_n 3, 1) := by decide +kernel
theorem dX10_sideOf_15 : decode cX10_sideOf 15 = .ok (.invokevirtual 352, 3) := by decide +kernel
theorem dX10_sideOf_18 : decode cX10_sideOf 18 = .ok (.imul, 1) := by decide +kernel
theorem dX10_sideOf_19 : decode cX10_sideOf 19 = .ok (.iadd, 1) := by decide +kernel
theorem dX10_sideOf_20 : decode cX10_sideOf 20 = .ok (.ireturn, 1) := by decide +kernel
theorem dX10_manyOf_0 : decode cX10_manyOf 0 = .ok (.iconst 0, 1) := by decide +kernel
theorem dX10_manyOf_1 : decode cX10_manyOf 1 = .ok (.istore 4, 2) := by decide +kernel
theorem dX10_manyOf_3 : decode cX10_manyOf 3 = .ok (.iconst 0, 1) := by decide +kernel
theorem dX10_manyOf_4 : decode cX10_manyOf 4 = .ok (.istore 5, 2) := by decide +kernel
theorem dX10_manyOf_6 : decode cX10_manyOf 6 = .ok (.iload 5, 2) := by decide +kernel
theorem dX10_manyOf_8 : decode cX10_manyOf 8 = .ok (.aload_n 0, 1) := by decide +kernel
theorem dX10_manyOf_9 : decode cX10_manyOf 9 = .ok (.getfield 174, 3) := by decide +kernel
theorem dX10_manyOf_12 : decode cX10_manyOf 12 = .ok (.if_icmp .ge 41, 3) := by decide +kernel
theorem dX10_manyOf_53 : decode cX10_manyOf 53 = .ok (.iload 4, 2) := by decide +kernel
theorem dX10_manyOf_55 : decode cX10_manyOf 55 = .ok (.ireturn, 1) := by decide +kernel
set_option maxRecDepth 20000 in
theorem ggX10_brokenBy_X10_manyOf : GoodIn wsX10_brokenBy wsX10_manyOf := goodIn_r _ [7, 8, 9, 10, 11, 6, 12, 38, 39, 40, 41, 42, 43, 44, 45, 46, 47, 48, 49, 50, 51, 52, 53, 54, 55, 56, 57, 58, 59, 60, 61, 62, 63, 64, 65, 66, 67, 68, 69, 70, 71, 72, 73, 74, 75, 76, 77, 78, 79, 80, 81, 82, 83, 84, 85, 86, 87, 88, 89, 90, 91, 92, 93, 94, 95, 96, 97, 98, 99, 100, 101, 102, 103, 104, 105, 106, 107, 108] (by decide +kernel) (by decide +kernel)
set_option maxRecDepth 20000 in
theorem gX10_brokenBy_X10_manyOf : GoodIn wsX10_brokenBy (wsV RX10 370 RX10 yX10_manyOf wsX10_manyOf) := goodIn_app (goodIn_of _ (by decide +kernel)) ggX10_brokenBy_X10_manyOf
set_option maxRecDepth 20000 in
theorem ggX10_brokenBy_X10_loadOf : GoodIn wsX10_brokenBy wsX10_loadOf := goodIn_r _ [16, 8, 17, 10, 11, 6, 12, 38, 39, 40, 41, 42, 43, 44, 45, 46, 47, 48, 49, 50, 51, 52, 53, 54, 55, 56, 57, 58, 59, 60, 61, 62, 63, 64, 65, 66, 67, 68, 69, 70, 71, 72, 73, 74, 75, 76, 77, 78, 79, 80, 81, 82, 83, 84, 85, 86, 87, 88, 89, 90, 91, 92, 93, 94, 95, 96, 97, 98, 99, 100, 101, 102, 103, 104, 105, 106, 107, 108] (by decide +kernel) (by decide +kernel)
set_option maxRecDepth 20000 in
theorem gX10_brokenBy_X10_loadOf : GoodIn wsX10_brokenBy (wsV RX10 362 RX10 yX10_loadOf wsX10_loadOf) := goodIn_app (goodIn_of _ (by decide +kernel)) ggX10_brokenBy_X10_loadOf
set_option maxRecDepth 20000 in
theorem ggX10_brokenBy_X10_depthOf : GoodIn wsX10_brokenBy wsX10_depthOf := goodIn_r _ [21, 22, 23, 24, 6, 25, 26, 38, 39, 40, 41, 42, 43, 44, 45, 46, 47, 48, 49, 50, 51, 52, 53, 54, 55, 56, 57, 58, 59, 60, 61, 62, 63, 64, 65, 66, 67, 68, 69, 70, 71, 72, 73, 74, 75, 76, 77, 78, 79, 80, 81, 82, 83, 84, 85, 86, 87, 88, 89, 90, 91, 92, 93, 94, 95, 96, 97, 98, 99, 100, 101, 102, 103, 104, 105, 106, 107, 108] (by decide +kernel) (by decide +kernel)
set_option maxRecDepth 20000 in
theorem gX10_brokenBy_X10_depthOf : GoodIn wsX10_brokenBy (wsV RX10 352 RX10 yX10_depthOf wsX10_depthOf) := goodIn_app (goodIn_of _ (by decide +kernel)) ggX10_brokenBy_X10_depthOf
theorem dX10_brokenBy_0 : decode cX10_brokenBy 0 = .ok (.aload_n 0, 1) := by decide +kernel
theorem dX10_brokenBy_1 : decode cX10_brokenBy 1 = .ok (.getfield 108, 3) := by decide +kernel
theorem dX10_brokenBy_4 : decode cX10_brokenBy 4 = .ok (.iconst 0, 1) := by decide +kernel
theorem dX10_brokenBy_5 : decode cX10_brokenBy 5 = .ok (.aload_n 0, 1) := by decide +kernel
theorem dX10_brokenBy_6 : decode cX10_brokenBy 6 = .ok (.aload_n 1, 1) := by decide +kernel
theorem dX10_brokenBy_7 : decode cX10_brokenBy 7 = .ok (.iload_n 2, 1) := by decide +kernel
theorem dX10_brokenBy_8 : decode cX10_brokenBy 8 = .ok (.iconst 0, 1) := by decide +kernel
theorem dX10_brokenBy_9 : decode cX10_brokenBy 9 = .ok (.invokevirtual 370, 3) := by decide +kernel
theorem dX10_brokenBy_12 : decode cX10_brokenBy 12 = .ok (.iastore, 1) := by decide +kernel
theorem dX10_brokenBy_13 : decode cX10_brokenBy 13 = .ok (.aload_n 0, 1) := by decide +kernel
theorem dX10_brokenBy_14 : decode cX10_brokenBy 14 = .ok (.getfield 108, 3) := by decide +kernel
theorem dX10_brokenBy_17 : decode cX10_brokenBy 17 = .ok (.iconst 1, 1) := by decide +kernel
theorem dX10_brokenBy_18 : decode cX10_brokenBy 18 = .ok (.aload_n 0, 1) := by decide +kernel
theorem dX10_brokenBy_19 : decode cX10_brokenBy 19 = .ok (.aload_n 1, 1) := by decide +kernel
theorem dX10_brokenBy_20 : decode cX10_brokenBy 20 = .ok (.iload_n 2, 1) := by decide +kernel
theorem dX10_brokenBy_21 : decode cX10_brokenBy 21 = .ok (.iconst 1, 1) := by decide +kernel
theorem dX10_brokenBy_22 : decode cX10_brokenBy 22 = .ok (.invokevirtual 370, 3) := by decide +kernel
theorem dX10_brokenBy_25 : decode cX10_brokenBy 25 = .ok (.iastore, 1) := by decide +kernel
theorem dX10_brokenBy_26 : decode cX10_brokenBy 26 = .ok (.aload_n 0, 1) := by decide +kernel
theorem dX10_brokenBy_27 : decode cX10_brokenBy 27 = .ok (.getfield 108, 3) := by decide +kernel
theorem dX10_brokenBy_30 : decode cX10_brokenBy 30 = .ok (.iconst 2, 1) := by decide +kernel
theorem dX10_brokenBy_31 : decode cX10_brokenBy 31 = .ok (.aload_n 0, 1) := by decide +kernel
theorem dX10_brokenBy_32 : decode cX10_brokenBy 32 = .ok (.aload_n 1, 1) := by decide +kernel
theorem dX10_brokenBy_33 : decode cX10_brokenBy 33 = .ok (.iload_n 2, 1) := by decide +kernel
theorem dX10_brokenBy_34 : decode cX10_brokenBy 34 = .ok (.iconst 2, 1) := by decide +kernel
theorem dX10_brokenBy_35 : decode cX10_brokenBy 35 = .ok (.invokevirtual 370, 3) := by decide +kernel
theorem dX10_brokenBy_38 : decode cX10_brokenBy 38 = .ok (.iastore, 1) := by decide +kernel
theorem dX10_brokenBy_39 : decode cX10_brokenBy 39 = .ok (.aload_n 0, 1) := by decide +kernel
theorem dX10_brokenBy_40 : decode cX10_brokenBy 40 = .ok (.getfield 108, 3) := by decide +kernel
theorem dX10_brokenBy_43 : decode cX10_brokenBy 43 = .ok (.iconst 3, 1) := by decide +kernel
theorem dX10_brokenBy_44 : decode cX10_brokenBy 44 = .ok (.aload_n 0, 1) := by decide +kernel
theorem dX10_brokenBy_45 : decode cX10_brokenBy 45 = .ok (.aload_n 1, 1) := by decide +kernel
theorem dX10_brokenBy_46 : decode cX10_brokenBy 46 = .ok (.iload_n 2, 1) := by decide +kernel
theorem dX10_brokenBy_47 : decode cX10_brokenBy 47 = .ok (.iconst 3, 1) := by decide +kernel
theorem dX10_brokenBy_48 : decode cX10_brokenBy 48 = .ok (.invokevirtual 370, 3) := by decide +kernel
theorem dX10_brokenBy_51 : decode cX10_brokenBy 51 = .ok (.iastore, 1) := by decide +kernel
theorem dX10_brokenBy_52 : decode cX10_brokenBy 52 = .ok (.aload_n 0, 1) := by decide +kernel
theorem dX10_brokenBy_53 : decode cX10_brokenBy 53 = .ok (.getfield 108, 3) := by decide +kernel
theorem dX10_brokenBy_56 : decode cX10_brokenBy 56 = .ok (.iconst 4, 1) := by decide +kernel
theorem dX10_brokenBy_57 : decode cX10_brokenBy 57 = .ok (.aload_n 0, 1) := by decide +kernel
theorem dX10_brokenBy_58 : decode cX10_brokenBy 58 = .ok (.aload_n 1, 1) := by decide +kernel
theorem dX10_brokenBy_59 : decode cX10_brokenBy 59 = .ok (.iload_n 2, 1) := by decide +kernel
theorem dX10_brokenBy_60 : decode cX10_brokenBy 60 = .ok (.invokevirtual 362, 3) := by decide +kernel
theorem dX10_brokenBy_63 : decode cX10_brokenBy 63 = .ok (.iastore, 1) := by decide +kernel
theorem dX10_brokenBy_64 : decode cX10_brokenBy 64 = .ok (.aload_n 0, 1) := by decide +kernel
theorem dX10_brokenBy_65 : decode cX10_brokenBy 65 = .ok (.getfield 108, 3) := by decide +kernel
theorem dX10_brokenBy_68 : decode cX10_brokenBy 68 = .ok (.iconst 5, 1) := by decide +kernel
theorem dX10_brokenBy_69 : decode cX10_brokenBy 69 = .ok (.aload_n 0, 1) := by decide +kernel
theorem dX10_brokenBy_70 : decode cX10_brokenBy 70 = .ok (.iload_n 2, 1) := by decide +kernel
theorem dX10_brokenBy_71 : decode cX10_brokenBy 71 = .ok (.iload_n 3, 1) := by decide +kernel
theorem dX10_brokenBy_72 : decode cX10_brokenBy 72 = .ok (.invokevirtual 352, 3) := by decide +kernel
theorem dX10_brokenBy_75 : decode cX10_brokenBy 75 = .ok (.iastore, 1) := by decide +kernel
theorem dX10_brokenBy_76 : decode cX10_brokenBy 76 = .ok (.aload_n 0, 1) := by decide +kernel
theorem dX10_brokenBy_77 : decode cX10_brokenBy 77 = .ok (.getfield 108, 3) := by decide +kernel
theorem dX10_brokenBy_80 : decode cX10_brokenBy 80 = .ok (.bipush 6, 2) := by decide +kernel
theorem dX10_brokenBy_82 : decode cX10_brokenBy 82 = .ok (.aload_n 0, 1) := by decide +kernel
theorem dX10_brokenBy_83 : decode cX10_brokenBy 83 = .ok (.aload_n 1, 1) := by decide +kernel
theorem dX10_brokenBy_84 : decode cX10_brokenBy 84 = .ok (.iconst 1, 1) := by decide +kernel
theorem dX10_brokenBy_85 : decode cX10_brokenBy 85 = .ok (.iload_n 2, 1) := by decide +kernel
theorem dX10_brokenBy_86 : decode cX10_brokenBy 86 = .ok (.isub, 1) := by decide +kernel
theorem dX10_brokenBy_87 : decode cX10_brokenBy 87 = .ok (.invokevirtual 362, 3) := by decide +kernel
theorem dX10_brokenBy_90 : decode cX10_brokenBy 90 = .ok (.iastore, 1) := by decide +kernel
theorem dX10_brokenBy_91 : decode cX10_brokenBy 91 = .ok (.iconst 0, 1) := by decide +kernel
theorem dX10_brokenBy_92 : decode cX10_brokenBy 92 = .ok (.istore 4, 2) := by decide +kernel
theorem dX10_brokenBy_94 : decode cX10_brokenBy 94 = .ok (.iload 4, 2) := by decide +kernel
theorem dX10_brokenBy_96 : decode cX10_brokenBy 96 = .ok (.aload_n 0, 1) := by decide +kernel
theorem dX10_brokenBy_97 : decode cX10_brokenBy 97 = .ok (.getfield 324, 3) := by decide +kernel
theorem dX10_brokenBy_100 : decode cX10_brokenBy 100 = .ok (.if_icmp .ge 21, 3) := by decide +kernel
theorem dX10_brokenBy_121 : decode cX10_brokenBy 121 = .ok (.iconst (-1), 1) := by decide +kernel
theorem dX10_brokenBy_122 : decode cX10_brokenBy 122 = .ok (.ireturn, 1) := by decide +kernel
set_option maxRecDepth 20000 in
theorem ggX10_bucket_X10_isIn : GoodIn wsX10_bucket wsX10_isIn := goodIn_r _ [8] (by decide +kernel) (by decide +kernel)
set_option maxRecDepth 20000 in
theorem gX10_bucket_X10_isIn : GoodIn wsX10_bucket (va_wsS RX10 177 yX10_isIn wsX10_isIn) := goodIn_app (goodIn_of _ (by decide +kernel)) ggX10_bucket_X10_isIn
set_option maxRecDepth 20000 in
theorem ggX10_bucket_X10_fail : GoodIn wsX10_bucket wsX10_fail := goodIn_r _ [12, 1, 56, 57, 58, 59, 60, 61, 62, 63, 64, 65, 66, 67, 68, 69, 70, 71, 72, 73, 74, 75, 76, 77, 78, 79, 80, 81, 82, 83, 84, 85, 86, 87, 88, 89, 90, 91, 92, 93, 94, 95, 96, 97, 98, 99, 100, 101, 102, 103, 104, 105, 106, 107, 108, 109, 110, 111, 112, 113, 114, 115, 116, 117, 118, 119, 120, 121, 122, 123, 124, 125, 126] (by decide +kernel) (by decide +kernel)
set_option maxRecDepth 20000 in
theorem gX10_bucket_X10_fail : GoodIn wsX10_bucket (wsV RX10 315 RX10 yX10_fail wsX10_fail) := goodIn_app (goodIn_of _ (by decide +kernel)) ggX10_bucket_X10_fail
set_option maxRecDepth 20000 in
theorem ggX10_bucket_X10_loadOf : GoodIn wsX10_bucket wsX10_loadOf := goodIn_r _ [19, 2, 20, 13, 14, 7, 15, 56, 57, 58, 59, 60, 61, 62, 63, 64, 65, 66, 67, 68, 69, 70, 71, 72, 73, 74, 75, 76, 77, 78, 79, 80, 81, 82, 83, 84, 85, 86, 87, 88, 89, 90, 91, 92, 93, 94, 95, 96, 97, 98, 99, 100, 101, 102, 103, 104, 105, 106, 107, 108, 109, 110, 111, 112, 113, 114, 115, 116, 117, 118, 119, 120, 121, 122, 123, 124, 125, 126] (by decide +kernel) (by decide +kernel)
set_option maxRecDepth 20000 in
theorem gX10_bucket_X10_loadOf : GoodIn wsX10_bucket (wsV RX10 362 RX10 yX10_loadOf wsX10_loadOf) := goodIn_app (goodIn_of _ (by decide +kernel)) ggX10_bucket_X10_loadOf
set_option maxRecDepth 20000 in
theorem ggX10_bucket_X10_sideOf : GoodIn wsX10_bucket wsX10_sideOf := goodIn_r _ [24, 25, 16, 17, 18, 7, 19, 2, 20, 13, 14, 15, 26, 27, 28, 29, 30, 31, 32, 33, 56, 57, 58, 59, 60, 61, 62, 63, 64, 65, 66, 67, 68, 69, 70, 71, 72, 73, 74, 75, 76, 77, 78, 79, 80, 81, 82, 83, 84, 85, 86, 87, 88, 89, 90, 91, 92, 93, 94, 95, 96, 97, 98, 99, 100, 101, 102, 103, 104, 105, 106, 107, 108, 109, 110, 111, 112, 113, 114, 115, 116, 117, 118, 119, 120, 121, 122, 123, 124, 125, 126] (by decide +kernel) (by decide +kernel)
set_option maxRecDepth 20000 in
theorem gX10_bucket_X10_sideOf : GoodIn wsX10_bucket (wsV RX10 377 RX10 yX10_sideOf wsX10_sideOf) := goodIn_app (goodIn_of _ (by decide +kernel)) ggX10_bucket_X10_sideOf
set_option maxRecDepth 20000 in
theorem ggX10_bucket_X10_depthOf : GoodIn wsX10_bucket wsX10_depthOf := goodIn_r _ [29, 30, 31, 32, 7, 33, 25, 56, 57, 58, 59, 60, 61, 62, 63, 64, 65, 66, 67, 68, 69, 70, 71, 72, 73, 74, 75, 76, 77, 78, 79, 80, 81, 82, 83, 84, 85, 86, 87, 88, 89, 90, 91, 92, 93, 94, 95, 96, 97, 98, 99, 100, 101, 102, 103, 104, 105, 106, 107, 108, 109, 110, 111, 112, 113, 114, 115, 116, 117, 118, 119, 120, 121, 122, 123, 124, 125, 126] (by decide +kernel) (by decide +kernel)
set_option maxRecDepth 20000 in
theorem gX10_bucket_X10_depthOf : GoodIn wsX10_bucket (wsV RX10 352 RX10 yX10_depthOf wsX10_depthOf) := goodIn_app (goodIn_of _ (by decide +kernel)) ggX10_bucket_X10_depthOf
set_option maxRecDepth 20000 in
theorem ggX10_bucket_X10_brokenBy : GoodIn wsX10_bucket wsX10_brokenBy := goodIn_r _ [37, 38, 39, 40, 41, 42, 7, 43, 2, 44, 13, 14, 15, 16, 17, 18, 19, 20, 26, 27, 28, 29, 30, 31, 32, 33, 25, 45, 46, 47, 48, 49, 50, 51, 52, 53, 54, 55, 56, 57, 58, 59, 60, 61, 62, 63, 64, 65, 66, 67, 68, 69, 70, 71, 72, 73, 74, 75, 76, 77, 78, 79, 80, 81, 82, 83, 84, 85, 86, 87, 88, 89, 90, 91, 92, 93, 94, 95, 96, 97, 98, 99, 100, 101, 102, 103, 104, 105, 106, 107, 108, 109, 110, 111, 112, 113, 114, 115, 116, 117, 118, 119, 120, 121, 122, 123, 124, 125, 126] (by decide +kernel) (by decide +kernel)
set_option maxRecDepth 20000 in
theorem gX10_bucket_X10_brokenBy : GoodIn wsX10_bucket (wsV RX10 380 RX10 yX10_brokenBy wsX10_brokenBy) := goodIn_app (goodIn_of _ (by decide +kernel)) ggX10_bucket_X10_brokenBy
theorem dX10_bucket_0 : decode cX10_bucket 0 = .ok (.aload_n 0, 1) := by decide +kernel
theorem dX10_bucket_1 : decode cX10_bucket 1 = .ok (.iconst 0, 1) := by decide +kernel
theorem dX10_bucket_2 : decode cX10_bucket 2 = .ok (.putfield 171, 3) := by decide +kernel
theorem dX10_bucket_5 : decode cX10_bucket 5 = .ok (.iload_n 1, 1) := by decide +kernel
theorem dX10_bucket_6 : decode cX10_bucket 6 = .ok (.iconst 0, 1) := by decide +kernel
theorem dX10_bucket_7 : decode cX10_bucket 7 = .ok (.iconst 1, 1) := by decide +kernel
theorem dX10_bucket_8 : decode cX10_bucket 8 = .ok (.invokestatic 177, 3) := by decide +kernel
theorem dX10_bucket_11 : decode cX10_bucket 11 = .ok (.ifCond .ne 9, 3) := by decide +kernel
theorem dX10_bucket_14 : decode cX10_bucket 14 = .ok (.aload_n 0, 1) := by decide +kernel
theorem dX10_bucket_15 : decode cX10_bucket 15 = .ok (.iconst 1, 1) := by decide +kernel
theorem dX10_bucket_16 : decode cX10_bucket 16 = .ok (.invokevirtual 315, 3) := by decide +kernel
theorem dX10_bucket_19 : decode cX10_bucket 19 = .ok (.ireturn, 1) := by decide +kernel
theorem dX10_bucket_20 : decode cX10_bucket 20 = .ok (.iconst 0, 1) := by decide +kernel
theorem dX10_bucket_21 : decode cX10_bucket 21 = .ok (.istore_n 3, 1) := by decide +kernel
theorem dX10_bucket_22 : decode cX10_bucket 22 = .ok (.iconst 0, 1) := by decide +kernel
theorem dX10_bucket_23 : decode cX10_bucket 23 = .ok (.istore 4, 2) := by decide +kernel
theorem dX10_bucket_25 : decode cX10_bucket 25 = .ok (.iload 4, 2) := by decide +kernel
theorem dX10_bucket_27 : decode cX10_bucket 27 = .ok (.aload_n 0, 1) := by decide +kernel
theorem dX10_bucket_28 : decode cX10_bucket 28 = .ok (.getfield 174, 3) := by decide +kernel
theorem dX10_bucket_31 : decode cX10_bucket 31 = .ok (.if_icmp .ge 34, 3) := by decide +kernel
theorem dX10_bucket_65 : decode cX10_bucket 65 = .ok (.iload_n 2, 1) := by decide +kernel
theorem dX10_bucket_66 : decode cX10_bucket 66 = .ok (.tableswitch 84 0 4 #[34, 44, 58, 68, 70], 34) := by decide +kernel
theorem dX10_bucket_100 : decode cX10_bucket 100 = .ok (.aload_n 0, 1) := by decide +kernel
theorem dX10_bucket_101 : decode cX10_bucket 101 = .ok (.aload_n 0, 1) := by decide +kernel
theorem dX10_bucket_102 : decode cX10_bucket 102 = .ok (.getfield 87, 3) := by decide +kernel
theorem dX10_bucket_105 : decode cX10_bucket 105 = .ok (.iload_n 1, 1) := by decide +kernel
theorem dX10_bucket_106 : decode cX10_bucket 106 = .ok (.invokevirtual 362, 3) := by decide +kernel
theorem dX10_bucket_109 : decode cX10_bucket 109 = .ok (.ireturn, 1) := by decide +kernel
theorem dX10_bucket_110 : decode cX10_bucket 110 = .ok (.aload_n 0, 1) := by decide +kernel
theorem dX10_bucket_111 : decode cX10_bucket 111 = .ok (.aload_n 0, 1) := by decide +kernel
theorem dX10_bucket_112 : decode cX10_bucket 112 = .ok (.getfield 87, 3) := by decide +kernel
theorem dX10_bucket_115 : decode cX10_bucket 115 = .ok (.iload_n 1, 1) := by decide +kernel
theorem dX10_bucket_116 : decode cX10_bucket 116 = .ok (.aload_n 0, 1) := by decide +kernel
theorem dX10_bucket_117 : decode cX10_bucket 117 = .ok (.getfield 327, 3) := by decide +kernel
theorem dX10_bucket_120 : decode cX10_bucket 120 = .ok (.invokevirtual 377, 3) := by decide +kernel
theorem dX10_bucket_123 : decode cX10_bucket 123 = .ok (.ireturn, 1) := by decide +kernel
theorem dX10_bucket_124 : decode cX10_bucket 124 = .ok (.aload_n 0, 1) := by decide +kernel
theorem dX10_bucket_125 : decode cX10_bucket 125 = .ok (.iload_n 1, 1) := by decide +kernel
theorem dX10_bucket_126 : decode cX10_bucket 126 = .ok (.aload_n 0, 1) := by decide +kernel
theorem dX10_bucket_127 : decode cX10_bucket 127 = .ok (.getfield 327, 3) := by decide +kernel
theorem dX10_bucket_130 : decode cX10_bucket 130 = .ok (.invokevirtual 352, 3) := by decide +kernel
theorem dX10_bucket_133 : decode cX10_bucket 133 = .ok (.ireturn, 1) := by decide +kernel
theorem dX10_bucket_134 : decode cX10_bucket 134 = .ok (.iload_n 3, 1) := by decide +kernel
theorem dX10_bucket_135 : decode cX10_bucket 135 = .ok (.ireturn, 1) := by decide +kernel
theorem dX10_bucket_136 : decode cX10_bucket 136 = .ok (.aload_n 0, 1) := by decide +kernel
theorem dX10_bucket_137 : decode cX10_bucket 137 = .ok (.aload_n 0, 1) := by decide +kernel
theorem dX10_bucket_138 : decode cX10_bucket 138 = .ok (.getfield 87, 3) := by decide +kernel
theorem dX10_bucket_141 : decode cX10_bucket 141 = .ok (.iload_n 1, 1) := by decide +kernel
theorem dX10_bucket_142 : decode cX10_bucket 142 = .ok (.aload_n 0, 1) := by decide +kernel
theorem dX10_bucket_143 : decode cX10_bucket 143 = .ok (.getfield 327, 3) := by decide +kernel
theorem dX10_bucket_146 : decode cX10_bucket 146 = .ok (.invokevirtual 380, 3) := by decide +kernel
theorem dX10_bucket_149 : decode cX10_bucket 149 = .ok (.ireturn, 1) := by decide +kernel
theorem dX10_bucket_150 : decode cX10_bucket 150 = .ok (.aload_n 0, 1) := by decide +kernel
theorem dX10_bucket_151 : decode cX10_bucket 151 = .ok (.iconst 1, 1) := by decide +kernel
theorem dX10_bucket_152 : decode cX10_bucket 152 = .ok (.invokevirtual 315, 3) := by decide +kernel
theorem dX10_bucket_155 : decode cX10_bucket 155 = .ok (.ireturn, 1) := by decide +kernel
set_option maxRecDepth 20000 in
theorem ggX10_tellRide_X10_sideOf : GoodIn wsX10_tellRide wsX10_sideOf := goodIn_r _ [18, 13, 19, 20, 21, 17, 22, 23, 24, 25, 26, 27, 28, 29, 30, 31, 32, 33, 34, 35, 36, 37, 38, 39, 40, 41, 42, 43, 44, 45, 46, 47, 48, 49, 50, 51, 52, 53, 54, 55, 56, 57, 58, 59, 60, 61, 62, 63, 64, 65, 66, 67, 68, 69, 70, 71, 72, 73, 74, 75, 76, 77, 78, 79, 80, 81, 82, 83, 84, 85, 86, 87, 88, 89, 90, 91, 92, 93, 94, 95, 96, 97, 98, 99, 100, 101, 102, 103, 104, 105, 106] (by decide +kernel) (by decide +kernel)
set_option maxRecDepth 20000 in
theorem gX10_tellRide_X10_sideOf : GoodIn wsX10_tellRide (wsV RX10 377 RX10 yX10_sideOf wsX10_sideOf) := goodIn_app (goodIn_of _ (by decide +kernel)) ggX10_tellRide_X10_sideOf
theorem dX10_tellRide_0 : decode cX10_tellRide 0 = .ok (.aload_n 0, 1) := by decide +kernel
theorem dX10_tellRide_1 : decode cX10_tellRide 1 = .ok (.ldc_w 383, 3) := by decide +kernel
theorem dX10_tellRide_4 : decode cX10_tellRide 4 = .ok (.putfield 384, 3) := by decide +kernel
theorem dX10_tellRide_7 : decode cX10_tellRide 7 = .ok (.aload_n 0, 1) := by decide +kernel
theorem dX10_tellRide_8 : decode cX10_tellRide 8 = .ok (.ldc_w 387, 3) := by decide +kernel
theorem dX10_tellRide_11 : decode cX10_tellRide 11 = .ok (.putfield 388, 3) := by decide +kernel
theorem dX10_tellRide_14 : decode cX10_tellRide 14 = .ok (.aload_n 0, 1) := by decide +kernel
theorem dX10_tellRide_15 : decode cX10_tellRide 15 = .ok (.iconst 0, 1) := by decide +kernel
theorem dX10_tellRide_16 : decode cX10_tellRide 16 = .ok (.putfield 391, 3) := by decide +kernel
theorem dX10_tellRide_19 : decode cX10_tellRide 19 = .ok (.iload_n 3, 1) := by decide +kernel
theorem dX10_tellRide_20 : decode cX10_tellRide 20 = .ok (.iload_n 2, 1) := by decide +kernel
theorem dX10_tellRide_21 : decode cX10_tellRide 21 = .ok (.if_icmp .le 7, 3) := by decide +kernel
theorem dX10_tellRide_24 : decode cX10_tellRide 24 = .ok (.iconst 1, 1) := by decide +kernel
theorem dX10_tellRide_25 : decode cX10_tellRide 25 = .ok (.goto 4, 3) := by decide +kernel
theorem dX10_tellRide_28 : decode cX10_tellRide 28 = .ok (.iconst (-1), 1) := by decide +kernel
theorem dX10_tellRide_29 : decode cX10_tellRide 29 = .ok (.istore 4, 2) := by decide +kernel
theorem dX10_tellRide_31 : decode cX10_tellRide 31 = .ok (.iload_n 3, 1) := by decide +kernel
theorem dX10_tellRide_32 : decode cX10_tellRide 32 = .ok (.iload_n 2, 1) := by decide +kernel
theorem dX10_tellRide_33 : decode cX10_tellRide 33 = .ok (.if_icmp .le 7, 3) := by decide +kernel
theorem dX10_tellRide_36 : decode cX10_tellRide 36 = .ok (.iconst 0, 1) := by decide +kernel
theorem dX10_tellRide_37 : decode cX10_tellRide 37 = .ok (.goto 4, 3) := by decide +kernel
theorem dX10_tellRide_40 : decode cX10_tellRide 40 = .ok (.iconst 1, 1) := by decide +kernel
theorem dX10_tellRide_41 : decode cX10_tellRide 41 = .ok (.istore 5, 2) := by decide +kernel
theorem dX10_tellRide_43 : decode cX10_tellRide 43 = .ok (.iload_n 2, 1) := by decide +kernel
theorem dX10_tellRide_44 : decode cX10_tellRide 44 = .ok (.istore 6, 2) := by decide +kernel
theorem dX10_tellRide_46 : decode cX10_tellRide 46 = .ok (.iload 6, 2) := by decide +kernel
theorem dX10_tellRide_48 : decode cX10_tellRide 48 = .ok (.iload_n 3, 1) := by decide +kernel
theorem dX10_tellRide_49 : decode cX10_tellRide 49 = .ok (.if_icmp .eq 106, 3) := by decide +kernel
theorem dX10_tellRide_52 : decode cX10_tellRide 52 = .ok (.aload_n 0, 1) := by decide +kernel
theorem dX10_tellRide_53 : decode cX10_tellRide 53 = .ok (.aload_n 1, 1) := by decide +kernel
theorem dX10_tellRide_54 : decode cX10_tellRide 54 = .ok (.iload 5, 2) := by decide +kernel
theorem dX10_tellRide_56 : decode cX10_tellRide 56 = .ok (.iload 6, 2) := by decide +kernel
theorem dX10_tellRide_58 : decode cX10_tellRide 58 = .ok (.invokevirtual 377, 3) := by decide +kernel
theorem dX10_tellRide_61 : decode cX10_tellRide 61 = .ok (.aload_n 0, 1) := by decide +kernel
theorem dX10_tellRide_62 : decode cX10_tellRide 62 = .ok (.aload_n 1, 1) := by decide +kernel
theorem dX10_tellRide_63 : decode cX10_tellRide 63 = .ok (.iconst 1, 1) := by decide +kernel
theorem dX10_tellRide_64 : decode cX10_tellRide 64 = .ok (.iload 5, 2) := by decide +kernel
theorem dX10_tellRide_66 : decode cX10_tellRide 66 = .ok (.isub, 1) := by decide +kernel
theorem dX10_tellRide_67 : decode cX10_tellRide 67 = .ok (.iload 6, 2) := by decide +kernel
theorem dX10_tellRide_69 : decode cX10_tellRide 69 = .ok (.invokevirtual 377, 3) := by decide +kernel
theorem dX10_tellRide_72 : decode cX10_tellRide 72 = .ok (.isub, 1) := by decide +kernel
theorem dX10_tellRide_73 : decode cX10_tellRide 73 = .ok (.istore 7, 2) := by decide +kernel
theorem dX10_tellRide_75 : decode cX10_tellRide 75 = .ok (.aload_n 0, 1) := by decide +kernel
theorem dX10_tellRide_76 : decode cX10_tellRide 76 = .ok (.aload_n 0, 1) := by decide +kernel
theorem dX10_tellRide_77 : decode cX10_tellRide 77 = .ok (.getfield 384, 3) := by decide +kernel
theorem dX10_tellRide_80 : decode cX10_tellRide 80 = .ok (.iload 7, 2) := by decide +kernel
theorem dX10_tellRide_82 : decode cX10_tellRide 82 = .ok (.invokestatic 211, 3) := by decide +kernel
theorem dX10_tellRide_85 : decode cX10_tellRide 85 = .ok (.putfield 384, 3) := by decide +kernel
theorem dX10_tellRide_88 : decode cX10_tellRide 88 = .ok (.aload_n 0, 1) := by decide +kernel
theorem dX10_tellRide_89 : decode cX10_tellRide 89 = .ok (.aload_n 0, 1) := by decide +kernel
theorem dX10_tellRide_90 : decode cX10_tellRide 90 = .ok (.getfield 388, 3) := by decide +kernel
theorem dX10_tellRide_93 : decode cX10_tellRide 93 = .ok (.iload 7, 2) := by decide +kernel
theorem dX10_tellRide_95 : decode cX10_tellRide 95 = .ok (.invokestatic 394, 3) := by decide +kernel
theorem dX10_tellRide_98 : decode cX10_tellRide 98 = .ok (.putfield 388, 3) := by decide +kernel
theorem dX10_tellRide_101 : decode cX10_tellRide 101 = .ok (.aload_n 0, 1) := by decide +kernel
theorem dX10_tellRide_102 : decode cX10_tellRide 102 = .ok (.dup, 1) := by decide +kernel
theorem dX10_tellRide_103 : decode cX10_tellRide 103 = .ok (.getfield 391, 3) := by decide +kernel
theorem dX10_tellRide_106 : decode cX10_tellRide 106 = .ok (.iconst 0, 1) := by decide +kernel
theorem dX10_tellRide_107 : decode cX10_tellRide 107 = .ok (.aload_n 0, 1) := by decide +kernel
theorem dX10_tellRide_108 : decode cX10_tellRide 108 = .ok (.getfield 54, 3) := by decide +kernel
theorem dX10_tellRide_111 : decode cX10_tellRide 111 = .ok (.iconst 4, 1) := by decide +kernel
theorem dX10_tellRide_112 : decode cX10_tellRide 112 = .ok (.iaload, 1) := by decide +kernel
theorem dX10_tellRide_113 : decode cX10_tellRide 113 = .ok (.iload 7, 2) := by decide +kernel
theorem dX10_tellRide_115 : decode cX10_tellRide 115 = .ok (.isub, 1) := by decide +kernel
theorem dX10_tellRide_116 : decode cX10_tellRide 116 = .ok (.invokestatic 394, 3) := by decide +kernel
theorem dX10_tellRide_119 : decode cX10_tellRide 119 = .ok (.iconst 0, 1) := by decide +kernel
theorem dX10_tellRide_120 : decode cX10_tellRide 120 = .ok (.iload 7, 2) := by decide +kernel
theorem dX10_tellRide_122 : decode cX10_tellRide 122 = .ok (.aload_n 0, 1) := by decide +kernel
theorem dX10_tellRide_123 : decode cX10_tellRide 123 = .ok (.getfield 54, 3) := by decide +kernel
theorem dX10_tellRide_126 : decode cX10_tellRide 126 = .ok (.iconst 5, 1) := by decide +kernel
theorem dX10_tellRide_127 : decode cX10_tellRide 127 = .ok (.iaload, 1) := by decide +kernel
theorem dX10_tellRide_128 : decode cX10_tellRide 128 = .ok (.isub, 1) := by decide +kernel
theorem dX10_tellRide_129 : decode cX10_tellRide 129 = .ok (.aload_n 0, 1) := by decide +kernel
theorem dX10_tellRide_130 : decode cX10_tellRide 130 = .ok (.getfield 54, 3) := by decide +kernel
theorem dX10_tellRide_133 : decode cX10_tellRide 133 = .ok (.bipush 6, 2) := by decide +kernel
theorem dX10_tellRide_135 : decode cX10_tellRide 135 = .ok (.iaload, 1) := by decide +kernel
theorem dX10_tellRide_136 : decode cX10_tellRide 136 = .ok (.isub, 1) := by decide +kernel
theorem dX10_tellRide_137 : decode cX10_tellRide 137 = .ok (.invokestatic 394, 3) := by decide +kernel
theorem dX10_tellRide_140 : decode cX10_tellRide 140 = .ok (.iadd, 1) := by decide +kernel
theorem dX10_tellRide_141 : decode cX10_tellRide 141 = .ok (.iadd, 1) := by decide +kernel
theorem dX10_tellRide_142 : decode cX10_tellRide 142 = .ok (.putfield 391, 3) := by decide +kernel
theorem dX10_tellRide_145 : decode cX10_tellRide 145 = .ok (.iload 6, 2) := by decide +kernel
theorem dX10_tellRide_147 : decode cX10_tellRide 147 = .ok (.iload 4, 2) := by decide +kernel
theorem dX10_tellRide_149 : decode cX10_tellRide 149 = .ok (.iadd, 1) := by decide +kernel
theorem dX10_tellRide_150 : decode cX10_tellRide 150 = .ok (.istore 6, 2) := by decide +kernel
theorem dX10_tellRide_152 : decode cX10_tellRide 152 = .ok (.goto (-106), 3) := by decide +kernel
theorem dX10_tellRide_155 : decode cX10_tellRide 155 = .ok (.return_, 1) := by decide +kernel
set_option maxRecDepth 20000 in
theorem ggX10_keepsCap_X10_loadOf : GoodIn wsX10_keepsCap wsX10_loadOf := goodIn_r _ [6, 7, 8, 9, 10, 5, 11, 12, 13, 14, 15, 16, 17, 18, 19, 20, 21, 22, 23, 24, 25, 26, 27, 28, 29, 30, 31, 32, 33, 34, 35, 36, 37, 38, 39, 40, 41, 42, 43, 44, 45, 46, 47, 48, 49, 50, 51, 52, 53, 54, 55, 56, 57, 58, 59, 60, 61, 62, 63, 64, 65, 66, 67, 68, 69, 70, 71, 72, 73, 74, 75, 76, 77, 78, 79, 80, 81, 82] (by decide +kernel) (by decide +kernel)
set_option maxRecDepth 20000 in
theorem gX10_keepsCap_X10_loadOf : GoodIn wsX10_keepsCap (wsV RX10 362 RX10 yX10_loadOf wsX10_loadOf) := goodIn_app (goodIn_of _ (by decide +kernel)) ggX10_keepsCap_X10_loadOf
theorem dX10_keepsCap_0 : decode cX10_keepsCap 0 = .ok (.aload_n 0, 1) := by decide +kernel
theorem dX10_keepsCap_1 : decode cX10_keepsCap 1 = .ok (.aload_n 1, 1) := by decide +kernel
theorem dX10_keepsCap_2 : decode cX10_keepsCap 2 = .ok (.iconst 0, 1) := by decide +kernel
theorem dX10_keepsCap_3 : decode cX10_keepsCap 3 = .ok (.invokevirtual 362, 3) := by decide +kernel
theorem dX10_keepsCap_6 : decode cX10_keepsCap 6 = .ok (.aload_n 0, 1) := by decide +kernel
theorem dX10_keepsCap_7 : decode cX10_keepsCap 7 = .ok (.getfield 54, 3) := by decide +kernel
theorem dX10_keepsCap_10 : decode cX10_keepsCap 10 = .ok (.iconst 2, 1) := by decide +kernel
theorem dX10_keepsCap_11 : decode cX10_keepsCap 11 = .ok (.iaload, 1) := by decide +kernel
theorem dX10_keepsCap_12 : decode cX10_keepsCap 12 = .ok (.if_icmp .gt 22, 3) := by decide +kernel
theorem dX10_keepsCap_15 : decode cX10_keepsCap 15 = .ok (.aload_n 0, 1) := by decide +kernel
theorem dX10_keepsCap_16 : decode cX10_keepsCap 16 = .ok (.aload_n 1, 1) := by decide +kernel
theorem dX10_keepsCap_17 : decode cX10_keepsCap 17 = .ok (.iconst 1, 1) := by decide +kernel
theorem dX10_keepsCap_18 : decode cX10_keepsCap 18 = .ok (.invokevirtual 362, 3) := by decide +kernel
theorem dX10_keepsCap_21 : decode cX10_keepsCap 21 = .ok (.aload_n 0, 1) := by decide +kernel
theorem dX10_keepsCap_22 : decode cX10_keepsCap 22 = .ok (.getfield 54, 3) := by decide +kernel
theorem dX10_keepsCap_25 : decode cX10_keepsCap 25 = .ok (.iconst 2, 1) := by decide +kernel
theorem dX10_keepsCap_26 : decode cX10_keepsCap 26 = .ok (.iaload, 1) := by decide +kernel
theorem dX10_keepsCap_27 : decode cX10_keepsCap 27 = .ok (.if_icmp .gt 7, 3) := by decide +kernel
theorem dX10_keepsCap_30 : decode cX10_keepsCap 30 = .ok (.iconst 1, 1) := by decide +kernel
theorem dX10_keepsCap_31 : decode cX10_keepsCap 31 = .ok (.goto 4, 3) := by decide +kernel
theorem dX10_keepsCap_35 : decode cX10_keepsCap 35 = .ok (.ireturn, 1) := by decide +kernel
set_option maxRecDepth 20000 in
theorem ggX10_keepsRules_X10_brokenBy : GoodIn wsX10_keepsRules wsX10_brokenBy := goodIn_r _ [5, 6, 7, 8, 9, 10, 4, 11, 12, 13, 14, 15, 16, 17, 18, 19, 20, 21, 22, 23, 24, 25, 26, 27, 28, 29, 30, 31, 32, 33, 34, 35, 36, 37, 38, 39, 40, 41, 42, 43, 44, 45, 46, 47, 48, 49, 50, 51, 52, 53, 54, 55, 56, 57, 58, 59, 60, 61, 62, 63, 64, 65, 66, 67, 68, 69, 70, 71, 72, 73, 74, 75, 76, 77, 78, 79, 80, 81, 82, 83, 84, 85, 86, 87, 88, 89, 90, 91, 92, 93, 94, 95, 96, 97, 98, 99, 100, 101, 102, 103, 104, 105, 106, 107, 108, 109, 110, 111, 112] (by decide +kernel) (by decide +kernel)
set_option maxRecDepth 20000 in
theorem gX10_keepsRules_X10_brokenBy : GoodIn wsX10_keepsRules (wsV RX10 380 RX10 yX10_brokenBy wsX10_brokenBy) := goodIn_app (goodIn_of _ (by decide +kernel)) ggX10_keepsRules_X10_brokenBy
theorem dX10_keepsRules_0 : decode cX10_keepsRules 0 = .ok (.aload_n 0, 1) := by decide +kernel
theorem dX10_keepsRules_1 : decode cX10_keepsRules 1 = .ok (.aload_n 1, 1) := by decide +kernel
theorem dX10_keepsRules_2 : decode cX10_keepsRules 2 = .ok (.iconst 0, 1) := by decide +kernel
theorem dX10_keepsRules_3 : decode cX10_keepsRules 3 = .ok (.iload_n 2, 1) := by decide +kernel
theorem dX10_keepsRules_4 : decode cX10_keepsRules 4 = .ok (.invokevirtual 380, 3) := by decide +kernel
theorem dX10_keepsRules_7 : decode cX10_keepsRules 7 = .ok (.iconst (-1), 1) := by decide +kernel
theorem dX10_keepsRules_8 : decode cX10_keepsRules 8 = .ok (.if_icmp .ne 18, 3) := by decide +kernel
theorem dX10_keepsRules_11 : decode cX10_keepsRules 11 = .ok (.aload_n 0, 1) := by decide +kernel
theorem dX10_keepsRules_12 : decode cX10_keepsRules 12 = .ok (.aload_n 1, 1) := by decide +kernel
theorem dX10_keepsRules_13 : decode cX10_keepsRules 13 = .ok (.iconst 1, 1) := by decide +kernel
theorem dX10_keepsRules_14 : decode cX10_keepsRules 14 = .ok (.iload_n 2, 1) := by decide +kernel
theorem dX10_keepsRules_15 : decode cX10_keepsRules 15 = .ok (.invokevirtual 380, 3) := by decide +kernel
theorem dX10_keepsRules_18 : decode cX10_keepsRules 18 = .ok (.iconst (-1), 1) := by decide +kernel
theorem dX10_keepsRules_19 : decode cX10_keepsRules 19 = .ok (.if_icmp .ne 7, 3) := by decide +kernel
theorem dX10_keepsRules_22 : decode cX10_keepsRules 22 = .ok (.iconst 1, 1) := by decide +kernel
theorem dX10_keepsRules_23 : decode cX10_keepsRules 23 = .ok (.goto 4, 3) := by decide +kernel
theorem dX10_keepsRules_27 : decode cX10_keepsRules 27 = .ok (.ireturn, 1) := by decide +kernel
theorem dX10_swing_0 : decode cX10_swing 0 = .ok (.iload_n 1, 1) := by decide +kernel
theorem dX10_swing_1 : decode cX10_swing 1 = .ok (.iconst 2, 1) := by decide +kernel
theorem dX10_swing_2 : decode cX10_swing 2 = .ok (.if_icmp .ne 5, 3) := by decide +kernel
theorem dX10_swing_5 : decode cX10_swing 5 = .ok (.iconst 0, 1) := by decide +kernel
theorem dX10_swing_6 : decode cX10_swing 6 = .ok (.ireturn, 1) := by decide +kernel
theorem dX10_swing_7 : decode cX10_swing 7 = .ok (.aload_n 0, 1) := by decide +kernel
theorem dX10_swing_8 : decode cX10_swing 8 = .ok (.getfield 384, 3) := by decide +kernel
theorem dX10_swing_11 : decode cX10_swing 11 = .ok (.aload_n 0, 1) := by decide +kernel
theorem dX10_swing_12 : decode cX10_swing 12 = .ok (.getfield 54, 3) := by decide +kernel
theorem dX10_swing_15 : decode cX10_swing 15 = .ok (.iconst 4, 1) := by decide +kernel
theorem dX10_swing_16 : decode cX10_swing 16 = .ok (.iaload, 1) := by decide +kernel
theorem dX10_swing_17 : decode cX10_swing 17 = .ok (.if_icmp .ge 8, 3) := by decide +kernel
theorem dX10_swing_20 : decode cX10_swing 20 = .ok (.bipush 6, 2) := by decide +kernel
theorem dX10_swing_22 : decode cX10_swing 22 = .ok (.goto 39, 3) := by decide +kernel
theorem dX10_swing_61 : decode cX10_swing 61 = .ok (.ireturn, 1) := by decide +kernel
set_option maxRecDepth 20000 in
theorem ggX10_rideTrouble_X10_depths : GoodIn wsX10_rideTrouble wsX10_depths := goodIn_r _ [8, 9, 80, 81, 82, 83, 84, 85, 86, 87, 88, 89, 90, 91, 92, 93, 94, 95, 96, 97, 98, 99, 100, 101, 102, 103, 104, 105, 106, 107, 108, 109, 110, 111, 112, 113, 114, 115, 116, 117, 118, 119, 120, 121, 122, 123, 124, 125, 126, 127, 128, 129, 130, 131, 132, 133, 134, 135, 136, 137, 138, 139, 140, 141, 142, 143, 144, 145, 146, 147, 148, 149, 150] (by decide +kernel) (by decide +kernel)
set_option maxRecDepth 20000 in
theorem gX10_rideTrouble_X10_depths : GoodIn wsX10_rideTrouble (wsV RX10 346 RX10 yX10_depths wsX10_depths) := goodIn_app (goodIn_of _ (by decide +kernel)) ggX10_rideTrouble_X10_depths
set_option maxRecDepth 20000 in
theorem ggX10_rideTrouble_X10_isIn : GoodIn wsX10_rideTrouble wsX10_isIn := goodIn_r _ [12] (by decide +kernel) (by decide +kernel)
set_option maxRecDepth 20000 in
theorem gX10_rideTrouble_X10_isIn : GoodIn wsX10_rideTrouble (va_wsS RX10 177 yX10_isIn wsX10_isIn) := goodIn_app (goodIn_of _ (by decide +kernel)) ggX10_rideTrouble_X10_isIn
set_option maxRecDepth 20000 in
theorem ggX10_rideTrouble_X10_keepsCap : GoodIn wsX10_rideTrouble wsX10_keepsCap := goodIn_r _ [16, 9, 17, 18, 19, 7, 20, 21, 22, 23, 24, 25, 80, 81, 82, 83, 84, 85, 86, 87, 88, 89, 90, 91, 92, 93, 94, 95, 96, 97, 98, 99, 100, 101, 102, 103, 104, 105, 106, 107, 108, 109, 110, 111, 112, 113, 114, 115, 116, 117, 118, 119, 120, 121, 122, 123, 124, 125, 126, 127, 128, 129, 130, 131, 132, 133, 134, 135, 136, 137, 138, 139, 140, 141, 142, 143, 144, 145, 146, 147, 148, 149, 150] (by decide +kernel) (by decide +kernel)
set_option maxRecDepth 20000 in
theorem gX10_rideTrouble_X10_keepsCap : GoodIn wsX10_rideTrouble (wsV RX10 397 RX10 yX10_keepsCap wsX10_keepsCap) := goodIn_app (goodIn_of _ (by decide +kernel)) ggX10_rideTrouble_X10_keepsCap
set_option maxRecDepth 20000 in
theorem ggX10_rideTrouble_X10_keepsRules : GoodIn wsX10_rideTrouble wsX10_keepsRules := goodIn_r _ [29, 30, 31, 32, 7, 33, 34, 35, 36, 37, 38, 39, 21, 40, 23, 24, 25, 17, 18, 19, 20, 22, 41, 42, 43, 44, 4, 5, 6, 8, 9, 45, 46, 47, 48, 49, 50, 51, 52, 53, 54, 55, 80, 81, 82, 83, 84, 85, 86, 87, 88, 89, 90, 91, 92, 93, 94, 95, 96, 97, 98, 99, 100, 101, 102, 103, 104, 105, 106, 107, 108, 109, 110, 111, 112, 113, 114, 115, 116, 117, 118, 119, 120, 121, 122, 123, 124, 125, 126, 127, 128, 129, 130, 131, 132, 133, 134, 135, 136, 137, 138, 139, 140, 141, 142, 143, 144, 145, 146, 147, 148, 149, 150] (by decide +kernel) (by decide +kernel)
set_option maxRecDepth 20000 in
theorem gX10_rideTrouble_X10_keepsRules : GoodIn wsX10_rideTrouble (wsV RX10 401 RX10 yX10_keepsRules wsX10_keepsRules) := goodIn_app (goodIn_of _ (by decide +kernel)) ggX10_rideTrouble_X10_keepsRules
set_option maxRecDepth 20000 in
theorem ggX10_rideTrouble_X10_tellRide : GoodIn wsX10_rideTrouble wsX10_tellRide := goodIn_r _ [59, 60, 61, 62, 63, 64, 65, 66, 67, 68, 69, 70, 71, 9, 72, 73, 74, 7, 75, 17, 18, 19, 20, 21, 22, 23, 24, 25, 41, 42, 43, 44, 4, 5, 6, 8, 80, 81, 82, 83, 84, 85, 86, 87, 88, 89, 90, 91, 92, 93, 94, 95, 96, 97, 98, 99, 100, 101, 102, 103, 104, 105, 106, 107, 108, 109, 110, 111, 112, 113, 114, 115, 116, 117, 118, 119, 120, 121, 122, 123, 124, 125, 126, 127, 128, 129, 130, 131, 132, 133, 134, 135, 136, 137, 138, 139, 140, 141, 142, 143, 144, 145, 146, 147, 148, 149, 150] (by decide +kernel) (by decide +kernel)
set_option maxRecDepth 20000 in
theorem gX10_rideTrouble_X10_tellRide : GoodIn wsX10_rideTrouble (wsV RX10 405 RX10 yX10_tellRide wsX10_tellRide) := goodIn_app (goodIn_of _ (by decide +kernel)) ggX10_rideTrouble_X10_tellRide
set_option maxRecDepth 20000 in
theorem ggX10_rideTrouble_X10_swing : GoodIn wsX10_rideTrouble wsX10_swing := goodIn_r _ [79, 61, 9, 63, 80, 81, 82, 83, 84, 85, 86, 87, 88, 89, 90, 91, 92, 93, 94, 95, 96, 97, 98, 99, 100, 101, 102, 103, 104, 105, 106, 107, 108, 109, 110, 111, 112, 113, 114, 115, 116, 117, 118, 119, 120, 121, 122, 123, 124, 125, 126, 127, 128, 129, 130, 131, 132, 133, 134, 135, 136, 137, 138, 139, 140, 141, 142, 143, 144, 145, 146, 147, 148, 149, 150] (by decide +kernel) (by decide +kernel)
set_option maxRecDepth 20000 in
theorem gX10_rideTrouble_X10_swing : GoodIn wsX10_rideTrouble (wsV RX10 409 RX10 yX10_swing wsX10_swing) := goodIn_app (goodIn_of _ (by decide +kernel)) ggX10_rideTrouble_X10_swing
theorem dX10_rideTrouble_0 : decode cX10_rideTrouble 0 = .ok (.iload_n 1, 1) := by decide +kernel
theorem dX10_rideTrouble_1 : decode cX10_rideTrouble 1 = .ok (.iconst 0, 1) := by decide +kernel
theorem dX10_rideTrouble_2 : decode cX10_rideTrouble 2 = .ok (.aload_n 0, 1) := by decide +kernel
theorem dX10_rideTrouble_3 : decode cX10_rideTrouble 3 = .ok (.invokevirtual 346, 3) := by decide +kernel
theorem dX10_rideTrouble_6 : decode cX10_rideTrouble 6 = .ok (.invokestatic 177, 3) := by decide +kernel
theorem dX10_rideTrouble_9 : decode cX10_rideTrouble 9 = .ok (.ifCond .eq 12, 3) := by decide +kernel
theorem dX10_rideTrouble_12 : decode cX10_rideTrouble 12 = .ok (.iload_n 2, 1) := by decide +kernel
theorem dX10_rideTrouble_13 : decode cX10_rideTrouble 13 = .ok (.iconst 0, 1) := by decide +kernel
theorem dX10_rideTrouble_14 : decode cX10_rideTrouble 14 = .ok (.iconst 2, 1) := by decide +kernel
theorem dX10_rideTrouble_15 : decode cX10_rideTrouble 15 = .ok (.invokestatic 177, 3) := by decide +kernel
theorem dX10_rideTrouble_18 : decode cX10_rideTrouble 18 = .ok (.ifCond .ne 5, 3) := by decide +kernel
theorem dX10_rideTrouble_21 : decode cX10_rideTrouble 21 = .ok (.iconst 1, 1) := by decide +kernel
theorem dX10_rideTrouble_22 : decode cX10_rideTrouble 22 = .ok (.ireturn, 1) := by decide +kernel
theorem dX10_rideTrouble_23 : decode cX10_rideTrouble 23 = .ok (.iload_n 1, 1) := by decide +kernel
theorem dX10_rideTrouble_24 : decode cX10_rideTrouble 24 = .ok (.aload_n 0, 1) := by decide +kernel
theorem dX10_rideTrouble_25 : decode cX10_rideTrouble 25 = .ok (.getfield 327, 3) := by decide +kernel
theorem dX10_rideTrouble_28 : decode cX10_rideTrouble 28 = .ok (.if_icmp .ne 5, 3) := by decide +kernel
theorem dX10_rideTrouble_31 : decode cX10_rideTrouble 31 = .ok (.iconst 3, 1) := by decide +kernel
theorem dX10_rideTrouble_32 : decode cX10_rideTrouble 32 = .ok (.ireturn, 1) := by decide +kernel
theorem dX10_rideTrouble_33 : decode cX10_rideTrouble 33 = .ok (.aload_n 0, 1) := by decide +kernel
theorem dX10_rideTrouble_34 : decode cX10_rideTrouble 34 = .ok (.aload_n 0, 1) := by decide +kernel
theorem dX10_rideTrouble_35 : decode cX10_rideTrouble 35 = .ok (.getfield 87, 3) := by decide +kernel
theorem dX10_rideTrouble_38 : decode cX10_rideTrouble 38 = .ok (.invokevirtual 397, 3) := by decide +kernel
theorem dX10_rideTrouble_41 : decode cX10_rideTrouble 41 = .ok (.ifCond .ne 5, 3) := by decide +kernel
theorem dX10_rideTrouble_46 : decode cX10_rideTrouble 46 = .ok (.aload_n 0, 1) := by decide +kernel
theorem dX10_rideTrouble_47 : decode cX10_rideTrouble 47 = .ok (.aload_n 0, 1) := by decide +kernel
theorem dX10_rideTrouble_48 : decode cX10_rideTrouble 48 = .ok (.getfield 87, 3) := by decide +kernel
theorem dX10_rideTrouble_51 : decode cX10_rideTrouble 51 = .ok (.aload_n 0, 1) := by decide +kernel
theorem dX10_rideTrouble_52 : decode cX10_rideTrouble 52 = .ok (.getfield 327, 3) := by decide +kernel
theorem dX10_rideTrouble_55 : decode cX10_rideTrouble 55 = .ok (.invokevirtual 401, 3) := by decide +kernel
theorem dX10_rideTrouble_58 : decode cX10_rideTrouble 58 = .ok (.ifCond .ne 5, 3) := by decide +kernel
theorem dX10_rideTrouble_63 : decode cX10_rideTrouble 63 = .ok (.aload_n 0, 1) := by decide +kernel
theorem dX10_rideTrouble_64 : decode cX10_rideTrouble 64 = .ok (.aload_n 0, 1) := by decide +kernel
theorem dX10_rideTrouble_65 : decode cX10_rideTrouble 65 = .ok (.getfield 87, 3) := by decide +kernel
theorem dX10_rideTrouble_68 : decode cX10_rideTrouble 68 = .ok (.aload_n 0, 1) := by decide +kernel
theorem dX10_rideTrouble_69 : decode cX10_rideTrouble 69 = .ok (.getfield 327, 3) := by decide +kernel
theorem dX10_rideTrouble_72 : decode cX10_rideTrouble 72 = .ok (.iload_n 1, 1) := by decide +kernel
theorem dX10_rideTrouble_73 : decode cX10_rideTrouble 73 = .ok (.invokevirtual 405, 3) := by decide +kernel
theorem dX10_rideTrouble_76 : decode cX10_rideTrouble 76 = .ok (.aload_n 0, 1) := by decide +kernel
theorem dX10_rideTrouble_77 : decode cX10_rideTrouble 77 = .ok (.iload_n 2, 1) := by decide +kernel
theorem dX10_rideTrouble_78 : decode cX10_rideTrouble 78 = .ok (.invokevirtual 409, 3) := by decide +kernel
theorem dX10_rideTrouble_81 : decode cX10_rideTrouble 81 = .ok (.istore_n 3, 1) := by decide +kernel
theorem dX10_rideTrouble_82 : decode cX10_rideTrouble 82 = .ok (.iload_n 3, 1) := by decide +kernel
theorem dX10_rideTrouble_83 : decode cX10_rideTrouble 83 = .ok (.ifCond .eq 7, 3) := by decide +kernel
theorem dX10_rideTrouble_86 : decode cX10_rideTrouble 86 = .ok (.iload_n 3, 1) := by decide +kernel
theorem dX10_rideTrouble_87 : decode cX10_rideTrouble 87 = .ok (.goto 18, 3) := by decide +kernel
theorem dX10_rideTrouble_90 : decode cX10_rideTrouble 90 = .ok (.aload_n 0, 1) := by decide +kernel
theorem dX10_rideTrouble_91 : decode cX10_rideTrouble 91 = .ok (.getfield 330, 3) := by decide +kernel
theorem dX10_rideTrouble_94 : decode cX10_rideTrouble 94 = .ok (.bipush 60, 2) := by decide +kernel
theorem dX10_rideTrouble_96 : decode cX10_rideTrouble 96 = .ok (.if_icmp .ne 8, 3) := by decide +kernel
theorem dX10_rideTrouble_104 : decode cX10_rideTrouble 104 = .ok (.iconst 0, 1) := by decide +kernel
theorem dX10_rideTrouble_105 : decode cX10_rideTrouble 105 = .ok (.ireturn, 1) := by decide +kernel
theorem dX10_refuse_0 : decode cX10_refuse 0 = .ok (.aload_n 0, 1) := by decide +kernel
theorem dX10_refuse_1 : decode cX10_refuse 1 = .ok (.getfield 77, 3) := by decide +kernel
theorem dX10_refuse_4 : decode cX10_refuse 4 = .ok (.iconst 1, 1) := by decide +kernel
theorem dX10_refuse_5 : decode cX10_refuse 5 = .ok (.dup2, 1) := by decide +kernel
theorem dX10_refuse_6 : decode cX10_refuse 6 = .ok (.iaload, 1) := by decide +kernel
theorem dX10_refuse_7 : decode cX10_refuse 7 = .ok (.iconst 1, 1) := by decide +kernel
theorem dX10_refuse_8 : decode cX10_refuse 8 = .ok (.iadd, 1) := by decide +kernel
theorem dX10_refuse_9 : decode cX10_refuse 9 = .ok (.iastore, 1) := by decide +kernel
theorem dX10_refuse_10 : decode cX10_refuse 10 = .ok (.iload_n 1, 1) := by decide +kernel
theorem dX10_refuse_11 : decode cX10_refuse 11 = .ok (.ireturn, 1) := by decide +kernel
theorem dX10_add_0 : decode cX10_add 0 = .ok (.aload_n 0, 1) := by decide +kernel
theorem dX10_add_1 : decode cX10_add 1 = .ok (.getfield 93, 3) := by decide +kernel
theorem dX10_add_4 : decode cX10_add 4 = .ok (.aload_n 0, 1) := by decide +kernel
theorem dX10_add_5 : decode cX10_add 5 = .ok (.getfield 330, 3) := by decide +kernel
theorem dX10_add_8 : decode cX10_add 8 = .ok (.iload_n 1, 1) := by decide +kernel
theorem dX10_add_9 : decode cX10_add 9 = .ok (.iastore, 1) := by decide +kernel
theorem dX10_add_10 : decode cX10_add 10 = .ok (.aload_n 0, 1) := by decide +kernel
theorem dX10_add_11 : decode cX10_add 11 = .ok (.getfield 96, 3) := by decide +kernel
theorem dX10_add_14 : decode cX10_add 14 = .ok (.aload_n 0, 1) := by decide +kernel
theorem dX10_add_15 : decode cX10_add 15 = .ok (.getfield 330, 3) := by decide +kernel
theorem dX10_add_18 : decode cX10_add 18 = .ok (.iload_n 2, 1) := by decide +kernel
theorem dX10_add_19 : decode cX10_add 19 = .ok (.iastore, 1) := by decide +kernel
theorem dX10_add_20 : decode cX10_add 20 = .ok (.aload_n 0, 1) := by decide +kernel
theorem dX10_add_21 : decode cX10_add 21 = .ok (.getfield 99, 3) := by decide +kernel
theorem dX10_add_24 : decode cX10_add 24 = .ok (.aload_n 0, 1) := by decide +kernel
theorem dX10_add_25 : decode cX10_add 25 = .ok (.getfield 330, 3) := by decide +kernel
theorem dX10_add_28 : decode cX10_add 28 = .ok (.iload_n 3, 1) := by decide +kernel
theorem dX10_add_29 : decode cX10_add 29 = .ok (.iastore, 1) := by decide +kernel
theorem dX10_add_30 : decode cX10_add 30 = .ok (.aload_n 0, 1) := by decide +kernel
theorem dX10_add_31 : decode cX10_add 31 = .ok (.getfield 102, 3) := by decide +kernel
theorem dX10_add_34 : decode cX10_add 34 = .ok (.aload_n 0, 1) := by decide +kernel
theorem dX10_add_35 : decode cX10_add 35 = .ok (.getfield 330, 3) := by decide +kernel
theorem dX10_add_38 : decode cX10_add 38 = .ok (.iload 4, 2) := by decide +kernel
theorem dX10_add_40 : decode cX10_add 40 = .ok (.iastore, 1) := by decide +kernel
theorem dX10_add_41 : decode cX10_add 41 = .ok (.aload_n 0, 1) := by decide +kernel
theorem dX10_add_42 : decode cX10_add 42 = .ok (.getfield 105, 3) := by decide +kernel
theorem dX10_add_45 : decode cX10_add 45 = .ok (.aload_n 0, 1) := by decide +kernel
theorem dX10_add_46 : decode cX10_add 46 = .ok (.getfield 330, 3) := by decide +kernel
theorem dX10_add_49 : decode cX10_add 49 = .ok (.iload 5, 2) := by decide +kernel
theorem dX10_add_51 : decode cX10_add 51 = .ok (.iastore, 1) := by decide +kernel
theorem dX10_add_52 : decode cX10_add 52 = .ok (.aload_n 0, 1) := by decide +kernel
theorem dX10_add_53 : decode cX10_add 53 = .ok (.dup, 1) := by decide +kernel
theorem dX10_add_54 : decode cX10_add 54 = .ok (.getfield 330, 3) := by decide +kernel
theorem dX10_add_57 : decode cX10_add 57 = .ok (.iconst 1, 1) := by decide +kernel
theorem dX10_add_58 : decode cX10_add 58 = .ok (.iadd, 1) := by decide +kernel
theorem dX10_add_59 : decode cX10_add 59 = .ok (.putfield 330, 3) := by decide +kernel
theorem dX10_add_62 : decode cX10_add 62 = .ok (.aload_n 0, 1) := by decide +kernel
theorem dX10_add_63 : decode cX10_add 63 = .ok (.dup, 1) := by decide +kernel
theorem dX10_add_64 : decode cX10_add 64 = .ok (.getfield 333, 3) := by decide +kernel
theorem dX10_add_67 : decode cX10_add 67 = .ok (.iload 5, 2) := by decide +kernel
theorem dX10_add_69 : decode cX10_add 69 = .ok (.iadd, 1) := by decide +kernel
theorem dX10_add_70 : decode cX10_add 70 = .ok (.putfield 333, 3) := by decide +kernel
theorem dX10_add_73 : decode cX10_add 73 = .ok (.return_, 1) := by decide +kernel
set_option maxRecDepth 20000 in
theorem ggX10_load_X10_isThing : GoodIn wsX10_load wsX10_isThing := goodIn_r _ [9, 10, 11, 12, 8, 13, 43, 44, 45, 46, 47, 48, 49, 50, 51, 52, 53, 54, 55, 56, 57, 58, 59, 60, 61, 62, 63, 64, 65, 66, 67, 68, 69, 70, 71, 72, 73, 74, 75, 76, 77, 78, 79, 80, 81, 82, 83, 84, 85, 86, 87, 88, 89, 90, 91, 92, 93, 94, 95, 96, 97, 98, 99, 100, 101, 102, 103, 104, 105, 106, 107, 108, 109, 110, 111, 112, 113] (by decide +kernel) (by decide +kernel)
set_option maxRecDepth 20000 in
theorem gX10_load_X10_isThing : GoodIn wsX10_load (wsV RX10 349 RX10 yX10_isThing wsX10_isThing) := goodIn_app (goodIn_of _ (by decide +kernel)) ggX10_load_X10_isThing
set_option maxRecDepth 20000 in
theorem ggX10_load_X10_refuse : GoodIn wsX10_load wsX10_refuse := goodIn_r _ [17, 18, 43, 44, 45, 46, 47, 48, 49, 50, 51, 52, 53, 54, 55, 56, 57, 58, 59, 60, 61, 62, 63, 64, 65, 66, 67, 68, 69, 70, 71, 72, 73, 74, 75, 76, 77, 78, 79, 80, 81, 82, 83, 84, 85, 86, 87, 88, 89, 90, 91, 92, 93, 94, 95, 96, 97, 98, 99, 100, 101, 102, 103, 104, 105, 106, 107, 108, 109, 110, 111, 112, 113] (by decide +kernel) (by decide +kernel)
set_option maxRecDepth 20000 in
theorem gX10_load_X10_refuse : GoodIn wsX10_load (wsV RX10 412 RX10 yX10_refuse wsX10_refuse) := goodIn_app (goodIn_of _ (by decide +kernel)) ggX10_load_X10_refuse
theorem dX10_load_0 : decode cX10_load 0 = .ok (.aload_n 0, 1) := by decide +kernel
theorem dX10_load_1 : decode cX10_load 1 = .ok (.iconst 0, 1) := by decide +kernel
theorem dX10_load_2 : decode cX10_load 2 = .ok (.putfield 171, 3) := by decide +kernel
theorem dX10_load_5 : decode cX10_load 5 = .ok (.aload_n 0, 1) := by decide +kernel
theorem dX10_load_6 : decode cX10_load 6 = .ok (.iload_n 1, 1) := by decide +kernel
theorem dX10_load_7 : decode cX10_load 7 = .ok (.invokevirtual 349, 3) := by decide +kernel
theorem dX10_load_10 : decode cX10_load 10 = .ok (.ifCond .eq 12, 3) := by decide +kernel
theorem dX10_load_22 : decode cX10_load 22 = .ok (.aload_n 0, 1) := by decide +kernel
theorem dX10_load_23 : decode cX10_load 23 = .ok (.iconst 1, 1) := by decide +kernel
theorem dX10_load_24 : decode cX10_load 24 = .ok (.invokevirtual 412, 3) := by decide +kernel
theorem dX10_load_27 : decode cX10_load 27 = .ok (.ireturn, 1) := by decide +kernel
set_option maxRecDepth 20000 in
theorem ggX10_unload_X10_isThing : GoodIn wsX10_unload wsX10_isThing := goodIn_r _ [9, 10, 11, 12, 8, 13, 44, 45, 46, 47, 48, 49, 50, 51, 52, 53, 54, 55, 56, 57, 58, 59, 60, 61, 62, 63, 64, 65, 66, 67, 68, 69, 70, 71, 72, 73, 74, 75, 76, 77, 78, 79, 80, 81, 82, 83, 84, 85, 86, 87, 88, 89, 90, 91, 92, 93, 94, 95, 96, 97, 98, 99, 100, 101, 102, 103, 104, 105, 106, 107, 108, 109, 110, 111, 112, 113, 114] (by decide +kernel) (by decide +kernel)
set_option maxRecDepth 20000 in
theorem gX10_unload_X10_isThing : GoodIn wsX10_unload (wsV RX10 349 RX10 yX10_isThing wsX10_isThing) := goodIn_app (goodIn_of _ (by decide +kernel)) ggX10_unload_X10_isThing
set_option maxRecDepth 20000 in
theorem ggX10_unload_X10_refuse : GoodIn wsX10_unload wsX10_refuse := goodIn_r _ [17, 18, 44, 45, 46, 47, 48, 49, 50, 51, 52, 53, 54, 55, 56, 57, 58, 59, 60, 61, 62, 63, 64, 65, 66, 67, 68, 69, 70, 71, 72, 73, 74, 75, 76, 77, 78, 79, 80, 81, 82, 83, 84, 85, 86, 87, 88, 89, 90, 91, 92, 93, 94, 95, 96, 97, 98, 99, 100, 101, 102, 103, 104, 105, 106, 107, 108, 109, 110, 111, 112, 113, 114] (by decide +kernel) (by decide +kernel)
set_option maxRecDepth 20000 in
theorem gX10_unload_X10_refuse : GoodIn wsX10_unload (wsV RX10 412 RX10 yX10_refuse wsX10_refuse) := goodIn_app (goodIn_of _ (by decide +kernel)) ggX10_unload_X10_refuse
theorem dX10_unload_0 : decode cX10_unload 0 = .ok (.aload_n 0, 1) := by decide +kernel
theorem dX10_unload_1 : decode cX10_unload 1 = .ok (.iconst 0, 1) := by decide +kernel
theorem dX10_unload_2 : decode cX10_unload 2 = .ok (.putfield 171, 3) := by decide +kernel
theorem dX10_unload_5 : decode cX10_unload 5 = .ok (.aload_n 0, 1) := by decide +kernel
theorem dX10_unload_6 : decode cX10_unload 6 = .ok (.iload_n 1, 1) := by decide +kernel
theorem dX10_unload_7 : decode cX10_unload 7 = .ok (.invokevirtual 349, 3) := by decide +kernel
theorem dX10_unload_10 : decode cX10_unload 10 = .ok (.ifCond .ne 9, 3) := by decide +kernel
theorem dX10_unload_13 : decode cX10_unload 13 = .ok (.aload_n 0, 1) := by decide +kernel
theorem dX10_unload_14 : decode cX10_unload 14 = .ok (.iconst 1, 1) := by decide +kernel
theorem dX10_unload_15 : decode cX10_unload 15 = .ok (.invokevirtual 412, 3) := by decide +kernel
theorem dX10_unload_18 : decode cX10_unload 18 = .ok (.ireturn, 1) := by decide +kernel
set_option maxRecDepth 20000 in
theorem ggX10_ride_X10_rideTrouble : GoodIn wsX10_ride wsX10_rideTrouble := goodIn_r _ [8, 2, 9, 10, 11, 12, 13, 7, 14, 15, 16, 17, 18, 19, 20, 21, 22, 23, 24, 25, 26, 27, 28, 29, 30, 31, 32, 33, 34, 35, 36, 37, 38, 39, 40, 41, 42, 43, 44, 45, 46, 47, 48, 49, 50, 51, 52, 53, 54, 55, 56, 57, 58, 59, 60, 61, 62, 63, 64, 65, 66, 67, 68, 69, 3, 70, 71, 72, 73, 74, 75, 76, 77, 78, 79, 80, 81, 82, 83, 84, 100, 101, 102, 103, 104, 105, 106, 107, 108, 109, 110, 111, 112, 113, 114, 115, 116, 117, 118, 119, 120, 121, 122, 123, 124, 125, 126, 127, 128, 129, 130, 131, 132, 133, 134, 135, 136, 137, 138, 139, 140, 141, 142, 143, 144, 145, 146, 147, 148, 149, 150, 151, 152, 153, 154, 155, 156, 157, 158, 159, 160, 161, 162, 163, 164, 165, 166, 167, 168, 169, 170] (by decide +kernel) (by decide +kernel)
set_option maxRecDepth 20000 in
theorem gX10_ride_X10_rideTrouble : GoodIn wsX10_ride (wsV RX10 422 RX10 yX10_rideTrouble wsX10_rideTrouble) := goodIn_app (goodIn_of _ (by decide +kernel)) ggX10_ride_X10_rideTrouble
set_option maxRecDepth 20000 in
theorem ggX10_ride_X10_refuse : GoodIn wsX10_ride wsX10_refuse := goodIn_r _ [88, 89, 100, 101, 102, 103, 104, 105, 106, 107, 108, 109, 110, 111, 112, 113, 114, 115, 116, 117, 118, 119, 120, 121, 122, 123, 124, 125, 126, 127, 128, 129, 130, 131, 132, 133, 134, 135, 136, 137, 138, 139, 140, 141, 142, 143, 144, 145, 146, 147, 148, 149, 150, 151, 152, 153, 154, 155, 156, 157, 158, 159, 160, 161, 162, 163, 164, 165, 166, 167, 168, 169, 170] (by decide +kernel) (by decide +kernel)
set_option maxRecDepth 20000 in
theorem gX10_ride_X10_refuse : GoodIn wsX10_ride (wsV RX10 412 RX10 yX10_refuse wsX10_refuse) := goodIn_app (goodIn_of _ (by decide +kernel)) ggX10_ride_X10_refuse
set_option maxRecDepth 20000 in
theorem ggX10_ride_X10_add : GoodIn wsX10_ride wsX10_add := goodIn_r _ [93, 94, 10, 95, 96, 97, 98, 99, 100, 101, 102, 103, 104, 105, 106, 107, 108, 109, 110, 111, 112, 113, 114, 115, 116, 117, 118, 119, 120, 121, 122, 123, 124, 125, 126, 127, 128, 129, 130, 131, 132, 133, 134, 135, 136, 137, 138, 139, 140, 141, 142, 143, 144, 145, 146, 147, 148, 149, 150, 151, 152, 153, 154, 155, 156, 157, 158, 159, 160, 161, 162, 163, 164, 165, 166, 167, 168, 169, 170] (by decide +kernel) (by decide +kernel)
set_option maxRecDepth 20000 in
theorem gX10_ride_X10_add : GoodIn wsX10_ride (wsV RX10 415 RX10 yX10_add wsX10_add) := goodIn_app (goodIn_of _ (by decide +kernel)) ggX10_ride_X10_add
theorem dX10_ride_0 : decode cX10_ride 0 = .ok (.aload_n 0, 1) := by decide +kernel
theorem dX10_ride_1 : decode cX10_ride 1 = .ok (.iconst 0, 1) := by decide +kernel
theorem dX10_ride_2 : decode cX10_ride 2 = .ok (.putfield 171, 3) := by decide +kernel
theorem dX10_ride_5 : decode cX10_ride 5 = .ok (.aload_n 0, 1) := by decide +kernel
theorem dX10_ride_6 : decode cX10_ride 6 = .ok (.iload_n 1, 1) := by decide +kernel
theorem dX10_ride_7 : decode cX10_ride 7 = .ok (.iload_n 2, 1) := by decide +kernel
theorem dX10_ride_8 : decode cX10_ride 8 = .ok (.invokevirtual 422, 3) := by decide +kernel
theorem dX10_ride_11 : decode cX10_ride 11 = .ok (.istore_n 3, 1) := by decide +kernel
theorem dX10_ride_12 : decode cX10_ride 12 = .ok (.iload_n 3, 1) := by decide +kernel
theorem dX10_ride_13 : decode cX10_ride 13 = .ok (.ifCond .eq 9, 3) := by decide +kernel
theorem dX10_ride_16 : decode cX10_ride 16 = .ok (.aload_n 0, 1) := by decide +kernel
theorem dX10_ride_17 : decode cX10_ride 17 = .ok (.iload_n 3, 1) := by decide +kernel
theorem dX10_ride_18 : decode cX10_ride 18 = .ok (.invokevirtual 412, 3) := by decide +kernel
theorem dX10_ride_21 : decode cX10_ride 21 = .ok (.ireturn, 1) := by decide +kernel
theorem dX10_ride_22 : decode cX10_ride 22 = .ok (.aload_n 0, 1) := by decide +kernel
theorem dX10_ride_23 : decode cX10_ride 23 = .ok (.iconst 2, 1) := by decide +kernel
theorem dX10_ride_24 : decode cX10_ride 24 = .ok (.iload_n 1, 1) := by decide +kernel
theorem dX10_ride_25 : decode cX10_ride 25 = .ok (.iload_n 2, 1) := by decide +kernel
theorem dX10_ride_26 : decode cX10_ride 26 = .ok (.aload_n 0, 1) := by decide +kernel
theorem dX10_ride_27 : decode cX10_ride 27 = .ok (.getfield 327, 3) := by decide +kernel
theorem dX10_ride_30 : decode cX10_ride 30 = .ok (.iload_n 2, 1) := by decide +kernel
theorem dX10_ride_31 : decode cX10_ride 31 = .ok (.iconst 2, 1) := by decide +kernel
theorem dX10_ride_32 : decode cX10_ride 32 = .ok (.if_icmp .ne 10, 3) := by decide +kernel
theorem dX10_ride_35 : decode cX10_ride 35 = .ok (.aload_n 0, 1) := by decide +kernel
theorem dX10_ride_36 : decode cX10_ride 36 = .ok (.getfield 391, 3) := by decide +kernel
theorem dX10_ride_39 : decode cX10_ride 39 = .ok (.goto 4, 3) := by decide +kernel
theorem dX10_ride_43 : decode cX10_ride 43 = .ok (.invokevirtual 415, 3) := by decide +kernel
theorem dX10_ride_46 : decode cX10_ride 46 = .ok (.aload_n 0, 1) := by decide +kernel
theorem dX10_ride_47 : decode cX10_ride 47 = .ok (.iload_n 1, 1) := by decide +kernel
theorem dX10_ride_48 : decode cX10_ride 48 = .ok (.putfield 327, 3) := by decide +kernel
theorem dX10_ride_51 : decode cX10_ride 51 = .ok (.iconst 0, 1) := by decide +kernel
theorem dX10_ride_52 : decode cX10_ride 52 = .ok (.ireturn, 1) := by decide +kernel
set_option maxRecDepth 20000 in
theorem ggX10_winding_X10_depths : GoodIn wsX10_winding wsX10_depths := goodIn_r _ [9, 10, 46, 47, 48, 49, 50, 51, 52, 53, 54, 55, 56, 57, 58, 59, 60, 61, 62, 63, 64, 65, 66, 67, 68, 69, 70, 71, 72, 73, 74, 75, 76, 77, 78, 79, 80, 81, 82, 83, 84, 85, 86, 87, 88, 89, 90, 91, 92, 93, 94, 95, 96, 97, 98, 99, 100, 101, 102, 103, 104, 105, 106, 107, 108, 109, 110, 111, 112, 113, 114, 115, 116] (by decide +kernel) (by decide +kernel)
set_option maxRecDepth 20000 in
theorem gX10_winding_X10_depths : GoodIn wsX10_winding (wsV RX10 346 RX10 yX10_depths wsX10_depths) := goodIn_app (goodIn_of _ (by decide +kernel)) ggX10_winding_X10_depths
set_option maxRecDepth 20000 in
theorem ggX10_winding_X10_isIn : GoodIn wsX10_winding wsX10_isIn := goodIn_r _ [13] (by decide +kernel) (by decide +kernel)
set_option maxRecDepth 20000 in
theorem gX10_winding_X10_isIn : GoodIn wsX10_winding (va_wsS RX10 177 yX10_isIn wsX10_isIn) := goodIn_app (goodIn_of _ (by decide +kernel)) ggX10_winding_X10_isIn
set_option maxRecDepth 20000 in
theorem ggX10_winding_X10_tellRide : GoodIn wsX10_winding wsX10_tellRide := goodIn_r _ [17, 18, 19, 20, 21, 4, 22, 23, 24, 25, 26, 27, 28, 10, 29, 30, 31, 8, 32, 33, 34, 35, 36, 37, 38, 39, 40, 41, 42, 43, 44, 45, 5, 6, 7, 9, 46, 47, 48, 49, 50, 51, 52, 53, 54, 55, 56, 57, 58, 59, 60, 61, 62, 63, 64, 65, 66, 67, 68, 69, 70, 71, 72, 73, 74, 75, 76, 77, 78, 79, 80, 81, 82, 83, 84, 85, 86, 87, 88, 89, 90, 91, 92, 93, 94, 95, 96, 97, 98, 99, 100, 101, 102, 103, 104, 105, 106, 107, 108, 109, 110, 111, 112, 113, 114, 115, 116] (by decide +kernel) (by decide +kernel)
set_option maxRecDepth 20000 in
theorem gX10_winding_X10_tellRide : GoodIn wsX10_winding (wsV RX10 405 RX10 yX10_tellRide wsX10_tellRide) := goodIn_app (goodIn_of _ (by decide +kernel)) ggX10_winding_X10_tellRide
theorem dX10_winding_0 : decode cX10_winding 0 = .ok (.aload_n 0, 1) := by decide +kernel
theorem dX10_winding_1 : decode cX10_winding 1 = .ok (.iconst 0, 1) := by decide +kernel
theorem dX10_winding_2 : decode cX10_winding 2 = .ok (.putfield 171, 3) := by decide +kernel
theorem dX10_winding_5 : decode cX10_winding 5 = .ok (.iload_n 1, 1) := by decide +kernel
theorem dX10_winding_6 : decode cX10_winding 6 = .ok (.iconst 0, 1) := by decide +kernel
theorem dX10_winding_7 : decode cX10_winding 7 = .ok (.aload_n 0, 1) := by decide +kernel
theorem dX10_winding_8 : decode cX10_winding 8 = .ok (.invokevirtual 346, 3) := by decide +kernel
theorem dX10_winding_11 : decode cX10_winding 11 = .ok (.invokestatic 177, 3) := by decide +kernel
theorem dX10_winding_14 : decode cX10_winding 14 = .ok (.ifCond .eq 11, 3) := by decide +kernel
theorem dX10_winding_17 : decode cX10_winding 17 = .ok (.iload_n 1, 1) := by decide +kernel
theorem dX10_winding_18 : decode cX10_winding 18 = .ok (.aload_n 0, 1) := by decide +kernel
theorem dX10_winding_19 : decode cX10_winding 19 = .ok (.getfield 327, 3) := by decide +kernel
theorem dX10_winding_22 : decode cX10_winding 22 = .ok (.if_icmp .ne 5, 3) := by decide +kernel
theorem dX10_winding_25 : decode cX10_winding 25 = .ok (.iconst (-1), 1) := by decide +kernel
theorem dX10_winding_26 : decode cX10_winding 26 = .ok (.ireturn, 1) := by decide +kernel
theorem dX10_winding_27 : decode cX10_winding 27 = .ok (.aload_n 0, 1) := by decide +kernel
theorem dX10_winding_28 : decode cX10_winding 28 = .ok (.aload_n 0, 1) := by decide +kernel
theorem dX10_winding_29 : decode cX10_winding 29 = .ok (.getfield 87, 3) := by decide +kernel
theorem dX10_winding_32 : decode cX10_winding 32 = .ok (.aload_n 0, 1) := by decide +kernel
theorem dX10_winding_33 : decode cX10_winding 33 = .ok (.getfield 327, 3) := by decide +kernel
theorem dX10_winding_36 : decode cX10_winding 36 = .ok (.iload_n 1, 1) := by decide +kernel
theorem dX10_winding_37 : decode cX10_winding 37 = .ok (.invokevirtual 405, 3) := by decide +kernel
theorem dX10_winding_40 : decode cX10_winding 40 = .ok (.aload_n 0, 1) := by decide +kernel
theorem dX10_winding_41 : decode cX10_winding 41 = .ok (.getfield 391, 3) := by decide +kernel
theorem dX10_winding_44 : decode cX10_winding 44 = .ok (.ireturn, 1) := by decide +kernel
set_option maxRecDepth 20000 in
theorem ggX10_may_X10_depths : GoodIn wsX10_may wsX10_depths := goodIn_r _ [8, 9, 80, 81, 82, 83, 84, 85, 86, 87, 88, 89, 90, 91, 92, 93, 94, 95, 96, 97, 98, 99, 100, 101, 102, 103, 104, 105, 106, 107, 108, 109, 110, 111, 112, 113, 114, 115, 116, 117, 118, 119, 120, 121, 122, 123, 124, 125, 126, 127, 128, 129, 130, 131, 132, 133, 134, 135, 136, 137, 138, 139, 140, 141, 142, 143, 144, 145, 146, 147, 148, 149, 150] (by decide +kernel) (by decide +kernel)
set_option maxRecDepth 20000 in
theorem gX10_may_X10_depths : GoodIn wsX10_may (wsV RX10 346 RX10 yX10_depths wsX10_depths) := goodIn_app (goodIn_of _ (by decide +kernel)) ggX10_may_X10_depths
set_option maxRecDepth 20000 in
theorem ggX10_may_X10_isIn : GoodIn wsX10_may wsX10_isIn := goodIn_r _ [12] (by decide +kernel) (by decide +kernel)
set_option maxRecDepth 20000 in
theorem gX10_may_X10_isIn : GoodIn wsX10_may (va_wsS RX10 177 yX10_isIn wsX10_isIn) := goodIn_app (goodIn_of _ (by decide +kernel)) ggX10_may_X10_isIn
set_option maxRecDepth 20000 in
theorem ggX10_may_X10_keepsCap : GoodIn wsX10_may wsX10_keepsCap := goodIn_r _ [16, 9, 17, 18, 19, 7, 20, 21, 22, 23, 24, 25, 80, 81, 82, 83, 84, 85, 86, 87, 88, 89, 90, 91, 92, 93, 94, 95, 96, 97, 98, 99, 100, 101, 102, 103, 104, 105, 106, 107, 108, 109, 110, 111, 112, 113, 114, 115, 116, 117, 118, 119, 120, 121, 122, 123, 124, 125, 126, 127, 128, 129, 130, 131, 132, 133, 134, 135, 136, 137, 138, 139, 140, 141, 142, 143, 144, 145, 146, 147, 148, 149, 150] (by decide +kernel) (by decide +kernel)
set_option maxRecDepth 20000 in
theorem gX10_may_X10_keepsCap : GoodIn wsX10_may (wsV RX10 397 RX10 yX10_keepsCap wsX10_keepsCap) := goodIn_app (goodIn_of _ (by decide +kernel)) ggX10_may_X10_keepsCap
set_option maxRecDepth 20000 in
theorem ggX10_may_X10_keepsRules : GoodIn wsX10_may wsX10_keepsRules := goodIn_r _ [29, 30, 31, 32, 7, 33, 34, 35, 36, 37, 38, 39, 21, 40, 23, 24, 25, 17, 18, 19, 20, 22, 41, 42, 43, 44, 4, 5, 6, 8, 9, 45, 46, 47, 48, 49, 50, 51, 52, 53, 54, 55, 80, 81, 82, 83, 84, 85, 86, 87, 88, 89, 90, 91, 92, 93, 94, 95, 96, 97, 98, 99, 100, 101, 102, 103, 104, 105, 106, 107, 108, 109, 110, 111, 112, 113, 114, 115, 116, 117, 118, 119, 120, 121, 122, 123, 124, 125, 126, 127, 128, 129, 130, 131, 132, 133, 134, 135, 136, 137, 138, 139, 140, 141, 142, 143, 144, 145, 146, 147, 148, 149, 150] (by decide +kernel) (by decide +kernel)
set_option maxRecDepth 20000 in
theorem gX10_may_X10_keepsRules : GoodIn wsX10_may (wsV RX10 401 RX10 yX10_keepsRules wsX10_keepsRules) := goodIn_app (goodIn_of _ (by decide +kernel)) ggX10_may_X10_keepsRules
set_option maxRecDepth 20000 in
theorem ggX10_may_X10_tellRide : GoodIn wsX10_may wsX10_tellRide := goodIn_r _ [59, 60, 61, 62, 63, 64, 65, 66, 67, 68, 69, 70, 71, 9, 72, 73, 74, 7, 75, 17, 18, 19, 20, 21, 22, 23, 24, 25, 41, 42, 43, 44, 4, 5, 6, 8, 80, 81, 82, 83, 84, 85, 86, 87, 88, 89, 90, 91, 92, 93, 94, 95, 96, 97, 98, 99, 100, 101, 102, 103, 104, 105, 106, 107, 108, 109, 110, 111, 112, 113, 114, 115, 116, 117, 118, 119, 120, 121, 122, 123, 124, 125, 126, 127, 128, 129, 130, 131, 132, 133, 134, 135, 136, 137, 138, 139, 140, 141, 142, 143, 144, 145, 146, 147, 148, 149, 150] (by decide +kernel) (by decide +kernel)
set_option maxRecDepth 20000 in
theorem gX10_may_X10_tellRide : GoodIn wsX10_may (wsV RX10 405 RX10 yX10_tellRide wsX10_tellRide) := goodIn_app (goodIn_of _ (by decide +kernel)) ggX10_may_X10_tellRide
set_option maxRecDepth 20000 in
theorem ggX10_may_X10_swing : GoodIn wsX10_may wsX10_swing := goodIn_r _ [79, 61, 9, 63, 80, 81, 82, 83, 84, 85, 86, 87, 88, 89, 90, 91, 92, 93, 94, 95, 96, 97, 98, 99, 100, 101, 102, 103, 104, 105, 106, 107, 108, 109, 110, 111, 112, 113, 114, 115, 116, 117, 118, 119, 120, 121, 122, 123, 124, 125, 126, 127, 128, 129, 130, 131, 132, 133, 134, 135, 136, 137, 138, 139, 140, 141, 142, 143, 144, 145, 146, 147, 148, 149, 150] (by decide +kernel) (by decide +kernel)
set_option maxRecDepth 20000 in
theorem gX10_may_X10_swing : GoodIn wsX10_may (wsV RX10 409 RX10 yX10_swing wsX10_swing) := goodIn_app (goodIn_of _ (by decide +kernel)) ggX10_may_X10_swing
theorem dX10_may_0 : decode cX10_may 0 = .ok (.aload_n 0, 1) := by decide +kernel
theorem dX10_may_1 : decode cX10_may 1 = .ok (.iconst 0, 1) := by decide +kernel
theorem dX10_may_2 : decode cX10_may 2 = .ok (.putfield 171, 3) := by decide +kernel
theorem dX10_may_5 : decode cX10_may 5 = .ok (.iload_n 1, 1) := by decide +kernel
theorem dX10_may_6 : decode cX10_may 6 = .ok (.iconst 0, 1) := by decide +kernel
theorem dX10_may_7 : decode cX10_may 7 = .ok (.aload_n 0, 1) := by decide +kernel
theorem dX10_may_8 : decode cX10_may 8 = .ok (.invokevirtual 346, 3) := by decide +kernel
theorem dX10_may_11 : decode cX10_may 11 = .ok (.invokestatic 177, 3) := by decide +kernel
theorem dX10_may_14 : decode cX10_may 14 = .ok (.ifCond .eq 37, 3) := by decide +kernel
theorem dX10_may_17 : decode cX10_may 17 = .ok (.iload_n 1, 1) := by decide +kernel
theorem dX10_may_18 : decode cX10_may 18 = .ok (.aload_n 0, 1) := by decide +kernel
theorem dX10_may_19 : decode cX10_may 19 = .ok (.getfield 327, 3) := by decide +kernel
theorem dX10_may_22 : decode cX10_may 22 = .ok (.if_icmp .eq 29, 3) := by decide +kernel
theorem dX10_may_25 : decode cX10_may 25 = .ok (.aload_n 0, 1) := by decide +kernel
theorem dX10_may_26 : decode cX10_may 26 = .ok (.aload_n 0, 1) := by decide +kernel
theorem dX10_may_27 : decode cX10_may 27 = .ok (.getfield 87, 3) := by decide +kernel
theorem dX10_may_30 : decode cX10_may 30 = .ok (.invokevirtual 397, 3) := by decide +kernel
theorem dX10_may_33 : decode cX10_may 33 = .ok (.ifCond .eq 18, 3) := by decide +kernel
theorem dX10_may_36 : decode cX10_may 36 = .ok (.aload_n 0, 1) := by decide +kernel
