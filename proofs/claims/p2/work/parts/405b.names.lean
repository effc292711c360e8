set_option maxRecDepth 20000 in
theorem dX10_take_246_b : (decode cX10_take 246 = .ok (.aload_n 0, 1)) ∧ (decode cX10_take 247 = .ok (.iconst 0, 1)) ∧ (decode cX10_take 248 = .ok (.putfield 333, 3)) ∧ (decode cX10_take 251 = .ok (.aload_n 0, 1)) ∧ (decode cX10_take 252 = .ok (.iconst 0, 1)) ∧ (decode cX10_take 253 = .ok (.putfield 336, 3)) := by decide +kernel
theorem dX10_take_246 : decode cX10_take 246 = .ok (.aload_n 0, 1) := dX10_take_246_b.1
theorem dX10_take_247 : decode cX10_take 247 = .ok (.iconst 0, 1) := dX10_take_246_b.2.1
theorem dX10_take_248 : decode cX10_take 248 = .ok (.putfield 333, 3) := dX10_take_246_b.2.2.1
theorem dX10_take_251 : decode cX10_take 251 = .ok (.aload_n 0, 1) := dX10_take_246_b.2.2.2.1
theorem dX10_take_252 : decode cX10_take 252 = .ok (.iconst 0, 1) := dX10_take_246_b.2.2.2.2.1
theorem dX10_take_253 : decode cX10_take 253 = .ok (.putfield 336, 3) := dX10_take_246_b.2.2.2.2.2
set_option maxRecDepth 20000 in
theorem dX10_take_256_b : (decode cX10_take 256 = .ok (.aload_n 0, 1)) ∧ (decode cX10_take 257 = .ok (.iconst 0, 1)) ∧ (decode cX10_take 258 = .ok (.putfield 339, 3)) ∧ (decode cX10_take 261 = .ok (.return_, 1)) := by decide +kernel
theorem dX10_take_256 : decode cX10_take 256 = .ok (.aload_n 0, 1) := dX10_take_256_b.1
theorem dX10_take_257 : decode cX10_take 257 = .ok (.iconst 0, 1) := dX10_take_256_b.2.1
theorem dX10_take_258 : decode cX10_take 258 = .ok (.putfield 339, 3) := dX10_take_256_b.2.2.1
theorem dX10_take_261 : decode cX10_take 261 = .ok (.return_, 1) := dX10_take_256_b.2.2.2
set_option maxRecDepth 20000 in
theorem ggX10_bucket_X10_isIn : GoodIn wsX10_bucket wsX10_isIn := goodIn_r _ [8] (by decide +kernel) (by decide +kernel)
set_option maxRecDepth 20000 in
theorem gX10_bucket_X10_isIn : GoodIn wsX10_bucket (va_wsS RX10 177 yX10_isIn wsX10_isIn) := goodIn_app (goodIn_of _ (by decide +kernel)) ggX10_bucket_X10_isIn
set_option maxRecDepth 20000 in
theorem ggX10_bucket_X10_fail : GoodIn wsX10_bucket wsX10_fail := goodIn_r _ [12, 1, 56, 57, 58, 59, 60, 61, 62, 63, 64, 65, 66, 67, 68, 69, 70, 71, 72, 73, 74, 75, 76, 77, 78, 79, 80, 81, 82, 83, 84, 85, 86, 87, 88, 89, 90, 91, 92, 93, 94, 95, 96, 97, 98, 99, 100, 101, 102, 103, 104, 105, 106, 107, 108, 109, 110, 111, 112, 113, 114, 115, 116, 117, 118, 119, 120, 121, 122, 123, 124, 125, 126] (by decide +kernel) (by decide +kernel)
set_option maxRecDepth 20000 in
theorem gX10_bucket_X10_fail : GoodIn wsX10_bucket (wsV RX10 315 RX10 yX10_fail wsX10_fail) := goodIn_app (goodIn_of _ (by decide +kernel)) ggX10_bucket_X10_fail
set_option maxRecDepth 20000 in
theorem ggX10_bucket_X10_isInBucket : GoodIn wsX10_bucket wsX10_isInBucket := goodIn_r _ [15] (by decide +kernel) (by decide +kernel)
set_option maxRecDepth 20000 in
theorem gX10_bucket_X10_isInBucket : GoodIn wsX10_bucket (va_wsS RX10 359 yX10_isInBucket wsX10_isInBucket) := goodIn_app (goodIn_of _ (by decide +kernel)) ggX10_bucket_X10_isInBucket
set_option maxRecDepth 20000 in
theorem ggX10_bucket_X10_loadOf : GoodIn wsX10_bucket wsX10_loadOf := goodIn_r _ [19, 2, 20, 13, 14, 7, 15, 56, 57, 58, 59, 60, 61, 62, 63, 64, 65, 66, 67, 68, 69, 70, 71, 72, 73, 74, 75, 76, 77, 78, 79, 80, 81, 82, 83, 84, 85, 86, 87, 88, 89, 90, 91, 92, 93, 94, 95, 96, 97, 98, 99, 100, 101, 102, 103, 104, 105, 106, 107, 108, 109, 110, 111, 112, 113, 114, 115, 116, 117, 118, 119, 120, 121, 122, 123, 124, 125, 126] (by decide +kernel) (by decide +kernel)
set_option maxRecDepth 20000 in
theorem gX10_bucket_X10_loadOf : GoodIn wsX10_bucket (wsV RX10 362 RX10 yX10_loadOf wsX10_loadOf) := goodIn_app (goodIn_of _ (by decide +kernel)) ggX10_bucket_X10_loadOf
set_option maxRecDepth 20000 in
theorem ggX10_bucket_X10_sideOf : GoodIn wsX10_bucket wsX10_sideOf := goodIn_r _ [24, 25, 16, 17, 18, 7, 19, 2, 20, 13, 14, 15, 26, 27, 28, 29, 30, 31, 32, 33, 56, 57, 58, 59, 60, 61, 62, 63, 64, 65, 66, 67, 68, 69, 70, 71, 72, 73, 74, 75, 76, 77, 78, 79, 80, 81, 82, 83, 84, 85, 86, 87, 88, 89, 90, 91, 92, 93, 94, 95, 96, 97, 98, 99, 100, 101, 102, 103, 104, 105, 106, 107, 108, 109, 110, 111, 112, 113, 114, 115, 116, 117, 118, 119, 120, 121, 122, 123, 124, 125, 126] (by decide +kernel) (by decide +kernel)
set_option maxRecDepth 20000 in
theorem gX10_bucket_X10_sideOf : GoodIn wsX10_bucket (wsV RX10 377 RX10 yX10_sideOf wsX10_sideOf) := goodIn_app (goodIn_of _ (by decide +kernel)) ggX10_bucket_X10_sideOf
set_option maxRecDepth 20000 in
theorem ggX10_bucket_X10_depthOf : GoodIn wsX10_bucket wsX10_depthOf := goodIn_r _ [29, 30, 31, 32, 7, 33, 25, 56, 57, 58, 59, 60, 61, 62, 63, 64, 65, 66, 67, 68, 69, 70, 71, 72, 73, 74, 75, 76, 77, 78, 79, 80, 81, 82, 83, 84, 85, 86, 87, 88, 89, 90, 91, 92, 93, 94, 95, 96, 97, 98, 99, 100, 101, 102, 103, 104, 105, 106, 107, 108, 109, 110, 111, 112, 113, 114, 115, 116, 117, 118, 119, 120, 121, 122, 123, 124, 125, 126] (by decide +kernel) (by decide +kernel)
set_option maxRecDepth 20000 in
theorem gX10_bucket_X10_depthOf : GoodIn wsX10_bucket (wsV RX10 352 RX10 yX10_depthOf wsX10_depthOf) := goodIn_app (goodIn_of _ (by decide +kernel)) ggX10_bucket_X10_depthOf
set_option maxRecDepth 20000 in
theorem ggX10_bucket_X10_brokenBy : GoodIn wsX10_bucket wsX10_brokenBy := goodIn_r _ [37, 38, 39, 40, 41, 42, 7, 43, 2, 44, 13, 14, 15, 16, 17, 18, 19, 20, 26, 27, 28, 29, 30, 31, 32, 33, 25, 45, 46, 47, 48, 49, 50, 51, 52, 53, 54, 55, 56, 57, 58, 59, 60, 61, 62, 63, 64, 65, 66, 67, 68, 69, 70, 71, 72, 73, 74, 75, 76, 77, 78, 79, 80, 81, 82, 83, 84, 85, 86, 87, 88, 89, 90, 91, 92, 93, 94, 95, 96, 97, 98, 99, 100, 101, 102, 103, 104, 105, 106, 107, 108, 109, 110, 111, 112, 113, 114, 115, 116, 117, 118, 119, 120, 121, 122, 123, 124, 125, 126] (by decide +kernel) (by decide +kernel)
set_option maxRecDepth 20000 in
theorem gX10_bucket_X10_brokenBy : GoodIn wsX10_bucket (wsV RX10 380 RX10 yX10_brokenBy wsX10_brokenBy) := goodIn_app (goodIn_of _ (by decide +kernel)) ggX10_bucket_X10_brokenBy
set_option maxRecDepth 20000 in
theorem dX10_bucket_0_b : (decode cX10_bucket 0 = .ok (.aload_n 0, 1)) ∧ (decode cX10_bucket 1 = .ok (.iconst 0, 1)) ∧ (decode cX10_bucket 2 = .ok (.putfield 171, 3)) ∧ (decode cX10_bucket 5 = .ok (.iload_n 1, 1)) ∧ (decode cX10_bucket 6 = .ok (.iconst 0, 1)) ∧ (decode cX10_bucket 7 = .ok (.iconst 1, 1)) := by decide +kernel
theorem dX10_bucket_0 : decode cX10_bucket 0 = .ok (.aload_n 0, 1) := dX10_bucket_0_b.1
theorem dX10_bucket_1 : decode cX10_bucket 1 = .ok (.iconst 0, 1) := dX10_bucket_0_b.2.1
theorem dX10_bucket_2 : decode cX10_bucket 2 = .ok (.putfield 171, 3) := dX10_bucket_0_b.2.2.1
theorem dX10_bucket_5 : decode cX10_bucket 5 = .ok (.iload_n 1, 1) := dX10_bucket_0_b.2.2.2.1
theorem dX10_bucket_6 : decode cX10_bucket 6 = .ok (.iconst 0, 1) := dX10_bucket_0_b.2.2.2.2.1
theorem dX10_bucket_7 : decode cX10_bucket 7 = .ok (.iconst 1, 1) := dX10_bucket_0_b.2.2.2.2.2
set_option maxRecDepth 20000 in
theorem dX10_bucket_8_b : (decode cX10_bucket 8 = .ok (.invokestatic 177, 3)) ∧ (decode cX10_bucket 11 = .ok (.ifCond .ne 9, 3)) ∧ (decode cX10_bucket 14 = .ok (.aload_n 0, 1)) ∧ (decode cX10_bucket 15 = .ok (.iconst 1, 1)) ∧ (decode cX10_bucket 16 = .ok (.invokevirtual 315, 3)) ∧ (decode cX10_bucket 19 = .ok (.ireturn, 1)) := by decide +kernel
theorem dX10_bucket_8 : decode cX10_bucket 8 = .ok (.invokestatic 177, 3) := dX10_bucket_8_b.1
theorem dX10_bucket_11 : decode cX10_bucket 11 = .ok (.ifCond .ne 9, 3) := dX10_bucket_8_b.2.1
theorem dX10_bucket_14 : decode cX10_bucket 14 = .ok (.aload_n 0, 1) := dX10_bucket_8_b.2.2.1
theorem dX10_bucket_15 : decode cX10_bucket 15 = .ok (.iconst 1, 1) := dX10_bucket_8_b.2.2.2.1
theorem dX10_bucket_16 : decode cX10_bucket 16 = .ok (.invokevirtual 315, 3) := dX10_bucket_8_b.2.2.2.2.1
theorem dX10_bucket_19 : decode cX10_bucket 19 = .ok (.ireturn, 1) := dX10_bucket_8_b.2.2.2.2.2
set_option maxRecDepth 20000 in
theorem dX10_bucket_20_b : (decode cX10_bucket 20 = .ok (.iconst 0, 1)) ∧ (decode cX10_bucket 21 = .ok (.istore_n 3, 1)) ∧ (decode cX10_bucket 22 = .ok (.iconst 0, 1)) ∧ (decode cX10_bucket 23 = .ok (.istore 4, 2)) ∧ (decode cX10_bucket 25 = .ok (.iload 4, 2)) ∧ (decode cX10_bucket 27 = .ok (.aload_n 0, 1)) := by decide +kernel
theorem dX10_bucket_20 : decode cX10_bucket 20 = .ok (.iconst 0, 1) := dX10_bucket_20_b.1
theorem dX10_bucket_21 : decode cX10_bucket 21 = .ok (.istore_n 3, 1) := dX10_bucket_20_b.2.1
theorem dX10_bucket_22 : decode cX10_bucket 22 = .ok (.iconst 0, 1) := dX10_bucket_20_b.2.2.1
theorem dX10_bucket_23 : decode cX10_bucket 23 = .ok (.istore 4, 2) := dX10_bucket_20_b.2.2.2.1
theorem dX10_bucket_25 : decode cX10_bucket 25 = .ok (.iload 4, 2) := dX10_bucket_20_b.2.2.2.2.1
theorem dX10_bucket_27 : decode cX10_bucket 27 = .ok (.aload_n 0, 1) := dX10_bucket_20_b.2.2.2.2.2
set_option maxRecDepth 20000 in
theorem dX10_bucket_28_b : (decode cX10_bucket 28 = .ok (.getfield 174, 3)) ∧ (decode cX10_bucket 31 = .ok (.if_icmp .ge 34, 3)) ∧ (decode cX10_bucket 34 = .ok (.iload_n 3, 1)) ∧ (decode cX10_bucket 35 = .ok (.aload_n 0, 1)) ∧ (decode cX10_bucket 36 = .ok (.getfield 87, 3)) ∧ (decode cX10_bucket 39 = .ok (.iload 4, 2)) := by decide +kernel
theorem dX10_bucket_28 : decode cX10_bucket 28 = .ok (.getfield 174, 3) := dX10_bucket_28_b.1
theorem dX10_bucket_31 : decode cX10_bucket 31 = .ok (.if_icmp .ge 34, 3) := dX10_bucket_28_b.2.1
theorem dX10_bucket_34 : decode cX10_bucket 34 = .ok (.iload_n 3, 1) := dX10_bucket_28_b.2.2.1
theorem dX10_bucket_35 : decode cX10_bucket 35 = .ok (.aload_n 0, 1) := dX10_bucket_28_b.2.2.2.1
theorem dX10_bucket_36 : decode cX10_bucket 36 = .ok (.getfield 87, 3) := dX10_bucket_28_b.2.2.2.2.1
theorem dX10_bucket_39 : decode cX10_bucket 39 = .ok (.iload 4, 2) := dX10_bucket_28_b.2.2.2.2.2
set_option maxRecDepth 20000 in
theorem dX10_bucket_41_b : (decode cX10_bucket 41 = .ok (.iaload, 1)) ∧ (decode cX10_bucket 42 = .ok (.iload_n 1, 1)) ∧ (decode cX10_bucket 43 = .ok (.invokestatic 359, 3)) ∧ (decode cX10_bucket 46 = .ok (.ifCond .eq 10, 3)) ∧ (decode cX10_bucket 49 = .ok (.iconst 1, 1)) ∧ (decode cX10_bucket 50 = .ok (.iload 4, 2)) := by decide +kernel
theorem dX10_bucket_41 : decode cX10_bucket 41 = .ok (.iaload, 1) := dX10_bucket_41_b.1
theorem dX10_bucket_42 : decode cX10_bucket 42 = .ok (.iload_n 1, 1) := dX10_bucket_41_b.2.1
theorem dX10_bucket_43 : decode cX10_bucket 43 = .ok (.invokestatic 359, 3) := dX10_bucket_41_b.2.2.1
theorem dX10_bucket_46 : decode cX10_bucket 46 = .ok (.ifCond .eq 10, 3) := dX10_bucket_41_b.2.2.2.1
theorem dX10_bucket_49 : decode cX10_bucket 49 = .ok (.iconst 1, 1) := dX10_bucket_41_b.2.2.2.2.1
theorem dX10_bucket_50 : decode cX10_bucket 50 = .ok (.iload 4, 2) := dX10_bucket_41_b.2.2.2.2.2
set_option maxRecDepth 20000 in
theorem dX10_bucket_52_b : (decode cX10_bucket 52 = .ok (.ishl, 1)) ∧ (decode cX10_bucket 53 = .ok (.goto 4, 3)) ∧ (decode cX10_bucket 56 = .ok (.iconst 0, 1)) ∧ (decode cX10_bucket 57 = .ok (.ior, 1)) ∧ (decode cX10_bucket 58 = .ok (.istore_n 3, 1)) ∧ (decode cX10_bucket 59 = .ok (.iinc 4 1, 3)) := by decide +kernel
theorem dX10_bucket_52 : decode cX10_bucket 52 = .ok (.ishl, 1) := dX10_bucket_52_b.1
theorem dX10_bucket_53 : decode cX10_bucket 53 = .ok (.goto 4, 3) := dX10_bucket_52_b.2.1
theorem dX10_bucket_56 : decode cX10_bucket 56 = .ok (.iconst 0, 1) := dX10_bucket_52_b.2.2.1
theorem dX10_bucket_57 : decode cX10_bucket 57 = .ok (.ior, 1) := dX10_bucket_52_b.2.2.2.1
theorem dX10_bucket_58 : decode cX10_bucket 58 = .ok (.istore_n 3, 1) := dX10_bucket_52_b.2.2.2.2.1
theorem dX10_bucket_59 : decode cX10_bucket 59 = .ok (.iinc 4 1, 3) := dX10_bucket_52_b.2.2.2.2.2
set_option maxRecDepth 20000 in
theorem dX10_bucket_62_b : (decode cX10_bucket 62 = .ok (.goto (-37), 3)) ∧ (decode cX10_bucket 65 = .ok (.iload_n 2, 1)) ∧ (decode cX10_bucket 66 = .ok (.tableswitch 84 0 4 #[34, 44, 58, 68, 70], 34)) ∧ (decode cX10_bucket 100 = .ok (.aload_n 0, 1)) ∧ (decode cX10_bucket 101 = .ok (.aload_n 0, 1)) ∧ (decode cX10_bucket 102 = .ok (.getfield 87, 3)) := by decide +kernel
theorem dX10_bucket_62 : decode cX10_bucket 62 = .ok (.goto (-37), 3) := dX10_bucket_62_b.1
theorem dX10_bucket_65 : decode cX10_bucket 65 = .ok (.iload_n 2, 1) := dX10_bucket_62_b.2.1
theorem dX10_bucket_66 : decode cX10_bucket 66 = .ok (.tableswitch 84 0 4 #[34, 44, 58, 68, 70], 34) := dX10_bucket_62_b.2.2.1
theorem dX10_bucket_100 : decode cX10_bucket 100 = .ok (.aload_n 0, 1) := dX10_bucket_62_b.2.2.2.1
theorem dX10_bucket_101 : decode cX10_bucket 101 = .ok (.aload_n 0, 1) := dX10_bucket_62_b.2.2.2.2.1
theorem dX10_bucket_102 : decode cX10_bucket 102 = .ok (.getfield 87, 3) := dX10_bucket_62_b.2.2.2.2.2
set_option maxRecDepth 20000 in
theorem dX10_bucket_105_b : (decode cX10_bucket 105 = .ok (.iload_n 1, 1)) ∧ (decode cX10_bucket 106 = .ok (.invokevirtual 362, 3)) ∧ (decode cX10_bucket 109 = .ok (.ireturn, 1)) ∧ (decode cX10_bucket 110 = .ok (.aload_n 0, 1)) ∧ (decode cX10_bucket 111 = .ok (.aload_n 0, 1)) ∧ (decode cX10_bucket 112 = .ok (.getfield 87, 3)) := by decide +kernel
theorem dX10_bucket_105 : decode cX10_bucket 105 = .ok (.iload_n 1, 1) := dX10_bucket_105_b.1
theorem dX10_bucket_106 : decode cX10_bucket 106 = .ok (.invokevirtual 362, 3) := dX10_bucket_105_b.2.1
theorem dX10_bucket_109 : decode cX10_bucket 109 = .ok (.ireturn, 1) := dX10_bucket_105_b.2.2.1
theorem dX10_bucket_110 : decode cX10_bucket 110 = .ok (.aload_n 0, 1) := dX10_bucket_105_b.2.2.2.1
theorem dX10_bucket_111 : decode cX10_bucket 111 = .ok (.aload_n 0, 1) := dX10_bucket_105_b.2.2.2.2.1
theorem dX10_bucket_112 : decode cX10_bucket 112 = .ok (.getfield 87, 3) := dX10_bucket_105_b.2.2.2.2.2
set_option maxRecDepth 20000 in
theorem dX10_bucket_115_b : (decode cX10_bucket 115 = .ok (.iload_n 1, 1)) ∧ (decode cX10_bucket 116 = .ok (.aload_n 0, 1)) ∧ (decode cX10_bucket 117 = .ok (.getfield 327, 3)) ∧ (decode cX10_bucket 120 = .ok (.invokevirtual 377, 3)) ∧ (decode cX10_bucket 123 = .ok (.ireturn, 1)) ∧ (decode cX10_bucket 124 = .ok (.aload_n 0, 1)) := by decide +kernel
theorem dX10_bucket_115 : decode cX10_bucket 115 = .ok (.iload_n 1, 1) := dX10_bucket_115_b.1
theorem dX10_bucket_116 : decode cX10_bucket 116 = .ok (.aload_n 0, 1) := dX10_bucket_115_b.2.1
theorem dX10_bucket_117 : decode cX10_bucket 117 = .ok (.getfield 327, 3) := dX10_bucket_115_b.2.2.1
theorem dX10_bucket_120 : decode cX10_bucket 120 = .ok (.invokevirtual 377, 3) := dX10_bucket_115_b.2.2.2.1
theorem dX10_bucket_123 : decode cX10_bucket 123 = .ok (.ireturn, 1) := dX10_bucket_115_b.2.2.2.2.1
theorem dX10_bucket_124 : decode cX10_bucket 124 = .ok (.aload_n 0, 1) := dX10_bucket_115_b.2.2.2.2.2
set_option maxRecDepth 20000 in
theorem dX10_bucket_125_b : (decode cX10_bucket 125 = .ok (.iload_n 1, 1)) ∧ (decode cX10_bucket 126 = .ok (.aload_n 0, 1)) ∧ (decode cX10_bucket 127 = .ok (.getfield 327, 3)) ∧ (decode cX10_bucket 130 = .ok (.invokevirtual 352, 3)) ∧ (decode cX10_bucket 133 = .ok (.ireturn, 1)) ∧ (decode cX10_bucket 134 = .ok (.iload_n 3, 1)) := by decide +kernel
theorem dX10_bucket_125 : decode cX10_bucket 125 = .ok (.iload_n 1, 1) := dX10_bucket_125_b.1
theorem dX10_bucket_126 : decode cX10_bucket 126 = .ok (.aload_n 0, 1) := dX10_bucket_125_b.2.1
theorem dX10_bucket_127 : decode cX10_bucket 127 = .ok (.getfield 327, 3) := dX10_bucket_125_b.2.2.1
theorem dX10_bucket_130 : decode cX10_bucket 130 = .ok (.invokevirtual 352, 3) := dX10_bucket_125_b.2.2.2.1
theorem dX10_bucket_133 : decode cX10_bucket 133 = .ok (.ireturn, 1) := dX10_bucket_125_b.2.2.2.2.1
theorem dX10_bucket_134 : decode cX10_bucket 134 = .ok (.iload_n 3, 1) := dX10_bucket_125_b.2.2.2.2.2
set_option maxRecDepth 20000 in
theorem dX10_bucket_135_b : (decode cX10_bucket 135 = .ok (.ireturn, 1)) ∧ (decode cX10_bucket 136 = .ok (.aload_n 0, 1)) ∧ (decode cX10_bucket 137 = .ok (.aload_n 0, 1)) ∧ (decode cX10_bucket 138 = .ok (.getfield 87, 3)) ∧ (decode cX10_bucket 141 = .ok (.iload_n 1, 1)) ∧ (decode cX10_bucket 142 = .ok (.aload_n 0, 1)) := by decide +kernel
theorem dX10_bucket_135 : decode cX10_bucket 135 = .ok (.ireturn, 1) := dX10_bucket_135_b.1
theorem dX10_bucket_136 : decode cX10_bucket 136 = .ok (.aload_n 0, 1) := dX10_bucket_135_b.2.1
theorem dX10_bucket_137 : decode cX10_bucket 137 = .ok (.aload_n 0, 1) := dX10_bucket_135_b.2.2.1
theorem dX10_bucket_138 : decode cX10_bucket 138 = .ok (.getfield 87, 3) := dX10_bucket_135_b.2.2.2.1
theorem dX10_bucket_141 : decode cX10_bucket 141 = .ok (.iload_n 1, 1) := dX10_bucket_135_b.2.2.2.2.1
theorem dX10_bucket_142 : decode cX10_bucket 142 = .ok (.aload_n 0, 1) := dX10_bucket_135_b.2.2.2.2.2
set_option maxRecDepth 20000 in
theorem dX10_bucket_143_b : (decode cX10_bucket 143 = .ok (.getfield 327, 3)) ∧ (decode cX10_bucket 146 = .ok (.invokevirtual 380, 3)) ∧ (decode cX10_bucket 149 = .ok (.ireturn, 1)) ∧ (decode cX10_bucket 150 = .ok (.aload_n 0, 1)) ∧ (decode cX10_bucket 151 = .ok (.iconst 1, 1)) ∧ (decode cX10_bucket 152 = .ok (.invokevirtual 315, 3)) := by decide +kernel
theorem dX10_bucket_143 : decode cX10_bucket 143 = .ok (.getfield 327, 3) := dX10_bucket_143_b.1
theorem dX10_bucket_146 : decode cX10_bucket 146 = .ok (.invokevirtual 380, 3) := dX10_bucket_143_b.2.1
theorem dX10_bucket_149 : decode cX10_bucket 149 = .ok (.ireturn, 1) := dX10_bucket_143_b.2.2.1
theorem dX10_bucket_150 : decode cX10_bucket 150 = .ok (.aload_n 0, 1) := dX10_bucket_143_b.2.2.2.1
theorem dX10_bucket_151 : decode cX10_bucket 151 = .ok (.iconst 1, 1) := dX10_bucket_143_b.2.2.2.2.1
theorem dX10_bucket_152 : decode cX10_bucket 152 = .ok (.invokevirtual 315, 3) := dX10_bucket_143_b.2.2.2.2.2
theorem dX10_bucket_155 : decode cX10_bucket 155 = .ok (.ireturn, 1) := by decide +kernel
set_option maxRecDepth 20000 in
theorem ggX10_tellRide_X10_sideOf : GoodIn wsX10_tellRide wsX10_sideOf := goodIn_r _ [18, 13, 19, 20, 21, 17, 22, 23, 24, 25, 26, 27, 28, 29, 30, 31, 32, 33, 34, 35, 36, 37, 38, 39, 40, 41, 42, 43, 44, 45, 46, 47, 48, 49, 50, 51, 52, 53, 54, 55, 56, 57, 58, 59, 60, 61, 62, 63, 64, 65, 66, 67, 68, 69, 70, 71, 72, 73, 74, 75, 76, 77, 78, 79, 80, 81, 82, 83, 84, 85, 86, 87, 88, 89, 90, 91, 92, 93, 94, 95, 96, 97, 98, 99, 100, 101, 102, 103, 104, 105, 106] (by decide +kernel) (by decide +kernel)
set_option maxRecDepth 20000 in
theorem gX10_tellRide_X10_sideOf : GoodIn wsX10_tellRide (wsV RX10 377 RX10 yX10_sideOf wsX10_sideOf) := goodIn_app (goodIn_of _ (by decide +kernel)) ggX10_tellRide_X10_sideOf
set_option maxRecDepth 20000 in
theorem dX10_tellRide_0_b : (decode cX10_tellRide 0 = .ok (.aload_n 0, 1)) ∧ (decode cX10_tellRide 1 = .ok (.ldc_w 383, 3)) ∧ (decode cX10_tellRide 4 = .ok (.putfield 384, 3)) ∧ (decode cX10_tellRide 7 = .ok (.aload_n 0, 1)) ∧ (decode cX10_tellRide 8 = .ok (.ldc_w 387, 3)) ∧ (decode cX10_tellRide 11 = .ok (.putfield 388, 3)) := by decide +kernel
theorem dX10_tellRide_0 : decode cX10_tellRide 0 = .ok (.aload_n 0, 1) := dX10_tellRide_0_b.1
theorem dX10_tellRide_1 : decode cX10_tellRide 1 = .ok (.ldc_w 383, 3) := dX10_tellRide_0_b.2.1
theorem dX10_tellRide_4 : decode cX10_tellRide 4 = .ok (.putfield 384, 3) := dX10_tellRide_0_b.2.2.1
theorem dX10_tellRide_7 : decode cX10_tellRide 7 = .ok (.aload_n 0, 1) := dX10_tellRide_0_b.2.2.2.1
theorem dX10_tellRide_8 : decode cX10_tellRide 8 = .ok (.ldc_w 387, 3) := dX10_tellRide_0_b.2.2.2.2.1
theorem dX10_tellRide_11 : decode cX10_tellRide 11 = .ok (.putfield 388, 3) := dX10_tellRide_0_b.2.2.2.2.2
set_option maxRecDepth 20000 in
theorem dX10_tellRide_14_b : (decode cX10_tellRide 14 = .ok (.aload_n 0, 1)) ∧ (decode cX10_tellRide 15 = .ok (.iconst 0, 1)) ∧ (decode cX10_tellRide 16 = .ok (.putfield 391, 3)) ∧ (decode cX10_tellRide 19 = .ok (.iload_n 3, 1)) ∧ (decode cX10_tellRide 20 = .ok (.iload_n 2, 1)) ∧ (decode cX10_tellRide 21 = .ok (.if_icmp .le 7, 3)) := by decide +kernel
theorem dX10_tellRide_14 : decode cX10_tellRide 14 = .ok (.aload_n 0, 1) := dX10_tellRide_14_b.1
theorem dX10_tellRide_15 : decode cX10_tellRide 15 = .ok (.iconst 0, 1) := dX10_tellRide_14_b.2.1
theorem dX10_tellRide_16 : decode cX10_tellRide 16 = .ok (.putfield 391, 3) := dX10_tellRide_14_b.2.2.1
theorem dX10_tellRide_19 : decode cX10_tellRide 19 = .ok (.iload_n 3, 1) := dX10_tellRide_14_b.2.2.2.1
theorem dX10_tellRide_20 : decode cX10_tellRide 20 = .ok (.iload_n 2, 1) := dX10_tellRide_14_b.2.2.2.2.1
theorem dX10_tellRide_21 : decode cX10_tellRide 21 = .ok (.if_icmp .le 7, 3) := dX10_tellRide_14_b.2.2.2.2.2
set_option maxRecDepth 20000 in
theorem dX10_tellRide_24_b : (decode cX10_tellRide 24 = .ok (.iconst 1, 1)) ∧ (decode cX10_tellRide 25 = .ok (.goto 4, 3)) ∧ (decode cX10_tellRide 28 = .ok (.iconst (-1), 1)) ∧ (decode cX10_tellRide 29 = .ok (.istore 4, 2)) ∧ (decode cX10_tellRide 31 = .ok (.iload_n 3, 1)) ∧ (decode cX10_tellRide 32 = .ok (.iload_n 2, 1)) := by decide +kernel
theorem dX10_tellRide_24 : decode cX10_tellRide 24 = .ok (.iconst 1, 1) := dX10_tellRide_24_b.1
theorem dX10_tellRide_25 : decode cX10_tellRide 25 = .ok (.goto 4, 3) := dX10_tellRide_24_b.2.1
theorem dX10_tellRide_28 : decode cX10_tellRide 28 = .ok (.iconst (-1), 1) := dX10_tellRide_24_b.2.2.1
theorem dX10_tellRide_29 : decode cX10_tellRide 29 = .ok (.istore 4, 2) := dX10_tellRide_24_b.2.2.2.1
theorem dX10_tellRide_31 : decode cX10_tellRide 31 = .ok (.iload_n 3, 1) := dX10_tellRide_24_b.2.2.2.2.1
theorem dX10_tellRide_32 : decode cX10_tellRide 32 = .ok (.iload_n 2, 1) := dX10_tellRide_24_b.2.2.2.2.2
set_option maxRecDepth 20000 in
theorem dX10_tellRide_33_b : (decode cX10_tellRide 33 = .ok (.if_icmp .le 7, 3)) ∧ (decode cX10_tellRide 36 = .ok (.iconst 0, 1)) ∧ (decode cX10_tellRide 37 = .ok (.goto 4, 3)) ∧ (decode cX10_tellRide 40 = .ok (.iconst 1, 1)) ∧ (decode cX10_tellRide 41 = .ok (.istore 5, 2)) ∧ (decode cX10_tellRide 43 = .ok (.iload_n 2, 1)) := by decide +kernel
theorem dX10_tellRide_33 : decode cX10_tellRide 33 = .ok (.if_icmp .le 7, 3) := dX10_tellRide_33_b.1
theorem dX10_tellRide_36 : decode cX10_tellRide 36 = .ok (.iconst 0, 1) := dX10_tellRide_33_b.2.1
theorem dX10_tellRide_37 : decode cX10_tellRide 37 = .ok (.goto 4, 3) := dX10_tellRide_33_b.2.2.1
theorem dX10_tellRide_40 : decode cX10_tellRide 40 = .ok (.iconst 1, 1) := dX10_tellRide_33_b.2.2.2.1
theorem dX10_tellRide_41 : decode cX10_tellRide 41 = .ok (.istore 5, 2) := dX10_tellRide_33_b.2.2.2.2.1
theorem dX10_tellRide_43 : decode cX10_tellRide 43 = .ok (.iload_n 2, 1) := dX10_tellRide_33_b.2.2.2.2.2
set_option maxRecDepth 20000 in
theorem dX10_tellRide_44_b : (decode cX10_tellRide 44 = .ok (.istore 6, 2)) ∧ (decode cX10_tellRide 46 = .ok (.iload 6, 2)) ∧ (decode cX10_tellRide 48 = .ok (.iload_n 3, 1)) ∧ (decode cX10_tellRide 49 = .ok (.if_icmp .eq 106, 3)) ∧ (decode cX10_tellRide 52 = .ok (.aload_n 0, 1)) ∧ (decode cX10_tellRide 53 = .ok (.aload_n 1, 1)) := by decide +kernel
theorem dX10_tellRide_44 : decode cX10_tellRide 44 = .ok (.istore 6, 2) := dX10_tellRide_44_b.1
theorem dX10_tellRide_46 : decode cX10_tellRide 46 = .ok (.iload 6, 2) := dX10_tellRide_44_b.2.1
theorem dX10_tellRide_48 : decode cX10_tellRide 48 = .ok (.iload_n 3, 1) := dX10_tellRide_44_b.2.2.1
theorem dX10_tellRide_49 : decode cX10_tellRide 49 = .ok (.if_icmp .eq 106, 3) := dX10_tellRide_44_b.2.2.2.1
theorem dX10_tellRide_52 : decode cX10_tellRide 52 = .ok (.aload_n 0, 1) := dX10_tellRide_44_b.2.2.2.2.1
theorem dX10_tellRide_53 : decode cX10_tellRide 53 = .ok (.aload_n 1, 1) := dX10_tellRide_44_b.2.2.2.2.2
set_option maxRecDepth 20000 in
theorem dX10_tellRide_54_b : (decode cX10_tellRide 54 = .ok (.iload 5, 2)) ∧ (decode cX10_tellRide 56 = .ok (.iload 6, 2)) ∧ (decode cX10_tellRide 58 = .ok (.invokevirtual 377, 3)) ∧ (decode cX10_tellRide 61 = .ok (.aload_n 0, 1)) ∧ (decode cX10_tellRide 62 = .ok (.aload_n 1, 1)) ∧ (decode cX10_tellRide 63 = .ok (.iconst 1, 1)) := by decide +kernel
theorem dX10_tellRide_54 : decode cX10_tellRide 54 = .ok (.iload 5, 2) := dX10_tellRide_54_b.1
theorem dX10_tellRide_56 : decode cX10_tellRide 56 = .ok (.iload 6, 2) := dX10_tellRide_54_b.2.1
theorem dX10_tellRide_58 : decode cX10_tellRide 58 = .ok (.invokevirtual 377, 3) := dX10_tellRide_54_b.2.2.1
theorem dX10_tellRide_61 : decode cX10_tellRide 61 = .ok (.aload_n 0, 1) := dX10_tellRide_54_b.2.2.2.1
theorem dX10_tellRide_62 : decode cX10_tellRide 62 = .ok (.aload_n 1, 1) := dX10_tellRide_54_b.2.2.2.2.1
theorem dX10_tellRide_63 : decode cX10_tellRide 63 = .ok (.iconst 1, 1) := dX10_tellRide_54_b.2.2.2.2.2
set_option maxRecDepth 20000 in
theorem dX10_tellRide_64_b : (decode cX10_tellRide 64 = .ok (.iload 5, 2)) ∧ (decode cX10_tellRide 66 = .ok (.isub, 1)) ∧ (decode cX10_tellRide 67 = .ok (.iload 6, 2)) ∧ (decode cX10_tellRide 69 = .ok (.invokevirtual 377, 3)) ∧ (decode cX10_tellRide 72 = .ok (.isub, 1)) ∧ (decode cX10_tellRide 73 = .ok (.istore 7, 2)) := by decide +kernel
theorem dX10_tellRide_64 : decode cX10_tellRide 64 = .ok (.iload 5, 2) := dX10_tellRide_64_b.1
theorem dX10_tellRide_66 : decode cX10_tellRide 66 = .ok (.isub, 1) := dX10_tellRide_64_b.2.1
theorem dX10_tellRide_67 : decode cX10_tellRide 67 = .ok (.iload 6, 2) := dX10_tellRide_64_b.2.2.1
theorem dX10_tellRide_69 : decode cX10_tellRide 69 = .ok (.invokevirtual 377, 3) := dX10_tellRide_64_b.2.2.2.1
theorem dX10_tellRide_72 : decode cX10_tellRide 72 = .ok (.isub, 1) := dX10_tellRide_64_b.2.2.2.2.1
theorem dX10_tellRide_73 : decode cX10_tellRide 73 = .ok (.istore 7, 2) := dX10_tellRide_64_b.2.2.2.2.2
set_option maxRecDepth 20000 in
theorem dX10_tellRide_75_b : (decode cX10_tellRide 75 = .ok (.aload_n 0, 1)) ∧ (decode cX10_tellRide 76 = .ok (.aload_n 0, 1)) ∧ (decode cX10_tellRide 77 = .ok (.getfield 384, 3)) ∧ (decode cX10_tellRide 80 = .ok (.iload 7, 2)) ∧ (decode cX10_tellRide 82 = .ok (.invokestatic 211, 3)) ∧ (decode cX10_tellRide 85 = .ok (.putfield 384, 3)) := by decide +kernel
theorem dX10_tellRide_75 : decode cX10_tellRide 75 = .ok (.aload_n 0, 1) := dX10_tellRide_75_b.1
theorem dX10_tellRide_76 : decode cX10_tellRide 76 = .ok (.aload_n 0, 1) := dX10_tellRide_75_b.2.1
theorem dX10_tellRide_77 : decode cX10_tellRide 77 = .ok (.getfield 384, 3) := dX10_tellRide_75_b.2.2.1
theorem dX10_tellRide_80 : decode cX10_tellRide 80 = .ok (.iload 7, 2) := dX10_tellRide_75_b.2.2.2.1
theorem dX10_tellRide_82 : decode cX10_tellRide 82 = .ok (.invokestatic 211, 3) := dX10_tellRide_75_b.2.2.2.2.1
theorem dX10_tellRide_85 : decode cX10_tellRide 85 = .ok (.putfield 384, 3) := dX10_tellRide_75_b.2.2.2.2.2
set_option maxRecDepth 20000 in
theorem dX10_tellRide_88_b : (decode cX10_tellRide 88 = .ok (.aload_n 0, 1)) ∧ (decode cX10_tellRide 89 = .ok (.aload_n 0, 1)) ∧ (decode cX10_tellRide 90 = .ok (.getfield 388, 3)) ∧ (decode cX10_tellRide 93 = .ok (.iload 7, 2)) ∧ (decode cX10_tellRide 95 = .ok (.invokestatic 394, 3)) ∧ (decode cX10_tellRide 98 = .ok (.putfield 388, 3)) := by decide +kernel
theorem dX10_tellRide_88 : decode cX10_tellRide 88 = .ok (.aload_n 0, 1) := dX10_tellRide_88_b.1
theorem dX10_tellRide_89 : decode cX10_tellRide 89 = .ok (.aload_n 0, 1) := dX10_tellRide_88_b.2.1
theorem dX10_tellRide_90 : decode cX10_tellRide 90 = .ok (.getfield 388, 3) := dX10_tellRide_88_b.2.2.1
theorem dX10_tellRide_93 : decode cX10_tellRide 93 = .ok (.iload 7, 2) := dX10_tellRide_88_b.2.2.2.1
theorem dX10_tellRide_95 : decode cX10_tellRide 95 = .ok (.invokestatic 394, 3) := dX10_tellRide_88_b.2.2.2.2.1
theorem dX10_tellRide_98 : decode cX10_tellRide 98 = .ok (.putfield 388, 3) := dX10_tellRide_88_b.2.2.2.2.2
set_option maxRecDepth 20000 in
theorem dX10_tellRide_101_b : (decode cX10_tellRide 101 = .ok (.aload_n 0, 1)) ∧ (decode cX10_tellRide 102 = .ok (.dup, 1)) ∧ (decode cX10_tellRide 103 = .ok (.getfield 391, 3)) ∧ (decode cX10_tellRide 106 = .ok (.iconst 0, 1)) ∧ (decode cX10_tellRide 107 = .ok (.aload_n 0, 1)) ∧ (decode cX10_tellRide 108 = .ok (.getfield 54, 3)) := by decide +kernel
theorem dX10_tellRide_101 : decode cX10_tellRide 101 = .ok (.aload_n 0, 1) := dX10_tellRide_101_b.1
theorem dX10_tellRide_102 : decode cX10_tellRide 102 = .ok (.dup, 1) := dX10_tellRide_101_b.2.1
theorem dX10_tellRide_103 : decode cX10_tellRide 103 = .ok (.getfield 391, 3) := dX10_tellRide_101_b.2.2.1
theorem dX10_tellRide_106 : decode cX10_tellRide 106 = .ok (.iconst 0, 1) := dX10_tellRide_101_b.2.2.2.1
theorem dX10_tellRide_107 : decode cX10_tellRide 107 = .ok (.aload_n 0, 1) := dX10_tellRide_101_b.2.2.2.2.1
theorem dX10_tellRide_108 : decode cX10_tellRide 108 = .ok (.getfield 54, 3) := dX10_tellRide_101_b.2.2.2.2.2
set_option maxRecDepth 20000 in
theorem dX10_tellRide_111_b : (decode cX10_tellRide 111 = .ok (.iconst 4, 1)) ∧ (decode cX10_tellRide 112 = .ok (.iaload, 1)) ∧ (decode cX10_tellRide 113 = .ok (.iload 7, 2)) ∧ (decode cX10_tellRide 115 = .ok (.isub, 1)) ∧ (decode cX10_tellRide 116 = .ok (.invokestatic 394, 3)) ∧ (decode cX10_tellRide 119 = .ok (.iconst 0, 1)) := by decide +kernel
theorem dX10_tellRide_111 : decode cX10_tellRide 111 = .ok (.iconst 4, 1) := dX10_tellRide_111_b.1
theorem dX10_tellRide_112 : decode cX10_tellRide 112 = .ok (.iaload, 1) := dX10_tellRide_111_b.2.1
theorem dX10_tellRide_113 : decode cX10_tellRide 113 = .ok (.iload 7, 2) := dX10_tellRide_111_b.2.2.1
theorem dX10_tellRide_115 : decode cX10_tellRide 115 = .ok (.isub, 1) := dX10_tellRide_111_b.2.2.2.1
theorem dX10_tellRide_116 : decode cX10_tellRide 116 = .ok (.invokestatic 394, 3) := dX10_tellRide_111_b.2.2.2.2.1
theorem dX10_tellRide_119 : decode cX10_tellRide 119 = .ok (.iconst 0, 1) := dX10_tellRide_111_b.2.2.2.2.2
set_option maxRecDepth 20000 in
theorem dX10_tellRide_120_b : (decode cX10_tellRide 120 = .ok (.iload 7, 2)) ∧ (decode cX10_tellRide 122 = .ok (.aload_n 0, 1)) ∧ (decode cX10_tellRide 123 = .ok (.getfield 54, 3)) ∧ (decode cX10_tellRide 126 = .ok (.iconst 5, 1)) ∧ (decode cX10_tellRide 127 = .ok (.iaload, 1)) ∧ (decode cX10_tellRide 128 = .ok (.isub, 1)) := by decide +kernel
theorem dX10_tellRide_120 : decode cX10_tellRide 120 = .ok (.iload 7, 2) := dX10_tellRide_120_b.1
theorem dX10_tellRide_122 : decode cX10_tellRide 122 = .ok (.aload_n 0, 1) := dX10_tellRide_120_b.2.1
theorem dX10_tellRide_123 : decode cX10_tellRide 123 = .ok (.getfield 54, 3) := dX10_tellRide_120_b.2.2.1
theorem dX10_tellRide_126 : decode cX10_tellRide 126 = .ok (.iconst 5, 1) := dX10_tellRide_120_b.2.2.2.1
theorem dX10_tellRide_127 : decode cX10_tellRide 127 = .ok (.iaload, 1) := dX10_tellRide_120_b.2.2.2.2.1
theorem dX10_tellRide_128 : decode cX10_tellRide 128 = .ok (.isub, 1) := dX10_tellRide_120_b.2.2.2.2.2
set_option maxRecDepth 20000 in
theorem dX10_tellRide_129_b : (decode cX10_tellRide 129 = .ok (.aload_n 0, 1)) ∧ (decode cX10_tellRide 130 = .ok (.getfield 54, 3)) ∧ (decode cX10_tellRide 133 = .ok (.bipush 6, 2)) ∧ (decode cX10_tellRide 135 = .ok (.iaload, 1)) ∧ (decode cX10_tellRide 136 = .ok (.isub, 1)) ∧ (decode cX10_tellRide 137 = .ok (.invokestatic 394, 3)) := by decide +kernel
theorem dX10_tellRide_129 : decode cX10_tellRide 129 = .ok (.aload_n 0, 1) := dX10_tellRide_129_b.1
theorem dX10_tellRide_130 : decode cX10_tellRide 130 = .ok (.getfield 54, 3) := dX10_tellRide_129_b.2.1
theorem dX10_tellRide_133 : decode cX10_tellRide 133 = .ok (.bipush 6, 2) := dX10_tellRide_129_b.2.2.1
theorem dX10_tellRide_135 : decode cX10_tellRide 135 = .ok (.iaload, 1) := dX10_tellRide_129_b.2.2.2.1
theorem dX10_tellRide_136 : decode cX10_tellRide 136 = .ok (.isub, 1) := dX10_tellRide_129_b.2.2.2.2.1
theorem dX10_tellRide_137 : decode cX10_tellRide 137 = .ok (.invokestatic 394, 3) := dX10_tellRide_129_b.2.2.2.2.2
set_option maxRecDepth 20000 in
theorem dX10_tellRide_140_b : (decode cX10_tellRide 140 = .ok (.iadd, 1)) ∧ (decode cX10_tellRide 141 = .ok (.iadd, 1)) ∧ (decode cX10_tellRide 142 = .ok (.putfield 391, 3)) ∧ (decode cX10_tellRide 145 = .ok (.iload 6, 2)) ∧ (decode cX10_tellRide 147 = .ok (.iload 4, 2)) ∧ (decode cX10_tellRide 149 = .ok (.iadd, 1)) := by decide +kernel
theorem dX10_tellRide_140 : decode cX10_tellRide 140 = .ok (.iadd, 1) := dX10_tellRide_140_b.1
theorem dX10_tellRide_141 : decode cX10_tellRide 141 = .ok (.iadd, 1) := dX10_tellRide_140_b.2.1
theorem dX10_tellRide_142 : decode cX10_tellRide 142 = .ok (.putfield 391, 3) := dX10_tellRide_140_b.2.2.1
theorem dX10_tellRide_145 : decode cX10_tellRide 145 = .ok (.iload 6, 2) := dX10_tellRide_140_b.2.2.2.1
theorem dX10_tellRide_147 : decode cX10_tellRide 147 = .ok (.iload 4, 2) := dX10_tellRide_140_b.2.2.2.2.1
theorem dX10_tellRide_149 : decode cX10_tellRide 149 = .ok (.iadd, 1) := dX10_tellRide_140_b.2.2.2.2.2
set_option maxRecDepth 20000 in
theorem dX10_tellRide_150_b : (decode cX10_tellRide 150 = .ok (.istore 6, 2)) ∧ (decode cX10_tellRide 152 = .ok (.goto (-106), 3)) ∧ (decode cX10_tellRide 155 = .ok (.return_, 1)) := by decide +kernel
theorem dX10_tellRide_150 : decode cX10_tellRide 150 = .ok (.istore 6, 2) := dX10_tellRide_150_b.1
theorem dX10_tellRide_152 : decode cX10_tellRide 152 = .ok (.goto (-106), 3) := dX10_tellRide_150_b.2.1
theorem dX10_tellRide_155 : decode cX10_tellRide 155 = .ok (.return_, 1) := dX10_tellRide_150_b.2.2
set_option maxRecDepth 20000 in
theorem ggX10_keepsCap_X10_loadOf : GoodIn wsX10_keepsCap wsX10_loadOf := goodIn_r _ [6, 7, 8, 9, 10, 5, 11, 12, 13, 14, 15, 16, 17, 18, 19, 20, 21, 22, 23, 24, 25, 26, 27, 28, 29, 30, 31, 32, 33, 34, 35, 36, 37, 38, 39, 40, 41, 42, 43, 44, 45, 46, 47, 48, 49, 50, 51, 52, 53, 54, 55, 56, 57, 58, 59, 60, 61, 62, 63, 64, 65, 66, 67, 68, 69, 70, 71, 72, 73, 74, 75, 76, 77, 78, 79, 80, 81, 82] (by decide +kernel) (by decide +kernel)
set_option maxRecDepth 20000 in
theorem gX10_keepsCap_X10_loadOf : GoodIn wsX10_keepsCap (wsV RX10 362 RX10 yX10_loadOf wsX10_loadOf) := goodIn_app (goodIn_of _ (by decide +kernel)) ggX10_keepsCap_X10_loadOf
set_option maxRecDepth 20000 in
theorem dX10_keepsCap_0_b : (decode cX10_keepsCap 0 = .ok (.aload_n 0, 1)) ∧ (decode cX10_keepsCap 1 = .ok (.aload_n 1, 1)) ∧ (decode cX10_keepsCap 2 = .ok (.iconst 0, 1)) ∧ (decode cX10_keepsCap 3 = .ok (.invokevirtual 362, 3)) ∧ (decode cX10_keepsCap 6 = .ok (.aload_n 0, 1)) ∧ (decode cX10_keepsCap 7 = .ok (.getfield 54, 3)) := by decide +kernel
theorem dX10_keepsCap_0 : decode cX10_keepsCap 0 = .ok (.aload_n 0, 1) := dX10_keepsCap_0_b.1
theorem dX10_keepsCap_1 : decode cX10_keepsCap 1 = .ok (.aload_n 1, 1) := dX10_keepsCap_0_b.2.1
theorem dX10_keepsCap_2 : decode cX10_keepsCap 2 = .ok (.iconst 0, 1) := dX10_keepsCap_0_b.2.2.1
theorem dX10_keepsCap_3 : decode cX10_keepsCap 3 = .ok (.invokevirtual 362, 3) := dX10_keepsCap_0_b.2.2.2.1
theorem dX10_keepsCap_6 : decode cX10_keepsCap 6 = .ok (.aload_n 0, 1) := dX10_keepsCap_0_b.2.2.2.2.1
theorem dX10_keepsCap_7 : decode cX10_keepsCap 7 = .ok (.getfield 54, 3) := dX10_keepsCap_0_b.2.2.2.2.2
set_option maxRecDepth 20000 in
theorem dX10_keepsCap_10_b : (decode cX10_keepsCap 10 = .ok (.iconst 2, 1)) ∧ (decode cX10_keepsCap 11 = .ok (.iaload, 1)) ∧ (decode cX10_keepsCap 12 = .ok (.if_icmp .gt 22, 3)) ∧ (decode cX10_keepsCap 15 = .ok (.aload_n 0, 1)) ∧ (decode cX10_keepsCap 16 = .ok (.aload_n 1, 1)) ∧ (decode cX10_keepsCap 17 = .ok (.iconst 1, 1)) := by decide +kernel
theorem dX10_keepsCap_10 : decode cX10_keepsCap 10 = .ok (.iconst 2, 1) := dX10_keepsCap_10_b.1
theorem dX10_keepsCap_11 : decode cX10_keepsCap 11 = .ok (.iaload, 1) := dX10_keepsCap_10_b.2.1
theorem dX10_keepsCap_12 : decode cX10_keepsCap 12 = .ok (.if_icmp .gt 22, 3) := dX10_keepsCap_10_b.2.2.1
theorem dX10_keepsCap_15 : decode cX10_keepsCap 15 = .ok (.aload_n 0, 1) := dX10_keepsCap_10_b.2.2.2.1
theorem dX10_keepsCap_16 : decode cX10_keepsCap 16 = .ok (.aload_n 1, 1) := dX10_keepsCap_10_b.2.2.2.2.1
theorem dX10_keepsCap_17 : decode cX10_keepsCap 17 = .ok (.iconst 1, 1) := dX10_keepsCap_10_b.2.2.2.2.2
set_option maxRecDepth 20000 in
theorem dX10_keepsCap_18_b : (decode cX10_keepsCap 18 = .ok (.invokevirtual 362, 3)) ∧ (decode cX10_keepsCap 21 = .ok (.aload_n 0, 1)) ∧ (decode cX10_keepsCap 22 = .ok (.getfield 54, 3)) ∧ (decode cX10_keepsCap 25 = .ok (.iconst 2, 1)) ∧ (decode cX10_keepsCap 26 = .ok (.iaload, 1)) ∧ (decode cX10_keepsCap 27 = .ok (.if_icmp .gt 7, 3)) := by decide +kernel
theorem dX10_keepsCap_18 : decode cX10_keepsCap 18 = .ok (.invokevirtual 362, 3) := dX10_keepsCap_18_b.1
theorem dX10_keepsCap_21 : decode cX10_keepsCap 21 = .ok (.aload_n 0, 1) := dX10_keepsCap_18_b.2.1
theorem dX10_keepsCap_22 : decode cX10_keepsCap 22 = .ok (.getfield 54, 3) := dX10_keepsCap_18_b.2.2.1
theorem dX10_keepsCap_25 : decode cX10_keepsCap 25 = .ok (.iconst 2, 1) := dX10_keepsCap_18_b.2.2.2.1
theorem dX10_keepsCap_26 : decode cX10_keepsCap 26 = .ok (.iaload, 1) := dX10_keepsCap_18_b.2.2.2.2.1
theorem dX10_keepsCap_27 : decode cX10_keepsCap 27 = .ok (.if_icmp .gt 7, 3) := dX10_keepsCap_18_b.2.2.2.2.2
set_option maxRecDepth 20000 in
theorem dX10_keepsCap_30_b : (decode cX10_keepsCap 30 = .ok (.iconst 1, 1)) ∧ (decode cX10_keepsCap 31 = .ok (.goto 4, 3)) ∧ (decode cX10_keepsCap 34 = .ok (.iconst 0, 1)) ∧ (decode cX10_keepsCap 35 = .ok (.ireturn, 1)) := by decide +kernel
theorem dX10_keepsCap_30 : decode cX10_keepsCap 30 = .ok (.iconst 1, 1) := dX10_keepsCap_30_b.1
theorem dX10_keepsCap_31 : decode cX10_keepsCap 31 = .ok (.goto 4, 3) := dX10_keepsCap_30_b.2.1
theorem dX10_keepsCap_34 : decode cX10_keepsCap 34 = .ok (.iconst 0, 1) := dX10_keepsCap_30_b.2.2.1
theorem dX10_keepsCap_35 : decode cX10_keepsCap 35 = .ok (.ireturn, 1) := dX10_keepsCap_30_b.2.2.2
set_option maxRecDepth 20000 in
theorem ggX10_keepsRules_X10_brokenBy : GoodIn wsX10_keepsRules wsX10_brokenBy := goodIn_r _ [5, 6, 7, 8, 9, 10, 4, 11, 12, 13, 14, 15, 16, 17, 18, 19, 20, 21, 22, 23, 24, 25, 26, 27, 28, 29, 30, 31, 32, 33, 34, 35, 36, 37, 38, 39, 40, 41, 42, 43, 44, 45, 46, 47, 48, 49, 50, 51, 52, 53, 54, 55, 56, 57, 58, 59, 60, 61, 62, 63, 64, 65, 66, 67, 68, 69, 70, 71, 72, 73, 74, 75, 76, 77, 78, 79, 80, 81, 82, 83, 84, 85, 86, 87, 88, 89, 90, 91, 92, 93, 94, 95, 96, 97, 98, 99, 100, 101, 102, 103, 104, 105, 106, 107, 108, 109, 110, 111, 112] (by decide +kernel) (by decide +kernel)
set_option maxRecDepth 20000 in
theorem gX10_keepsRules_X10_brokenBy : GoodIn wsX10_keepsRules (wsV RX10 380 RX10 yX10_brokenBy wsX10_brokenBy) := goodIn_app (goodIn_of _ (by decide +kernel)) ggX10_keepsRules_X10_brokenBy
set_option maxRecDepth 20000 in
theorem dX10_keepsRules_0_b : (decode cX10_keepsRules 0 = .ok (.aload_n 0, 1)) ∧ (decode cX10_keepsRules 1 = .ok (.aload_n 1, 1)) ∧ (decode cX10_keepsRules 2 = .ok (.iconst 0, 1)) ∧ (decode cX10_keepsRules 3 = .ok (.iload_n 2, 1)) ∧ (decode cX10_keepsRules 4 = .ok (.invokevirtual 380, 3)) ∧ (decode cX10_keepsRules 7 = .ok (.iconst (-1), 1)) := by decide +kernel
theorem dX10_keepsRules_0 : decode cX10_keepsRules 0 = .ok (.aload_n 0, 1) := dX10_keepsRules_0_b.1
theorem dX10_keepsRules_1 : decode cX10_keepsRules 1 = .ok (.aload_n 1, 1) := dX10_keepsRules_0_b.2.1
theorem dX10_keepsRules_2 : decode cX10_keepsRules 2 = .ok (.iconst 0, 1) := dX10_keepsRules_0_b.2.2.1
theorem dX10_keepsRules_3 : decode cX10_keepsRules 3 = .ok (.iload_n 2, 1) := dX10_keepsRules_0_b.2.2.2.1
theorem dX10_keepsRules_4 : decode cX10_keepsRules 4 = .ok (.invokevirtual 380, 3) := dX10_keepsRules_0_b.2.2.2.2.1
theorem dX10_keepsRules_7 : decode cX10_keepsRules 7 = .ok (.iconst (-1), 1) := dX10_keepsRules_0_b.2.2.2.2.2
set_option maxRecDepth 20000 in
theorem dX10_keepsRules_8_b : (decode cX10_keepsRules 8 = .ok (.if_icmp .ne 18, 3)) ∧ (decode cX10_keepsRules 11 = .ok (.aload_n 0, 1)) ∧ (decode cX10_keepsRules 12 = .ok (.aload_n 1, 1)) ∧ (decode cX10_keepsRules 13 = .ok (.iconst 1, 1)) ∧ (decode cX10_keepsRules 14 = .ok (.iload_n 2, 1)) ∧ (decode cX10_keepsRules 15 = .ok (.invokevirtual 380, 3)) := by decide +kernel
theorem dX10_keepsRules_8 : decode cX10_keepsRules 8 = .ok (.if_icmp .ne 18, 3) := dX10_keepsRules_8_b.1
theorem dX10_keepsRules_11 : decode cX10_keepsRules 11 = .ok (.aload_n 0, 1) := dX10_keepsRules_8_b.2.1
theorem dX10_keepsRules_12 : decode cX10_keepsRules 12 = .ok (.aload_n 1, 1) := dX10_keepsRules_8_b.2.2.1
theorem dX10_keepsRules_13 : decode cX10_keepsRules 13 = .ok (.iconst 1, 1) := dX10_keepsRules_8_b.2.2.2.1
theorem dX10_keepsRules_14 : decode cX10_keepsRules 14 = .ok (.iload_n 2, 1) := dX10_keepsRules_8_b.2.2.2.2.1
theorem dX10_keepsRules_15 : decode cX10_keepsRules 15 = .ok (.invokevirtual 380, 3) := dX10_keepsRules_8_b.2.2.2.2.2
set_option maxRecDepth 20000 in
theorem dX10_keepsRules_18_b : (decode cX10_keepsRules 18 = .ok (.iconst (-1), 1)) ∧ (decode cX10_keepsRules 19 = .ok (.if_icmp .ne 7, 3)) ∧ (decode cX10_keepsRules 22 = .ok (.iconst 1, 1)) ∧ (decode cX10_keepsRules 23 = .ok (.goto 4, 3)) ∧ (decode cX10_keepsRules 26 = .ok (.iconst 0, 1)) ∧ (decode cX10_keepsRules 27 = .ok (.ireturn, 1)) := by decide +kernel
theorem dX10_keepsRules_18 : decode cX10_keepsRules 18 = .ok (.iconst (-1), 1) := dX10_keepsRules_18_b.1
theorem dX10_keepsRules_19 : decode cX10_keepsRules 19 = .ok (.if_icmp .ne 7, 3) := dX10_keepsRules_18_b.2.1
theorem dX10_keepsRules_22 : decode cX10_keepsRules 22 = .ok (.iconst 1, 1) := dX10_keepsRules_18_b.2.2.1
theorem dX10_keepsRules_23 : decode cX10_keepsRules 23 = .ok (.goto 4, 3) := dX10_keepsRules_18_b.2.2.2.1
theorem dX10_keepsRules_26 : decode cX10_keepsRules 26 = .ok (.iconst 0, 1) := dX10_keepsRules_18_b.2.2.2.2.1
theorem dX10_keepsRules_27 : decode cX10_keepsRules 27 = .ok (.ireturn, 1) := dX10_keepsRules_18_b.2.2.2.2.2
set_option maxRecDepth 20000 in
theorem dX10_swing_0_b : (decode cX10_swing 0 = .ok (.iload_n 1, 1)) ∧ (decode cX10_swing 1 = .ok (.iconst 2, 1)) ∧ (decode cX10_swing 2 = .ok (.if_icmp .ne 5, 3)) ∧ (decode cX10_swing 5 = .ok (.iconst 0, 1)) ∧ (decode cX10_swing 6 = .ok (.ireturn, 1)) ∧ (decode cX10_swing 7 = .ok (.aload_n 0, 1)) := by decide +kernel
theorem dX10_swing_0 : decode cX10_swing 0 = .ok (.iload_n 1, 1) := dX10_swing_0_b.1
theorem dX10_swing_1 : decode cX10_swing 1 = .ok (.iconst 2, 1) := dX10_swing_0_b.2.1
theorem dX10_swing_2 : decode cX10_swing 2 = .ok (.if_icmp .ne 5, 3) := dX10_swing_0_b.2.2.1
theorem dX10_swing_5 : decode cX10_swing 5 = .ok (.iconst 0, 1) := dX10_swing_0_b.2.2.2.1
theorem dX10_swing_6 : decode cX10_swing 6 = .ok (.ireturn, 1) := dX10_swing_0_b.2.2.2.2.1
theorem dX10_swing_7 : decode cX10_swing 7 = .ok (.aload_n 0, 1) := dX10_swing_0_b.2.2.2.2.2
set_option maxRecDepth 20000 in
theorem dX10_swing_8_b : (decode cX10_swing 8 = .ok (.getfield 384, 3)) ∧ (decode cX10_swing 11 = .ok (.aload_n 0, 1)) ∧ (decode cX10_swing 12 = .ok (.getfield 54, 3)) ∧ (decode cX10_swing 15 = .ok (.iconst 4, 1)) ∧ (decode cX10_swing 16 = .ok (.iaload, 1)) ∧ (decode cX10_swing 17 = .ok (.if_icmp .ge 8, 3)) := by decide +kernel
theorem dX10_swing_8 : decode cX10_swing 8 = .ok (.getfield 384, 3) := dX10_swing_8_b.1
theorem dX10_swing_11 : decode cX10_swing 11 = .ok (.aload_n 0, 1) := dX10_swing_8_b.2.1
theorem dX10_swing_12 : decode cX10_swing 12 = .ok (.getfield 54, 3) := dX10_swing_8_b.2.2.1
theorem dX10_swing_15 : decode cX10_swing 15 = .ok (.iconst 4, 1) := dX10_swing_8_b.2.2.2.1
theorem dX10_swing_16 : decode cX10_swing 16 = .ok (.iaload, 1) := dX10_swing_8_b.2.2.2.2.1
theorem dX10_swing_17 : decode cX10_swing 17 = .ok (.if_icmp .ge 8, 3) := dX10_swing_8_b.2.2.2.2.2
set_option maxRecDepth 20000 in
theorem dX10_swing_20_b : (decode cX10_swing 20 = .ok (.bipush 6, 2)) ∧ (decode cX10_swing 22 = .ok (.goto 39, 3)) ∧ (decode cX10_swing 25 = .ok (.aload_n 0, 1)) ∧ (decode cX10_swing 26 = .ok (.getfield 388, 3)) ∧ (decode cX10_swing 29 = .ok (.aload_n 0, 1)) ∧ (decode cX10_swing 30 = .ok (.getfield 54, 3)) := by decide +kernel
theorem dX10_swing_20 : decode cX10_swing 20 = .ok (.bipush 6, 2) := dX10_swing_20_b.1
theorem dX10_swing_22 : decode cX10_swing 22 = .ok (.goto 39, 3) := dX10_swing_20_b.2.1
theorem dX10_swing_25 : decode cX10_swing 25 = .ok (.aload_n 0, 1) := dX10_swing_20_b.2.2.1
theorem dX10_swing_26 : decode cX10_swing 26 = .ok (.getfield 388, 3) := dX10_swing_20_b.2.2.2.1
theorem dX10_swing_29 : decode cX10_swing 29 = .ok (.aload_n 0, 1) := dX10_swing_20_b.2.2.2.2.1
theorem dX10_swing_30 : decode cX10_swing 30 = .ok (.getfield 54, 3) := dX10_swing_20_b.2.2.2.2.2
set_option maxRecDepth 20000 in
theorem dX10_swing_33_b : (decode cX10_swing 33 = .ok (.iconst 5, 1)) ∧ (decode cX10_swing 34 = .ok (.iaload, 1)) ∧ (decode cX10_swing 35 = .ok (.iload_n 1, 1)) ∧ (decode cX10_swing 36 = .ok (.iconst 1, 1)) ∧ (decode cX10_swing 37 = .ok (.if_icmp .ne 13, 3)) ∧ (decode cX10_swing 40 = .ok (.aload_n 0, 1)) := by decide +kernel
theorem dX10_swing_33 : decode cX10_swing 33 = .ok (.iconst 5, 1) := dX10_swing_33_b.1
theorem dX10_swing_34 : decode cX10_swing 34 = .ok (.iaload, 1) := dX10_swing_33_b.2.1
theorem dX10_swing_35 : decode cX10_swing 35 = .ok (.iload_n 1, 1) := dX10_swing_33_b.2.2.1
theorem dX10_swing_36 : decode cX10_swing 36 = .ok (.iconst 1, 1) := dX10_swing_33_b.2.2.2.1
theorem dX10_swing_37 : decode cX10_swing 37 = .ok (.if_icmp .ne 13, 3) := dX10_swing_33_b.2.2.2.2.1
theorem dX10_swing_40 : decode cX10_swing 40 = .ok (.aload_n 0, 1) := dX10_swing_33_b.2.2.2.2.2
set_option maxRecDepth 20000 in
theorem dX10_swing_41_b : (decode cX10_swing 41 = .ok (.getfield 54, 3)) ∧ (decode cX10_swing 44 = .ok (.bipush 6, 2)) ∧ (decode cX10_swing 46 = .ok (.iaload, 1)) ∧ (decode cX10_swing 47 = .ok (.goto 4, 3)) ∧ (decode cX10_swing 50 = .ok (.iconst 0, 1)) ∧ (decode cX10_swing 51 = .ok (.iadd, 1)) := by decide +kernel
theorem dX10_swing_41 : decode cX10_swing 41 = .ok (.getfield 54, 3) := dX10_swing_41_b.1
theorem dX10_swing_44 : decode cX10_swing 44 = .ok (.bipush 6, 2) := dX10_swing_41_b.2.1
theorem dX10_swing_46 : decode cX10_swing 46 = .ok (.iaload, 1) := dX10_swing_41_b.2.2.1
theorem dX10_swing_47 : decode cX10_swing 47 = .ok (.goto 4, 3) := dX10_swing_41_b.2.2.2.1
theorem dX10_swing_50 : decode cX10_swing 50 = .ok (.iconst 0, 1) := dX10_swing_41_b.2.2.2.2.1
theorem dX10_swing_51 : decode cX10_swing 51 = .ok (.iadd, 1) := dX10_swing_41_b.2.2.2.2.2
set_option maxRecDepth 20000 in
theorem dX10_swing_52_b : (decode cX10_swing 52 = .ok (.if_icmp .le 8, 3)) ∧ (decode cX10_swing 55 = .ok (.bipush 7, 2)) ∧ (decode cX10_swing 57 = .ok (.goto 4, 3)) ∧ (decode cX10_swing 60 = .ok (.iconst 0, 1)) ∧ (decode cX10_swing 61 = .ok (.ireturn, 1)) := by decide +kernel
theorem dX10_swing_52 : decode cX10_swing 52 = .ok (.if_icmp .le 8, 3) := dX10_swing_52_b.1
theorem dX10_swing_55 : decode cX10_swing 55 = .ok (.bipush 7, 2) := dX10_swing_52_b.2.1
theorem dX10_swing_57 : decode cX10_swing 57 = .ok (.goto 4, 3) := dX10_swing_52_b.2.2.1
theorem dX10_swing_60 : decode cX10_swing 60 = .ok (.iconst 0, 1) := dX10_swing_52_b.2.2.2.1
theorem dX10_swing_61 : decode cX10_swing 61 = .ok (.ireturn, 1) := dX10_swing_52_b.2.2.2.2
set_option maxRecDepth 20000 in
theorem ggX10_rideTrouble_X10_depths : GoodIn wsX10_rideTrouble wsX10_depths := goodIn_r _ [8, 9, 80, 81, 82, 83, 84, 85, 86, 87, 88, 89, 90, 91, 92, 93, 94, 95, 96, 97, 98, 99, 100, 101, 102, 103, 104, 105, 106, 107, 108, 109, 110, 111, 112, 113, 114, 115, 116, 117, 118, 119, 120, 121, 122, 123, 124, 125, 126, 127, 128, 129, 130, 131, 132, 133, 134, 135, 136, 137, 138, 139, 140, 141, 142, 143, 144, 145, 146, 147, 148, 149, 150] (by decide +kernel) (by decide +kernel)
set_option maxRecDepth 20000 in
theorem gX10_rideTrouble_X10_depths : GoodIn wsX10_rideTrouble (wsV RX10 346 RX10 yX10_depths wsX10_depths) := goodIn_app (goodIn_of _ (by decide +kernel)) ggX10_rideTrouble_X10_depths
set_option maxRecDepth 20000 in
theorem ggX10_rideTrouble_X10_isIn : GoodIn wsX10_rideTrouble wsX10_isIn := goodIn_r _ [12] (by decide +kernel) (by decide +kernel)
set_option maxRecDepth 20000 in
theorem gX10_rideTrouble_X10_isIn : GoodIn wsX10_rideTrouble (va_wsS RX10 177 yX10_isIn wsX10_isIn) := goodIn_app (goodIn_of _ (by decide +kernel)) ggX10_rideTrouble_X10_isIn
set_option maxRecDepth 20000 in
theorem ggX10_rideTrouble_X10_keepsCap : GoodIn wsX10_rideTrouble wsX10_keepsCap := goodIn_r _ [16, 9, 17, 18, 19, 7, 20, 21, 22, 23, 24, 25, 80, 81, 82, 83, 84, 85, 86, 87, 88, 89, 90, 91, 92, 93, 94, 95, 96, 97, 98, 99, 100, 101, 102, 103, 104, 105, 106, 107, 108, 109, 110, 111, 112, 113, 114, 115, 116, 117, 118, 119, 120, 121, 122, 123, 124, 125, 126, 127, 128, 129, 130, 131, 132, 133, 134, 135, 136, 137, 138, 139, 140, 141, 142, 143, 144, 145, 146, 147, 148, 149, 150] (by decide +kernel) (by decide +kernel)
set_option maxRecDepth 20000 in
theorem gX10_rideTrouble_X10_keepsCap : GoodIn wsX10_rideTrouble (wsV RX10 397 RX10 yX10_keepsCap wsX10_keepsCap) := goodIn_app (goodIn_of _ (by decide +kernel)) ggX10_rideTrouble_X10_keepsCap
set_option maxRecDepth 20000 in
theorem ggX10_rideTrouble_X10_keepsRules : GoodIn wsX10_rideTrouble wsX10_keepsRules := goodIn_r _ [29, 30, 31, 32, 7, 33, 34, 35, 36, 37, 38, 39, 21, 40, 23, 24, 25, 17, 18, 19, 20, 22, 41, 42, 43, 44, 4, 5, 6, 8, 9, 45, 46, 47, 48, 49, 50, 51, 52, 53, 54, 55, 80, 81, 82, 83, 84, 85, 86, 87, 88, 89, 90, 91, 92, 93, 94, 95, 96, 97, 98, 99, 100, 101, 102, 103, 104, 105, 106, 107, 108, 109, 110, 111, 112, 113, 114, 115, 116, 117, 118, 119, 120, 121, 122, 123, 124, 125, 126, 127, 128, 129, 130, 131, 132, 133, 134, 135, 136, 137, 138, 139, 140, 141, 142, 143, 144, 145, 146, 147, 148, 149, 150] (by decide +kernel) (by decide +kernel)
set_option maxRecDepth 20000 in
theorem gX10_rideTrouble_X10_keepsRules : GoodIn wsX10_rideTrouble (wsV RX10 401 RX10 yX10_keepsRules wsX10_keepsRules) := goodIn_app (goodIn_of _ (by decide +kernel)) ggX10_rideTrouble_X10_keepsRules
set_option maxRecDepth 20000 in
theorem ggX10_rideTrouble_X10_tellRide : GoodIn wsX10_rideTrouble wsX10_tellRide := goodIn_r _ [59, 60, 61, 62, 63, 64, 65, 66, 67, 68, 69, 70, 71, 9, 72, 73, 74, 7, 75, 17, 18, 19, 20, 21, 22, 23, 24, 25, 41, 42, 43, 44, 4, 5, 6, 8, 80, 81, 82, 83, 84, 85, 86, 87, 88, 89, 90, 91, 92, 93, 94, 95, 96, 97, 98, 99, 100, 101, 102, 103, 104, 105, 106, 107, 108, 109, 110, 111, 112, 113, 114, 115, 116, 117, 118, 119, 120, 121, 122, 123, 124, 125, 126, 127, 128, 129, 130, 131, 132, 133, 134, 135, 136, 137, 138, 139, 140, 141, 142, 143, 144, 145, 146, 147, 148, 149, 150] (by decide +kernel) (by decide +kernel)
set_option maxRecDepth 20000 in
theorem gX10_rideTrouble_X10_tellRide : GoodIn wsX10_rideTrouble (wsV RX10 405 RX10 yX10_tellRide wsX10_tellRide) := goodIn_app (goodIn_of _ (by decide +kernel)) ggX10_rideTrouble_X10_tellRide
set_option maxRecDepth 20000 in
theorem ggX10_rideTrouble_X10_swing : GoodIn wsX10_rideTrouble wsX10_swing := goodIn_r _ [79, 61, 9, 63, 80, 81, 82, 83, 84, 85, 86, 87, 88, 89, 90, 91, 92, 93, 94, 95, 96, 97, 98, 99, 100, 101, 102, 103, 104, 105, 106, 107, 108, 109, 110, 111, 112, 113, 114, 115, 116, 117, 118, 119, 120, 121, 122, 123, 124, 125, 126, 127, 128, 129, 130, 131, 132, 133, 134, 135, 136, 137, 138, 139, 140, 141, 142, 143, 144, 145, 146, 147, 148, 149, 150] (by decide +kernel) (by decide +kernel)
set_option maxRecDepth 20000 in
theorem gX10_rideTrouble_X10_swing : GoodIn wsX10_rideTrouble (wsV RX10 409 RX10 yX10_swing wsX10_swing) := goodIn_app (goodIn_of _ (by decide +kernel)) ggX10_rideTrouble_X10_swing
set_option maxRecDepth 20000 in
theorem dX10_rideTrouble_0_b : (decode cX10_rideTrouble 0 = .ok (.iload_n 1, 1)) ∧ (decode cX10_rideTrouble 1 = .ok (.iconst 0, 1)) ∧ (decode cX10_rideTrouble 2 = .ok (.aload_n 0, 1)) ∧ (decode cX10_rideTrouble 3 = .ok (.invokevirtual 346, 3)) ∧ (decode cX10_rideTrouble 6 = .ok (.invokestatic 177, 3)) ∧ (decode cX10_rideTrouble 9 = .ok (.ifCond .eq 12, 3)) := by decide +kernel
theorem dX10_rideTrouble_0 : decode cX10_rideTrouble 0 = .ok (.iload_n 1, 1) := dX10_rideTrouble_0_b.1
theorem dX10_rideTrouble_1 : decode cX10_rideTrouble 1 = .ok (.iconst 0, 1) := dX10_rideTrouble_0_b.2.1
theorem dX10_rideTrouble_2 : decode cX10_rideTrouble 2 = .ok (.aload_n 0, 1) := dX10_rideTrouble_0_b.2.2.1
theorem dX10_rideTrouble_3 : decode cX10_rideTrouble 3 = .ok (.invokevirtual 346, 3) := dX10_rideTrouble_0_b.2.2.2.1
theorem dX10_rideTrouble_6 : decode cX10_rideTrouble 6 = .ok (.invokestatic 177, 3) := dX10_rideTrouble_0_b.2.2.2.2.1
theorem dX10_rideTrouble_9 : decode cX10_rideTrouble 9 = .ok (.ifCond .eq 12, 3) := dX10_rideTrouble_0_b.2.2.2.2.2
set_option maxRecDepth 20000 in
theorem dX10_rideTrouble_12_b : (decode cX10_rideTrouble 12 = .ok (.iload_n 2, 1)) ∧ (decode cX10_rideTrouble 13 = .ok (.iconst 0, 1)) ∧ (decode cX10_rideTrouble 14 = .ok (.iconst 2, 1)) ∧ (decode cX10_rideTrouble 15 = .ok (.invokestatic 177, 3)) ∧ (decode cX10_rideTrouble 18 = .ok (.ifCond .ne 5, 3)) ∧ (decode cX10_rideTrouble 21 = .ok (.iconst 1, 1)) := by decide +kernel
theorem dX10_rideTrouble_12 : decode cX10_rideTrouble 12 = .ok (.iload_n 2, 1) := dX10_rideTrouble_12_b.1
theorem dX10_rideTrouble_13 : decode cX10_rideTrouble 13 = .ok (.iconst 0, 1) := dX10_rideTrouble_12_b.2.1
theorem dX10_rideTrouble_14 : decode cX10_rideTrouble 14 = .ok (.iconst 2, 1) := dX10_rideTrouble_12_b.2.2.1
theorem dX10_rideTrouble_15 : decode cX10_rideTrouble 15 = .ok (.invokestatic 177, 3) := dX10_rideTrouble_12_b.2.2.2.1
theorem dX10_rideTrouble_18 : decode cX10_rideTrouble 18 = .ok (.ifCond .ne 5, 3) := dX10_rideTrouble_12_b.2.2.2.2.1
theorem dX10_rideTrouble_21 : decode cX10_rideTrouble 21 = .ok (.iconst 1, 1) := dX10_rideTrouble_12_b.2.2.2.2.2
set_option maxRecDepth 20000 in
theorem dX10_rideTrouble_22_b : (decode cX10_rideTrouble 22 = .ok (.ireturn, 1)) ∧ (decode cX10_rideTrouble 23 = .ok (.iload_n 1, 1)) ∧ (decode cX10_rideTrouble 24 = .ok (.aload_n 0, 1)) ∧ (decode cX10_rideTrouble 25 = .ok (.getfield 327, 3)) ∧ (decode cX10_rideTrouble 28 = .ok (.if_icmp .ne 5, 3)) ∧ (decode cX10_rideTrouble 31 = .ok (.iconst 3, 1)) := by decide +kernel
theorem dX10_rideTrouble_22 : decode cX10_rideTrouble 22 = .ok (.ireturn, 1) := dX10_rideTrouble_22_b.1
theorem dX10_rideTrouble_23 : decode cX10_rideTrouble 23 = .ok (.iload_n 1, 1) := dX10_rideTrouble_22_b.2.1
theorem dX10_rideTrouble_24 : decode cX10_rideTrouble 24 = .ok (.aload_n 0, 1) := dX10_rideTrouble_22_b.2.2.1
theorem dX10_rideTrouble_25 : decode cX10_rideTrouble 25 = .ok (.getfield 327, 3) := dX10_rideTrouble_22_b.2.2.2.1
theorem dX10_rideTrouble_28 : decode cX10_rideTrouble 28 = .ok (.if_icmp .ne 5, 3) := dX10_rideTrouble_22_b.2.2.2.2.1
theorem dX10_rideTrouble_31 : decode cX10_rideTrouble 31 = .ok (.iconst 3, 1) := dX10_rideTrouble_22_b.2.2.2.2.2
set_option maxRecDepth 20000 in
theorem dX10_rideTrouble_32_b : (decode cX10_rideTrouble 32 = .ok (.ireturn, 1)) ∧ (decode cX10_rideTrouble 33 = .ok (.aload_n 0, 1)) ∧ (decode cX10_rideTrouble 34 = .ok (.aload_n 0, 1)) ∧ (decode cX10_rideTrouble 35 = .ok (.getfield 87, 3)) ∧ (decode cX10_rideTrouble 38 = .ok (.invokevirtual 397, 3)) ∧ (decode cX10_rideTrouble 41 = .ok (.ifCond .ne 5, 3)) := by decide +kernel
theorem dX10_rideTrouble_32 : decode cX10_rideTrouble 32 = .ok (.ireturn, 1) := dX10_rideTrouble_32_b.1
theorem dX10_rideTrouble_33 : decode cX10_rideTrouble 33 = .ok (.aload_n 0, 1) := dX10_rideTrouble_32_b.2.1
theorem dX10_rideTrouble_34 : decode cX10_rideTrouble 34 = .ok (.aload_n 0, 1) := dX10_rideTrouble_32_b.2.2.1
theorem dX10_rideTrouble_35 : decode cX10_rideTrouble 35 = .ok (.getfield 87, 3) := dX10_rideTrouble_32_b.2.2.2.1
theorem dX10_rideTrouble_38 : decode cX10_rideTrouble 38 = .ok (.invokevirtual 397, 3) := dX10_rideTrouble_32_b.2.2.2.2.1
theorem dX10_rideTrouble_41 : decode cX10_rideTrouble 41 = .ok (.ifCond .ne 5, 3) := dX10_rideTrouble_32_b.2.2.2.2.2
set_option maxRecDepth 20000 in
theorem dX10_rideTrouble_44_b : (decode cX10_rideTrouble 44 = .ok (.iconst 4, 1)) ∧ (decode cX10_rideTrouble 45 = .ok (.ireturn, 1)) ∧ (decode cX10_rideTrouble 46 = .ok (.aload_n 0, 1)) ∧ (decode cX10_rideTrouble 47 = .ok (.aload_n 0, 1)) ∧ (decode cX10_rideTrouble 48 = .ok (.getfield 87, 3)) ∧ (decode cX10_rideTrouble 51 = .ok (.aload_n 0, 1)) := by decide +kernel
theorem dX10_rideTrouble_44 : decode cX10_rideTrouble 44 = .ok (.iconst 4, 1) := dX10_rideTrouble_44_b.1
theorem dX10_rideTrouble_45 : decode cX10_rideTrouble 45 = .ok (.ireturn, 1) := dX10_rideTrouble_44_b.2.1
theorem dX10_rideTrouble_46 : decode cX10_rideTrouble 46 = .ok (.aload_n 0, 1) := dX10_rideTrouble_44_b.2.2.1
theorem dX10_rideTrouble_47 : decode cX10_rideTrouble 47 = .ok (.aload_n 0, 1) := dX10_rideTrouble_44_b.2.2.2.1
theorem dX10_rideTrouble_48 : decode cX10_rideTrouble 48 = .ok (.getfield 87, 3) := dX10_rideTrouble_44_b.2.2.2.2.1
theorem dX10_rideTrouble_51 : decode cX10_rideTrouble 51 = .ok (.aload_n 0, 1) := dX10_rideTrouble_44_b.2.2.2.2.2
set_option maxRecDepth 20000 in
theorem dX10_rideTrouble_52_b : (decode cX10_rideTrouble 52 = .ok (.getfield 327, 3)) ∧ (decode cX10_rideTrouble 55 = .ok (.invokevirtual 401, 3)) ∧ (decode cX10_rideTrouble 58 = .ok (.ifCond .ne 5, 3)) ∧ (decode cX10_rideTrouble 61 = .ok (.iconst 5, 1)) ∧ (decode cX10_rideTrouble 62 = .ok (.ireturn, 1)) ∧ (decode cX10_rideTrouble 63 = .ok (.aload_n 0, 1)) := by decide +kernel
theorem dX10_rideTrouble_52 : decode cX10_rideTrouble 52 = .ok (.getfield 327, 3) := dX10_rideTrouble_52_b.1
theorem dX10_rideTrouble_55 : decode cX10_rideTrouble 55 = .ok (.invokevirtual 401, 3) := dX10_rideTrouble_52_b.2.1
theorem dX10_rideTrouble_58 : decode cX10_rideTrouble 58 = .ok (.ifCond .ne 5, 3) := dX10_rideTrouble_52_b.2.2.1
theorem dX10_rideTrouble_61 : decode cX10_rideTrouble 61 = .ok (.iconst 5, 1) := dX10_rideTrouble_52_b.2.2.2.1
theorem dX10_rideTrouble_62 : decode cX10_rideTrouble 62 = .ok (.ireturn, 1) := dX10_rideTrouble_52_b.2.2.2.2.1
theorem dX10_rideTrouble_63 : decode cX10_rideTrouble 63 = .ok (.aload_n 0, 1) := dX10_rideTrouble_52_b.2.2.2.2.2
set_option maxRecDepth 20000 in
theorem dX10_rideTrouble_64_b : (decode cX10_rideTrouble 64 = .ok (.aload_n 0, 1)) ∧ (decode cX10_rideTrouble 65 = .ok (.getfield 87, 3)) ∧ (decode cX10_rideTrouble 68 = .ok (.aload_n 0, 1)) ∧ (decode cX10_rideTrouble 69 = .ok (.getfield 327, 3)) ∧ (decode cX10_rideTrouble 72 = .ok (.iload_n 1, 1)) ∧ (decode cX10_rideTrouble 73 = .ok (.invokevirtual 405, 3)) := by decide +kernel
theorem dX10_rideTrouble_64 : decode cX10_rideTrouble 64 = .ok (.aload_n 0, 1) := dX10_rideTrouble_64_b.1
theorem dX10_rideTrouble_65 : decode cX10_rideTrouble 65 = .ok (.getfield 87, 3) := dX10_rideTrouble_64_b.2.1
theorem dX10_rideTrouble_68 : decode cX10_rideTrouble 68 = .ok (.aload_n 0, 1) := dX10_rideTrouble_64_b.2.2.1
theorem dX10_rideTrouble_69 : decode cX10_rideTrouble 69 = .ok (.getfield 327, 3) := dX10_rideTrouble_64_b.2.2.2.1
theorem dX10_rideTrouble_72 : decode cX10_rideTrouble 72 = .ok (.iload_n 1, 1) := dX10_rideTrouble_64_b.2.2.2.2.1
theorem dX10_rideTrouble_73 : decode cX10_rideTrouble 73 = .ok (.invokevirtual 405, 3) := dX10_rideTrouble_64_b.2.2.2.2.2
set_option maxRecDepth 20000 in
theorem dX10_rideTrouble_76_b : (decode cX10_rideTrouble 76 = .ok (.aload_n 0, 1)) ∧ (decode cX10_rideTrouble 77 = .ok (.iload_n 2, 1)) ∧ (decode cX10_rideTrouble 78 = .ok (.invokevirtual 409, 3)) ∧ (decode cX10_rideTrouble 81 = .ok (.istore_n 3, 1)) ∧ (decode cX10_rideTrouble 82 = .ok (.iload_n 3, 1)) ∧ (decode cX10_rideTrouble 83 = .ok (.ifCond .eq 7, 3)) := by decide +kernel
theorem dX10_rideTrouble_76 : decode cX10_rideTrouble 76 = .ok (.aload_n 0, 1) := dX10_rideTrouble_76_b.1
theorem dX10_rideTrouble_77 : decode cX10_rideTrouble 77 = .ok (.iload_n 2, 1) := dX10_rideTrouble_76_b.2.1
theorem dX10_rideTrouble_78 : decode cX10_rideTrouble 78 = .ok (.invokevirtual 409, 3) := dX10_rideTrouble_76_b.2.2.1
theorem dX10_rideTrouble_81 : decode cX10_rideTrouble 81 = .ok (.istore_n 3, 1) := dX10_rideTrouble_76_b.2.2.2.1
theorem dX10_rideTrouble_82 : decode cX10_rideTrouble 82 = .ok (.iload_n 3, 1) := dX10_rideTrouble_76_b.2.2.2.2.1
theorem dX10_rideTrouble_83 : decode cX10_rideTrouble 83 = .ok (.ifCond .eq 7, 3) := dX10_rideTrouble_76_b.2.2.2.2.2
set_option maxRecDepth 20000 in
theorem dX10_rideTrouble_86_b : (decode cX10_rideTrouble 86 = .ok (.iload_n 3, 1)) ∧ (decode cX10_rideTrouble 87 = .ok (.goto 18, 3)) ∧ (decode cX10_rideTrouble 90 = .ok (.aload_n 0, 1)) ∧ (decode cX10_rideTrouble 91 = .ok (.getfield 330, 3)) ∧ (decode cX10_rideTrouble 94 = .ok (.bipush 60, 2)) ∧ (decode cX10_rideTrouble 96 = .ok (.if_icmp .ne 8, 3)) := by decide +kernel
theorem dX10_rideTrouble_86 : decode cX10_rideTrouble 86 = .ok (.iload_n 3, 1) := dX10_rideTrouble_86_b.1
theorem dX10_rideTrouble_87 : decode cX10_rideTrouble 87 = .ok (.goto 18, 3) := dX10_rideTrouble_86_b.2.1
theorem dX10_rideTrouble_90 : decode cX10_rideTrouble 90 = .ok (.aload_n 0, 1) := dX10_rideTrouble_86_b.2.2.1
theorem dX10_rideTrouble_91 : decode cX10_rideTrouble 91 = .ok (.getfield 330, 3) := dX10_rideTrouble_86_b.2.2.2.1
theorem dX10_rideTrouble_94 : decode cX10_rideTrouble 94 = .ok (.bipush 60, 2) := dX10_rideTrouble_86_b.2.2.2.2.1
theorem dX10_rideTrouble_96 : decode cX10_rideTrouble 96 = .ok (.if_icmp .ne 8, 3) := dX10_rideTrouble_86_b.2.2.2.2.2
set_option maxRecDepth 20000 in
theorem dX10_rideTrouble_99_b : (decode cX10_rideTrouble 99 = .ok (.bipush 8, 2)) ∧ (decode cX10_rideTrouble 101 = .ok (.goto 4, 3)) ∧ (decode cX10_rideTrouble 104 = .ok (.iconst 0, 1)) ∧ (decode cX10_rideTrouble 105 = .ok (.ireturn, 1)) := by decide +kernel
theorem dX10_rideTrouble_99 : decode cX10_rideTrouble 99 = .ok (.bipush 8, 2) := dX10_rideTrouble_99_b.1
theorem dX10_rideTrouble_101 : decode cX10_rideTrouble 101 = .ok (.goto 4, 3) := dX10_rideTrouble_99_b.2.1
theorem dX10_rideTrouble_104 : decode cX10_rideTrouble 104 = .ok (.iconst 0, 1) := dX10_rideTrouble_99_b.2.2.1
theorem dX10_rideTrouble_105 : decode cX10_rideTrouble 105 = .ok (.ireturn, 1) := dX10_rideTrouble_99_b.2.2.2
set_option maxRecDepth 20000 in
theorem dX10_refuse_0_b : (decode cX10_refuse 0 = .ok (.aload_n 0, 1)) ∧ (decode cX10_refuse 1 = .ok (.getfield 77, 3)) ∧ (decode cX10_refuse 4 = .ok (.iconst 1, 1)) ∧ (decode cX10_refuse 5 = .ok (.dup2, 1)) ∧ (decode cX10_refuse 6 = .ok (.iaload, 1)) ∧ (decode cX10_refuse 7 = .ok (.iconst 1, 1)) := by decide +kernel
theorem dX10_refuse_0 : decode cX10_refuse 0 = .ok (.aload_n 0, 1) := dX10_refuse_0_b.1
theorem dX10_refuse_1 : decode cX10_refuse 1 = .ok (.getfield 77, 3) := dX10_refuse_0_b.2.1
theorem dX10_refuse_4 : decode cX10_refuse 4 = .ok (.iconst 1, 1) := dX10_refuse_0_b.2.2.1
theorem dX10_refuse_5 : decode cX10_refuse 5 = .ok (.dup2, 1) := dX10_refuse_0_b.2.2.2.1
theorem dX10_refuse_6 : decode cX10_refuse 6 = .ok (.iaload, 1) := dX10_refuse_0_b.2.2.2.2.1
theorem dX10_refuse_7 : decode cX10_refuse 7 = .ok (.iconst 1, 1) := dX10_refuse_0_b.2.2.2.2.2
set_option maxRecDepth 20000 in
theorem dX10_refuse_8_b : (decode cX10_refuse 8 = .ok (.iadd, 1)) ∧ (decode cX10_refuse 9 = .ok (.iastore, 1)) ∧ (decode cX10_refuse 10 = .ok (.iload_n 1, 1)) ∧ (decode cX10_refuse 11 = .ok (.ireturn, 1)) := by decide +kernel
theorem dX10_refuse_8 : decode cX10_refuse 8 = .ok (.iadd, 1) := dX10_refuse_8_b.1
theorem dX10_refuse_9 : decode cX10_refuse 9 = .ok (.iastore, 1) := dX10_refuse_8_b.2.1
theorem dX10_refuse_10 : decode cX10_refuse 10 = .ok (.iload_n 1, 1) := dX10_refuse_8_b.2.2.1
theorem dX10_refuse_11 : decode cX10_refuse 11 = .ok (.ireturn, 1) := dX10_refuse_8_b.2.2.2
set_option maxRecDepth 20000 in
theorem dX10_add_0_b : (decode cX10_add 0 = .ok (.aload_n 0, 1)) ∧ (decode cX10_add 1 = .ok (.getfield 93, 3)) ∧ (decode cX10_add 4 = .ok (.aload_n 0, 1)) ∧ (decode cX10_add 5 = .ok (.getfield 330, 3)) ∧ (decode cX10_add 8 = .ok (.iload_n 1, 1)) ∧ (decode cX10_add 9 = .ok (.iastore, 1)) := by decide +kernel
theorem dX10_add_0 : decode cX10_add 0 = .ok (.aload_n 0, 1) := dX10_add_0_b.1
theorem dX10_add_1 : decode cX10_add 1 = .ok (.getfield 93, 3) := dX10_add_0_b.2.1
theorem dX10_add_4 : decode cX10_add 4 = .ok (.aload_n 0, 1) := dX10_add_0_b.2.2.1
theorem dX10_add_5 : decode cX10_add 5 = .ok (.getfield 330, 3) := dX10_add_0_b.2.2.2.1
theorem dX10_add_8 : decode cX10_add 8 = .ok (.iload_n 1, 1) := dX10_add_0_b.2.2.2.2.1
theorem dX10_add_9 : decode cX10_add 9 = .ok (.iastore, 1) := dX10_add_0_b.2.2.2.2.2
set_option maxRecDepth 20000 in
theorem dX10_add_10_b : (decode cX10_add 10 = .ok (.aload_n 0, 1)) ∧ (decode cX10_add 11 = .ok (.getfield 96, 3)) ∧ (decode cX10_add 14 = .ok (.aload_n 0, 1)) ∧ (decode cX10_add 15 = .ok (.getfield 330, 3)) ∧ (decode cX10_add 18 = .ok (.iload_n 2, 1)) ∧ (decode cX10_add 19 = .ok (.iastore, 1)) := by decide +kernel
theorem dX10_add_10 : decode cX10_add 10 = .ok (.aload_n 0, 1) := dX10_add_10_b.1
theorem dX10_add_11 : decode cX10_add 11 = .ok (.getfield 96, 3) := dX10_add_10_b.2.1
theorem dX10_add_14 : decode cX10_add 14 = .ok (.aload_n 0, 1) := dX10_add_10_b.2.2.1
theorem dX10_add_15 : decode cX10_add 15 = .ok (.getfield 330, 3) := dX10_add_10_b.2.2.2.1
theorem dX10_add_18 : decode cX10_add 18 = .ok (.iload_n 2, 1) := dX10_add_10_b.2.2.2.2.1
theorem dX10_add_19 : decode cX10_add 19 = .ok (.iastore, 1) := dX10_add_10_b.2.2.2.2.2
set_option maxRecDepth 20000 in
theorem dX10_add_20_b : (decode cX10_add 20 = .ok (.aload_n 0, 1)) ∧ (decode cX10_add 21 = .ok (.getfield 99, 3)) ∧ (decode cX10_add 24 = .ok (.aload_n 0, 1)) ∧ (decode cX10_add 25 = .ok (.getfield 330, 3)) ∧ (decode cX10_add 28 = .ok (.iload_n 3, 1)) ∧ (decode cX10_add 29 = .ok (.iastore, 1)) := by decide +kernel
theorem dX10_add_20 : decode cX10_add 20 = .ok (.aload_n 0, 1) := dX10_add_20_b.1
theorem dX10_add_21 : decode cX10_add 21 = .ok (.getfield 99, 3) := dX10_add_20_b.2.1
theorem dX10_add_24 : decode cX10_add 24 = .ok (.aload_n 0, 1) := dX10_add_20_b.2.2.1
theorem dX10_add_25 : decode cX10_add 25 = .ok (.getfield 330, 3) := dX10_add_20_b.2.2.2.1
theorem dX10_add_28 : decode cX10_add 28 = .ok (.iload_n 3, 1) := dX10_add_20_b.2.2.2.2.1
theorem dX10_add_29 : decode cX10_add 29 = .ok (.iastore, 1) := dX10_add_20_b.2.2.2.2.2
set_option maxRecDepth 20000 in
theorem dX10_add_30_b : (decode cX10_add 30 = .ok (.aload_n 0, 1)) ∧ (decode cX10_add 31 = .ok (.getfield 102, 3)) ∧ (decode cX10_add 34 = .ok (.aload_n 0, 1)) ∧ (decode cX10_add 35 = .ok (.getfield 330, 3)) ∧ (decode cX10_add 38 = .ok (.iload 4, 2)) ∧ (decode cX10_add 40 = .ok (.iastore, 1)) := by decide +kernel
theorem dX10_add_30 : decode cX10_add 30 = .ok (.aload_n 0, 1) := dX10_add_30_b.1
theorem dX10_add_31 : decode cX10_add 31 = .ok (.getfield 102, 3) := dX10_add_30_b.2.1
theorem dX10_add_34 : decode cX10_add 34 = .ok (.aload_n 0, 1) := dX10_add_30_b.2.2.1
theorem dX10_add_35 : decode cX10_add 35 = .ok (.getfield 330, 3) := dX10_add_30_b.2.2.2.1
theorem dX10_add_38 : decode cX10_add 38 = .ok (.iload 4, 2) := dX10_add_30_b.2.2.2.2.1
theorem dX10_add_40 : decode cX10_add 40 = .ok (.iastore, 1) := dX10_add_30_b.2.2.2.2.2
set_option maxRecDepth 20000 in
theorem dX10_add_41_b : (decode cX10_add 41 = .ok (.aload_n 0, 1)) ∧ (decode cX10_add 42 = .ok (.getfield 105, 3)) ∧ (decode cX10_add 45 = .ok (.aload_n 0, 1)) ∧ (decode cX10_add 46 = .ok (.getfield 330, 3)) ∧ (decode cX10_add 49 = .ok (.iload 5, 2)) ∧ (decode cX10_add 51 = .ok (.iastore, 1)) := by decide +kernel
theorem dX10_add_41 : decode cX10_add 41 = .ok (.aload_n 0, 1) := dX10_add_41_b.1
theorem dX10_add_42 : decode cX10_add 42 = .ok (.getfield 105, 3) := dX10_add_41_b.2.1
theorem dX10_add_45 : decode cX10_add 45 = .ok (.aload_n 0, 1) := dX10_add_41_b.2.2.1
theorem dX10_add_46 : decode cX10_add 46 = .ok (.getfield 330, 3) := dX10_add_41_b.2.2.2.1
theorem dX10_add_49 : decode cX10_add 49 = .ok (.iload 5, 2) := dX10_add_41_b.2.2.2.2.1
theorem dX10_add_51 : decode cX10_add 51 = .ok (.iastore, 1) := dX10_add_41_b.2.2.2.2.2
set_option maxRecDepth 20000 in
theorem dX10_add_52_b : (decode cX10_add 52 = .ok (.aload_n 0, 1)) ∧ (decode cX10_add 53 = .ok (.dup, 1)) ∧ (decode cX10_add 54 = .ok (.getfield 330, 3)) ∧ (decode cX10_add 57 = .ok (.iconst 1, 1)) ∧ (decode cX10_add 58 = .ok (.iadd, 1)) ∧ (decode cX10_add 59 = .ok (.putfield 330, 3)) := by decide +kernel
theorem dX10_add_52 : decode cX10_add 52 = .ok (.aload_n 0, 1) := dX10_add_52_b.1
theorem dX10_add_53 : decode cX10_add 53 = .ok (.dup, 1) := dX10_add_52_b.2.1
theorem dX10_add_54 : decode cX10_add 54 = .ok (.getfield 330, 3) := dX10_add_52_b.2.2.1
theorem dX10_add_57 : decode cX10_add 57 = .ok (.iconst 1, 1) := dX10_add_52_b.2.2.2.1
theorem dX10_add_58 : decode cX10_add 58 = .ok (.iadd, 1) := dX10_add_52_b.2.2.2.2.1
theorem dX10_add_59 : decode cX10_add 59 = .ok (.putfield 330, 3) := dX10_add_52_b.2.2.2.2.2
set_option maxRecDepth 20000 in
theorem dX10_add_62_b : (decode cX10_add 62 = .ok (.aload_n 0, 1)) ∧ (decode cX10_add 63 = .ok (.dup, 1)) ∧ (decode cX10_add 64 = .ok (.getfield 333, 3)) ∧ (decode cX10_add 67 = .ok (.iload 5, 2)) ∧ (decode cX10_add 69 = .ok (.iadd, 1)) ∧ (decode cX10_add 70 = .ok (.putfield 333, 3)) := by decide +kernel
theorem dX10_add_62 : decode cX10_add 62 = .ok (.aload_n 0, 1) := dX10_add_62_b.1
theorem dX10_add_63 : decode cX10_add 63 = .ok (.dup, 1) := dX10_add_62_b.2.1
theorem dX10_add_64 : decode cX10_add 64 = .ok (.getfield 333, 3) := dX10_add_62_b.2.2.1
theorem dX10_add_67 : decode cX10_add 67 = .ok (.iload 5, 2) := dX10_add_62_b.2.2.2.1
theorem dX10_add_69 : decode cX10_add 69 = .ok (.iadd, 1) := dX10_add_62_b.2.2.2.2.1
theorem dX10_add_70 : decode cX10_add 70 = .ok (.putfield 333, 3) := dX10_add_62_b.2.2.2.2.2
theorem dX10_add_73 : decode cX10_add 73 = .ok (.return_, 1) := by decide +kernel
set_option maxRecDepth 20000 in
theorem ggX10_load_X10_isThing : GoodIn wsX10_load wsX10_isThing := goodIn_r _ [9, 10, 11, 12, 8, 13, 43, 44, 45, 46, 47, 48, 49, 50, 51, 52, 53, 54, 55, 56, 57, 58, 59, 60, 61, 62, 63, 64, 65, 66, 67, 68, 69, 70, 71, 72, 73, 74, 75, 76, 77, 78, 79, 80, 81, 82, 83, 84, 85, 86, 87, 88, 89, 90, 91, 92, 93, 94, 95, 96, 97, 98, 99, 100, 101, 102, 103, 104, 105, 106, 107, 108, 109, 110, 111, 112, 113] (by decide +kernel) (by decide +kernel)
set_option maxRecDepth 20000 in
theorem gX10_load_X10_isThing : GoodIn wsX10_load (wsV RX10 349 RX10 yX10_isThing wsX10_isThing) := goodIn_app (goodIn_of _ (by decide +kernel)) ggX10_load_X10_isThing
set_option maxRecDepth 20000 in
theorem ggX10_load_X10_isIn : GoodIn wsX10_load wsX10_isIn := goodIn_r _ [13] (by decide +kernel) (by decide +kernel)
set_option maxRecDepth 20000 in
theorem gX10_load_X10_isIn : GoodIn wsX10_load (va_wsS RX10 177 yX10_isIn wsX10_isIn) := goodIn_app (goodIn_of _ (by decide +kernel)) ggX10_load_X10_isIn
set_option maxRecDepth 20000 in
theorem ggX10_load_X10_refuse : GoodIn wsX10_load wsX10_refuse := goodIn_r _ [17, 18, 43, 44, 45, 46, 47, 48, 49, 50, 51, 52, 53, 54, 55, 56, 57, 58, 59, 60, 61, 62, 63, 64, 65, 66, 67, 68, 69, 70, 71, 72, 73, 74, 75, 76, 77, 78, 79, 80, 81, 82, 83, 84, 85, 86, 87, 88, 89, 90, 91, 92, 93, 94, 95, 96, 97, 98, 99, 100, 101, 102, 103, 104, 105, 106, 107, 108, 109, 110, 111, 112, 113] (by decide +kernel) (by decide +kernel)
set_option maxRecDepth 20000 in
theorem gX10_load_X10_refuse : GoodIn wsX10_load (wsV RX10 412 RX10 yX10_refuse wsX10_refuse) := goodIn_app (goodIn_of _ (by decide +kernel)) ggX10_load_X10_refuse
set_option maxRecDepth 20000 in
theorem ggX10_load_X10_isServed : GoodIn wsX10_load wsX10_isServed := goodIn_r _ [22, 23, 43, 44, 45, 46, 47, 48, 49, 50, 51, 52, 53, 54, 55, 56, 57, 58, 59, 60, 61, 62, 63, 64, 65, 66, 67, 68, 69, 70, 71, 72, 73, 74, 75, 76, 77, 78, 79, 80, 81, 82, 83, 84, 85, 86, 87, 88, 89, 90, 91, 92, 93, 94, 95, 96, 97, 98, 99, 100, 101, 102, 103, 104, 105, 106, 107, 108, 109, 110, 111, 112, 113] (by decide +kernel) (by decide +kernel)
set_option maxRecDepth 20000 in
theorem gX10_load_X10_isServed : GoodIn wsX10_load (wsV RX10 355 RX10 yX10_isServed wsX10_isServed) := goodIn_app (goodIn_of _ (by decide +kernel)) ggX10_load_X10_isServed
set_option maxRecDepth 20000 in
theorem ggX10_load_X10_depthOf : GoodIn wsX10_load wsX10_depthOf := goodIn_r _ [27, 28, 29, 30, 8, 31, 32, 43, 44, 45, 46, 47, 48, 49, 50, 51, 52, 53, 54, 55, 56, 57, 58, 59, 60, 61, 62, 63, 64, 65, 66, 67, 68, 69, 70, 71, 72, 73, 74, 75, 76, 77, 78, 79, 80, 81, 82, 83, 84, 85, 86, 87, 88, 89, 90, 91, 92, 93, 94, 95, 96, 97, 98, 99, 100, 101, 102, 103, 104, 105, 106, 107, 108, 109, 110, 111, 112, 113] (by decide +kernel) (by decide +kernel)
set_option maxRecDepth 20000 in
theorem gX10_load_X10_depthOf : GoodIn wsX10_load (wsV RX10 352 RX10 yX10_depthOf wsX10_depthOf) := goodIn_app (goodIn_of _ (by decide +kernel)) ggX10_load_X10_depthOf
set_option maxRecDepth 20000 in
theorem ggX10_load_X10_add : GoodIn wsX10_load wsX10_add := goodIn_r _ [36, 37, 4, 38, 39, 40, 41, 42, 43, 44, 45, 46, 47, 48, 49, 50, 51, 52, 53, 54, 55, 56, 57, 58, 59, 60, 61, 62, 63, 64, 65, 66, 67, 68, 69, 70, 71, 72, 73, 74, 75, 76, 77, 78, 79, 80, 81, 82, 83, 84, 85, 86, 87, 88, 89, 90, 91, 92, 93, 94, 95, 96, 97, 98, 99, 100, 101, 102, 103, 104, 105, 106, 107, 108, 109, 110, 111, 112, 113] (by decide +kernel) (by decide +kernel)
set_option maxRecDepth 20000 in
theorem gX10_load_X10_add : GoodIn wsX10_load (wsV RX10 415 RX10 yX10_add wsX10_add) := goodIn_app (goodIn_of _ (by decide +kernel)) ggX10_load_X10_add
set_option maxRecDepth 20000 in
theorem dX10_load_0_b : (decode cX10_load 0 = .ok (.aload_n 0, 1)) ∧ (decode cX10_load 1 = .ok (.iconst 0, 1)) ∧ (decode cX10_load 2 = .ok (.putfield 171, 3)) ∧ (decode cX10_load 5 = .ok (.aload_n 0, 1)) ∧ (decode cX10_load 6 = .ok (.iload_n 1, 1)) ∧ (decode cX10_load 7 = .ok (.invokevirtual 349, 3)) := by decide +kernel
theorem dX10_load_0 : decode cX10_load 0 = .ok (.aload_n 0, 1) := dX10_load_0_b.1
theorem dX10_load_1 : decode cX10_load 1 = .ok (.iconst 0, 1) := dX10_load_0_b.2.1
theorem dX10_load_2 : decode cX10_load 2 = .ok (.putfield 171, 3) := dX10_load_0_b.2.2.1
theorem dX10_load_5 : decode cX10_load 5 = .ok (.aload_n 0, 1) := dX10_load_0_b.2.2.2.1
theorem dX10_load_6 : decode cX10_load 6 = .ok (.iload_n 1, 1) := dX10_load_0_b.2.2.2.2.1
theorem dX10_load_7 : decode cX10_load 7 = .ok (.invokevirtual 349, 3) := dX10_load_0_b.2.2.2.2.2
set_option maxRecDepth 20000 in
theorem dX10_load_10_b : (decode cX10_load 10 = .ok (.ifCond .eq 12, 3)) ∧ (decode cX10_load 13 = .ok (.iload_n 2, 1)) ∧ (decode cX10_load 14 = .ok (.iconst 0, 1)) ∧ (decode cX10_load 15 = .ok (.iconst 1, 1)) ∧ (decode cX10_load 16 = .ok (.invokestatic 177, 3)) ∧ (decode cX10_load 19 = .ok (.ifCond .ne 9, 3)) := by decide +kernel
theorem dX10_load_10 : decode cX10_load 10 = .ok (.ifCond .eq 12, 3) := dX10_load_10_b.1
theorem dX10_load_13 : decode cX10_load 13 = .ok (.iload_n 2, 1) := dX10_load_10_b.2.1
theorem dX10_load_14 : decode cX10_load 14 = .ok (.iconst 0, 1) := dX10_load_10_b.2.2.1
theorem dX10_load_15 : decode cX10_load 15 = .ok (.iconst 1, 1) := dX10_load_10_b.2.2.2.1
theorem dX10_load_16 : decode cX10_load 16 = .ok (.invokestatic 177, 3) := dX10_load_10_b.2.2.2.2.1
theorem dX10_load_19 : decode cX10_load 19 = .ok (.ifCond .ne 9, 3) := dX10_load_10_b.2.2.2.2.2
set_option maxRecDepth 20000 in
theorem dX10_load_22_b : (decode cX10_load 22 = .ok (.aload_n 0, 1)) ∧ (decode cX10_load 23 = .ok (.iconst 1, 1)) ∧ (decode cX10_load 24 = .ok (.invokevirtual 412, 3)) ∧ (decode cX10_load 27 = .ok (.ireturn, 1)) ∧ (decode cX10_load 28 = .ok (.aload_n 0, 1)) ∧ (decode cX10_load 29 = .ok (.getfield 87, 3)) := by decide +kernel
theorem dX10_load_22 : decode cX10_load 22 = .ok (.aload_n 0, 1) := dX10_load_22_b.1
theorem dX10_load_23 : decode cX10_load 23 = .ok (.iconst 1, 1) := dX10_load_22_b.2.1
theorem dX10_load_24 : decode cX10_load 24 = .ok (.invokevirtual 412, 3) := dX10_load_22_b.2.2.1
theorem dX10_load_27 : decode cX10_load 27 = .ok (.ireturn, 1) := dX10_load_22_b.2.2.2.1
theorem dX10_load_28 : decode cX10_load 28 = .ok (.aload_n 0, 1) := dX10_load_22_b.2.2.2.2.1
theorem dX10_load_29 : decode cX10_load 29 = .ok (.getfield 87, 3) := dX10_load_22_b.2.2.2.2.2
set_option maxRecDepth 20000 in
theorem dX10_load_32_b : (decode cX10_load 32 = .ok (.iload_n 1, 1)) ∧ (decode cX10_load 33 = .ok (.iaload, 1)) ∧ (decode cX10_load 34 = .ok (.istore_n 3, 1)) ∧ (decode cX10_load 35 = .ok (.iload_n 3, 1)) ∧ (decode cX10_load 36 = .ok (.bipush 12, 2)) ∧ (decode cX10_load 38 = .ok (.if_icmp .eq 18, 3)) := by decide +kernel
theorem dX10_load_32 : decode cX10_load 32 = .ok (.iload_n 1, 1) := dX10_load_32_b.1
theorem dX10_load_33 : decode cX10_load 33 = .ok (.iaload, 1) := dX10_load_32_b.2.1
theorem dX10_load_34 : decode cX10_load 34 = .ok (.istore_n 3, 1) := dX10_load_32_b.2.2.1
theorem dX10_load_35 : decode cX10_load 35 = .ok (.iload_n 3, 1) := dX10_load_32_b.2.2.2.1
theorem dX10_load_36 : decode cX10_load 36 = .ok (.bipush 12, 2) := dX10_load_32_b.2.2.2.2.1
theorem dX10_load_38 : decode cX10_load 38 = .ok (.if_icmp .eq 18, 3) := dX10_load_32_b.2.2.2.2.2
set_option maxRecDepth 20000 in
theorem dX10_load_41_b : (decode cX10_load 41 = .ok (.iload_n 3, 1)) ∧ (decode cX10_load 42 = .ok (.bipush 13, 2)) ∧ (decode cX10_load 44 = .ok (.if_icmp .eq 12, 3)) ∧ (decode cX10_load 47 = .ok (.aload_n 0, 1)) ∧ (decode cX10_load 48 = .ok (.iload_n 1, 1)) ∧ (decode cX10_load 49 = .ok (.iload_n 3, 1)) := by decide +kernel
theorem dX10_load_41 : decode cX10_load 41 = .ok (.iload_n 3, 1) := dX10_load_41_b.1
theorem dX10_load_42 : decode cX10_load 42 = .ok (.bipush 13, 2) := dX10_load_41_b.2.1
theorem dX10_load_44 : decode cX10_load 44 = .ok (.if_icmp .eq 12, 3) := dX10_load_41_b.2.2.1
theorem dX10_load_47 : decode cX10_load 47 = .ok (.aload_n 0, 1) := dX10_load_41_b.2.2.2.1
theorem dX10_load_48 : decode cX10_load 48 = .ok (.iload_n 1, 1) := dX10_load_41_b.2.2.2.2.1
theorem dX10_load_49 : decode cX10_load 49 = .ok (.iload_n 3, 1) := dX10_load_41_b.2.2.2.2.2
set_option maxRecDepth 20000 in
theorem dX10_load_50_b : (decode cX10_load 50 = .ok (.invokevirtual 355, 3)) ∧ (decode cX10_load 53 = .ok (.ifCond .eq 9, 3)) ∧ (decode cX10_load 56 = .ok (.aload_n 0, 1)) ∧ (decode cX10_load 57 = .ok (.iconst 2, 1)) ∧ (decode cX10_load 58 = .ok (.invokevirtual 412, 3)) ∧ (decode cX10_load 61 = .ok (.ireturn, 1)) := by decide +kernel
theorem dX10_load_50 : decode cX10_load 50 = .ok (.invokevirtual 355, 3) := dX10_load_50_b.1
theorem dX10_load_53 : decode cX10_load 53 = .ok (.ifCond .eq 9, 3) := dX10_load_50_b.2.1
theorem dX10_load_56 : decode cX10_load 56 = .ok (.aload_n 0, 1) := dX10_load_50_b.2.2.1
theorem dX10_load_57 : decode cX10_load 57 = .ok (.iconst 2, 1) := dX10_load_50_b.2.2.2.1
theorem dX10_load_58 : decode cX10_load 58 = .ok (.invokevirtual 412, 3) := dX10_load_50_b.2.2.2.2.1
theorem dX10_load_61 : decode cX10_load 61 = .ok (.ireturn, 1) := dX10_load_50_b.2.2.2.2.2
set_option maxRecDepth 20000 in
theorem dX10_load_62_b : (decode cX10_load 62 = .ok (.aload_n 0, 1)) ∧ (decode cX10_load 63 = .ok (.iload_n 2, 1)) ∧ (decode cX10_load 64 = .ok (.aload_n 0, 1)) ∧ (decode cX10_load 65 = .ok (.getfield 327, 3)) ∧ (decode cX10_load 68 = .ok (.invokevirtual 352, 3)) ∧ (decode cX10_load 71 = .ok (.iload_n 3, 1)) := by decide +kernel
theorem dX10_load_62 : decode cX10_load 62 = .ok (.aload_n 0, 1) := dX10_load_62_b.1
theorem dX10_load_63 : decode cX10_load 63 = .ok (.iload_n 2, 1) := dX10_load_62_b.2.1
theorem dX10_load_64 : decode cX10_load 64 = .ok (.aload_n 0, 1) := dX10_load_62_b.2.2.1
theorem dX10_load_65 : decode cX10_load 65 = .ok (.getfield 327, 3) := dX10_load_62_b.2.2.2.1
theorem dX10_load_68 : decode cX10_load 68 = .ok (.invokevirtual 352, 3) := dX10_load_62_b.2.2.2.2.1
theorem dX10_load_71 : decode cX10_load 71 = .ok (.iload_n 3, 1) := dX10_load_62_b.2.2.2.2.2
set_option maxRecDepth 20000 in
theorem dX10_load_72_b : (decode cX10_load 72 = .ok (.if_icmp .eq 9, 3)) ∧ (decode cX10_load 75 = .ok (.aload_n 0, 1)) ∧ (decode cX10_load 76 = .ok (.iconst 3, 1)) ∧ (decode cX10_load 77 = .ok (.invokevirtual 412, 3)) ∧ (decode cX10_load 80 = .ok (.ireturn, 1)) ∧ (decode cX10_load 81 = .ok (.aload_n 0, 1)) := by decide +kernel
theorem dX10_load_72 : decode cX10_load 72 = .ok (.if_icmp .eq 9, 3) := dX10_load_72_b.1
theorem dX10_load_75 : decode cX10_load 75 = .ok (.aload_n 0, 1) := dX10_load_72_b.2.1
theorem dX10_load_76 : decode cX10_load 76 = .ok (.iconst 3, 1) := dX10_load_72_b.2.2.1
theorem dX10_load_77 : decode cX10_load 77 = .ok (.invokevirtual 412, 3) := dX10_load_72_b.2.2.2.1
theorem dX10_load_80 : decode cX10_load 80 = .ok (.ireturn, 1) := dX10_load_72_b.2.2.2.2.1
theorem dX10_load_81 : decode cX10_load 81 = .ok (.aload_n 0, 1) := dX10_load_72_b.2.2.2.2.2
set_option maxRecDepth 20000 in
theorem dX10_load_82_b : (decode cX10_load 82 = .ok (.getfield 330, 3)) ∧ (decode cX10_load 85 = .ok (.bipush 60, 2)) ∧ (decode cX10_load 87 = .ok (.if_icmp .ne 10, 3)) ∧ (decode cX10_load 90 = .ok (.aload_n 0, 1)) ∧ (decode cX10_load 91 = .ok (.bipush 8, 2)) ∧ (decode cX10_load 93 = .ok (.invokevirtual 412, 3)) := by decide +kernel
theorem dX10_load_82 : decode cX10_load 82 = .ok (.getfield 330, 3) := dX10_load_82_b.1
theorem dX10_load_85 : decode cX10_load 85 = .ok (.bipush 60, 2) := dX10_load_82_b.2.1
theorem dX10_load_87 : decode cX10_load 87 = .ok (.if_icmp .ne 10, 3) := dX10_load_82_b.2.2.1
theorem dX10_load_90 : decode cX10_load 90 = .ok (.aload_n 0, 1) := dX10_load_82_b.2.2.2.1
theorem dX10_load_91 : decode cX10_load 91 = .ok (.bipush 8, 2) := dX10_load_82_b.2.2.2.2.1
theorem dX10_load_93 : decode cX10_load 93 = .ok (.invokevirtual 412, 3) := dX10_load_82_b.2.2.2.2.2
set_option maxRecDepth 20000 in
theorem dX10_load_96_b : (decode cX10_load 96 = .ok (.ireturn, 1)) ∧ (decode cX10_load 97 = .ok (.aload_n 0, 1)) ∧ (decode cX10_load 98 = .ok (.iconst 0, 1)) ∧ (decode cX10_load 99 = .ok (.iload_n 1, 1)) ∧ (decode cX10_load 100 = .ok (.iload_n 2, 1)) ∧ (decode cX10_load 101 = .ok (.iload_n 3, 1)) := by decide +kernel
theorem dX10_load_96 : decode cX10_load 96 = .ok (.ireturn, 1) := dX10_load_96_b.1
theorem dX10_load_97 : decode cX10_load 97 = .ok (.aload_n 0, 1) := dX10_load_96_b.2.1
theorem dX10_load_98 : decode cX10_load 98 = .ok (.iconst 0, 1) := dX10_load_96_b.2.2.1
theorem dX10_load_99 : decode cX10_load 99 = .ok (.iload_n 1, 1) := dX10_load_96_b.2.2.2.1
theorem dX10_load_100 : decode cX10_load 100 = .ok (.iload_n 2, 1) := dX10_load_96_b.2.2.2.2.1
theorem dX10_load_101 : decode cX10_load 101 = .ok (.iload_n 3, 1) := dX10_load_96_b.2.2.2.2.2
set_option maxRecDepth 20000 in
theorem dX10_load_102_b : (decode cX10_load 102 = .ok (.iconst 0, 1)) ∧ (decode cX10_load 103 = .ok (.invokevirtual 415, 3)) ∧ (decode cX10_load 106 = .ok (.aload_n 0, 1)) ∧ (decode cX10_load 107 = .ok (.getfield 87, 3)) ∧ (decode cX10_load 110 = .ok (.iload_n 1, 1)) ∧ (decode cX10_load 111 = .ok (.bipush 12, 2)) := by decide +kernel
theorem dX10_load_102 : decode cX10_load 102 = .ok (.iconst 0, 1) := dX10_load_102_b.1
theorem dX10_load_103 : decode cX10_load 103 = .ok (.invokevirtual 415, 3) := dX10_load_102_b.2.1
theorem dX10_load_106 : decode cX10_load 106 = .ok (.aload_n 0, 1) := dX10_load_102_b.2.2.1
theorem dX10_load_107 : decode cX10_load 107 = .ok (.getfield 87, 3) := dX10_load_102_b.2.2.2.1
theorem dX10_load_110 : decode cX10_load 110 = .ok (.iload_n 1, 1) := dX10_load_102_b.2.2.2.2.1
theorem dX10_load_111 : decode cX10_load 111 = .ok (.bipush 12, 2) := dX10_load_102_b.2.2.2.2.2
set_option maxRecDepth 20000 in
theorem dX10_load_113_b : (decode cX10_load 113 = .ok (.iload_n 2, 1)) ∧ (decode cX10_load 114 = .ok (.iadd, 1)) ∧ (decode cX10_load 115 = .ok (.iastore, 1)) ∧ (decode cX10_load 116 = .ok (.iconst 0, 1)) ∧ (decode cX10_load 117 = .ok (.ireturn, 1)) := by decide +kernel
theorem dX10_load_113 : decode cX10_load 113 = .ok (.iload_n 2, 1) := dX10_load_113_b.1
theorem dX10_load_114 : decode cX10_load 114 = .ok (.iadd, 1) := dX10_load_113_b.2.1
theorem dX10_load_115 : decode cX10_load 115 = .ok (.iastore, 1) := dX10_load_113_b.2.2.1
theorem dX10_load_116 : decode cX10_load 116 = .ok (.iconst 0, 1) := dX10_load_113_b.2.2.2.1
theorem dX10_load_117 : decode cX10_load 117 = .ok (.ireturn, 1) := dX10_load_113_b.2.2.2.2
set_option maxRecDepth 20000 in
theorem dX10_unloadedAt_0_b : (decode cX10_unloadedAt 0 = .ok (.aload_n 0, 1)) ∧ (decode cX10_unloadedAt 1 = .ok (.getfield 57, 3)) ∧ (decode cX10_unloadedAt 4 = .ok (.iload_n 1, 1)) ∧ (decode cX10_unloadedAt 5 = .ok (.iaload, 1)) ∧ (decode cX10_unloadedAt 6 = .ok (.iconst 3, 1)) ∧ (decode cX10_unloadedAt 7 = .ok (.if_icmp .ne 18, 3)) := by decide +kernel
theorem dX10_unloadedAt_0 : decode cX10_unloadedAt 0 = .ok (.aload_n 0, 1) := dX10_unloadedAt_0_b.1
theorem dX10_unloadedAt_1 : decode cX10_unloadedAt 1 = .ok (.getfield 57, 3) := dX10_unloadedAt_0_b.2.1
theorem dX10_unloadedAt_4 : decode cX10_unloadedAt 4 = .ok (.iload_n 1, 1) := dX10_unloadedAt_0_b.2.2.1
theorem dX10_unloadedAt_5 : decode cX10_unloadedAt 5 = .ok (.iaload, 1) := dX10_unloadedAt_0_b.2.2.2.1
theorem dX10_unloadedAt_6 : decode cX10_unloadedAt 6 = .ok (.iconst 3, 1) := dX10_unloadedAt_0_b.2.2.2.2.1
theorem dX10_unloadedAt_7 : decode cX10_unloadedAt 7 = .ok (.if_icmp .ne 18, 3) := dX10_unloadedAt_0_b.2.2.2.2.2
set_option maxRecDepth 20000 in
theorem dX10_unloadedAt_10_b : (decode cX10_unloadedAt 10 = .ok (.aload_n 0, 1)) ∧ (decode cX10_unloadedAt 11 = .ok (.getfield 65, 3)) ∧ (decode cX10_unloadedAt 14 = .ok (.iload_n 1, 1)) ∧ (decode cX10_unloadedAt 15 = .ok (.iaload, 1)) ∧ (decode cX10_unloadedAt 16 = .ok (.iload_n 2, 1)) ∧ (decode cX10_unloadedAt 17 = .ok (.if_icmp .ne 8, 3)) := by decide +kernel
theorem dX10_unloadedAt_10 : decode cX10_unloadedAt 10 = .ok (.aload_n 0, 1) := dX10_unloadedAt_10_b.1
theorem dX10_unloadedAt_11 : decode cX10_unloadedAt 11 = .ok (.getfield 65, 3) := dX10_unloadedAt_10_b.2.1
theorem dX10_unloadedAt_14 : decode cX10_unloadedAt 14 = .ok (.iload_n 1, 1) := dX10_unloadedAt_10_b.2.2.1
theorem dX10_unloadedAt_15 : decode cX10_unloadedAt 15 = .ok (.iaload, 1) := dX10_unloadedAt_10_b.2.2.2.1
theorem dX10_unloadedAt_16 : decode cX10_unloadedAt 16 = .ok (.iload_n 2, 1) := dX10_unloadedAt_10_b.2.2.2.2.1
theorem dX10_unloadedAt_17 : decode cX10_unloadedAt 17 = .ok (.if_icmp .ne 8, 3) := dX10_unloadedAt_10_b.2.2.2.2.2
set_option maxRecDepth 20000 in
theorem dX10_unloadedAt_20_b : (decode cX10_unloadedAt 20 = .ok (.bipush 14, 2)) ∧ (decode cX10_unloadedAt 22 = .ok (.goto 4, 3)) ∧ (decode cX10_unloadedAt 25 = .ok (.iload_n 2, 1)) ∧ (decode cX10_unloadedAt 26 = .ok (.ireturn, 1)) := by decide +kernel
theorem dX10_unloadedAt_20 : decode cX10_unloadedAt 20 = .ok (.bipush 14, 2) := dX10_unloadedAt_20_b.1
theorem dX10_unloadedAt_22 : decode cX10_unloadedAt 22 = .ok (.goto 4, 3) := dX10_unloadedAt_20_b.2.1
theorem dX10_unloadedAt_25 : decode cX10_unloadedAt 25 = .ok (.iload_n 2, 1) := dX10_unloadedAt_20_b.2.2.1
theorem dX10_unloadedAt_26 : decode cX10_unloadedAt 26 = .ok (.ireturn, 1) := dX10_unloadedAt_20_b.2.2.2
set_option maxRecDepth 20000 in
theorem ggX10_unload_X10_isThing : GoodIn wsX10_unload wsX10_isThing := goodIn_r _ [9, 10, 11, 12, 8, 13, 44, 45, 46, 47, 48, 49, 50, 51, 52, 53, 54, 55, 56, 57, 58, 59, 60, 61, 62, 63, 64, 65, 66, 67, 68, 69, 70, 71, 72, 73, 74, 75, 76, 77, 78, 79, 80, 81, 82, 83, 84, 85, 86, 87, 88, 89, 90, 91, 92, 93, 94, 95, 96, 97, 98, 99, 100, 101, 102, 103, 104, 105, 106, 107, 108, 109, 110, 111, 112, 113, 114] (by decide +kernel) (by decide +kernel)
set_option maxRecDepth 20000 in
theorem gX10_unload_X10_isThing : GoodIn wsX10_unload (wsV RX10 349 RX10 yX10_isThing wsX10_isThing) := goodIn_app (goodIn_of _ (by decide +kernel)) ggX10_unload_X10_isThing
set_option maxRecDepth 20000 in
theorem ggX10_unload_X10_refuse : GoodIn wsX10_unload wsX10_refuse := goodIn_r _ [17, 18, 44, 45, 46, 47, 48, 49, 50, 51, 52, 53, 54, 55, 56, 57, 58, 59, 60, 61, 62, 63, 64, 65, 66, 67, 68, 69, 70, 71, 72, 73, 74, 75, 76, 77, 78, 79, 80, 81, 82, 83, 84, 85, 86, 87, 88, 89, 90, 91, 92, 93, 94, 95, 96, 97, 98, 99, 100, 101, 102, 103, 104, 105, 106, 107, 108, 109, 110, 111, 112, 113, 114] (by decide +kernel) (by decide +kernel)
set_option maxRecDepth 20000 in
theorem gX10_unload_X10_refuse : GoodIn wsX10_unload (wsV RX10 412 RX10 yX10_refuse wsX10_refuse) := goodIn_app (goodIn_of _ (by decide +kernel)) ggX10_unload_X10_refuse
set_option maxRecDepth 20000 in
theorem ggX10_unload_X10_add : GoodIn wsX10_unload wsX10_add := goodIn_r _ [22, 23, 3, 24, 25, 26, 27, 28, 44, 45, 46, 47, 48, 49, 50, 51, 52, 53, 54, 55, 56, 57, 58, 59, 60, 61, 62, 63, 64, 65, 66, 67, 68, 69, 70, 71, 72, 73, 74, 75, 76, 77, 78, 79, 80, 81, 82, 83, 84, 85, 86, 87, 88, 89, 90, 91, 92, 93, 94, 95, 96, 97, 98, 99, 100, 101, 102, 103, 104, 105, 106, 107, 108, 109, 110, 111, 112, 113, 114] (by decide +kernel) (by decide +kernel)
set_option maxRecDepth 20000 in
theorem gX10_unload_X10_add : GoodIn wsX10_unload (wsV RX10 415 RX10 yX10_add wsX10_add) := goodIn_app (goodIn_of _ (by decide +kernel)) ggX10_unload_X10_add
set_option maxRecDepth 20000 in
theorem ggX10_unload_X10_depthOf : GoodIn wsX10_unload wsX10_depthOf := goodIn_r _ [32, 33, 34, 35, 8, 36, 37, 44, 45, 46, 47, 48, 49, 50, 51, 52, 53, 54, 55, 56, 57, 58, 59, 60, 61, 62, 63, 64, 65, 66, 67, 68, 69, 70, 71, 72, 73, 74, 75, 76, 77, 78, 79, 80, 81, 82, 83, 84, 85, 86, 87, 88, 89, 90, 91, 92, 93, 94, 95, 96, 97, 98, 99, 100, 101, 102, 103, 104, 105, 106, 107, 108, 109, 110, 111, 112, 113, 114] (by decide +kernel) (by decide +kernel)
set_option maxRecDepth 20000 in
theorem gX10_unload_X10_depthOf : GoodIn wsX10_unload (wsV RX10 352 RX10 yX10_depthOf wsX10_depthOf) := goodIn_app (goodIn_of _ (by decide +kernel)) ggX10_unload_X10_depthOf
set_option maxRecDepth 20000 in
theorem ggX10_unload_X10_unloadedAt : GoodIn wsX10_unload wsX10_unloadedAt := goodIn_r _ [41, 42, 43, 44, 45, 46, 47, 48, 49, 50, 51, 52, 53, 54, 55, 56, 57, 58, 59, 60, 61, 62, 63, 64, 65, 66, 67, 68, 69, 70, 71, 72, 73, 74, 75, 76, 77, 78, 79, 80, 81, 82, 83, 84, 85, 86, 87, 88, 89, 90, 91, 92, 93, 94, 95, 96, 97, 98, 99, 100, 101, 102, 103, 104, 105, 106, 107, 108, 109, 110, 111, 112, 113, 114] (by decide +kernel) (by decide +kernel)
set_option maxRecDepth 20000 in
theorem gX10_unload_X10_unloadedAt : GoodIn wsX10_unload (wsV RX10 419 RX10 yX10_unloadedAt wsX10_unloadedAt) := goodIn_app (goodIn_of _ (by decide +kernel)) ggX10_unload_X10_unloadedAt
set_option maxRecDepth 20000 in
theorem dX10_unload_0_b : (decode cX10_unload 0 = .ok (.aload_n 0, 1)) ∧ (decode cX10_unload 1 = .ok (.iconst 0, 1)) ∧ (decode cX10_unload 2 = .ok (.putfield 171, 3)) ∧ (decode cX10_unload 5 = .ok (.aload_n 0, 1)) ∧ (decode cX10_unload 6 = .ok (.iload_n 1, 1)) ∧ (decode cX10_unload 7 = .ok (.invokevirtual 349, 3)) := by decide +kernel
theorem dX10_unload_0 : decode cX10_unload 0 = .ok (.aload_n 0, 1) := dX10_unload_0_b.1
theorem dX10_unload_1 : decode cX10_unload 1 = .ok (.iconst 0, 1) := dX10_unload_0_b.2.1
theorem dX10_unload_2 : decode cX10_unload 2 = .ok (.putfield 171, 3) := dX10_unload_0_b.2.2.1
theorem dX10_unload_5 : decode cX10_unload 5 = .ok (.aload_n 0, 1) := dX10_unload_0_b.2.2.2.1
theorem dX10_unload_6 : decode cX10_unload 6 = .ok (.iload_n 1, 1) := dX10_unload_0_b.2.2.2.2.1
theorem dX10_unload_7 : decode cX10_unload 7 = .ok (.invokevirtual 349, 3) := dX10_unload_0_b.2.2.2.2.2
set_option maxRecDepth 20000 in
theorem dX10_unload_10_b : (decode cX10_unload 10 = .ok (.ifCond .ne 9, 3)) ∧ (decode cX10_unload 13 = .ok (.aload_n 0, 1)) ∧ (decode cX10_unload 14 = .ok (.iconst 1, 1)) ∧ (decode cX10_unload 15 = .ok (.invokevirtual 412, 3)) ∧ (decode cX10_unload 18 = .ok (.ireturn, 1)) ∧ (decode cX10_unload 19 = .ok (.aload_n 0, 1)) := by decide +kernel
theorem dX10_unload_10 : decode cX10_unload 10 = .ok (.ifCond .ne 9, 3) := dX10_unload_10_b.1
theorem dX10_unload_13 : decode cX10_unload 13 = .ok (.aload_n 0, 1) := dX10_unload_10_b.2.1
theorem dX10_unload_14 : decode cX10_unload 14 = .ok (.iconst 1, 1) := dX10_unload_10_b.2.2.1
theorem dX10_unload_15 : decode cX10_unload 15 = .ok (.invokevirtual 412, 3) := dX10_unload_10_b.2.2.2.1
theorem dX10_unload_18 : decode cX10_unload 18 = .ok (.ireturn, 1) := dX10_unload_10_b.2.2.2.2.1
theorem dX10_unload_19 : decode cX10_unload 19 = .ok (.aload_n 0, 1) := dX10_unload_10_b.2.2.2.2.2
set_option maxRecDepth 20000 in
theorem dX10_unload_20_b : (decode cX10_unload 20 = .ok (.getfield 87, 3)) ∧ (decode cX10_unload 23 = .ok (.iload_n 1, 1)) ∧ (decode cX10_unload 24 = .ok (.iaload, 1)) ∧ (decode cX10_unload 25 = .ok (.istore_n 2, 1)) ∧ (decode cX10_unload 26 = .ok (.iload_n 2, 1)) ∧ (decode cX10_unload 27 = .ok (.bipush 12, 2)) := by decide +kernel
theorem dX10_unload_20 : decode cX10_unload 20 = .ok (.getfield 87, 3) := dX10_unload_20_b.1
theorem dX10_unload_23 : decode cX10_unload 23 = .ok (.iload_n 1, 1) := dX10_unload_20_b.2.1
theorem dX10_unload_24 : decode cX10_unload 24 = .ok (.iaload, 1) := dX10_unload_20_b.2.2.1
theorem dX10_unload_25 : decode cX10_unload 25 = .ok (.istore_n 2, 1) := dX10_unload_20_b.2.2.2.1
theorem dX10_unload_26 : decode cX10_unload 26 = .ok (.iload_n 2, 1) := dX10_unload_20_b.2.2.2.2.1
theorem dX10_unload_27 : decode cX10_unload 27 = .ok (.bipush 12, 2) := dX10_unload_20_b.2.2.2.2.2
set_option maxRecDepth 20000 in
theorem dX10_unload_29_b : (decode cX10_unload 29 = .ok (.if_icmp .eq 15, 3)) ∧ (decode cX10_unload 32 = .ok (.iload_n 2, 1)) ∧ (decode cX10_unload 33 = .ok (.bipush 13, 2)) ∧ (decode cX10_unload 35 = .ok (.if_icmp .eq 9, 3)) ∧ (decode cX10_unload 38 = .ok (.aload_n 0, 1)) ∧ (decode cX10_unload 39 = .ok (.iconst 2, 1)) := by decide +kernel
theorem dX10_unload_29 : decode cX10_unload 29 = .ok (.if_icmp .eq 15, 3) := dX10_unload_29_b.1
theorem dX10_unload_32 : decode cX10_unload 32 = .ok (.iload_n 2, 1) := dX10_unload_29_b.2.1
theorem dX10_unload_33 : decode cX10_unload 33 = .ok (.bipush 13, 2) := dX10_unload_29_b.2.2.1
theorem dX10_unload_35 : decode cX10_unload 35 = .ok (.if_icmp .eq 9, 3) := dX10_unload_29_b.2.2.2.1
theorem dX10_unload_38 : decode cX10_unload 38 = .ok (.aload_n 0, 1) := dX10_unload_29_b.2.2.2.2.1
theorem dX10_unload_39 : decode cX10_unload 39 = .ok (.iconst 2, 1) := dX10_unload_29_b.2.2.2.2.2
set_option maxRecDepth 20000 in
theorem dX10_unload_40_b : (decode cX10_unload 40 = .ok (.invokevirtual 412, 3)) ∧ (decode cX10_unload 43 = .ok (.ireturn, 1)) ∧ (decode cX10_unload 44 = .ok (.aload_n 0, 1)) ∧ (decode cX10_unload 45 = .ok (.getfield 330, 3)) ∧ (decode cX10_unload 48 = .ok (.bipush 60, 2)) ∧ (decode cX10_unload 50 = .ok (.if_icmp .ne 10, 3)) := by decide +kernel
theorem dX10_unload_40 : decode cX10_unload 40 = .ok (.invokevirtual 412, 3) := dX10_unload_40_b.1
theorem dX10_unload_43 : decode cX10_unload 43 = .ok (.ireturn, 1) := dX10_unload_40_b.2.1
theorem dX10_unload_44 : decode cX10_unload 44 = .ok (.aload_n 0, 1) := dX10_unload_40_b.2.2.1
theorem dX10_unload_45 : decode cX10_unload 45 = .ok (.getfield 330, 3) := dX10_unload_40_b.2.2.2.1
theorem dX10_unload_48 : decode cX10_unload 48 = .ok (.bipush 60, 2) := dX10_unload_40_b.2.2.2.2.1
theorem dX10_unload_50 : decode cX10_unload 50 = .ok (.if_icmp .ne 10, 3) := dX10_unload_40_b.2.2.2.2.2
set_option maxRecDepth 20000 in
theorem dX10_unload_53_b : (decode cX10_unload 53 = .ok (.aload_n 0, 1)) ∧ (decode cX10_unload 54 = .ok (.bipush 8, 2)) ∧ (decode cX10_unload 56 = .ok (.invokevirtual 412, 3)) ∧ (decode cX10_unload 59 = .ok (.ireturn, 1)) ∧ (decode cX10_unload 60 = .ok (.aload_n 0, 1)) ∧ (decode cX10_unload 61 = .ok (.iconst 1, 1)) := by decide +kernel
theorem dX10_unload_53 : decode cX10_unload 53 = .ok (.aload_n 0, 1) := dX10_unload_53_b.1
theorem dX10_unload_54 : decode cX10_unload 54 = .ok (.bipush 8, 2) := dX10_unload_53_b.2.1
theorem dX10_unload_56 : decode cX10_unload 56 = .ok (.invokevirtual 412, 3) := dX10_unload_53_b.2.2.1
theorem dX10_unload_59 : decode cX10_unload 59 = .ok (.ireturn, 1) := dX10_unload_53_b.2.2.2.1
theorem dX10_unload_60 : decode cX10_unload 60 = .ok (.aload_n 0, 1) := dX10_unload_53_b.2.2.2.2.1
theorem dX10_unload_61 : decode cX10_unload 61 = .ok (.iconst 1, 1) := dX10_unload_53_b.2.2.2.2.2
set_option maxRecDepth 20000 in
theorem dX10_unload_62_b : (decode cX10_unload 62 = .ok (.iload_n 1, 1)) ∧ (decode cX10_unload 63 = .ok (.iconst 0, 1)) ∧ (decode cX10_unload 64 = .ok (.iload_n 2, 1)) ∧ (decode cX10_unload 65 = .ok (.iconst 0, 1)) ∧ (decode cX10_unload 66 = .ok (.invokevirtual 415, 3)) ∧ (decode cX10_unload 69 = .ok (.aload_n 0, 1)) := by decide +kernel
theorem dX10_unload_62 : decode cX10_unload 62 = .ok (.iload_n 1, 1) := dX10_unload_62_b.1
theorem dX10_unload_63 : decode cX10_unload 63 = .ok (.iconst 0, 1) := dX10_unload_62_b.2.1
theorem dX10_unload_64 : decode cX10_unload 64 = .ok (.iload_n 2, 1) := dX10_unload_62_b.2.2.1
theorem dX10_unload_65 : decode cX10_unload 65 = .ok (.iconst 0, 1) := dX10_unload_62_b.2.2.2.1
theorem dX10_unload_66 : decode cX10_unload 66 = .ok (.invokevirtual 415, 3) := dX10_unload_62_b.2.2.2.2.1
theorem dX10_unload_69 : decode cX10_unload 69 = .ok (.aload_n 0, 1) := dX10_unload_62_b.2.2.2.2.2
set_option maxRecDepth 20000 in
theorem dX10_unload_70_b : (decode cX10_unload 70 = .ok (.getfield 87, 3)) ∧ (decode cX10_unload 73 = .ok (.iload_n 1, 1)) ∧ (decode cX10_unload 74 = .ok (.aload_n 0, 1)) ∧ (decode cX10_unload 75 = .ok (.iload_n 1, 1)) ∧ (decode cX10_unload 76 = .ok (.aload_n 0, 1)) ∧ (decode cX10_unload 77 = .ok (.iload_n 2, 1)) := by decide +kernel
theorem dX10_unload_70 : decode cX10_unload 70 = .ok (.getfield 87, 3) := dX10_unload_70_b.1
theorem dX10_unload_73 : decode cX10_unload 73 = .ok (.iload_n 1, 1) := dX10_unload_70_b.2.1
theorem dX10_unload_74 : decode cX10_unload 74 = .ok (.aload_n 0, 1) := dX10_unload_70_b.2.2.1
theorem dX10_unload_75 : decode cX10_unload 75 = .ok (.iload_n 1, 1) := dX10_unload_70_b.2.2.2.1
theorem dX10_unload_76 : decode cX10_unload 76 = .ok (.aload_n 0, 1) := dX10_unload_70_b.2.2.2.2.1
theorem dX10_unload_77 : decode cX10_unload 77 = .ok (.iload_n 2, 1) := dX10_unload_70_b.2.2.2.2.2
set_option maxRecDepth 20000 in
theorem dX10_unload_78_b : (decode cX10_unload 78 = .ok (.bipush 12, 2)) ∧ (decode cX10_unload 80 = .ok (.isub, 1)) ∧ (decode cX10_unload 81 = .ok (.aload_n 0, 1)) ∧ (decode cX10_unload 82 = .ok (.getfield 327, 3)) ∧ (decode cX10_unload 85 = .ok (.invokevirtual 352, 3)) ∧ (decode cX10_unload 88 = .ok (.invokevirtual 419, 3)) := by decide +kernel
theorem dX10_unload_78 : decode cX10_unload 78 = .ok (.bipush 12, 2) := dX10_unload_78_b.1
theorem dX10_unload_80 : decode cX10_unload 80 = .ok (.isub, 1) := dX10_unload_78_b.2.1
theorem dX10_unload_81 : decode cX10_unload 81 = .ok (.aload_n 0, 1) := dX10_unload_78_b.2.2.1
theorem dX10_unload_82 : decode cX10_unload 82 = .ok (.getfield 327, 3) := dX10_unload_78_b.2.2.2.1
theorem dX10_unload_85 : decode cX10_unload 85 = .ok (.invokevirtual 352, 3) := dX10_unload_78_b.2.2.2.2.1
theorem dX10_unload_88 : decode cX10_unload 88 = .ok (.invokevirtual 419, 3) := dX10_unload_78_b.2.2.2.2.2
set_option maxRecDepth 20000 in
theorem dX10_unload_91_b : (decode cX10_unload 91 = .ok (.iastore, 1)) ∧ (decode cX10_unload 92 = .ok (.iconst 0, 1)) ∧ (decode cX10_unload 93 = .ok (.ireturn, 1)) := by decide +kernel
theorem dX10_unload_91 : decode cX10_unload 91 = .ok (.iastore, 1) := dX10_unload_91_b.1
theorem dX10_unload_92 : decode cX10_unload 92 = .ok (.iconst 0, 1) := dX10_unload_91_b.2.1
theorem dX10_unload_93 : decode cX10_unload 93 = .ok (.ireturn, 1) := dX10_unload_91_b.2.2
set_option maxRecDepth 20000 in
theorem ggX10_ride_X10_rideTrouble : GoodIn wsX10_ride wsX10_rideTrouble := goodIn_r _ [8, 2, 9, 10, 11, 12, 13, 7, 14, 15, 16, 17, 18, 19, 20, 21, 22, 23, 24, 25, 26, 27, 28, 29, 30, 31, 32, 33, 34, 35, 36, 37, 38, 39, 40, 41, 42, 43, 44, 45, 46, 47, 48, 49, 50, 51, 52, 53, 54, 55, 56, 57, 58, 59, 60, 61, 62, 63, 64, 65, 66, 67, 68, 69, 3, 70, 71, 72, 73, 74, 75, 76, 77, 78, 79, 80, 81, 82, 83, 84, 100, 101, 102, 103, 104, 105, 106, 107, 108, 109, 110, 111, 112, 113, 114, 115, 116, 117, 118, 119, 120, 121, 122, 123, 124, 125, 126, 127, 128, 129, 130, 131, 132, 133, 134, 135, 136, 137, 138, 139, 140, 141, 142, 143, 144, 145, 146, 147, 148, 149, 150, 151, 152, 153, 154, 155, 156, 157, 158, 159, 160, 161, 162, 163, 164, 165, 166, 167, 168, 169, 170] (by decide +kernel) (by decide +kernel)
set_option maxRecDepth 20000 in
theorem gX10_ride_X10_rideTrouble : GoodIn wsX10_ride (wsV RX10 422 RX10 yX10_rideTrouble wsX10_rideTrouble) := goodIn_app (goodIn_of _ (by decide +kernel)) ggX10_ride_X10_rideTrouble
set_option maxRecDepth 20000 in
theorem ggX10_ride_X10_refuse : GoodIn wsX10_ride wsX10_refuse := goodIn_r _ [88, 89, 100, 101, 102, 103, 104, 105, 106, 107, 108, 109, 110, 111, 112, 113, 114, 115, 116, 117, 118, 119, 120, 121, 122, 123, 124, 125, 126, 127, 128, 129, 130, 131, 132, 133, 134, 135, 136, 137, 138, 139, 140, 141, 142, 143, 144, 145, 146, 147, 148, 149, 150, 151, 152, 153, 154, 155, 156, 157, 158, 159, 160, 161, 162, 163, 164, 165, 166, 167, 168, 169, 170] (by decide +kernel) (by decide +kernel)
set_option maxRecDepth 20000 in
theorem gX10_ride_X10_refuse : GoodIn wsX10_ride (wsV RX10 412 RX10 yX10_refuse wsX10_refuse) := goodIn_app (goodIn_of _ (by decide +kernel)) ggX10_ride_X10_refuse
set_option maxRecDepth 20000 in
theorem ggX10_ride_X10_add : GoodIn wsX10_ride wsX10_add := goodIn_r _ [93, 94, 10, 95, 96, 97, 98, 99, 100, 101, 102, 103, 104, 105, 106, 107, 108, 109, 110, 111, 112, 113, 114, 115, 116, 117, 118, 119, 120, 121, 122, 123, 124, 125, 126, 127, 128, 129, 130, 131, 132, 133, 134, 135, 136, 137, 138, 139, 140, 141, 142, 143, 144, 145, 146, 147, 148, 149, 150, 151, 152, 153, 154, 155, 156, 157, 158, 159, 160, 161, 162, 163, 164, 165, 166, 167, 168, 169, 170] (by decide +kernel) (by decide +kernel)
set_option maxRecDepth 20000 in
theorem gX10_ride_X10_add : GoodIn wsX10_ride (wsV RX10 415 RX10 yX10_add wsX10_add) := goodIn_app (goodIn_of _ (by decide +kernel)) ggX10_ride_X10_add
set_option maxRecDepth 20000 in
theorem dX10_ride_0_b : (decode cX10_ride 0 = .ok (.aload_n 0, 1)) ∧ (decode cX10_ride 1 = .ok (.iconst 0, 1)) ∧ (decode cX10_ride 2 = .ok (.putfield 171, 3)) ∧ (decode cX10_ride 5 = .ok (.aload_n 0, 1)) ∧ (decode cX10_ride 6 = .ok (.iload_n 1, 1)) ∧ (decode cX10_ride 7 = .ok (.iload_n 2, 1)) := by decide +kernel
theorem dX10_ride_0 : decode cX10_ride 0 = .ok (.aload_n 0, 1) := dX10_ride_0_b.1
theorem dX10_ride_1 : decode cX10_ride 1 = .ok (.iconst 0, 1) := dX10_ride_0_b.2.1
theorem dX10_ride_2 : decode cX10_ride 2 = .ok (.putfield 171, 3) := dX10_ride_0_b.2.2.1
theorem dX10_ride_5 : decode cX10_ride 5 = .ok (.aload_n 0, 1) := dX10_ride_0_b.2.2.2.1
theorem dX10_ride_6 : decode cX10_ride 6 = .ok (.iload_n 1, 1) := dX10_ride_0_b.2.2.2.2.1
theorem dX10_ride_7 : decode cX10_ride 7 = .ok (.iload_n 2, 1) := dX10_ride_0_b.2.2.2.2.2
set_option maxRecDepth 20000 in
theorem dX10_ride_8_b : (decode cX10_ride 8 = .ok (.invokevirtual 422, 3)) ∧ (decode cX10_ride 11 = .ok (.istore_n 3, 1)) ∧ (decode cX10_ride 12 = .ok (.iload_n 3, 1)) ∧ (decode cX10_ride 13 = .ok (.ifCond .eq 9, 3)) ∧ (decode cX10_ride 16 = .ok (.aload_n 0, 1)) ∧ (decode cX10_ride 17 = .ok (.iload_n 3, 1)) := by decide +kernel
theorem dX10_ride_8 : decode cX10_ride 8 = .ok (.invokevirtual 422, 3) := dX10_ride_8_b.1
theorem dX10_ride_11 : decode cX10_ride 11 = .ok (.istore_n 3, 1) := dX10_ride_8_b.2.1
theorem dX10_ride_12 : decode cX10_ride 12 = .ok (.iload_n 3, 1) := dX10_ride_8_b.2.2.1
theorem dX10_ride_13 : decode cX10_ride 13 = .ok (.ifCond .eq 9, 3) := dX10_ride_8_b.2.2.2.1
theorem dX10_ride_16 : decode cX10_ride 16 = .ok (.aload_n 0, 1) := dX10_ride_8_b.2.2.2.2.1
theorem dX10_ride_17 : decode cX10_ride 17 = .ok (.iload_n 3, 1) := dX10_ride_8_b.2.2.2.2.2
set_option maxRecDepth 20000 in
theorem dX10_ride_18_b : (decode cX10_ride 18 = .ok (.invokevirtual 412, 3)) ∧ (decode cX10_ride 21 = .ok (.ireturn, 1)) ∧ (decode cX10_ride 22 = .ok (.aload_n 0, 1)) ∧ (decode cX10_ride 23 = .ok (.iconst 2, 1)) ∧ (decode cX10_ride 24 = .ok (.iload_n 1, 1)) ∧ (decode cX10_ride 25 = .ok (.iload_n 2, 1)) := by decide +kernel
theorem dX10_ride_18 : decode cX10_ride 18 = .ok (.invokevirtual 412, 3) := dX10_ride_18_b.1
theorem dX10_ride_21 : decode cX10_ride 21 = .ok (.ireturn, 1) := dX10_ride_18_b.2.1
theorem dX10_ride_22 : decode cX10_ride 22 = .ok (.aload_n 0, 1) := dX10_ride_18_b.2.2.1
theorem dX10_ride_23 : decode cX10_ride 23 = .ok (.iconst 2, 1) := dX10_ride_18_b.2.2.2.1
theorem dX10_ride_24 : decode cX10_ride 24 = .ok (.iload_n 1, 1) := dX10_ride_18_b.2.2.2.2.1
theorem dX10_ride_25 : decode cX10_ride 25 = .ok (.iload_n 2, 1) := dX10_ride_18_b.2.2.2.2.2
set_option maxRecDepth 20000 in
theorem dX10_ride_26_b : (decode cX10_ride 26 = .ok (.aload_n 0, 1)) ∧ (decode cX10_ride 27 = .ok (.getfield 327, 3)) ∧ (decode cX10_ride 30 = .ok (.iload_n 2, 1)) ∧ (decode cX10_ride 31 = .ok (.iconst 2, 1)) ∧ (decode cX10_ride 32 = .ok (.if_icmp .ne 10, 3)) ∧ (decode cX10_ride 35 = .ok (.aload_n 0, 1)) := by decide +kernel
theorem dX10_ride_26 : decode cX10_ride 26 = .ok (.aload_n 0, 1) := dX10_ride_26_b.1
theorem dX10_ride_27 : decode cX10_ride 27 = .ok (.getfield 327, 3) := dX10_ride_26_b.2.1
theorem dX10_ride_30 : decode cX10_ride 30 = .ok (.iload_n 2, 1) := dX10_ride_26_b.2.2.1
theorem dX10_ride_31 : decode cX10_ride 31 = .ok (.iconst 2, 1) := dX10_ride_26_b.2.2.2.1
theorem dX10_ride_32 : decode cX10_ride 32 = .ok (.if_icmp .ne 10, 3) := dX10_ride_26_b.2.2.2.2.1
theorem dX10_ride_35 : decode cX10_ride 35 = .ok (.aload_n 0, 1) := dX10_ride_26_b.2.2.2.2.2
set_option maxRecDepth 20000 in
theorem dX10_ride_36_b : (decode cX10_ride 36 = .ok (.getfield 391, 3)) ∧ (decode cX10_ride 39 = .ok (.goto 4, 3)) ∧ (decode cX10_ride 42 = .ok (.iconst 0, 1)) ∧ (decode cX10_ride 43 = .ok (.invokevirtual 415, 3)) ∧ (decode cX10_ride 46 = .ok (.aload_n 0, 1)) ∧ (decode cX10_ride 47 = .ok (.iload_n 1, 1)) := by decide +kernel
theorem dX10_ride_36 : decode cX10_ride 36 = .ok (.getfield 391, 3) := dX10_ride_36_b.1
theorem dX10_ride_39 : decode cX10_ride 39 = .ok (.goto 4, 3) := dX10_ride_36_b.2.1
theorem dX10_ride_42 : decode cX10_ride 42 = .ok (.iconst 0, 1) := dX10_ride_36_b.2.2.1
theorem dX10_ride_43 : decode cX10_ride 43 = .ok (.invokevirtual 415, 3) := dX10_ride_36_b.2.2.2.1
theorem dX10_ride_46 : decode cX10_ride 46 = .ok (.aload_n 0, 1) := dX10_ride_36_b.2.2.2.2.1
theorem dX10_ride_47 : decode cX10_ride 47 = .ok (.iload_n 1, 1) := dX10_ride_36_b.2.2.2.2.2
set_option maxRecDepth 20000 in
theorem dX10_ride_48_b : (decode cX10_ride 48 = .ok (.putfield 327, 3)) ∧ (decode cX10_ride 51 = .ok (.iconst 0, 1)) ∧ (decode cX10_ride 52 = .ok (.ireturn, 1)) := by decide +kernel
theorem dX10_ride_48 : decode cX10_ride 48 = .ok (.putfield 327, 3) := dX10_ride_48_b.1
theorem dX10_ride_51 : decode cX10_ride 51 = .ok (.iconst 0, 1) := dX10_ride_48_b.2.1
theorem dX10_ride_52 : decode cX10_ride 52 = .ok (.ireturn, 1) := dX10_ride_48_b.2.2
set_option maxRecDepth 20000 in
theorem ggX10_winding_X10_depths : GoodIn wsX10_winding wsX10_depths := goodIn_r _ [9, 10, 46, 47, 48, 49, 50, 51, 52, 53, 54, 55, 56, 57, 58, 59, 60, 61, 62, 63, 64, 65, 66, 67, 68, 69, 70, 71, 72, 73, 74, 75, 76, 77, 78, 79, 80, 81, 82, 83, 84, 85, 86, 87, 88, 89, 90, 91, 92, 93, 94, 95, 96, 97, 98, 99, 100, 101, 102, 103, 104, 105, 106, 107, 108, 109, 110, 111, 112, 113, 114, 115, 116] (by decide +kernel) (by decide +kernel)
set_option maxRecDepth 20000 in
theorem gX10_winding_X10_depths : GoodIn wsX10_winding (wsV RX10 346 RX10 yX10_depths wsX10_depths) := goodIn_app (goodIn_of _ (by decide +kernel)) ggX10_winding_X10_depths
set_option maxRecDepth 20000 in
theorem ggX10_winding_X10_isIn : GoodIn wsX10_winding wsX10_isIn := goodIn_r _ [13] (by decide +kernel) (by decide +kernel)
set_option maxRecDepth 20000 in
theorem gX10_winding_X10_isIn : GoodIn wsX10_winding (va_wsS RX10 177 yX10_isIn wsX10_isIn) := goodIn_app (goodIn_of _ (by decide +kernel)) ggX10_winding_X10_isIn
set_option maxRecDepth 20000 in
theorem ggX10_winding_X10_tellRide : GoodIn wsX10_winding wsX10_tellRide := goodIn_r _ [17, 18, 19, 20, 21, 4, 22, 23, 24, 25, 26, 27, 28, 10, 29, 30, 31, 8, 32, 33, 34, 35, 36, 37, 38, 39, 40, 41, 42, 43, 44, 45, 5, 6, 7, 9, 46, 47, 48, 49, 50, 51, 52, 53, 54, 55, 56, 57, 58, 59, 60, 61, 62, 63, 64, 65, 66, 67, 68, 69, 70, 71, 72, 73, 74, 75, 76, 77, 78, 79, 80, 81, 82, 83, 84, 85, 86, 87, 88, 89, 90, 91, 92, 93, 94, 95, 96, 97, 98, 99, 100, 101, 102, 103, 104, 105, 106, 107, 108, 109, 110, 111, 112, 113, 114, 115, 116] (by decide +kernel) (by decide +kernel)
set_option maxRecDepth 20000 in
theorem gX10_winding_X10_tellRide : GoodIn wsX10_winding (wsV RX10 405 RX10 yX10_tellRide wsX10_tellRide) := goodIn_app (goodIn_of _ (by decide +kernel)) ggX10_winding_X10_tellRide
set_option maxRecDepth 20000 in
theorem dX10_winding_0_b : (decode cX10_winding 0 = .ok (.aload_n 0, 1)) ∧ (decode cX10_winding 1 = .ok (.iconst 0, 1)) ∧ (decode cX10_winding 2 = .ok (.putfield 171, 3)) ∧ (decode cX10_winding 5 = .ok (.iload_n 1, 1)) ∧ (decode cX10_winding 6 = .ok (.iconst 0, 1)) ∧ (decode cX10_winding 7 = .ok (.aload_n 0, 1)) := by decide +kernel
theorem dX10_winding_0 : decode cX10_winding 0 = .ok (.aload_n 0, 1) := dX10_winding_0_b.1
theorem dX10_winding_1 : decode cX10_winding 1 = .ok (.iconst 0, 1) := dX10_winding_0_b.2.1
theorem dX10_winding_2 : decode cX10_winding 2 = .ok (.putfield 171, 3) := dX10_winding_0_b.2.2.1
theorem dX10_winding_5 : decode cX10_winding 5 = .ok (.iload_n 1, 1) := dX10_winding_0_b.2.2.2.1
theorem dX10_winding_6 : decode cX10_winding 6 = .ok (.iconst 0, 1) := dX10_winding_0_b.2.2.2.2.1
theorem dX10_winding_7 : decode cX10_winding 7 = .ok (.aload_n 0, 1) := dX10_winding_0_b.2.2.2.2.2
set_option maxRecDepth 20000 in
theorem dX10_winding_8_b : (decode cX10_winding 8 = .ok (.invokevirtual 346, 3)) ∧ (decode cX10_winding 11 = .ok (.invokestatic 177, 3)) ∧ (decode cX10_winding 14 = .ok (.ifCond .eq 11, 3)) ∧ (decode cX10_winding 17 = .ok (.iload_n 1, 1)) ∧ (decode cX10_winding 18 = .ok (.aload_n 0, 1)) ∧ (decode cX10_winding 19 = .ok (.getfield 327, 3)) := by decide +kernel
theorem dX10_winding_8 : decode cX10_winding 8 = .ok (.invokevirtual 346, 3) := dX10_winding_8_b.1
theorem dX10_winding_11 : decode cX10_winding 11 = .ok (.invokestatic 177, 3) := dX10_winding_8_b.2.1
theorem dX10_winding_14 : decode cX10_winding 14 = .ok (.ifCond .eq 11, 3) := dX10_winding_8_b.2.2.1
theorem dX10_winding_17 : decode cX10_winding 17 = .ok (.iload_n 1, 1) := dX10_winding_8_b.2.2.2.1
theorem dX10_winding_18 : decode cX10_winding 18 = .ok (.aload_n 0, 1) := dX10_winding_8_b.2.2.2.2.1
theorem dX10_winding_19 : decode cX10_winding 19 = .ok (.getfield 327, 3) := dX10_winding_8_b.2.2.2.2.2
set_option maxRecDepth 20000 in
theorem dX10_winding_22_b : (decode cX10_winding 22 = .ok (.if_icmp .ne 5, 3)) ∧ (decode cX10_winding 25 = .ok (.iconst (-1), 1)) ∧ (decode cX10_winding 26 = .ok (.ireturn, 1)) ∧ (decode cX10_winding 27 = .ok (.aload_n 0, 1)) ∧ (decode cX10_winding 28 = .ok (.aload_n 0, 1)) ∧ (decode cX10_winding 29 = .ok (.getfield 87, 3)) := by decide +kernel
theorem dX10_winding_22 : decode cX10_winding 22 = .ok (.if_icmp .ne 5, 3) := dX10_winding_22_b.1
theorem dX10_winding_25 : decode cX10_winding 25 = .ok (.iconst (-1), 1) := dX10_winding_22_b.2.1
theorem dX10_winding_26 : decode cX10_winding 26 = .ok (.ireturn, 1) := dX10_winding_22_b.2.2.1
theorem dX10_winding_27 : decode cX10_winding 27 = .ok (.aload_n 0, 1) := dX10_winding_22_b.2.2.2.1
theorem dX10_winding_28 : decode cX10_winding 28 = .ok (.aload_n 0, 1) := dX10_winding_22_b.2.2.2.2.1
theorem dX10_winding_29 : decode cX10_winding 29 = .ok (.getfield 87, 3) := dX10_winding_22_b.2.2.2.2.2
set_option maxRecDepth 20000 in
theorem dX10_winding_32_b : (decode cX10_winding 32 = .ok (.aload_n 0, 1)) ∧ (decode cX10_winding 33 = .ok (.getfield 327, 3)) ∧ (decode cX10_winding 36 = .ok (.iload_n 1, 1)) ∧ (decode cX10_winding 37 = .ok (.invokevirtual 405, 3)) ∧ (decode cX10_winding 40 = .ok (.aload_n 0, 1)) ∧ (decode cX10_winding 41 = .ok (.getfield 391, 3)) := by decide +kernel
theorem dX10_winding_32 : decode cX10_winding 32 = .ok (.aload_n 0, 1) := dX10_winding_32_b.1
theorem dX10_winding_33 : decode cX10_winding 33 = .ok (.getfield 327, 3) := dX10_winding_32_b.2.1
theorem dX10_winding_36 : decode cX10_winding 36 = .ok (.iload_n 1, 1) := dX10_winding_32_b.2.2.1
theorem dX10_winding_37 : decode cX10_winding 37 = .ok (.invokevirtual 405, 3) := dX10_winding_32_b.2.2.2.1
theorem dX10_winding_40 : decode cX10_winding 40 = .ok (.aload_n 0, 1) := dX10_winding_32_b.2.2.2.2.1
theorem dX10_winding_41 : decode cX10_winding 41 = .ok (.getfield 391, 3) := dX10_winding_32_b.2.2.2.2.2
theorem dX10_winding_44 : decode cX10_winding 44 = .ok (.ireturn, 1) := by decide +kernel
set_option maxRecDepth 20000 in
theorem ggX10_may_X10_depths : GoodIn wsX10_may wsX10_depths := goodIn_r _ [8, 9, 80, 81, 82, 83, 84, 85, 86, 87, 88, 89, 90, 91, 92, 93, 94, 95, 96, 97, 98, 99, 100, 101, 102, 103, 104, 105, 106, 107, 108, 109, 110, 111, 112, 113, 114, 115, 116, 117, 118, 119, 120, 121, 122, 123, 124, 125, 126, 127, 128, 129, 130, 131, 132, 133, 134, 135, 136, 137, 138, 139, 140, 141, 142, 143, 144, 145, 146, 147, 148, 149, 150] (by decide +kernel) (by decide +kernel)
set_option maxRecDepth 20000 in
theorem gX10_may_X10_depths : GoodIn wsX10_may (wsV RX10 346 RX10 yX10_depths wsX10_depths) := goodIn_app (goodIn_of _ (by decide +kernel)) ggX10_may_X10_depths
set_option maxRecDepth 20000 in
theorem ggX10_may_X10_isIn : GoodIn wsX10_may wsX10_isIn := goodIn_r _ [12] (by decide +kernel) (by decide +kernel)
set_option maxRecDepth 20000 in
theorem gX10_may_X10_isIn : GoodIn wsX10_may (va_wsS RX10 177 yX10_isIn wsX10_isIn) := goodIn_app (goodIn_of _ (by decide +kernel)) ggX10_may_X10_isIn
set_option maxRecDepth 20000 in
theorem ggX10_may_X10_keepsCap : GoodIn wsX10_may wsX10_keepsCap := goodIn_r _ [16, 9, 17, 18, 19, 7, 20, 21, 22, 23, 24, 25, 80, 81, 82, 83, 84, 85, 86, 87, 88, 89, 90, 91, 92, 93, 94, 95, 96, 97, 98, 99, 100, 101, 102, 103, 104, 105, 106, 107, 108, 109, 110, 111, 112, 113, 114, 115, 116, 117, 118, 119, 120, 121, 122, 123, 124, 125, 126, 127, 128, 129, 130, 131, 132, 133, 134, 135, 136, 137, 138, 139, 140, 141, 142, 143, 144, 145, 146, 147, 148, 149, 150] (by decide +kernel) (by decide +kernel)
set_option maxRecDepth 20000 in
theorem gX10_may_X10_keepsCap : GoodIn wsX10_may (wsV RX10 397 RX10 yX10_keepsCap wsX10_keepsCap) := goodIn_app (goodIn_of _ (by decide +kernel)) ggX10_may_X10_keepsCap
set_option maxRecDepth 20000 in
theorem ggX10_may_X10_keepsRules : GoodIn wsX10_may wsX10_keepsRules := goodIn_r _ [29, 30, 31, 32, 7, 33, 34, 35, 36, 37, 38, 39, 21, 40, 23, 24, 25, 17, 18, 19, 20, 22, 41, 42, 43, 44, 4, 5, 6, 8, 9, 45, 46, 47, 48, 49, 50, 51, 52, 53, 54, 55, 80, 81, 82, 83, 84, 85, 86, 87, 88, 89, 90, 91, 92, 93, 94, 95, 96, 97, 98, 99, 100, 101, 102, 103, 104, 105, 106, 107, 108, 109, 110, 111, 112, 113, 114, 115, 116, 117, 118, 119, 120, 121, 122, 123, 124, 125, 126, 127, 128, 129, 130, 131, 132, 133, 134, 135, 136, 137, 138, 139, 140, 141, 142, 143, 144, 145, 146, 147, 148, 149, 150] (by decide +kernel) (by decide +kernel)
set_option maxRecDepth 20000 in
theorem gX10_may_X10_keepsRules : GoodIn wsX10_may (wsV RX10 401 RX10 yX10_keepsRules wsX10_keepsRules) := goodIn_app (goodIn_of _ (by decide +kernel)) ggX10_may_X10_keepsRules
set_option maxRecDepth 20000 in
theorem ggX10_may_X10_tellRide : GoodIn wsX10_may wsX10_tellRide := goodIn_r _ [59, 60, 61, 62, 63, 64, 65, 66, 67, 68, 69, 70, 71, 9, 72, 73, 74, 7, 75, 17, 18, 19, 20, 21, 22, 23, 24, 25, 41, 42, 43, 44, 4, 5, 6, 8, 80, 81, 82, 83, 84, 85, 86, 87, 88, 89, 90, 91, 92, 93, 94, 95, 96, 97, 98, 99, 100, 101, 102, 103, 104, 105, 106, 107, 108, 109, 110, 111, 112, 113, 114, 115, 116, 117, 118, 119, 120, 121, 122, 123, 124, 125, 126, 127, 128, 129, 130, 131, 132, 133, 134, 135, 136, 137, 138, 139, 140, 141, 142, 143, 144, 145, 146, 147, 148, 149, 150] (by decide +kernel) (by decide +kernel)
set_option maxRecDepth 20000 in
theorem gX10_may_X10_tellRide : GoodIn wsX10_may (wsV RX10 405 RX10 yX10_tellRide wsX10_tellRide) := goodIn_app (goodIn_of _ (by decide +kernel)) ggX10_may_X10_tellRide
set_option maxRecDepth 20000 in
theorem ggX10_may_X10_swing : GoodIn wsX10_may wsX10_swing := goodIn_r _ [79, 61, 9, 63, 80, 81, 82, 83, 84, 85, 86, 87, 88, 89, 90, 91, 92, 93, 94, 95, 96, 97, 98, 99, 100, 101, 102, 103, 104, 105, 106, 107, 108, 109, 110, 111, 112, 113, 114, 115, 116, 117, 118, 119, 120, 121, 122, 123, 124, 125, 126, 127, 128, 129, 130, 131, 132, 133, 134, 135, 136, 137, 138, 139, 140, 141, 142, 143, 144, 145, 146, 147, 148, 149, 150] (by decide +kernel) (by decide +kernel)
set_option maxRecDepth 20000 in
theorem gX10_may_X10_swing : GoodIn wsX10_may (wsV RX10 409 RX10 yX10_swing wsX10_swing) := goodIn_app (goodIn_of _ (by decide +kernel)) ggX10_may_X10_swing
set_option maxRecDepth 20000 in
theorem dX10_may_0_b : (decode cX10_may 0 = .ok (.aload_n 0, 1)) ∧ (decode cX10_may 1 = .ok (.iconst 0, 1)) ∧ (decode cX10_may 2 = .ok (.putfield 171, 3)) ∧ (decode cX10_may 5 = .ok (.iload_n 1, 1)) ∧ (decode cX10_may 6 = .ok (.iconst 0, 1)) ∧ (decode cX10_may 7 = .ok (.aload_n 0, 1)) := by decide +kernel
theorem dX10_may_0 : decode cX10_may 0 = .ok (.aload_n 0, 1) := dX10_may_0_b.1
theorem dX10_may_1 : decode cX10_may 1 = .ok (.iconst 0, 1) := dX10_may_0_b.2.1
theorem dX10_may_2 : decode cX10_may 2 = .ok (.putfield 171, 3) := dX10_may_0_b.2.2.1
theorem dX10_may_5 : decode cX10_may 5 = .ok (.iload_n 1, 1) := dX10_may_0_b.2.2.2.1
theorem dX10_may_6 : decode cX10_may 6 = .ok (.iconst 0, 1) := dX10_may_0_b.2.2.2.2.1
theorem dX10_may_7 : decode cX10_may 7 = .ok (.aload_n 0, 1) := dX10_may_0_b.2.2.2.2.2
set_option maxRecDepth 20000 in
theorem dX10_may_8_b : (decode cX10_may 8 = .ok (.invokevirtual 346, 3)) ∧ (decode cX10_may 11 = .ok (.invokestatic 177, 3)) ∧ (decode cX10_may 14 = .ok (.ifCond .eq 37, 3)) ∧ (decode cX10_may 17 = .ok (.iload_n 1, 1)) ∧ (decode cX10_may 18 = .ok (.aload_n 0, 1)) ∧ (decode cX10_may 19 = .ok (.getfield 327, 3)) := by decide +kernel
theorem dX10_may_8 : decode cX10_may 8 = .ok (.invokevirtual 346, 3) := dX10_may_8_b.1
theorem dX10_may_11 : decode cX10_may 11 = .ok (.invokestatic 177, 3) := dX10_may_8_b.2.1
theorem dX10_may_14 : decode cX10_may 14 = .ok (.ifCond .eq 37, 3) := dX10_may_8_b.2.2.1
theorem dX10_may_17 : decode cX10_may 17 = .ok (.iload_n 1, 1) := dX10_may_8_b.2.2.2.1
theorem dX10_may_18 : decode cX10_may 18 = .ok (.aload_n 0, 1) := dX10_may_8_b.2.2.2.2.1
theorem dX10_may_19 : decode cX10_may 19 = .ok (.getfield 327, 3) := dX10_may_8_b.2.2.2.2.2
set_option maxRecDepth 20000 in
theorem dX10_may_22_b : (decode cX10_may 22 = .ok (.if_icmp .eq 29, 3)) ∧ (decode cX10_may 25 = .ok (.aload_n 0, 1)) ∧ (decode cX10_may 26 = .ok (.aload_n 0, 1)) ∧ (decode cX10_may 27 = .ok (.getfield 87, 3)) ∧ (decode cX10_may 30 = .ok (.invokevirtual 397, 3)) ∧ (decode cX10_may 33 = .ok (.ifCond .eq 18, 3)) := by decide +kernel
theorem dX10_may_22 : decode cX10_may 22 = .ok (.if_icmp .eq 29, 3) := dX10_may_22_b.1
theorem dX10_may_25 : decode cX10_may 25 = .ok (.aload_n 0, 1) := dX10_may_22_b.2.1
theorem dX10_may_26 : decode cX10_may 26 = .ok (.aload_n 0, 1) := dX10_may_22_b.2.2.1
theorem dX10_may_27 : decode cX10_may 27 = .ok (.getfield 87, 3) := dX10_may_22_b.2.2.2.1
theorem dX10_may_30 : decode cX10_may 30 = .ok (.invokevirtual 397, 3) := dX10_may_22_b.2.2.2.2.1
theorem dX10_may_33 : decode cX10_may 33 = .ok (.ifCond .eq 18, 3) := dX10_may_22_b.2.2.2.2.2
set_option maxRecDepth 20000 in
theorem dX10_may_36_b : (decode cX10_may 36 = .ok (.aload_n 0, 1)) ∧ (decode cX10_may 37 = .ok (.aload_n 0, 1)) ∧ (decode cX10_may 38 = .ok (.getfield 87, 3)) ∧ (decode cX10_may 41 = .ok (.aload_n 0, 1)) ∧ (decode cX10_may 42 = .ok (.getfield 327, 3)) ∧ (decode cX10_may 45 = .ok (.invokevirtual 401, 3)) := by decide +kernel
theorem dX10_may_36 : decode cX10_may 36 = .ok (.aload_n 0, 1) := dX10_may_36_b.1
theorem dX10_may_37 : decode cX10_may 37 = .ok (.aload_n 0, 1) := dX10_may_36_b.2.1
theorem dX10_may_38 : decode cX10_may 38 = .ok (.getfield 87, 3) := dX10_may_36_b.2.2.1
theorem dX10_may_41 : decode cX10_may 41 = .ok (.aload_n 0, 1) := dX10_may_36_b.2.2.2.1
theorem dX10_may_42 : decode cX10_may 42 = .ok (.getfield 327, 3) := dX10_may_36_b.2.2.2.2.1
theorem dX10_may_45 : decode cX10_may 45 = .ok (.invokevirtual 401, 3) := dX10_may_36_b.2.2.2.2.2
set_option maxRecDepth 20000 in
theorem dX10_may_48_b : (decode cX10_may 48 = .ok (.ifCond .ne 5, 3)) ∧ (decode cX10_may 51 = .ok (.iconst 0, 1)) ∧ (decode cX10_may 52 = .ok (.ireturn, 1)) ∧ (decode cX10_may 53 = .ok (.aload_n 0, 1)) ∧ (decode cX10_may 54 = .ok (.aload_n 0, 1)) ∧ (decode cX10_may 55 = .ok (.getfield 87, 3)) := by decide +kernel
theorem dX10_may_48 : decode cX10_may 48 = .ok (.ifCond .ne 5, 3) := dX10_may_48_b.1
theorem dX10_may_51 : decode cX10_may 51 = .ok (.iconst 0, 1) := dX10_may_48_b.2.1
theorem dX10_may_52 : decode cX10_may 52 = .ok (.ireturn, 1) := dX10_may_48_b.2.2.1
theorem dX10_may_53 : decode cX10_may 53 = .ok (.aload_n 0, 1) := dX10_may_48_b.2.2.2.1
theorem dX10_may_54 : decode cX10_may 54 = .ok (.aload_n 0, 1) := dX10_may_48_b.2.2.2.2.1
theorem dX10_may_55 : decode cX10_may 55 = .ok (.getfield 87, 3) := dX10_may_48_b.2.2.2.2.2
set_option maxRecDepth 20000 in
theorem dX10_may_58_b : (decode cX10_may 58 = .ok (.aload_n 0, 1)) ∧ (decode cX10_may 59 = .ok (.getfield 327, 3)) ∧ (decode cX10_may 62 = .ok (.iload_n 1, 1)) ∧ (decode cX10_may 63 = .ok (.invokevirtual 405, 3)) ∧ (decode cX10_may 66 = .ok (.iconst 0, 1)) ∧ (decode cX10_may 67 = .ok (.istore_n 2, 1)) := by decide +kernel
theorem dX10_may_58 : decode cX10_may 58 = .ok (.aload_n 0, 1) := dX10_may_58_b.1
theorem dX10_may_59 : decode cX10_may 59 = .ok (.getfield 327, 3) := dX10_may_58_b.2.1
theorem dX10_may_62 : decode cX10_may 62 = .ok (.iload_n 1, 1) := dX10_may_58_b.2.2.1
theorem dX10_may_63 : decode cX10_may 63 = .ok (.invokevirtual 405, 3) := dX10_may_58_b.2.2.2.1
theorem dX10_may_66 : decode cX10_may 66 = .ok (.iconst 0, 1) := dX10_may_58_b.2.2.2.2.1
theorem dX10_may_67 : decode cX10_may 67 = .ok (.istore_n 2, 1) := dX10_may_58_b.2.2.2.2.2
set_option maxRecDepth 20000 in
theorem dX10_may_68_b : (decode cX10_may 68 = .ok (.iconst 0, 1)) ∧ (decode cX10_may 69 = .ok (.istore_n 3, 1)) ∧ (decode cX10_may 70 = .ok (.iload_n 3, 1)) ∧ (decode cX10_may 71 = .ok (.iconst 2, 1)) ∧ (decode cX10_may 72 = .ok (.if_icmp .gt 27, 3)) ∧ (decode cX10_may 75 = .ok (.iload_n 2, 1)) := by decide +kernel
theorem dX10_may_68 : decode cX10_may 68 = .ok (.iconst 0, 1) := dX10_may_68_b.1
theorem dX10_may_69 : decode cX10_may 69 = .ok (.istore_n 3, 1) := dX10_may_68_b.2.1
theorem dX10_may_70 : decode cX10_may 70 = .ok (.iload_n 3, 1) := dX10_may_68_b.2.2.1
theorem dX10_may_71 : decode cX10_may 71 = .ok (.iconst 2, 1) := dX10_may_68_b.2.2.2.1
theorem dX10_may_72 : decode cX10_may 72 = .ok (.if_icmp .gt 27, 3) := dX10_may_68_b.2.2.2.2.1
theorem dX10_may_75 : decode cX10_may 75 = .ok (.iload_n 2, 1) := dX10_may_68_b.2.2.2.2.2
set_option maxRecDepth 20000 in
theorem dX10_may_76_b : (decode cX10_may 76 = .ok (.aload_n 0, 1)) ∧ (decode cX10_may 77 = .ok (.iload_n 3, 1)) ∧ (decode cX10_may 78 = .ok (.invokevirtual 409, 3)) ∧ (decode cX10_may 81 = .ok (.ifCond .ne 9, 3)) ∧ (decode cX10_may 84 = .ok (.iconst 1, 1)) ∧ (decode cX10_may 85 = .ok (.iload_n 3, 1)) := by decide +kernel
theorem dX10_may_76 : decode cX10_may 76 = .ok (.aload_n 0, 1) := dX10_may_76_b.1
theorem dX10_may_77 : decode cX10_may 77 = .ok (.iload_n 3, 1) := dX10_may_76_b.2.1
theorem dX10_may_78 : decode cX10_may 78 = .ok (.invokevirtual 409, 3) := dX10_may_76_b.2.2.1
theorem dX10_may_81 : decode cX10_may 81 = .ok (.ifCond .ne 9, 3) := dX10_may_76_b.2.2.2.1
theorem dX10_may_84 : decode cX10_may 84 = .ok (.iconst 1, 1) := dX10_may_76_b.2.2.2.2.1
theorem dX10_may_85 : decode cX10_may 85 = .ok (.iload_n 3, 1) := dX10_may_76_b.2.2.2.2.2
set_option maxRecDepth 20000 in
theorem dX10_may_86_b : (decode cX10_may 86 = .ok (.ishl, 1)) ∧ (decode cX10_may 87 = .ok (.goto 4, 3)) ∧ (decode cX10_may 90 = .ok (.iconst 0, 1)) ∧ (decode cX10_may 91 = .ok (.ior, 1)) ∧ (decode cX10_may 92 = .ok (.istore_n 2, 1)) ∧ (decode cX10_may 93 = .ok (.iinc 3 1, 3)) := by decide +kernel
theorem dX10_may_86 : decode cX10_may 86 = .ok (.ishl, 1) := dX10_may_86_b.1
theorem dX10_may_87 : decode cX10_may 87 = .ok (.goto 4, 3) := dX10_may_86_b.2.1
theorem dX10_may_90 : decode cX10_may 90 = .ok (.iconst 0, 1) := dX10_may_86_b.2.2.1
theorem dX10_may_91 : decode cX10_may 91 = .ok (.ior, 1) := dX10_may_86_b.2.2.2.1
theorem dX10_may_92 : decode cX10_may 92 = .ok (.istore_n 2, 1) := dX10_may_86_b.2.2.2.2.1
theorem dX10_may_93 : decode cX10_may 93 = .ok (.iinc 3 1, 3) := dX10_may_86_b.2.2.2.2.2
set_option maxRecDepth 20000 in
theorem dX10_may_96_b : (decode cX10_may 96 = .ok (.goto (-26), 3)) ∧ (decode cX10_may 99 = .ok (.iload_n 2, 1)) ∧ (decode cX10_may 100 = .ok (.ireturn, 1)) := by decide +kernel
theorem dX10_may_96 : decode cX10_may 96 = .ok (.goto (-26), 3) := dX10_may_96_b.1
theorem dX10_may_99 : decode cX10_may 99 = .ok (.iload_n 2, 1) := dX10_may_96_b.2.1
theorem dX10_may_100 : decode cX10_may 100 = .ok (.ireturn, 1) := dX10_may_96_b.2.2
set_option maxRecDepth 20000 in
theorem dX10_undo_0_b : (decode cX10_undo 0 = .ok (.aload_n 0, 1)) ∧ (decode cX10_undo 1 = .ok (.iconst 0, 1)) ∧ (decode cX10_undo 2 = .ok (.putfield 171, 3)) ∧ (decode cX10_undo 5 = .ok (.aload_n 0, 1)) ∧ (decode cX10_undo 6 = .ok (.getfield 330, 3)) ∧ (decode cX10_undo 9 = .ok (.ifCond .ne 5, 3)) := by decide +kernel
theorem dX10_undo_0 : decode cX10_undo 0 = .ok (.aload_n 0, 1) := dX10_undo_0_b.1
theorem dX10_undo_1 : decode cX10_undo 1 = .ok (.iconst 0, 1) := dX10_undo_0_b.2.1
theorem dX10_undo_2 : decode cX10_undo 2 = .ok (.putfield 171, 3) := dX10_undo_0_b.2.2.1
theorem dX10_undo_5 : decode cX10_undo 5 = .ok (.aload_n 0, 1) := dX10_undo_0_b.2.2.2.1
theorem dX10_undo_6 : decode cX10_undo 6 = .ok (.getfield 330, 3) := dX10_undo_0_b.2.2.2.2.1
theorem dX10_undo_9 : decode cX10_undo 9 = .ok (.ifCond .ne 5, 3) := dX10_undo_0_b.2.2.2.2.2
set_option maxRecDepth 20000 in
theorem dX10_undo_12_b : (decode cX10_undo 12 = .ok (.iconst (-1), 1)) ∧ (decode cX10_undo 13 = .ok (.ireturn, 1)) ∧ (decode cX10_undo 14 = .ok (.aload_n 0, 1)) ∧ (decode cX10_undo 15 = .ok (.dup, 1)) ∧ (decode cX10_undo 16 = .ok (.getfield 330, 3)) ∧ (decode cX10_undo 19 = .ok (.iconst 1, 1)) := by decide +kernel
theorem dX10_undo_12 : decode cX10_undo 12 = .ok (.iconst (-1), 1) := dX10_undo_12_b.1
theorem dX10_undo_13 : decode cX10_undo 13 = .ok (.ireturn, 1) := dX10_undo_12_b.2.1
theorem dX10_undo_14 : decode cX10_undo 14 = .ok (.aload_n 0, 1) := dX10_undo_12_b.2.2.1
theorem dX10_undo_15 : decode cX10_undo 15 = .ok (.dup, 1) := dX10_undo_12_b.2.2.2.1
theorem dX10_undo_16 : decode cX10_undo 16 = .ok (.getfield 330, 3) := dX10_undo_12_b.2.2.2.2.1
theorem dX10_undo_19 : decode cX10_undo 19 = .ok (.iconst 1, 1) := dX10_undo_12_b.2.2.2.2.2
set_option maxRecDepth 20000 in
theorem dX10_undo_20_b : (decode cX10_undo 20 = .ok (.isub, 1)) ∧ (decode cX10_undo 21 = .ok (.putfield 330, 3)) ∧ (decode cX10_undo 24 = .ok (.aload_n 0, 1)) ∧ (decode cX10_undo 25 = .ok (.dup, 1)) ∧ (decode cX10_undo 26 = .ok (.getfield 333, 3)) ∧ (decode cX10_undo 29 = .ok (.aload_n 0, 1)) := by decide +kernel
theorem dX10_undo_20 : decode cX10_undo 20 = .ok (.isub, 1) := dX10_undo_20_b.1
theorem dX10_undo_21 : decode cX10_undo 21 = .ok (.putfield 330, 3) := dX10_undo_20_b.2.1
theorem dX10_undo_24 : decode cX10_undo 24 = .ok (.aload_n 0, 1) := dX10_undo_20_b.2.2.1
theorem dX10_undo_25 : decode cX10_undo 25 = .ok (.dup, 1) := dX10_undo_20_b.2.2.2.1
theorem dX10_undo_26 : decode cX10_undo 26 = .ok (.getfield 333, 3) := dX10_undo_20_b.2.2.2.2.1
theorem dX10_undo_29 : decode cX10_undo 29 = .ok (.aload_n 0, 1) := dX10_undo_20_b.2.2.2.2.2
set_option maxRecDepth 20000 in
theorem dX10_undo_30_b : (decode cX10_undo 30 = .ok (.getfield 105, 3)) ∧ (decode cX10_undo 33 = .ok (.aload_n 0, 1)) ∧ (decode cX10_undo 34 = .ok (.getfield 330, 3)) ∧ (decode cX10_undo 37 = .ok (.iaload, 1)) ∧ (decode cX10_undo 38 = .ok (.isub, 1)) ∧ (decode cX10_undo 39 = .ok (.putfield 333, 3)) := by decide +kernel
theorem dX10_undo_30 : decode cX10_undo 30 = .ok (.getfield 105, 3) := dX10_undo_30_b.1
theorem dX10_undo_33 : decode cX10_undo 33 = .ok (.aload_n 0, 1) := dX10_undo_30_b.2.1
theorem dX10_undo_34 : decode cX10_undo 34 = .ok (.getfield 330, 3) := dX10_undo_30_b.2.2.1
theorem dX10_undo_37 : decode cX10_undo 37 = .ok (.iaload, 1) := dX10_undo_30_b.2.2.2.1
theorem dX10_undo_38 : decode cX10_undo 38 = .ok (.isub, 1) := dX10_undo_30_b.2.2.2.2.1
theorem dX10_undo_39 : decode cX10_undo 39 = .ok (.putfield 333, 3) := dX10_undo_30_b.2.2.2.2.2
set_option maxRecDepth 20000 in
theorem dX10_undo_42_b : (decode cX10_undo 42 = .ok (.aload_n 0, 1)) ∧ (decode cX10_undo 43 = .ok (.getfield 93, 3)) ∧ (decode cX10_undo 46 = .ok (.aload_n 0, 1)) ∧ (decode cX10_undo 47 = .ok (.getfield 330, 3)) ∧ (decode cX10_undo 50 = .ok (.iaload, 1)) ∧ (decode cX10_undo 51 = .ok (.iconst 2, 1)) := by decide +kernel
theorem dX10_undo_42 : decode cX10_undo 42 = .ok (.aload_n 0, 1) := dX10_undo_42_b.1
theorem dX10_undo_43 : decode cX10_undo 43 = .ok (.getfield 93, 3) := dX10_undo_42_b.2.1
theorem dX10_undo_46 : decode cX10_undo 46 = .ok (.aload_n 0, 1) := dX10_undo_42_b.2.2.1
theorem dX10_undo_47 : decode cX10_undo 47 = .ok (.getfield 330, 3) := dX10_undo_42_b.2.2.2.1
theorem dX10_undo_50 : decode cX10_undo 50 = .ok (.iaload, 1) := dX10_undo_42_b.2.2.2.2.1
theorem dX10_undo_51 : decode cX10_undo 51 = .ok (.iconst 2, 1) := dX10_undo_42_b.2.2.2.2.2
set_option maxRecDepth 20000 in
theorem dX10_undo_52_b : (decode cX10_undo 52 = .ok (.if_icmp .ne 19, 3)) ∧ (decode cX10_undo 55 = .ok (.aload_n 0, 1)) ∧ (decode cX10_undo 56 = .ok (.aload_n 0, 1)) ∧ (decode cX10_undo 57 = .ok (.getfield 102, 3)) ∧ (decode cX10_undo 60 = .ok (.aload_n 0, 1)) ∧ (decode cX10_undo 61 = .ok (.getfield 330, 3)) := by decide +kernel
theorem dX10_undo_52 : decode cX10_undo 52 = .ok (.if_icmp .ne 19, 3) := dX10_undo_52_b.1
theorem dX10_undo_55 : decode cX10_undo 55 = .ok (.aload_n 0, 1) := dX10_undo_52_b.2.1
theorem dX10_undo_56 : decode cX10_undo 56 = .ok (.aload_n 0, 1) := dX10_undo_52_b.2.2.1
theorem dX10_undo_57 : decode cX10_undo 57 = .ok (.getfield 102, 3) := dX10_undo_52_b.2.2.2.1
theorem dX10_undo_60 : decode cX10_undo 60 = .ok (.aload_n 0, 1) := dX10_undo_52_b.2.2.2.2.1
theorem dX10_undo_61 : decode cX10_undo 61 = .ok (.getfield 330, 3) := dX10_undo_52_b.2.2.2.2.2
set_option maxRecDepth 20000 in
theorem dX10_undo_64_b : (decode cX10_undo 64 = .ok (.iaload, 1)) ∧ (decode cX10_undo 65 = .ok (.putfield 327, 3)) ∧ (decode cX10_undo 68 = .ok (.goto 26, 3)) ∧ (decode cX10_undo 71 = .ok (.aload_n 0, 1)) ∧ (decode cX10_undo 72 = .ok (.getfield 87, 3)) ∧ (decode cX10_undo 75 = .ok (.aload_n 0, 1)) := by decide +kernel
theorem dX10_undo_64 : decode cX10_undo 64 = .ok (.iaload, 1) := dX10_undo_64_b.1
theorem dX10_undo_65 : decode cX10_undo 65 = .ok (.putfield 327, 3) := dX10_undo_64_b.2.1
theorem dX10_undo_68 : decode cX10_undo 68 = .ok (.goto 26, 3) := dX10_undo_64_b.2.2.1
theorem dX10_undo_71 : decode cX10_undo 71 = .ok (.aload_n 0, 1) := dX10_undo_64_b.2.2.2.1
theorem dX10_undo_72 : decode cX10_undo 72 = .ok (.getfield 87, 3) := dX10_undo_64_b.2.2.2.2.1
theorem dX10_undo_75 : decode cX10_undo 75 = .ok (.aload_n 0, 1) := dX10_undo_64_b.2.2.2.2.2
set_option maxRecDepth 20000 in
theorem dX10_undo_76_b : (decode cX10_undo 76 = .ok (.getfield 96, 3)) ∧ (decode cX10_undo 79 = .ok (.aload_n 0, 1)) ∧ (decode cX10_undo 80 = .ok (.getfield 330, 3)) ∧ (decode cX10_undo 83 = .ok (.iaload, 1)) ∧ (decode cX10_undo 84 = .ok (.aload_n 0, 1)) ∧ (decode cX10_undo 85 = .ok (.getfield 102, 3)) := by decide +kernel
theorem dX10_undo_76 : decode cX10_undo 76 = .ok (.getfield 96, 3) := dX10_undo_76_b.1
theorem dX10_undo_79 : decode cX10_undo 79 = .ok (.aload_n 0, 1) := dX10_undo_76_b.2.1
theorem dX10_undo_80 : decode cX10_undo 80 = .ok (.getfield 330, 3) := dX10_undo_76_b.2.2.1
theorem dX10_undo_83 : decode cX10_undo 83 = .ok (.iaload, 1) := dX10_undo_76_b.2.2.2.1
theorem dX10_undo_84 : decode cX10_undo 84 = .ok (.aload_n 0, 1) := dX10_undo_76_b.2.2.2.2.1
theorem dX10_undo_85 : decode cX10_undo 85 = .ok (.getfield 102, 3) := dX10_undo_76_b.2.2.2.2.2
set_option maxRecDepth 20000 in
theorem dX10_undo_88_b : (decode cX10_undo 88 = .ok (.aload_n 0, 1)) ∧ (decode cX10_undo 89 = .ok (.getfield 330, 3)) ∧ (decode cX10_undo 92 = .ok (.iaload, 1)) ∧ (decode cX10_undo 93 = .ok (.iastore, 1)) ∧ (decode cX10_undo 94 = .ok (.aload_n 0, 1)) ∧ (decode cX10_undo 95 = .ok (.getfield 330, 3)) := by decide +kernel
theorem dX10_undo_88 : decode cX10_undo 88 = .ok (.aload_n 0, 1) := dX10_undo_88_b.1
theorem dX10_undo_89 : decode cX10_undo 89 = .ok (.getfield 330, 3) := dX10_undo_88_b.2.1
theorem dX10_undo_92 : decode cX10_undo 92 = .ok (.iaload, 1) := dX10_undo_88_b.2.2.1
theorem dX10_undo_93 : decode cX10_undo 93 = .ok (.iastore, 1) := dX10_undo_88_b.2.2.2.1
theorem dX10_undo_94 : decode cX10_undo 94 = .ok (.aload_n 0, 1) := dX10_undo_88_b.2.2.2.2.1
theorem dX10_undo_95 : decode cX10_undo 95 = .ok (.getfield 330, 3) := dX10_undo_88_b.2.2.2.2.2
theorem dX10_undo_98 : decode cX10_undo 98 = .ok (.ireturn, 1) := by decide +kernel
set_option maxRecDepth 20000 in
theorem ggX10_moved_X10_isIn : GoodIn wsX10_moved wsX10_isIn := goodIn_r _ [9] (by decide +kernel) (by decide +kernel)
set_option maxRecDepth 20000 in
theorem gX10_moved_X10_isIn : GoodIn wsX10_moved (va_wsS RX10 177 yX10_isIn wsX10_isIn) := goodIn_app (goodIn_of _ (by decide +kernel)) ggX10_moved_X10_isIn
set_option maxRecDepth 20000 in
theorem ggX10_moved_X10_fail : GoodIn wsX10_moved wsX10_fail := goodIn_r _ [13, 1, 14, 15, 16, 17, 18, 19, 20, 21, 22, 23, 24, 25, 26, 27, 28, 29, 30, 31, 32, 33, 34, 35, 36, 37, 38, 39, 40, 41, 42, 43, 44, 45, 46, 47, 48, 49, 50, 51, 52, 53, 54, 55, 56, 57, 58, 59, 60, 61, 62, 63, 64, 65, 66, 67, 68, 69, 70, 71, 72, 73, 74, 75, 76, 77, 78, 79, 80, 81, 82, 83, 84] (by decide +kernel) (by decide +kernel)
set_option maxRecDepth 20000 in
theorem gX10_moved_X10_fail : GoodIn wsX10_moved (wsV RX10 315 RX10 yX10_fail wsX10_fail) := goodIn_app (goodIn_of _ (by decide +kernel)) ggX10_moved_X10_fail
set_option maxRecDepth 20000 in
theorem dX10_moved_0_b : (decode cX10_moved 0 = .ok (.aload_n 0, 1)) ∧ (decode cX10_moved 1 = .ok (.iconst 0, 1)) ∧ (decode cX10_moved 2 = .ok (.putfield 171, 3)) ∧ (decode cX10_moved 5 = .ok (.iload_n 1, 1)) ∧ (decode cX10_moved 6 = .ok (.iconst 0, 1)) ∧ (decode cX10_moved 7 = .ok (.aload_n 0, 1)) := by decide +kernel
theorem dX10_moved_0 : decode cX10_moved 0 = .ok (.aload_n 0, 1) := dX10_moved_0_b.1
theorem dX10_moved_1 : decode cX10_moved 1 = .ok (.iconst 0, 1) := dX10_moved_0_b.2.1
theorem dX10_moved_2 : decode cX10_moved 2 = .ok (.putfield 171, 3) := dX10_moved_0_b.2.2.1
theorem dX10_moved_5 : decode cX10_moved 5 = .ok (.iload_n 1, 1) := dX10_moved_0_b.2.2.2.1
theorem dX10_moved_6 : decode cX10_moved 6 = .ok (.iconst 0, 1) := dX10_moved_0_b.2.2.2.2.1
theorem dX10_moved_7 : decode cX10_moved 7 = .ok (.aload_n 0, 1) := dX10_moved_0_b.2.2.2.2.2
set_option maxRecDepth 20000 in
theorem dX10_moved_8_b : (decode cX10_moved 8 = .ok (.getfield 330, 3)) ∧ (decode cX10_moved 11 = .ok (.iconst 1, 1)) ∧ (decode cX10_moved 12 = .ok (.isub, 1)) ∧ (decode cX10_moved 13 = .ok (.invokestatic 177, 3)) ∧ (decode cX10_moved 16 = .ok (.ifCond .ne 9, 3)) ∧ (decode cX10_moved 19 = .ok (.aload_n 0, 1)) := by decide +kernel
theorem dX10_moved_8 : decode cX10_moved 8 = .ok (.getfield 330, 3) := dX10_moved_8_b.1
theorem dX10_moved_11 : decode cX10_moved 11 = .ok (.iconst 1, 1) := dX10_moved_8_b.2.1
theorem dX10_moved_12 : decode cX10_moved 12 = .ok (.isub, 1) := dX10_moved_8_b.2.2.1
theorem dX10_moved_13 : decode cX10_moved 13 = .ok (.invokestatic 177, 3) := dX10_moved_8_b.2.2.2.1
theorem dX10_moved_16 : decode cX10_moved 16 = .ok (.ifCond .ne 9, 3) := dX10_moved_8_b.2.2.2.2.1
theorem dX10_moved_19 : decode cX10_moved 19 = .ok (.aload_n 0, 1) := dX10_moved_8_b.2.2.2.2.2
set_option maxRecDepth 20000 in
theorem dX10_moved_20_b : (decode cX10_moved 20 = .ok (.iconst 1, 1)) ∧ (decode cX10_moved 21 = .ok (.invokevirtual 315, 3)) ∧ (decode cX10_moved 24 = .ok (.ireturn, 1)) ∧ (decode cX10_moved 25 = .ok (.iload_n 2, 1)) ∧ (decode cX10_moved 26 = .ok (.ifCond .ne 12, 3)) ∧ (decode cX10_moved 29 = .ok (.aload_n 0, 1)) := by decide +kernel
theorem dX10_moved_20 : decode cX10_moved 20 = .ok (.iconst 1, 1) := dX10_moved_20_b.1
theorem dX10_moved_21 : decode cX10_moved 21 = .ok (.invokevirtual 315, 3) := dX10_moved_20_b.2.1
theorem dX10_moved_24 : decode cX10_moved 24 = .ok (.ireturn, 1) := dX10_moved_20_b.2.2.1
theorem dX10_moved_25 : decode cX10_moved 25 = .ok (.iload_n 2, 1) := dX10_moved_20_b.2.2.2.1
theorem dX10_moved_26 : decode cX10_moved 26 = .ok (.ifCond .ne 12, 3) := dX10_moved_20_b.2.2.2.2.1
theorem dX10_moved_29 : decode cX10_moved 29 = .ok (.aload_n 0, 1) := dX10_moved_20_b.2.2.2.2.2
set_option maxRecDepth 20000 in
theorem dX10_moved_30_b : (decode cX10_moved 30 = .ok (.getfield 93, 3)) ∧ (decode cX10_moved 33 = .ok (.iload_n 1, 1)) ∧ (decode cX10_moved 34 = .ok (.iaload, 1)) ∧ (decode cX10_moved 35 = .ok (.goto 36, 3)) ∧ (decode cX10_moved 38 = .ok (.iload_n 2, 1)) ∧ (decode cX10_moved 39 = .ok (.iconst 1, 1)) := by decide +kernel
theorem dX10_moved_30 : decode cX10_moved 30 = .ok (.getfield 93, 3) := dX10_moved_30_b.1
theorem dX10_moved_33 : decode cX10_moved 33 = .ok (.iload_n 1, 1) := dX10_moved_30_b.2.1
theorem dX10_moved_34 : decode cX10_moved 34 = .ok (.iaload, 1) := dX10_moved_30_b.2.2.1
theorem dX10_moved_35 : decode cX10_moved 35 = .ok (.goto 36, 3) := dX10_moved_30_b.2.2.2.1
theorem dX10_moved_38 : decode cX10_moved 38 = .ok (.iload_n 2, 1) := dX10_moved_30_b.2.2.2.2.1
theorem dX10_moved_39 : decode cX10_moved 39 = .ok (.iconst 1, 1) := dX10_moved_30_b.2.2.2.2.2
set_option maxRecDepth 20000 in
theorem dX10_moved_40_b : (decode cX10_moved 40 = .ok (.if_icmp .ne 12, 3)) ∧ (decode cX10_moved 43 = .ok (.aload_n 0, 1)) ∧ (decode cX10_moved 44 = .ok (.getfield 96, 3)) ∧ (decode cX10_moved 47 = .ok (.iload_n 1, 1)) ∧ (decode cX10_moved 48 = .ok (.iaload, 1)) ∧ (decode cX10_moved 49 = .ok (.goto 22, 3)) := by decide +kernel
theorem dX10_moved_40 : decode cX10_moved 40 = .ok (.if_icmp .ne 12, 3) := dX10_moved_40_b.1
theorem dX10_moved_43 : decode cX10_moved 43 = .ok (.aload_n 0, 1) := dX10_moved_40_b.2.1
theorem dX10_moved_44 : decode cX10_moved 44 = .ok (.getfield 96, 3) := dX10_moved_40_b.2.2.1
theorem dX10_moved_47 : decode cX10_moved 47 = .ok (.iload_n 1, 1) := dX10_moved_40_b.2.2.2.1
theorem dX10_moved_48 : decode cX10_moved 48 = .ok (.iaload, 1) := dX10_moved_40_b.2.2.2.2.1
theorem dX10_moved_49 : decode cX10_moved 49 = .ok (.goto 22, 3) := dX10_moved_40_b.2.2.2.2.2
set_option maxRecDepth 20000 in
theorem dX10_moved_52_b : (decode cX10_moved 52 = .ok (.iload_n 2, 1)) ∧ (decode cX10_moved 53 = .ok (.iconst 2, 1)) ∧ (decode cX10_moved 54 = .ok (.if_icmp .ne 12, 3)) ∧ (decode cX10_moved 57 = .ok (.aload_n 0, 1)) ∧ (decode cX10_moved 58 = .ok (.getfield 99, 3)) ∧ (decode cX10_moved 61 = .ok (.iload_n 1, 1)) := by decide +kernel
theorem dX10_moved_52 : decode cX10_moved 52 = .ok (.iload_n 2, 1) := dX10_moved_52_b.1
theorem dX10_moved_53 : decode cX10_moved 53 = .ok (.iconst 2, 1) := dX10_moved_52_b.2.1
theorem dX10_moved_54 : decode cX10_moved 54 = .ok (.if_icmp .ne 12, 3) := dX10_moved_52_b.2.2.1
theorem dX10_moved_57 : decode cX10_moved 57 = .ok (.aload_n 0, 1) := dX10_moved_52_b.2.2.2.1
theorem dX10_moved_58 : decode cX10_moved 58 = .ok (.getfield 99, 3) := dX10_moved_52_b.2.2.2.2.1
theorem dX10_moved_61 : decode cX10_moved 61 = .ok (.iload_n 1, 1) := dX10_moved_52_b.2.2.2.2.2
set_option maxRecDepth 20000 in
theorem dX10_moved_62_b : (decode cX10_moved 62 = .ok (.iaload, 1)) ∧ (decode cX10_moved 63 = .ok (.goto 8, 3)) ∧ (decode cX10_moved 66 = .ok (.aload_n 0, 1)) ∧ (decode cX10_moved 67 = .ok (.iconst 1, 1)) ∧ (decode cX10_moved 68 = .ok (.invokevirtual 315, 3)) ∧ (decode cX10_moved 71 = .ok (.ireturn, 1)) := by decide +kernel
theorem dX10_moved_62 : decode cX10_moved 62 = .ok (.iaload, 1) := dX10_moved_62_b.1
theorem dX10_moved_63 : decode cX10_moved 63 = .ok (.goto 8, 3) := dX10_moved_62_b.2.1
theorem dX10_moved_66 : decode cX10_moved 66 = .ok (.aload_n 0, 1) := dX10_moved_62_b.2.2.1
theorem dX10_moved_67 : decode cX10_moved 67 = .ok (.iconst 1, 1) := dX10_moved_62_b.2.2.2.1
theorem dX10_moved_68 : decode cX10_moved 68 = .ok (.invokevirtual 315, 3) := dX10_moved_62_b.2.2.2.2.1
theorem dX10_moved_71 : decode cX10_moved 71 = .ok (.ireturn, 1) := dX10_moved_62_b.2.2.2.2.2
set_option maxRecDepth 20000 in
theorem ggX10_back_X10_tellRide : GoodIn wsX10_back wsX10_tellRide := goodIn_r _ [12, 13, 14, 15, 16, 17, 18, 19, 20, 21, 22, 23, 24, 25, 26, 27, 28, 11, 29, 30, 31, 32, 33, 34, 35, 36, 37, 38, 39, 40, 41, 42, 43, 44, 45, 46, 81, 82, 83, 84, 85, 86, 87, 88, 89, 90, 91, 92, 93, 94, 95, 96, 97, 98, 99, 100, 101, 102, 103, 104, 105, 106, 107, 108, 109, 110, 111, 112, 113, 114, 115, 116, 117, 118, 119, 120, 121, 122, 123, 124, 125, 126, 127, 128, 129, 130, 131, 132, 133, 134, 135, 136, 137, 138, 139, 140, 141, 142, 143, 144, 145, 146, 147, 148, 149, 150, 151] (by decide +kernel) (by decide +kernel)
set_option maxRecDepth 20000 in
theorem gX10_back_X10_tellRide : GoodIn wsX10_back (wsV RX10 405 RX10 yX10_tellRide wsX10_tellRide) := goodIn_app (goodIn_of _ (by decide +kernel)) ggX10_back_X10_tellRide
set_option maxRecDepth 20000 in
theorem ggX10_back_X10_keepsCap : GoodIn wsX10_back wsX10_keepsCap := goodIn_r _ [50, 25, 30, 31, 32, 11, 33, 34, 35, 36, 37, 38, 81, 82, 83, 84, 85, 86, 87, 88, 89, 90, 91, 92, 93, 94, 95, 96, 97, 98, 99, 100, 101, 102, 103, 104, 105, 106, 107, 108, 109, 110, 111, 112, 113, 114, 115, 116, 117, 118, 119, 120, 121, 122, 123, 124, 125, 126, 127, 128, 129, 130, 131, 132, 133, 134, 135, 136, 137, 138, 139, 140, 141, 142, 143, 144, 145, 146, 147, 148, 149, 150, 151] (by decide +kernel) (by decide +kernel)
set_option maxRecDepth 20000 in
theorem gX10_back_X10_keepsCap : GoodIn wsX10_back (wsV RX10 397 RX10 yX10_keepsCap wsX10_keepsCap) := goodIn_app (goodIn_of _ (by decide +kernel)) ggX10_back_X10_keepsCap
set_option maxRecDepth 20000 in
theorem ggX10_back_X10_keepsRules : GoodIn wsX10_back wsX10_keepsRules := goodIn_r _ [54, 55, 56, 57, 11, 58, 59, 60, 61, 62, 63, 64, 34, 65, 36, 37, 38, 30, 31, 32, 33, 35, 39, 40, 41, 42, 43, 44, 45, 46, 25, 66, 67, 68, 69, 70, 71, 72, 73, 74, 75, 76, 81, 82, 83, 84, 85, 86, 87, 88, 89, 90, 91, 92, 93, 94, 95, 96, 97, 98, 99, 100, 101, 102, 103, 104, 105, 106, 107, 108, 109, 110, 111, 112, 113, 114, 115, 116, 117, 118, 119, 120, 121, 122, 123, 124, 125, 126, 127, 128, 129, 130, 131, 132, 133, 134, 135, 136, 137, 138, 139, 140, 141, 142, 143, 144, 145, 146, 147, 148, 149, 150, 151] (by decide +kernel) (by decide +kernel)
set_option maxRecDepth 20000 in
theorem gX10_back_X10_keepsRules : GoodIn wsX10_back (wsV RX10 401 RX10 yX10_keepsRules wsX10_keepsRules) := goodIn_app (goodIn_of _ (by decide +kernel)) ggX10_back_X10_keepsRules
set_option maxRecDepth 20000 in
theorem ggX10_back_X10_swing : GoodIn wsX10_back wsX10_swing := goodIn_r _ [80, 14, 25, 16, 81, 82, 83, 84, 85, 86, 87, 88, 89, 90, 91, 92, 93, 94, 95, 96, 97, 98, 99, 100, 101, 102, 103, 104, 105, 106, 107, 108, 109, 110, 111, 112, 113, 114, 115, 116, 117, 118, 119, 120, 121, 122, 123, 124, 125, 126, 127, 128, 129, 130, 131, 132, 133, 134, 135, 136, 137, 138, 139, 140, 141, 142, 143, 144, 145, 146, 147, 148, 149, 150, 151] (by decide +kernel) (by decide +kernel)
set_option maxRecDepth 20000 in
theorem gX10_back_X10_swing : GoodIn wsX10_back (wsV RX10 409 RX10 yX10_swing wsX10_swing) := goodIn_app (goodIn_of _ (by decide +kernel)) ggX10_back_X10_swing
set_option maxRecDepth 20000 in
theorem dX10_back_0_b : (decode cX10_back 0 = .ok (.aload_n 0, 1)) ∧ (decode cX10_back 1 = .ok (.iconst 0, 1)) ∧ (decode cX10_back 2 = .ok (.putfield 171, 3)) ∧ (decode cX10_back 5 = .ok (.iconst 0, 1)) ∧ (decode cX10_back 6 = .ok (.istore_n 1, 1)) ∧ (decode cX10_back 7 = .ok (.iload_n 1, 1)) := by decide +kernel
theorem dX10_back_0 : decode cX10_back 0 = .ok (.aload_n 0, 1) := dX10_back_0_b.1
theorem dX10_back_1 : decode cX10_back 1 = .ok (.iconst 0, 1) := dX10_back_0_b.2.1
theorem dX10_back_2 : decode cX10_back 2 = .ok (.putfield 171, 3) := dX10_back_0_b.2.2.1
theorem dX10_back_5 : decode cX10_back 5 = .ok (.iconst 0, 1) := dX10_back_0_b.2.2.2.1
theorem dX10_back_6 : decode cX10_back 6 = .ok (.istore_n 1, 1) := dX10_back_0_b.2.2.2.2.1
theorem dX10_back_7 : decode cX10_back 7 = .ok (.iload_n 1, 1) := dX10_back_0_b.2.2.2.2.2
set_option maxRecDepth 20000 in
theorem dX10_back_8_b : (decode cX10_back 8 = .ok (.bipush 7, 2)) ∧ (decode cX10_back 10 = .ok (.if_icmp .ge 21, 3)) ∧ (decode cX10_back 13 = .ok (.aload_n 0, 1)) ∧ (decode cX10_back 14 = .ok (.getfield 114, 3)) ∧ (decode cX10_back 17 = .ok (.iload_n 1, 1)) ∧ (decode cX10_back 18 = .ok (.aload_n 0, 1)) := by decide +kernel
theorem dX10_back_8 : decode cX10_back 8 = .ok (.bipush 7, 2) := dX10_back_8_b.1
theorem dX10_back_10 : decode cX10_back 10 = .ok (.if_icmp .ge 21, 3) := dX10_back_8_b.2.1
theorem dX10_back_13 : decode cX10_back 13 = .ok (.aload_n 0, 1) := dX10_back_8_b.2.2.1
theorem dX10_back_14 : decode cX10_back 14 = .ok (.getfield 114, 3) := dX10_back_8_b.2.2.2.1
theorem dX10_back_17 : decode cX10_back 17 = .ok (.iload_n 1, 1) := dX10_back_8_b.2.2.2.2.1
theorem dX10_back_18 : decode cX10_back 18 = .ok (.aload_n 0, 1) := dX10_back_8_b.2.2.2.2.2
set_option maxRecDepth 20000 in
theorem dX10_back_19_b : (decode cX10_back 19 = .ok (.getfield 87, 3)) ∧ (decode cX10_back 22 = .ok (.iload_n 1, 1)) ∧ (decode cX10_back 23 = .ok (.iaload, 1)) ∧ (decode cX10_back 24 = .ok (.iastore, 1)) ∧ (decode cX10_back 25 = .ok (.iinc 1 1, 3)) ∧ (decode cX10_back 28 = .ok (.goto (-21), 3)) := by decide +kernel
theorem dX10_back_19 : decode cX10_back 19 = .ok (.getfield 87, 3) := dX10_back_19_b.1
theorem dX10_back_22 : decode cX10_back 22 = .ok (.iload_n 1, 1) := dX10_back_19_b.2.1
theorem dX10_back_23 : decode cX10_back 23 = .ok (.iaload, 1) := dX10_back_19_b.2.2.1
theorem dX10_back_24 : decode cX10_back 24 = .ok (.iastore, 1) := dX10_back_19_b.2.2.2.1
theorem dX10_back_25 : decode cX10_back 25 = .ok (.iinc 1 1, 3) := dX10_back_19_b.2.2.2.2.1
theorem dX10_back_28 : decode cX10_back 28 = .ok (.goto (-21), 3) := dX10_back_19_b.2.2.2.2.2
set_option maxRecDepth 20000 in
theorem dX10_back_31_b : (decode cX10_back 31 = .ok (.iconst 0, 1)) ∧ (decode cX10_back 32 = .ok (.istore_n 1, 1)) ∧ (decode cX10_back 33 = .ok (.aload_n 0, 1)) ∧ (decode cX10_back 34 = .ok (.getfield 330, 3)) ∧ (decode cX10_back 37 = .ok (.iconst 1, 1)) ∧ (decode cX10_back 38 = .ok (.isub, 1)) := by decide +kernel
theorem dX10_back_31 : decode cX10_back 31 = .ok (.iconst 0, 1) := dX10_back_31_b.1
theorem dX10_back_32 : decode cX10_back 32 = .ok (.istore_n 1, 1) := dX10_back_31_b.2.1
theorem dX10_back_33 : decode cX10_back 33 = .ok (.aload_n 0, 1) := dX10_back_31_b.2.2.1
theorem dX10_back_34 : decode cX10_back 34 = .ok (.getfield 330, 3) := dX10_back_31_b.2.2.2.1
theorem dX10_back_37 : decode cX10_back 37 = .ok (.iconst 1, 1) := dX10_back_31_b.2.2.2.2.1
theorem dX10_back_38 : decode cX10_back 38 = .ok (.isub, 1) := dX10_back_31_b.2.2.2.2.2
set_option maxRecDepth 20000 in
theorem dX10_back_39_b : (decode cX10_back 39 = .ok (.istore_n 2, 1)) ∧ (decode cX10_back 40 = .ok (.iload_n 2, 1)) ∧ (decode cX10_back 41 = .ok (.ifCond .lt 100, 3)) ∧ (decode cX10_back 44 = .ok (.aload_n 0, 1)) ∧ (decode cX10_back 45 = .ok (.getfield 93, 3)) ∧ (decode cX10_back 48 = .ok (.iload_n 2, 1)) := by decide +kernel
theorem dX10_back_39 : decode cX10_back 39 = .ok (.istore_n 2, 1) := dX10_back_39_b.1
theorem dX10_back_40 : decode cX10_back 40 = .ok (.iload_n 2, 1) := dX10_back_39_b.2.1
theorem dX10_back_41 : decode cX10_back 41 = .ok (.ifCond .lt 100, 3) := dX10_back_39_b.2.2.1
theorem dX10_back_44 : decode cX10_back 44 = .ok (.aload_n 0, 1) := dX10_back_39_b.2.2.2.1
theorem dX10_back_45 : decode cX10_back 45 = .ok (.getfield 93, 3) := dX10_back_39_b.2.2.2.2.1
theorem dX10_back_48 : decode cX10_back 48 = .ok (.iload_n 2, 1) := dX10_back_39_b.2.2.2.2.2
set_option maxRecDepth 20000 in
theorem dX10_back_49_b : (decode cX10_back 49 = .ok (.iaload, 1)) ∧ (decode cX10_back 50 = .ok (.iconst 2, 1)) ∧ (decode cX10_back 51 = .ok (.if_icmp .eq 23, 3)) ∧ (decode cX10_back 54 = .ok (.aload_n 0, 1)) ∧ (decode cX10_back 55 = .ok (.getfield 114, 3)) ∧ (decode cX10_back 58 = .ok (.aload_n 0, 1)) := by decide +kernel
theorem dX10_back_49 : decode cX10_back 49 = .ok (.iaload, 1) := dX10_back_49_b.1
theorem dX10_back_50 : decode cX10_back 50 = .ok (.iconst 2, 1) := dX10_back_49_b.2.1
theorem dX10_back_51 : decode cX10_back 51 = .ok (.if_icmp .eq 23, 3) := dX10_back_49_b.2.2.1
theorem dX10_back_54 : decode cX10_back 54 = .ok (.aload_n 0, 1) := dX10_back_49_b.2.2.2.1
theorem dX10_back_55 : decode cX10_back 55 = .ok (.getfield 114, 3) := dX10_back_49_b.2.2.2.2.1
theorem dX10_back_58 : decode cX10_back 58 = .ok (.aload_n 0, 1) := dX10_back_49_b.2.2.2.2.2
set_option maxRecDepth 20000 in
theorem dX10_back_59_b : (decode cX10_back 59 = .ok (.getfield 96, 3)) ∧ (decode cX10_back 62 = .ok (.iload_n 2, 1)) ∧ (decode cX10_back 63 = .ok (.iaload, 1)) ∧ (decode cX10_back 64 = .ok (.aload_n 0, 1)) ∧ (decode cX10_back 65 = .ok (.getfield 102, 3)) ∧ (decode cX10_back 68 = .ok (.iload_n 2, 1)) := by decide +kernel
theorem dX10_back_59 : decode cX10_back 59 = .ok (.getfield 96, 3) := dX10_back_59_b.1
theorem dX10_back_62 : decode cX10_back 62 = .ok (.iload_n 2, 1) := dX10_back_59_b.2.1
theorem dX10_back_63 : decode cX10_back 63 = .ok (.iaload, 1) := dX10_back_59_b.2.2.1
theorem dX10_back_64 : decode cX10_back 64 = .ok (.aload_n 0, 1) := dX10_back_59_b.2.2.2.1
theorem dX10_back_65 : decode cX10_back 65 = .ok (.getfield 102, 3) := dX10_back_59_b.2.2.2.2.1
theorem dX10_back_68 : decode cX10_back 68 = .ok (.iload_n 2, 1) := dX10_back_59_b.2.2.2.2.2
set_option maxRecDepth 20000 in
theorem dX10_back_69_b : (decode cX10_back 69 = .ok (.iaload, 1)) ∧ (decode cX10_back 70 = .ok (.iastore, 1)) ∧ (decode cX10_back 71 = .ok (.goto 64, 3)) ∧ (decode cX10_back 74 = .ok (.aload_n 0, 1)) ∧ (decode cX10_back 75 = .ok (.aload_n 0, 1)) ∧ (decode cX10_back 76 = .ok (.getfield 114, 3)) := by decide +kernel
theorem dX10_back_69 : decode cX10_back 69 = .ok (.iaload, 1) := dX10_back_69_b.1
theorem dX10_back_70 : decode cX10_back 70 = .ok (.iastore, 1) := dX10_back_69_b.2.1
theorem dX10_back_71 : decode cX10_back 71 = .ok (.goto 64, 3) := dX10_back_69_b.2.2.1
theorem dX10_back_74 : decode cX10_back 74 = .ok (.aload_n 0, 1) := dX10_back_69_b.2.2.2.1
theorem dX10_back_75 : decode cX10_back 75 = .ok (.aload_n 0, 1) := dX10_back_69_b.2.2.2.2.1
theorem dX10_back_76 : decode cX10_back 76 = .ok (.getfield 114, 3) := dX10_back_69_b.2.2.2.2.2
set_option maxRecDepth 20000 in
theorem dX10_back_79_b : (decode cX10_back 79 = .ok (.aload_n 0, 1)) ∧ (decode cX10_back 80 = .ok (.getfield 96, 3)) ∧ (decode cX10_back 83 = .ok (.iload_n 2, 1)) ∧ (decode cX10_back 84 = .ok (.iaload, 1)) ∧ (decode cX10_back 85 = .ok (.aload_n 0, 1)) ∧ (decode cX10_back 86 = .ok (.getfield 102, 3)) := by decide +kernel
theorem dX10_back_79 : decode cX10_back 79 = .ok (.aload_n 0, 1) := dX10_back_79_b.1
theorem dX10_back_80 : decode cX10_back 80 = .ok (.getfield 96, 3) := dX10_back_79_b.2.1
theorem dX10_back_83 : decode cX10_back 83 = .ok (.iload_n 2, 1) := dX10_back_79_b.2.2.1
theorem dX10_back_84 : decode cX10_back 84 = .ok (.iaload, 1) := dX10_back_79_b.2.2.2.1
theorem dX10_back_85 : decode cX10_back 85 = .ok (.aload_n 0, 1) := dX10_back_79_b.2.2.2.2.1
theorem dX10_back_86 : decode cX10_back 86 = .ok (.getfield 102, 3) := dX10_back_79_b.2.2.2.2.2
set_option maxRecDepth 20000 in
theorem dX10_back_89_b : (decode cX10_back 89 = .ok (.iload_n 2, 1)) ∧ (decode cX10_back 90 = .ok (.iaload, 1)) ∧ (decode cX10_back 91 = .ok (.invokevirtual 405, 3)) ∧ (decode cX10_back 94 = .ok (.aload_n 0, 1)) ∧ (decode cX10_back 95 = .ok (.aload_n 0, 1)) ∧ (decode cX10_back 96 = .ok (.getfield 114, 3)) := by decide +kernel
theorem dX10_back_89 : decode cX10_back 89 = .ok (.iload_n 2, 1) := dX10_back_89_b.1
theorem dX10_back_90 : decode cX10_back 90 = .ok (.iaload, 1) := dX10_back_89_b.2.1
theorem dX10_back_91 : decode cX10_back 91 = .ok (.invokevirtual 405, 3) := dX10_back_89_b.2.2.1
theorem dX10_back_94 : decode cX10_back 94 = .ok (.aload_n 0, 1) := dX10_back_89_b.2.2.2.1
theorem dX10_back_95 : decode cX10_back 95 = .ok (.aload_n 0, 1) := dX10_back_89_b.2.2.2.2.1
theorem dX10_back_96 : decode cX10_back 96 = .ok (.getfield 114, 3) := dX10_back_89_b.2.2.2.2.2
set_option maxRecDepth 20000 in
theorem dX10_back_99_b : (decode cX10_back 99 = .ok (.invokevirtual 397, 3)) ∧ (decode cX10_back 102 = .ok (.ifCond .eq 28, 3)) ∧ (decode cX10_back 105 = .ok (.aload_n 0, 1)) ∧ (decode cX10_back 106 = .ok (.aload_n 0, 1)) ∧ (decode cX10_back 107 = .ok (.getfield 114, 3)) ∧ (decode cX10_back 110 = .ok (.aload_n 0, 1)) := by decide +kernel
theorem dX10_back_99 : decode cX10_back 99 = .ok (.invokevirtual 397, 3) := dX10_back_99_b.1
theorem dX10_back_102 : decode cX10_back 102 = .ok (.ifCond .eq 28, 3) := dX10_back_99_b.2.1
theorem dX10_back_105 : decode cX10_back 105 = .ok (.aload_n 0, 1) := dX10_back_99_b.2.2.1
theorem dX10_back_106 : decode cX10_back 106 = .ok (.aload_n 0, 1) := dX10_back_99_b.2.2.2.1
theorem dX10_back_107 : decode cX10_back 107 = .ok (.getfield 114, 3) := dX10_back_99_b.2.2.2.2.1
theorem dX10_back_110 : decode cX10_back 110 = .ok (.aload_n 0, 1) := dX10_back_99_b.2.2.2.2.2
set_option maxRecDepth 20000 in
theorem dX10_back_111_b : (decode cX10_back 111 = .ok (.getfield 96, 3)) ∧ (decode cX10_back 114 = .ok (.iload_n 2, 1)) ∧ (decode cX10_back 115 = .ok (.iaload, 1)) ∧ (decode cX10_back 116 = .ok (.invokevirtual 401, 3)) ∧ (decode cX10_back 119 = .ok (.ifCond .eq 11, 3)) ∧ (decode cX10_back 122 = .ok (.aload_n 0, 1)) := by decide +kernel
theorem dX10_back_111 : decode cX10_back 111 = .ok (.getfield 96, 3) := dX10_back_111_b.1
theorem dX10_back_114 : decode cX10_back 114 = .ok (.iload_n 2, 1) := dX10_back_111_b.2.1
theorem dX10_back_115 : decode cX10_back 115 = .ok (.iaload, 1) := dX10_back_111_b.2.2.1
theorem dX10_back_116 : decode cX10_back 116 = .ok (.invokevirtual 401, 3) := dX10_back_111_b.2.2.2.1
theorem dX10_back_119 : decode cX10_back 119 = .ok (.ifCond .eq 11, 3) := dX10_back_111_b.2.2.2.2.1
theorem dX10_back_122 : decode cX10_back 122 = .ok (.aload_n 0, 1) := dX10_back_111_b.2.2.2.2.2
set_option maxRecDepth 20000 in
theorem dX10_back_123_b : (decode cX10_back 123 = .ok (.iconst 1, 1)) ∧ (decode cX10_back 124 = .ok (.invokevirtual 409, 3)) ∧ (decode cX10_back 127 = .ok (.ifCond .eq 5, 3)) ∧ (decode cX10_back 130 = .ok (.iload_n 1, 1)) ∧ (decode cX10_back 131 = .ok (.ireturn, 1)) ∧ (decode cX10_back 132 = .ok (.iinc 1 1, 3)) := by decide +kernel
theorem dX10_back_123 : decode cX10_back 123 = .ok (.iconst 1, 1) := dX10_back_123_b.1
theorem dX10_back_124 : decode cX10_back 124 = .ok (.invokevirtual 409, 3) := dX10_back_123_b.2.1
theorem dX10_back_127 : decode cX10_back 127 = .ok (.ifCond .eq 5, 3) := dX10_back_123_b.2.2.1
theorem dX10_back_130 : decode cX10_back 130 = .ok (.iload_n 1, 1) := dX10_back_123_b.2.2.2.1
theorem dX10_back_131 : decode cX10_back 131 = .ok (.ireturn, 1) := dX10_back_123_b.2.2.2.2.1
theorem dX10_back_132 : decode cX10_back 132 = .ok (.iinc 1 1, 3) := dX10_back_123_b.2.2.2.2.2
set_option maxRecDepth 20000 in
theorem dX10_back_135_b : (decode cX10_back 135 = .ok (.iinc 2 (-1), 3)) ∧ (decode cX10_back 138 = .ok (.goto (-98), 3)) ∧ (decode cX10_back 141 = .ok (.iload_n 1, 1)) ∧ (decode cX10_back 142 = .ok (.ireturn, 1)) := by decide +kernel
theorem dX10_back_135 : decode cX10_back 135 = .ok (.iinc 2 (-1), 3) := dX10_back_135_b.1
theorem dX10_back_138 : decode cX10_back 138 = .ok (.goto (-98), 3) := dX10_back_135_b.2.1
theorem dX10_back_141 : decode cX10_back 141 = .ok (.iload_n 1, 1) := dX10_back_135_b.2.2.1
theorem dX10_back_142 : decode cX10_back 142 = .ok (.ireturn, 1) := dX10_back_135_b.2.2.2
set_option maxRecDepth 20000 in
theorem dX10_pack_0_b : (decode cX10_pack 0 = .ok (.iload_n 1, 1)) ∧ (decode cX10_pack 1 = .ok (.i2l, 1)) ∧ (decode cX10_pack 2 = .ok (.lstore_n 2, 1)) ∧ (decode cX10_pack 3 = .ok (.iconst 0, 1)) ∧ (decode cX10_pack 4 = .ok (.istore 4, 2)) ∧ (decode cX10_pack 6 = .ok (.iload 4, 2)) := by decide +kernel
theorem dX10_pack_0 : decode cX10_pack 0 = .ok (.iload_n 1, 1) := dX10_pack_0_b.1
theorem dX10_pack_1 : decode cX10_pack 1 = .ok (.i2l, 1) := dX10_pack_0_b.2.1
theorem dX10_pack_2 : decode cX10_pack 2 = .ok (.lstore_n 2, 1) := dX10_pack_0_b.2.2.1
theorem dX10_pack_3 : decode cX10_pack 3 = .ok (.iconst 0, 1) := dX10_pack_0_b.2.2.2.1
theorem dX10_pack_4 : decode cX10_pack 4 = .ok (.istore 4, 2) := dX10_pack_0_b.2.2.2.2.1
theorem dX10_pack_6 : decode cX10_pack 6 = .ok (.iload 4, 2) := dX10_pack_0_b.2.2.2.2.2
set_option maxRecDepth 20000 in
theorem dX10_pack_8_b : (decode cX10_pack 8 = .ok (.bipush 7, 2)) ∧ (decode cX10_pack 10 = .ok (.if_icmp .ge 21, 3)) ∧ (decode cX10_pack 13 = .ok (.ldc2_w 425, 3)) ∧ (decode cX10_pack 16 = .ok (.lload_n 2, 1)) ∧ (decode cX10_pack 17 = .ok (.lmul, 1)) ∧ (decode cX10_pack 18 = .ok (.aload_n 0, 1)) := by decide +kernel
theorem dX10_pack_8 : decode cX10_pack 8 = .ok (.bipush 7, 2) := dX10_pack_8_b.1
theorem dX10_pack_10 : decode cX10_pack 10 = .ok (.if_icmp .ge 21, 3) := dX10_pack_8_b.2.1
theorem dX10_pack_13 : decode cX10_pack 13 = .ok (.ldc2_w 425, 3) := dX10_pack_8_b.2.2.1
theorem dX10_pack_16 : decode cX10_pack 16 = .ok (.lload_n 2, 1) := dX10_pack_8_b.2.2.2.1
theorem dX10_pack_17 : decode cX10_pack 17 = .ok (.lmul, 1) := dX10_pack_8_b.2.2.2.2.1
theorem dX10_pack_18 : decode cX10_pack 18 = .ok (.aload_n 0, 1) := dX10_pack_8_b.2.2.2.2.2
set_option maxRecDepth 20000 in
theorem dX10_pack_19_b : (decode cX10_pack 19 = .ok (.iload 4, 2)) ∧ (decode cX10_pack 21 = .ok (.iaload, 1)) ∧ (decode cX10_pack 22 = .ok (.i2l, 1)) ∧ (decode cX10_pack 23 = .ok (.ladd, 1)) ∧ (decode cX10_pack 24 = .ok (.lstore_n 2, 1)) ∧ (decode cX10_pack 25 = .ok (.iinc 4 1, 3)) := by decide +kernel
theorem dX10_pack_19 : decode cX10_pack 19 = .ok (.iload 4, 2) := dX10_pack_19_b.1
theorem dX10_pack_21 : decode cX10_pack 21 = .ok (.iaload, 1) := dX10_pack_19_b.2.1
theorem dX10_pack_22 : decode cX10_pack 22 = .ok (.i2l, 1) := dX10_pack_19_b.2.2.1
theorem dX10_pack_23 : decode cX10_pack 23 = .ok (.ladd, 1) := dX10_pack_19_b.2.2.2.1
theorem dX10_pack_24 : decode cX10_pack 24 = .ok (.lstore_n 2, 1) := dX10_pack_19_b.2.2.2.2.1
theorem dX10_pack_25 : decode cX10_pack 25 = .ok (.iinc 4 1, 3) := dX10_pack_19_b.2.2.2.2.2
set_option maxRecDepth 20000 in
theorem dX10_pack_28_b : (decode cX10_pack 28 = .ok (.goto (-22), 3)) ∧ (decode cX10_pack 31 = .ok (.lload_n 2, 1)) ∧ (decode cX10_pack 32 = .ok (.lreturn, 1)) := by decide +kernel
theorem dX10_pack_28 : decode cX10_pack 28 = .ok (.goto (-22), 3) := dX10_pack_28_b.1
theorem dX10_pack_31 : decode cX10_pack 31 = .ok (.lload_n 2, 1) := dX10_pack_28_b.2.1
theorem dX10_pack_32 : decode cX10_pack 32 = .ok (.lreturn, 1) := dX10_pack_28_b.2.2
set_option maxRecDepth 20000 in
theorem dX10_unpack_0_b : (decode cX10_unpack 0 = .ok (.lload_n 1, 1)) ∧ (decode cX10_unpack 1 = .ok (.lstore_n 3, 1)) ∧ (decode cX10_unpack 2 = .ok (.bipush 6, 2)) ∧ (decode cX10_unpack 4 = .ok (.istore 5, 2)) ∧ (decode cX10_unpack 6 = .ok (.iload 5, 2)) ∧ (decode cX10_unpack 8 = .ok (.ifCond .lt 28, 3)) := by decide +kernel
theorem dX10_unpack_0 : decode cX10_unpack 0 = .ok (.lload_n 1, 1) := dX10_unpack_0_b.1
theorem dX10_unpack_1 : decode cX10_unpack 1 = .ok (.lstore_n 3, 1) := dX10_unpack_0_b.2.1
theorem dX10_unpack_2 : decode cX10_unpack 2 = .ok (.bipush 6, 2) := dX10_unpack_0_b.2.2.1
theorem dX10_unpack_4 : decode cX10_unpack 4 = .ok (.istore 5, 2) := dX10_unpack_0_b.2.2.2.1
theorem dX10_unpack_6 : decode cX10_unpack 6 = .ok (.iload 5, 2) := dX10_unpack_0_b.2.2.2.2.1
theorem dX10_unpack_8 : decode cX10_unpack 8 = .ok (.ifCond .lt 28, 3) := dX10_unpack_0_b.2.2.2.2.2
set_option maxRecDepth 20000 in
theorem dX10_unpack_11_b : (decode cX10_unpack 11 = .ok (.aload_n 0, 1)) ∧ (decode cX10_unpack 12 = .ok (.getfield 134, 3)) ∧ (decode cX10_unpack 15 = .ok (.iload 5, 2)) ∧ (decode cX10_unpack 17 = .ok (.lload_n 3, 1)) ∧ (decode cX10_unpack 18 = .ok (.ldc2_w 425, 3)) ∧ (decode cX10_unpack 21 = .ok (.lrem, 1)) := by decide +kernel
theorem dX10_unpack_11 : decode cX10_unpack 11 = .ok (.aload_n 0, 1) := dX10_unpack_11_b.1
theorem dX10_unpack_12 : decode cX10_unpack 12 = .ok (.getfield 134, 3) := dX10_unpack_11_b.2.1
theorem dX10_unpack_15 : decode cX10_unpack 15 = .ok (.iload 5, 2) := dX10_unpack_11_b.2.2.1
theorem dX10_unpack_17 : decode cX10_unpack 17 = .ok (.lload_n 3, 1) := dX10_unpack_11_b.2.2.2.1
theorem dX10_unpack_18 : decode cX10_unpack 18 = .ok (.ldc2_w 425, 3) := dX10_unpack_11_b.2.2.2.2.1
theorem dX10_unpack_21 : decode cX10_unpack 21 = .ok (.lrem, 1) := dX10_unpack_11_b.2.2.2.2.2
set_option maxRecDepth 20000 in
theorem dX10_unpack_22_b : (decode cX10_unpack 22 = .ok (.l2i, 1)) ∧ (decode cX10_unpack 23 = .ok (.iastore, 1)) ∧ (decode cX10_unpack 24 = .ok (.lload_n 3, 1)) ∧ (decode cX10_unpack 25 = .ok (.ldc2_w 425, 3)) ∧ (decode cX10_unpack 28 = .ok (.ldiv, 1)) ∧ (decode cX10_unpack 29 = .ok (.lstore_n 3, 1)) := by decide +kernel
theorem dX10_unpack_22 : decode cX10_unpack 22 = .ok (.l2i, 1) := dX10_unpack_22_b.1
theorem dX10_unpack_23 : decode cX10_unpack 23 = .ok (.iastore, 1) := dX10_unpack_22_b.2.1
theorem dX10_unpack_24 : decode cX10_unpack 24 = .ok (.lload_n 3, 1) := dX10_unpack_22_b.2.2.1
theorem dX10_unpack_25 : decode cX10_unpack 25 = .ok (.ldc2_w 425, 3) := dX10_unpack_22_b.2.2.2.1
theorem dX10_unpack_28 : decode cX10_unpack 28 = .ok (.ldiv, 1) := dX10_unpack_22_b.2.2.2.2.1
theorem dX10_unpack_29 : decode cX10_unpack 29 = .ok (.lstore_n 3, 1) := dX10_unpack_22_b.2.2.2.2.2
set_option maxRecDepth 20000 in
theorem dX10_unpack_30_b : (decode cX10_unpack 30 = .ok (.iinc 5 (-1), 3)) ∧ (decode cX10_unpack 33 = .ok (.goto (-27), 3)) ∧ (decode cX10_unpack 36 = .ok (.aload_n 0, 1)) ∧ (decode cX10_unpack 37 = .ok (.lload_n 3, 1)) ∧ (decode cX10_unpack 38 = .ok (.l2i, 1)) ∧ (decode cX10_unpack 39 = .ok (.putfield 427, 3)) := by decide +kernel
theorem dX10_unpack_30 : decode cX10_unpack 30 = .ok (.iinc 5 (-1), 3) := dX10_unpack_30_b.1
theorem dX10_unpack_33 : decode cX10_unpack 33 = .ok (.goto (-27), 3) := dX10_unpack_30_b.2.1
theorem dX10_unpack_36 : decode cX10_unpack 36 = .ok (.aload_n 0, 1) := dX10_unpack_30_b.2.2.1
theorem dX10_unpack_37 : decode cX10_unpack 37 = .ok (.lload_n 3, 1) := dX10_unpack_30_b.2.2.2.1
theorem dX10_unpack_38 : decode cX10_unpack 38 = .ok (.l2i, 1) := dX10_unpack_30_b.2.2.2.2.1
theorem dX10_unpack_39 : decode cX10_unpack 39 = .ok (.putfield 427, 3) := dX10_unpack_30_b.2.2.2.2.2
theorem dX10_unpack_42 : decode cX10_unpack 42 = .ok (.return_, 1) := by decide +kernel
set_option maxRecDepth 20000 in
theorem dX10_foldOf_0_b : (decode cX10_foldOf 0 = .ok (.lload_n 0, 1)) ∧ (decode cX10_foldOf 1 = .ok (.ldc2_w 430, 3)) ∧ (decode cX10_foldOf 4 = .ok (.lmul, 1)) ∧ (decode cX10_foldOf 5 = .ok (.lstore_n 2, 1)) ∧ (decode cX10_foldOf 6 = .ok (.lload_n 2, 1)) ∧ (decode cX10_foldOf 7 = .ok (.bipush 51, 2)) := by decide +kernel
theorem dX10_foldOf_0 : decode cX10_foldOf 0 = .ok (.lload_n 0, 1) := dX10_foldOf_0_b.1
theorem dX10_foldOf_1 : decode cX10_foldOf 1 = .ok (.ldc2_w 430, 3) := dX10_foldOf_0_b.2.1
theorem dX10_foldOf_4 : decode cX10_foldOf 4 = .ok (.lmul, 1) := dX10_foldOf_0_b.2.2.1
theorem dX10_foldOf_5 : decode cX10_foldOf 5 = .ok (.lstore_n 2, 1) := dX10_foldOf_0_b.2.2.2.1
theorem dX10_foldOf_6 : decode cX10_foldOf 6 = .ok (.lload_n 2, 1) := dX10_foldOf_0_b.2.2.2.2.1
theorem dX10_foldOf_7 : decode cX10_foldOf 7 = .ok (.bipush 51, 2) := dX10_foldOf_0_b.2.2.2.2.2
set_option maxRecDepth 20000 in
theorem dX10_foldOf_9_b : (decode cX10_foldOf 9 = .ok (.lushr, 1)) ∧ (decode cX10_foldOf 10 = .ok (.l2i, 1)) ∧ (decode cX10_foldOf 11 = .ok (.ireturn, 1)) := by decide +kernel
theorem dX10_foldOf_9 : decode cX10_foldOf 9 = .ok (.lushr, 1) := dX10_foldOf_9_b.1
theorem dX10_foldOf_10 : decode cX10_foldOf 10 = .ok (.l2i, 1) := dX10_foldOf_9_b.2.1
theorem dX10_foldOf_11 : decode cX10_foldOf 11 = .ok (.ireturn, 1) := dX10_foldOf_9_b.2.2
set_option maxRecDepth 20000 in
theorem ggX10_come_X10_foldOf : GoodIn wsX10_come wsX10_foldOf := goodIn_r _ [15, 16] (by decide +kernel) (by decide +kernel)
set_option maxRecDepth 20000 in
theorem gX10_come_X10_foldOf : GoodIn wsX10_come (va_wsS RX10 432 yX10_foldOf wsX10_foldOf) := goodIn_app (goodIn_of _ (by decide +kernel)) ggX10_come_X10_foldOf
set_option maxRecDepth 20000 in
theorem dX10_come_0_b : (decode cX10_come 0 = .ok (.lload_n 1, 1)) ∧ (decode cX10_come 1 = .ok (.invokestatic 432, 3)) ∧ (decode cX10_come 4 = .ok (.istore 4, 2)) ∧ (decode cX10_come 6 = .ok (.aload_n 0, 1)) ∧ (decode cX10_come 7 = .ok (.getfield 127, 3)) ∧ (decode cX10_come 10 = .ok (.iload 4, 2)) := by decide +kernel
theorem dX10_come_0 : decode cX10_come 0 = .ok (.lload_n 1, 1) := dX10_come_0_b.1
theorem dX10_come_1 : decode cX10_come 1 = .ok (.invokestatic 432, 3) := dX10_come_0_b.2.1
theorem dX10_come_4 : decode cX10_come 4 = .ok (.istore 4, 2) := dX10_come_0_b.2.2.1
theorem dX10_come_6 : decode cX10_come 6 = .ok (.aload_n 0, 1) := dX10_come_0_b.2.2.2.1
theorem dX10_come_7 : decode cX10_come 7 = .ok (.getfield 127, 3) := dX10_come_0_b.2.2.2.2.1
theorem dX10_come_10 : decode cX10_come 10 = .ok (.iload 4, 2) := dX10_come_0_b.2.2.2.2.2
set_option maxRecDepth 20000 in
theorem dX10_come_12_b : (decode cX10_come 12 = .ok (.iaload, 1)) ∧ (decode cX10_come 13 = .ok (.istore 5, 2)) ∧ (decode cX10_come 15 = .ok (.iload 5, 2)) ∧ (decode cX10_come 17 = .ok (.iconst (-1), 1)) ∧ (decode cX10_come 18 = .ok (.if_icmp .eq 49, 3)) ∧ (decode cX10_come 21 = .ok (.aload_n 0, 1)) := by decide +kernel
theorem dX10_come_12 : decode cX10_come 12 = .ok (.iaload, 1) := dX10_come_12_b.1
theorem dX10_come_13 : decode cX10_come 13 = .ok (.istore 5, 2) := dX10_come_12_b.2.1
theorem dX10_come_15 : decode cX10_come 15 = .ok (.iload 5, 2) := dX10_come_12_b.2.2.1
theorem dX10_come_17 : decode cX10_come 17 = .ok (.iconst (-1), 1) := dX10_come_12_b.2.2.2.1
theorem dX10_come_18 : decode cX10_come 18 = .ok (.if_icmp .eq 49, 3) := dX10_come_12_b.2.2.2.2.1
theorem dX10_come_21 : decode cX10_come 21 = .ok (.aload_n 0, 1) := dX10_come_12_b.2.2.2.2.2
set_option maxRecDepth 20000 in
theorem dX10_come_22_b : (decode cX10_come 22 = .ok (.getfield 117, 3)) ∧ (decode cX10_come 25 = .ok (.iload 5, 2)) ∧ (decode cX10_come 27 = .ok (.laload, 1)) ∧ (decode cX10_come 28 = .ok (.lload_n 1, 1)) ∧ (decode cX10_come 29 = .ok (.lcmp, 1)) ∧ (decode cX10_come 30 = .ok (.ifCond .eq 6, 3)) := by decide +kernel
theorem dX10_come_22 : decode cX10_come 22 = .ok (.getfield 117, 3) := dX10_come_22_b.1
theorem dX10_come_25 : decode cX10_come 25 = .ok (.iload 5, 2) := dX10_come_22_b.2.1
theorem dX10_come_27 : decode cX10_come 27 = .ok (.laload, 1) := dX10_come_22_b.2.2.1
theorem dX10_come_28 : decode cX10_come 28 = .ok (.lload_n 1, 1) := dX10_come_22_b.2.2.2.1
theorem dX10_come_29 : decode cX10_come 29 = .ok (.lcmp, 1) := dX10_come_22_b.2.2.2.2.1
theorem dX10_come_30 : decode cX10_come 30 = .ok (.ifCond .eq 6, 3) := dX10_come_22_b.2.2.2.2.2
set_option maxRecDepth 20000 in
theorem dX10_come_33_b : (decode cX10_come 33 = .ok (.goto 22, 3)) ∧ (decode cX10_come 36 = .ok (.aload_n 0, 1)) ∧ (decode cX10_come 37 = .ok (.getfield 121, 3)) ∧ (decode cX10_come 40 = .ok (.iload 5, 2)) ∧ (decode cX10_come 42 = .ok (.aload_n 0, 1)) ∧ (decode cX10_come 43 = .ok (.getfield 121, 3)) := by decide +kernel
theorem dX10_come_33 : decode cX10_come 33 = .ok (.goto 22, 3) := dX10_come_33_b.1
theorem dX10_come_36 : decode cX10_come 36 = .ok (.aload_n 0, 1) := dX10_come_33_b.2.1
theorem dX10_come_37 : decode cX10_come 37 = .ok (.getfield 121, 3) := dX10_come_33_b.2.2.1
theorem dX10_come_40 : decode cX10_come 40 = .ok (.iload 5, 2) := dX10_come_33_b.2.2.2.1
theorem dX10_come_42 : decode cX10_come 42 = .ok (.aload_n 0, 1) := dX10_come_33_b.2.2.2.2.1
theorem dX10_come_43 : decode cX10_come 43 = .ok (.getfield 121, 3) := dX10_come_33_b.2.2.2.2.2
set_option maxRecDepth 20000 in
theorem dX10_come_46_b : (decode cX10_come 46 = .ok (.iload 5, 2)) ∧ (decode cX10_come 48 = .ok (.iaload, 1)) ∧ (decode cX10_come 49 = .ok (.iload_n 3, 1)) ∧ (decode cX10_come 50 = .ok (.invokestatic 211, 3)) ∧ (decode cX10_come 53 = .ok (.iastore, 1)) ∧ (decode cX10_come 54 = .ok (.return_, 1)) := by decide +kernel
theorem dX10_come_46 : decode cX10_come 46 = .ok (.iload 5, 2) := dX10_come_46_b.1
theorem dX10_come_48 : decode cX10_come 48 = .ok (.iaload, 1) := dX10_come_46_b.2.1
theorem dX10_come_49 : decode cX10_come 49 = .ok (.iload_n 3, 1) := dX10_come_46_b.2.2.1
theorem dX10_come_50 : decode cX10_come 50 = .ok (.invokestatic 211, 3) := dX10_come_46_b.2.2.2.1
theorem dX10_come_53 : decode cX10_come 53 = .ok (.iastore, 1) := dX10_come_46_b.2.2.2.2.1
theorem dX10_come_54 : decode cX10_come 54 = .ok (.return_, 1) := dX10_come_46_b.2.2.2.2.2
set_option maxRecDepth 20000 in
theorem dX10_come_55_b : (decode cX10_come 55 = .ok (.aload_n 0, 1)) ∧ (decode cX10_come 56 = .ok (.getfield 124, 3)) ∧ (decode cX10_come 59 = .ok (.iload 5, 2)) ∧ (decode cX10_come 61 = .ok (.iaload, 1)) ∧ (decode cX10_come 62 = .ok (.istore 5, 2)) ∧ (decode cX10_come 64 = .ok (.goto (-49), 3)) := by decide +kernel
theorem dX10_come_55 : decode cX10_come 55 = .ok (.aload_n 0, 1) := dX10_come_55_b.1
theorem dX10_come_56 : decode cX10_come 56 = .ok (.getfield 124, 3) := dX10_come_55_b.2.1
theorem dX10_come_59 : decode cX10_come 59 = .ok (.iload 5, 2) := dX10_come_55_b.2.2.1
theorem dX10_come_61 : decode cX10_come 61 = .ok (.iaload, 1) := dX10_come_55_b.2.2.2.1
theorem dX10_come_62 : decode cX10_come 62 = .ok (.istore 5, 2) := dX10_come_55_b.2.2.2.2.1
theorem dX10_come_64 : decode cX10_come 64 = .ok (.goto (-49), 3) := dX10_come_55_b.2.2.2.2.2
set_option maxRecDepth 20000 in
theorem dX10_come_67_b : (decode cX10_come 67 = .ok (.aload_n 0, 1)) ∧ (decode cX10_come 68 = .ok (.getfield 436, 3)) ∧ (decode cX10_come 71 = .ok (.sipush 1500, 3)) ∧ (decode cX10_come 74 = .ok (.if_icmp .ne 9, 3)) ∧ (decode cX10_come 77 = .ok (.aload_n 0, 1)) ∧ (decode cX10_come 78 = .ok (.iconst 1, 1)) := by decide +kernel
theorem dX10_come_67 : decode cX10_come 67 = .ok (.aload_n 0, 1) := dX10_come_67_b.1
theorem dX10_come_68 : decode cX10_come 68 = .ok (.getfield 436, 3) := dX10_come_67_b.2.1
theorem dX10_come_71 : decode cX10_come 71 = .ok (.sipush 1500, 3) := dX10_come_67_b.2.2.1
theorem dX10_come_74 : decode cX10_come 74 = .ok (.if_icmp .ne 9, 3) := dX10_come_67_b.2.2.2.1
theorem dX10_come_77 : decode cX10_come 77 = .ok (.aload_n 0, 1) := dX10_come_67_b.2.2.2.2.1
theorem dX10_come_78 : decode cX10_come 78 = .ok (.iconst 1, 1) := dX10_come_67_b.2.2.2.2.2
set_option maxRecDepth 20000 in
theorem dX10_come_79_b : (decode cX10_come 79 = .ok (.putfield 439, 3)) ∧ (decode cX10_come 82 = .ok (.return_, 1)) ∧ (decode cX10_come 83 = .ok (.aload_n 0, 1)) ∧ (decode cX10_come 84 = .ok (.getfield 117, 3)) ∧ (decode cX10_come 87 = .ok (.aload_n 0, 1)) ∧ (decode cX10_come 88 = .ok (.getfield 436, 3)) := by decide +kernel
theorem dX10_come_79 : decode cX10_come 79 = .ok (.putfield 439, 3) := dX10_come_79_b.1
theorem dX10_come_82 : decode cX10_come 82 = .ok (.return_, 1) := dX10_come_79_b.2.1
theorem dX10_come_83 : decode cX10_come 83 = .ok (.aload_n 0, 1) := dX10_come_79_b.2.2.1
theorem dX10_come_84 : decode cX10_come 84 = .ok (.getfield 117, 3) := dX10_come_79_b.2.2.2.1
theorem dX10_come_87 : decode cX10_come 87 = .ok (.aload_n 0, 1) := dX10_come_79_b.2.2.2.2.1
theorem dX10_come_88 : decode cX10_come 88 = .ok (.getfield 436, 3) := dX10_come_79_b.2.2.2.2.2
set_option maxRecDepth 20000 in
theorem dX10_come_91_b : (decode cX10_come 91 = .ok (.lload_n 1, 1)) ∧ (decode cX10_come 92 = .ok (.lastore, 1)) ∧ (decode cX10_come 93 = .ok (.aload_n 0, 1)) ∧ (decode cX10_come 94 = .ok (.getfield 121, 3)) ∧ (decode cX10_come 97 = .ok (.aload_n 0, 1)) ∧ (decode cX10_come 98 = .ok (.getfield 436, 3)) := by decide +kernel
theorem dX10_come_91 : decode cX10_come 91 = .ok (.lload_n 1, 1) := dX10_come_91_b.1
theorem dX10_come_92 : decode cX10_come 92 = .ok (.lastore, 1) := dX10_come_91_b.2.1
theorem dX10_come_93 : decode cX10_come 93 = .ok (.aload_n 0, 1) := dX10_come_91_b.2.2.1
theorem dX10_come_94 : decode cX10_come 94 = .ok (.getfield 121, 3) := dX10_come_91_b.2.2.2.1
theorem dX10_come_97 : decode cX10_come 97 = .ok (.aload_n 0, 1) := dX10_come_91_b.2.2.2.2.1
theorem dX10_come_98 : decode cX10_come 98 = .ok (.getfield 436, 3) := dX10_come_91_b.2.2.2.2.2
set_option maxRecDepth 20000 in
theorem dX10_come_101_b : (decode cX10_come 101 = .ok (.iload_n 3, 1)) ∧ (decode cX10_come 102 = .ok (.iastore, 1)) ∧ (decode cX10_come 103 = .ok (.aload_n 0, 1)) ∧ (decode cX10_come 104 = .ok (.getfield 130, 3)) ∧ (decode cX10_come 107 = .ok (.aload_n 0, 1)) := by decide +kernel
theorem dX10_come_101 : decode cX10_come 101 = .ok (.iload_n 3, 1) := dX10_come_101_b.1
theorem dX10_come_102 : decode cX10_come 102 = .ok (.iastore, 1) := dX10_come_101_b.2.1
theorem dX10_come_103 : decode cX10_come 103 = .ok (.aload_n 0, 1) := dX10_come_101_b.2.2.1
theorem dX10_come_104 : decode cX10_come 104 = .ok (.getfield 130, 3) := dX10_come_101_b.2.2.2.1
theorem dX10_come_107 : decode cX10_come 107 = .ok (.aload_n 0, 1) := dX10_come_101_b.2.2.2.2
