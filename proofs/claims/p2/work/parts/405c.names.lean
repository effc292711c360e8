set_option maxRecDepth 20000 in
theorem dX10_come_108_b : (decode cX10_come 108 = .ok (.getfield 436, 3)) ∧ (decode cX10_come 111 = .ok (.iconst 0, 1)) ∧ (decode cX10_come 112 = .ok (.bastore, 1)) ∧ (decode cX10_come 113 = .ok (.aload_n 0, 1)) ∧ (decode cX10_come 114 = .ok (.getfield 124, 3)) ∧ (decode cX10_come 117 = .ok (.aload_n 0, 1)) := by decide +kernel
theorem dX10_come_108 : decode cX10_come 108 = .ok (.getfield 436, 3) := dX10_come_108_b.1
theorem dX10_come_111 : decode cX10_come 111 = .ok (.iconst 0, 1) := dX10_come_108_b.2.1
theorem dX10_come_112 : decode cX10_come 112 = .ok (.bastore, 1) := dX10_come_108_b.2.2.1
theorem dX10_come_113 : decode cX10_come 113 = .ok (.aload_n 0, 1) := dX10_come_108_b.2.2.2.1
theorem dX10_come_114 : decode cX10_come 114 = .ok (.getfield 124, 3) := dX10_come_108_b.2.2.2.2.1
theorem dX10_come_117 : decode cX10_come 117 = .ok (.aload_n 0, 1) := dX10_come_108_b.2.2.2.2.2
set_option maxRecDepth 20000 in
theorem dX10_come_118_b : (decode cX10_come 118 = .ok (.getfield 436, 3)) ∧ (decode cX10_come 121 = .ok (.aload_n 0, 1)) ∧ (decode cX10_come 122 = .ok (.getfield 127, 3)) ∧ (decode cX10_come 125 = .ok (.iload 4, 2)) ∧ (decode cX10_come 127 = .ok (.iaload, 1)) ∧ (decode cX10_come 128 = .ok (.iastore, 1)) := by decide +kernel
theorem dX10_come_118 : decode cX10_come 118 = .ok (.getfield 436, 3) := dX10_come_118_b.1
theorem dX10_come_121 : decode cX10_come 121 = .ok (.aload_n 0, 1) := dX10_come_118_b.2.1
theorem dX10_come_122 : decode cX10_come 122 = .ok (.getfield 127, 3) := dX10_come_118_b.2.2.1
theorem dX10_come_125 : decode cX10_come 125 = .ok (.iload 4, 2) := dX10_come_118_b.2.2.2.1
theorem dX10_come_127 : decode cX10_come 127 = .ok (.iaload, 1) := dX10_come_118_b.2.2.2.2.1
theorem dX10_come_128 : decode cX10_come 128 = .ok (.iastore, 1) := dX10_come_118_b.2.2.2.2.2
set_option maxRecDepth 20000 in
theorem dX10_come_129_b : (decode cX10_come 129 = .ok (.aload_n 0, 1)) ∧ (decode cX10_come 130 = .ok (.getfield 127, 3)) ∧ (decode cX10_come 133 = .ok (.iload 4, 2)) ∧ (decode cX10_come 135 = .ok (.aload_n 0, 1)) ∧ (decode cX10_come 136 = .ok (.getfield 436, 3)) ∧ (decode cX10_come 139 = .ok (.iastore, 1)) := by decide +kernel
theorem dX10_come_129 : decode cX10_come 129 = .ok (.aload_n 0, 1) := dX10_come_129_b.1
theorem dX10_come_130 : decode cX10_come 130 = .ok (.getfield 127, 3) := dX10_come_129_b.2.1
theorem dX10_come_133 : decode cX10_come 133 = .ok (.iload 4, 2) := dX10_come_129_b.2.2.1
theorem dX10_come_135 : decode cX10_come 135 = .ok (.aload_n 0, 1) := dX10_come_129_b.2.2.2.1
theorem dX10_come_136 : decode cX10_come 136 = .ok (.getfield 436, 3) := dX10_come_129_b.2.2.2.2.1
theorem dX10_come_139 : decode cX10_come 139 = .ok (.iastore, 1) := dX10_come_129_b.2.2.2.2.2
set_option maxRecDepth 20000 in
theorem dX10_come_140_b : (decode cX10_come 140 = .ok (.aload_n 0, 1)) ∧ (decode cX10_come 141 = .ok (.dup, 1)) ∧ (decode cX10_come 142 = .ok (.getfield 436, 3)) ∧ (decode cX10_come 145 = .ok (.iconst 1, 1)) ∧ (decode cX10_come 146 = .ok (.iadd, 1)) ∧ (decode cX10_come 147 = .ok (.putfield 436, 3)) := by decide +kernel
theorem dX10_come_140 : decode cX10_come 140 = .ok (.aload_n 0, 1) := dX10_come_140_b.1
theorem dX10_come_141 : decode cX10_come 141 = .ok (.dup, 1) := dX10_come_140_b.2.1
theorem dX10_come_142 : decode cX10_come 142 = .ok (.getfield 436, 3) := dX10_come_140_b.2.2.1
theorem dX10_come_145 : decode cX10_come 145 = .ok (.iconst 1, 1) := dX10_come_140_b.2.2.2.1
theorem dX10_come_146 : decode cX10_come 146 = .ok (.iadd, 1) := dX10_come_140_b.2.2.2.2.1
theorem dX10_come_147 : decode cX10_come 147 = .ok (.putfield 436, 3) := dX10_come_140_b.2.2.2.2.2
theorem dX10_come_150 : decode cX10_come 150 = .ok (.return_, 1) := by decide +kernel
set_option maxRecDepth 20000 in
theorem ggX10_arrange_X10_rideOn : GoodIn wsX10_arrange wsX10_rideOn := goodIn_r _ [11, 4, 5, 12, 13, 14, 15, 16, 17, 10, 18, 19, 20, 21, 22, 23, 2, 24, 25, 26, 27, 28, 29, 30, 31, 32, 33, 34, 35, 36, 37, 38, 39, 40, 41, 42, 43, 44, 45, 46, 47, 48, 49, 50, 51, 52, 53, 54, 55, 56, 57, 58, 59, 60, 61, 62, 63, 64, 65, 66, 67, 68, 69, 70, 71, 72, 73, 74, 75, 76, 77, 78, 79, 80, 81, 82, 83, 84, 85, 86, 87, 88, 89, 90, 91, 92, 93, 94, 95, 96, 97, 1, 98, 99, 100, 101, 102, 114, 115, 116, 117, 118, 119, 120, 121, 122, 123, 124, 125, 126, 127, 128, 129, 130, 131, 132, 133, 134, 135, 136, 137, 138, 139, 140, 141, 142, 143, 144, 145, 146, 147, 148, 149, 150, 151, 152, 153, 154, 155, 156, 157, 158, 159, 160, 161, 162, 163, 164, 165, 166, 167, 168, 169, 170, 171, 172, 173, 174, 175, 176, 177, 178, 179, 180, 181, 182, 183, 184] (by decide +kernel) (by decide +kernel)
set_option maxRecDepth 20000 in
theorem gX10_arrange_X10_rideOn : GoodIn wsX10_arrange (wsV RX10 442 RX10 yX10_rideOn wsX10_rideOn) := goodIn_app (goodIn_of _ (by decide +kernel)) ggX10_arrange_X10_rideOn
set_option maxRecDepth 20000 in
theorem ggX10_arrange_X10_arrange : GoodIn wsX10_arrange wsX10_arrange := goodIn_r _ [0, 1, 2, 3, 4, 5, 6, 7, 8, 9, 10, 11, 12, 13, 14, 15, 16, 17, 18, 19, 20, 21, 22, 23, 24, 25, 26, 27, 28, 29, 30, 31, 32, 33, 34, 35, 36, 37, 38, 39, 40, 41, 42, 43, 44, 45, 46, 47, 48, 49, 50, 51, 52, 53, 54, 55, 56, 57, 58, 59, 60, 61, 62, 63, 64, 65, 66, 67, 68, 69, 70, 71, 72, 73, 74, 75, 76, 77, 78, 79, 80, 81, 82, 83, 84, 85, 86, 87, 88, 89, 90, 91, 92, 93, 94, 95, 96, 97, 98, 99, 100, 101, 102, 103, 104, 105, 106, 107, 108, 109, 110, 111, 112, 113, 114, 115, 116, 117, 118, 119, 120, 121, 122, 123, 124, 125, 126, 127, 128, 129, 130, 131, 132, 133, 134, 135, 136, 137, 138, 139, 140, 141, 142, 143, 144, 145, 146, 147, 148, 149, 150, 151, 152, 153, 154, 155, 156, 157, 158, 159, 160, 161, 162, 163, 164, 165, 166, 167, 168, 169, 170, 171, 172, 173, 174, 175, 176, 177, 178, 179, 180, 181, 182, 183, 184] (by decide +kernel) (by decide +kernel)
set_option maxRecDepth 20000 in
theorem gX10_arrange_X10_arrange : GoodIn wsX10_arrange (wsV RX10 445 RX10 yX10_arrange wsX10_arrange) := goodIn_app (goodIn_of _ (by decide +kernel)) ggX10_arrange_X10_arrange
set_option maxRecDepth 20000 in
theorem ggX10_arrange_X10_depths : GoodIn wsX10_arrange wsX10_depths := goodIn_r _ [50, 19, 114, 115, 116, 117, 118, 119, 120, 121, 122, 123, 124, 125, 126, 127, 128, 129, 130, 131, 132, 133, 134, 135, 136, 137, 138, 139, 140, 141, 142, 143, 144, 145, 146, 147, 148, 149, 150, 151, 152, 153, 154, 155, 156, 157, 158, 159, 160, 161, 162, 163, 164, 165, 166, 167, 168, 169, 170, 171, 172, 173, 174, 175, 176, 177, 178, 179, 180, 181, 182, 183, 184] (by decide +kernel) (by decide +kernel)
set_option maxRecDepth 20000 in
theorem gX10_arrange_X10_depths : GoodIn wsX10_arrange (wsV RX10 346 RX10 yX10_depths wsX10_depths) := goodIn_app (goodIn_of _ (by decide +kernel)) ggX10_arrange_X10_depths
set_option maxRecDepth 20000 in
theorem ggX10_arrange_X10_unloadedAt : GoodIn wsX10_arrange wsX10_unloadedAt := goodIn_r _ [109, 42, 6, 114, 115, 116, 117, 118, 119, 120, 121, 122, 123, 124, 125, 126, 127, 128, 129, 130, 131, 132, 133, 134, 135, 136, 137, 138, 139, 140, 141, 142, 143, 144, 145, 146, 147, 148, 149, 150, 151, 152, 153, 154, 155, 156, 157, 158, 159, 160, 161, 162, 163, 164, 165, 166, 167, 168, 169, 170, 171, 172, 173, 174, 175, 176, 177, 178, 179, 180, 181, 182, 183, 184] (by decide +kernel) (by decide +kernel)
set_option maxRecDepth 20000 in
theorem gX10_arrange_X10_unloadedAt : GoodIn wsX10_arrange (wsV RX10 419 RX10 yX10_unloadedAt wsX10_unloadedAt) := goodIn_app (goodIn_of _ (by decide +kernel)) ggX10_arrange_X10_unloadedAt
set_option maxRecDepth 20000 in
theorem ggX10_arrange_X10_isServed : GoodIn wsX10_arrange wsX10_isServed := goodIn_r _ [113, 6, 114, 115, 116, 117, 118, 119, 120, 121, 122, 123, 124, 125, 126, 127, 128, 129, 130, 131, 132, 133, 134, 135, 136, 137, 138, 139, 140, 141, 142, 143, 144, 145, 146, 147, 148, 149, 150, 151, 152, 153, 154, 155, 156, 157, 158, 159, 160, 161, 162, 163, 164, 165, 166, 167, 168, 169, 170, 171, 172, 173, 174, 175, 176, 177, 178, 179, 180, 181, 182, 183, 184] (by decide +kernel) (by decide +kernel)
set_option maxRecDepth 20000 in
theorem gX10_arrange_X10_isServed : GoodIn wsX10_arrange (wsV RX10 355 RX10 yX10_isServed wsX10_isServed) := goodIn_app (goodIn_of _ (by decide +kernel)) ggX10_arrange_X10_isServed
set_option maxRecDepth 20000 in
theorem dX10_arrange_0_b : (decode cX10_arrange 0 = .ok (.aload_n 0, 1)) ∧ (decode cX10_arrange 1 = .ok (.getfield 439, 3)) ∧ (decode cX10_arrange 4 = .ok (.ifCond .eq 4, 3)) ∧ (decode cX10_arrange 7 = .ok (.return_, 1)) ∧ (decode cX10_arrange 8 = .ok (.iload_n 1, 1)) ∧ (decode cX10_arrange 9 = .ok (.aload_n 0, 1)) := by decide +kernel
theorem dX10_arrange_0 : decode cX10_arrange 0 = .ok (.aload_n 0, 1) := dX10_arrange_0_b.1
theorem dX10_arrange_1 : decode cX10_arrange 1 = .ok (.getfield 439, 3) := dX10_arrange_0_b.2.1
theorem dX10_arrange_4 : decode cX10_arrange 4 = .ok (.ifCond .eq 4, 3) := dX10_arrange_0_b.2.2.1
theorem dX10_arrange_7 : decode cX10_arrange 7 = .ok (.return_, 1) := dX10_arrange_0_b.2.2.2.1
theorem dX10_arrange_8 : decode cX10_arrange 8 = .ok (.iload_n 1, 1) := dX10_arrange_0_b.2.2.2.2.1
theorem dX10_arrange_9 : decode cX10_arrange 9 = .ok (.aload_n 0, 1) := dX10_arrange_0_b.2.2.2.2.2
set_option maxRecDepth 20000 in
theorem dX10_arrange_10_b : (decode cX10_arrange 10 = .ok (.getfield 174, 3)) ∧ (decode cX10_arrange 13 = .ok (.if_icmp .ne 8, 3)) ∧ (decode cX10_arrange 16 = .ok (.aload_n 0, 1)) ∧ (decode cX10_arrange 17 = .ok (.invokevirtual 442, 3)) ∧ (decode cX10_arrange 20 = .ok (.return_, 1)) ∧ (decode cX10_arrange 21 = .ok (.aload_n 0, 1)) := by decide +kernel
theorem dX10_arrange_10 : decode cX10_arrange 10 = .ok (.getfield 174, 3) := dX10_arrange_10_b.1
theorem dX10_arrange_13 : decode cX10_arrange 13 = .ok (.if_icmp .ne 8, 3) := dX10_arrange_10_b.2.1
theorem dX10_arrange_16 : decode cX10_arrange 16 = .ok (.aload_n 0, 1) := dX10_arrange_10_b.2.2.1
theorem dX10_arrange_17 : decode cX10_arrange 17 = .ok (.invokevirtual 442, 3) := dX10_arrange_10_b.2.2.2.1
theorem dX10_arrange_20 : decode cX10_arrange 20 = .ok (.return_, 1) := dX10_arrange_10_b.2.2.2.2.1
theorem dX10_arrange_21 : decode cX10_arrange 21 = .ok (.aload_n 0, 1) := dX10_arrange_10_b.2.2.2.2.2
set_option maxRecDepth 20000 in
theorem dX10_arrange_22_b : (decode cX10_arrange 22 = .ok (.getfield 134, 3)) ∧ (decode cX10_arrange 25 = .ok (.iload_n 1, 1)) ∧ (decode cX10_arrange 26 = .ok (.iaload, 1)) ∧ (decode cX10_arrange 27 = .ok (.istore_n 2, 1)) ∧ (decode cX10_arrange 28 = .ok (.aload_n 0, 1)) ∧ (decode cX10_arrange 29 = .ok (.getfield 137, 3)) := by decide +kernel
theorem dX10_arrange_22 : decode cX10_arrange 22 = .ok (.getfield 134, 3) := dX10_arrange_22_b.1
theorem dX10_arrange_25 : decode cX10_arrange 25 = .ok (.iload_n 1, 1) := dX10_arrange_22_b.2.1
theorem dX10_arrange_26 : decode cX10_arrange 26 = .ok (.iaload, 1) := dX10_arrange_22_b.2.2.1
theorem dX10_arrange_27 : decode cX10_arrange 27 = .ok (.istore_n 2, 1) := dX10_arrange_22_b.2.2.2.1
theorem dX10_arrange_28 : decode cX10_arrange 28 = .ok (.aload_n 0, 1) := dX10_arrange_22_b.2.2.2.2.1
theorem dX10_arrange_29 : decode cX10_arrange 29 = .ok (.getfield 137, 3) := dX10_arrange_22_b.2.2.2.2.2
set_option maxRecDepth 20000 in
theorem dX10_arrange_32_b : (decode cX10_arrange 32 = .ok (.iload_n 1, 1)) ∧ (decode cX10_arrange 33 = .ok (.iload_n 2, 1)) ∧ (decode cX10_arrange 34 = .ok (.iastore, 1)) ∧ (decode cX10_arrange 35 = .ok (.aload_n 0, 1)) ∧ (decode cX10_arrange 36 = .ok (.iload_n 1, 1)) ∧ (decode cX10_arrange 37 = .ok (.iconst 1, 1)) := by decide +kernel
theorem dX10_arrange_32 : decode cX10_arrange 32 = .ok (.iload_n 1, 1) := dX10_arrange_32_b.1
theorem dX10_arrange_33 : decode cX10_arrange 33 = .ok (.iload_n 2, 1) := dX10_arrange_32_b.2.1
theorem dX10_arrange_34 : decode cX10_arrange 34 = .ok (.iastore, 1) := dX10_arrange_32_b.2.2.1
theorem dX10_arrange_35 : decode cX10_arrange 35 = .ok (.aload_n 0, 1) := dX10_arrange_32_b.2.2.2.1
theorem dX10_arrange_36 : decode cX10_arrange 36 = .ok (.iload_n 1, 1) := dX10_arrange_32_b.2.2.2.2.1
theorem dX10_arrange_37 : decode cX10_arrange 37 = .ok (.iconst 1, 1) := dX10_arrange_32_b.2.2.2.2.2
set_option maxRecDepth 20000 in
theorem dX10_arrange_38_b : (decode cX10_arrange 38 = .ok (.iadd, 1)) ∧ (decode cX10_arrange 39 = .ok (.invokevirtual 445, 3)) ∧ (decode cX10_arrange 42 = .ok (.aload_n 0, 1)) ∧ (decode cX10_arrange 43 = .ok (.getfield 427, 3)) ∧ (decode cX10_arrange 46 = .ok (.istore_n 3, 1)) ∧ (decode cX10_arrange 47 = .ok (.aload_n 0, 1)) := by decide +kernel
theorem dX10_arrange_38 : decode cX10_arrange 38 = .ok (.iadd, 1) := dX10_arrange_38_b.1
theorem dX10_arrange_39 : decode cX10_arrange 39 = .ok (.invokevirtual 445, 3) := dX10_arrange_38_b.2.1
theorem dX10_arrange_42 : decode cX10_arrange 42 = .ok (.aload_n 0, 1) := dX10_arrange_38_b.2.2.1
theorem dX10_arrange_43 : decode cX10_arrange 43 = .ok (.getfield 427, 3) := dX10_arrange_38_b.2.2.2.1
theorem dX10_arrange_46 : decode cX10_arrange 46 = .ok (.istore_n 3, 1) := dX10_arrange_38_b.2.2.2.2.1
theorem dX10_arrange_47 : decode cX10_arrange 47 = .ok (.aload_n 0, 1) := dX10_arrange_38_b.2.2.2.2.2
set_option maxRecDepth 20000 in
theorem dX10_arrange_48_b : (decode cX10_arrange 48 = .ok (.invokevirtual 346, 3)) ∧ (decode cX10_arrange 51 = .ok (.aload_n 0, 1)) ∧ (decode cX10_arrange 52 = .ok (.getfield 427, 3)) ∧ (decode cX10_arrange 55 = .ok (.isub, 1)) ∧ (decode cX10_arrange 56 = .ok (.istore 4, 2)) ∧ (decode cX10_arrange 58 = .ok (.iload_n 2, 1)) := by decide +kernel
theorem dX10_arrange_48 : decode cX10_arrange 48 = .ok (.invokevirtual 346, 3) := dX10_arrange_48_b.1
theorem dX10_arrange_51 : decode cX10_arrange 51 = .ok (.aload_n 0, 1) := dX10_arrange_48_b.2.1
theorem dX10_arrange_52 : decode cX10_arrange 52 = .ok (.getfield 427, 3) := dX10_arrange_48_b.2.2.1
theorem dX10_arrange_55 : decode cX10_arrange 55 = .ok (.isub, 1) := dX10_arrange_48_b.2.2.2.1
theorem dX10_arrange_56 : decode cX10_arrange 56 = .ok (.istore 4, 2) := dX10_arrange_48_b.2.2.2.2.1
theorem dX10_arrange_58 : decode cX10_arrange 58 = .ok (.iload_n 2, 1) := dX10_arrange_48_b.2.2.2.2.2
set_option maxRecDepth 20000 in
theorem dX10_arrange_59_b : (decode cX10_arrange 59 = .ok (.bipush 12, 2)) ∧ (decode cX10_arrange 61 = .ok (.if_icmp .eq 9, 3)) ∧ (decode cX10_arrange 64 = .ok (.iload_n 2, 1)) ∧ (decode cX10_arrange 65 = .ok (.bipush 13, 2)) ∧ (decode cX10_arrange 67 = .ok (.if_icmp .ne 7, 3)) ∧ (decode cX10_arrange 70 = .ok (.iconst 1, 1)) := by decide +kernel
theorem dX10_arrange_59 : decode cX10_arrange 59 = .ok (.bipush 12, 2) := dX10_arrange_59_b.1
theorem dX10_arrange_61 : decode cX10_arrange 61 = .ok (.if_icmp .eq 9, 3) := dX10_arrange_59_b.2.1
theorem dX10_arrange_64 : decode cX10_arrange 64 = .ok (.iload_n 2, 1) := dX10_arrange_59_b.2.2.1
theorem dX10_arrange_65 : decode cX10_arrange 65 = .ok (.bipush 13, 2) := dX10_arrange_59_b.2.2.2.1
theorem dX10_arrange_67 : decode cX10_arrange 67 = .ok (.if_icmp .ne 7, 3) := dX10_arrange_59_b.2.2.2.2.1
theorem dX10_arrange_70 : decode cX10_arrange 70 = .ok (.iconst 1, 1) := dX10_arrange_59_b.2.2.2.2.2
set_option maxRecDepth 20000 in
theorem dX10_arrange_71_b : (decode cX10_arrange 71 = .ok (.goto 4, 3)) ∧ (decode cX10_arrange 74 = .ok (.iconst 0, 1)) ∧ (decode cX10_arrange 75 = .ok (.istore 5, 2)) ∧ (decode cX10_arrange 77 = .ok (.iload 5, 2)) ∧ (decode cX10_arrange 79 = .ok (.ifCond .eq 83, 3)) ∧ (decode cX10_arrange 82 = .ok (.iload_n 2, 1)) := by decide +kernel
theorem dX10_arrange_71 : decode cX10_arrange 71 = .ok (.goto 4, 3) := dX10_arrange_71_b.1
theorem dX10_arrange_74 : decode cX10_arrange 74 = .ok (.iconst 0, 1) := dX10_arrange_71_b.2.1
theorem dX10_arrange_75 : decode cX10_arrange 75 = .ok (.istore 5, 2) := dX10_arrange_71_b.2.2.1
theorem dX10_arrange_77 : decode cX10_arrange 77 = .ok (.iload 5, 2) := dX10_arrange_71_b.2.2.2.1
theorem dX10_arrange_79 : decode cX10_arrange 79 = .ok (.ifCond .eq 83, 3) := dX10_arrange_71_b.2.2.2.2.1
theorem dX10_arrange_82 : decode cX10_arrange 82 = .ok (.iload_n 2, 1) := dX10_arrange_71_b.2.2.2.2.2
set_option maxRecDepth 20000 in
theorem dX10_arrange_83_b : (decode cX10_arrange 83 = .ok (.bipush 12, 2)) ∧ (decode cX10_arrange 85 = .ok (.if_icmp .ne 7, 3)) ∧ (decode cX10_arrange 88 = .ok (.iload_n 3, 1)) ∧ (decode cX10_arrange 89 = .ok (.goto 5, 3)) ∧ (decode cX10_arrange 92 = .ok (.iload 4, 2)) ∧ (decode cX10_arrange 94 = .ok (.istore 6, 2)) := by decide +kernel
theorem dX10_arrange_83 : decode cX10_arrange 83 = .ok (.bipush 12, 2) := dX10_arrange_83_b.1
theorem dX10_arrange_85 : decode cX10_arrange 85 = .ok (.if_icmp .ne 7, 3) := dX10_arrange_83_b.2.1
theorem dX10_arrange_88 : decode cX10_arrange 88 = .ok (.iload_n 3, 1) := dX10_arrange_83_b.2.2.1
theorem dX10_arrange_89 : decode cX10_arrange 89 = .ok (.goto 5, 3) := dX10_arrange_83_b.2.2.2.1
theorem dX10_arrange_92 : decode cX10_arrange 92 = .ok (.iload 4, 2) := dX10_arrange_83_b.2.2.2.2.1
theorem dX10_arrange_94 : decode cX10_arrange 94 = .ok (.istore 6, 2) := dX10_arrange_83_b.2.2.2.2.2
set_option maxRecDepth 20000 in
theorem dX10_arrange_96_b : (decode cX10_arrange 96 = .ok (.aload_n 0, 1)) ∧ (decode cX10_arrange 97 = .ok (.getfield 137, 3)) ∧ (decode cX10_arrange 100 = .ok (.iload_n 1, 1)) ∧ (decode cX10_arrange 101 = .ok (.aload_n 0, 1)) ∧ (decode cX10_arrange 102 = .ok (.iload_n 1, 1)) ∧ (decode cX10_arrange 103 = .ok (.iload 6, 2)) := by decide +kernel
theorem dX10_arrange_96 : decode cX10_arrange 96 = .ok (.aload_n 0, 1) := dX10_arrange_96_b.1
theorem dX10_arrange_97 : decode cX10_arrange 97 = .ok (.getfield 137, 3) := dX10_arrange_96_b.2.1
theorem dX10_arrange_100 : decode cX10_arrange 100 = .ok (.iload_n 1, 1) := dX10_arrange_96_b.2.2.1
theorem dX10_arrange_101 : decode cX10_arrange 101 = .ok (.aload_n 0, 1) := dX10_arrange_96_b.2.2.2.1
theorem dX10_arrange_102 : decode cX10_arrange 102 = .ok (.iload_n 1, 1) := dX10_arrange_96_b.2.2.2.2.1
theorem dX10_arrange_103 : decode cX10_arrange 103 = .ok (.iload 6, 2) := dX10_arrange_96_b.2.2.2.2.2
set_option maxRecDepth 20000 in
theorem dX10_arrange_105_b : (decode cX10_arrange 105 = .ok (.invokevirtual 419, 3)) ∧ (decode cX10_arrange 108 = .ok (.iastore, 1)) ∧ (decode cX10_arrange 109 = .ok (.aload_n 0, 1)) ∧ (decode cX10_arrange 110 = .ok (.iload_n 1, 1)) ∧ (decode cX10_arrange 111 = .ok (.iconst 1, 1)) ∧ (decode cX10_arrange 112 = .ok (.iadd, 1)) := by decide +kernel
theorem dX10_arrange_105 : decode cX10_arrange 105 = .ok (.invokevirtual 419, 3) := dX10_arrange_105_b.1
theorem dX10_arrange_108 : decode cX10_arrange 108 = .ok (.iastore, 1) := dX10_arrange_105_b.2.1
theorem dX10_arrange_109 : decode cX10_arrange 109 = .ok (.aload_n 0, 1) := dX10_arrange_105_b.2.2.1
theorem dX10_arrange_110 : decode cX10_arrange 110 = .ok (.iload_n 1, 1) := dX10_arrange_105_b.2.2.2.1
theorem dX10_arrange_111 : decode cX10_arrange 111 = .ok (.iconst 1, 1) := dX10_arrange_105_b.2.2.2.2.1
theorem dX10_arrange_112 : decode cX10_arrange 112 = .ok (.iadd, 1) := dX10_arrange_105_b.2.2.2.2.2
set_option maxRecDepth 20000 in
theorem dX10_arrange_113_b : (decode cX10_arrange 113 = .ok (.invokevirtual 445, 3)) ∧ (decode cX10_arrange 116 = .ok (.iload_n 3, 1)) ∧ (decode cX10_arrange 117 = .ok (.iload 4, 2)) ∧ (decode cX10_arrange 119 = .ok (.if_icmp .ne 40, 3)) ∧ (decode cX10_arrange 122 = .ok (.aload_n 0, 1)) ∧ (decode cX10_arrange 123 = .ok (.getfield 65, 3)) := by decide +kernel
theorem dX10_arrange_113 : decode cX10_arrange 113 = .ok (.invokevirtual 445, 3) := dX10_arrange_113_b.1
theorem dX10_arrange_116 : decode cX10_arrange 116 = .ok (.iload_n 3, 1) := dX10_arrange_113_b.2.1
theorem dX10_arrange_117 : decode cX10_arrange 117 = .ok (.iload 4, 2) := dX10_arrange_113_b.2.2.1
theorem dX10_arrange_119 : decode cX10_arrange 119 = .ok (.if_icmp .ne 40, 3) := dX10_arrange_113_b.2.2.2.1
theorem dX10_arrange_122 : decode cX10_arrange 122 = .ok (.aload_n 0, 1) := dX10_arrange_113_b.2.2.2.2.1
theorem dX10_arrange_123 : decode cX10_arrange 123 = .ok (.getfield 65, 3) := dX10_arrange_113_b.2.2.2.2.2
set_option maxRecDepth 20000 in
theorem dX10_arrange_126_b : (decode cX10_arrange 126 = .ok (.iload_n 1, 1)) ∧ (decode cX10_arrange 127 = .ok (.iaload, 1)) ∧ (decode cX10_arrange 128 = .ok (.iload 6, 2)) ∧ (decode cX10_arrange 130 = .ok (.if_icmp .eq 29, 3)) ∧ (decode cX10_arrange 133 = .ok (.aload_n 0, 1)) ∧ (decode cX10_arrange 134 = .ok (.getfield 137, 3)) := by decide +kernel
theorem dX10_arrange_126 : decode cX10_arrange 126 = .ok (.iload_n 1, 1) := dX10_arrange_126_b.1
theorem dX10_arrange_127 : decode cX10_arrange 127 = .ok (.iaload, 1) := dX10_arrange_126_b.2.1
theorem dX10_arrange_128 : decode cX10_arrange 128 = .ok (.iload 6, 2) := dX10_arrange_126_b.2.2.1
theorem dX10_arrange_130 : decode cX10_arrange 130 = .ok (.if_icmp .eq 29, 3) := dX10_arrange_126_b.2.2.2.1
theorem dX10_arrange_133 : decode cX10_arrange 133 = .ok (.aload_n 0, 1) := dX10_arrange_126_b.2.2.2.2.1
theorem dX10_arrange_134 : decode cX10_arrange 134 = .ok (.getfield 137, 3) := dX10_arrange_126_b.2.2.2.2.2
set_option maxRecDepth 20000 in
theorem dX10_arrange_137_b : (decode cX10_arrange 137 = .ok (.iload_n 1, 1)) ∧ (decode cX10_arrange 138 = .ok (.iload_n 2, 1)) ∧ (decode cX10_arrange 139 = .ok (.bipush 12, 2)) ∧ (decode cX10_arrange 141 = .ok (.if_icmp .ne 8, 3)) ∧ (decode cX10_arrange 144 = .ok (.bipush 13, 2)) ∧ (decode cX10_arrange 146 = .ok (.goto 5, 3)) := by decide +kernel
theorem dX10_arrange_137 : decode cX10_arrange 137 = .ok (.iload_n 1, 1) := dX10_arrange_137_b.1
theorem dX10_arrange_138 : decode cX10_arrange 138 = .ok (.iload_n 2, 1) := dX10_arrange_137_b.2.1
theorem dX10_arrange_139 : decode cX10_arrange 139 = .ok (.bipush 12, 2) := dX10_arrange_137_b.2.2.1
theorem dX10_arrange_141 : decode cX10_arrange 141 = .ok (.if_icmp .ne 8, 3) := dX10_arrange_137_b.2.2.2.1
theorem dX10_arrange_144 : decode cX10_arrange 144 = .ok (.bipush 13, 2) := dX10_arrange_137_b.2.2.2.2.1
theorem dX10_arrange_146 : decode cX10_arrange 146 = .ok (.goto 5, 3) := dX10_arrange_137_b.2.2.2.2.2
set_option maxRecDepth 20000 in
theorem dX10_arrange_149_b : (decode cX10_arrange 149 = .ok (.bipush 12, 2)) ∧ (decode cX10_arrange 151 = .ok (.iastore, 1)) ∧ (decode cX10_arrange 152 = .ok (.aload_n 0, 1)) ∧ (decode cX10_arrange 153 = .ok (.iload_n 1, 1)) ∧ (decode cX10_arrange 154 = .ok (.iconst 1, 1)) ∧ (decode cX10_arrange 155 = .ok (.iadd, 1)) := by decide +kernel
theorem dX10_arrange_149 : decode cX10_arrange 149 = .ok (.bipush 12, 2) := dX10_arrange_149_b.1
theorem dX10_arrange_151 : decode cX10_arrange 151 = .ok (.iastore, 1) := dX10_arrange_149_b.2.1
theorem dX10_arrange_152 : decode cX10_arrange 152 = .ok (.aload_n 0, 1) := dX10_arrange_149_b.2.2.1
theorem dX10_arrange_153 : decode cX10_arrange 153 = .ok (.iload_n 1, 1) := dX10_arrange_149_b.2.2.2.1
theorem dX10_arrange_154 : decode cX10_arrange 154 = .ok (.iconst 1, 1) := dX10_arrange_149_b.2.2.2.2.1
theorem dX10_arrange_155 : decode cX10_arrange 155 = .ok (.iadd, 1) := dX10_arrange_149_b.2.2.2.2.2
set_option maxRecDepth 20000 in
theorem dX10_arrange_156_b : (decode cX10_arrange 156 = .ok (.invokevirtual 445, 3)) ∧ (decode cX10_arrange 159 = .ok (.goto 59, 3)) ∧ (decode cX10_arrange 162 = .ok (.iload_n 2, 1)) ∧ (decode cX10_arrange 163 = .ok (.bipush 12, 2)) ∧ (decode cX10_arrange 165 = .ok (.if_icmp .ge 53, 3)) ∧ (decode cX10_arrange 168 = .ok (.aload_n 0, 1)) := by decide +kernel
theorem dX10_arrange_156 : decode cX10_arrange 156 = .ok (.invokevirtual 445, 3) := dX10_arrange_156_b.1
theorem dX10_arrange_159 : decode cX10_arrange 159 = .ok (.goto 59, 3) := dX10_arrange_156_b.2.1
theorem dX10_arrange_162 : decode cX10_arrange 162 = .ok (.iload_n 2, 1) := dX10_arrange_156_b.2.2.1
theorem dX10_arrange_163 : decode cX10_arrange 163 = .ok (.bipush 12, 2) := dX10_arrange_156_b.2.2.2.1
theorem dX10_arrange_165 : decode cX10_arrange 165 = .ok (.if_icmp .ge 53, 3) := dX10_arrange_156_b.2.2.2.2.1
theorem dX10_arrange_168 : decode cX10_arrange 168 = .ok (.aload_n 0, 1) := dX10_arrange_156_b.2.2.2.2.2
set_option maxRecDepth 20000 in
theorem dX10_arrange_169_b : (decode cX10_arrange 169 = .ok (.iload_n 1, 1)) ∧ (decode cX10_arrange 170 = .ok (.iload_n 2, 1)) ∧ (decode cX10_arrange 171 = .ok (.invokevirtual 355, 3)) ∧ (decode cX10_arrange 174 = .ok (.ifCond .ne 44, 3)) ∧ (decode cX10_arrange 177 = .ok (.iload_n 2, 1)) ∧ (decode cX10_arrange 178 = .ok (.iload_n 3, 1)) := by decide +kernel
theorem dX10_arrange_169 : decode cX10_arrange 169 = .ok (.iload_n 1, 1) := dX10_arrange_169_b.1
theorem dX10_arrange_170 : decode cX10_arrange 170 = .ok (.iload_n 2, 1) := dX10_arrange_169_b.2.1
theorem dX10_arrange_171 : decode cX10_arrange 171 = .ok (.invokevirtual 355, 3) := dX10_arrange_169_b.2.2.1
theorem dX10_arrange_174 : decode cX10_arrange 174 = .ok (.ifCond .ne 44, 3) := dX10_arrange_169_b.2.2.2.1
theorem dX10_arrange_177 : decode cX10_arrange 177 = .ok (.iload_n 2, 1) := dX10_arrange_169_b.2.2.2.2.1
theorem dX10_arrange_178 : decode cX10_arrange 178 = .ok (.iload_n 3, 1) := dX10_arrange_169_b.2.2.2.2.2
set_option maxRecDepth 20000 in
theorem dX10_arrange_179_b : (decode cX10_arrange 179 = .ok (.if_icmp .ne 18, 3)) ∧ (decode cX10_arrange 182 = .ok (.aload_n 0, 1)) ∧ (decode cX10_arrange 183 = .ok (.getfield 137, 3)) ∧ (decode cX10_arrange 186 = .ok (.iload_n 1, 1)) ∧ (decode cX10_arrange 187 = .ok (.bipush 12, 2)) ∧ (decode cX10_arrange 189 = .ok (.iastore, 1)) := by decide +kernel
theorem dX10_arrange_179 : decode cX10_arrange 179 = .ok (.if_icmp .ne 18, 3) := dX10_arrange_179_b.1
theorem dX10_arrange_182 : decode cX10_arrange 182 = .ok (.aload_n 0, 1) := dX10_arrange_179_b.2.1
theorem dX10_arrange_183 : decode cX10_arrange 183 = .ok (.getfield 137, 3) := dX10_arrange_179_b.2.2.1
theorem dX10_arrange_186 : decode cX10_arrange 186 = .ok (.iload_n 1, 1) := dX10_arrange_179_b.2.2.2.1
theorem dX10_arrange_187 : decode cX10_arrange 187 = .ok (.bipush 12, 2) := dX10_arrange_179_b.2.2.2.2.1
theorem dX10_arrange_189 : decode cX10_arrange 189 = .ok (.iastore, 1) := dX10_arrange_179_b.2.2.2.2.2
set_option maxRecDepth 20000 in
theorem dX10_arrange_190_b : (decode cX10_arrange 190 = .ok (.aload_n 0, 1)) ∧ (decode cX10_arrange 191 = .ok (.iload_n 1, 1)) ∧ (decode cX10_arrange 192 = .ok (.iconst 1, 1)) ∧ (decode cX10_arrange 193 = .ok (.iadd, 1)) ∧ (decode cX10_arrange 194 = .ok (.invokevirtual 445, 3)) ∧ (decode cX10_arrange 197 = .ok (.iload_n 2, 1)) := by decide +kernel
theorem dX10_arrange_190 : decode cX10_arrange 190 = .ok (.aload_n 0, 1) := dX10_arrange_190_b.1
theorem dX10_arrange_191 : decode cX10_arrange 191 = .ok (.iload_n 1, 1) := dX10_arrange_190_b.2.1
theorem dX10_arrange_192 : decode cX10_arrange 192 = .ok (.iconst 1, 1) := dX10_arrange_190_b.2.2.1
theorem dX10_arrange_193 : decode cX10_arrange 193 = .ok (.iadd, 1) := dX10_arrange_190_b.2.2.2.1
theorem dX10_arrange_194 : decode cX10_arrange 194 = .ok (.invokevirtual 445, 3) := dX10_arrange_190_b.2.2.2.2.1
theorem dX10_arrange_197 : decode cX10_arrange 197 = .ok (.iload_n 2, 1) := dX10_arrange_190_b.2.2.2.2.2
set_option maxRecDepth 20000 in
theorem dX10_arrange_198_b : (decode cX10_arrange 198 = .ok (.iload 4, 2)) ∧ (decode cX10_arrange 200 = .ok (.if_icmp .ne 18, 3)) ∧ (decode cX10_arrange 203 = .ok (.aload_n 0, 1)) ∧ (decode cX10_arrange 204 = .ok (.getfield 137, 3)) ∧ (decode cX10_arrange 207 = .ok (.iload_n 1, 1)) ∧ (decode cX10_arrange 208 = .ok (.bipush 13, 2)) := by decide +kernel
theorem dX10_arrange_198 : decode cX10_arrange 198 = .ok (.iload 4, 2) := dX10_arrange_198_b.1
theorem dX10_arrange_200 : decode cX10_arrange 200 = .ok (.if_icmp .ne 18, 3) := dX10_arrange_198_b.2.1
theorem dX10_arrange_203 : decode cX10_arrange 203 = .ok (.aload_n 0, 1) := dX10_arrange_198_b.2.2.1
theorem dX10_arrange_204 : decode cX10_arrange 204 = .ok (.getfield 137, 3) := dX10_arrange_198_b.2.2.2.1
theorem dX10_arrange_207 : decode cX10_arrange 207 = .ok (.iload_n 1, 1) := dX10_arrange_198_b.2.2.2.2.1
theorem dX10_arrange_208 : decode cX10_arrange 208 = .ok (.bipush 13, 2) := dX10_arrange_198_b.2.2.2.2.2
set_option maxRecDepth 20000 in
theorem dX10_arrange_210_b : (decode cX10_arrange 210 = .ok (.iastore, 1)) ∧ (decode cX10_arrange 211 = .ok (.aload_n 0, 1)) ∧ (decode cX10_arrange 212 = .ok (.iload_n 1, 1)) ∧ (decode cX10_arrange 213 = .ok (.iconst 1, 1)) ∧ (decode cX10_arrange 214 = .ok (.iadd, 1)) ∧ (decode cX10_arrange 215 = .ok (.invokevirtual 445, 3)) := by decide +kernel
theorem dX10_arrange_210 : decode cX10_arrange 210 = .ok (.iastore, 1) := dX10_arrange_210_b.1
theorem dX10_arrange_211 : decode cX10_arrange 211 = .ok (.aload_n 0, 1) := dX10_arrange_210_b.2.1
theorem dX10_arrange_212 : decode cX10_arrange 212 = .ok (.iload_n 1, 1) := dX10_arrange_210_b.2.2.1
theorem dX10_arrange_213 : decode cX10_arrange 213 = .ok (.iconst 1, 1) := dX10_arrange_210_b.2.2.2.1
theorem dX10_arrange_214 : decode cX10_arrange 214 = .ok (.iadd, 1) := dX10_arrange_210_b.2.2.2.2.1
theorem dX10_arrange_215 : decode cX10_arrange 215 = .ok (.invokevirtual 445, 3) := dX10_arrange_210_b.2.2.2.2.2
theorem dX10_arrange_218 : decode cX10_arrange 218 = .ok (.return_, 1) := by decide +kernel
set_option maxRecDepth 20000 in
theorem ggX10_rideOn_X10_keepsCap : GoodIn wsX10_rideOn wsX10_keepsCap := goodIn_r _ [10, 11, 12, 13, 14, 9, 15, 16, 17, 18, 19, 20, 97, 98, 99, 100, 101, 102, 103, 104, 105, 106, 107, 108, 109, 110, 111, 112, 113, 114, 115, 116, 117, 118, 119, 120, 121, 122, 123, 124, 125, 126, 127, 128, 129, 130, 131, 132, 133, 134, 135, 136, 137, 138, 139, 140, 141, 142, 143, 144, 145, 146, 147, 148, 149, 150, 151, 152, 153, 154, 155, 156, 157, 158, 159, 160, 161, 162, 163, 164, 165, 166, 167] (by decide +kernel) (by decide +kernel)
set_option maxRecDepth 20000 in
theorem gX10_rideOn_X10_keepsCap : GoodIn wsX10_rideOn (wsV RX10 397 RX10 yX10_keepsCap wsX10_keepsCap) := goodIn_app (goodIn_of _ (by decide +kernel)) ggX10_rideOn_X10_keepsCap
set_option maxRecDepth 20000 in
theorem ggX10_rideOn_X10_keepsRules : GoodIn wsX10_rideOn wsX10_keepsRules := goodIn_r _ [24, 25, 26, 27, 9, 28, 29, 30, 31, 32, 33, 34, 16, 35, 18, 19, 20, 12, 13, 14, 15, 17, 36, 37, 38, 39, 40, 41, 42, 43, 11, 44, 45, 46, 47, 48, 49, 50, 51, 52, 53, 54, 97, 98, 99, 100, 101, 102, 103, 104, 105, 106, 107, 108, 109, 110, 111, 112, 113, 114, 115, 116, 117, 118, 119, 120, 121, 122, 123, 124, 125, 126, 127, 128, 129, 130, 131, 132, 133, 134, 135, 136, 137, 138, 139, 140, 141, 142, 143, 144, 145, 146, 147, 148, 149, 150, 151, 152, 153, 154, 155, 156, 157, 158, 159, 160, 161, 162, 163, 164, 165, 166, 167] (by decide +kernel) (by decide +kernel)
set_option maxRecDepth 20000 in
theorem gX10_rideOn_X10_keepsRules : GoodIn wsX10_rideOn (wsV RX10 401 RX10 yX10_keepsRules wsX10_keepsRules) := goodIn_app (goodIn_of _ (by decide +kernel)) ggX10_rideOn_X10_keepsRules
set_option maxRecDepth 20000 in
theorem ggX10_rideOn_X10_depths : GoodIn wsX10_rideOn wsX10_depths := goodIn_r _ [43, 11, 97, 98, 99, 100, 101, 102, 103, 104, 105, 106, 107, 108, 109, 110, 111, 112, 113, 114, 115, 116, 117, 118, 119, 120, 121, 122, 123, 124, 125, 126, 127, 128, 129, 130, 131, 132, 133, 134, 135, 136, 137, 138, 139, 140, 141, 142, 143, 144, 145, 146, 147, 148, 149, 150, 151, 152, 153, 154, 155, 156, 157, 158, 159, 160, 161, 162, 163, 164, 165, 166, 167] (by decide +kernel) (by decide +kernel)
set_option maxRecDepth 20000 in
theorem gX10_rideOn_X10_depths : GoodIn wsX10_rideOn (wsV RX10 346 RX10 yX10_depths wsX10_depths) := goodIn_app (goodIn_of _ (by decide +kernel)) ggX10_rideOn_X10_depths
set_option maxRecDepth 20000 in
theorem ggX10_rideOn_X10_tellRide : GoodIn wsX10_rideOn wsX10_tellRide := goodIn_r _ [58, 59, 60, 61, 62, 5, 63, 64, 65, 66, 67, 68, 69, 11, 70, 71, 72, 9, 73, 12, 13, 14, 15, 16, 17, 18, 19, 20, 36, 37, 38, 39, 40, 41, 42, 43, 97, 98, 99, 100, 101, 102, 103, 104, 105, 106, 107, 108, 109, 110, 111, 112, 113, 114, 115, 116, 117, 118, 119, 120, 121, 122, 123, 124, 125, 126, 127, 128, 129, 130, 131, 132, 133, 134, 135, 136, 137, 138, 139, 140, 141, 142, 143, 144, 145, 146, 147, 148, 149, 150, 151, 152, 153, 154, 155, 156, 157, 158, 159, 160, 161, 162, 163, 164, 165, 166, 167] (by decide +kernel) (by decide +kernel)
set_option maxRecDepth 20000 in
theorem gX10_rideOn_X10_tellRide : GoodIn wsX10_rideOn (wsV RX10 405 RX10 yX10_tellRide wsX10_tellRide) := goodIn_app (goodIn_of _ (by decide +kernel)) ggX10_rideOn_X10_tellRide
set_option maxRecDepth 20000 in
theorem ggX10_rideOn_X10_swing : GoodIn wsX10_rideOn wsX10_swing := goodIn_r _ [77, 60, 11, 62, 97, 98, 99, 100, 101, 102, 103, 104, 105, 106, 107, 108, 109, 110, 111, 112, 113, 114, 115, 116, 117, 118, 119, 120, 121, 122, 123, 124, 125, 126, 127, 128, 129, 130, 131, 132, 133, 134, 135, 136, 137, 138, 139, 140, 141, 142, 143, 144, 145, 146, 147, 148, 149, 150, 151, 152, 153, 154, 155, 156, 157, 158, 159, 160, 161, 162, 163, 164, 165, 166, 167] (by decide +kernel) (by decide +kernel)
set_option maxRecDepth 20000 in
theorem gX10_rideOn_X10_swing : GoodIn wsX10_rideOn (wsV RX10 409 RX10 yX10_swing wsX10_swing) := goodIn_app (goodIn_of _ (by decide +kernel)) ggX10_rideOn_X10_swing
set_option maxRecDepth 20000 in
theorem ggX10_rideOn_X10_pack : GoodIn wsX10_rideOn wsX10_pack := goodIn_r _ [80, 81] (by decide +kernel) (by decide +kernel)
set_option maxRecDepth 20000 in
theorem gX10_rideOn_X10_pack : GoodIn wsX10_rideOn (va_wsS RX10 451 yX10_pack wsX10_pack) := goodIn_app (goodIn_of _ (by decide +kernel)) ggX10_rideOn_X10_pack
set_option maxRecDepth 20000 in
theorem ggX10_rideOn_X10_come : GoodIn wsX10_rideOn wsX10_come := goodIn_r _ [85, 86, 87, 88, 63, 64, 65, 66, 89, 90, 91, 92, 93, 94, 9, 95, 96, 97, 98, 99, 100, 101, 102, 103, 104, 105, 106, 107, 108, 109, 110, 111, 112, 113, 114, 115, 116, 117, 118, 119, 120, 121, 122, 123, 124, 125, 126, 127, 128, 129, 130, 131, 132, 133, 134, 135, 136, 137, 138, 139, 140, 141, 142, 143, 144, 145, 146, 147, 148, 149, 150, 151, 152, 153, 154, 155, 156, 157, 158, 159, 160, 161, 162, 163, 164, 165, 166, 167] (by decide +kernel) (by decide +kernel)
set_option maxRecDepth 20000 in
theorem gX10_rideOn_X10_come : GoodIn wsX10_rideOn (wsV RX10 458 RX10 yX10_come wsX10_come) := goodIn_app (goodIn_of _ (by decide +kernel)) ggX10_rideOn_X10_come
set_option maxRecDepth 20000 in
theorem dX10_rideOn_0_b : (decode cX10_rideOn 0 = .ok (.aload_n 0, 1)) ∧ (decode cX10_rideOn 1 = .ok (.aload_n 0, 1)) ∧ (decode cX10_rideOn 2 = .ok (.getfield 137, 3)) ∧ (decode cX10_rideOn 5 = .ok (.invokevirtual 397, 3)) ∧ (decode cX10_rideOn 8 = .ok (.ifCond .eq 18, 3)) ∧ (decode cX10_rideOn 11 = .ok (.aload_n 0, 1)) := by decide +kernel
theorem dX10_rideOn_0 : decode cX10_rideOn 0 = .ok (.aload_n 0, 1) := dX10_rideOn_0_b.1
theorem dX10_rideOn_1 : decode cX10_rideOn 1 = .ok (.aload_n 0, 1) := dX10_rideOn_0_b.2.1
theorem dX10_rideOn_2 : decode cX10_rideOn 2 = .ok (.getfield 137, 3) := dX10_rideOn_0_b.2.2.1
theorem dX10_rideOn_5 : decode cX10_rideOn 5 = .ok (.invokevirtual 397, 3) := dX10_rideOn_0_b.2.2.2.1
theorem dX10_rideOn_8 : decode cX10_rideOn 8 = .ok (.ifCond .eq 18, 3) := dX10_rideOn_0_b.2.2.2.2.1
theorem dX10_rideOn_11 : decode cX10_rideOn 11 = .ok (.aload_n 0, 1) := dX10_rideOn_0_b.2.2.2.2.2
set_option maxRecDepth 20000 in
theorem dX10_rideOn_12_b : (decode cX10_rideOn 12 = .ok (.aload_n 0, 1)) ∧ (decode cX10_rideOn 13 = .ok (.getfield 137, 3)) ∧ (decode cX10_rideOn 16 = .ok (.aload_n 0, 1)) ∧ (decode cX10_rideOn 17 = .ok (.getfield 427, 3)) ∧ (decode cX10_rideOn 20 = .ok (.invokevirtual 401, 3)) ∧ (decode cX10_rideOn 23 = .ok (.ifCond .ne 4, 3)) := by decide +kernel
theorem dX10_rideOn_12 : decode cX10_rideOn 12 = .ok (.aload_n 0, 1) := dX10_rideOn_12_b.1
theorem dX10_rideOn_13 : decode cX10_rideOn 13 = .ok (.getfield 137, 3) := dX10_rideOn_12_b.2.1
theorem dX10_rideOn_16 : decode cX10_rideOn 16 = .ok (.aload_n 0, 1) := dX10_rideOn_12_b.2.2.1
theorem dX10_rideOn_17 : decode cX10_rideOn 17 = .ok (.getfield 427, 3) := dX10_rideOn_12_b.2.2.2.1
theorem dX10_rideOn_20 : decode cX10_rideOn 20 = .ok (.invokevirtual 401, 3) := dX10_rideOn_12_b.2.2.2.2.1
theorem dX10_rideOn_23 : decode cX10_rideOn 23 = .ok (.ifCond .ne 4, 3) := dX10_rideOn_12_b.2.2.2.2.2
set_option maxRecDepth 20000 in
theorem dX10_rideOn_26_b : (decode cX10_rideOn 26 = .ok (.return_, 1)) ∧ (decode cX10_rideOn 27 = .ok (.iconst 0, 1)) ∧ (decode cX10_rideOn 28 = .ok (.istore_n 1, 1)) ∧ (decode cX10_rideOn 29 = .ok (.iload_n 1, 1)) ∧ (decode cX10_rideOn 30 = .ok (.aload_n 0, 1)) ∧ (decode cX10_rideOn 31 = .ok (.invokevirtual 346, 3)) := by decide +kernel
theorem dX10_rideOn_26 : decode cX10_rideOn 26 = .ok (.return_, 1) := dX10_rideOn_26_b.1
theorem dX10_rideOn_27 : decode cX10_rideOn 27 = .ok (.iconst 0, 1) := dX10_rideOn_26_b.2.1
theorem dX10_rideOn_28 : decode cX10_rideOn 28 = .ok (.istore_n 1, 1) := dX10_rideOn_26_b.2.2.1
theorem dX10_rideOn_29 : decode cX10_rideOn 29 = .ok (.iload_n 1, 1) := dX10_rideOn_26_b.2.2.2.1
theorem dX10_rideOn_30 : decode cX10_rideOn 30 = .ok (.aload_n 0, 1) := dX10_rideOn_26_b.2.2.2.2.1
theorem dX10_rideOn_31 : decode cX10_rideOn 31 = .ok (.invokevirtual 346, 3) := dX10_rideOn_26_b.2.2.2.2.2
set_option maxRecDepth 20000 in
theorem dX10_rideOn_34_b : (decode cX10_rideOn 34 = .ok (.if_icmp .gt 80, 3)) ∧ (decode cX10_rideOn 37 = .ok (.iload_n 1, 1)) ∧ (decode cX10_rideOn 38 = .ok (.aload_n 0, 1)) ∧ (decode cX10_rideOn 39 = .ok (.getfield 427, 3)) ∧ (decode cX10_rideOn 42 = .ok (.if_icmp .ne 6, 3)) ∧ (decode cX10_rideOn 45 = .ok (.goto 63, 3)) := by decide +kernel
theorem dX10_rideOn_34 : decode cX10_rideOn 34 = .ok (.if_icmp .gt 80, 3) := dX10_rideOn_34_b.1
theorem dX10_rideOn_37 : decode cX10_rideOn 37 = .ok (.iload_n 1, 1) := dX10_rideOn_34_b.2.1
theorem dX10_rideOn_38 : decode cX10_rideOn 38 = .ok (.aload_n 0, 1) := dX10_rideOn_34_b.2.2.1
theorem dX10_rideOn_39 : decode cX10_rideOn 39 = .ok (.getfield 427, 3) := dX10_rideOn_34_b.2.2.2.1
theorem dX10_rideOn_42 : decode cX10_rideOn 42 = .ok (.if_icmp .ne 6, 3) := dX10_rideOn_34_b.2.2.2.2.1
theorem dX10_rideOn_45 : decode cX10_rideOn 45 = .ok (.goto 63, 3) := dX10_rideOn_34_b.2.2.2.2.2
set_option maxRecDepth 20000 in
theorem dX10_rideOn_48_b : (decode cX10_rideOn 48 = .ok (.aload_n 0, 1)) ∧ (decode cX10_rideOn 49 = .ok (.aload_n 0, 1)) ∧ (decode cX10_rideOn 50 = .ok (.getfield 137, 3)) ∧ (decode cX10_rideOn 53 = .ok (.aload_n 0, 1)) ∧ (decode cX10_rideOn 54 = .ok (.getfield 427, 3)) ∧ (decode cX10_rideOn 57 = .ok (.iload_n 1, 1)) := by decide +kernel
theorem dX10_rideOn_48 : decode cX10_rideOn 48 = .ok (.aload_n 0, 1) := dX10_rideOn_48_b.1
theorem dX10_rideOn_49 : decode cX10_rideOn 49 = .ok (.aload_n 0, 1) := dX10_rideOn_48_b.2.1
theorem dX10_rideOn_50 : decode cX10_rideOn 50 = .ok (.getfield 137, 3) := dX10_rideOn_48_b.2.2.1
theorem dX10_rideOn_53 : decode cX10_rideOn 53 = .ok (.aload_n 0, 1) := dX10_rideOn_48_b.2.2.2.1
theorem dX10_rideOn_54 : decode cX10_rideOn 54 = .ok (.getfield 427, 3) := dX10_rideOn_48_b.2.2.2.2.1
theorem dX10_rideOn_57 : decode cX10_rideOn 57 = .ok (.iload_n 1, 1) := dX10_rideOn_48_b.2.2.2.2.2
set_option maxRecDepth 20000 in
theorem dX10_rideOn_58_b : (decode cX10_rideOn 58 = .ok (.invokevirtual 405, 3)) ∧ (decode cX10_rideOn 61 = .ok (.aload_n 0, 1)) ∧ (decode cX10_rideOn 62 = .ok (.getfield 448, 3)) ∧ (decode cX10_rideOn 65 = .ok (.ifCond .ne 11, 3)) ∧ (decode cX10_rideOn 68 = .ok (.aload_n 0, 1)) ∧ (decode cX10_rideOn 69 = .ok (.iconst 1, 1)) := by decide +kernel
theorem dX10_rideOn_58 : decode cX10_rideOn 58 = .ok (.invokevirtual 405, 3) := dX10_rideOn_58_b.1
theorem dX10_rideOn_61 : decode cX10_rideOn 61 = .ok (.aload_n 0, 1) := dX10_rideOn_58_b.2.1
theorem dX10_rideOn_62 : decode cX10_rideOn 62 = .ok (.getfield 448, 3) := dX10_rideOn_58_b.2.2.1
theorem dX10_rideOn_65 : decode cX10_rideOn 65 = .ok (.ifCond .ne 11, 3) := dX10_rideOn_58_b.2.2.2.1
theorem dX10_rideOn_68 : decode cX10_rideOn 68 = .ok (.aload_n 0, 1) := dX10_rideOn_58_b.2.2.2.2.1
theorem dX10_rideOn_69 : decode cX10_rideOn 69 = .ok (.iconst 1, 1) := dX10_rideOn_58_b.2.2.2.2.2
set_option maxRecDepth 20000 in
theorem dX10_rideOn_70_b : (decode cX10_rideOn 70 = .ok (.invokevirtual 409, 3)) ∧ (decode cX10_rideOn 73 = .ok (.ifCond .ne 35, 3)) ∧ (decode cX10_rideOn 76 = .ok (.aload_n 0, 1)) ∧ (decode cX10_rideOn 77 = .ok (.aload_n 0, 1)) ∧ (decode cX10_rideOn 78 = .ok (.getfield 137, 3)) ∧ (decode cX10_rideOn 81 = .ok (.iload_n 1, 1)) := by decide +kernel
theorem dX10_rideOn_70 : decode cX10_rideOn 70 = .ok (.invokevirtual 409, 3) := dX10_rideOn_70_b.1
theorem dX10_rideOn_73 : decode cX10_rideOn 73 = .ok (.ifCond .ne 35, 3) := dX10_rideOn_70_b.2.1
theorem dX10_rideOn_76 : decode cX10_rideOn 76 = .ok (.aload_n 0, 1) := dX10_rideOn_70_b.2.2.1
theorem dX10_rideOn_77 : decode cX10_rideOn 77 = .ok (.aload_n 0, 1) := dX10_rideOn_70_b.2.2.2.1
theorem dX10_rideOn_78 : decode cX10_rideOn 78 = .ok (.getfield 137, 3) := dX10_rideOn_70_b.2.2.2.2.1
theorem dX10_rideOn_81 : decode cX10_rideOn 81 = .ok (.iload_n 1, 1) := dX10_rideOn_70_b.2.2.2.2.2
set_option maxRecDepth 20000 in
theorem dX10_rideOn_82_b : (decode cX10_rideOn 82 = .ok (.invokestatic 451, 3)) ∧ (decode cX10_rideOn 85 = .ok (.aload_n 0, 1)) ∧ (decode cX10_rideOn 86 = .ok (.getfield 455, 3)) ∧ (decode cX10_rideOn 89 = .ok (.aload_n 0, 1)) ∧ (decode cX10_rideOn 90 = .ok (.getfield 448, 3)) ∧ (decode cX10_rideOn 93 = .ok (.ifCond .eq 10, 3)) := by decide +kernel
theorem dX10_rideOn_82 : decode cX10_rideOn 82 = .ok (.invokestatic 451, 3) := dX10_rideOn_82_b.1
theorem dX10_rideOn_85 : decode cX10_rideOn 85 = .ok (.aload_n 0, 1) := dX10_rideOn_82_b.2.1
theorem dX10_rideOn_86 : decode cX10_rideOn 86 = .ok (.getfield 455, 3) := dX10_rideOn_82_b.2.2.1
theorem dX10_rideOn_89 : decode cX10_rideOn 89 = .ok (.aload_n 0, 1) := dX10_rideOn_82_b.2.2.2.1
theorem dX10_rideOn_90 : decode cX10_rideOn 90 = .ok (.getfield 448, 3) := dX10_rideOn_82_b.2.2.2.2.1
theorem dX10_rideOn_93 : decode cX10_rideOn 93 = .ok (.ifCond .eq 10, 3) := dX10_rideOn_82_b.2.2.2.2.2
set_option maxRecDepth 20000 in
theorem dX10_rideOn_96_b : (decode cX10_rideOn 96 = .ok (.aload_n 0, 1)) ∧ (decode cX10_rideOn 97 = .ok (.getfield 391, 3)) ∧ (decode cX10_rideOn 100 = .ok (.goto 4, 3)) ∧ (decode cX10_rideOn 103 = .ok (.iconst 1, 1)) ∧ (decode cX10_rideOn 104 = .ok (.iadd, 1)) ∧ (decode cX10_rideOn 105 = .ok (.invokevirtual 458, 3)) := by decide +kernel
theorem dX10_rideOn_96 : decode cX10_rideOn 96 = .ok (.aload_n 0, 1) := dX10_rideOn_96_b.1
theorem dX10_rideOn_97 : decode cX10_rideOn 97 = .ok (.getfield 391, 3) := dX10_rideOn_96_b.2.1
theorem dX10_rideOn_100 : decode cX10_rideOn 100 = .ok (.goto 4, 3) := dX10_rideOn_96_b.2.2.1
theorem dX10_rideOn_103 : decode cX10_rideOn 103 = .ok (.iconst 1, 1) := dX10_rideOn_96_b.2.2.2.1
theorem dX10_rideOn_104 : decode cX10_rideOn 104 = .ok (.iadd, 1) := dX10_rideOn_96_b.2.2.2.2.1
theorem dX10_rideOn_105 : decode cX10_rideOn 105 = .ok (.invokevirtual 458, 3) := dX10_rideOn_96_b.2.2.2.2.2
set_option maxRecDepth 20000 in
theorem dX10_rideOn_108_b : (decode cX10_rideOn 108 = .ok (.iinc 1 1, 3)) ∧ (decode cX10_rideOn 111 = .ok (.goto (-82), 3)) ∧ (decode cX10_rideOn 114 = .ok (.return_, 1)) := by decide +kernel
theorem dX10_rideOn_108 : decode cX10_rideOn 108 = .ok (.iinc 1 1, 3) := dX10_rideOn_108_b.1
theorem dX10_rideOn_111 : decode cX10_rideOn 111 = .ok (.goto (-82), 3) := dX10_rideOn_108_b.2.1
theorem dX10_rideOn_114 : decode cX10_rideOn 114 = .ok (.return_, 1) := dX10_rideOn_108_b.2.2
set_option maxRecDepth 20000 in
theorem dX10_nearest_0_b : (decode cX10_nearest 0 = .ok (.iconst (-1), 1)) ∧ (decode cX10_nearest 1 = .ok (.istore_n 1, 1)) ∧ (decode cX10_nearest 2 = .ok (.iconst 0, 1)) ∧ (decode cX10_nearest 3 = .ok (.istore_n 2, 1)) ∧ (decode cX10_nearest 4 = .ok (.iload_n 2, 1)) ∧ (decode cX10_nearest 5 = .ok (.aload_n 0, 1)) := by decide +kernel
theorem dX10_nearest_0 : decode cX10_nearest 0 = .ok (.iconst (-1), 1) := dX10_nearest_0_b.1
theorem dX10_nearest_1 : decode cX10_nearest 1 = .ok (.istore_n 1, 1) := dX10_nearest_0_b.2.1
theorem dX10_nearest_2 : decode cX10_nearest 2 = .ok (.iconst 0, 1) := dX10_nearest_0_b.2.2.1
theorem dX10_nearest_3 : decode cX10_nearest 3 = .ok (.istore_n 2, 1) := dX10_nearest_0_b.2.2.2.1
theorem dX10_nearest_4 : decode cX10_nearest 4 = .ok (.iload_n 2, 1) := dX10_nearest_0_b.2.2.2.2.1
theorem dX10_nearest_5 : decode cX10_nearest 5 = .ok (.aload_n 0, 1) := dX10_nearest_0_b.2.2.2.2.2
set_option maxRecDepth 20000 in
theorem dX10_nearest_6_b : (decode cX10_nearest 6 = .ok (.getfield 436, 3)) ∧ (decode cX10_nearest 9 = .ok (.if_icmp .ge 40, 3)) ∧ (decode cX10_nearest 12 = .ok (.aload_n 0, 1)) ∧ (decode cX10_nearest 13 = .ok (.getfield 130, 3)) ∧ (decode cX10_nearest 16 = .ok (.iload_n 2, 1)) ∧ (decode cX10_nearest 17 = .ok (.baload, 1)) := by decide +kernel
theorem dX10_nearest_6 : decode cX10_nearest 6 = .ok (.getfield 436, 3) := dX10_nearest_6_b.1
theorem dX10_nearest_9 : decode cX10_nearest 9 = .ok (.if_icmp .ge 40, 3) := dX10_nearest_6_b.2.1
theorem dX10_nearest_12 : decode cX10_nearest 12 = .ok (.aload_n 0, 1) := dX10_nearest_6_b.2.2.1
theorem dX10_nearest_13 : decode cX10_nearest 13 = .ok (.getfield 130, 3) := dX10_nearest_6_b.2.2.2.1
theorem dX10_nearest_16 : decode cX10_nearest 16 = .ok (.iload_n 2, 1) := dX10_nearest_6_b.2.2.2.2.1
theorem dX10_nearest_17 : decode cX10_nearest 17 = .ok (.baload, 1) := dX10_nearest_6_b.2.2.2.2.2
set_option maxRecDepth 20000 in
theorem dX10_nearest_18_b : (decode cX10_nearest 18 = .ok (.ifCond .ne 25, 3)) ∧ (decode cX10_nearest 21 = .ok (.iload_n 1, 1)) ∧ (decode cX10_nearest 22 = .ok (.iconst (-1), 1)) ∧ (decode cX10_nearest 23 = .ok (.if_icmp .eq 18, 3)) ∧ (decode cX10_nearest 26 = .ok (.aload_n 0, 1)) ∧ (decode cX10_nearest 27 = .ok (.getfield 121, 3)) := by decide +kernel
theorem dX10_nearest_18 : decode cX10_nearest 18 = .ok (.ifCond .ne 25, 3) := dX10_nearest_18_b.1
theorem dX10_nearest_21 : decode cX10_nearest 21 = .ok (.iload_n 1, 1) := dX10_nearest_18_b.2.1
theorem dX10_nearest_22 : decode cX10_nearest 22 = .ok (.iconst (-1), 1) := dX10_nearest_18_b.2.2.1
theorem dX10_nearest_23 : decode cX10_nearest 23 = .ok (.if_icmp .eq 18, 3) := dX10_nearest_18_b.2.2.2.1
theorem dX10_nearest_26 : decode cX10_nearest 26 = .ok (.aload_n 0, 1) := dX10_nearest_18_b.2.2.2.2.1
theorem dX10_nearest_27 : decode cX10_nearest 27 = .ok (.getfield 121, 3) := dX10_nearest_18_b.2.2.2.2.2
set_option maxRecDepth 20000 in
theorem dX10_nearest_30_b : (decode cX10_nearest 30 = .ok (.iload_n 2, 1)) ∧ (decode cX10_nearest 31 = .ok (.iaload, 1)) ∧ (decode cX10_nearest 32 = .ok (.aload_n 0, 1)) ∧ (decode cX10_nearest 33 = .ok (.getfield 121, 3)) ∧ (decode cX10_nearest 36 = .ok (.iload_n 1, 1)) ∧ (decode cX10_nearest 37 = .ok (.iaload, 1)) := by decide +kernel
theorem dX10_nearest_30 : decode cX10_nearest 30 = .ok (.iload_n 2, 1) := dX10_nearest_30_b.1
theorem dX10_nearest_31 : decode cX10_nearest 31 = .ok (.iaload, 1) := dX10_nearest_30_b.2.1
theorem dX10_nearest_32 : decode cX10_nearest 32 = .ok (.aload_n 0, 1) := dX10_nearest_30_b.2.2.1
theorem dX10_nearest_33 : decode cX10_nearest 33 = .ok (.getfield 121, 3) := dX10_nearest_30_b.2.2.2.1
theorem dX10_nearest_36 : decode cX10_nearest 36 = .ok (.iload_n 1, 1) := dX10_nearest_30_b.2.2.2.2.1
theorem dX10_nearest_37 : decode cX10_nearest 37 = .ok (.iaload, 1) := dX10_nearest_30_b.2.2.2.2.2
set_option maxRecDepth 20000 in
theorem dX10_nearest_38_b : (decode cX10_nearest 38 = .ok (.if_icmp .ge 5, 3)) ∧ (decode cX10_nearest 41 = .ok (.iload_n 2, 1)) ∧ (decode cX10_nearest 42 = .ok (.istore_n 1, 1)) ∧ (decode cX10_nearest 43 = .ok (.iinc 2 1, 3)) ∧ (decode cX10_nearest 46 = .ok (.goto (-42), 3)) ∧ (decode cX10_nearest 49 = .ok (.iload_n 1, 1)) := by decide +kernel
theorem dX10_nearest_38 : decode cX10_nearest 38 = .ok (.if_icmp .ge 5, 3) := dX10_nearest_38_b.1
theorem dX10_nearest_41 : decode cX10_nearest 41 = .ok (.iload_n 2, 1) := dX10_nearest_38_b.2.1
theorem dX10_nearest_42 : decode cX10_nearest 42 = .ok (.istore_n 1, 1) := dX10_nearest_38_b.2.2.1
theorem dX10_nearest_43 : decode cX10_nearest 43 = .ok (.iinc 2 1, 3) := dX10_nearest_38_b.2.2.2.1
theorem dX10_nearest_46 : decode cX10_nearest 46 = .ok (.goto (-42), 3) := dX10_nearest_38_b.2.2.2.2.1
theorem dX10_nearest_49 : decode cX10_nearest 49 = .ok (.iload_n 1, 1) := dX10_nearest_38_b.2.2.2.2.2
theorem dX10_nearest_50 : decode cX10_nearest 50 = .ok (.ireturn, 1) := by decide +kernel
set_option maxRecDepth 20000 in
theorem ggX10_seek_X10_pack : GoodIn wsX10_seek wsX10_pack := goodIn_r _ [14, 15] (by decide +kernel) (by decide +kernel)
set_option maxRecDepth 20000 in
theorem gX10_seek_X10_pack : GoodIn wsX10_seek (va_wsS RX10 451 yX10_pack wsX10_pack) := goodIn_app (goodIn_of _ (by decide +kernel)) ggX10_seek_X10_pack
set_option maxRecDepth 20000 in
theorem ggX10_seek_X10_come : GoodIn wsX10_seek wsX10_come := goodIn_r _ [19, 1, 7, 8, 20, 21, 22, 23, 24, 2, 3, 6, 25, 26, 13, 27, 28, 123, 124, 125, 126, 127, 128, 129, 130, 131, 132, 133, 134, 135, 136, 137, 138, 139, 140, 141, 142, 143, 144, 145, 146, 147, 148, 149, 150, 151, 152, 153, 154, 155, 156, 157, 158, 159, 160, 161, 162, 163, 164, 165, 166, 167, 168, 169, 170, 171, 172, 173, 174, 175, 176, 177, 178, 179, 180, 181, 182, 183, 184, 185, 186, 187, 188, 189, 190, 191, 192, 193] (by decide +kernel) (by decide +kernel)
set_option maxRecDepth 20000 in
theorem gX10_seek_X10_come : GoodIn wsX10_seek (wsV RX10 458 RX10 yX10_come wsX10_come) := goodIn_app (goodIn_of _ (by decide +kernel)) ggX10_seek_X10_come
set_option maxRecDepth 20000 in
theorem ggX10_seek_X10_nearest : GoodIn wsX10_seek wsX10_nearest := goodIn_r _ [32, 2, 6, 8, 123, 124, 125, 126, 127, 128, 129, 130, 131, 132, 133, 134, 135, 136, 137, 138, 139, 140, 141, 142, 143, 144, 145, 146, 147, 148, 149, 150, 151, 152, 153, 154, 155, 156, 157, 158, 159, 160, 161, 162, 163, 164, 165, 166, 167, 168, 169, 170, 171, 172, 173, 174, 175, 176, 177, 178, 179, 180, 181, 182, 183, 184, 185, 186, 187, 188, 189, 190, 191, 192, 193] (by decide +kernel) (by decide +kernel)
set_option maxRecDepth 20000 in
theorem gX10_seek_X10_nearest : GoodIn wsX10_seek (wsV RX10 462 RX10 yX10_nearest wsX10_nearest) := goodIn_app (goodIn_of _ (by decide +kernel)) ggX10_seek_X10_nearest
set_option maxRecDepth 20000 in
theorem ggX10_seek_X10_unpack : GoodIn wsX10_seek wsX10_unpack := goodIn_r _ [36, 10, 15, 37, 123, 124, 125, 126, 127, 128, 129, 130, 131, 132, 133, 134, 135, 136, 137, 138, 139, 140, 141, 142, 143, 144, 145, 146, 147, 148, 149, 150, 151, 152, 153, 154, 155, 156, 157, 158, 159, 160, 161, 162, 163, 164, 165, 166, 167, 168, 169, 170, 171, 172, 173, 174, 175, 176, 177, 178, 179, 180, 181, 182, 183, 184, 185, 186, 187, 188, 189, 190, 191, 192, 193] (by decide +kernel) (by decide +kernel)
set_option maxRecDepth 20000 in
theorem gX10_seek_X10_unpack : GoodIn wsX10_seek (wsV RX10 465 RX10 yX10_unpack wsX10_unpack) := goodIn_app (goodIn_of _ (by decide +kernel)) ggX10_seek_X10_unpack
set_option maxRecDepth 20000 in
theorem ggX10_seek_X10_arrange : GoodIn wsX10_seek wsX10_arrange := goodIn_r _ [41, 3, 42, 10, 5, 37, 43, 44, 45, 46, 13, 47, 4, 9, 48, 49, 50, 51, 52, 53, 54, 55, 56, 57, 58, 59, 60, 61, 62, 63, 64, 65, 66, 67, 68, 69, 70, 71, 72, 73, 74, 75, 76, 77, 78, 79, 80, 81, 82, 83, 84, 85, 86, 87, 88, 89, 90, 91, 92, 93, 94, 95, 96, 97, 98, 99, 100, 101, 102, 103, 20, 21, 22, 23, 104, 105, 106, 107, 108, 109, 110, 111, 112, 113, 114, 11, 12, 14, 15, 16, 17, 18, 19, 1, 7, 8, 24, 2, 6, 25, 26, 27, 28, 38, 39, 40, 115, 116, 117, 118, 119, 120, 121, 122, 123, 124, 125, 126, 127, 128, 129, 130, 131, 132, 133, 134, 135, 136, 137, 138, 139, 140, 141, 142, 143, 144, 145, 146, 147, 148, 149, 150, 151, 152, 153, 154, 155, 156, 157, 158, 159, 160, 161, 162, 163, 164, 165, 166, 167, 168, 169, 170, 171, 172, 173, 174, 175, 176, 177, 178, 179, 180, 181, 182, 183, 184, 185, 186, 187, 188, 189, 190, 191, 192, 193] (by decide +kernel) (by decide +kernel)
set_option maxRecDepth 20000 in
theorem gX10_seek_X10_arrange : GoodIn wsX10_seek (wsV RX10 445 RX10 yX10_arrange wsX10_arrange) := goodIn_app (goodIn_of _ (by decide +kernel)) ggX10_seek_X10_arrange
set_option maxRecDepth 20000 in
theorem dX10_seek_0_b : (decode cX10_seek 0 = .ok (.iconst 0, 1)) ∧ (decode cX10_seek 1 = .ok (.istore 4, 2)) ∧ (decode cX10_seek 3 = .ok (.iload 4, 2)) ∧ (decode cX10_seek 5 = .ok (.sipush 8192, 3)) ∧ (decode cX10_seek 8 = .ok (.if_icmp .ge 17, 3)) ∧ (decode cX10_seek 11 = .ok (.aload_n 0, 1)) := by decide +kernel
theorem dX10_seek_0 : decode cX10_seek 0 = .ok (.iconst 0, 1) := dX10_seek_0_b.1
theorem dX10_seek_1 : decode cX10_seek 1 = .ok (.istore 4, 2) := dX10_seek_0_b.2.1
theorem dX10_seek_3 : decode cX10_seek 3 = .ok (.iload 4, 2) := dX10_seek_0_b.2.2.1
theorem dX10_seek_5 : decode cX10_seek 5 = .ok (.sipush 8192, 3) := dX10_seek_0_b.2.2.2.1
theorem dX10_seek_8 : decode cX10_seek 8 = .ok (.if_icmp .ge 17, 3) := dX10_seek_0_b.2.2.2.2.1
theorem dX10_seek_11 : decode cX10_seek 11 = .ok (.aload_n 0, 1) := dX10_seek_0_b.2.2.2.2.2
set_option maxRecDepth 20000 in
theorem dX10_seek_12_b : (decode cX10_seek 12 = .ok (.getfield 127, 3)) ∧ (decode cX10_seek 15 = .ok (.iload 4, 2)) ∧ (decode cX10_seek 17 = .ok (.iconst (-1), 1)) ∧ (decode cX10_seek 18 = .ok (.iastore, 1)) ∧ (decode cX10_seek 19 = .ok (.iinc 4 1, 3)) ∧ (decode cX10_seek 22 = .ok (.goto (-19), 3)) := by decide +kernel
theorem dX10_seek_12 : decode cX10_seek 12 = .ok (.getfield 127, 3) := dX10_seek_12_b.1
theorem dX10_seek_15 : decode cX10_seek 15 = .ok (.iload 4, 2) := dX10_seek_12_b.2.1
theorem dX10_seek_17 : decode cX10_seek 17 = .ok (.iconst (-1), 1) := dX10_seek_12_b.2.2.1
theorem dX10_seek_18 : decode cX10_seek 18 = .ok (.iastore, 1) := dX10_seek_12_b.2.2.2.1
theorem dX10_seek_19 : decode cX10_seek 19 = .ok (.iinc 4 1, 3) := dX10_seek_12_b.2.2.2.2.1
theorem dX10_seek_22 : decode cX10_seek 22 = .ok (.goto (-19), 3) := dX10_seek_12_b.2.2.2.2.2
set_option maxRecDepth 20000 in
theorem dX10_seek_25_b : (decode cX10_seek 25 = .ok (.aload_n 0, 1)) ∧ (decode cX10_seek 26 = .ok (.iconst 0, 1)) ∧ (decode cX10_seek 27 = .ok (.putfield 436, 3)) ∧ (decode cX10_seek 30 = .ok (.aload_n 0, 1)) ∧ (decode cX10_seek 31 = .ok (.iconst 0, 1)) ∧ (decode cX10_seek 32 = .ok (.putfield 439, 3)) := by decide +kernel
theorem dX10_seek_25 : decode cX10_seek 25 = .ok (.aload_n 0, 1) := dX10_seek_25_b.1
theorem dX10_seek_26 : decode cX10_seek 26 = .ok (.iconst 0, 1) := dX10_seek_25_b.2.1
theorem dX10_seek_27 : decode cX10_seek 27 = .ok (.putfield 436, 3) := dX10_seek_25_b.2.2.1
theorem dX10_seek_30 : decode cX10_seek 30 = .ok (.aload_n 0, 1) := dX10_seek_25_b.2.2.2.1
theorem dX10_seek_31 : decode cX10_seek 31 = .ok (.iconst 0, 1) := dX10_seek_25_b.2.2.2.2.1
theorem dX10_seek_32 : decode cX10_seek 32 = .ok (.putfield 439, 3) := dX10_seek_25_b.2.2.2.2.2
set_option maxRecDepth 20000 in
theorem dX10_seek_35_b : (decode cX10_seek 35 = .ok (.aload_n 0, 1)) ∧ (decode cX10_seek 36 = .ok (.iload_n 3, 1)) ∧ (decode cX10_seek 37 = .ok (.putfield 448, 3)) ∧ (decode cX10_seek 40 = .ok (.iconst 0, 1)) ∧ (decode cX10_seek 41 = .ok (.istore 4, 2)) ∧ (decode cX10_seek 43 = .ok (.iload 4, 2)) := by decide +kernel
theorem dX10_seek_35 : decode cX10_seek 35 = .ok (.aload_n 0, 1) := dX10_seek_35_b.1
theorem dX10_seek_36 : decode cX10_seek 36 = .ok (.iload_n 3, 1) := dX10_seek_35_b.2.1
theorem dX10_seek_37 : decode cX10_seek 37 = .ok (.putfield 448, 3) := dX10_seek_35_b.2.2.1
theorem dX10_seek_40 : decode cX10_seek 40 = .ok (.iconst 0, 1) := dX10_seek_35_b.2.2.2.1
theorem dX10_seek_41 : decode cX10_seek 41 = .ok (.istore 4, 2) := dX10_seek_35_b.2.2.2.2.1
theorem dX10_seek_43 : decode cX10_seek 43 = .ok (.iload 4, 2) := dX10_seek_35_b.2.2.2.2.2
set_option maxRecDepth 20000 in
theorem dX10_seek_45_b : (decode cX10_seek 45 = .ok (.bipush 7, 2)) ∧ (decode cX10_seek 47 = .ok (.if_icmp .ge 20, 3)) ∧ (decode cX10_seek 50 = .ok (.aload_n 0, 1)) ∧ (decode cX10_seek 51 = .ok (.getfield 137, 3)) ∧ (decode cX10_seek 54 = .ok (.iload 4, 2)) ∧ (decode cX10_seek 56 = .ok (.aload_n 1, 1)) := by decide +kernel
theorem dX10_seek_45 : decode cX10_seek 45 = .ok (.bipush 7, 2) := dX10_seek_45_b.1
theorem dX10_seek_47 : decode cX10_seek 47 = .ok (.if_icmp .ge 20, 3) := dX10_seek_45_b.2.1
theorem dX10_seek_50 : decode cX10_seek 50 = .ok (.aload_n 0, 1) := dX10_seek_45_b.2.2.1
theorem dX10_seek_51 : decode cX10_seek 51 = .ok (.getfield 137, 3) := dX10_seek_45_b.2.2.2.1
theorem dX10_seek_54 : decode cX10_seek 54 = .ok (.iload 4, 2) := dX10_seek_45_b.2.2.2.2.1
theorem dX10_seek_56 : decode cX10_seek 56 = .ok (.aload_n 1, 1) := dX10_seek_45_b.2.2.2.2.2
set_option maxRecDepth 20000 in
theorem dX10_seek_57_b : (decode cX10_seek 57 = .ok (.iload 4, 2)) ∧ (decode cX10_seek 59 = .ok (.iaload, 1)) ∧ (decode cX10_seek 60 = .ok (.iastore, 1)) ∧ (decode cX10_seek 61 = .ok (.iinc 4 1, 3)) ∧ (decode cX10_seek 64 = .ok (.goto (-21), 3)) ∧ (decode cX10_seek 67 = .ok (.aload_n 0, 1)) := by decide +kernel
theorem dX10_seek_57 : decode cX10_seek 57 = .ok (.iload 4, 2) := dX10_seek_57_b.1
theorem dX10_seek_59 : decode cX10_seek 59 = .ok (.iaload, 1) := dX10_seek_57_b.2.1
theorem dX10_seek_60 : decode cX10_seek 60 = .ok (.iastore, 1) := dX10_seek_57_b.2.2.1
theorem dX10_seek_61 : decode cX10_seek 61 = .ok (.iinc 4 1, 3) := dX10_seek_57_b.2.2.2.1
theorem dX10_seek_64 : decode cX10_seek 64 = .ok (.goto (-21), 3) := dX10_seek_57_b.2.2.2.2.1
theorem dX10_seek_67 : decode cX10_seek 67 = .ok (.aload_n 0, 1) := dX10_seek_57_b.2.2.2.2.2
set_option maxRecDepth 20000 in
theorem dX10_seek_68_b : (decode cX10_seek 68 = .ok (.aload_n 0, 1)) ∧ (decode cX10_seek 69 = .ok (.getfield 137, 3)) ∧ (decode cX10_seek 72 = .ok (.iload_n 2, 1)) ∧ (decode cX10_seek 73 = .ok (.invokestatic 451, 3)) ∧ (decode cX10_seek 76 = .ok (.iconst 0, 1)) ∧ (decode cX10_seek 77 = .ok (.invokevirtual 458, 3)) := by decide +kernel
theorem dX10_seek_68 : decode cX10_seek 68 = .ok (.aload_n 0, 1) := dX10_seek_68_b.1
theorem dX10_seek_69 : decode cX10_seek 69 = .ok (.getfield 137, 3) := dX10_seek_68_b.2.1
theorem dX10_seek_72 : decode cX10_seek 72 = .ok (.iload_n 2, 1) := dX10_seek_68_b.2.2.1
theorem dX10_seek_73 : decode cX10_seek 73 = .ok (.invokestatic 451, 3) := dX10_seek_68_b.2.2.2.1
theorem dX10_seek_76 : decode cX10_seek 76 = .ok (.iconst 0, 1) := dX10_seek_68_b.2.2.2.2.1
theorem dX10_seek_77 : decode cX10_seek 77 = .ok (.invokevirtual 458, 3) := dX10_seek_68_b.2.2.2.2.2
set_option maxRecDepth 20000 in
theorem dX10_seek_80_b : (decode cX10_seek 80 = .ok (.aload_n 0, 1)) ∧ (decode cX10_seek 81 = .ok (.invokevirtual 462, 3)) ∧ (decode cX10_seek 84 = .ok (.istore 4, 2)) ∧ (decode cX10_seek 86 = .ok (.iload 4, 2)) ∧ (decode cX10_seek 88 = .ok (.iconst (-1), 1)) ∧ (decode cX10_seek 89 = .ok (.if_icmp .eq 84, 3)) := by decide +kernel
theorem dX10_seek_80 : decode cX10_seek 80 = .ok (.aload_n 0, 1) := dX10_seek_80_b.1
theorem dX10_seek_81 : decode cX10_seek 81 = .ok (.invokevirtual 462, 3) := dX10_seek_80_b.2.1
theorem dX10_seek_84 : decode cX10_seek 84 = .ok (.istore 4, 2) := dX10_seek_80_b.2.2.1
theorem dX10_seek_86 : decode cX10_seek 86 = .ok (.iload 4, 2) := dX10_seek_80_b.2.2.2.1
theorem dX10_seek_88 : decode cX10_seek 88 = .ok (.iconst (-1), 1) := dX10_seek_80_b.2.2.2.2.1
theorem dX10_seek_89 : decode cX10_seek 89 = .ok (.if_icmp .eq 84, 3) := dX10_seek_80_b.2.2.2.2.2
set_option maxRecDepth 20000 in
theorem dX10_seek_92_b : (decode cX10_seek 92 = .ok (.aload_n 0, 1)) ∧ (decode cX10_seek 93 = .ok (.getfield 439, 3)) ∧ (decode cX10_seek 96 = .ok (.ifCond .ne 77, 3)) ∧ (decode cX10_seek 99 = .ok (.aload_n 0, 1)) ∧ (decode cX10_seek 100 = .ok (.getfield 130, 3)) ∧ (decode cX10_seek 103 = .ok (.iload 4, 2)) := by decide +kernel
theorem dX10_seek_92 : decode cX10_seek 92 = .ok (.aload_n 0, 1) := dX10_seek_92_b.1
theorem dX10_seek_93 : decode cX10_seek 93 = .ok (.getfield 439, 3) := dX10_seek_92_b.2.1
theorem dX10_seek_96 : decode cX10_seek 96 = .ok (.ifCond .ne 77, 3) := dX10_seek_92_b.2.2.1
theorem dX10_seek_99 : decode cX10_seek 99 = .ok (.aload_n 0, 1) := dX10_seek_92_b.2.2.2.1
theorem dX10_seek_100 : decode cX10_seek 100 = .ok (.getfield 130, 3) := dX10_seek_92_b.2.2.2.2.1
theorem dX10_seek_103 : decode cX10_seek 103 = .ok (.iload 4, 2) := dX10_seek_92_b.2.2.2.2.2
set_option maxRecDepth 20000 in
theorem dX10_seek_105_b : (decode cX10_seek 105 = .ok (.iconst 1, 1)) ∧ (decode cX10_seek 106 = .ok (.bastore, 1)) ∧ (decode cX10_seek 107 = .ok (.aload_n 0, 1)) ∧ (decode cX10_seek 108 = .ok (.aload_n 0, 1)) ∧ (decode cX10_seek 109 = .ok (.getfield 117, 3)) ∧ (decode cX10_seek 112 = .ok (.iload 4, 2)) := by decide +kernel
theorem dX10_seek_105 : decode cX10_seek 105 = .ok (.iconst 1, 1) := dX10_seek_105_b.1
theorem dX10_seek_106 : decode cX10_seek 106 = .ok (.bastore, 1) := dX10_seek_105_b.2.1
theorem dX10_seek_107 : decode cX10_seek 107 = .ok (.aload_n 0, 1) := dX10_seek_105_b.2.2.1
theorem dX10_seek_108 : decode cX10_seek 108 = .ok (.aload_n 0, 1) := dX10_seek_105_b.2.2.2.1
theorem dX10_seek_109 : decode cX10_seek 109 = .ok (.getfield 117, 3) := dX10_seek_105_b.2.2.2.2.1
theorem dX10_seek_112 : decode cX10_seek 112 = .ok (.iload 4, 2) := dX10_seek_105_b.2.2.2.2.2
set_option maxRecDepth 20000 in
theorem dX10_seek_114_b : (decode cX10_seek 114 = .ok (.laload, 1)) ∧ (decode cX10_seek 115 = .ok (.invokevirtual 465, 3)) ∧ (decode cX10_seek 118 = .ok (.aload_n 0, 1)) ∧ (decode cX10_seek 119 = .ok (.aload_n 0, 1)) ∧ (decode cX10_seek 120 = .ok (.getfield 121, 3)) ∧ (decode cX10_seek 123 = .ok (.iload 4, 2)) := by decide +kernel
theorem dX10_seek_114 : decode cX10_seek 114 = .ok (.laload, 1) := dX10_seek_114_b.1
theorem dX10_seek_115 : decode cX10_seek 115 = .ok (.invokevirtual 465, 3) := dX10_seek_114_b.2.1
theorem dX10_seek_118 : decode cX10_seek 118 = .ok (.aload_n 0, 1) := dX10_seek_114_b.2.2.1
theorem dX10_seek_119 : decode cX10_seek 119 = .ok (.aload_n 0, 1) := dX10_seek_114_b.2.2.2.1
theorem dX10_seek_120 : decode cX10_seek 120 = .ok (.getfield 121, 3) := dX10_seek_114_b.2.2.2.2.1
theorem dX10_seek_123 : decode cX10_seek 123 = .ok (.iload 4, 2) := dX10_seek_114_b.2.2.2.2.2
set_option maxRecDepth 20000 in
theorem dX10_seek_125_b : (decode cX10_seek 125 = .ok (.iaload, 1)) ∧ (decode cX10_seek 126 = .ok (.putfield 455, 3)) ∧ (decode cX10_seek 129 = .ok (.iconst 0, 1)) ∧ (decode cX10_seek 130 = .ok (.istore 5, 2)) ∧ (decode cX10_seek 132 = .ok (.iload 5, 2)) ∧ (decode cX10_seek 134 = .ok (.bipush 7, 2)) := by decide +kernel
theorem dX10_seek_125 : decode cX10_seek 125 = .ok (.iaload, 1) := dX10_seek_125_b.1
theorem dX10_seek_126 : decode cX10_seek 126 = .ok (.putfield 455, 3) := dX10_seek_125_b.2.1
theorem dX10_seek_129 : decode cX10_seek 129 = .ok (.iconst 0, 1) := dX10_seek_125_b.2.2.1
theorem dX10_seek_130 : decode cX10_seek 130 = .ok (.istore 5, 2) := dX10_seek_125_b.2.2.2.1
theorem dX10_seek_132 : decode cX10_seek 132 = .ok (.iload 5, 2) := dX10_seek_125_b.2.2.2.2.1
theorem dX10_seek_134 : decode cX10_seek 134 = .ok (.bipush 7, 2) := dX10_seek_125_b.2.2.2.2.2
set_option maxRecDepth 20000 in
theorem dX10_seek_136_b : (decode cX10_seek 136 = .ok (.if_icmp .ge 23, 3)) ∧ (decode cX10_seek 139 = .ok (.aload_n 0, 1)) ∧ (decode cX10_seek 140 = .ok (.getfield 137, 3)) ∧ (decode cX10_seek 143 = .ok (.iload 5, 2)) ∧ (decode cX10_seek 145 = .ok (.aload_n 0, 1)) ∧ (decode cX10_seek 146 = .ok (.getfield 134, 3)) := by decide +kernel
theorem dX10_seek_136 : decode cX10_seek 136 = .ok (.if_icmp .ge 23, 3) := dX10_seek_136_b.1
theorem dX10_seek_139 : decode cX10_seek 139 = .ok (.aload_n 0, 1) := dX10_seek_136_b.2.1
theorem dX10_seek_140 : decode cX10_seek 140 = .ok (.getfield 137, 3) := dX10_seek_136_b.2.2.1
theorem dX10_seek_143 : decode cX10_seek 143 = .ok (.iload 5, 2) := dX10_seek_136_b.2.2.2.1
theorem dX10_seek_145 : decode cX10_seek 145 = .ok (.aload_n 0, 1) := dX10_seek_136_b.2.2.2.2.1
theorem dX10_seek_146 : decode cX10_seek 146 = .ok (.getfield 134, 3) := dX10_seek_136_b.2.2.2.2.2
set_option maxRecDepth 20000 in
theorem dX10_seek_149_b : (decode cX10_seek 149 = .ok (.iload 5, 2)) ∧ (decode cX10_seek 151 = .ok (.iaload, 1)) ∧ (decode cX10_seek 152 = .ok (.iastore, 1)) ∧ (decode cX10_seek 153 = .ok (.iinc 5 1, 3)) ∧ (decode cX10_seek 156 = .ok (.goto (-24), 3)) ∧ (decode cX10_seek 159 = .ok (.aload_n 0, 1)) := by decide +kernel
theorem dX10_seek_149 : decode cX10_seek 149 = .ok (.iload 5, 2) := dX10_seek_149_b.1
theorem dX10_seek_151 : decode cX10_seek 151 = .ok (.iaload, 1) := dX10_seek_149_b.2.1
theorem dX10_seek_152 : decode cX10_seek 152 = .ok (.iastore, 1) := dX10_seek_149_b.2.2.1
theorem dX10_seek_153 : decode cX10_seek 153 = .ok (.iinc 5 1, 3) := dX10_seek_149_b.2.2.2.1
theorem dX10_seek_156 : decode cX10_seek 156 = .ok (.goto (-24), 3) := dX10_seek_149_b.2.2.2.2.1
theorem dX10_seek_159 : decode cX10_seek 159 = .ok (.aload_n 0, 1) := dX10_seek_149_b.2.2.2.2.2
set_option maxRecDepth 20000 in
theorem dX10_seek_160_b : (decode cX10_seek 160 = .ok (.iconst 0, 1)) ∧ (decode cX10_seek 161 = .ok (.invokevirtual 445, 3)) ∧ (decode cX10_seek 164 = .ok (.aload_n 0, 1)) ∧ (decode cX10_seek 165 = .ok (.invokevirtual 462, 3)) ∧ (decode cX10_seek 168 = .ok (.istore 4, 2)) ∧ (decode cX10_seek 170 = .ok (.goto (-84), 3)) := by decide +kernel
theorem dX10_seek_160 : decode cX10_seek 160 = .ok (.iconst 0, 1) := dX10_seek_160_b.1
theorem dX10_seek_161 : decode cX10_seek 161 = .ok (.invokevirtual 445, 3) := dX10_seek_160_b.2.1
theorem dX10_seek_164 : decode cX10_seek 164 = .ok (.aload_n 0, 1) := dX10_seek_160_b.2.2.1
theorem dX10_seek_165 : decode cX10_seek 165 = .ok (.invokevirtual 462, 3) := dX10_seek_160_b.2.2.2.1
theorem dX10_seek_168 : decode cX10_seek 168 = .ok (.istore 4, 2) := dX10_seek_160_b.2.2.2.2.1
theorem dX10_seek_170 : decode cX10_seek 170 = .ok (.goto (-84), 3) := dX10_seek_160_b.2.2.2.2.2
set_option maxRecDepth 20000 in
theorem dX10_seek_173_b : (decode cX10_seek 173 = .ok (.aload_n 0, 1)) ∧ (decode cX10_seek 174 = .ok (.getfield 439, 3)) ∧ (decode cX10_seek 177 = .ok (.ifCond .ne 7, 3)) ∧ (decode cX10_seek 180 = .ok (.iconst 1, 1)) ∧ (decode cX10_seek 181 = .ok (.goto 4, 3)) ∧ (decode cX10_seek 184 = .ok (.iconst 0, 1)) := by decide +kernel
theorem dX10_seek_173 : decode cX10_seek 173 = .ok (.aload_n 0, 1) := dX10_seek_173_b.1
theorem dX10_seek_174 : decode cX10_seek 174 = .ok (.getfield 439, 3) := dX10_seek_173_b.2.1
theorem dX10_seek_177 : decode cX10_seek 177 = .ok (.ifCond .ne 7, 3) := dX10_seek_173_b.2.2.1
theorem dX10_seek_180 : decode cX10_seek 180 = .ok (.iconst 1, 1) := dX10_seek_173_b.2.2.2.1
theorem dX10_seek_181 : decode cX10_seek 181 = .ok (.goto 4, 3) := dX10_seek_173_b.2.2.2.2.1
theorem dX10_seek_184 : decode cX10_seek 184 = .ok (.iconst 0, 1) := dX10_seek_173_b.2.2.2.2.2
theorem dX10_seek_185 : decode cX10_seek 185 = .ok (.ireturn, 1) := by decide +kernel
set_option maxRecDepth 20000 in
theorem ggX10_allServed_X10_unpack : GoodIn wsX10_allServed wsX10_unpack := goodIn_r _ [10, 3, 11, 5, 25, 26, 27, 28, 29, 30, 31, 32, 33, 34, 35, 36, 37, 38, 39, 40, 41, 42, 43, 44, 45, 46, 47, 48, 49, 50, 51, 52, 53, 54, 55, 56, 57, 58, 59, 60, 61, 62, 63, 64, 65, 66, 67, 68, 69, 70, 71, 72, 73, 74, 75, 76, 77, 78, 79, 80, 81, 82, 83, 84, 85, 86, 87, 88, 89, 90, 91, 92, 93, 94, 95] (by decide +kernel) (by decide +kernel)
set_option maxRecDepth 20000 in
theorem gX10_allServed_X10_unpack : GoodIn wsX10_allServed (wsV RX10 465 RX10 yX10_unpack wsX10_unpack) := goodIn_app (goodIn_of _ (by decide +kernel)) ggX10_allServed_X10_unpack
set_option maxRecDepth 20000 in
theorem ggX10_allServed_X10_isServed : GoodIn wsX10_allServed wsX10_isServed := goodIn_r _ [15, 4, 25, 26, 27, 28, 29, 30, 31, 32, 33, 34, 35, 36, 37, 38, 39, 40, 41, 42, 43, 44, 45, 46, 47, 48, 49, 50, 51, 52, 53, 54, 55, 56, 57, 58, 59, 60, 61, 62, 63, 64, 65, 66, 67, 68, 69, 70, 71, 72, 73, 74, 75, 76, 77, 78, 79, 80, 81, 82, 83, 84, 85, 86, 87, 88, 89, 90, 91, 92, 93, 94, 95] (by decide +kernel) (by decide +kernel)
set_option maxRecDepth 20000 in
theorem gX10_allServed_X10_isServed : GoodIn wsX10_allServed (wsV RX10 355 RX10 yX10_isServed wsX10_isServed) := goodIn_app (goodIn_of _ (by decide +kernel)) ggX10_allServed_X10_isServed
set_option maxRecDepth 20000 in
theorem ggX10_allServed_X10_depthOf : GoodIn wsX10_allServed wsX10_depthOf := goodIn_r _ [19, 20, 21, 22, 9, 23, 24, 25, 26, 27, 28, 29, 30, 31, 32, 33, 34, 35, 36, 37, 38, 39, 40, 41, 42, 43, 44, 45, 46, 47, 48, 49, 50, 51, 52, 53, 54, 55, 56, 57, 58, 59, 60, 61, 62, 63, 64, 65, 66, 67, 68, 69, 70, 71, 72, 73, 74, 75, 76, 77, 78, 79, 80, 81, 82, 83, 84, 85, 86, 87, 88, 89, 90, 91, 92, 93, 94, 95] (by decide +kernel) (by decide +kernel)
set_option maxRecDepth 20000 in
theorem gX10_allServed_X10_depthOf : GoodIn wsX10_allServed (wsV RX10 352 RX10 yX10_depthOf wsX10_depthOf) := goodIn_app (goodIn_of _ (by decide +kernel)) ggX10_allServed_X10_depthOf
set_option maxRecDepth 20000 in
theorem dX10_allServed_0_b : (decode cX10_allServed 0 = .ok (.aload_n 0, 1)) ∧ (decode cX10_allServed 1 = .ok (.aload_n 0, 1)) ∧ (decode cX10_allServed 2 = .ok (.getfield 117, 3)) ∧ (decode cX10_allServed 5 = .ok (.iload_n 1, 1)) ∧ (decode cX10_allServed 6 = .ok (.laload, 1)) ∧ (decode cX10_allServed 7 = .ok (.invokevirtual 465, 3)) := by decide +kernel
theorem dX10_allServed_0 : decode cX10_allServed 0 = .ok (.aload_n 0, 1) := dX10_allServed_0_b.1
theorem dX10_allServed_1 : decode cX10_allServed 1 = .ok (.aload_n 0, 1) := dX10_allServed_0_b.2.1
theorem dX10_allServed_2 : decode cX10_allServed 2 = .ok (.getfield 117, 3) := dX10_allServed_0_b.2.2.1
theorem dX10_allServed_5 : decode cX10_allServed 5 = .ok (.iload_n 1, 1) := dX10_allServed_0_b.2.2.2.1
theorem dX10_allServed_6 : decode cX10_allServed 6 = .ok (.laload, 1) := dX10_allServed_0_b.2.2.2.2.1
theorem dX10_allServed_7 : decode cX10_allServed 7 = .ok (.invokevirtual 465, 3) := dX10_allServed_0_b.2.2.2.2.2
set_option maxRecDepth 20000 in
theorem dX10_allServed_10_b : (decode cX10_allServed 10 = .ok (.iconst 0, 1)) ∧ (decode cX10_allServed 11 = .ok (.istore_n 2, 1)) ∧ (decode cX10_allServed 12 = .ok (.iload_n 2, 1)) ∧ (decode cX10_allServed 13 = .ok (.aload_n 0, 1)) ∧ (decode cX10_allServed 14 = .ok (.getfield 174, 3)) ∧ (decode cX10_allServed 17 = .ok (.if_icmp .ge 107, 3)) := by decide +kernel
theorem dX10_allServed_10 : decode cX10_allServed 10 = .ok (.iconst 0, 1) := dX10_allServed_10_b.1
theorem dX10_allServed_11 : decode cX10_allServed 11 = .ok (.istore_n 2, 1) := dX10_allServed_10_b.2.1
theorem dX10_allServed_12 : decode cX10_allServed 12 = .ok (.iload_n 2, 1) := dX10_allServed_10_b.2.2.1
theorem dX10_allServed_13 : decode cX10_allServed 13 = .ok (.aload_n 0, 1) := dX10_allServed_10_b.2.2.2.1
theorem dX10_allServed_14 : decode cX10_allServed 14 = .ok (.getfield 174, 3) := dX10_allServed_10_b.2.2.2.2.1
theorem dX10_allServed_17 : decode cX10_allServed 17 = .ok (.if_icmp .ge 107, 3) := dX10_allServed_10_b.2.2.2.2.2
set_option maxRecDepth 20000 in
theorem dX10_allServed_20_b : (decode cX10_allServed 20 = .ok (.aload_n 0, 1)) ∧ (decode cX10_allServed 21 = .ok (.getfield 134, 3)) ∧ (decode cX10_allServed 24 = .ok (.iload_n 2, 1)) ∧ (decode cX10_allServed 25 = .ok (.iaload, 1)) ∧ (decode cX10_allServed 26 = .ok (.bipush 15, 2)) ∧ (decode cX10_allServed 28 = .ok (.if_icmp .eq 90, 3)) := by decide +kernel
theorem dX10_allServed_20 : decode cX10_allServed 20 = .ok (.aload_n 0, 1) := dX10_allServed_20_b.1
theorem dX10_allServed_21 : decode cX10_allServed 21 = .ok (.getfield 134, 3) := dX10_allServed_20_b.2.1
theorem dX10_allServed_24 : decode cX10_allServed 24 = .ok (.iload_n 2, 1) := dX10_allServed_20_b.2.2.1
theorem dX10_allServed_25 : decode cX10_allServed 25 = .ok (.iaload, 1) := dX10_allServed_20_b.2.2.2.1
theorem dX10_allServed_26 : decode cX10_allServed 26 = .ok (.bipush 15, 2) := dX10_allServed_20_b.2.2.2.2.1
theorem dX10_allServed_28 : decode cX10_allServed 28 = .ok (.if_icmp .eq 90, 3) := dX10_allServed_20_b.2.2.2.2.2
set_option maxRecDepth 20000 in
theorem dX10_allServed_31_b : (decode cX10_allServed 31 = .ok (.aload_n 0, 1)) ∧ (decode cX10_allServed 32 = .ok (.getfield 65, 3)) ∧ (decode cX10_allServed 35 = .ok (.iload_n 2, 1)) ∧ (decode cX10_allServed 36 = .ok (.iaload, 1)) ∧ (decode cX10_allServed 37 = .ok (.iconst (-1), 1)) ∧ (decode cX10_allServed 38 = .ok (.if_icmp .eq 80, 3)) := by decide +kernel
theorem dX10_allServed_31 : decode cX10_allServed 31 = .ok (.aload_n 0, 1) := dX10_allServed_31_b.1
theorem dX10_allServed_32 : decode cX10_allServed 32 = .ok (.getfield 65, 3) := dX10_allServed_31_b.2.1
theorem dX10_allServed_35 : decode cX10_allServed 35 = .ok (.iload_n 2, 1) := dX10_allServed_31_b.2.2.1
theorem dX10_allServed_36 : decode cX10_allServed 36 = .ok (.iaload, 1) := dX10_allServed_31_b.2.2.2.1
theorem dX10_allServed_37 : decode cX10_allServed 37 = .ok (.iconst (-1), 1) := dX10_allServed_31_b.2.2.2.2.1
theorem dX10_allServed_38 : decode cX10_allServed 38 = .ok (.if_icmp .eq 80, 3) := dX10_allServed_31_b.2.2.2.2.2
set_option maxRecDepth 20000 in
theorem dX10_allServed_41_b : (decode cX10_allServed 41 = .ok (.aload_n 0, 1)) ∧ (decode cX10_allServed 42 = .ok (.iload_n 2, 1)) ∧ (decode cX10_allServed 43 = .ok (.aload_n 0, 1)) ∧ (decode cX10_allServed 44 = .ok (.getfield 134, 3)) ∧ (decode cX10_allServed 47 = .ok (.iload_n 2, 1)) ∧ (decode cX10_allServed 48 = .ok (.iaload, 1)) := by decide +kernel
theorem dX10_allServed_41 : decode cX10_allServed 41 = .ok (.aload_n 0, 1) := dX10_allServed_41_b.1
theorem dX10_allServed_42 : decode cX10_allServed 42 = .ok (.iload_n 2, 1) := dX10_allServed_41_b.2.1
theorem dX10_allServed_43 : decode cX10_allServed 43 = .ok (.aload_n 0, 1) := dX10_allServed_41_b.2.2.1
theorem dX10_allServed_44 : decode cX10_allServed 44 = .ok (.getfield 134, 3) := dX10_allServed_41_b.2.2.2.1
theorem dX10_allServed_47 : decode cX10_allServed 47 = .ok (.iload_n 2, 1) := dX10_allServed_41_b.2.2.2.2.1
theorem dX10_allServed_48 : decode cX10_allServed 48 = .ok (.iaload, 1) := dX10_allServed_41_b.2.2.2.2.2
set_option maxRecDepth 20000 in
theorem dX10_allServed_49_b : (decode cX10_allServed 49 = .ok (.invokevirtual 355, 3)) ∧ (decode cX10_allServed 52 = .ok (.ifCond .eq 6, 3)) ∧ (decode cX10_allServed 55 = .ok (.goto 63, 3)) ∧ (decode cX10_allServed 58 = .ok (.aload_n 0, 1)) ∧ (decode cX10_allServed 59 = .ok (.getfield 134, 3)) ∧ (decode cX10_allServed 62 = .ok (.iload_n 2, 1)) := by decide +kernel
theorem dX10_allServed_49 : decode cX10_allServed 49 = .ok (.invokevirtual 355, 3) := dX10_allServed_49_b.1
theorem dX10_allServed_52 : decode cX10_allServed 52 = .ok (.ifCond .eq 6, 3) := dX10_allServed_49_b.2.1
theorem dX10_allServed_55 : decode cX10_allServed 55 = .ok (.goto 63, 3) := dX10_allServed_49_b.2.2.1
theorem dX10_allServed_58 : decode cX10_allServed 58 = .ok (.aload_n 0, 1) := dX10_allServed_49_b.2.2.2.1
theorem dX10_allServed_59 : decode cX10_allServed 59 = .ok (.getfield 134, 3) := dX10_allServed_49_b.2.2.2.2.1
theorem dX10_allServed_62 : decode cX10_allServed 62 = .ok (.iload_n 2, 1) := dX10_allServed_49_b.2.2.2.2.2
set_option maxRecDepth 20000 in
theorem dX10_allServed_63_b : (decode cX10_allServed 63 = .ok (.iaload, 1)) ∧ (decode cX10_allServed 64 = .ok (.bipush 12, 2)) ∧ (decode cX10_allServed 66 = .ok (.if_icmp .eq 14, 3)) ∧ (decode cX10_allServed 69 = .ok (.aload_n 0, 1)) ∧ (decode cX10_allServed 70 = .ok (.getfield 134, 3)) ∧ (decode cX10_allServed 73 = .ok (.iload_n 2, 1)) := by decide +kernel
theorem dX10_allServed_63 : decode cX10_allServed 63 = .ok (.iaload, 1) := dX10_allServed_63_b.1
theorem dX10_allServed_64 : decode cX10_allServed 64 = .ok (.bipush 12, 2) := dX10_allServed_63_b.2.1
theorem dX10_allServed_66 : decode cX10_allServed 66 = .ok (.if_icmp .eq 14, 3) := dX10_allServed_63_b.2.2.1
theorem dX10_allServed_69 : decode cX10_allServed 69 = .ok (.aload_n 0, 1) := dX10_allServed_63_b.2.2.2.1
theorem dX10_allServed_70 : decode cX10_allServed 70 = .ok (.getfield 134, 3) := dX10_allServed_63_b.2.2.2.2.1
theorem dX10_allServed_73 : decode cX10_allServed 73 = .ok (.iload_n 2, 1) := dX10_allServed_63_b.2.2.2.2.2
set_option maxRecDepth 20000 in
theorem dX10_allServed_74_b : (decode cX10_allServed 74 = .ok (.iaload, 1)) ∧ (decode cX10_allServed 75 = .ok (.bipush 13, 2)) ∧ (decode cX10_allServed 77 = .ok (.if_icmp .ne 7, 3)) ∧ (decode cX10_allServed 80 = .ok (.iconst 1, 1)) ∧ (decode cX10_allServed 81 = .ok (.goto 4, 3)) ∧ (decode cX10_allServed 84 = .ok (.iconst 0, 1)) := by decide +kernel
theorem dX10_allServed_74 : decode cX10_allServed 74 = .ok (.iaload, 1) := dX10_allServed_74_b.1
theorem dX10_allServed_75 : decode cX10_allServed 75 = .ok (.bipush 13, 2) := dX10_allServed_74_b.2.1
theorem dX10_allServed_77 : decode cX10_allServed 77 = .ok (.if_icmp .ne 7, 3) := dX10_allServed_74_b.2.2.1
theorem dX10_allServed_80 : decode cX10_allServed 80 = .ok (.iconst 1, 1) := dX10_allServed_74_b.2.2.2.1
theorem dX10_allServed_81 : decode cX10_allServed 81 = .ok (.goto 4, 3) := dX10_allServed_74_b.2.2.2.2.1
theorem dX10_allServed_84 : decode cX10_allServed 84 = .ok (.iconst 0, 1) := dX10_allServed_74_b.2.2.2.2.2
set_option maxRecDepth 20000 in
theorem dX10_allServed_85_b : (decode cX10_allServed 85 = .ok (.istore_n 3, 1)) ∧ (decode cX10_allServed 86 = .ok (.iload_n 3, 1)) ∧ (decode cX10_allServed 87 = .ok (.ifCond .eq 29, 3)) ∧ (decode cX10_allServed 90 = .ok (.aload_n 0, 1)) ∧ (decode cX10_allServed 91 = .ok (.aload_n 0, 1)) ∧ (decode cX10_allServed 92 = .ok (.getfield 134, 3)) := by decide +kernel
theorem dX10_allServed_85 : decode cX10_allServed 85 = .ok (.istore_n 3, 1) := dX10_allServed_85_b.1
theorem dX10_allServed_86 : decode cX10_allServed 86 = .ok (.iload_n 3, 1) := dX10_allServed_85_b.2.1
theorem dX10_allServed_87 : decode cX10_allServed 87 = .ok (.ifCond .eq 29, 3) := dX10_allServed_85_b.2.2.1
theorem dX10_allServed_90 : decode cX10_allServed 90 = .ok (.aload_n 0, 1) := dX10_allServed_85_b.2.2.2.1
theorem dX10_allServed_91 : decode cX10_allServed 91 = .ok (.aload_n 0, 1) := dX10_allServed_85_b.2.2.2.2.1
theorem dX10_allServed_92 : decode cX10_allServed 92 = .ok (.getfield 134, 3) := dX10_allServed_85_b.2.2.2.2.2
set_option maxRecDepth 20000 in
theorem dX10_allServed_95_b : (decode cX10_allServed 95 = .ok (.iload_n 2, 1)) ∧ (decode cX10_allServed 96 = .ok (.iaload, 1)) ∧ (decode cX10_allServed 97 = .ok (.bipush 12, 2)) ∧ (decode cX10_allServed 99 = .ok (.isub, 1)) ∧ (decode cX10_allServed 100 = .ok (.aload_n 0, 1)) ∧ (decode cX10_allServed 101 = .ok (.getfield 427, 3)) := by decide +kernel
theorem dX10_allServed_95 : decode cX10_allServed 95 = .ok (.iload_n 2, 1) := dX10_allServed_95_b.1
theorem dX10_allServed_96 : decode cX10_allServed 96 = .ok (.iaload, 1) := dX10_allServed_95_b.2.1
theorem dX10_allServed_97 : decode cX10_allServed 97 = .ok (.bipush 12, 2) := dX10_allServed_95_b.2.2.1
theorem dX10_allServed_99 : decode cX10_allServed 99 = .ok (.isub, 1) := dX10_allServed_95_b.2.2.2.1
theorem dX10_allServed_100 : decode cX10_allServed 100 = .ok (.aload_n 0, 1) := dX10_allServed_95_b.2.2.2.2.1
theorem dX10_allServed_101 : decode cX10_allServed 101 = .ok (.getfield 427, 3) := dX10_allServed_95_b.2.2.2.2.2
set_option maxRecDepth 20000 in
theorem dX10_allServed_104_b : (decode cX10_allServed 104 = .ok (.invokevirtual 352, 3)) ∧ (decode cX10_allServed 107 = .ok (.aload_n 0, 1)) ∧ (decode cX10_allServed 108 = .ok (.getfield 65, 3)) ∧ (decode cX10_allServed 111 = .ok (.iload_n 2, 1)) ∧ (decode cX10_allServed 112 = .ok (.iaload, 1)) ∧ (decode cX10_allServed 113 = .ok (.if_icmp .eq 5, 3)) := by decide +kernel
theorem dX10_allServed_104 : decode cX10_allServed 104 = .ok (.invokevirtual 352, 3) := dX10_allServed_104_b.1
theorem dX10_allServed_107 : decode cX10_allServed 107 = .ok (.aload_n 0, 1) := dX10_allServed_104_b.2.1
theorem dX10_allServed_108 : decode cX10_allServed 108 = .ok (.getfield 65, 3) := dX10_allServed_104_b.2.2.1
theorem dX10_allServed_111 : decode cX10_allServed 111 = .ok (.iload_n 2, 1) := dX10_allServed_104_b.2.2.2.1
theorem dX10_allServed_112 : decode cX10_allServed 112 = .ok (.iaload, 1) := dX10_allServed_104_b.2.2.2.2.1
theorem dX10_allServed_113 : decode cX10_allServed 113 = .ok (.if_icmp .eq 5, 3) := dX10_allServed_104_b.2.2.2.2.2
set_option maxRecDepth 20000 in
theorem dX10_allServed_116_b : (decode cX10_allServed 116 = .ok (.iconst 0, 1)) ∧ (decode cX10_allServed 117 = .ok (.ireturn, 1)) ∧ (decode cX10_allServed 118 = .ok (.iinc 2 1, 3)) ∧ (decode cX10_allServed 121 = .ok (.goto (-109), 3)) ∧ (decode cX10_allServed 124 = .ok (.iconst 1, 1)) ∧ (decode cX10_allServed 125 = .ok (.ireturn, 1)) := by decide +kernel
theorem dX10_allServed_116 : decode cX10_allServed 116 = .ok (.iconst 0, 1) := dX10_allServed_116_b.1
theorem dX10_allServed_117 : decode cX10_allServed 117 = .ok (.ireturn, 1) := dX10_allServed_116_b.2.1
theorem dX10_allServed_118 : decode cX10_allServed 118 = .ok (.iinc 2 1, 3) := dX10_allServed_116_b.2.2.1
theorem dX10_allServed_121 : decode cX10_allServed 121 = .ok (.goto (-109), 3) := dX10_allServed_116_b.2.2.2.1
theorem dX10_allServed_124 : decode cX10_allServed 124 = .ok (.iconst 1, 1) := dX10_allServed_116_b.2.2.2.2.1
theorem dX10_allServed_125 : decode cX10_allServed 125 = .ok (.ireturn, 1) := dX10_allServed_116_b.2.2.2.2.2
set_option maxRecDepth 20000 in
theorem ggX10_leastServed_X10_allServed : GoodIn wsX10_leastServed wsX10_allServed := goodIn_r _ [7, 8, 9, 10, 11, 12, 13, 14, 15, 6, 16, 17, 18, 19, 20, 21, 22, 23, 24, 25, 26, 27, 28, 29, 30, 31, 32, 33, 34, 35, 36, 37, 38, 39, 40, 41, 42, 43, 44, 45, 46, 47, 48, 49, 50, 51, 52, 53, 54, 55, 56, 57, 58, 59, 60, 61, 62, 63, 64, 65, 66, 67, 68, 69, 70, 71, 72, 73, 74, 75, 76, 77, 78, 79, 80, 81, 82, 83, 84, 85, 86, 87, 88, 89, 90, 91, 92, 93, 94, 95, 96, 97, 98, 99, 100, 101] (by decide +kernel) (by decide +kernel)
set_option maxRecDepth 20000 in
theorem gX10_leastServed_X10_allServed : GoodIn wsX10_leastServed (wsV RX10 469 RX10 yX10_allServed wsX10_allServed) := goodIn_app (goodIn_of _ (by decide +kernel)) ggX10_leastServed_X10_allServed
set_option maxRecDepth 20000 in
theorem dX10_leastServed_0_b : (decode cX10_leastServed 0 = .ok (.iconst (-1), 1)) ∧ (decode cX10_leastServed 1 = .ok (.istore_n 1, 1)) ∧ (decode cX10_leastServed 2 = .ok (.iconst 0, 1)) ∧ (decode cX10_leastServed 3 = .ok (.istore_n 2, 1)) ∧ (decode cX10_leastServed 4 = .ok (.iload_n 2, 1)) ∧ (decode cX10_leastServed 5 = .ok (.aload_n 0, 1)) := by decide +kernel
theorem dX10_leastServed_0 : decode cX10_leastServed 0 = .ok (.iconst (-1), 1) := dX10_leastServed_0_b.1
theorem dX10_leastServed_1 : decode cX10_leastServed 1 = .ok (.istore_n 1, 1) := dX10_leastServed_0_b.2.1
theorem dX10_leastServed_2 : decode cX10_leastServed 2 = .ok (.iconst 0, 1) := dX10_leastServed_0_b.2.2.1
theorem dX10_leastServed_3 : decode cX10_leastServed 3 = .ok (.istore_n 2, 1) := dX10_leastServed_0_b.2.2.2.1
theorem dX10_leastServed_4 : decode cX10_leastServed 4 = .ok (.iload_n 2, 1) := dX10_leastServed_0_b.2.2.2.2.1
theorem dX10_leastServed_5 : decode cX10_leastServed 5 = .ok (.aload_n 0, 1) := dX10_leastServed_0_b.2.2.2.2.2
set_option maxRecDepth 20000 in
theorem dX10_leastServed_6_b : (decode cX10_leastServed 6 = .ok (.getfield 436, 3)) ∧ (decode cX10_leastServed 9 = .ok (.if_icmp .ge 39, 3)) ∧ (decode cX10_leastServed 12 = .ok (.aload_n 0, 1)) ∧ (decode cX10_leastServed 13 = .ok (.iload_n 2, 1)) ∧ (decode cX10_leastServed 14 = .ok (.invokevirtual 469, 3)) ∧ (decode cX10_leastServed 17 = .ok (.ifCond .eq 25, 3)) := by decide +kernel
theorem dX10_leastServed_6 : decode cX10_leastServed 6 = .ok (.getfield 436, 3) := dX10_leastServed_6_b.1
theorem dX10_leastServed_9 : decode cX10_leastServed 9 = .ok (.if_icmp .ge 39, 3) := dX10_leastServed_6_b.2.1
theorem dX10_leastServed_12 : decode cX10_leastServed 12 = .ok (.aload_n 0, 1) := dX10_leastServed_6_b.2.2.1
theorem dX10_leastServed_13 : decode cX10_leastServed 13 = .ok (.iload_n 2, 1) := dX10_leastServed_6_b.2.2.2.1
theorem dX10_leastServed_14 : decode cX10_leastServed 14 = .ok (.invokevirtual 469, 3) := dX10_leastServed_6_b.2.2.2.2.1
theorem dX10_leastServed_17 : decode cX10_leastServed 17 = .ok (.ifCond .eq 25, 3) := dX10_leastServed_6_b.2.2.2.2.2
set_option maxRecDepth 20000 in
theorem dX10_leastServed_20_b : (decode cX10_leastServed 20 = .ok (.iload_n 1, 1)) ∧ (decode cX10_leastServed 21 = .ok (.iconst (-1), 1)) ∧ (decode cX10_leastServed 22 = .ok (.if_icmp .eq 13, 3)) ∧ (decode cX10_leastServed 25 = .ok (.aload_n 0, 1)) ∧ (decode cX10_leastServed 26 = .ok (.getfield 121, 3)) ∧ (decode cX10_leastServed 29 = .ok (.iload_n 2, 1)) := by decide +kernel
theorem dX10_leastServed_20 : decode cX10_leastServed 20 = .ok (.iload_n 1, 1) := dX10_leastServed_20_b.1
theorem dX10_leastServed_21 : decode cX10_leastServed 21 = .ok (.iconst (-1), 1) := dX10_leastServed_20_b.2.1
theorem dX10_leastServed_22 : decode cX10_leastServed 22 = .ok (.if_icmp .eq 13, 3) := dX10_leastServed_20_b.2.2.1
theorem dX10_leastServed_25 : decode cX10_leastServed 25 = .ok (.aload_n 0, 1) := dX10_leastServed_20_b.2.2.2.1
theorem dX10_leastServed_26 : decode cX10_leastServed 26 = .ok (.getfield 121, 3) := dX10_leastServed_20_b.2.2.2.2.1
theorem dX10_leastServed_29 : decode cX10_leastServed 29 = .ok (.iload_n 2, 1) := dX10_leastServed_20_b.2.2.2.2.2
set_option maxRecDepth 20000 in
theorem dX10_leastServed_30_b : (decode cX10_leastServed 30 = .ok (.iaload, 1)) ∧ (decode cX10_leastServed 31 = .ok (.iload_n 1, 1)) ∧ (decode cX10_leastServed 32 = .ok (.if_icmp .ge 10, 3)) ∧ (decode cX10_leastServed 35 = .ok (.aload_n 0, 1)) ∧ (decode cX10_leastServed 36 = .ok (.getfield 121, 3)) ∧ (decode cX10_leastServed 39 = .ok (.iload_n 2, 1)) := by decide +kernel
theorem dX10_leastServed_30 : decode cX10_leastServed 30 = .ok (.iaload, 1) := dX10_leastServed_30_b.1
theorem dX10_leastServed_31 : decode cX10_leastServed 31 = .ok (.iload_n 1, 1) := dX10_leastServed_30_b.2.1
theorem dX10_leastServed_32 : decode cX10_leastServed 32 = .ok (.if_icmp .ge 10, 3) := dX10_leastServed_30_b.2.2.1
theorem dX10_leastServed_35 : decode cX10_leastServed 35 = .ok (.aload_n 0, 1) := dX10_leastServed_30_b.2.2.2.1
theorem dX10_leastServed_36 : decode cX10_leastServed 36 = .ok (.getfield 121, 3) := dX10_leastServed_30_b.2.2.2.2.1
theorem dX10_leastServed_39 : decode cX10_leastServed 39 = .ok (.iload_n 2, 1) := dX10_leastServed_30_b.2.2.2.2.2
set_option maxRecDepth 20000 in
theorem dX10_leastServed_40_b : (decode cX10_leastServed 40 = .ok (.iaload, 1)) ∧ (decode cX10_leastServed 41 = .ok (.istore_n 1, 1)) ∧ (decode cX10_leastServed 42 = .ok (.iinc 2 1, 3)) ∧ (decode cX10_leastServed 45 = .ok (.goto (-41), 3)) ∧ (decode cX10_leastServed 48 = .ok (.iload_n 1, 1)) ∧ (decode cX10_leastServed 49 = .ok (.ireturn, 1)) := by decide +kernel
theorem dX10_leastServed_40 : decode cX10_leastServed 40 = .ok (.iaload, 1) := dX10_leastServed_40_b.1
theorem dX10_leastServed_41 : decode cX10_leastServed 41 = .ok (.istore_n 1, 1) := dX10_leastServed_40_b.2.1
theorem dX10_leastServed_42 : decode cX10_leastServed 42 = .ok (.iinc 2 1, 3) := dX10_leastServed_40_b.2.2.1
theorem dX10_leastServed_45 : decode cX10_leastServed 45 = .ok (.goto (-41), 3) := dX10_leastServed_40_b.2.2.2.1
theorem dX10_leastServed_48 : decode cX10_leastServed 48 = .ok (.iload_n 1, 1) := dX10_leastServed_40_b.2.2.2.2.1
theorem dX10_leastServed_49 : decode cX10_leastServed 49 = .ok (.ireturn, 1) := dX10_leastServed_40_b.2.2.2.2.2
set_option maxRecDepth 20000 in
theorem ggX10_fewest_X10_fail : GoodIn wsX10_fewest wsX10_fail := goodIn_r _ [8, 1, 142, 143, 144, 145, 146, 147, 148, 149, 150, 151, 152, 153, 154, 155, 156, 157, 158, 159, 160, 161, 162, 163, 164, 165, 166, 167, 168, 169, 170, 171, 172, 173, 174, 175, 176, 177, 178, 179, 180, 181, 182, 183, 184, 185, 186, 187, 188, 189, 190, 191, 192, 193, 194, 195, 196, 197, 198, 199, 200, 201, 202, 203, 204, 205, 206, 207, 208, 209, 210, 211, 212] (by decide +kernel) (by decide +kernel)
set_option maxRecDepth 20000 in
theorem gX10_fewest_X10_fail : GoodIn wsX10_fewest (wsV RX10 315 RX10 yX10_fail wsX10_fail) := goodIn_app (goodIn_of _ (by decide +kernel)) ggX10_fewest_X10_fail
set_option maxRecDepth 20000 in
theorem ggX10_fewest_X10_seek : GoodIn wsX10_fewest wsX10_seek := goodIn_r _ [12, 13, 14, 15, 16, 17, 18, 19, 20, 21, 22, 23, 24, 7, 25, 26, 27, 28, 29, 30, 31, 32, 33, 34, 35, 36, 37, 38, 39, 40, 41, 42, 43, 44, 45, 46, 47, 48, 49, 50, 51, 52, 53, 54, 55, 56, 57, 58, 59, 60, 61, 62, 63, 64, 65, 66, 67, 68, 69, 70, 71, 72, 73, 74, 75, 76, 77, 78, 79, 80, 81, 82, 83, 84, 85, 86, 87, 88, 89, 90, 91, 92, 93, 94, 95, 96, 97, 98, 99, 100, 101, 102, 103, 104, 105, 106, 107, 108, 109, 110, 111, 112, 113, 114, 115, 116, 117, 118, 119, 120, 121, 122, 123, 124, 125, 126, 127, 128, 129, 130, 131, 132, 133, 142, 143, 144, 145, 146, 147, 148, 149, 150, 151, 152, 153, 154, 155, 156, 157, 158, 159, 160, 161, 162, 163, 164, 165, 166, 167, 168, 169, 170, 171, 172, 173, 174, 175, 176, 177, 178, 179, 180, 181, 182, 183, 184, 185, 186, 187, 188, 189, 190, 191, 192, 193, 194, 195, 196, 197, 198, 199, 200, 201, 202, 203, 204, 205, 206, 207, 208, 209, 210, 211, 212] (by decide +kernel) (by decide +kernel)
set_option maxRecDepth 20000 in
theorem gX10_fewest_X10_seek : GoodIn wsX10_fewest (wsV RX10 472 RX10 yX10_seek wsX10_seek) := goodIn_app (goodIn_of _ (by decide +kernel)) ggX10_fewest_X10_seek
set_option maxRecDepth 20000 in
theorem ggX10_fewest_X10_leastServed : GoodIn wsX10_fewest wsX10_leastServed := goodIn_r _ [137, 14, 20, 138, 139, 140, 7, 141, 19, 53, 22, 54, 48, 44, 45, 46, 47, 26, 130, 131, 132, 133, 88, 89, 90, 91, 92, 93, 94, 95, 64, 142, 143, 144, 145, 146, 147, 148, 149, 150, 151, 152, 153, 154, 155, 156, 157, 158, 159, 160, 161, 162, 163, 164, 165, 166, 167, 168, 169, 170, 171, 172, 173, 174, 175, 176, 177, 178, 179, 180, 181, 182, 183, 184, 185, 186, 187, 188, 189, 190, 191, 192, 193, 194, 195, 196, 197, 198, 199, 200, 201, 202, 203, 204, 205, 206, 207, 208, 209, 210, 211, 212] (by decide +kernel) (by decide +kernel)
set_option maxRecDepth 20000 in
theorem gX10_fewest_X10_leastServed : GoodIn wsX10_fewest (wsV RX10 476 RX10 yX10_leastServed wsX10_leastServed) := goodIn_app (goodIn_of _ (by decide +kernel)) ggX10_fewest_X10_leastServed
set_option maxRecDepth 20000 in
theorem dX10_fewest_0_b : (decode cX10_fewest 0 = .ok (.aload_n 0, 1)) ∧ (decode cX10_fewest 1 = .ok (.iconst 0, 1)) ∧ (decode cX10_fewest 2 = .ok (.putfield 171, 3)) ∧ (decode cX10_fewest 5 = .ok (.iload_n 1, 1)) ∧ (decode cX10_fewest 6 = .ok (.ifCond .lt 8, 3)) ∧ (decode cX10_fewest 9 = .ok (.iload_n 1, 1)) := by decide +kernel
theorem dX10_fewest_0 : decode cX10_fewest 0 = .ok (.aload_n 0, 1) := dX10_fewest_0_b.1
theorem dX10_fewest_1 : decode cX10_fewest 1 = .ok (.iconst 0, 1) := dX10_fewest_0_b.2.1
theorem dX10_fewest_2 : decode cX10_fewest 2 = .ok (.putfield 171, 3) := dX10_fewest_0_b.2.2.1
theorem dX10_fewest_5 : decode cX10_fewest 5 = .ok (.iload_n 1, 1) := dX10_fewest_0_b.2.2.2.1
theorem dX10_fewest_6 : decode cX10_fewest 6 = .ok (.ifCond .lt 8, 3) := dX10_fewest_0_b.2.2.2.2.1
theorem dX10_fewest_9 : decode cX10_fewest 9 = .ok (.iload_n 1, 1) := dX10_fewest_0_b.2.2.2.2.2
set_option maxRecDepth 20000 in
theorem dX10_fewest_10_b : (decode cX10_fewest 10 = .ok (.iconst 1, 1)) ∧ (decode cX10_fewest 11 = .ok (.if_icmp .le 9, 3)) ∧ (decode cX10_fewest 14 = .ok (.aload_n 0, 1)) ∧ (decode cX10_fewest 15 = .ok (.iconst 1, 1)) ∧ (decode cX10_fewest 16 = .ok (.invokevirtual 315, 3)) ∧ (decode cX10_fewest 19 = .ok (.ireturn, 1)) := by decide +kernel
theorem dX10_fewest_10 : decode cX10_fewest 10 = .ok (.iconst 1, 1) := dX10_fewest_10_b.1
theorem dX10_fewest_11 : decode cX10_fewest 11 = .ok (.if_icmp .le 9, 3) := dX10_fewest_10_b.2.1
theorem dX10_fewest_14 : decode cX10_fewest 14 = .ok (.aload_n 0, 1) := dX10_fewest_10_b.2.2.1
theorem dX10_fewest_15 : decode cX10_fewest 15 = .ok (.iconst 1, 1) := dX10_fewest_10_b.2.2.2.1
theorem dX10_fewest_16 : decode cX10_fewest 16 = .ok (.invokevirtual 315, 3) := dX10_fewest_10_b.2.2.2.2.1
theorem dX10_fewest_19 : decode cX10_fewest 19 = .ok (.ireturn, 1) := dX10_fewest_10_b.2.2.2.2.2
set_option maxRecDepth 20000 in
theorem dX10_fewest_20_b : (decode cX10_fewest 20 = .ok (.aload_n 0, 1)) ∧ (decode cX10_fewest 21 = .ok (.aload_n 0, 1)) ∧ (decode cX10_fewest 22 = .ok (.getfield 87, 3)) ∧ (decode cX10_fewest 25 = .ok (.aload_n 0, 1)) ∧ (decode cX10_fewest 26 = .ok (.getfield 327, 3)) ∧ (decode cX10_fewest 29 = .ok (.iload_n 1, 1)) := by decide +kernel
theorem dX10_fewest_20 : decode cX10_fewest 20 = .ok (.aload_n 0, 1) := dX10_fewest_20_b.1
theorem dX10_fewest_21 : decode cX10_fewest 21 = .ok (.aload_n 0, 1) := dX10_fewest_20_b.2.1
theorem dX10_fewest_22 : decode cX10_fewest 22 = .ok (.getfield 87, 3) := dX10_fewest_20_b.2.2.1
theorem dX10_fewest_25 : decode cX10_fewest 25 = .ok (.aload_n 0, 1) := dX10_fewest_20_b.2.2.2.1
theorem dX10_fewest_26 : decode cX10_fewest 26 = .ok (.getfield 327, 3) := dX10_fewest_20_b.2.2.2.2.1
theorem dX10_fewest_29 : decode cX10_fewest 29 = .ok (.iload_n 1, 1) := dX10_fewest_20_b.2.2.2.2.2
set_option maxRecDepth 20000 in
theorem dX10_fewest_30_b : (decode cX10_fewest 30 = .ok (.iconst 1, 1)) ∧ (decode cX10_fewest 31 = .ok (.if_icmp .ne 7, 3)) ∧ (decode cX10_fewest 34 = .ok (.iconst 1, 1)) ∧ (decode cX10_fewest 35 = .ok (.goto 4, 3)) ∧ (decode cX10_fewest 38 = .ok (.iconst 0, 1)) ∧ (decode cX10_fewest 39 = .ok (.invokevirtual 472, 3)) := by decide +kernel
theorem dX10_fewest_30 : decode cX10_fewest 30 = .ok (.iconst 1, 1) := dX10_fewest_30_b.1
theorem dX10_fewest_31 : decode cX10_fewest 31 = .ok (.if_icmp .ne 7, 3) := dX10_fewest_30_b.2.1
theorem dX10_fewest_34 : decode cX10_fewest 34 = .ok (.iconst 1, 1) := dX10_fewest_30_b.2.2.1
theorem dX10_fewest_35 : decode cX10_fewest 35 = .ok (.goto 4, 3) := dX10_fewest_30_b.2.2.2.1
theorem dX10_fewest_38 : decode cX10_fewest 38 = .ok (.iconst 0, 1) := dX10_fewest_30_b.2.2.2.2.1
theorem dX10_fewest_39 : decode cX10_fewest 39 = .ok (.invokevirtual 472, 3) := dX10_fewest_30_b.2.2.2.2.2
set_option maxRecDepth 20000 in
theorem dX10_fewest_42_b : (decode cX10_fewest 42 = .ok (.ifCond .eq 10, 3)) ∧ (decode cX10_fewest 45 = .ok (.aload_n 0, 1)) ∧ (decode cX10_fewest 46 = .ok (.invokevirtual 476, 3)) ∧ (decode cX10_fewest 49 = .ok (.goto 5, 3)) ∧ (decode cX10_fewest 52 = .ok (.bipush (-2), 2)) ∧ (decode cX10_fewest 54 = .ok (.ireturn, 1)) := by decide +kernel
theorem dX10_fewest_42 : decode cX10_fewest 42 = .ok (.ifCond .eq 10, 3) := dX10_fewest_42_b.1
theorem dX10_fewest_45 : decode cX10_fewest 45 = .ok (.aload_n 0, 1) := dX10_fewest_42_b.2.1
theorem dX10_fewest_46 : decode cX10_fewest 46 = .ok (.invokevirtual 476, 3) := dX10_fewest_42_b.2.2.1
theorem dX10_fewest_49 : decode cX10_fewest 49 = .ok (.goto 5, 3) := dX10_fewest_42_b.2.2.2.1
theorem dX10_fewest_52 : decode cX10_fewest 52 = .ok (.bipush (-2), 2) := dX10_fewest_42_b.2.2.2.2.1
theorem dX10_fewest_54 : decode cX10_fewest 54 = .ok (.ireturn, 1) := dX10_fewest_42_b.2.2.2.2.2
set_option maxRecDepth 20000 in
theorem ggX10_reachOf_X10_isServed : GoodIn wsX10_reachOf wsX10_isServed := goodIn_r _ [12, 13, 130, 131, 132, 133, 134, 135, 136, 137, 138, 139, 140, 141, 142, 143, 144, 145, 146, 147, 148, 149, 150, 151, 152, 153, 154, 155, 156, 157, 158, 159, 160, 161, 162, 163, 164, 165, 166, 167, 168, 169, 170, 171, 172, 173, 174, 175, 176, 177, 178, 179, 180, 181, 182, 183, 184, 185, 186, 187, 188, 189, 190, 191, 192, 193, 194, 195, 196, 197, 198, 199, 200] (by decide +kernel) (by decide +kernel)
set_option maxRecDepth 20000 in
theorem gX10_reachOf_X10_isServed : GoodIn wsX10_reachOf (wsV RX10 355 RX10 yX10_isServed wsX10_isServed) := goodIn_app (goodIn_of _ (by decide +kernel)) ggX10_reachOf_X10_isServed
set_option maxRecDepth 20000 in
theorem ggX10_reachOf_X10_seek : GoodIn wsX10_reachOf wsX10_seek := goodIn_r _ [17, 18, 4, 19, 20, 21, 22, 5, 23, 24, 6, 25, 26, 11, 27, 28, 29, 30, 31, 32, 33, 34, 35, 36, 37, 38, 39, 40, 41, 42, 43, 44, 45, 46, 47, 48, 49, 7, 50, 51, 52, 53, 54, 13, 55, 56, 57, 58, 59, 60, 61, 62, 63, 64, 65, 66, 67, 68, 69, 70, 71, 72, 73, 74, 75, 76, 77, 78, 79, 80, 81, 82, 83, 84, 85, 86, 87, 88, 89, 90, 91, 92, 93, 94, 95, 96, 97, 98, 99, 100, 101, 102, 103, 104, 105, 106, 107, 108, 109, 110, 111, 112, 113, 114, 115, 116, 117, 118, 119, 120, 121, 122, 123, 124, 125, 126, 127, 128, 129, 8, 9, 10, 12, 130, 131, 132, 133, 134, 135, 136, 137, 138, 139, 140, 141, 142, 143, 144, 145, 146, 147, 148, 149, 150, 151, 152, 153, 154, 155, 156, 157, 158, 159, 160, 161, 162, 163, 164, 165, 166, 167, 168, 169, 170, 171, 172, 173, 174, 175, 176, 177, 178, 179, 180, 181, 182, 183, 184, 185, 186, 187, 188, 189, 190, 191, 192, 193, 194, 195, 196, 197, 198, 199, 200] (by decide +kernel) (by decide +kernel)
set_option maxRecDepth 20000 in
theorem gX10_reachOf_X10_seek : GoodIn wsX10_reachOf (wsV RX10 472 RX10 yX10_seek wsX10_seek) := goodIn_app (goodIn_of _ (by decide +kernel)) ggX10_reachOf_X10_seek
set_option maxRecDepth 20000 in
theorem ggX10_reachOf_X10_unpack : GoodIn wsX10_reachOf wsX10_unpack := goodIn_r _ [49, 6, 28, 7, 130, 131, 132, 133, 134, 135, 136, 137, 138, 139, 140, 141, 142, 143, 144, 145, 146, 147, 148, 149, 150, 151, 152, 153, 154, 155, 156, 157, 158, 159, 160, 161, 162, 163, 164, 165, 166, 167, 168, 169, 170, 171, 172, 173, 174, 175, 176, 177, 178, 179, 180, 181, 182, 183, 184, 185, 186, 187, 188, 189, 190, 191, 192, 193, 194, 195, 196, 197, 198, 199, 200] (by decide +kernel) (by decide +kernel)
set_option maxRecDepth 20000 in
theorem gX10_reachOf_X10_unpack : GoodIn wsX10_reachOf (wsV RX10 465 RX10 yX10_unpack wsX10_unpack) := goodIn_app (goodIn_of _ (by decide +kernel)) ggX10_reachOf_X10_unpack
set_option maxRecDepth 20000 in
theorem ggX10_reachOf_X10_depthOf : GoodIn wsX10_reachOf wsX10_depthOf := goodIn_r _ [91, 92, 93, 94, 11, 95, 64, 130, 131, 132, 133, 134, 135, 136, 137, 138, 139, 140, 141, 142, 143, 144, 145, 146, 147, 148, 149, 150, 151, 152, 153, 154, 155, 156, 157, 158, 159, 160, 161, 162, 163, 164, 165, 166, 167, 168, 169, 170, 171, 172, 173, 174, 175, 176, 177, 178, 179, 180, 181, 182, 183, 184, 185, 186, 187, 188, 189, 190, 191, 192, 193, 194, 195, 196, 197, 198, 199, 200] (by decide +kernel) (by decide +kernel)
set_option maxRecDepth 20000 in
theorem gX10_reachOf_X10_depthOf : GoodIn wsX10_reachOf (wsV RX10 352 RX10 yX10_depthOf wsX10_depthOf) := goodIn_app (goodIn_of _ (by decide +kernel)) ggX10_reachOf_X10_depthOf
set_option maxRecDepth 20000 in
theorem dX10_reachOf_0_b : (decode cX10_reachOf 0 = .ok (.aload_n 0, 1)) ∧ (decode cX10_reachOf 1 = .ok (.iload_n 1, 1)) ∧ (decode cX10_reachOf 2 = .ok (.aload_n 0, 1)) ∧ (decode cX10_reachOf 3 = .ok (.getfield 87, 3)) ∧ (decode cX10_reachOf 6 = .ok (.iload_n 1, 1)) ∧ (decode cX10_reachOf 7 = .ok (.iaload, 1)) := by decide +kernel
theorem dX10_reachOf_0 : decode cX10_reachOf 0 = .ok (.aload_n 0, 1) := dX10_reachOf_0_b.1
theorem dX10_reachOf_1 : decode cX10_reachOf 1 = .ok (.iload_n 1, 1) := dX10_reachOf_0_b.2.1
theorem dX10_reachOf_2 : decode cX10_reachOf 2 = .ok (.aload_n 0, 1) := dX10_reachOf_0_b.2.2.1
theorem dX10_reachOf_3 : decode cX10_reachOf 3 = .ok (.getfield 87, 3) := dX10_reachOf_0_b.2.2.2.1
theorem dX10_reachOf_6 : decode cX10_reachOf 6 = .ok (.iload_n 1, 1) := dX10_reachOf_0_b.2.2.2.2.1
theorem dX10_reachOf_7 : decode cX10_reachOf 7 = .ok (.iaload, 1) := dX10_reachOf_0_b.2.2.2.2.2
set_option maxRecDepth 20000 in
theorem dX10_reachOf_8_b : (decode cX10_reachOf 8 = .ok (.invokevirtual 355, 3)) ∧ (decode cX10_reachOf 11 = .ok (.ifCond .eq 27, 3)) ∧ (decode cX10_reachOf 14 = .ok (.aload_n 0, 1)) ∧ (decode cX10_reachOf 15 = .ok (.getfield 87, 3)) ∧ (decode cX10_reachOf 18 = .ok (.iload_n 1, 1)) ∧ (decode cX10_reachOf 19 = .ok (.iaload, 1)) := by decide +kernel
theorem dX10_reachOf_8 : decode cX10_reachOf 8 = .ok (.invokevirtual 355, 3) := dX10_reachOf_8_b.1
theorem dX10_reachOf_11 : decode cX10_reachOf 11 = .ok (.ifCond .eq 27, 3) := dX10_reachOf_8_b.2.1
theorem dX10_reachOf_14 : decode cX10_reachOf 14 = .ok (.aload_n 0, 1) := dX10_reachOf_8_b.2.2.1
theorem dX10_reachOf_15 : decode cX10_reachOf 15 = .ok (.getfield 87, 3) := dX10_reachOf_8_b.2.2.2.1
theorem dX10_reachOf_18 : decode cX10_reachOf 18 = .ok (.iload_n 1, 1) := dX10_reachOf_8_b.2.2.2.2.1
theorem dX10_reachOf_19 : decode cX10_reachOf 19 = .ok (.iaload, 1) := dX10_reachOf_8_b.2.2.2.2.2
set_option maxRecDepth 20000 in
theorem dX10_reachOf_20_b : (decode cX10_reachOf 20 = .ok (.bipush 14, 2)) ∧ (decode cX10_reachOf 22 = .ok (.if_icmp .ne 7, 3)) ∧ (decode cX10_reachOf 25 = .ok (.iconst 0, 1)) ∧ (decode cX10_reachOf 26 = .ok (.goto 11, 3)) ∧ (decode cX10_reachOf 29 = .ok (.iconst 1, 1)) ∧ (decode cX10_reachOf 30 = .ok (.aload_n 0, 1)) := by decide +kernel
theorem dX10_reachOf_20 : decode cX10_reachOf 20 = .ok (.bipush 14, 2) := dX10_reachOf_20_b.1
theorem dX10_reachOf_22 : decode cX10_reachOf 22 = .ok (.if_icmp .ne 7, 3) := dX10_reachOf_20_b.2.1
theorem dX10_reachOf_25 : decode cX10_reachOf 25 = .ok (.iconst 0, 1) := dX10_reachOf_20_b.2.2.1
theorem dX10_reachOf_26 : decode cX10_reachOf 26 = .ok (.goto 11, 3) := dX10_reachOf_20_b.2.2.2.1
theorem dX10_reachOf_29 : decode cX10_reachOf 29 = .ok (.iconst 1, 1) := dX10_reachOf_20_b.2.2.2.2.1
theorem dX10_reachOf_30 : decode cX10_reachOf 30 = .ok (.aload_n 0, 1) := dX10_reachOf_20_b.2.2.2.2.2
set_option maxRecDepth 20000 in
theorem dX10_reachOf_31_b : (decode cX10_reachOf 31 = .ok (.getfield 87, 3)) ∧ (decode cX10_reachOf 34 = .ok (.iload_n 1, 1)) ∧ (decode cX10_reachOf 35 = .ok (.iaload, 1)) ∧ (decode cX10_reachOf 36 = .ok (.ishl, 1)) ∧ (decode cX10_reachOf 37 = .ok (.ireturn, 1)) ∧ (decode cX10_reachOf 38 = .ok (.iconst 0, 1)) := by decide +kernel
theorem dX10_reachOf_31 : decode cX10_reachOf 31 = .ok (.getfield 87, 3) := dX10_reachOf_31_b.1
theorem dX10_reachOf_34 : decode cX10_reachOf 34 = .ok (.iload_n 1, 1) := dX10_reachOf_31_b.2.1
theorem dX10_reachOf_35 : decode cX10_reachOf 35 = .ok (.iaload, 1) := dX10_reachOf_31_b.2.2.1
theorem dX10_reachOf_36 : decode cX10_reachOf 36 = .ok (.ishl, 1) := dX10_reachOf_31_b.2.2.2.1
theorem dX10_reachOf_37 : decode cX10_reachOf 37 = .ok (.ireturn, 1) := dX10_reachOf_31_b.2.2.2.2.1
theorem dX10_reachOf_38 : decode cX10_reachOf 38 = .ok (.iconst 0, 1) := dX10_reachOf_31_b.2.2.2.2.2
set_option maxRecDepth 20000 in
theorem dX10_reachOf_39_b : (decode cX10_reachOf 39 = .ok (.istore_n 3, 1)) ∧ (decode cX10_reachOf 40 = .ok (.iload_n 3, 1)) ∧ (decode cX10_reachOf 41 = .ok (.bipush 7, 2)) ∧ (decode cX10_reachOf 43 = .ok (.if_icmp .ge 35, 3)) ∧ (decode cX10_reachOf 46 = .ok (.aload_n 0, 1)) ∧ (decode cX10_reachOf 47 = .ok (.getfield 140, 3)) := by decide +kernel
theorem dX10_reachOf_39 : decode cX10_reachOf 39 = .ok (.istore_n 3, 1) := dX10_reachOf_39_b.1
theorem dX10_reachOf_40 : decode cX10_reachOf 40 = .ok (.iload_n 3, 1) := dX10_reachOf_39_b.2.1
theorem dX10_reachOf_41 : decode cX10_reachOf 41 = .ok (.bipush 7, 2) := dX10_reachOf_39_b.2.2.1
theorem dX10_reachOf_43 : decode cX10_reachOf 43 = .ok (.if_icmp .ge 35, 3) := dX10_reachOf_39_b.2.2.2.1
theorem dX10_reachOf_46 : decode cX10_reachOf 46 = .ok (.aload_n 0, 1) := dX10_reachOf_39_b.2.2.2.2.1
theorem dX10_reachOf_47 : decode cX10_reachOf 47 = .ok (.getfield 140, 3) := dX10_reachOf_39_b.2.2.2.2.2
set_option maxRecDepth 20000 in
theorem dX10_reachOf_50_b : (decode cX10_reachOf 50 = .ok (.iload_n 3, 1)) ∧ (decode cX10_reachOf 51 = .ok (.iload_n 2, 1)) ∧ (decode cX10_reachOf 52 = .ok (.iload_n 3, 1)) ∧ (decode cX10_reachOf 53 = .ok (.ishr, 1)) ∧ (decode cX10_reachOf 54 = .ok (.iconst 1, 1)) ∧ (decode cX10_reachOf 55 = .ok (.iand, 1)) := by decide +kernel
theorem dX10_reachOf_50 : decode cX10_reachOf 50 = .ok (.iload_n 3, 1) := dX10_reachOf_50_b.1
theorem dX10_reachOf_51 : decode cX10_reachOf 51 = .ok (.iload_n 2, 1) := dX10_reachOf_50_b.2.1
theorem dX10_reachOf_52 : decode cX10_reachOf 52 = .ok (.iload_n 3, 1) := dX10_reachOf_50_b.2.2.1
theorem dX10_reachOf_53 : decode cX10_reachOf 53 = .ok (.ishr, 1) := dX10_reachOf_50_b.2.2.2.1
theorem dX10_reachOf_54 : decode cX10_reachOf 54 = .ok (.iconst 1, 1) := dX10_reachOf_50_b.2.2.2.2.1
theorem dX10_reachOf_55 : decode cX10_reachOf 55 = .ok (.iand, 1) := dX10_reachOf_50_b.2.2.2.2.2
set_option maxRecDepth 20000 in
theorem dX10_reachOf_56_b : (decode cX10_reachOf 56 = .ok (.iconst 1, 1)) ∧ (decode cX10_reachOf 57 = .ok (.if_icmp .ne 8, 3)) ∧ (decode cX10_reachOf 60 = .ok (.bipush 15, 2)) ∧ (decode cX10_reachOf 62 = .ok (.goto 9, 3)) ∧ (decode cX10_reachOf 65 = .ok (.aload_n 0, 1)) ∧ (decode cX10_reachOf 66 = .ok (.getfield 87, 3)) := by decide +kernel
theorem dX10_reachOf_56 : decode cX10_reachOf 56 = .ok (.iconst 1, 1) := dX10_reachOf_56_b.1
theorem dX10_reachOf_57 : decode cX10_reachOf 57 = .ok (.if_icmp .ne 8, 3) := dX10_reachOf_56_b.2.1
theorem dX10_reachOf_60 : decode cX10_reachOf 60 = .ok (.bipush 15, 2) := dX10_reachOf_56_b.2.2.1
theorem dX10_reachOf_62 : decode cX10_reachOf 62 = .ok (.goto 9, 3) := dX10_reachOf_56_b.2.2.2.1
theorem dX10_reachOf_65 : decode cX10_reachOf 65 = .ok (.aload_n 0, 1) := dX10_reachOf_56_b.2.2.2.2.1
theorem dX10_reachOf_66 : decode cX10_reachOf 66 = .ok (.getfield 87, 3) := dX10_reachOf_56_b.2.2.2.2.2
set_option maxRecDepth 20000 in
theorem dX10_reachOf_69_b : (decode cX10_reachOf 69 = .ok (.iload_n 3, 1)) ∧ (decode cX10_reachOf 70 = .ok (.iaload, 1)) ∧ (decode cX10_reachOf 71 = .ok (.iastore, 1)) ∧ (decode cX10_reachOf 72 = .ok (.iinc 3 1, 3)) ∧ (decode cX10_reachOf 75 = .ok (.goto (-35), 3)) ∧ (decode cX10_reachOf 78 = .ok (.aload_n 0, 1)) := by decide +kernel
theorem dX10_reachOf_69 : decode cX10_reachOf 69 = .ok (.iload_n 3, 1) := dX10_reachOf_69_b.1
theorem dX10_reachOf_70 : decode cX10_reachOf 70 = .ok (.iaload, 1) := dX10_reachOf_69_b.2.1
theorem dX10_reachOf_71 : decode cX10_reachOf 71 = .ok (.iastore, 1) := dX10_reachOf_69_b.2.2.1
theorem dX10_reachOf_72 : decode cX10_reachOf 72 = .ok (.iinc 3 1, 3) := dX10_reachOf_69_b.2.2.2.1
theorem dX10_reachOf_75 : decode cX10_reachOf 75 = .ok (.goto (-35), 3) := dX10_reachOf_69_b.2.2.2.2.1
theorem dX10_reachOf_78 : decode cX10_reachOf 78 = .ok (.aload_n 0, 1) := dX10_reachOf_69_b.2.2.2.2.2
set_option maxRecDepth 20000 in
theorem dX10_reachOf_79_b : (decode cX10_reachOf 79 = .ok (.aload_n 0, 1)) ∧ (decode cX10_reachOf 80 = .ok (.getfield 140, 3)) ∧ (decode cX10_reachOf 83 = .ok (.aload_n 0, 1)) ∧ (decode cX10_reachOf 84 = .ok (.getfield 327, 3)) ∧ (decode cX10_reachOf 87 = .ok (.iconst 0, 1)) ∧ (decode cX10_reachOf 88 = .ok (.invokevirtual 472, 3)) := by decide +kernel
theorem dX10_reachOf_79 : decode cX10_reachOf 79 = .ok (.aload_n 0, 1) := dX10_reachOf_79_b.1
theorem dX10_reachOf_80 : decode cX10_reachOf 80 = .ok (.getfield 140, 3) := dX10_reachOf_79_b.2.1
theorem dX10_reachOf_83 : decode cX10_reachOf 83 = .ok (.aload_n 0, 1) := dX10_reachOf_79_b.2.2.1
theorem dX10_reachOf_84 : decode cX10_reachOf 84 = .ok (.getfield 327, 3) := dX10_reachOf_79_b.2.2.2.1
theorem dX10_reachOf_87 : decode cX10_reachOf 87 = .ok (.iconst 0, 1) := dX10_reachOf_79_b.2.2.2.2.1
theorem dX10_reachOf_88 : decode cX10_reachOf 88 = .ok (.invokevirtual 472, 3) := dX10_reachOf_79_b.2.2.2.2.2
set_option maxRecDepth 20000 in
theorem dX10_reachOf_91_b : (decode cX10_reachOf 91 = .ok (.ifCond .ne 6, 3)) ∧ (decode cX10_reachOf 94 = .ok (.bipush (-2), 2)) ∧ (decode cX10_reachOf 96 = .ok (.ireturn, 1)) ∧ (decode cX10_reachOf 97 = .ok (.iconst 0, 1)) ∧ (decode cX10_reachOf 98 = .ok (.istore_n 3, 1)) ∧ (decode cX10_reachOf 99 = .ok (.iconst 0, 1)) := by decide +kernel
theorem dX10_reachOf_91 : decode cX10_reachOf 91 = .ok (.ifCond .ne 6, 3) := dX10_reachOf_91_b.1
theorem dX10_reachOf_94 : decode cX10_reachOf 94 = .ok (.bipush (-2), 2) := dX10_reachOf_91_b.2.1
theorem dX10_reachOf_96 : decode cX10_reachOf 96 = .ok (.ireturn, 1) := dX10_reachOf_91_b.2.2.1
theorem dX10_reachOf_97 : decode cX10_reachOf 97 = .ok (.iconst 0, 1) := dX10_reachOf_91_b.2.2.2.1
theorem dX10_reachOf_98 : decode cX10_reachOf 98 = .ok (.istore_n 3, 1) := dX10_reachOf_91_b.2.2.2.2.1
theorem dX10_reachOf_99 : decode cX10_reachOf 99 = .ok (.iconst 0, 1) := dX10_reachOf_91_b.2.2.2.2.2
set_option maxRecDepth 20000 in
theorem dX10_reachOf_100_b : (decode cX10_reachOf 100 = .ok (.istore 4, 2)) ∧ (decode cX10_reachOf 102 = .ok (.iload 4, 2)) ∧ (decode cX10_reachOf 104 = .ok (.aload_n 0, 1)) ∧ (decode cX10_reachOf 105 = .ok (.getfield 436, 3)) ∧ (decode cX10_reachOf 108 = .ok (.if_icmp .ge 78, 3)) ∧ (decode cX10_reachOf 111 = .ok (.aload_n 0, 1)) := by decide +kernel
theorem dX10_reachOf_100 : decode cX10_reachOf 100 = .ok (.istore 4, 2) := dX10_reachOf_100_b.1
theorem dX10_reachOf_102 : decode cX10_reachOf 102 = .ok (.iload 4, 2) := dX10_reachOf_100_b.2.1
theorem dX10_reachOf_104 : decode cX10_reachOf 104 = .ok (.aload_n 0, 1) := dX10_reachOf_100_b.2.2.1
theorem dX10_reachOf_105 : decode cX10_reachOf 105 = .ok (.getfield 436, 3) := dX10_reachOf_100_b.2.2.2.1
theorem dX10_reachOf_108 : decode cX10_reachOf 108 = .ok (.if_icmp .ge 78, 3) := dX10_reachOf_100_b.2.2.2.2.1
theorem dX10_reachOf_111 : decode cX10_reachOf 111 = .ok (.aload_n 0, 1) := dX10_reachOf_100_b.2.2.2.2.2
set_option maxRecDepth 20000 in
theorem dX10_reachOf_112_b : (decode cX10_reachOf 112 = .ok (.aload_n 0, 1)) ∧ (decode cX10_reachOf 113 = .ok (.getfield 117, 3)) ∧ (decode cX10_reachOf 116 = .ok (.iload 4, 2)) ∧ (decode cX10_reachOf 118 = .ok (.laload, 1)) ∧ (decode cX10_reachOf 119 = .ok (.invokevirtual 465, 3)) ∧ (decode cX10_reachOf 122 = .ok (.aload_n 0, 1)) := by decide +kernel
theorem dX10_reachOf_112 : decode cX10_reachOf 112 = .ok (.aload_n 0, 1) := dX10_reachOf_112_b.1
theorem dX10_reachOf_113 : decode cX10_reachOf 113 = .ok (.getfield 117, 3) := dX10_reachOf_112_b.2.1
theorem dX10_reachOf_116 : decode cX10_reachOf 116 = .ok (.iload 4, 2) := dX10_reachOf_112_b.2.2.1
theorem dX10_reachOf_118 : decode cX10_reachOf 118 = .ok (.laload, 1) := dX10_reachOf_112_b.2.2.2.1
theorem dX10_reachOf_119 : decode cX10_reachOf 119 = .ok (.invokevirtual 465, 3) := dX10_reachOf_112_b.2.2.2.2.1
theorem dX10_reachOf_122 : decode cX10_reachOf 122 = .ok (.aload_n 0, 1) := dX10_reachOf_112_b.2.2.2.2.2
set_option maxRecDepth 20000 in
theorem dX10_reachOf_123_b : (decode cX10_reachOf 123 = .ok (.getfield 134, 3)) ∧ (decode cX10_reachOf 126 = .ok (.iload_n 1, 1)) ∧ (decode cX10_reachOf 127 = .ok (.iaload, 1)) ∧ (decode cX10_reachOf 128 = .ok (.bipush 12, 2)) ∧ (decode cX10_reachOf 130 = .ok (.if_icmp .ge 17, 3)) ∧ (decode cX10_reachOf 133 = .ok (.iload_n 3, 1)) := by decide +kernel
theorem dX10_reachOf_123 : decode cX10_reachOf 123 = .ok (.getfield 134, 3) := dX10_reachOf_123_b.1
theorem dX10_reachOf_126 : decode cX10_reachOf 126 = .ok (.iload_n 1, 1) := dX10_reachOf_123_b.2.1
theorem dX10_reachOf_127 : decode cX10_reachOf 127 = .ok (.iaload, 1) := dX10_reachOf_123_b.2.2.1
theorem dX10_reachOf_128 : decode cX10_reachOf 128 = .ok (.bipush 12, 2) := dX10_reachOf_123_b.2.2.2.1
theorem dX10_reachOf_130 : decode cX10_reachOf 130 = .ok (.if_icmp .ge 17, 3) := dX10_reachOf_123_b.2.2.2.2.1
theorem dX10_reachOf_133 : decode cX10_reachOf 133 = .ok (.iload_n 3, 1) := dX10_reachOf_123_b.2.2.2.2.2
set_option maxRecDepth 20000 in
theorem dX10_reachOf_134_b : (decode cX10_reachOf 134 = .ok (.iconst 1, 1)) ∧ (decode cX10_reachOf 135 = .ok (.aload_n 0, 1)) ∧ (decode cX10_reachOf 136 = .ok (.getfield 134, 3)) ∧ (decode cX10_reachOf 139 = .ok (.iload_n 1, 1)) ∧ (decode cX10_reachOf 140 = .ok (.iaload, 1)) ∧ (decode cX10_reachOf 141 = .ok (.ishl, 1)) := by decide +kernel
theorem dX10_reachOf_134 : decode cX10_reachOf 134 = .ok (.iconst 1, 1) := dX10_reachOf_134_b.1
theorem dX10_reachOf_135 : decode cX10_reachOf 135 = .ok (.aload_n 0, 1) := dX10_reachOf_134_b.2.1
theorem dX10_reachOf_136 : decode cX10_reachOf 136 = .ok (.getfield 134, 3) := dX10_reachOf_134_b.2.2.1
theorem dX10_reachOf_139 : decode cX10_reachOf 139 = .ok (.iload_n 1, 1) := dX10_reachOf_134_b.2.2.2.1
theorem dX10_reachOf_140 : decode cX10_reachOf 140 = .ok (.iaload, 1) := dX10_reachOf_134_b.2.2.2.2.1
theorem dX10_reachOf_141 : decode cX10_reachOf 141 = .ok (.ishl, 1) := dX10_reachOf_134_b.2.2.2.2.2
set_option maxRecDepth 20000 in
theorem dX10_reachOf_142_b : (decode cX10_reachOf 142 = .ok (.ior, 1)) ∧ (decode cX10_reachOf 143 = .ok (.istore_n 3, 1)) ∧ (decode cX10_reachOf 144 = .ok (.goto 36, 3)) ∧ (decode cX10_reachOf 147 = .ok (.aload_n 0, 1)) ∧ (decode cX10_reachOf 148 = .ok (.getfield 134, 3)) ∧ (decode cX10_reachOf 151 = .ok (.iload_n 1, 1)) := by decide +kernel
theorem dX10_reachOf_142 : decode cX10_reachOf 142 = .ok (.ior, 1) := dX10_reachOf_142_b.1
theorem dX10_reachOf_143 : decode cX10_reachOf 143 = .ok (.istore_n 3, 1) := dX10_reachOf_142_b.2.1
theorem dX10_reachOf_144 : decode cX10_reachOf 144 = .ok (.goto 36, 3) := dX10_reachOf_142_b.2.2.1
theorem dX10_reachOf_147 : decode cX10_reachOf 147 = .ok (.aload_n 0, 1) := dX10_reachOf_142_b.2.2.2.1
theorem dX10_reachOf_148 : decode cX10_reachOf 148 = .ok (.getfield 134, 3) := dX10_reachOf_142_b.2.2.2.2.1
theorem dX10_reachOf_151 : decode cX10_reachOf 151 = .ok (.iload_n 1, 1) := dX10_reachOf_142_b.2.2.2.2.2
set_option maxRecDepth 20000 in
theorem dX10_reachOf_152_b : (decode cX10_reachOf 152 = .ok (.iaload, 1)) ∧ (decode cX10_reachOf 153 = .ok (.bipush 14, 2)) ∧ (decode cX10_reachOf 155 = .ok (.if_icmp .eq 25, 3)) ∧ (decode cX10_reachOf 158 = .ok (.iload_n 3, 1)) ∧ (decode cX10_reachOf 159 = .ok (.iconst 1, 1)) ∧ (decode cX10_reachOf 160 = .ok (.aload_n 0, 1)) := by decide +kernel
theorem dX10_reachOf_152 : decode cX10_reachOf 152 = .ok (.iaload, 1) := dX10_reachOf_152_b.1
theorem dX10_reachOf_153 : decode cX10_reachOf 153 = .ok (.bipush 14, 2) := dX10_reachOf_152_b.2.1
theorem dX10_reachOf_155 : decode cX10_reachOf 155 = .ok (.if_icmp .eq 25, 3) := dX10_reachOf_152_b.2.2.1
theorem dX10_reachOf_158 : decode cX10_reachOf 158 = .ok (.iload_n 3, 1) := dX10_reachOf_152_b.2.2.2.1
theorem dX10_reachOf_159 : decode cX10_reachOf 159 = .ok (.iconst 1, 1) := dX10_reachOf_152_b.2.2.2.2.1
theorem dX10_reachOf_160 : decode cX10_reachOf 160 = .ok (.aload_n 0, 1) := dX10_reachOf_152_b.2.2.2.2.2
set_option maxRecDepth 20000 in
theorem dX10_reachOf_161_b : (decode cX10_reachOf 161 = .ok (.aload_n 0, 1)) ∧ (decode cX10_reachOf 162 = .ok (.getfield 134, 3)) ∧ (decode cX10_reachOf 165 = .ok (.iload_n 1, 1)) ∧ (decode cX10_reachOf 166 = .ok (.iaload, 1)) ∧ (decode cX10_reachOf 167 = .ok (.bipush 12, 2)) ∧ (decode cX10_reachOf 169 = .ok (.isub, 1)) := by decide +kernel
theorem dX10_reachOf_161 : decode cX10_reachOf 161 = .ok (.aload_n 0, 1) := dX10_reachOf_161_b.1
theorem dX10_reachOf_162 : decode cX10_reachOf 162 = .ok (.getfield 134, 3) := dX10_reachOf_161_b.2.1
theorem dX10_reachOf_165 : decode cX10_reachOf 165 = .ok (.iload_n 1, 1) := dX10_reachOf_161_b.2.2.1
theorem dX10_reachOf_166 : decode cX10_reachOf 166 = .ok (.iaload, 1) := dX10_reachOf_161_b.2.2.2.1
theorem dX10_reachOf_167 : decode cX10_reachOf 167 = .ok (.bipush 12, 2) := dX10_reachOf_161_b.2.2.2.2.1
theorem dX10_reachOf_169 : decode cX10_reachOf 169 = .ok (.isub, 1) := dX10_reachOf_161_b.2.2.2.2.2
set_option maxRecDepth 20000 in
theorem dX10_reachOf_170_b : (decode cX10_reachOf 170 = .ok (.aload_n 0, 1)) ∧ (decode cX10_reachOf 171 = .ok (.getfield 427, 3)) ∧ (decode cX10_reachOf 174 = .ok (.invokevirtual 352, 3)) ∧ (decode cX10_reachOf 177 = .ok (.ishl, 1)) ∧ (decode cX10_reachOf 178 = .ok (.ior, 1)) ∧ (decode cX10_reachOf 179 = .ok (.istore_n 3, 1)) := by decide +kernel
theorem dX10_reachOf_170 : decode cX10_reachOf 170 = .ok (.aload_n 0, 1) := dX10_reachOf_170_b.1
theorem dX10_reachOf_171 : decode cX10_reachOf 171 = .ok (.getfield 427, 3) := dX10_reachOf_170_b.2.1
theorem dX10_reachOf_174 : decode cX10_reachOf 174 = .ok (.invokevirtual 352, 3) := dX10_reachOf_170_b.2.2.1
theorem dX10_reachOf_177 : decode cX10_reachOf 177 = .ok (.ishl, 1) := dX10_reachOf_170_b.2.2.2.1
theorem dX10_reachOf_178 : decode cX10_reachOf 178 = .ok (.ior, 1) := dX10_reachOf_170_b.2.2.2.2.1
theorem dX10_reachOf_179 : decode cX10_reachOf 179 = .ok (.istore_n 3, 1) := dX10_reachOf_170_b.2.2.2.2.2
set_option maxRecDepth 20000 in
theorem dX10_reachOf_180_b : (decode cX10_reachOf 180 = .ok (.iinc 4 1, 3)) ∧ (decode cX10_reachOf 183 = .ok (.goto (-81), 3)) ∧ (decode cX10_reachOf 186 = .ok (.iload_n 3, 1)) ∧ (decode cX10_reachOf 187 = .ok (.ireturn, 1)) := by decide +kernel
theorem dX10_reachOf_180 : decode cX10_reachOf 180 = .ok (.iinc 4 1, 3) := dX10_reachOf_180_b.1
theorem dX10_reachOf_183 : decode cX10_reachOf 183 = .ok (.goto (-81), 3) := dX10_reachOf_180_b.2.1
theorem dX10_reachOf_186 : decode cX10_reachOf 186 = .ok (.iload_n 3, 1) := dX10_reachOf_180_b.2.2.1
theorem dX10_reachOf_187 : decode cX10_reachOf 187 = .ok (.ireturn, 1) := dX10_reachOf_180_b.2.2.2
set_option maxRecDepth 20000 in
theorem ggX10_reach_X10_isThing : GoodIn wsX10_reach wsX10_isThing := goodIn_r _ [6, 7, 8, 9, 5, 10, 146, 147, 148, 149, 150, 151, 152, 153, 154, 155, 156, 157, 158, 159, 160, 161, 162, 163, 164, 165, 166, 167, 168, 169, 170, 171, 172, 173, 174, 175, 176, 177, 178, 179, 180, 181, 182, 183, 184, 185, 186, 187, 188, 189, 190, 191, 192, 193, 194, 195, 196, 197, 198, 199, 200, 201, 202, 203, 204, 205, 206, 207, 208, 209, 210, 211, 212, 213, 214, 215, 216] (by decide +kernel) (by decide +kernel)
set_option maxRecDepth 20000 in
theorem gX10_reach_X10_isThing : GoodIn wsX10_reach (wsV RX10 349 RX10 yX10_isThing wsX10_isThing) := goodIn_app (goodIn_of _ (by decide +kernel)) ggX10_reach_X10_isThing
set_option maxRecDepth 20000 in
theorem ggX10_reach_X10_reachOf : GoodIn wsX10_reach wsX10_reachOf := goodIn_r _ [14, 15, 16, 17, 18, 19, 20, 21, 22, 23, 24, 5, 25, 26, 27, 28, 29, 30, 31, 32, 33, 34, 35, 36, 37, 38, 39, 40, 41, 42, 43, 44, 45, 46, 47, 48, 49, 50, 51, 52, 53, 54, 55, 56, 57, 58, 59, 60, 61, 62, 63, 64, 65, 66, 7, 67, 68, 69, 70, 71, 72, 73, 74, 75, 76, 77, 78, 79, 80, 81, 82, 83, 84, 85, 86, 87, 88, 89, 90, 91, 92, 93, 94, 95, 96, 97, 98, 99, 100, 101, 102, 103, 104, 105, 106, 107, 108, 109, 110, 111, 112, 113, 114, 115, 116, 117, 118, 119, 120, 121, 122, 123, 124, 125, 126, 127, 128, 129, 130, 131, 132, 133, 134, 135, 136, 137, 138, 139, 140, 141, 146, 147, 148, 149, 150, 151, 152, 153, 154, 155, 156, 157, 158, 159, 160, 161, 162, 163, 164, 165, 166, 167, 168, 169, 170, 171, 172, 173, 174, 175, 176, 177, 178, 179, 180, 181, 182, 183, 184, 185, 186, 187, 188, 189, 190, 191, 192, 193, 194, 195, 196, 197, 198, 199, 200, 201, 202, 203, 204, 205, 206, 207, 208, 209, 210, 211, 212, 213, 214, 215, 216] (by decide +kernel) (by decide +kernel)
set_option maxRecDepth 20000 in
theorem gX10_reach_X10_reachOf : GoodIn wsX10_reach (wsV RX10 479 RX10 yX10_reachOf wsX10_reachOf) := goodIn_app (goodIn_of _ (by decide +kernel)) ggX10_reach_X10_reachOf
set_option maxRecDepth 20000 in
theorem ggX10_reach_X10_fail : GoodIn wsX10_reach wsX10_fail := goodIn_r _ [145, 1, 146, 147, 148, 149, 150, 151, 152, 153, 154, 155, 156, 157, 158, 159, 160, 161, 162, 163, 164, 165, 166, 167, 168, 169, 170, 171, 172, 173, 174, 175, 176, 177, 178, 179, 180, 181, 182, 183, 184, 185, 186, 187, 188, 189, 190, 191, 192, 193, 194, 195, 196, 197, 198, 199, 200, 201, 202, 203, 204, 205, 206, 207, 208, 209, 210, 211, 212, 213, 214, 215, 216] (by decide +kernel) (by decide +kernel)
set_option maxRecDepth 20000 in
theorem gX10_reach_X10_fail : GoodIn wsX10_reach (wsV RX10 315 RX10 yX10_fail wsX10_fail) := goodIn_app (goodIn_of _ (by decide +kernel)) ggX10_reach_X10_fail
set_option maxRecDepth 20000 in
theorem dX10_reach_0_b : (decode cX10_reach 0 = .ok (.aload_n 0, 1)) ∧ (decode cX10_reach 1 = .ok (.iconst 0, 1)) ∧ (decode cX10_reach 2 = .ok (.putfield 171, 3)) ∧ (decode cX10_reach 5 = .ok (.aload_n 0, 1)) ∧ (decode cX10_reach 6 = .ok (.iload_n 1, 1)) ∧ (decode cX10_reach 7 = .ok (.invokevirtual 349, 3)) := by decide +kernel
theorem dX10_reach_0 : decode cX10_reach 0 = .ok (.aload_n 0, 1) := dX10_reach_0_b.1
theorem dX10_reach_1 : decode cX10_reach 1 = .ok (.iconst 0, 1) := dX10_reach_0_b.2.1
theorem dX10_reach_2 : decode cX10_reach 2 = .ok (.putfield 171, 3) := dX10_reach_0_b.2.2.1
theorem dX10_reach_5 : decode cX10_reach 5 = .ok (.aload_n 0, 1) := dX10_reach_0_b.2.2.2.1
theorem dX10_reach_6 : decode cX10_reach 6 = .ok (.iload_n 1, 1) := dX10_reach_0_b.2.2.2.2.1
theorem dX10_reach_7 : decode cX10_reach 7 = .ok (.invokevirtual 349, 3) := dX10_reach_0_b.2.2.2.2.2
set_option maxRecDepth 20000 in
theorem dX10_reach_10_b : (decode cX10_reach 10 = .ok (.ifCond .eq 12, 3)) ∧ (decode cX10_reach 13 = .ok (.aload_n 0, 1)) ∧ (decode cX10_reach 14 = .ok (.iload_n 1, 1)) ∧ (decode cX10_reach 15 = .ok (.iconst 0, 1)) ∧ (decode cX10_reach 16 = .ok (.invokevirtual 479, 3)) ∧ (decode cX10_reach 19 = .ok (.goto 8, 3)) := by decide +kernel
theorem dX10_reach_10 : decode cX10_reach 10 = .ok (.ifCond .eq 12, 3) := dX10_reach_10_b.1
theorem dX10_reach_13 : decode cX10_reach 13 = .ok (.aload_n 0, 1) := dX10_reach_10_b.2.1
theorem dX10_reach_14 : decode cX10_reach 14 = .ok (.iload_n 1, 1) := dX10_reach_10_b.2.2.1
theorem dX10_reach_15 : decode cX10_reach 15 = .ok (.iconst 0, 1) := dX10_reach_10_b.2.2.2.1
theorem dX10_reach_16 : decode cX10_reach 16 = .ok (.invokevirtual 479, 3) := dX10_reach_10_b.2.2.2.2.1
theorem dX10_reach_19 : decode cX10_reach 19 = .ok (.goto 8, 3) := dX10_reach_10_b.2.2.2.2.2
set_option maxRecDepth 20000 in
theorem dX10_reach_22_b : (decode cX10_reach 22 = .ok (.aload_n 0, 1)) ∧ (decode cX10_reach 23 = .ok (.iconst 1, 1)) ∧ (decode cX10_reach 24 = .ok (.invokevirtual 315, 3)) ∧ (decode cX10_reach 27 = .ok (.ireturn, 1)) := by decide +kernel
theorem dX10_reach_22 : decode cX10_reach 22 = .ok (.aload_n 0, 1) := dX10_reach_22_b.1
theorem dX10_reach_23 : decode cX10_reach 23 = .ok (.iconst 1, 1) := dX10_reach_22_b.2.1
theorem dX10_reach_24 : decode cX10_reach 24 = .ok (.invokevirtual 315, 3) := dX10_reach_22_b.2.2.1
theorem dX10_reach_27 : decode cX10_reach 27 = .ok (.ireturn, 1) := dX10_reach_22_b.2.2.2
set_option maxRecDepth 20000 in
theorem dX10_bitsOf_0_b : (decode cX10_bitsOf 0 = .ok (.iconst 0, 1)) ∧ (decode cX10_bitsOf 1 = .ok (.istore_n 1, 1)) ∧ (decode cX10_bitsOf 2 = .ok (.iload_n 0, 1)) ∧ (decode cX10_bitsOf 3 = .ok (.istore_n 2, 1)) ∧ (decode cX10_bitsOf 4 = .ok (.iload_n 2, 1)) ∧ (decode cX10_bitsOf 5 = .ok (.ifCond .eq 15, 3)) := by decide +kernel
theorem dX10_bitsOf_0 : decode cX10_bitsOf 0 = .ok (.iconst 0, 1) := dX10_bitsOf_0_b.1
theorem dX10_bitsOf_1 : decode cX10_bitsOf 1 = .ok (.istore_n 1, 1) := dX10_bitsOf_0_b.2.1
theorem dX10_bitsOf_2 : decode cX10_bitsOf 2 = .ok (.iload_n 0, 1) := dX10_bitsOf_0_b.2.2.1
theorem dX10_bitsOf_3 : decode cX10_bitsOf 3 = .ok (.istore_n 2, 1) := dX10_bitsOf_0_b.2.2.2.1
theorem dX10_bitsOf_4 : decode cX10_bitsOf 4 = .ok (.iload_n 2, 1) := dX10_bitsOf_0_b.2.2.2.2.1
theorem dX10_bitsOf_5 : decode cX10_bitsOf 5 = .ok (.ifCond .eq 15, 3) := dX10_bitsOf_0_b.2.2.2.2.2
set_option maxRecDepth 20000 in
theorem dX10_bitsOf_8_b : (decode cX10_bitsOf 8 = .ok (.iinc 1 1, 3)) ∧ (decode cX10_bitsOf 11 = .ok (.iload_n 2, 1)) ∧ (decode cX10_bitsOf 12 = .ok (.iload_n 2, 1)) ∧ (decode cX10_bitsOf 13 = .ok (.iconst 1, 1)) ∧ (decode cX10_bitsOf 14 = .ok (.isub, 1)) ∧ (decode cX10_bitsOf 15 = .ok (.iand, 1)) := by decide +kernel
theorem dX10_bitsOf_8 : decode cX10_bitsOf 8 = .ok (.iinc 1 1, 3) := dX10_bitsOf_8_b.1
theorem dX10_bitsOf_11 : decode cX10_bitsOf 11 = .ok (.iload_n 2, 1) := dX10_bitsOf_8_b.2.1
theorem dX10_bitsOf_12 : decode cX10_bitsOf 12 = .ok (.iload_n 2, 1) := dX10_bitsOf_8_b.2.2.1
theorem dX10_bitsOf_13 : decode cX10_bitsOf 13 = .ok (.iconst 1, 1) := dX10_bitsOf_8_b.2.2.2.1
theorem dX10_bitsOf_14 : decode cX10_bitsOf 14 = .ok (.isub, 1) := dX10_bitsOf_8_b.2.2.2.2.1
theorem dX10_bitsOf_15 : decode cX10_bitsOf 15 = .ok (.iand, 1) := dX10_bitsOf_8_b.2.2.2.2.2
set_option maxRecDepth 20000 in
theorem dX10_bitsOf_16_b : (decode cX10_bitsOf 16 = .ok (.istore_n 2, 1)) ∧ (decode cX10_bitsOf 17 = .ok (.goto (-13), 3)) ∧ (decode cX10_bitsOf 20 = .ok (.iload_n 1, 1)) ∧ (decode cX10_bitsOf 21 = .ok (.ireturn, 1)) := by decide +kernel
theorem dX10_bitsOf_16 : decode cX10_bitsOf 16 = .ok (.istore_n 2, 1) := dX10_bitsOf_16_b.1
theorem dX10_bitsOf_17 : decode cX10_bitsOf 17 = .ok (.goto (-13), 3) := dX10_bitsOf_16_b.2.1
theorem dX10_bitsOf_20 : decode cX10_bitsOf 20 = .ok (.iload_n 1, 1) := dX10_bitsOf_16_b.2.2.1
theorem dX10_bitsOf_21 : decode cX10_bitsOf 21 = .ok (.ireturn, 1) := dX10_bitsOf_16_b.2.2.2
set_option maxRecDepth 20000 in
theorem ggX10_bars_X10_isThing : GoodIn wsX10_bars wsX10_isThing := goodIn_r _ [7, 2, 8, 9, 6, 10, 149, 150, 151, 152, 153, 154, 155, 156, 157, 158, 159, 160, 161, 162, 163, 164, 165, 166, 167, 168, 169, 170, 171, 172, 173, 174, 175, 176, 177, 178, 179, 180, 181, 182, 183, 184, 185, 186, 187, 188, 189, 190, 191, 192, 193, 194, 195, 196, 197, 198, 199, 200, 201, 202, 203, 204, 205, 206, 207, 208, 209, 210, 211, 212, 213, 214, 215, 216, 217, 218, 219] (by decide +kernel) (by decide +kernel)
set_option maxRecDepth 20000 in
theorem gX10_bars_X10_isThing : GoodIn wsX10_bars (wsV RX10 349 RX10 yX10_isThing wsX10_isThing) := goodIn_app (goodIn_of _ (by decide +kernel)) ggX10_bars_X10_isThing
set_option maxRecDepth 20000 in
theorem ggX10_bars_X10_depths : GoodIn wsX10_bars wsX10_depths := goodIn_r _ [14, 15, 149, 150, 151, 152, 153, 154, 155, 156, 157, 158, 159, 160, 161, 162, 163, 164, 165, 166, 167, 168, 169, 170, 171, 172, 173, 174, 175, 176, 177, 178, 179, 180, 181, 182, 183, 184, 185, 186, 187, 188, 189, 190, 191, 192, 193, 194, 195, 196, 197, 198, 199, 200, 201, 202, 203, 204, 205, 206, 207, 208, 209, 210, 211, 212, 213, 214, 215, 216, 217, 218, 219] (by decide +kernel) (by decide +kernel)
set_option maxRecDepth 20000 in
theorem gX10_bars_X10_depths : GoodIn wsX10_bars (wsV RX10 346 RX10 yX10_depths wsX10_depths) := goodIn_app (goodIn_of _ (by decide +kernel)) ggX10_bars_X10_depths
set_option maxRecDepth 20000 in
theorem ggX10_bars_X10_isIn : GoodIn wsX10_bars wsX10_isIn := goodIn_r _ [10] (by decide +kernel) (by decide +kernel)
set_option maxRecDepth 20000 in
theorem gX10_bars_X10_isIn : GoodIn wsX10_bars (va_wsS RX10 177 yX10_isIn wsX10_isIn) := goodIn_app (goodIn_of _ (by decide +kernel)) ggX10_bars_X10_isIn
set_option maxRecDepth 20000 in
theorem ggX10_bars_X10_fail : GoodIn wsX10_bars wsX10_fail := goodIn_r _ [19, 1, 149, 150, 151, 152, 153, 154, 155, 156, 157, 158, 159, 160, 161, 162, 163, 164, 165, 166, 167, 168, 169, 170, 171, 172, 173, 174, 175, 176, 177, 178, 179, 180, 181, 182, 183, 184, 185, 186, 187, 188, 189, 190, 191, 192, 193, 194, 195, 196, 197, 198, 199, 200, 201, 202, 203, 204, 205, 206, 207, 208, 209, 210, 211, 212, 213, 214, 215, 216, 217, 218, 219] (by decide +kernel) (by decide +kernel)
set_option maxRecDepth 20000 in
theorem gX10_bars_X10_fail : GoodIn wsX10_bars (wsV RX10 315 RX10 yX10_fail wsX10_fail) := goodIn_app (goodIn_of _ (by decide +kernel)) ggX10_bars_X10_fail
set_option maxRecDepth 20000 in
theorem ggX10_bars_X10_bitsOf : GoodIn wsX10_bars wsX10_bitsOf := goodIn_r _ [22] (by decide +kernel) (by decide +kernel)
set_option maxRecDepth 20000 in
theorem gX10_bars_X10_bitsOf : GoodIn wsX10_bars (va_wsS RX10 482 yX10_bitsOf wsX10_bitsOf) := goodIn_app (goodIn_of _ (by decide +kernel)) ggX10_bars_X10_bitsOf
set_option maxRecDepth 20000 in
theorem ggX10_bars_X10_reachOf : GoodIn wsX10_bars wsX10_reachOf := goodIn_r _ [26, 27, 28, 29, 30, 31, 32, 33, 34, 35, 36, 6, 37, 38, 39, 40, 41, 42, 43, 44, 45, 46, 47, 48, 49, 50, 51, 52, 53, 54, 55, 56, 57, 58, 59, 60, 61, 62, 63, 64, 65, 66, 67, 68, 69, 70, 71, 72, 73, 74, 75, 76, 77, 78, 2, 79, 80, 81, 82, 83, 84, 85, 86, 87, 15, 88, 89, 90, 91, 92, 93, 94, 95, 96, 97, 98, 99, 100, 101, 102, 103, 104, 105, 106, 107, 108, 109, 110, 111, 112, 113, 114, 11, 12, 13, 14, 115, 116, 117, 118, 119, 120, 121, 122, 123, 124, 125, 126, 127, 128, 129, 130, 131, 132, 133, 134, 135, 136, 137, 138, 139, 140, 141, 142, 143, 144, 145, 146, 147, 148, 149, 150, 151, 152, 153, 154, 155, 156, 157, 158, 159, 160, 161, 162, 163, 164, 165, 166, 167, 168, 169, 170, 171, 172, 173, 174, 175, 176, 177, 178, 179, 180, 181, 182, 183, 184, 185, 186, 187, 188, 189, 190, 191, 192, 193, 194, 195, 196, 197, 198, 199, 200, 201, 202, 203, 204, 205, 206, 207, 208, 209, 210, 211, 212, 213, 214, 215, 216, 217, 218, 219] (by decide +kernel) (by decide +kernel)
set_option maxRecDepth 20000 in
theorem gX10_bars_X10_reachOf : GoodIn wsX10_bars (wsV RX10 479 RX10 yX10_reachOf wsX10_reachOf) := goodIn_app (goodIn_of _ (by decide +kernel)) ggX10_bars_X10_reachOf
set_option maxRecDepth 20000 in
theorem dX10_bars_0_b : (decode cX10_bars 0 = .ok (.aload_n 0, 1)) ∧ (decode cX10_bars 1 = .ok (.iconst 0, 1)) ∧ (decode cX10_bars 2 = .ok (.putfield 171, 3)) ∧ (decode cX10_bars 5 = .ok (.aload_n 0, 1)) ∧ (decode cX10_bars 6 = .ok (.iload_n 1, 1)) ∧ (decode cX10_bars 7 = .ok (.invokevirtual 349, 3)) := by decide +kernel
theorem dX10_bars_0 : decode cX10_bars 0 = .ok (.aload_n 0, 1) := dX10_bars_0_b.1
theorem dX10_bars_1 : decode cX10_bars 1 = .ok (.iconst 0, 1) := dX10_bars_0_b.2.1
theorem dX10_bars_2 : decode cX10_bars 2 = .ok (.putfield 171, 3) := dX10_bars_0_b.2.2.1
theorem dX10_bars_5 : decode cX10_bars 5 = .ok (.aload_n 0, 1) := dX10_bars_0_b.2.2.2.1
theorem dX10_bars_6 : decode cX10_bars 6 = .ok (.iload_n 1, 1) := dX10_bars_0_b.2.2.2.2.1
theorem dX10_bars_7 : decode cX10_bars 7 = .ok (.invokevirtual 349, 3) := dX10_bars_0_b.2.2.2.2.2
set_option maxRecDepth 20000 in
theorem dX10_bars_10_b : (decode cX10_bars 10 = .ok (.ifCond .eq 15, 3)) ∧ (decode cX10_bars 13 = .ok (.iload_n 2, 1)) ∧ (decode cX10_bars 14 = .ok (.iconst 0, 1)) ∧ (decode cX10_bars 15 = .ok (.aload_n 0, 1)) ∧ (decode cX10_bars 16 = .ok (.invokevirtual 346, 3)) ∧ (decode cX10_bars 19 = .ok (.invokestatic 177, 3)) := by decide +kernel
theorem dX10_bars_10 : decode cX10_bars 10 = .ok (.ifCond .eq 15, 3) := dX10_bars_10_b.1
theorem dX10_bars_13 : decode cX10_bars 13 = .ok (.iload_n 2, 1) := dX10_bars_10_b.2.1
theorem dX10_bars_14 : decode cX10_bars 14 = .ok (.iconst 0, 1) := dX10_bars_10_b.2.2.1
theorem dX10_bars_15 : decode cX10_bars 15 = .ok (.aload_n 0, 1) := dX10_bars_10_b.2.2.2.1
theorem dX10_bars_16 : decode cX10_bars 16 = .ok (.invokevirtual 346, 3) := dX10_bars_10_b.2.2.2.2.1
theorem dX10_bars_19 : decode cX10_bars 19 = .ok (.invokestatic 177, 3) := dX10_bars_10_b.2.2.2.2.2
set_option maxRecDepth 20000 in
theorem dX10_bars_22_b : (decode cX10_bars 22 = .ok (.ifCond .ne 9, 3)) ∧ (decode cX10_bars 25 = .ok (.aload_n 0, 1)) ∧ (decode cX10_bars 26 = .ok (.iconst 1, 1)) ∧ (decode cX10_bars 27 = .ok (.invokevirtual 315, 3)) ∧ (decode cX10_bars 30 = .ok (.ireturn, 1)) ∧ (decode cX10_bars 31 = .ok (.iconst 0, 1)) := by decide +kernel
theorem dX10_bars_22 : decode cX10_bars 22 = .ok (.ifCond .ne 9, 3) := dX10_bars_22_b.1
theorem dX10_bars_25 : decode cX10_bars 25 = .ok (.aload_n 0, 1) := dX10_bars_22_b.2.1
theorem dX10_bars_26 : decode cX10_bars 26 = .ok (.iconst 1, 1) := dX10_bars_22_b.2.2.1
theorem dX10_bars_27 : decode cX10_bars 27 = .ok (.invokevirtual 315, 3) := dX10_bars_22_b.2.2.2.1
theorem dX10_bars_30 : decode cX10_bars 30 = .ok (.ireturn, 1) := dX10_bars_22_b.2.2.2.2.1
theorem dX10_bars_31 : decode cX10_bars 31 = .ok (.iconst 0, 1) := dX10_bars_22_b.2.2.2.2.2
set_option maxRecDepth 20000 in
theorem dX10_bars_32_b : (decode cX10_bars 32 = .ok (.istore_n 3, 1)) ∧ (decode cX10_bars 33 = .ok (.iload_n 3, 1)) ∧ (decode cX10_bars 34 = .ok (.aload_n 0, 1)) ∧ (decode cX10_bars 35 = .ok (.getfield 174, 3)) ∧ (decode cX10_bars 38 = .ok (.if_icmp .ge 82, 3)) ∧ (decode cX10_bars 41 = .ok (.iconst 0, 1)) := by decide +kernel
theorem dX10_bars_32 : decode cX10_bars 32 = .ok (.istore_n 3, 1) := dX10_bars_32_b.1
theorem dX10_bars_33 : decode cX10_bars 33 = .ok (.iload_n 3, 1) := dX10_bars_32_b.2.1
theorem dX10_bars_34 : decode cX10_bars 34 = .ok (.aload_n 0, 1) := dX10_bars_32_b.2.2.1
theorem dX10_bars_35 : decode cX10_bars 35 = .ok (.getfield 174, 3) := dX10_bars_32_b.2.2.2.1
theorem dX10_bars_38 : decode cX10_bars 38 = .ok (.if_icmp .ge 82, 3) := dX10_bars_32_b.2.2.2.2.1
theorem dX10_bars_41 : decode cX10_bars 41 = .ok (.iconst 0, 1) := dX10_bars_32_b.2.2.2.2.2
set_option maxRecDepth 20000 in
theorem dX10_bars_42_b : (decode cX10_bars 42 = .ok (.istore 4, 2)) ∧ (decode cX10_bars 44 = .ok (.iload 4, 2)) ∧ (decode cX10_bars 46 = .ok (.iconst 1, 1)) ∧ (decode cX10_bars 47 = .ok (.aload_n 0, 1)) ∧ (decode cX10_bars 48 = .ok (.getfield 174, 3)) ∧ (decode cX10_bars 51 = .ok (.ishl, 1)) := by decide +kernel
theorem dX10_bars_42 : decode cX10_bars 42 = .ok (.istore 4, 2) := dX10_bars_42_b.1
theorem dX10_bars_44 : decode cX10_bars 44 = .ok (.iload 4, 2) := dX10_bars_42_b.2.1
theorem dX10_bars_46 : decode cX10_bars 46 = .ok (.iconst 1, 1) := dX10_bars_42_b.2.2.1
theorem dX10_bars_47 : decode cX10_bars 47 = .ok (.aload_n 0, 1) := dX10_bars_42_b.2.2.2.1
theorem dX10_bars_48 : decode cX10_bars 48 = .ok (.getfield 174, 3) := dX10_bars_42_b.2.2.2.2.1
theorem dX10_bars_51 : decode cX10_bars 51 = .ok (.ishl, 1) := dX10_bars_42_b.2.2.2.2.2
set_option maxRecDepth 20000 in
theorem dX10_bars_52_b : (decode cX10_bars 52 = .ok (.if_icmp .ge 62, 3)) ∧ (decode cX10_bars 55 = .ok (.iload 4, 2)) ∧ (decode cX10_bars 57 = .ok (.invokestatic 482, 3)) ∧ (decode cX10_bars 60 = .ok (.iload_n 3, 1)) ∧ (decode cX10_bars 61 = .ok (.if_icmp .ne 47, 3)) ∧ (decode cX10_bars 64 = .ok (.iload 4, 2)) := by decide +kernel
theorem dX10_bars_52 : decode cX10_bars 52 = .ok (.if_icmp .ge 62, 3) := dX10_bars_52_b.1
theorem dX10_bars_55 : decode cX10_bars 55 = .ok (.iload 4, 2) := dX10_bars_52_b.2.1
theorem dX10_bars_57 : decode cX10_bars 57 = .ok (.invokestatic 482, 3) := dX10_bars_52_b.2.2.1
theorem dX10_bars_60 : decode cX10_bars 60 = .ok (.iload_n 3, 1) := dX10_bars_52_b.2.2.2.1
theorem dX10_bars_61 : decode cX10_bars 61 = .ok (.if_icmp .ne 47, 3) := dX10_bars_52_b.2.2.2.2.1
theorem dX10_bars_64 : decode cX10_bars 64 = .ok (.iload 4, 2) := dX10_bars_52_b.2.2.2.2.2
set_option maxRecDepth 20000 in
theorem dX10_bars_66_b : (decode cX10_bars 66 = .ok (.iload_n 1, 1)) ∧ (decode cX10_bars 67 = .ok (.ishr, 1)) ∧ (decode cX10_bars 68 = .ok (.iconst 1, 1)) ∧ (decode cX10_bars 69 = .ok (.iand, 1)) ∧ (decode cX10_bars 70 = .ok (.iconst 1, 1)) ∧ (decode cX10_bars 71 = .ok (.if_icmp .ne 6, 3)) := by decide +kernel
theorem dX10_bars_66 : decode cX10_bars 66 = .ok (.iload_n 1, 1) := dX10_bars_66_b.1
theorem dX10_bars_67 : decode cX10_bars 67 = .ok (.ishr, 1) := dX10_bars_66_b.2.1
theorem dX10_bars_68 : decode cX10_bars 68 = .ok (.iconst 1, 1) := dX10_bars_66_b.2.2.1
theorem dX10_bars_69 : decode cX10_bars 69 = .ok (.iand, 1) := dX10_bars_66_b.2.2.2.1
theorem dX10_bars_70 : decode cX10_bars 70 = .ok (.iconst 1, 1) := dX10_bars_66_b.2.2.2.2.1
theorem dX10_bars_71 : decode cX10_bars 71 = .ok (.if_icmp .ne 6, 3) := dX10_bars_66_b.2.2.2.2.2
set_option maxRecDepth 20000 in
theorem dX10_bars_74_b : (decode cX10_bars 74 = .ok (.goto 34, 3)) ∧ (decode cX10_bars 77 = .ok (.aload_n 0, 1)) ∧ (decode cX10_bars 78 = .ok (.iload_n 1, 1)) ∧ (decode cX10_bars 79 = .ok (.iload 4, 2)) ∧ (decode cX10_bars 81 = .ok (.invokevirtual 479, 3)) ∧ (decode cX10_bars 84 = .ok (.istore 5, 2)) := by decide +kernel
theorem dX10_bars_74 : decode cX10_bars 74 = .ok (.goto 34, 3) := dX10_bars_74_b.1
theorem dX10_bars_77 : decode cX10_bars 77 = .ok (.aload_n 0, 1) := dX10_bars_74_b.2.1
theorem dX10_bars_78 : decode cX10_bars 78 = .ok (.iload_n 1, 1) := dX10_bars_74_b.2.2.1
theorem dX10_bars_79 : decode cX10_bars 79 = .ok (.iload 4, 2) := dX10_bars_74_b.2.2.2.1
theorem dX10_bars_81 : decode cX10_bars 81 = .ok (.invokevirtual 479, 3) := dX10_bars_74_b.2.2.2.2.1
theorem dX10_bars_84 : decode cX10_bars 84 = .ok (.istore 5, 2) := dX10_bars_74_b.2.2.2.2.2
set_option maxRecDepth 20000 in
theorem dX10_bars_86_b : (decode cX10_bars 86 = .ok (.iload 5, 2)) ∧ (decode cX10_bars 88 = .ok (.bipush (-2), 2)) ∧ (decode cX10_bars 90 = .ok (.if_icmp .ne 6, 3)) ∧ (decode cX10_bars 93 = .ok (.bipush (-2), 2)) ∧ (decode cX10_bars 95 = .ok (.ireturn, 1)) ∧ (decode cX10_bars 96 = .ok (.iload 5, 2)) := by decide +kernel
theorem dX10_bars_86 : decode cX10_bars 86 = .ok (.iload 5, 2) := dX10_bars_86_b.1
theorem dX10_bars_88 : decode cX10_bars 88 = .ok (.bipush (-2), 2) := dX10_bars_86_b.2.1
theorem dX10_bars_90 : decode cX10_bars 90 = .ok (.if_icmp .ne 6, 3) := dX10_bars_86_b.2.2.1
theorem dX10_bars_93 : decode cX10_bars 93 = .ok (.bipush (-2), 2) := dX10_bars_86_b.2.2.2.1
theorem dX10_bars_95 : decode cX10_bars 95 = .ok (.ireturn, 1) := dX10_bars_86_b.2.2.2.2.1
theorem dX10_bars_96 : decode cX10_bars 96 = .ok (.iload 5, 2) := dX10_bars_86_b.2.2.2.2.2
set_option maxRecDepth 20000 in
theorem dX10_bars_98_b : (decode cX10_bars 98 = .ok (.iload_n 2, 1)) ∧ (decode cX10_bars 99 = .ok (.ishr, 1)) ∧ (decode cX10_bars 100 = .ok (.iconst 1, 1)) ∧ (decode cX10_bars 101 = .ok (.iand, 1)) ∧ (decode cX10_bars 102 = .ok (.ifCond .ne 6, 3)) ∧ (decode cX10_bars 105 = .ok (.iload 4, 2)) := by decide +kernel
theorem dX10_bars_98 : decode cX10_bars 98 = .ok (.iload_n 2, 1) := dX10_bars_98_b.1
theorem dX10_bars_99 : decode cX10_bars 99 = .ok (.ishr, 1) := dX10_bars_98_b.2.1
theorem dX10_bars_100 : decode cX10_bars 100 = .ok (.iconst 1, 1) := dX10_bars_98_b.2.2.1
theorem dX10_bars_101 : decode cX10_bars 101 = .ok (.iand, 1) := dX10_bars_98_b.2.2.2.1
theorem dX10_bars_102 : decode cX10_bars 102 = .ok (.ifCond .ne 6, 3) := dX10_bars_98_b.2.2.2.2.1
theorem dX10_bars_105 : decode cX10_bars 105 = .ok (.iload 4, 2) := dX10_bars_98_b.2.2.2.2.2
set_option maxRecDepth 20000 in
theorem dX10_bars_107_b : (decode cX10_bars 107 = .ok (.ireturn, 1)) ∧ (decode cX10_bars 108 = .ok (.iinc 4 1, 3)) ∧ (decode cX10_bars 111 = .ok (.goto (-67), 3)) ∧ (decode cX10_bars 114 = .ok (.iinc 3 1, 3)) ∧ (decode cX10_bars 117 = .ok (.goto (-84), 3)) ∧ (decode cX10_bars 120 = .ok (.iconst (-1), 1)) := by decide +kernel
theorem dX10_bars_107 : decode cX10_bars 107 = .ok (.ireturn, 1) := dX10_bars_107_b.1
theorem dX10_bars_108 : decode cX10_bars 108 = .ok (.iinc 4 1, 3) := dX10_bars_107_b.2.1
theorem dX10_bars_111 : decode cX10_bars 111 = .ok (.goto (-67), 3) := dX10_bars_107_b.2.2.1
theorem dX10_bars_114 : decode cX10_bars 114 = .ok (.iinc 3 1, 3) := dX10_bars_107_b.2.2.2.1
theorem dX10_bars_117 : decode cX10_bars 117 = .ok (.goto (-84), 3) := dX10_bars_107_b.2.2.2.2.1
theorem dX10_bars_120 : decode cX10_bars 120 = .ok (.iconst (-1), 1) := dX10_bars_107_b.2.2.2.2.2
theorem dX10_bars_121 : decode cX10_bars 121 = .ok (.ireturn, 1) := by decide +kernel
set_option maxRecDepth 20000 in
theorem ggX10_day_X10_isIn : GoodIn wsX10_day wsX10_isIn := goodIn_r _ [10] (by decide +kernel) (by decide +kernel)
set_option maxRecDepth 20000 in
theorem gX10_day_X10_isIn : GoodIn wsX10_day (va_wsS RX10 177 yX10_isIn wsX10_isIn) := goodIn_app (goodIn_of _ (by decide +kernel)) ggX10_day_X10_isIn
set_option maxRecDepth 20000 in
theorem dX10_day_0_b : (decode cX10_day 0 = .ok (.aload_n 0, 1)) ∧ (decode cX10_day 1 = .ok (.iconst 0, 1)) ∧ (decode cX10_day 2 = .ok (.putfield 171, 3)) ∧ (decode cX10_day 5 = .ok (.aload_n 0, 1)) ∧ (decode cX10_day 6 = .ok (.getfield 336, 3)) ∧ (decode cX10_day 9 = .ok (.bipush 6, 2)) := by decide +kernel
theorem dX10_day_0 : decode cX10_day 0 = .ok (.aload_n 0, 1) := dX10_day_0_b.1
theorem dX10_day_1 : decode cX10_day 1 = .ok (.iconst 0, 1) := dX10_day_0_b.2.1
theorem dX10_day_2 : decode cX10_day 2 = .ok (.putfield 171, 3) := dX10_day_0_b.2.2.1
theorem dX10_day_5 : decode cX10_day 5 = .ok (.aload_n 0, 1) := dX10_day_0_b.2.2.2.1
theorem dX10_day_6 : decode cX10_day 6 = .ok (.getfield 336, 3) := dX10_day_0_b.2.2.2.2.1
theorem dX10_day_9 : decode cX10_day 9 = .ok (.bipush 6, 2) := dX10_day_0_b.2.2.2.2.2
set_option maxRecDepth 20000 in
theorem dX10_day_11_b : (decode cX10_day 11 = .ok (.if_icmp .ge 23, 3)) ∧ (decode cX10_day 14 = .ok (.iload_n 1, 1)) ∧ (decode cX10_day 15 = .ok (.iconst 0, 1)) ∧ (decode cX10_day 16 = .ok (.iconst 1, 1)) ∧ (decode cX10_day 17 = .ok (.aload_n 0, 1)) ∧ (decode cX10_day 18 = .ok (.getfield 174, 3)) := by decide +kernel
theorem dX10_day_11 : decode cX10_day 11 = .ok (.if_icmp .ge 23, 3) := dX10_day_11_b.1
theorem dX10_day_14 : decode cX10_day 14 = .ok (.iload_n 1, 1) := dX10_day_11_b.2.1
theorem dX10_day_15 : decode cX10_day 15 = .ok (.iconst 0, 1) := dX10_day_11_b.2.2.1
theorem dX10_day_16 : decode cX10_day 16 = .ok (.iconst 1, 1) := dX10_day_11_b.2.2.2.1
theorem dX10_day_17 : decode cX10_day 17 = .ok (.aload_n 0, 1) := dX10_day_11_b.2.2.2.2.1
theorem dX10_day_18 : decode cX10_day 18 = .ok (.getfield 174, 3) := dX10_day_11_b.2.2.2.2.2
set_option maxRecDepth 20000 in
theorem dX10_day_21_b : (decode cX10_day 21 = .ok (.ishl, 1)) ∧ (decode cX10_day 22 = .ok (.iconst 1, 1)) ∧ (decode cX10_day 23 = .ok (.isub, 1)) ∧ (decode cX10_day 24 = .ok (.invokestatic 177, 3)) ∧ (decode cX10_day 27 = .ok (.ifCond .eq 7, 3)) ∧ (decode cX10_day 30 = .ok (.iconst 1, 1)) := by decide +kernel
theorem dX10_day_21 : decode cX10_day 21 = .ok (.ishl, 1) := dX10_day_21_b.1
theorem dX10_day_22 : decode cX10_day 22 = .ok (.iconst 1, 1) := dX10_day_21_b.2.1
theorem dX10_day_23 : decode cX10_day 23 = .ok (.isub, 1) := dX10_day_21_b.2.2.1
theorem dX10_day_24 : decode cX10_day 24 = .ok (.invokestatic 177, 3) := dX10_day_21_b.2.2.2.1
theorem dX10_day_27 : decode cX10_day 27 = .ok (.ifCond .eq 7, 3) := dX10_day_21_b.2.2.2.2.1
theorem dX10_day_30 : decode cX10_day 30 = .ok (.iconst 1, 1) := dX10_day_21_b.2.2.2.2.2
set_option maxRecDepth 20000 in
theorem dX10_day_31_b : (decode cX10_day 31 = .ok (.goto 4, 3)) ∧ (decode cX10_day 34 = .ok (.iconst 0, 1)) ∧ (decode cX10_day 35 = .ok (.istore_n 2, 1)) ∧ (decode cX10_day 36 = .ok (.iconst 0, 1)) ∧ (decode cX10_day 37 = .ok (.istore_n 3, 1)) ∧ (decode cX10_day 38 = .ok (.iload_n 3, 1)) := by decide +kernel
theorem dX10_day_31 : decode cX10_day 31 = .ok (.goto 4, 3) := dX10_day_31_b.1
theorem dX10_day_34 : decode cX10_day 34 = .ok (.iconst 0, 1) := dX10_day_31_b.2.1
theorem dX10_day_35 : decode cX10_day 35 = .ok (.istore_n 2, 1) := dX10_day_31_b.2.2.1
theorem dX10_day_36 : decode cX10_day 36 = .ok (.iconst 0, 1) := dX10_day_31_b.2.2.2.1
theorem dX10_day_37 : decode cX10_day 37 = .ok (.istore_n 3, 1) := dX10_day_31_b.2.2.2.2.1
theorem dX10_day_38 : decode cX10_day 38 = .ok (.iload_n 3, 1) := dX10_day_31_b.2.2.2.2.2
set_option maxRecDepth 20000 in
theorem dX10_day_39_b : (decode cX10_day 39 = .ok (.aload_n 0, 1)) ∧ (decode cX10_day 40 = .ok (.getfield 174, 3)) ∧ (decode cX10_day 43 = .ok (.if_icmp .ge 37, 3)) ∧ (decode cX10_day 46 = .ok (.iload_n 2, 1)) ∧ (decode cX10_day 47 = .ok (.ifCond .eq 33, 3)) ∧ (decode cX10_day 50 = .ok (.iload_n 1, 1)) := by decide +kernel
theorem dX10_day_39 : decode cX10_day 39 = .ok (.aload_n 0, 1) := dX10_day_39_b.1
theorem dX10_day_40 : decode cX10_day 40 = .ok (.getfield 174, 3) := dX10_day_39_b.2.1
theorem dX10_day_43 : decode cX10_day 43 = .ok (.if_icmp .ge 37, 3) := dX10_day_39_b.2.2.1
theorem dX10_day_46 : decode cX10_day 46 = .ok (.iload_n 2, 1) := dX10_day_39_b.2.2.2.1
theorem dX10_day_47 : decode cX10_day 47 = .ok (.ifCond .eq 33, 3) := dX10_day_39_b.2.2.2.2.1
theorem dX10_day_50 : decode cX10_day 50 = .ok (.iload_n 1, 1) := dX10_day_39_b.2.2.2.2.2
set_option maxRecDepth 20000 in
theorem dX10_day_51_b : (decode cX10_day 51 = .ok (.iload_n 3, 1)) ∧ (decode cX10_day 52 = .ok (.ishr, 1)) ∧ (decode cX10_day 53 = .ok (.iconst 1, 1)) ∧ (decode cX10_day 54 = .ok (.iand, 1)) ∧ (decode cX10_day 55 = .ok (.ifCond .eq 13, 3)) ∧ (decode cX10_day 58 = .ok (.aload_n 0, 1)) := by decide +kernel
theorem dX10_day_51 : decode cX10_day 51 = .ok (.iload_n 3, 1) := dX10_day_51_b.1
theorem dX10_day_52 : decode cX10_day 52 = .ok (.ishr, 1) := dX10_day_51_b.2.1
theorem dX10_day_53 : decode cX10_day 53 = .ok (.iconst 1, 1) := dX10_day_51_b.2.2.1
theorem dX10_day_54 : decode cX10_day 54 = .ok (.iand, 1) := dX10_day_51_b.2.2.2.1
theorem dX10_day_55 : decode cX10_day 55 = .ok (.ifCond .eq 13, 3) := dX10_day_51_b.2.2.2.2.1
theorem dX10_day_58 : decode cX10_day 58 = .ok (.aload_n 0, 1) := dX10_day_51_b.2.2.2.2.2
set_option maxRecDepth 20000 in
theorem dX10_day_59_b : (decode cX10_day 59 = .ok (.getfield 65, 3)) ∧ (decode cX10_day 62 = .ok (.iload_n 3, 1)) ∧ (decode cX10_day 63 = .ok (.iaload, 1)) ∧ (decode cX10_day 64 = .ok (.iconst (-1), 1)) ∧ (decode cX10_day 65 = .ok (.if_icmp .eq 7, 3)) ∧ (decode cX10_day 68 = .ok (.iconst 1, 1)) := by decide +kernel
theorem dX10_day_59 : decode cX10_day 59 = .ok (.getfield 65, 3) := dX10_day_59_b.1
theorem dX10_day_62 : decode cX10_day 62 = .ok (.iload_n 3, 1) := dX10_day_59_b.2.1
theorem dX10_day_63 : decode cX10_day 63 = .ok (.iaload, 1) := dX10_day_59_b.2.2.1
theorem dX10_day_64 : decode cX10_day 64 = .ok (.iconst (-1), 1) := dX10_day_59_b.2.2.2.1
theorem dX10_day_65 : decode cX10_day 65 = .ok (.if_icmp .eq 7, 3) := dX10_day_59_b.2.2.2.2.1
theorem dX10_day_68 : decode cX10_day 68 = .ok (.iconst 1, 1) := dX10_day_59_b.2.2.2.2.2
set_option maxRecDepth 20000 in
theorem dX10_day_69_b : (decode cX10_day 69 = .ok (.goto 4, 3)) ∧ (decode cX10_day 72 = .ok (.iconst 0, 1)) ∧ (decode cX10_day 73 = .ok (.istore_n 2, 1)) ∧ (decode cX10_day 74 = .ok (.iinc 3 1, 3)) ∧ (decode cX10_day 77 = .ok (.goto (-39), 3)) ∧ (decode cX10_day 80 = .ok (.iload_n 2, 1)) := by decide +kernel
theorem dX10_day_69 : decode cX10_day 69 = .ok (.goto 4, 3) := dX10_day_69_b.1
theorem dX10_day_72 : decode cX10_day 72 = .ok (.iconst 0, 1) := dX10_day_69_b.2.1
theorem dX10_day_73 : decode cX10_day 73 = .ok (.istore_n 2, 1) := dX10_day_69_b.2.2.1
theorem dX10_day_74 : decode cX10_day 74 = .ok (.iinc 3 1, 3) := dX10_day_69_b.2.2.2.1
theorem dX10_day_77 : decode cX10_day 77 = .ok (.goto (-39), 3) := dX10_day_69_b.2.2.2.2.1
theorem dX10_day_80 : decode cX10_day 80 = .ok (.iload_n 2, 1) := dX10_day_69_b.2.2.2.2.2
set_option maxRecDepth 20000 in
theorem dX10_day_81_b : (decode cX10_day 81 = .ok (.ifCond .ne 15, 3)) ∧ (decode cX10_day 84 = .ok (.aload_n 0, 1)) ∧ (decode cX10_day 85 = .ok (.getfield 77, 3)) ∧ (decode cX10_day 88 = .ok (.iconst 2, 1)) ∧ (decode cX10_day 89 = .ok (.dup2, 1)) ∧ (decode cX10_day 90 = .ok (.iaload, 1)) := by decide +kernel
theorem dX10_day_81 : decode cX10_day 81 = .ok (.ifCond .ne 15, 3) := dX10_day_81_b.1
theorem dX10_day_84 : decode cX10_day 84 = .ok (.aload_n 0, 1) := dX10_day_81_b.2.1
theorem dX10_day_85 : decode cX10_day 85 = .ok (.getfield 77, 3) := dX10_day_81_b.2.2.1
theorem dX10_day_88 : decode cX10_day 88 = .ok (.iconst 2, 1) := dX10_day_81_b.2.2.2.1
theorem dX10_day_89 : decode cX10_day 89 = .ok (.dup2, 1) := dX10_day_81_b.2.2.2.2.1
theorem dX10_day_90 : decode cX10_day 90 = .ok (.iaload, 1) := dX10_day_81_b.2.2.2.2.2
set_option maxRecDepth 20000 in
theorem dX10_day_91_b : (decode cX10_day 91 = .ok (.iconst 1, 1)) ∧ (decode cX10_day 92 = .ok (.iadd, 1)) ∧ (decode cX10_day 93 = .ok (.iastore, 1)) ∧ (decode cX10_day 94 = .ok (.iconst (-1), 1)) ∧ (decode cX10_day 95 = .ok (.ireturn, 1)) ∧ (decode cX10_day 96 = .ok (.aload_n 0, 1)) := by decide +kernel
theorem dX10_day_91 : decode cX10_day 91 = .ok (.iconst 1, 1) := dX10_day_91_b.1
theorem dX10_day_92 : decode cX10_day 92 = .ok (.iadd, 1) := dX10_day_91_b.2.1
theorem dX10_day_93 : decode cX10_day 93 = .ok (.iastore, 1) := dX10_day_91_b.2.2.1
theorem dX10_day_94 : decode cX10_day 94 = .ok (.iconst (-1), 1) := dX10_day_91_b.2.2.2.1
theorem dX10_day_95 : decode cX10_day 95 = .ok (.ireturn, 1) := dX10_day_91_b.2.2.2.2.1
theorem dX10_day_96 : decode cX10_day 96 = .ok (.aload_n 0, 1) := dX10_day_91_b.2.2.2.2.2
set_option maxRecDepth 20000 in
theorem dX10_day_97_b : (decode cX10_day 97 = .ok (.getfield 90, 3)) ∧ (decode cX10_day 100 = .ok (.aload_n 0, 1)) ∧ (decode cX10_day 101 = .ok (.getfield 336, 3)) ∧ (decode cX10_day 104 = .ok (.iload_n 1, 1)) ∧ (decode cX10_day 105 = .ok (.iastore, 1)) ∧ (decode cX10_day 106 = .ok (.aload_n 0, 1)) := by decide +kernel
theorem dX10_day_97 : decode cX10_day 97 = .ok (.getfield 90, 3) := dX10_day_97_b.1
theorem dX10_day_100 : decode cX10_day 100 = .ok (.aload_n 0, 1) := dX10_day_97_b.2.1
theorem dX10_day_101 : decode cX10_day 101 = .ok (.getfield 336, 3) := dX10_day_97_b.2.2.1
theorem dX10_day_104 : decode cX10_day 104 = .ok (.iload_n 1, 1) := dX10_day_97_b.2.2.2.1
theorem dX10_day_105 : decode cX10_day 105 = .ok (.iastore, 1) := dX10_day_97_b.2.2.2.2.1
theorem dX10_day_106 : decode cX10_day 106 = .ok (.aload_n 0, 1) := dX10_day_97_b.2.2.2.2.2
set_option maxRecDepth 20000 in
theorem dX10_day_107_b : (decode cX10_day 107 = .ok (.dup, 1)) ∧ (decode cX10_day 108 = .ok (.getfield 336, 3)) ∧ (decode cX10_day 111 = .ok (.iconst 1, 1)) ∧ (decode cX10_day 112 = .ok (.iadd, 1)) ∧ (decode cX10_day 113 = .ok (.putfield 336, 3)) ∧ (decode cX10_day 116 = .ok (.aload_n 0, 1)) := by decide +kernel
theorem dX10_day_107 : decode cX10_day 107 = .ok (.dup, 1) := dX10_day_107_b.1
theorem dX10_day_108 : decode cX10_day 108 = .ok (.getfield 336, 3) := dX10_day_107_b.2.1
theorem dX10_day_111 : decode cX10_day 111 = .ok (.iconst 1, 1) := dX10_day_107_b.2.2.1
theorem dX10_day_112 : decode cX10_day 112 = .ok (.iadd, 1) := dX10_day_107_b.2.2.2.1
theorem dX10_day_113 : decode cX10_day 113 = .ok (.putfield 336, 3) := dX10_day_107_b.2.2.2.2.1
theorem dX10_day_116 : decode cX10_day 116 = .ok (.aload_n 0, 1) := dX10_day_107_b.2.2.2.2.2
set_option maxRecDepth 20000 in
theorem dX10_day_117_b : (decode cX10_day 117 = .ok (.getfield 336, 3)) ∧ (decode cX10_day 120 = .ok (.ireturn, 1)) := by decide +kernel
theorem dX10_day_117 : decode cX10_day 117 = .ok (.getfield 336, 3) := dX10_day_117_b.1
theorem dX10_day_120 : decode cX10_day 120 = .ok (.ireturn, 1) := dX10_day_117_b.2
set_option maxRecDepth 20000 in
theorem dX10_stonesOf_0_b : (decode cX10_stonesOf 0 = .ok (.iconst 0, 1)) ∧ (decode cX10_stonesOf 1 = .ok (.istore_n 1, 1)) ∧ (decode cX10_stonesOf 2 = .ok (.iconst 0, 1)) ∧ (decode cX10_stonesOf 3 = .ok (.istore_n 2, 1)) ∧ (decode cX10_stonesOf 4 = .ok (.iload_n 2, 1)) ∧ (decode cX10_stonesOf 5 = .ok (.aload_n 0, 1)) := by decide +kernel
theorem dX10_stonesOf_0 : decode cX10_stonesOf 0 = .ok (.iconst 0, 1) := dX10_stonesOf_0_b.1
theorem dX10_stonesOf_1 : decode cX10_stonesOf 1 = .ok (.istore_n 1, 1) := dX10_stonesOf_0_b.2.1
theorem dX10_stonesOf_2 : decode cX10_stonesOf 2 = .ok (.iconst 0, 1) := dX10_stonesOf_0_b.2.2.1
theorem dX10_stonesOf_3 : decode cX10_stonesOf 3 = .ok (.istore_n 2, 1) := dX10_stonesOf_0_b.2.2.2.1
theorem dX10_stonesOf_4 : decode cX10_stonesOf 4 = .ok (.iload_n 2, 1) := dX10_stonesOf_0_b.2.2.2.2.1
theorem dX10_stonesOf_5 : decode cX10_stonesOf 5 = .ok (.aload_n 0, 1) := dX10_stonesOf_0_b.2.2.2.2.2
set_option maxRecDepth 20000 in
theorem dX10_stonesOf_6_b : (decode cX10_stonesOf 6 = .ok (.getfield 174, 3)) ∧ (decode cX10_stonesOf 9 = .ok (.if_icmp .ge 27, 3)) ∧ (decode cX10_stonesOf 12 = .ok (.iload_n 1, 1)) ∧ (decode cX10_stonesOf 13 = .ok (.aload_n 0, 1)) ∧ (decode cX10_stonesOf 14 = .ok (.getfield 57, 3)) ∧ (decode cX10_stonesOf 17 = .ok (.iload_n 2, 1)) := by decide +kernel
theorem dX10_stonesOf_6 : decode cX10_stonesOf 6 = .ok (.getfield 174, 3) := dX10_stonesOf_6_b.1
theorem dX10_stonesOf_9 : decode cX10_stonesOf 9 = .ok (.if_icmp .ge 27, 3) := dX10_stonesOf_6_b.2.1
theorem dX10_stonesOf_12 : decode cX10_stonesOf 12 = .ok (.iload_n 1, 1) := dX10_stonesOf_6_b.2.2.1
theorem dX10_stonesOf_13 : decode cX10_stonesOf 13 = .ok (.aload_n 0, 1) := dX10_stonesOf_6_b.2.2.2.1
theorem dX10_stonesOf_14 : decode cX10_stonesOf 14 = .ok (.getfield 57, 3) := dX10_stonesOf_6_b.2.2.2.2.1
theorem dX10_stonesOf_17 : decode cX10_stonesOf 17 = .ok (.iload_n 2, 1) := dX10_stonesOf_6_b.2.2.2.2.2
set_option maxRecDepth 20000 in
theorem dX10_stonesOf_18_b : (decode cX10_stonesOf 18 = .ok (.iaload, 1)) ∧ (decode cX10_stonesOf 19 = .ok (.iconst 2, 1)) ∧ (decode cX10_stonesOf 20 = .ok (.if_icmp .ne 7, 3)) ∧ (decode cX10_stonesOf 23 = .ok (.iconst 1, 1)) ∧ (decode cX10_stonesOf 24 = .ok (.goto 4, 3)) ∧ (decode cX10_stonesOf 27 = .ok (.iconst 0, 1)) := by decide +kernel
theorem dX10_stonesOf_18 : decode cX10_stonesOf 18 = .ok (.iaload, 1) := dX10_stonesOf_18_b.1
theorem dX10_stonesOf_19 : decode cX10_stonesOf 19 = .ok (.iconst 2, 1) := dX10_stonesOf_18_b.2.1
theorem dX10_stonesOf_20 : decode cX10_stonesOf 20 = .ok (.if_icmp .ne 7, 3) := dX10_stonesOf_18_b.2.2.1
theorem dX10_stonesOf_23 : decode cX10_stonesOf 23 = .ok (.iconst 1, 1) := dX10_stonesOf_18_b.2.2.2.1
theorem dX10_stonesOf_24 : decode cX10_stonesOf 24 = .ok (.goto 4, 3) := dX10_stonesOf_18_b.2.2.2.2.1
theorem dX10_stonesOf_27 : decode cX10_stonesOf 27 = .ok (.iconst 0, 1) := dX10_stonesOf_18_b.2.2.2.2.2
set_option maxRecDepth 20000 in
theorem dX10_stonesOf_28_b : (decode cX10_stonesOf 28 = .ok (.iadd, 1)) ∧ (decode cX10_stonesOf 29 = .ok (.istore_n 1, 1)) ∧ (decode cX10_stonesOf 30 = .ok (.iinc 2 1, 3)) ∧ (decode cX10_stonesOf 33 = .ok (.goto (-29), 3)) ∧ (decode cX10_stonesOf 36 = .ok (.iload_n 1, 1)) ∧ (decode cX10_stonesOf 37 = .ok (.ireturn, 1)) := by decide +kernel
theorem dX10_stonesOf_28 : decode cX10_stonesOf 28 = .ok (.iadd, 1) := dX10_stonesOf_28_b.1
theorem dX10_stonesOf_29 : decode cX10_stonesOf 29 = .ok (.istore_n 1, 1) := dX10_stonesOf_28_b.2.1
theorem dX10_stonesOf_30 : decode cX10_stonesOf 30 = .ok (.iinc 2 1, 3) := dX10_stonesOf_28_b.2.2.1
theorem dX10_stonesOf_33 : decode cX10_stonesOf 33 = .ok (.goto (-29), 3) := dX10_stonesOf_28_b.2.2.2.1
theorem dX10_stonesOf_36 : decode cX10_stonesOf 36 = .ok (.iload_n 1, 1) := dX10_stonesOf_28_b.2.2.2.2.1
theorem dX10_stonesOf_37 : decode cX10_stonesOf 37 = .ok (.ireturn, 1) := dX10_stonesOf_28_b.2.2.2.2.2
set_option maxRecDepth 20000 in
theorem ggX10_canDay_X10_seek : GoodIn wsX10_canDay wsX10_seek := goodIn_r _ [11, 12, 13, 14, 15, 16, 17, 18, 19, 20, 21, 22, 23, 10, 24, 25, 26, 27, 28, 29, 30, 31, 32, 33, 34, 35, 36, 37, 38, 39, 40, 41, 42, 43, 44, 45, 46, 47, 48, 49, 50, 51, 1, 52, 53, 54, 55, 56, 57, 58, 59, 60, 61, 6, 62, 63, 64, 65, 66, 67, 68, 69, 70, 71, 72, 73, 74, 75, 76, 77, 78, 79, 80, 81, 82, 83, 2, 84, 85, 86, 87, 88, 89, 90, 91, 92, 93, 94, 95, 96, 97, 98, 99, 100, 101, 102, 103, 104, 105, 106, 107, 108, 109, 110, 111, 112, 113, 114, 115, 116, 117, 118, 119, 120, 121, 122, 123, 124, 125, 126, 127, 128, 129, 138, 139, 140, 141, 142, 143, 144, 145, 146, 147, 148, 149, 150, 151, 152, 153, 154, 155, 156, 157, 158, 159, 160, 161, 162, 163, 164, 165, 166, 167, 168, 169, 170, 171, 172, 173, 174, 175, 176, 177, 178, 179, 180, 181, 182, 183, 184, 185, 186, 187, 188, 189, 190, 191, 192, 193, 194, 195, 196, 197, 198, 199, 200, 201, 202, 203, 204, 205, 206, 207, 208] (by decide +kernel) (by decide +kernel)
set_option maxRecDepth 20000 in
theorem gX10_canDay_X10_seek : GoodIn wsX10_canDay (wsV RX10 472 RX10 yX10_seek wsX10_seek) := goodIn_app (goodIn_of _ (by decide +kernel)) ggX10_canDay_X10_seek
set_option maxRecDepth 20000 in
theorem ggX10_canDay_X10_leastServed : GoodIn wsX10_canDay wsX10_leastServed := goodIn_r _ [133, 13, 19, 134, 135, 136, 10, 137, 18, 1, 21, 52, 47, 43, 44, 45, 46, 25, 126, 127, 128, 129, 84, 85, 86, 87, 88, 89, 90, 91, 6, 138, 139, 140, 141, 142, 143, 144, 145, 146, 147, 148, 149, 150, 151, 152, 153, 154, 155, 156, 157, 158, 159, 160, 161, 162, 163, 164, 165, 166, 167, 168, 169, 170, 171, 172, 173, 174, 175, 176, 177, 178, 179, 180, 181, 182, 183, 184, 185, 186, 187, 188, 189, 190, 191, 192, 193, 194, 195, 196, 197, 198, 199, 200, 201, 202, 203, 204, 205, 206, 207, 208] (by decide +kernel) (by decide +kernel)
set_option maxRecDepth 20000 in
theorem gX10_canDay_X10_leastServed : GoodIn wsX10_canDay (wsV RX10 476 RX10 yX10_leastServed wsX10_leastServed) := goodIn_app (goodIn_of _ (by decide +kernel)) ggX10_canDay_X10_leastServed
set_option maxRecDepth 20000 in
theorem dX10_canDay_0_b : (decode cX10_canDay 0 = .ok (.iconst 0, 1)) ∧ (decode cX10_canDay 1 = .ok (.istore_n 3, 1)) ∧ (decode cX10_canDay 2 = .ok (.iconst 0, 1)) ∧ (decode cX10_canDay 3 = .ok (.istore 4, 2)) ∧ (decode cX10_canDay 5 = .ok (.iload 4, 2)) ∧ (decode cX10_canDay 7 = .ok (.bipush 7, 2)) := by decide +kernel
theorem dX10_canDay_0 : decode cX10_canDay 0 = .ok (.iconst 0, 1) := dX10_canDay_0_b.1
theorem dX10_canDay_1 : decode cX10_canDay 1 = .ok (.istore_n 3, 1) := dX10_canDay_0_b.2.1
theorem dX10_canDay_2 : decode cX10_canDay 2 = .ok (.iconst 0, 1) := dX10_canDay_0_b.2.2.1
theorem dX10_canDay_3 : decode cX10_canDay 3 = .ok (.istore 4, 2) := dX10_canDay_0_b.2.2.2.1
theorem dX10_canDay_5 : decode cX10_canDay 5 = .ok (.iload 4, 2) := dX10_canDay_0_b.2.2.2.2.1
theorem dX10_canDay_7 : decode cX10_canDay 7 = .ok (.bipush 7, 2) := dX10_canDay_0_b.2.2.2.2.2
set_option maxRecDepth 20000 in
theorem dX10_canDay_9_b : (decode cX10_canDay 9 = .ok (.if_icmp .ge 117, 3)) ∧ (decode cX10_canDay 12 = .ok (.iload 4, 2)) ∧ (decode cX10_canDay 14 = .ok (.aload_n 0, 1)) ∧ (decode cX10_canDay 15 = .ok (.getfield 174, 3)) ∧ (decode cX10_canDay 18 = .ok (.if_icmp .ge 18, 3)) ∧ (decode cX10_canDay 21 = .ok (.aload_n 0, 1)) := by decide +kernel
theorem dX10_canDay_9 : decode cX10_canDay 9 = .ok (.if_icmp .ge 117, 3) := dX10_canDay_9_b.1
theorem dX10_canDay_12 : decode cX10_canDay 12 = .ok (.iload 4, 2) := dX10_canDay_9_b.2.1
theorem dX10_canDay_14 : decode cX10_canDay 14 = .ok (.aload_n 0, 1) := dX10_canDay_9_b.2.2.1
theorem dX10_canDay_15 : decode cX10_canDay 15 = .ok (.getfield 174, 3) := dX10_canDay_9_b.2.2.2.1
theorem dX10_canDay_18 : decode cX10_canDay 18 = .ok (.if_icmp .ge 18, 3) := dX10_canDay_9_b.2.2.2.2.1
theorem dX10_canDay_21 : decode cX10_canDay 21 = .ok (.aload_n 0, 1) := dX10_canDay_9_b.2.2.2.2.2
set_option maxRecDepth 20000 in
theorem dX10_canDay_22_b : (decode cX10_canDay 22 = .ok (.getfield 57, 3)) ∧ (decode cX10_canDay 25 = .ok (.iload 4, 2)) ∧ (decode cX10_canDay 27 = .ok (.iaload, 1)) ∧ (decode cX10_canDay 28 = .ok (.iconst 2, 1)) ∧ (decode cX10_canDay 29 = .ok (.if_icmp .ne 7, 3)) ∧ (decode cX10_canDay 32 = .ok (.iconst 1, 1)) := by decide +kernel
theorem dX10_canDay_22 : decode cX10_canDay 22 = .ok (.getfield 57, 3) := dX10_canDay_22_b.1
theorem dX10_canDay_25 : decode cX10_canDay 25 = .ok (.iload 4, 2) := dX10_canDay_22_b.2.1
theorem dX10_canDay_27 : decode cX10_canDay 27 = .ok (.iaload, 1) := dX10_canDay_22_b.2.2.1
theorem dX10_canDay_28 : decode cX10_canDay 28 = .ok (.iconst 2, 1) := dX10_canDay_22_b.2.2.2.1
theorem dX10_canDay_29 : decode cX10_canDay 29 = .ok (.if_icmp .ne 7, 3) := dX10_canDay_22_b.2.2.2.2.1
theorem dX10_canDay_32 : decode cX10_canDay 32 = .ok (.iconst 1, 1) := dX10_canDay_22_b.2.2.2.2.2
set_option maxRecDepth 20000 in
theorem dX10_canDay_33_b : (decode cX10_canDay 33 = .ok (.goto 4, 3)) ∧ (decode cX10_canDay 36 = .ok (.iconst 0, 1)) ∧ (decode cX10_canDay 37 = .ok (.istore 5, 2)) ∧ (decode cX10_canDay 39 = .ok (.iload 4, 2)) ∧ (decode cX10_canDay 41 = .ok (.aload_n 0, 1)) ∧ (decode cX10_canDay 42 = .ok (.getfield 174, 3)) := by decide +kernel
theorem dX10_canDay_33 : decode cX10_canDay 33 = .ok (.goto 4, 3) := dX10_canDay_33_b.1
theorem dX10_canDay_36 : decode cX10_canDay 36 = .ok (.iconst 0, 1) := dX10_canDay_33_b.2.1
theorem dX10_canDay_37 : decode cX10_canDay 37 = .ok (.istore 5, 2) := dX10_canDay_33_b.2.2.1
theorem dX10_canDay_39 : decode cX10_canDay 39 = .ok (.iload 4, 2) := dX10_canDay_33_b.2.2.2.1
theorem dX10_canDay_41 : decode cX10_canDay 41 = .ok (.aload_n 0, 1) := dX10_canDay_33_b.2.2.2.2.1
theorem dX10_canDay_42 : decode cX10_canDay 42 = .ok (.getfield 174, 3) := dX10_canDay_33_b.2.2.2.2.2
set_option maxRecDepth 20000 in
theorem dX10_canDay_45_b : (decode cX10_canDay 45 = .ok (.if_icmp .ge 35, 3)) ∧ (decode cX10_canDay 48 = .ok (.iload 5, 2)) ∧ (decode cX10_canDay 50 = .ok (.ifCond .eq 11, 3)) ∧ (decode cX10_canDay 53 = .ok (.iload_n 3, 1)) ∧ (decode cX10_canDay 54 = .ok (.iload_n 2, 1)) ∧ (decode cX10_canDay 55 = .ok (.if_icmp .ge 25, 3)) := by decide +kernel
theorem dX10_canDay_45 : decode cX10_canDay 45 = .ok (.if_icmp .ge 35, 3) := dX10_canDay_45_b.1
theorem dX10_canDay_48 : decode cX10_canDay 48 = .ok (.iload 5, 2) := dX10_canDay_45_b.2.1
theorem dX10_canDay_50 : decode cX10_canDay 50 = .ok (.ifCond .eq 11, 3) := dX10_canDay_45_b.2.2.1
theorem dX10_canDay_53 : decode cX10_canDay 53 = .ok (.iload_n 3, 1) := dX10_canDay_45_b.2.2.2.1
theorem dX10_canDay_54 : decode cX10_canDay 54 = .ok (.iload_n 2, 1) := dX10_canDay_45_b.2.2.2.2.1
theorem dX10_canDay_55 : decode cX10_canDay 55 = .ok (.if_icmp .ge 25, 3) := dX10_canDay_45_b.2.2.2.2.2
set_option maxRecDepth 20000 in
theorem dX10_canDay_58_b : (decode cX10_canDay 58 = .ok (.goto 18, 3)) ∧ (decode cX10_canDay 61 = .ok (.aload_n 0, 1)) ∧ (decode cX10_canDay 62 = .ok (.getfield 90, 3)) ∧ (decode cX10_canDay 65 = .ok (.iload_n 1, 1)) ∧ (decode cX10_canDay 66 = .ok (.iaload, 1)) ∧ (decode cX10_canDay 67 = .ok (.iload 4, 2)) := by decide +kernel
theorem dX10_canDay_58 : decode cX10_canDay 58 = .ok (.goto 18, 3) := dX10_canDay_58_b.1
theorem dX10_canDay_61 : decode cX10_canDay 61 = .ok (.aload_n 0, 1) := dX10_canDay_58_b.2.1
theorem dX10_canDay_62 : decode cX10_canDay 62 = .ok (.getfield 90, 3) := dX10_canDay_58_b.2.2.1
theorem dX10_canDay_65 : decode cX10_canDay 65 = .ok (.iload_n 1, 1) := dX10_canDay_58_b.2.2.2.1
theorem dX10_canDay_66 : decode cX10_canDay 66 = .ok (.iaload, 1) := dX10_canDay_58_b.2.2.2.2.1
theorem dX10_canDay_67 : decode cX10_canDay 67 = .ok (.iload 4, 2) := dX10_canDay_58_b.2.2.2.2.2
set_option maxRecDepth 20000 in
theorem dX10_canDay_69_b : (decode cX10_canDay 69 = .ok (.ishr, 1)) ∧ (decode cX10_canDay 70 = .ok (.iconst 1, 1)) ∧ (decode cX10_canDay 71 = .ok (.iand, 1)) ∧ (decode cX10_canDay 72 = .ok (.iconst 1, 1)) ∧ (decode cX10_canDay 73 = .ok (.if_icmp .ne 7, 3)) ∧ (decode cX10_canDay 76 = .ok (.iconst 1, 1)) := by decide +kernel
theorem dX10_canDay_69 : decode cX10_canDay 69 = .ok (.ishr, 1) := dX10_canDay_69_b.1
theorem dX10_canDay_70 : decode cX10_canDay 70 = .ok (.iconst 1, 1) := dX10_canDay_69_b.2.1
theorem dX10_canDay_71 : decode cX10_canDay 71 = .ok (.iand, 1) := dX10_canDay_69_b.2.2.1
theorem dX10_canDay_72 : decode cX10_canDay 72 = .ok (.iconst 1, 1) := dX10_canDay_69_b.2.2.2.1
theorem dX10_canDay_73 : decode cX10_canDay 73 = .ok (.if_icmp .ne 7, 3) := dX10_canDay_69_b.2.2.2.2.1
theorem dX10_canDay_76 : decode cX10_canDay 76 = .ok (.iconst 1, 1) := dX10_canDay_69_b.2.2.2.2.2
set_option maxRecDepth 20000 in
theorem dX10_canDay_77_b : (decode cX10_canDay 77 = .ok (.goto 4, 3)) ∧ (decode cX10_canDay 80 = .ok (.iconst 0, 1)) ∧ (decode cX10_canDay 81 = .ok (.istore 6, 2)) ∧ (decode cX10_canDay 83 = .ok (.aload_n 0, 1)) ∧ (decode cX10_canDay 84 = .ok (.getfield 140, 3)) ∧ (decode cX10_canDay 87 = .ok (.iload 4, 2)) := by decide +kernel
theorem dX10_canDay_77 : decode cX10_canDay 77 = .ok (.goto 4, 3) := dX10_canDay_77_b.1
theorem dX10_canDay_80 : decode cX10_canDay 80 = .ok (.iconst 0, 1) := dX10_canDay_77_b.2.1
theorem dX10_canDay_81 : decode cX10_canDay 81 = .ok (.istore 6, 2) := dX10_canDay_77_b.2.2.1
theorem dX10_canDay_83 : decode cX10_canDay 83 = .ok (.aload_n 0, 1) := dX10_canDay_77_b.2.2.2.1
theorem dX10_canDay_84 : decode cX10_canDay 84 = .ok (.getfield 140, 3) := dX10_canDay_77_b.2.2.2.2.1
theorem dX10_canDay_87 : decode cX10_canDay 87 = .ok (.iload 4, 2) := dX10_canDay_77_b.2.2.2.2.2
set_option maxRecDepth 20000 in
theorem dX10_canDay_89_b : (decode cX10_canDay 89 = .ok (.iload 6, 2)) ∧ (decode cX10_canDay 91 = .ok (.ifCond .eq 13, 3)) ∧ (decode cX10_canDay 94 = .ok (.aload_n 0, 1)) ∧ (decode cX10_canDay 95 = .ok (.getfield 62, 3)) ∧ (decode cX10_canDay 98 = .ok (.iload 4, 2)) ∧ (decode cX10_canDay 100 = .ok (.iaload, 1)) := by decide +kernel
theorem dX10_canDay_89 : decode cX10_canDay 89 = .ok (.iload 6, 2) := dX10_canDay_89_b.1
theorem dX10_canDay_91 : decode cX10_canDay 91 = .ok (.ifCond .eq 13, 3) := dX10_canDay_89_b.2.1
theorem dX10_canDay_94 : decode cX10_canDay 94 = .ok (.aload_n 0, 1) := dX10_canDay_89_b.2.2.1
theorem dX10_canDay_95 : decode cX10_canDay 95 = .ok (.getfield 62, 3) := dX10_canDay_89_b.2.2.2.1
theorem dX10_canDay_98 : decode cX10_canDay 98 = .ok (.iload 4, 2) := dX10_canDay_89_b.2.2.2.2.1
theorem dX10_canDay_100 : decode cX10_canDay 100 = .ok (.iaload, 1) := dX10_canDay_89_b.2.2.2.2.2
set_option maxRecDepth 20000 in
theorem dX10_canDay_101_b : (decode cX10_canDay 101 = .ok (.goto 5, 3)) ∧ (decode cX10_canDay 104 = .ok (.bipush 15, 2)) ∧ (decode cX10_canDay 106 = .ok (.iastore, 1)) ∧ (decode cX10_canDay 107 = .ok (.iload_n 3, 1)) ∧ (decode cX10_canDay 108 = .ok (.iload 5, 2)) ∧ (decode cX10_canDay 110 = .ok (.ifCond .eq 7, 3)) := by decide +kernel
theorem dX10_canDay_101 : decode cX10_canDay 101 = .ok (.goto 5, 3) := dX10_canDay_101_b.1
theorem dX10_canDay_104 : decode cX10_canDay 104 = .ok (.bipush 15, 2) := dX10_canDay_101_b.2.1
theorem dX10_canDay_106 : decode cX10_canDay 106 = .ok (.iastore, 1) := dX10_canDay_101_b.2.2.1
theorem dX10_canDay_107 : decode cX10_canDay 107 = .ok (.iload_n 3, 1) := dX10_canDay_101_b.2.2.2.1
theorem dX10_canDay_108 : decode cX10_canDay 108 = .ok (.iload 5, 2) := dX10_canDay_101_b.2.2.2.2.1
theorem dX10_canDay_110 : decode cX10_canDay 110 = .ok (.ifCond .eq 7, 3) := dX10_canDay_101_b.2.2.2.2.2
set_option maxRecDepth 20000 in
theorem dX10_canDay_113_b : (decode cX10_canDay 113 = .ok (.iconst 1, 1)) ∧ (decode cX10_canDay 114 = .ok (.goto 4, 3)) ∧ (decode cX10_canDay 117 = .ok (.iconst 0, 1)) ∧ (decode cX10_canDay 118 = .ok (.iadd, 1)) ∧ (decode cX10_canDay 119 = .ok (.istore_n 3, 1)) ∧ (decode cX10_canDay 120 = .ok (.iinc 4 1, 3)) := by decide +kernel
theorem dX10_canDay_113 : decode cX10_canDay 113 = .ok (.iconst 1, 1) := dX10_canDay_113_b.1
theorem dX10_canDay_114 : decode cX10_canDay 114 = .ok (.goto 4, 3) := dX10_canDay_113_b.2.1
theorem dX10_canDay_117 : decode cX10_canDay 117 = .ok (.iconst 0, 1) := dX10_canDay_113_b.2.2.1
theorem dX10_canDay_118 : decode cX10_canDay 118 = .ok (.iadd, 1) := dX10_canDay_113_b.2.2.2.1
theorem dX10_canDay_119 : decode cX10_canDay 119 = .ok (.istore_n 3, 1) := dX10_canDay_113_b.2.2.2.2.1
theorem dX10_canDay_120 : decode cX10_canDay 120 = .ok (.iinc 4 1, 3) := dX10_canDay_113_b.2.2.2.2.2
set_option maxRecDepth 20000 in
theorem dX10_canDay_123_b : (decode cX10_canDay 123 = .ok (.goto (-118), 3)) ∧ (decode cX10_canDay 126 = .ok (.aload_n 0, 1)) ∧ (decode cX10_canDay 127 = .ok (.aload_n 0, 1)) ∧ (decode cX10_canDay 128 = .ok (.getfield 140, 3)) ∧ (decode cX10_canDay 131 = .ok (.aload_n 0, 1)) ∧ (decode cX10_canDay 132 = .ok (.getfield 54, 3)) := by decide +kernel
theorem dX10_canDay_123 : decode cX10_canDay 123 = .ok (.goto (-118), 3) := dX10_canDay_123_b.1
theorem dX10_canDay_126 : decode cX10_canDay 126 = .ok (.aload_n 0, 1) := dX10_canDay_123_b.2.1
theorem dX10_canDay_127 : decode cX10_canDay 127 = .ok (.aload_n 0, 1) := dX10_canDay_123_b.2.2.1
theorem dX10_canDay_128 : decode cX10_canDay 128 = .ok (.getfield 140, 3) := dX10_canDay_123_b.2.2.2.1
theorem dX10_canDay_131 : decode cX10_canDay 131 = .ok (.aload_n 0, 1) := dX10_canDay_123_b.2.2.2.2.1
theorem dX10_canDay_132 : decode cX10_canDay 132 = .ok (.getfield 54, 3) := dX10_canDay_123_b.2.2.2.2.2
set_option maxRecDepth 20000 in
theorem dX10_canDay_135_b : (decode cX10_canDay 135 = .ok (.iconst 1, 1)) ∧ (decode cX10_canDay 136 = .ok (.iaload, 1)) ∧ (decode cX10_canDay 137 = .ok (.iconst 0, 1)) ∧ (decode cX10_canDay 138 = .ok (.invokevirtual 472, 3)) ∧ (decode cX10_canDay 141 = .ok (.ifCond .ne 6, 3)) ∧ (decode cX10_canDay 144 = .ok (.bipush (-2), 2)) := by decide +kernel
theorem dX10_canDay_135 : decode cX10_canDay 135 = .ok (.iconst 1, 1) := dX10_canDay_135_b.1
theorem dX10_canDay_136 : decode cX10_canDay 136 = .ok (.iaload, 1) := dX10_canDay_135_b.2.1
theorem dX10_canDay_137 : decode cX10_canDay 137 = .ok (.iconst 0, 1) := dX10_canDay_135_b.2.2.1
theorem dX10_canDay_138 : decode cX10_canDay 138 = .ok (.invokevirtual 472, 3) := dX10_canDay_135_b.2.2.2.1
theorem dX10_canDay_141 : decode cX10_canDay 141 = .ok (.ifCond .ne 6, 3) := dX10_canDay_135_b.2.2.2.2.1
theorem dX10_canDay_144 : decode cX10_canDay 144 = .ok (.bipush (-2), 2) := dX10_canDay_135_b.2.2.2.2.2
set_option maxRecDepth 20000 in
theorem dX10_canDay_146_b : (decode cX10_canDay 146 = .ok (.ireturn, 1)) ∧ (decode cX10_canDay 147 = .ok (.aload_n 0, 1)) ∧ (decode cX10_canDay 148 = .ok (.invokevirtual 476, 3)) ∧ (decode cX10_canDay 151 = .ok (.iconst (-1), 1)) ∧ (decode cX10_canDay 152 = .ok (.if_icmp .ne 7, 3)) ∧ (decode cX10_canDay 155 = .ok (.iconst 0, 1)) := by decide +kernel
theorem dX10_canDay_146 : decode cX10_canDay 146 = .ok (.ireturn, 1) := dX10_canDay_146_b.1
theorem dX10_canDay_147 : decode cX10_canDay 147 = .ok (.aload_n 0, 1) := dX10_canDay_146_b.2.1
theorem dX10_canDay_148 : decode cX10_canDay 148 = .ok (.invokevirtual 476, 3) := dX10_canDay_146_b.2.2.1
theorem dX10_canDay_151 : decode cX10_canDay 151 = .ok (.iconst (-1), 1) := dX10_canDay_146_b.2.2.2.1
theorem dX10_canDay_152 : decode cX10_canDay 152 = .ok (.if_icmp .ne 7, 3) := dX10_canDay_146_b.2.2.2.2.1
theorem dX10_canDay_155 : decode cX10_canDay 155 = .ok (.iconst 0, 1) := dX10_canDay_146_b.2.2.2.2.2
set_option maxRecDepth 20000 in
theorem dX10_canDay_156_b : (decode cX10_canDay 156 = .ok (.goto 4, 3)) ∧ (decode cX10_canDay 159 = .ok (.iconst 1, 1)) ∧ (decode cX10_canDay 160 = .ok (.ireturn, 1)) := by decide +kernel
theorem dX10_canDay_156 : decode cX10_canDay 156 = .ok (.goto 4, 3) := dX10_canDay_156_b.1
theorem dX10_canDay_159 : decode cX10_canDay 159 = .ok (.iconst 1, 1) := dX10_canDay_156_b.2.1
theorem dX10_canDay_160 : decode cX10_canDay 160 = .ok (.ireturn, 1) := dX10_canDay_156_b.2.2
set_option maxRecDepth 20000 in
theorem ggX10_enough_X10_fail : GoodIn wsX10_enough wsX10_fail := goodIn_r _ [7, 1, 152, 153, 154, 155, 156, 157, 158, 159, 160, 161, 162, 163, 164, 165, 166, 167, 168, 169, 170, 171, 172, 173, 174, 175, 176, 177, 178, 179, 180, 181, 182, 183, 184, 185, 186, 187, 188, 189, 190, 191, 192, 193, 194, 195, 196, 197, 198, 199, 200, 201, 202, 203, 204, 205, 206, 207, 208, 209, 210, 211, 212, 213, 214, 215, 216, 217, 218, 219, 220, 221, 222] (by decide +kernel) (by decide +kernel)
set_option maxRecDepth 20000 in
theorem gX10_enough_X10_fail : GoodIn wsX10_enough (wsV RX10 315 RX10 yX10_fail wsX10_fail) := goodIn_app (goodIn_of _ (by decide +kernel)) ggX10_enough_X10_fail
set_option maxRecDepth 20000 in
theorem ggX10_enough_X10_stonesOf : GoodIn wsX10_enough wsX10_stonesOf := goodIn_r _ [11, 12, 13, 152, 153, 154, 155, 156, 157, 158, 159, 160, 161, 162, 163, 164, 165, 166, 167, 168, 169, 170, 171, 172, 173, 174, 175, 176, 177, 178, 179, 180, 181, 182, 183, 184, 185, 186, 187, 188, 189, 190, 191, 192, 193, 194, 195, 196, 197, 198, 199, 200, 201, 202, 203, 204, 205, 206, 207, 208, 209, 210, 211, 212, 213, 214, 215, 216, 217, 218, 219, 220, 221, 222] (by decide +kernel) (by decide +kernel)
set_option maxRecDepth 20000 in
theorem gX10_enough_X10_stonesOf : GoodIn wsX10_enough (wsV RX10 485 RX10 yX10_stonesOf wsX10_stonesOf) := goodIn_app (goodIn_of _ (by decide +kernel)) ggX10_enough_X10_stonesOf
set_option maxRecDepth 20000 in
theorem ggX10_enough_X10_canDay : GoodIn wsX10_enough wsX10_canDay := goodIn_r _ [17, 12, 13, 18, 19, 20, 21, 22, 23, 24, 6, 25, 26, 27, 28, 29, 30, 31, 32, 33, 34, 35, 36, 37, 38, 39, 40, 41, 42, 43, 44, 45, 46, 47, 48, 49, 50, 51, 52, 53, 54, 55, 56, 57, 58, 59, 60, 61, 62, 63, 64, 65, 66, 67, 68, 69, 70, 71, 72, 73, 74, 75, 76, 77, 78, 79, 80, 81, 82, 83, 84, 85, 86, 87, 88, 89, 90, 91, 92, 93, 94, 95, 96, 97, 98, 99, 100, 101, 102, 103, 104, 105, 106, 107, 108, 109, 110, 111, 112, 113, 114, 115, 116, 117, 118, 119, 120, 121, 122, 123, 124, 125, 126, 127, 128, 129, 130, 131, 132, 133, 134, 135, 136, 137, 138, 139, 140, 141, 142, 143, 144, 145, 146, 147, 148, 149, 150, 151, 152, 153, 154, 155, 156, 157, 158, 159, 160, 161, 162, 163, 164, 165, 166, 167, 168, 169, 170, 171, 172, 173, 174, 175, 176, 177, 178, 179, 180, 181, 182, 183, 184, 185, 186, 187, 188, 189, 190, 191, 192, 193, 194, 195, 196, 197, 198, 199, 200, 201, 202, 203, 204, 205, 206, 207, 208, 209, 210, 211, 212, 213, 214, 215, 216, 217, 218, 219, 220, 221, 222] (by decide +kernel) (by decide +kernel)
set_option maxRecDepth 20000 in
theorem gX10_enough_X10_canDay : GoodIn wsX10_enough (wsV RX10 488 RX10 yX10_canDay wsX10_canDay) := goodIn_app (goodIn_of _ (by decide +kernel)) ggX10_enough_X10_canDay
set_option maxRecDepth 20000 in
theorem dX10_enough_0_b : (decode cX10_enough 0 = .ok (.aload_n 0, 1)) ∧ (decode cX10_enough 1 = .ok (.iconst 0, 1)) ∧ (decode cX10_enough 2 = .ok (.putfield 171, 3)) ∧ (decode cX10_enough 5 = .ok (.iload_n 1, 1)) ∧ (decode cX10_enough 6 = .ok (.ifCond .lt 8, 3)) ∧ (decode cX10_enough 9 = .ok (.iload_n 1, 1)) := by decide +kernel
theorem dX10_enough_0 : decode cX10_enough 0 = .ok (.aload_n 0, 1) := dX10_enough_0_b.1
theorem dX10_enough_1 : decode cX10_enough 1 = .ok (.iconst 0, 1) := dX10_enough_0_b.2.1
theorem dX10_enough_2 : decode cX10_enough 2 = .ok (.putfield 171, 3) := dX10_enough_0_b.2.2.1
theorem dX10_enough_5 : decode cX10_enough 5 = .ok (.iload_n 1, 1) := dX10_enough_0_b.2.2.2.1
theorem dX10_enough_6 : decode cX10_enough 6 = .ok (.ifCond .lt 8, 3) := dX10_enough_0_b.2.2.2.2.1
theorem dX10_enough_9 : decode cX10_enough 9 = .ok (.iload_n 1, 1) := dX10_enough_0_b.2.2.2.2.2
set_option maxRecDepth 20000 in
theorem dX10_enough_10_b : (decode cX10_enough 10 = .ok (.iconst 1, 1)) ∧ (decode cX10_enough 11 = .ok (.if_icmp .le 9, 3)) ∧ (decode cX10_enough 14 = .ok (.aload_n 0, 1)) ∧ (decode cX10_enough 15 = .ok (.iconst 1, 1)) ∧ (decode cX10_enough 16 = .ok (.invokevirtual 315, 3)) ∧ (decode cX10_enough 19 = .ok (.ireturn, 1)) := by decide +kernel
theorem dX10_enough_10 : decode cX10_enough 10 = .ok (.iconst 1, 1) := dX10_enough_10_b.1
theorem dX10_enough_11 : decode cX10_enough 11 = .ok (.if_icmp .le 9, 3) := dX10_enough_10_b.2.1
theorem dX10_enough_14 : decode cX10_enough 14 = .ok (.aload_n 0, 1) := dX10_enough_10_b.2.2.1
theorem dX10_enough_15 : decode cX10_enough 15 = .ok (.iconst 1, 1) := dX10_enough_10_b.2.2.2.1
theorem dX10_enough_16 : decode cX10_enough 16 = .ok (.invokevirtual 315, 3) := dX10_enough_10_b.2.2.2.2.1
theorem dX10_enough_19 : decode cX10_enough 19 = .ok (.ireturn, 1) := dX10_enough_10_b.2.2.2.2.2
set_option maxRecDepth 20000 in
theorem dX10_enough_20_b : (decode cX10_enough 20 = .ok (.iconst (-1), 1)) ∧ (decode cX10_enough 21 = .ok (.istore_n 2, 1)) ∧ (decode cX10_enough 22 = .ok (.iconst 0, 1)) ∧ (decode cX10_enough 23 = .ok (.istore_n 3, 1)) ∧ (decode cX10_enough 24 = .ok (.iload_n 3, 1)) ∧ (decode cX10_enough 25 = .ok (.aload_n 0, 1)) := by decide +kernel
theorem dX10_enough_20 : decode cX10_enough 20 = .ok (.iconst (-1), 1) := dX10_enough_20_b.1
theorem dX10_enough_21 : decode cX10_enough 21 = .ok (.istore_n 2, 1) := dX10_enough_20_b.2.1
theorem dX10_enough_22 : decode cX10_enough 22 = .ok (.iconst 0, 1) := dX10_enough_20_b.2.2.1
theorem dX10_enough_23 : decode cX10_enough 23 = .ok (.istore_n 3, 1) := dX10_enough_20_b.2.2.2.1
theorem dX10_enough_24 : decode cX10_enough 24 = .ok (.iload_n 3, 1) := dX10_enough_20_b.2.2.2.2.1
theorem dX10_enough_25 : decode cX10_enough 25 = .ok (.aload_n 0, 1) := dX10_enough_20_b.2.2.2.2.2
set_option maxRecDepth 20000 in
theorem dX10_enough_26_b : (decode cX10_enough 26 = .ok (.invokevirtual 485, 3)) ∧ (decode cX10_enough 29 = .ok (.if_icmp .gt 87, 3)) ∧ (decode cX10_enough 32 = .ok (.iconst 0, 1)) ∧ (decode cX10_enough 33 = .ok (.istore 4, 2)) ∧ (decode cX10_enough 35 = .ok (.iconst 1, 1)) ∧ (decode cX10_enough 36 = .ok (.istore 5, 2)) := by decide +kernel
theorem dX10_enough_26 : decode cX10_enough 26 = .ok (.invokevirtual 485, 3) := dX10_enough_26_b.1
theorem dX10_enough_29 : decode cX10_enough 29 = .ok (.if_icmp .gt 87, 3) := dX10_enough_26_b.2.1
theorem dX10_enough_32 : decode cX10_enough 32 = .ok (.iconst 0, 1) := dX10_enough_26_b.2.2.1
theorem dX10_enough_33 : decode cX10_enough 33 = .ok (.istore 4, 2) := dX10_enough_26_b.2.2.2.1
theorem dX10_enough_35 : decode cX10_enough 35 = .ok (.iconst 1, 1) := dX10_enough_26_b.2.2.2.2.1
theorem dX10_enough_36 : decode cX10_enough 36 = .ok (.istore 5, 2) := dX10_enough_26_b.2.2.2.2.2
set_option maxRecDepth 20000 in
theorem dX10_enough_38_b : (decode cX10_enough 38 = .ok (.iload 4, 2)) ∧ (decode cX10_enough 40 = .ok (.aload_n 0, 1)) ∧ (decode cX10_enough 41 = .ok (.getfield 336, 3)) ∧ (decode cX10_enough 44 = .ok (.if_icmp .ge 37, 3)) ∧ (decode cX10_enough 47 = .ok (.iload 5, 2)) ∧ (decode cX10_enough 49 = .ok (.iconst 1, 1)) := by decide +kernel
theorem dX10_enough_38 : decode cX10_enough 38 = .ok (.iload 4, 2) := dX10_enough_38_b.1
theorem dX10_enough_40 : decode cX10_enough 40 = .ok (.aload_n 0, 1) := dX10_enough_38_b.2.1
theorem dX10_enough_41 : decode cX10_enough 41 = .ok (.getfield 336, 3) := dX10_enough_38_b.2.2.1
theorem dX10_enough_44 : decode cX10_enough 44 = .ok (.if_icmp .ge 37, 3) := dX10_enough_38_b.2.2.2.1
theorem dX10_enough_47 : decode cX10_enough 47 = .ok (.iload 5, 2) := dX10_enough_38_b.2.2.2.2.1
theorem dX10_enough_49 : decode cX10_enough 49 = .ok (.iconst 1, 1) := dX10_enough_38_b.2.2.2.2.2
set_option maxRecDepth 20000 in
theorem dX10_enough_50_b : (decode cX10_enough 50 = .ok (.if_icmp .ne 31, 3)) ∧ (decode cX10_enough 53 = .ok (.aload_n 0, 1)) ∧ (decode cX10_enough 54 = .ok (.iload 4, 2)) ∧ (decode cX10_enough 56 = .ok (.iload_n 3, 1)) ∧ (decode cX10_enough 57 = .ok (.invokevirtual 488, 3)) ∧ (decode cX10_enough 60 = .ok (.istore 5, 2)) := by decide +kernel
theorem dX10_enough_50 : decode cX10_enough 50 = .ok (.if_icmp .ne 31, 3) := dX10_enough_50_b.1
theorem dX10_enough_53 : decode cX10_enough 53 = .ok (.aload_n 0, 1) := dX10_enough_50_b.2.1
theorem dX10_enough_54 : decode cX10_enough 54 = .ok (.iload 4, 2) := dX10_enough_50_b.2.2.1
theorem dX10_enough_56 : decode cX10_enough 56 = .ok (.iload_n 3, 1) := dX10_enough_50_b.2.2.2.1
theorem dX10_enough_57 : decode cX10_enough 57 = .ok (.invokevirtual 488, 3) := dX10_enough_50_b.2.2.2.2.1
theorem dX10_enough_60 : decode cX10_enough 60 = .ok (.istore 5, 2) := dX10_enough_50_b.2.2.2.2.2
set_option maxRecDepth 20000 in
theorem dX10_enough_62_b : (decode cX10_enough 62 = .ok (.iload 4, 2)) ∧ (decode cX10_enough 64 = .ok (.iload 5, 2)) ∧ (decode cX10_enough 66 = .ok (.iconst 1, 1)) ∧ (decode cX10_enough 67 = .ok (.if_icmp .ne 7, 3)) ∧ (decode cX10_enough 70 = .ok (.iconst 1, 1)) ∧ (decode cX10_enough 71 = .ok (.goto 4, 3)) := by decide +kernel
theorem dX10_enough_62 : decode cX10_enough 62 = .ok (.iload 4, 2) := dX10_enough_62_b.1
theorem dX10_enough_64 : decode cX10_enough 64 = .ok (.iload 5, 2) := dX10_enough_62_b.2.1
theorem dX10_enough_66 : decode cX10_enough 66 = .ok (.iconst 1, 1) := dX10_enough_62_b.2.2.1
theorem dX10_enough_67 : decode cX10_enough 67 = .ok (.if_icmp .ne 7, 3) := dX10_enough_62_b.2.2.2.1
theorem dX10_enough_70 : decode cX10_enough 70 = .ok (.iconst 1, 1) := dX10_enough_62_b.2.2.2.2.1
theorem dX10_enough_71 : decode cX10_enough 71 = .ok (.goto 4, 3) := dX10_enough_62_b.2.2.2.2.2
set_option maxRecDepth 20000 in
theorem dX10_enough_74_b : (decode cX10_enough 74 = .ok (.iconst 0, 1)) ∧ (decode cX10_enough 75 = .ok (.iadd, 1)) ∧ (decode cX10_enough 76 = .ok (.istore 4, 2)) ∧ (decode cX10_enough 78 = .ok (.goto (-40), 3)) ∧ (decode cX10_enough 81 = .ok (.iload 5, 2)) ∧ (decode cX10_enough 83 = .ok (.bipush (-2), 2)) := by decide +kernel
theorem dX10_enough_74 : decode cX10_enough 74 = .ok (.iconst 0, 1) := dX10_enough_74_b.1
theorem dX10_enough_75 : decode cX10_enough 75 = .ok (.iadd, 1) := dX10_enough_74_b.2.1
theorem dX10_enough_76 : decode cX10_enough 76 = .ok (.istore 4, 2) := dX10_enough_74_b.2.2.1
theorem dX10_enough_78 : decode cX10_enough 78 = .ok (.goto (-40), 3) := dX10_enough_74_b.2.2.2.1
theorem dX10_enough_81 : decode cX10_enough 81 = .ok (.iload 5, 2) := dX10_enough_74_b.2.2.2.2.1
theorem dX10_enough_83 : decode cX10_enough 83 = .ok (.bipush (-2), 2) := dX10_enough_74_b.2.2.2.2.2
theorem dX10_enough_85 : decode cX10_enough 85 = .ok (.if_icmp .ne 6, 3) := by decide +kernel
