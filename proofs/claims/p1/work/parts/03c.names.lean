theorem dX9_init_54 : decode cX9_init 54 = .ok (.invokespecial 32, 3) := by decide +kernel
theorem dX9_init_57 : decode cX9_init 57 = .ok (.putfield 35, 3) := by decide +kernel
theorem dX9_init_60 : decode cX9_init 60 = .ok (.aload_n 0, 1) := by decide +kernel
theorem dX9_init_61 : decode cX9_init 61 = .ok (.new 39, 3) := by decide +kernel
theorem dX9_init_64 : decode cX9_init 64 = .ok (.dup, 1) := by decide +kernel
theorem dX9_init_65 : decode cX9_init 65 = .ok (.invokespecial 41, 3) := by decide +kernel
theorem dX9_init_68 : decode cX9_init 68 = .ok (.putfield 42, 3) := by decide +kernel
theorem dX9_init_71 : decode cX9_init 71 = .ok (.aload_n 0, 1) := by decide +kernel
theorem dX9_init_72 : decode cX9_init 72 = .ok (.new 39, 3) := by decide +kernel
theorem dX9_init_75 : decode cX9_init 75 = .ok (.dup, 1) := by decide +kernel
theorem dX9_init_76 : decode cX9_init 76 = .ok (.invokespecial 41, 3) := by decide +kernel
theorem dX9_init_79 : decode cX9_init 79 = .ok (.putfield 46, 3) := by decide +kernel
theorem dX9_init_82 : decode cX9_init 82 = .ok (.aload_n 0, 1) := by decide +kernel
theorem dX9_init_83 : decode cX9_init 83 = .ok (.iconst 0, 1) := by decide +kernel
theorem dX9_init_84 : decode cX9_init 84 = .ok (.putfield 49, 3) := by decide +kernel
theorem dX9_init_87 : decode cX9_init 87 = .ok (.aload_n 0, 1) := by decide +kernel
theorem dX9_init_88 : decode cX9_init 88 = .ok (.new 53, 3) := by decide +kernel
theorem dX9_init_91 : decode cX9_init 91 = .ok (.dup, 1) := by decide +kernel
theorem dX9_init_92 : decode cX9_init 92 = .ok (.aload_n 0, 1) := by decide +kernel
theorem dX9_init_93 : decode cX9_init 93 = .ok (.getfield 23, 3) := by decide +kernel
theorem dX9_init_96 : decode cX9_init 96 = .ok (.invokespecial 55, 3) := by decide +kernel
theorem dX9_init_99 : decode cX9_init 99 = .ok (.putfield 56, 3) := by decide +kernel
theorem dX9_init_102 : decode cX9_init 102 = .ok (.aload_n 0, 1) := by decide +kernel
theorem dX9_init_103 : decode cX9_init 103 = .ok (.sipush 128, 3) := by decide +kernel
theorem dX9_init_106 : decode cX9_init 106 = .ok (.newarray .int, 2) := by decide +kernel
theorem dX9_init_108 : decode cX9_init 108 = .ok (.putfield 60, 3) := by decide +kernel
theorem dX9_init_111 : decode cX9_init 111 = .ok (.aload_n 0, 1) := by decide +kernel
theorem dX9_init_112 : decode cX9_init 112 = .ok (.getfield 42, 3) := by decide +kernel
theorem dX9_init_115 : decode cX9_init 115 = .ok (.aload_n 0, 1) := by decide +kernel
theorem dX9_init_116 : decode cX9_init 116 = .ok (.getfield 23, 3) := by decide +kernel
theorem dX9_init_119 : decode cX9_init 119 = .ok (.invokevirtual 64, 3) := by decide +kernel
theorem dX9_init_122 : decode cX9_init 122 = .ok (.invokevirtual 68, 3) := by decide +kernel
theorem dX9_init_125 : decode cX9_init 125 = .ok (.return_, 1) := by decide +kernel
set_option maxRecDepth 20000 in
theorem ggX9_feed_X9_append : GoodIn wsX9_feed wsX9_append := goodIn_r _ [6, 1, 7, 8, 9, 10, 11, 12, 13, 14, 15, 16, 17, 18] (by decide +kernel) (by decide +kernel)
set_option maxRecDepth 20000 in
theorem gX9_feed_X9_append : GoodIn wsX9_feed (wsV RX9 72 RX9 yX9_append wsX9_append) := goodIn_app (goodIn_of _ (by decide +kernel)) ggX9_feed_X9_append
theorem dX9_feed_0 : decode cX9_feed 0 = .ok (.aload_n 0, 1) := by decide +kernel
theorem dX9_feed_1 : decode cX9_feed 1 = .ok (.getfield 13, 3) := by decide +kernel
theorem dX9_feed_4 : decode cX9_feed 4 = .ok (.bipush 20, 2) := by decide +kernel
theorem dX9_feed_6 : decode cX9_feed 6 = .ok (.iadd, 1) := by decide +kernel
theorem dX9_feed_7 : decode cX9_feed 7 = .ok (.sipush 600, 3) := by decide +kernel
theorem dX9_feed_10 : decode cX9_feed 10 = .ok (.if_icmp .le 5, 3) := by decide +kernel
theorem dX9_feed_15 : decode cX9_feed 15 = .ok (.aload_n 0, 1) := by decide +kernel
theorem dX9_feed_16 : decode cX9_feed 16 = .ok (.iload_n 1, 1) := by decide +kernel
theorem dX9_feed_17 : decode cX9_feed 17 = .ok (.invokevirtual 72, 3) := by decide +kernel
theorem dX9_feed_20 : decode cX9_feed 20 = .ok (.aload_n 0, 1) := by decide +kernel
theorem dX9_feed_21 : decode cX9_feed 21 = .ok (.iload_n 2, 1) := by decide +kernel
theorem dX9_feed_22 : decode cX9_feed 22 = .ok (.invokevirtual 72, 3) := by decide +kernel
theorem dX9_feed_25 : decode cX9_feed 25 = .ok (.aload_n 0, 1) := by decide +kernel
theorem dX9_feed_26 : decode cX9_feed 26 = .ok (.iload_n 3, 1) := by decide +kernel
theorem dX9_feed_27 : decode cX9_feed 27 = .ok (.invokevirtual 72, 3) := by decide +kernel
theorem dX9_feed_30 : decode cX9_feed 30 = .ok (.aload_n 0, 1) := by decide +kernel
theorem dX9_feed_31 : decode cX9_feed 31 = .ok (.iload 4, 2) := by decide +kernel
theorem dX9_feed_33 : decode cX9_feed 33 = .ok (.invokevirtual 72, 3) := by decide +kernel
theorem dX9_feed_36 : decode cX9_feed 36 = .ok (.aload_n 0, 1) := by decide +kernel
theorem dX9_feed_37 : decode cX9_feed 37 = .ok (.iload 5, 2) := by decide +kernel
theorem dX9_feed_39 : decode cX9_feed 39 = .ok (.invokevirtual 72, 3) := by decide +kernel
theorem dX9_feed_42 : decode cX9_feed 42 = .ok (.aload_n 0, 1) := by decide +kernel
theorem dX9_feed_43 : decode cX9_feed 43 = .ok (.getfield 13, 3) := by decide +kernel
theorem dX9_feed_46 : decode cX9_feed 46 = .ok (.ireturn, 1) := by decide +kernel
theorem dX9_append_0 : decode cX9_append 0 = .ok (.bipush 24, 2) := by decide +kernel
theorem dX9_append_2 : decode cX9_append 2 = .ok (.istore_n 2, 1) := by decide +kernel
theorem dX9_append_3 : decode cX9_append 3 = .ok (.iload_n 2, 1) := by decide +kernel
theorem dX9_append_4 : decode cX9_append 4 = .ok (.ifCond .lt 42, 3) := by decide +kernel
theorem dX9_append_7 : decode cX9_append 7 = .ok (.aload_n 0, 1) := by decide +kernel
theorem dX9_append_8 : decode cX9_append 8 = .ok (.getfield 13, 3) := by decide +kernel
theorem dX9_append_11 : decode cX9_append 11 = .ok (.sipush 600, 3) := by decide +kernel
theorem dX9_append_14 : decode cX9_append 14 = .ok (.if_icmp .ge 32, 3) := by decide +kernel
theorem dX9_append_17 : decode cX9_append 17 = .ok (.aload_n 0, 1) := by decide +kernel
theorem dX9_append_18 : decode cX9_append 18 = .ok (.getfield 9, 3) := by decide +kernel
theorem dX9_append_21 : decode cX9_append 21 = .ok (.aload_n 0, 1) := by decide +kernel
theorem dX9_append_22 : decode cX9_append 22 = .ok (.getfield 13, 3) := by decide +kernel
theorem dX9_append_25 : decode cX9_append 25 = .ok (.iload_n 1, 1) := by decide +kernel
theorem dX9_append_26 : decode cX9_append 26 = .ok (.iload_n 2, 1) := by decide +kernel
theorem dX9_append_27 : decode cX9_append 27 = .ok (.ishr, 1) := by decide +kernel
theorem dX9_append_28 : decode cX9_append 28 = .ok (.i2b, 1) := by decide +kernel
theorem dX9_append_29 : decode cX9_append 29 = .ok (.bastore, 1) := by decide +kernel
theorem dX9_append_30 : decode cX9_append 30 = .ok (.aload_n 0, 1) := by decide +kernel
theorem dX9_append_31 : decode cX9_append 31 = .ok (.dup, 1) := by decide +kernel
theorem dX9_append_32 : decode cX9_append 32 = .ok (.getfield 13, 3) := by decide +kernel
theorem dX9_append_35 : decode cX9_append 35 = .ok (.iconst 1, 1) := by decide +kernel
theorem dX9_append_36 : decode cX9_append 36 = .ok (.iadd, 1) := by decide +kernel
theorem dX9_append_37 : decode cX9_append 37 = .ok (.putfield 13, 3) := by decide +kernel
theorem dX9_append_40 : decode cX9_append 40 = .ok (.iinc 2 (-8), 3) := by decide +kernel
theorem dX9_append_43 : decode cX9_append 43 = .ok (.goto (-40), 3) := by decide +kernel
theorem dX9_append_46 : decode cX9_append 46 = .ok (.return_, 1) := by decide +kernel
set_option maxRecDepth 20000 in
theorem ggX9_town_X2_read : GoodIn wsX9_town wsX2_read := goodIn_r _ [15, 16, 17, 18, 19, 20, 21, 22, 23, 24, 25, 26, 27, 28, 29, 30, 31, 32, 33, 34, 35, 36, 37, 38, 39, 40, 41, 42, 43, 44, 45, 46, 47, 48, 49, 50, 51, 52, 53, 54, 55, 56, 57, 58, 59, 60, 61, 62, 63, 64, 65, 66, 67, 68, 69, 70, 71, 72, 73, 74, 75, 76, 77, 78, 79, 80, 81, 82, 83, 84, 85, 86, 87, 88, 89, 90, 91, 92, 93, 94, 95, 96, 97, 98, 99, 100, 101, 102, 103, 104, 105, 106, 107, 108, 109, 110, 111, 112, 113, 114, 115, 116, 117, 118, 119, 120, 121, 122, 123, 124, 125, 126, 127, 128, 129, 13, 130, 131, 132, 133, 134, 135, 136, 137, 138, 139, 140, 141, 142, 143, 144, 145, 146, 147, 148, 149, 150, 151, 152, 153, 154, 155, 156, 157, 158, 159, 160, 161, 162, 163, 164, 165, 166, 167, 168, 169, 170, 171, 172, 173, 174, 175, 176, 177, 178, 179, 180, 181, 182, 183, 184, 185, 186, 187, 188, 189, 190, 191, 192, 193, 194, 195, 196, 197, 198, 199, 200, 201, 202, 203, 204, 205, 206, 207, 208, 209, 210, 211, 212, 213, 255, 256, 257, 258, 259, 272, 273, 274, 275, 276, 277, 278, 279, 280, 281, 282, 283, 284, 285, 286, 287, 288, 289, 290, 291, 292, 293, 294, 295, 296, 297, 298] (by decide +kernel) (by decide +kernel)
set_option maxRecDepth 20000 in
theorem gX9_town_X2_read_n82 : GoodIn wsX9_town (wsX2_read) := ggX9_town_X2_read
set_option maxRecDepth 20000 in
theorem ggX9_town_X3_firstState : GoodIn wsX9_town wsX3_firstState := goodIn_r _ [216, 217, 26, 32, 218, 219, 220, 221, 222, 223, 224, 280, 281, 282, 283, 284, 285, 286, 287, 288, 289, 290, 291, 292, 293] (by decide +kernel) (by decide +kernel)
set_option maxRecDepth 20000 in
theorem gX9_town_X3_firstState_n64 : GoodIn wsX9_town (wsX3_firstState) := ggX9_town_X3_firstState
set_option maxRecDepth 20000 in
theorem ggX9_town_X1_begin : GoodIn wsX9_town wsX1_begin := goodIn_r _ [228, 229, 230, 231, 232, 233, 260, 261, 262, 263, 264, 265, 266, 267, 268, 269, 270, 271] (by decide +kernel) (by decide +kernel)
set_option maxRecDepth 20000 in
theorem gX9_town_X1_begin_n68 : GoodIn wsX9_town (wsX1_begin) := ggX9_town_X1_begin
set_option maxRecDepth 20000 in
theorem ggX9_town_X6_forget : GoodIn wsX9_town wsX6_forget := goodIn_r _ [237, 238, 239, 240, 241, 242, 243, 299, 300, 301, 302, 303, 304, 305, 306, 307, 308, 309, 310, 311, 312, 313] (by decide +kernel) (by decide +kernel)
set_option maxRecDepth 20000 in
theorem gX9_town_X6_forget_n90 : GoodIn wsX9_town (wsX6_forget) := ggX9_town_X6_forget
theorem dX9_town_0 : decode cX9_town 0 = .ok (.iload_n 1, 1) := by decide +kernel
theorem dX9_town_1 : decode cX9_town 1 = .ok (.ifCond .lt 11, 3) := by decide +kernel
theorem dX9_town_4 : decode cX9_town 4 = .ok (.iload_n 1, 1) := by decide +kernel
theorem dX9_town_5 : decode cX9_town 5 = .ok (.aload_n 0, 1) := by decide +kernel
theorem dX9_town_6 : decode cX9_town 6 = .ok (.getfield 13, 3) := by decide +kernel
theorem dX9_town_9 : decode cX9_town 9 = .ok (.if_icmp .le 13, 3) := by decide +kernel
theorem dX9_town_22 : decode cX9_town 22 = .ok (.aload_n 0, 1) := by decide +kernel
theorem dX9_town_23 : decode cX9_town 23 = .ok (.iconst 0, 1) := by decide +kernel
theorem dX9_town_24 : decode cX9_town 24 = .ok (.putfield 13, 3) := by decide +kernel
theorem dX9_town_27 : decode cX9_town 27 = .ok (.aload_n 0, 1) := by decide +kernel
theorem dX9_town_28 : decode cX9_town 28 = .ok (.getfield 35, 3) := by decide +kernel
theorem dX9_town_31 : decode cX9_town 31 = .ok (.aload_n 0, 1) := by decide +kernel
theorem dX9_town_32 : decode cX9_town 32 = .ok (.getfield 9, 3) := by decide +kernel
theorem dX9_town_35 : decode cX9_town 35 = .ok (.iload_n 1, 1) := by decide +kernel
theorem dX9_town_36 : decode cX9_town 36 = .ok (.aload_n 0, 1) := by decide +kernel
theorem dX9_town_37 : decode cX9_town 37 = .ok (.getfield 27, 3) := by decide +kernel
theorem dX9_town_40 : decode cX9_town 40 = .ok (.invokevirtual 82, 3) := by decide +kernel
theorem dX9_town_43 : decode cX9_town 43 = .ok (.istore_n 2, 1) := by decide +kernel
theorem dX9_town_44 : decode cX9_town 44 = .ok (.aload_n 0, 1) := by decide +kernel
theorem dX9_town_45 : decode cX9_town 45 = .ok (.aload_n 0, 1) := by decide +kernel
theorem dX9_town_46 : decode cX9_town 46 = .ok (.getfield 35, 3) := by decide +kernel
theorem dX9_town_49 : decode cX9_town 49 = .ok (.getfield 86, 3) := by decide +kernel
theorem dX9_town_52 : decode cX9_town 52 = .ok (.putfield 17, 3) := by decide +kernel
theorem dX9_town_55 : decode cX9_town 55 = .ok (.iload_n 2, 1) := by decide +kernel
theorem dX9_town_56 : decode cX9_town 56 = .ok (.ifCond .eq 18, 3) := by decide +kernel
theorem dX9_town_74 : decode cX9_town 74 = .ok (.aload_n 0, 1) := by decide +kernel
theorem dX9_town_75 : decode cX9_town 75 = .ok (.getfield 27, 3) := by decide +kernel
theorem dX9_town_78 : decode cX9_town 78 = .ok (.astore_n 3, 1) := by decide +kernel
theorem dX9_town_79 : decode cX9_town 79 = .ok (.aload_n 0, 1) := by decide +kernel
theorem dX9_town_80 : decode cX9_town 80 = .ok (.aload_n 0, 1) := by decide +kernel
theorem dX9_town_81 : decode cX9_town 81 = .ok (.getfield 23, 3) := by decide +kernel
theorem dX9_town_84 : decode cX9_town 84 = .ok (.putfield 27, 3) := by decide +kernel
theorem dX9_town_87 : decode cX9_town 87 = .ok (.aload_n 0, 1) := by decide +kernel
theorem dX9_town_88 : decode cX9_town 88 = .ok (.aload_n 3, 1) := by decide +kernel
theorem dX9_town_89 : decode cX9_town 89 = .ok (.putfield 23, 3) := by decide +kernel
theorem dX9_town_92 : decode cX9_town 92 = .ok (.aload_n 0, 1) := by decide +kernel
theorem dX9_town_93 : decode cX9_town 93 = .ok (.getfield 42, 3) := by decide +kernel
theorem dX9_town_96 : decode cX9_town 96 = .ok (.aload_n 0, 1) := by decide +kernel
theorem dX9_town_97 : decode cX9_town 97 = .ok (.getfield 23, 3) := by decide +kernel
theorem dX9_town_100 : decode cX9_town 100 = .ok (.invokevirtual 64, 3) := by decide +kernel
theorem dX9_town_103 : decode cX9_town 103 = .ok (.invokevirtual 68, 3) := by decide +kernel
theorem dX9_town_106 : decode cX9_town 106 = .ok (.aload_n 0, 1) := by decide +kernel
theorem dX9_town_107 : decode cX9_town 107 = .ok (.iconst 0, 1) := by decide +kernel
theorem dX9_town_108 : decode cX9_town 108 = .ok (.putfield 49, 3) := by decide +kernel
theorem dX9_town_111 : decode cX9_town 111 = .ok (.aload_n 0, 1) := by decide +kernel
theorem dX9_town_112 : decode cX9_town 112 = .ok (.getfield 56, 3) := by decide +kernel
theorem dX9_town_115 : decode cX9_town 115 = .ok (.invokevirtual 90, 3) := by decide +kernel
theorem dX9_town_118 : decode cX9_town 118 = .ok (.iconst 0, 1) := by decide +kernel
theorem dX9_town_119 : decode cX9_town 119 = .ok (.ireturn, 1) := by decide +kernel
theorem dX9_fault_0 : decode cX9_fault 0 = .ok (.aload_n 0, 1) := by decide +kernel
theorem dX9_fault_1 : decode cX9_fault 1 = .ok (.getfield 17, 3) := by decide +kernel
theorem dX9_fault_4 : decode cX9_fault 4 = .ok (.ireturn, 1) := by decide +kernel
set_option maxRecDepth 20000 in
theorem ggX9_count_X7_depth : GoodIn wsX9_count wsX7_depth := goodIn_r _ [8] (by decide +kernel) (by decide +kernel)
set_option maxRecDepth 20000 in
theorem gX9_count_X7_depth_n126 : GoodIn wsX9_count (wsX7_depth) := ggX9_count_X7_depth
theorem dX9_count_0 : decode cX9_count 0 = .ok (.iload_n 1, 1) := by decide +kernel
theorem dX9_count_1 : decode cX9_count 1 = .ok (.tableswitch 228 0 16 #[83, 91, 99, 107, 115, 123, 131, 139, 150, 161, 169, 177, 185, 193, 198, 208, 218], 83) := by decide +kernel
theorem dX9_count_84 : decode cX9_count 84 = .ok (.aload_n 0, 1) := by decide +kernel
theorem dX9_count_85 : decode cX9_count 85 = .ok (.getfield 23, 3) := by decide +kernel
theorem dX9_count_88 : decode cX9_count 88 = .ok (.getfield 93, 3) := by decide +kernel
theorem dX9_count_91 : decode cX9_count 91 = .ok (.ireturn, 1) := by decide +kernel
theorem dX9_count_92 : decode cX9_count 92 = .ok (.aload_n 0, 1) := by decide +kernel
theorem dX9_count_93 : decode cX9_count 93 = .ok (.getfield 23, 3) := by decide +kernel
theorem dX9_count_96 : decode cX9_count 96 = .ok (.getfield 96, 3) := by decide +kernel
theorem dX9_count_99 : decode cX9_count 99 = .ok (.ireturn, 1) := by decide +kernel
theorem dX9_count_100 : decode cX9_count 100 = .ok (.aload_n 0, 1) := by decide +kernel
theorem dX9_count_101 : decode cX9_count 101 = .ok (.getfield 23, 3) := by decide +kernel
theorem dX9_count_104 : decode cX9_count 104 = .ok (.getfield 99, 3) := by decide +kernel
theorem dX9_count_107 : decode cX9_count 107 = .ok (.ireturn, 1) := by decide +kernel
theorem dX9_count_108 : decode cX9_count 108 = .ok (.aload_n 0, 1) := by decide +kernel
theorem dX9_count_109 : decode cX9_count 109 = .ok (.getfield 23, 3) := by decide +kernel
theorem dX9_count_112 : decode cX9_count 112 = .ok (.getfield 102, 3) := by decide +kernel
theorem dX9_count_115 : decode cX9_count 115 = .ok (.ireturn, 1) := by decide +kernel
theorem dX9_count_116 : decode cX9_count 116 = .ok (.aload_n 0, 1) := by decide +kernel
theorem dX9_count_117 : decode cX9_count 117 = .ok (.getfield 23, 3) := by decide +kernel
theorem dX9_count_120 : decode cX9_count 120 = .ok (.getfield 105, 3) := by decide +kernel
theorem dX9_count_123 : decode cX9_count 123 = .ok (.ireturn, 1) := by decide +kernel
theorem dX9_count_124 : decode cX9_count 124 = .ok (.aload_n 0, 1) := by decide +kernel
theorem dX9_count_125 : decode cX9_count 125 = .ok (.getfield 23, 3) := by decide +kernel
theorem dX9_count_128 : decode cX9_count 128 = .ok (.getfield 108, 3) := by decide +kernel
theorem dX9_count_131 : decode cX9_count 131 = .ok (.ireturn, 1) := by decide +kernel
theorem dX9_count_132 : decode cX9_count 132 = .ok (.aload_n 0, 1) := by decide +kernel
theorem dX9_count_133 : decode cX9_count 133 = .ok (.getfield 23, 3) := by decide +kernel
theorem dX9_count_136 : decode cX9_count 136 = .ok (.getfield 111, 3) := by decide +kernel
theorem dX9_count_139 : decode cX9_count 139 = .ok (.ireturn, 1) := by decide +kernel
theorem dX9_count_140 : decode cX9_count 140 = .ok (.aload_n 0, 1) := by decide +kernel
theorem dX9_count_141 : decode cX9_count 141 = .ok (.getfield 23, 3) := by decide +kernel
theorem dX9_count_144 : decode cX9_count 144 = .ok (.getfield 114, 3) := by decide +kernel
theorem dX9_count_147 : decode cX9_count 147 = .ok (.getfield 118, 3) := by decide +kernel
theorem dX9_count_150 : decode cX9_count 150 = .ok (.ireturn, 1) := by decide +kernel
theorem dX9_count_151 : decode cX9_count 151 = .ok (.aload_n 0, 1) := by decide +kernel
theorem dX9_count_152 : decode cX9_count 152 = .ok (.getfield 42, 3) := by decide +kernel
theorem dX9_count_155 : decode cX9_count 155 = .ok (.getfield 123, 3) := by decide +kernel
theorem dX9_count_158 : decode cX9_count 158 = .ok (.invokestatic 126, 3) := by decide +kernel
theorem dX9_count_161 : decode cX9_count 161 = .ok (.ireturn, 1) := by decide +kernel
theorem dX9_count_162 : decode cX9_count 162 = .ok (.aload_n 0, 1) := by decide +kernel
theorem dX9_count_163 : decode cX9_count 163 = .ok (.getfield 42, 3) := by decide +kernel
theorem dX9_count_166 : decode cX9_count 166 = .ok (.getfield 132, 3) := by decide +kernel
theorem dX9_count_169 : decode cX9_count 169 = .ok (.ireturn, 1) := by decide +kernel
theorem dX9_count_170 : decode cX9_count 170 = .ok (.aload_n 0, 1) := by decide +kernel
theorem dX9_count_171 : decode cX9_count 171 = .ok (.getfield 42, 3) := by decide +kernel
theorem dX9_count_174 : decode cX9_count 174 = .ok (.getfield 135, 3) := by decide +kernel
theorem dX9_count_177 : decode cX9_count 177 = .ok (.ireturn, 1) := by decide +kernel
theorem dX9_count_178 : decode cX9_count 178 = .ok (.aload_n 0, 1) := by decide +kernel
theorem dX9_count_179 : decode cX9_count 179 = .ok (.getfield 42, 3) := by decide +kernel
theorem dX9_count_182 : decode cX9_count 182 = .ok (.getfield 138, 3) := by decide +kernel
theorem dX9_count_185 : decode cX9_count 185 = .ok (.ireturn, 1) := by decide +kernel
theorem dX9_count_186 : decode cX9_count 186 = .ok (.aload_n 0, 1) := by decide +kernel
theorem dX9_count_187 : decode cX9_count 187 = .ok (.getfield 42, 3) := by decide +kernel
theorem dX9_count_190 : decode cX9_count 190 = .ok (.getfield 141, 3) := by decide +kernel
theorem dX9_count_193 : decode cX9_count 193 = .ok (.ireturn, 1) := by decide +kernel
theorem dX9_count_194 : decode cX9_count 194 = .ok (.aload_n 0, 1) := by decide +kernel
theorem dX9_count_195 : decode cX9_count 195 = .ok (.getfield 13, 3) := by decide +kernel
theorem dX9_count_198 : decode cX9_count 198 = .ok (.ireturn, 1) := by decide +kernel
theorem dX9_count_199 : decode cX9_count 199 = .ok (.aload_n 0, 1) := by decide +kernel
theorem dX9_count_200 : decode cX9_count 200 = .ok (.getfield 42, 3) := by decide +kernel
theorem dX9_count_203 : decode cX9_count 203 = .ok (.getfield 87, 3) := by decide +kernel
theorem dX9_count_206 : decode cX9_count 206 = .ok (.iconst 0, 1) := by decide +kernel
theorem dX9_count_207 : decode cX9_count 207 = .ok (.iaload, 1) := by decide +kernel
theorem dX9_count_208 : decode cX9_count 208 = .ok (.ireturn, 1) := by decide +kernel
theorem dX9_count_209 : decode cX9_count 209 = .ok (.aload_n 0, 1) := by decide +kernel
theorem dX9_count_210 : decode cX9_count 210 = .ok (.getfield 42, 3) := by decide +kernel
theorem dX9_count_213 : decode cX9_count 213 = .ok (.getfield 87, 3) := by decide +kernel
theorem dX9_count_216 : decode cX9_count 216 = .ok (.iconst 1, 1) := by decide +kernel
theorem dX9_count_217 : decode cX9_count 217 = .ok (.iaload, 1) := by decide +kernel
theorem dX9_count_218 : decode cX9_count 218 = .ok (.ireturn, 1) := by decide +kernel
theorem dX9_count_219 : decode cX9_count 219 = .ok (.aload_n 0, 1) := by decide +kernel
theorem dX9_count_220 : decode cX9_count 220 = .ok (.getfield 42, 3) := by decide +kernel
theorem dX9_count_223 : decode cX9_count 223 = .ok (.getfield 87, 3) := by decide +kernel
theorem dX9_count_226 : decode cX9_count 226 = .ok (.iconst 2, 1) := by decide +kernel
theorem dX9_count_227 : decode cX9_count 227 = .ok (.iaload, 1) := by decide +kernel
theorem dX9_count_228 : decode cX9_count 228 = .ok (.ireturn, 1) := by decide +kernel
set_option maxRecDepth 20000 in
theorem ggX9_bucket_X3_bucketDepth : GoodIn wsX9_bucket wsX3_bucketDepth := goodIn_r _ [8, 9, 10, 11, 12, 67, 68, 69, 70, 71, 72, 73, 74, 75, 76, 77, 78, 79, 80] (by decide +kernel) (by decide +kernel)
set_option maxRecDepth 20000 in
theorem gX9_bucket_X3_bucketDepth_n179 : GoodIn wsX9_bucket (wsX3_bucketDepth) := ggX9_bucket_X3_bucketDepth
set_option maxRecDepth 20000 in
theorem ggX9_bucket_X3_weightIn : GoodIn wsX9_bucket wsX3_weightIn := goodIn_r _ [15, 16, 17, 18, 11, 19, 67, 68, 69, 70, 71, 72, 73, 74, 75, 76, 77, 78, 79, 80] (by decide +kernel) (by decide +kernel)
set_option maxRecDepth 20000 in
theorem gX9_bucket_X3_weightIn_n182 : GoodIn wsX9_bucket (wsX3_weightIn) := ggX9_bucket_X3_weightIn
set_option maxRecDepth 20000 in
theorem ggX9_bucket_X7_thingsIn : GoodIn wsX9_bucket wsX7_thingsIn := goodIn_r _ [21, 22, 18, 11, 19] (by decide +kernel) (by decide +kernel)
set_option maxRecDepth 20000 in
theorem gX9_bucket_X7_thingsIn_n185 : GoodIn wsX9_bucket (wsX7_thingsIn) := ggX9_bucket_X7_thingsIn
set_option maxRecDepth 20000 in
theorem ggX9_bucket_X3_brokenRule : GoodIn wsX9_bucket wsX3_brokenRule := goodIn_r _ [25, 26, 27, 16, 28, 17, 29, 30, 31, 32, 18, 11, 19, 33, 5, 7, 6, 8, 9, 10, 12, 34, 35, 36, 37, 38, 39, 40, 41, 42, 43, 67, 68, 69, 70, 71, 72, 73, 74, 75, 76, 77, 78, 79, 80, 81, 82, 83, 84, 85] (by decide +kernel) (by decide +kernel)
set_option maxRecDepth 20000 in
theorem gX9_bucket_X3_brokenRule_n188 : GoodIn wsX9_bucket (wsX3_brokenRule) := ggX9_bucket_X3_brokenRule
theorem dX9_bucket_0 : decode cX9_bucket 0 = .ok (.iload_n 1, 1) := by decide +kernel
theorem dX9_bucket_1 : decode cX9_bucket 1 = .ok (.ifCond .lt 8, 3) := by decide +kernel
theorem dX9_bucket_4 : decode cX9_bucket 4 = .ok (.iload_n 1, 1) := by decide +kernel
theorem dX9_bucket_5 : decode cX9_bucket 5 = .ok (.iconst 1, 1) := by decide +kernel
theorem dX9_bucket_6 : decode cX9_bucket 6 = .ok (.if_icmp .le 13, 3) := by decide +kernel
theorem dX9_bucket_19 : decode cX9_bucket 19 = .ok (.aload_n 0, 1) := by decide +kernel
theorem dX9_bucket_20 : decode cX9_bucket 20 = .ok (.getfield 23, 3) := by decide +kernel
theorem dX9_bucket_23 : decode cX9_bucket 23 = .ok (.aload_n 0, 1) := by decide +kernel
theorem dX9_bucket_24 : decode cX9_bucket 24 = .ok (.getfield 42, 3) := by decide +kernel
theorem dX9_bucket_27 : decode cX9_bucket 27 = .ok (.getfield 123, 3) := by decide +kernel
theorem dX9_bucket_30 : decode cX9_bucket 30 = .ok (.iload_n 1, 1) := by decide +kernel
theorem dX9_bucket_31 : decode cX9_bucket 31 = .ok (.invokevirtual 179, 3) := by decide +kernel
theorem dX9_bucket_34 : decode cX9_bucket 34 = .ok (.istore_n 3, 1) := by decide +kernel
theorem dX9_bucket_35 : decode cX9_bucket 35 = .ok (.iload_n 2, 1) := by decide +kernel
theorem dX9_bucket_36 : decode cX9_bucket 36 = .ok (.tableswitch 108 0 4 #[36, 52, 78, 80, 92], 36) := by decide +kernel
theorem dX9_bucket_72 : decode cX9_bucket 72 = .ok (.aload_n 0, 1) := by decide +kernel
theorem dX9_bucket_73 : decode cX9_bucket 73 = .ok (.getfield 23, 3) := by decide +kernel
theorem dX9_bucket_76 : decode cX9_bucket 76 = .ok (.aload_n 0, 1) := by decide +kernel
theorem dX9_bucket_77 : decode cX9_bucket 77 = .ok (.getfield 42, 3) := by decide +kernel
theorem dX9_bucket_80 : decode cX9_bucket 80 = .ok (.getfield 123, 3) := by decide +kernel
theorem dX9_bucket_83 : decode cX9_bucket 83 = .ok (.iload_n 1, 1) := by decide +kernel
theorem dX9_bucket_84 : decode cX9_bucket 84 = .ok (.invokevirtual 182, 3) := by decide +kernel
theorem dX9_bucket_87 : decode cX9_bucket 87 = .ok (.ireturn, 1) := by decide +kernel
theorem dX9_bucket_88 : decode cX9_bucket 88 = .ok (.aload_n 0, 1) := by decide +kernel
theorem dX9_bucket_89 : decode cX9_bucket 89 = .ok (.getfield 23, 3) := by decide +kernel
theorem dX9_bucket_92 : decode cX9_bucket 92 = .ok (.aload_n 0, 1) := by decide +kernel
theorem dX9_bucket_93 : decode cX9_bucket 93 = .ok (.getfield 42, 3) := by decide +kernel
theorem dX9_bucket_96 : decode cX9_bucket 96 = .ok (.getfield 123, 3) := by decide +kernel
theorem dX9_bucket_99 : decode cX9_bucket 99 = .ok (.iload_n 1, 1) := by decide +kernel
theorem dX9_bucket_100 : decode cX9_bucket 100 = .ok (.invokevirtual 182, 3) := by decide +kernel
theorem dX9_bucket_103 : decode cX9_bucket 103 = .ok (.aload_n 0, 1) := by decide +kernel
theorem dX9_bucket_104 : decode cX9_bucket 104 = .ok (.getfield 23, 3) := by decide +kernel
theorem dX9_bucket_107 : decode cX9_bucket 107 = .ok (.getfield 102, 3) := by decide +kernel
theorem dX9_bucket_110 : decode cX9_bucket 110 = .ok (.iload_n 3, 1) := by decide +kernel
theorem dX9_bucket_111 : decode cX9_bucket 111 = .ok (.imul, 1) := by decide +kernel
theorem dX9_bucket_112 : decode cX9_bucket 112 = .ok (.iadd, 1) := by decide +kernel
theorem dX9_bucket_113 : decode cX9_bucket 113 = .ok (.ireturn, 1) := by decide +kernel
theorem dX9_bucket_114 : decode cX9_bucket 114 = .ok (.iload_n 3, 1) := by decide +kernel
theorem dX9_bucket_115 : decode cX9_bucket 115 = .ok (.ireturn, 1) := by decide +kernel
theorem dX9_bucket_116 : decode cX9_bucket 116 = .ok (.aload_n 0, 1) := by decide +kernel
theorem dX9_bucket_117 : decode cX9_bucket 117 = .ok (.getfield 42, 3) := by decide +kernel
theorem dX9_bucket_120 : decode cX9_bucket 120 = .ok (.getfield 123, 3) := by decide +kernel
theorem dX9_bucket_123 : decode cX9_bucket 123 = .ok (.iload_n 1, 1) := by decide +kernel
theorem dX9_bucket_124 : decode cX9_bucket 124 = .ok (.invokestatic 185, 3) := by decide +kernel
theorem dX9_bucket_127 : decode cX9_bucket 127 = .ok (.ireturn, 1) := by decide +kernel
theorem dX9_bucket_128 : decode cX9_bucket 128 = .ok (.aload_n 0, 1) := by decide +kernel
theorem dX9_bucket_129 : decode cX9_bucket 129 = .ok (.getfield 23, 3) := by decide +kernel
theorem dX9_bucket_132 : decode cX9_bucket 132 = .ok (.aload_n 0, 1) := by decide +kernel
theorem dX9_bucket_133 : decode cX9_bucket 133 = .ok (.getfield 42, 3) := by decide +kernel
theorem dX9_bucket_136 : decode cX9_bucket 136 = .ok (.getfield 123, 3) := by decide +kernel
theorem dX9_bucket_139 : decode cX9_bucket 139 = .ok (.iload_n 1, 1) := by decide +kernel
theorem dX9_bucket_140 : decode cX9_bucket 140 = .ok (.invokevirtual 188, 3) := by decide +kernel
theorem dX9_bucket_143 : decode cX9_bucket 143 = .ok (.ireturn, 1) := by decide +kernel
set_option maxRecDepth 20000 in
theorem ggX9_load_X3_loadTrouble : GoodIn wsX9_load wsX3_loadTrouble := goodIn_r _ [6, 7, 8, 9, 4, 10, 11, 12, 13, 14, 15, 16, 17, 18, 19, 20, 21, 22, 23, 24, 25, 26, 27, 28, 29, 30, 74, 75, 76, 77, 78, 79, 80, 81, 82, 83, 84, 85, 86, 87] (by decide +kernel) (by decide +kernel)
set_option maxRecDepth 20000 in
theorem gX9_load_X3_loadTrouble_n193 : GoodIn wsX9_load (wsX3_loadTrouble) := ggX9_load_X3_loadTrouble
set_option maxRecDepth 20000 in
theorem ggX9_load_X9_judged : GoodIn wsX9_load wsX9_judged := goodIn_r _ [35, 2, 51, 52, 53, 54, 55, 56, 57, 58, 59, 60, 61, 62, 63, 64, 65, 66, 67, 68, 69, 70, 71, 72, 73] (by decide +kernel) (by decide +kernel)
set_option maxRecDepth 20000 in
theorem gX9_load_X9_judged : GoodIn wsX9_load (wsV RX9 197 RX9 yX9_judged wsX9_judged) := goodIn_app (goodIn_of _ (by decide +kernel)) ggX9_load_X9_judged
theorem dX9_load_0 : decode cX9_load 0 = .ok (.aload_n 0, 1) := by decide +kernel
theorem dX9_load_1 : decode cX9_load 1 = .ok (.aload_n 0, 1) := by decide +kernel
theorem dX9_load_2 : decode cX9_load 2 = .ok (.getfield 23, 3) := by decide +kernel
theorem dX9_load_5 : decode cX9_load 5 = .ok (.aload_n 0, 1) := by decide +kernel
theorem dX9_load_6 : decode cX9_load 6 = .ok (.getfield 42, 3) := by decide +kernel
theorem dX9_load_9 : decode cX9_load 9 = .ok (.getfield 123, 3) := by decide +kernel
theorem dX9_load_12 : decode cX9_load 12 = .ok (.iload_n 1, 1) := by decide +kernel
theorem dX9_load_13 : decode cX9_load 13 = .ok (.iload_n 2, 1) := by decide +kernel
theorem dX9_load_14 : decode cX9_load 14 = .ok (.invokevirtual 193, 3) := by decide +kernel
theorem dX9_load_17 : decode cX9_load 17 = .ok (.invokevirtual 197, 3) := by decide +kernel
theorem dX9_load_20 : decode cX9_load 20 = .ok (.istore_n 3, 1) := by decide +kernel
theorem dX9_load_21 : decode cX9_load 21 = .ok (.iload_n 3, 1) := by decide +kernel
theorem dX9_load_22 : decode cX9_load 22 = .ok (.ifCond .ne 29, 3) := by decide +kernel
theorem dX9_load_51 : decode cX9_load 51 = .ok (.iload_n 3, 1) := by decide +kernel
theorem dX9_load_52 : decode cX9_load 52 = .ok (.ireturn, 1) := by decide +kernel
set_option maxRecDepth 20000 in
theorem ggX9_unload_X3_unloadTrouble : GoodIn wsX9_unload wsX3_unloadTrouble := goodIn_r _ [6, 7, 8, 9, 4, 10, 11, 12, 13, 14, 15, 16, 17, 73, 74, 75, 76, 77, 78, 79, 80, 81, 82, 83, 84, 85, 86] (by decide +kernel) (by decide +kernel)
set_option maxRecDepth 20000 in
theorem gX9_unload_X3_unloadTrouble_n207 : GoodIn wsX9_unload (wsX3_unloadTrouble) := ggX9_unload_X3_unloadTrouble
set_option maxRecDepth 20000 in
theorem ggX9_unload_X9_judged : GoodIn wsX9_unload wsX9_judged := goodIn_r _ [22, 2, 50, 51, 52, 53, 54, 55, 56, 57, 58, 59, 60, 61, 62, 63, 64, 65, 66, 67, 68, 69, 70, 71, 72] (by decide +kernel) (by decide +kernel)
set_option maxRecDepth 20000 in
theorem gX9_unload_X9_judged : GoodIn wsX9_unload (wsV RX9 197 RX9 yX9_judged wsX9_judged) := goodIn_app (goodIn_of _ (by decide +kernel)) ggX9_unload_X9_judged
theorem dX9_unload_0 : decode cX9_unload 0 = .ok (.aload_n 0, 1) := by decide +kernel
theorem dX9_unload_1 : decode cX9_unload 1 = .ok (.aload_n 0, 1) := by decide +kernel
theorem dX9_unload_2 : decode cX9_unload 2 = .ok (.getfield 23, 3) := by decide +kernel
theorem dX9_unload_5 : decode cX9_unload 5 = .ok (.aload_n 0, 1) := by decide +kernel
theorem dX9_unload_6 : decode cX9_unload 6 = .ok (.getfield 42, 3) := by decide +kernel
theorem dX9_unload_9 : decode cX9_unload 9 = .ok (.getfield 123, 3) := by decide +kernel
theorem dX9_unload_12 : decode cX9_unload 12 = .ok (.iload_n 1, 1) := by decide +kernel
theorem dX9_unload_13 : decode cX9_unload 13 = .ok (.invokevirtual 207, 3) := by decide +kernel
theorem dX9_unload_16 : decode cX9_unload 16 = .ok (.invokevirtual 197, 3) := by decide +kernel
theorem dX9_unload_19 : decode cX9_unload 19 = .ok (.istore_n 2, 1) := by decide +kernel
theorem dX9_unload_20 : decode cX9_unload 20 = .ok (.iload_n 2, 1) := by decide +kernel
theorem dX9_unload_21 : decode cX9_unload 21 = .ok (.ifCond .ne 42, 3) := by decide +kernel
theorem dX9_unload_63 : decode cX9_unload 63 = .ok (.iload_n 2, 1) := by decide +kernel
theorem dX9_unload_64 : decode cX9_unload 64 = .ok (.ireturn, 1) := by decide +kernel
set_option maxRecDepth 20000 in
theorem ggX9_ride_X3_rideTrouble : GoodIn wsX9_ride wsX3_rideTrouble := goodIn_r _ [6, 7, 8, 9, 10, 11, 12, 4, 13, 14, 15, 16, 17, 18, 19, 20, 21, 22, 23, 24, 25, 26, 27, 28, 29, 30, 31, 32, 33, 34, 35, 36, 37, 38, 39, 40, 41, 42, 43, 44, 45, 46, 47, 48, 49, 50, 51, 52, 53, 54, 55, 56, 57, 58, 59, 60, 112, 113, 114, 115, 116, 117, 118, 119, 120, 121, 122, 123, 124, 125, 126, 127, 128, 129, 130] (by decide +kernel) (by decide +kernel)
set_option maxRecDepth 20000 in
theorem gX9_ride_X3_rideTrouble_n213 : GoodIn wsX9_ride (wsX3_rideTrouble) := ggX9_ride_X3_rideTrouble
set_option maxRecDepth 20000 in
theorem ggX9_ride_X9_judged : GoodIn wsX9_ride wsX9_judged := goodIn_r _ [65, 2, 89, 90, 91, 92, 93, 94, 95, 96, 97, 98, 99, 100, 101, 102, 103, 104, 105, 106, 107, 108, 109, 110, 111] (by decide +kernel) (by decide +kernel)
set_option maxRecDepth 20000 in
theorem gX9_ride_X9_judged : GoodIn wsX9_ride (wsV RX9 197 RX9 yX9_judged wsX9_judged) := goodIn_app (goodIn_of _ (by decide +kernel)) ggX9_ride_X9_judged
set_option maxRecDepth 20000 in
theorem ggX9_ride_X3_windingTo : GoodIn wsX9_ride wsX3_windingTo := goodIn_r _ [68, 18, 19, 20, 4, 21, 22, 23, 24, 16, 25, 15, 17, 10, 11, 12, 13, 14, 56, 57, 58, 59, 60, 69, 70, 71, 72, 55, 8, 9, 112, 113, 114, 115, 116, 117, 118, 119, 120, 121, 122, 123, 124, 125] (by decide +kernel) (by decide +kernel)
set_option maxRecDepth 20000 in
theorem gX9_ride_X3_windingTo_n216 : GoodIn wsX9_ride (wsX3_windingTo) := ggX9_ride_X3_windingTo
set_option maxRecDepth 20000 in
theorem ggX9_ride_X7_move : GoodIn wsX9_ride wsX7_move := goodIn_r _ [74, 75] (by decide +kernel) (by decide +kernel)
set_option maxRecDepth 20000 in
theorem gX9_ride_X7_move_n219 : GoodIn wsX9_ride (wsX7_move) := ggX9_ride_X7_move
set_option maxRecDepth 20000 in
theorem ggX9_ride_X1_note : GoodIn wsX9_ride wsX1_note := goodIn_r _ [79, 80, 81, 82, 83, 84, 85, 86, 87, 88, 100, 101, 102, 103, 104, 105, 106, 107, 108, 109, 110, 111] (by decide +kernel) (by decide +kernel)
set_option maxRecDepth 20000 in
theorem gX9_ride_X1_note_n203 : GoodIn wsX9_ride (wsX1_note) := ggX9_ride_X1_note
theorem dX9_ride_0 : decode cX9_ride 0 = .ok (.aload_n 0, 1) := by decide +kernel
theorem dX9_ride_1 : decode cX9_ride 1 = .ok (.aload_n 0, 1) := by decide +kernel
theorem dX9_ride_2 : decode cX9_ride 2 = .ok (.getfield 23, 3) := by decide +kernel
theorem dX9_ride_5 : decode cX9_ride 5 = .ok (.aload_n 0, 1) := by decide +kernel
theorem dX9_ride_6 : decode cX9_ride 6 = .ok (.getfield 42, 3) := by decide +kernel
theorem dX9_ride_9 : decode cX9_ride 9 = .ok (.getfield 123, 3) := by decide +kernel
theorem dX9_ride_12 : decode cX9_ride 12 = .ok (.iload_n 1, 1) := by decide +kernel
theorem dX9_ride_13 : decode cX9_ride 13 = .ok (.iload_n 2, 1) := by decide +kernel
theorem dX9_ride_14 : decode cX9_ride 14 = .ok (.invokevirtual 213, 3) := by decide +kernel
theorem dX9_ride_17 : decode cX9_ride 17 = .ok (.invokevirtual 197, 3) := by decide +kernel
theorem dX9_ride_20 : decode cX9_ride 20 = .ok (.istore_n 3, 1) := by decide +kernel
theorem dX9_ride_21 : decode cX9_ride 21 = .ok (.iload_n 3, 1) := by decide +kernel
theorem dX9_ride_22 : decode cX9_ride 22 = .ok (.ifCond .ne 52, 3) := by decide +kernel
theorem dX9_ride_25 : decode cX9_ride 25 = .ok (.iload_n 2, 1) := by decide +kernel
theorem dX9_ride_26 : decode cX9_ride 26 = .ok (.iconst 2, 1) := by decide +kernel
theorem dX9_ride_27 : decode cX9_ride 27 = .ok (.if_icmp .ne 21, 3) := by decide +kernel
theorem dX9_ride_30 : decode cX9_ride 30 = .ok (.aload_n 0, 1) := by decide +kernel
theorem dX9_ride_31 : decode cX9_ride 31 = .ok (.getfield 23, 3) := by decide +kernel
theorem dX9_ride_34 : decode cX9_ride 34 = .ok (.aload_n 0, 1) := by decide +kernel
theorem dX9_ride_35 : decode cX9_ride 35 = .ok (.getfield 42, 3) := by decide +kernel
theorem dX9_ride_38 : decode cX9_ride 38 = .ok (.getfield 123, 3) := by decide +kernel
theorem dX9_ride_41 : decode cX9_ride 41 = .ok (.iload_n 1, 1) := by decide +kernel
theorem dX9_ride_42 : decode cX9_ride 42 = .ok (.invokevirtual 216, 3) := by decide +kernel
theorem dX9_ride_45 : decode cX9_ride 45 = .ok (.goto 4, 3) := by decide +kernel
theorem dX9_ride_49 : decode cX9_ride 49 = .ok (.istore 4, 2) := by decide +kernel
theorem dX9_ride_51 : decode cX9_ride 51 = .ok (.aload_n 0, 1) := by decide +kernel
theorem dX9_ride_52 : decode cX9_ride 52 = .ok (.getfield 42, 3) := by decide +kernel
theorem dX9_ride_55 : decode cX9_ride 55 = .ok (.iconst 2, 1) := by decide +kernel
theorem dX9_ride_56 : decode cX9_ride 56 = .ok (.iload_n 1, 1) := by decide +kernel
theorem dX9_ride_57 : decode cX9_ride 57 = .ok (.iload_n 2, 1) := by decide +kernel
theorem dX9_ride_58 : decode cX9_ride 58 = .ok (.iload 4, 2) := by decide +kernel
theorem dX9_ride_60 : decode cX9_ride 60 = .ok (.aload_n 0, 1) := by decide +kernel
theorem dX9_ride_61 : decode cX9_ride 61 = .ok (.getfield 42, 3) := by decide +kernel
theorem dX9_ride_64 : decode cX9_ride 64 = .ok (.getfield 123, 3) := by decide +kernel
theorem dX9_ride_67 : decode cX9_ride 67 = .ok (.iload_n 1, 1) := by decide +kernel
theorem dX9_ride_68 : decode cX9_ride 68 = .ok (.invokestatic 219, 3) := by decide +kernel
theorem dX9_ride_71 : decode cX9_ride 71 = .ok (.invokevirtual 203, 3) := by decide +kernel
theorem dX9_ride_74 : decode cX9_ride 74 = .ok (.iload_n 3, 1) := by decide +kernel
theorem dX9_ride_75 : decode cX9_ride 75 = .ok (.ireturn, 1) := by decide +kernel
theorem dX9_judged_0 : decode cX9_judged 0 = .ok (.iload_n 1, 1) := by decide +kernel
theorem dX9_judged_1 : decode cX9_judged 1 = .ok (.ifCond .ne 20, 3) := by decide +kernel
theorem dX9_judged_4 : decode cX9_judged 4 = .ok (.aload_n 0, 1) := by decide +kernel
theorem dX9_judged_5 : decode cX9_judged 5 = .ok (.getfield 42, 3) := by decide +kernel
theorem dX9_judged_8 : decode cX9_judged 8 = .ok (.getfield 132, 3) := by decide +kernel
theorem dX9_judged_11 : decode cX9_judged 11 = .ok (.bipush 60, 2) := by decide +kernel
theorem dX9_judged_13 : decode cX9_judged 13 = .ok (.if_icmp .lt 8, 3) := by decide +kernel
theorem dX9_judged_21 : decode cX9_judged 21 = .ok (.iload_n 1, 1) := by decide +kernel
theorem dX9_judged_22 : decode cX9_judged 22 = .ok (.istore_n 2, 1) := by decide +kernel
theorem dX9_judged_23 : decode cX9_judged 23 = .ok (.iload_n 2, 1) := by decide +kernel
theorem dX9_judged_24 : decode cX9_judged 24 = .ok (.ifCond .eq 16, 3) := by decide +kernel
theorem dX9_judged_27 : decode cX9_judged 27 = .ok (.aload_n 0, 1) := by decide +kernel
theorem dX9_judged_28 : decode cX9_judged 28 = .ok (.getfield 42, 3) := by decide +kernel
theorem dX9_judged_31 : decode cX9_judged 31 = .ok (.getfield 87, 3) := by decide +kernel
theorem dX9_judged_34 : decode cX9_judged 34 = .ok (.iconst 1, 1) := by decide +kernel
theorem dX9_judged_35 : decode cX9_judged 35 = .ok (.dup2, 1) := by decide +kernel
theorem dX9_judged_36 : decode cX9_judged 36 = .ok (.iaload, 1) := by decide +kernel
theorem dX9_judged_37 : decode cX9_judged 37 = .ok (.iconst 1, 1) := by decide +kernel
theorem dX9_judged_38 : decode cX9_judged 38 = .ok (.iadd, 1) := by decide +kernel
theorem dX9_judged_39 : decode cX9_judged 39 = .ok (.iastore, 1) := by decide +kernel
theorem dX9_judged_40 : decode cX9_judged 40 = .ok (.iload_n 2, 1) := by decide +kernel
theorem dX9_judged_41 : decode cX9_judged 41 = .ok (.ireturn, 1) := by decide +kernel
set_option maxRecDepth 20000 in
theorem ggX9_winding_X3_hasDepth : GoodIn wsX9_winding wsX3_hasDepth := goodIn_r _ [6, 7, 58, 59, 60, 61, 62, 63, 64, 65, 66, 67, 68, 69, 70, 71] (by decide +kernel) (by decide +kernel)
set_option maxRecDepth 20000 in
theorem gX9_winding_X3_hasDepth_n222 : GoodIn wsX9_winding (wsX3_hasDepth) := ggX9_winding_X3_hasDepth
set_option maxRecDepth 20000 in
theorem ggX9_winding_X7_depth : GoodIn wsX9_winding wsX7_depth := goodIn_r _ [10] (by decide +kernel) (by decide +kernel)
set_option maxRecDepth 20000 in
theorem gX9_winding_X7_depth_n126 : GoodIn wsX9_winding (wsX7_depth) := ggX9_winding_X7_depth
set_option maxRecDepth 20000 in
theorem ggX9_winding_X3_windingTo : GoodIn wsX9_winding wsX3_windingTo := goodIn_r _ [13, 14, 15, 16, 4, 17, 18, 19, 20, 9, 21, 8, 10, 22, 3, 5, 6, 7, 23, 24, 25, 26, 27, 28, 29, 30, 31, 32, 33, 34, 58, 59, 60, 61, 62, 63, 64, 65, 66, 67, 68, 69, 70, 71] (by decide +kernel) (by decide +kernel)
set_option maxRecDepth 20000 in
theorem gX9_winding_X3_windingTo_n216 : GoodIn wsX9_winding (wsX3_windingTo) := ggX9_winding_X3_windingTo
theorem dX9_winding_0 : decode cX9_winding 0 = .ok (.aload_n 0, 1) := by decide +kernel
theorem dX9_winding_1 : decode cX9_winding 1 = .ok (.getfield 23, 3) := by decide +kernel
theorem dX9_winding_4 : decode cX9_winding 4 = .ok (.iload_n 1, 1) := by decide +kernel
theorem dX9_winding_5 : decode cX9_winding 5 = .ok (.invokevirtual 222, 3) := by decide +kernel
theorem dX9_winding_8 : decode cX9_winding 8 = .ok (.ifCond .eq 17, 3) := by decide +kernel
theorem dX9_winding_11 : decode cX9_winding 11 = .ok (.iload_n 1, 1) := by decide +kernel
theorem dX9_winding_12 : decode cX9_winding 12 = .ok (.aload_n 0, 1) := by decide +kernel
theorem dX9_winding_13 : decode cX9_winding 13 = .ok (.getfield 42, 3) := by decide +kernel
theorem dX9_winding_16 : decode cX9_winding 16 = .ok (.getfield 123, 3) := by decide +kernel
theorem dX9_winding_19 : decode cX9_winding 19 = .ok (.invokestatic 126, 3) := by decide +kernel
theorem dX9_winding_22 : decode cX9_winding 22 = .ok (.if_icmp .ne 5, 3) := by decide +kernel
theorem dX9_winding_25 : decode cX9_winding 25 = .ok (.iconst (-1), 1) := by decide +kernel
theorem dX9_winding_26 : decode cX9_winding 26 = .ok (.ireturn, 1) := by decide +kernel
theorem dX9_winding_27 : decode cX9_winding 27 = .ok (.aload_n 0, 1) := by decide +kernel
theorem dX9_winding_28 : decode cX9_winding 28 = .ok (.getfield 23, 3) := by decide +kernel
theorem dX9_winding_31 : decode cX9_winding 31 = .ok (.aload_n 0, 1) := by decide +kernel
theorem dX9_winding_32 : decode cX9_winding 32 = .ok (.getfield 42, 3) := by decide +kernel
theorem dX9_winding_35 : decode cX9_winding 35 = .ok (.getfield 123, 3) := by decide +kernel
theorem dX9_winding_38 : decode cX9_winding 38 = .ok (.iload_n 1, 1) := by decide +kernel
theorem dX9_winding_39 : decode cX9_winding 39 = .ok (.invokevirtual 216, 3) := by decide +kernel
theorem dX9_winding_42 : decode cX9_winding 42 = .ok (.ireturn, 1) := by decide +kernel
set_option maxRecDepth 20000 in
theorem ggX9_may_X3_rideTrouble : GoodIn wsX9_may wsX3_rideTrouble := goodIn_r _ [6, 7, 8, 9, 10, 11, 12, 4, 13, 14, 15, 16, 17, 18, 19, 20, 21, 22, 23, 24, 25, 26, 27, 28, 29, 30, 31, 32, 33, 34, 35, 36, 37, 38, 39, 40, 41, 42, 43, 44, 45, 46, 47, 48, 49, 50, 51, 52, 53, 54, 55, 56, 57, 58, 59, 60, 84, 85, 86, 87, 88, 89, 90, 91, 92, 93, 94, 95, 96, 97, 98, 99, 100, 101, 102] (by decide +kernel) (by decide +kernel)
set_option maxRecDepth 20000 in
theorem gX9_may_X3_rideTrouble_n213 : GoodIn wsX9_may (wsX3_rideTrouble) := ggX9_may_X3_rideTrouble
theorem dX9_may_0 : decode cX9_may 0 = .ok (.aload_n 0, 1) := by decide +kernel
theorem dX9_may_1 : decode cX9_may 1 = .ok (.getfield 42, 3) := by decide +kernel
theorem dX9_may_4 : decode cX9_may 4 = .ok (.getfield 132, 3) := by decide +kernel
theorem dX9_may_7 : decode cX9_may 7 = .ok (.bipush 60, 2) := by decide +kernel
theorem dX9_may_9 : decode cX9_may 9 = .ok (.if_icmp .lt 5, 3) := by decide +kernel
theorem dX9_may_14 : decode cX9_may 14 = .ok (.iconst 0, 1) := by decide +kernel
theorem dX9_may_15 : decode cX9_may 15 = .ok (.istore_n 2, 1) := by decide +kernel
theorem dX9_may_16 : decode cX9_may 16 = .ok (.iconst 0, 1) := by decide +kernel
theorem dX9_may_17 : decode cX9_may 17 = .ok (.istore_n 3, 1) := by decide +kernel
theorem dX9_may_18 : decode cX9_may 18 = .ok (.iload_n 3, 1) := by decide +kernel
theorem dX9_may_19 : decode cX9_may 19 = .ok (.iconst 2, 1) := by decide +kernel
theorem dX9_may_20 : decode cX9_may 20 = .ok (.if_icmp .gt 34, 3) := by decide +kernel
theorem dX9_may_23 : decode cX9_may 23 = .ok (.aload_n 0, 1) := by decide +kernel
theorem dX9_may_24 : decode cX9_may 24 = .ok (.getfield 23, 3) := by decide +kernel
theorem dX9_may_27 : decode cX9_may 27 = .ok (.aload_n 0, 1) := by decide +kernel
theorem dX9_may_28 : decode cX9_may 28 = .ok (.getfield 42, 3) := by decide +kernel
theorem dX9_may_31 : decode cX9_may 31 = .ok (.getfield 123, 3) := by decide +kernel
theorem dX9_may_34 : decode cX9_may 34 = .ok (.iload_n 1, 1) := by decide +kernel
theorem dX9_may_35 : decode cX9_may 35 = .ok (.iload_n 3, 1) := by decide +kernel
theorem dX9_may_36 : decode cX9_may 36 = .ok (.invokevirtual 213, 3) := by decide +kernel
theorem dX9_may_39 : decode cX9_may 39 = .ok (.ifCond .ne 9, 3) := by decide +kernel
theorem dX9_may_42 : decode cX9_may 42 = .ok (.iload_n 2, 1) := by decide +kernel
theorem dX9_may_43 : decode cX9_may 43 = .ok (.iconst 1, 1) := by decide +kernel
theorem dX9_may_44 : decode cX9_may 44 = .ok (.iload_n 3, 1) := by decide +kernel
theorem dX9_may_45 : decode cX9_may 45 = .ok (.ishl, 1) := by decide +kernel
theorem dX9_may_46 : decode cX9_may 46 = .ok (.ior, 1) := by decide +kernel
theorem dX9_may_47 : decode cX9_may 47 = .ok (.istore_n 2, 1) := by decide +kernel
theorem dX9_may_48 : decode cX9_may 48 = .ok (.iinc 3 1, 3) := by decide +kernel
theorem dX9_may_51 : decode cX9_may 51 = .ok (.goto (-33), 3) := by decide +kernel
theorem dX9_may_54 : decode cX9_may 54 = .ok (.iload_n 2, 1) := by decide +kernel
theorem dX9_may_55 : decode cX9_may 55 = .ok (.ireturn, 1) := by decide +kernel
theorem dX9_undo_0 : decode cX9_undo 0 = .ok (.aload_n 0, 1) := by decide +kernel
theorem dX9_undo_1 : decode cX9_undo 1 = .ok (.getfield 42, 3) := by decide +kernel
theorem dX9_undo_4 : decode cX9_undo 4 = .ok (.getfield 132, 3) := by decide +kernel
theorem dX9_undo_7 : decode cX9_undo 7 = .ok (.ifCond .gt 5, 3) := by decide +kernel
theorem dX9_undo_10 : decode cX9_undo 10 = .ok (.iconst (-1), 1) := by decide +kernel
theorem dX9_undo_11 : decode cX9_undo 11 = .ok (.ireturn, 1) := by decide +kernel
theorem dX9_back_0 : decode cX9_back 0 = .ok (.iconst 0, 1) := by decide +kernel
theorem dX9_back_1 : decode cX9_back 1 = .ok (.istore_n 1, 1) := by decide +kernel
theorem dX9_back_2 : decode cX9_back 2 = .ok (.aload_n 0, 1) := by decide +kernel
theorem dX9_back_3 : decode cX9_back 3 = .ok (.getfield 42, 3) := by decide +kernel
theorem dX9_back_6 : decode cX9_back 6 = .ok (.getfield 132, 3) := by decide +kernel
theorem dX9_back_9 : decode cX9_back 9 = .ok (.iconst 1, 1) := by decide +kernel
theorem dX9_back_10 : decode cX9_back 10 = .ok (.isub, 1) := by decide +kernel
theorem dX9_back_11 : decode cX9_back 11 = .ok (.istore_n 2, 1) := by decide +kernel
theorem dX9_back_12 : decode cX9_back 12 = .ok (.iload_n 2, 1) := by decide +kernel
theorem dX9_back_13 : decode cX9_back 13 = .ok (.ifCond .lt 74, 3) := by decide +kernel
theorem dX9_back_87 : decode cX9_back 87 = .ok (.iload_n 1, 1) := by decide +kernel
theorem dX9_back_88 : decode cX9_back 88 = .ok (.ireturn, 1) := by decide +kernel
set_option maxRecDepth 20000 in
theorem ggX9_fewest_X6_explore : GoodIn wsX9_fewest wsX6_explore := goodIn_r _ [9, 10, 11, 12, 13, 14, 15, 16, 17, 18, 19, 20, 21, 22, 23, 24, 7, 25, 26, 27, 28, 29, 30, 31, 32, 33, 34, 35, 36, 37, 38, 39, 40, 41, 42, 43, 44, 45, 46, 47, 48, 49, 50, 51, 52, 53, 54, 55, 56, 57, 58, 59, 60, 61, 62, 63, 64, 65, 66, 67, 68, 69, 70, 71, 72, 73, 74, 75, 76, 77, 78, 79, 80, 81, 82, 83, 84, 85, 86, 87, 88, 89, 90, 91, 92, 93, 94, 95, 96, 97, 98, 99, 100, 101, 102, 103, 104, 105, 106, 107, 108, 109, 110, 111, 112, 113, 114, 115, 116, 117, 118, 119, 150, 151, 152, 153, 154, 155, 156, 157, 158, 159, 160, 161, 162, 163, 164, 165, 166, 167, 168, 169, 170, 171, 172, 173, 174, 175, 176, 177, 178, 179, 180, 181, 182, 183] (by decide +kernel) (by decide +kernel)
set_option maxRecDepth 20000 in
theorem gX9_fewest_X6_explore_n246 : GoodIn wsX9_fewest (wsX6_explore) := ggX9_fewest_X6_explore
set_option maxRecDepth 20000 in
theorem ggX9_fewest_X6_leastTillServed : GoodIn wsX9_fewest wsX6_leastTillServed := goodIn_r _ [122, 10, 26, 14, 11, 123, 46, 124, 125, 84, 66, 49, 50, 51, 126, 45, 47, 48, 52, 53, 54, 55, 56, 57, 58, 150, 151, 152, 153, 154, 155, 156, 157, 158, 159, 160, 161, 162, 163, 164, 165, 166, 167, 168, 169, 170, 171, 172, 173, 174, 175, 176, 177, 178] (by decide +kernel) (by decide +kernel)
set_option maxRecDepth 20000 in
theorem gX9_fewest_X6_leastTillServed_n250 : GoodIn wsX9_fewest (wsX6_leastTillServed) := ggX9_fewest_X6_leastTillServed
theorem dX9_fewest_0 : decode cX9_fewest 0 = .ok (.iload_n 1, 1) := by decide +kernel
theorem dX9_fewest_1 : decode cX9_fewest 1 = .ok (.ifCond .eq 18, 3) := by decide +kernel
theorem dX9_fewest_4 : decode cX9_fewest 4 = .ok (.iload_n 1, 1) := by decide +kernel
theorem dX9_fewest_5 : decode cX9_fewest 5 = .ok (.iconst 1, 1) := by decide +kernel
theorem dX9_fewest_6 : decode cX9_fewest 6 = .ok (.if_icmp .eq 13, 3) := by decide +kernel
theorem dX9_fewest_19 : decode cX9_fewest 19 = .ok (.aload_n 0, 1) := by decide +kernel
theorem dX9_fewest_20 : decode cX9_fewest 20 = .ok (.getfield 56, 3) := by decide +kernel
theorem dX9_fewest_23 : decode cX9_fewest 23 = .ok (.aload_n 0, 1) := by decide +kernel
theorem dX9_fewest_24 : decode cX9_fewest 24 = .ok (.getfield 23, 3) := by decide +kernel
theorem dX9_fewest_27 : decode cX9_fewest 27 = .ok (.aload_n 0, 1) := by decide +kernel
theorem dX9_fewest_28 : decode cX9_fewest 28 = .ok (.getfield 42, 3) := by decide +kernel
theorem dX9_fewest_31 : decode cX9_fewest 31 = .ok (.getfield 123, 3) := by decide +kernel
theorem dX9_fewest_34 : decode cX9_fewest 34 = .ok (.iload_n 1, 1) := by decide +kernel
theorem dX9_fewest_35 : decode cX9_fewest 35 = .ok (.iconst 1, 1) := by decide +kernel
theorem dX9_fewest_36 : decode cX9_fewest 36 = .ok (.if_icmp .ne 7, 3) := by decide +kernel
theorem dX9_fewest_39 : decode cX9_fewest 39 = .ok (.iconst 1, 1) := by decide +kernel
theorem dX9_fewest_40 : decode cX9_fewest 40 = .ok (.goto 4, 3) := by decide +kernel
theorem dX9_fewest_43 : decode cX9_fewest 43 = .ok (.iconst 0, 1) := by decide +kernel
theorem dX9_fewest_44 : decode cX9_fewest 44 = .ok (.invokevirtual 246, 3) := by decide +kernel
theorem dX9_fewest_47 : decode cX9_fewest 47 = .ok (.istore_n 2, 1) := by decide +kernel
theorem dX9_fewest_48 : decode cX9_fewest 48 = .ok (.iload_n 2, 1) := by decide +kernel
theorem dX9_fewest_49 : decode cX9_fewest 49 = .ok (.ifCond .eq 13, 3) := by decide +kernel
theorem dX9_fewest_52 : decode cX9_fewest 52 = .ok (.aload_n 0, 1) := by decide +kernel
theorem dX9_fewest_53 : decode cX9_fewest 53 = .ok (.getfield 56, 3) := by decide +kernel
theorem dX9_fewest_56 : decode cX9_fewest 56 = .ok (.invokevirtual 250, 3) := by decide +kernel
theorem dX9_fewest_59 : decode cX9_fewest 59 = .ok (.goto 5, 3) := by decide +kernel
theorem dX9_fewest_64 : decode cX9_fewest 64 = .ok (.ireturn, 1) := by decide +kernel
set_option maxRecDepth 20000 in
theorem ggX9_day_X3_thingsWithAims : GoodIn wsX9_day wsX3_thingsWithAims := goodIn_r _ [6, 7, 8, 32, 33, 34, 35, 36, 37, 38, 39, 40, 41, 42, 43, 44, 45] (by decide +kernel) (by decide +kernel)
set_option maxRecDepth 20000 in
theorem gX9_day_X3_thingsWithAims_n275 : GoodIn wsX9_day (wsX3_thingsWithAims) := ggX9_day_X3_thingsWithAims
theorem dX9_day_0 : decode cX9_day 0 = .ok (.aload_n 0, 1) := by decide +kernel
theorem dX9_day_1 : decode cX9_day 1 = .ok (.getfield 42, 3) := by decide +kernel
theorem dX9_day_4 : decode cX9_day 4 = .ok (.getfield 141, 3) := by decide +kernel
theorem dX9_day_7 : decode cX9_day 7 = .ok (.bipush 6, 2) := by decide +kernel
theorem dX9_day_9 : decode cX9_day 9 = .ok (.if_icmp .ge 17, 3) := by decide +kernel
theorem dX9_day_12 : decode cX9_day 12 = .ok (.iload_n 1, 1) := by decide +kernel
theorem dX9_day_13 : decode cX9_day 13 = .ok (.aload_n 0, 1) := by decide +kernel
theorem dX9_day_14 : decode cX9_day 14 = .ok (.getfield 23, 3) := by decide +kernel
theorem dX9_day_17 : decode cX9_day 17 = .ok (.invokevirtual 275, 3) := by decide +kernel
theorem dX9_day_20 : decode cX9_day 20 = .ok (.iconst (-1), 1) := by decide +kernel
theorem dX9_day_21 : decode cX9_day 21 = .ok (.ixor, 1) := by decide +kernel
theorem dX9_day_22 : decode cX9_day 22 = .ok (.iand, 1) := by decide +kernel
theorem dX9_day_23 : decode cX9_day 23 = .ok (.ifCond .eq 18, 3) := by decide +kernel
theorem dX9_day_26 : decode cX9_day 26 = .ok (.aload_n 0, 1) := by decide +kernel
theorem dX9_day_27 : decode cX9_day 27 = .ok (.getfield 42, 3) := by decide +kernel
theorem dX9_day_30 : decode cX9_day 30 = .ok (.getfield 87, 3) := by decide +kernel
theorem dX9_day_33 : decode cX9_day 33 = .ok (.iconst 2, 1) := by decide +kernel
theorem dX9_day_34 : decode cX9_day 34 = .ok (.dup2, 1) := by decide +kernel
theorem dX9_day_35 : decode cX9_day 35 = .ok (.iaload, 1) := by decide +kernel
theorem dX9_day_36 : decode cX9_day 36 = .ok (.iconst 1, 1) := by decide +kernel
theorem dX9_day_37 : decode cX9_day 37 = .ok (.iadd, 1) := by decide +kernel
theorem dX9_day_38 : decode cX9_day 38 = .ok (.iastore, 1) := by decide +kernel
theorem dX9_day_39 : decode cX9_day 39 = .ok (.iconst (-1), 1) := by decide +kernel
theorem dX9_day_40 : decode cX9_day 40 = .ok (.ireturn, 1) := by decide +kernel
theorem dX9_day_41 : decode cX9_day 41 = .ok (.aload_n 0, 1) := by decide +kernel
theorem dX9_day_42 : decode cX9_day 42 = .ok (.getfield 42, 3) := by decide +kernel
theorem dX9_day_45 : decode cX9_day 45 = .ok (.getfield 278, 3) := by decide +kernel
theorem dX9_day_48 : decode cX9_day 48 = .ok (.aload_n 0, 1) := by decide +kernel
theorem dX9_day_49 : decode cX9_day 49 = .ok (.getfield 42, 3) := by decide +kernel
theorem dX9_day_52 : decode cX9_day 52 = .ok (.getfield 141, 3) := by decide +kernel
theorem dX9_day_55 : decode cX9_day 55 = .ok (.iload_n 1, 1) := by decide +kernel
theorem dX9_day_56 : decode cX9_day 56 = .ok (.iastore, 1) := by decide +kernel
theorem dX9_day_57 : decode cX9_day 57 = .ok (.aload_n 0, 1) := by decide +kernel
theorem dX9_day_58 : decode cX9_day 58 = .ok (.getfield 42, 3) := by decide +kernel
theorem dX9_day_61 : decode cX9_day 61 = .ok (.dup, 1) := by decide +kernel
theorem dX9_day_62 : decode cX9_day 62 = .ok (.getfield 141, 3) := by decide +kernel
theorem dX9_day_65 : decode cX9_day 65 = .ok (.iconst 1, 1) := by decide +kernel
theorem dX9_day_66 : decode cX9_day 66 = .ok (.iadd, 1) := by decide +kernel
theorem dX9_day_67 : decode cX9_day 67 = .ok (.putfield 141, 3) := by decide +kernel
theorem dX9_day_70 : decode cX9_day 70 = .ok (.aload_n 0, 1) := by decide +kernel
theorem dX9_day_71 : decode cX9_day 71 = .ok (.getfield 42, 3) := by decide +kernel
theorem dX9_day_74 : decode cX9_day 74 = .ok (.getfield 141, 3) := by decide +kernel
theorem dX9_day_77 : decode cX9_day 77 = .ok (.ireturn, 1) := by decide +kernel
set_option maxRecDepth 20000 in
theorem ggX9_enough_X3_stones : GoodIn wsX9_enough wsX3_stones := goodIn_r _ [7, 8, 9, 158, 159, 160, 161, 162, 163, 164, 165, 166, 167, 168, 169, 170, 171] (by decide +kernel) (by decide +kernel)
set_option maxRecDepth 20000 in
theorem gX9_enough_X3_stones_n283 : GoodIn wsX9_enough (wsX3_stones) := ggX9_enough_X3_stones
set_option maxRecDepth 20000 in
theorem ggX9_enough_X9_firstFailingDay : GoodIn wsX9_enough wsX9_firstFailingDay := goodIn_r _ [14, 3, 15, 16, 17, 5, 18, 19, 8, 9, 20, 21, 22, 23, 24, 25, 26, 27, 28, 29, 30, 31, 32, 33, 34, 35, 36, 37, 38, 39, 40, 41, 42, 43, 44, 45, 46, 47, 48, 49, 50, 51, 52, 53, 54, 55, 56, 57, 58, 59, 60, 61, 62, 63, 64, 65, 66, 67, 68, 69, 70, 71, 72, 73, 74, 75, 76, 77, 78, 79, 80, 81, 82, 83, 84, 85, 86, 87, 88, 89, 90, 91, 92, 93, 94, 95, 96, 97, 98, 99, 100, 101, 102, 103, 104, 105, 106, 107, 108, 109, 110, 111, 112, 113, 114, 115, 116, 117, 118, 119, 120, 121, 122, 123, 124, 125, 126, 127, 128, 129, 130, 131, 132, 133, 134, 135, 136, 137, 138, 139, 140, 141, 142, 143, 144, 145, 146, 147, 148, 149, 150, 151, 152, 153, 154, 155, 156, 157, 172, 173, 174, 175, 176, 177, 178, 179, 180, 181, 182, 183, 158, 159, 160, 161, 162, 163, 164, 165, 166, 167, 168, 169, 170, 171, 184, 185, 186, 187, 188, 189, 190, 191, 192, 193, 194, 195, 196, 197, 198, 199, 200, 201, 202, 203] (by decide +kernel) (by decide +kernel)
set_option maxRecDepth 20000 in
theorem gX9_enough_X9_firstFailingDay : GoodIn wsX9_enough (wsV RX9 286 RX9 yX9_firstFailingDay wsX9_firstFailingDay) := goodIn_app (goodIn_of _ (by decide +kernel)) ggX9_enough_X9_firstFailingDay
theorem dX9_enough_0 : decode cX9_enough 0 = .ok (.iload_n 1, 1) := by decide +kernel
theorem dX9_enough_1 : decode cX9_enough 1 = .ok (.ifCond .eq 19, 3) := by decide +kernel
theorem dX9_enough_4 : decode cX9_enough 4 = .ok (.iload_n 1, 1) := by decide +kernel
theorem dX9_enough_5 : decode cX9_enough 5 = .ok (.iconst 1, 1) := by decide +kernel
theorem dX9_enough_6 : decode cX9_enough 6 = .ok (.if_icmp .eq 14, 3) := by decide +kernel
theorem dX9_enough_20 : decode cX9_enough 20 = .ok (.iconst (-1), 1) := by decide +kernel
theorem dX9_enough_21 : decode cX9_enough 21 = .ok (.istore_n 2, 1) := by decide +kernel
theorem dX9_enough_22 : decode cX9_enough 22 = .ok (.aload_n 0, 1) := by decide +kernel
theorem dX9_enough_23 : decode cX9_enough 23 = .ok (.getfield 23, 3) := by decide +kernel
theorem dX9_enough_26 : decode cX9_enough 26 = .ok (.invokevirtual 283, 3) := by decide +kernel
theorem dX9_enough_29 : decode cX9_enough 29 = .ok (.istore_n 3, 1) := by decide +kernel
theorem dX9_enough_30 : decode cX9_enough 30 = .ok (.iconst 0, 1) := by decide +kernel
theorem dX9_enough_31 : decode cX9_enough 31 = .ok (.istore 4, 2) := by decide +kernel
theorem dX9_enough_33 : decode cX9_enough 33 = .ok (.iload 4, 2) := by decide +kernel
theorem dX9_enough_35 : decode cX9_enough 35 = .ok (.iload_n 3, 1) := by decide +kernel
theorem dX9_enough_36 : decode cX9_enough 36 = .ok (.if_icmp .gt 47, 3) := by decide +kernel
theorem dX9_enough_39 : decode cX9_enough 39 = .ok (.aload_n 0, 1) := by decide +kernel
theorem dX9_enough_40 : decode cX9_enough 40 = .ok (.iload 4, 2) := by decide +kernel
theorem dX9_enough_42 : decode cX9_enough 42 = .ok (.invokevirtual 286, 3) := by decide +kernel
theorem dX9_enough_45 : decode cX9_enough 45 = .ok (.istore 5, 2) := by decide +kernel
theorem dX9_enough_47 : decode cX9_enough 47 = .ok (.iload 5, 2) := by decide +kernel
theorem dX9_enough_49 : decode cX9_enough 49 = .ok (.bipush (-2), 2) := by decide +kernel
theorem dX9_enough_51 : decode cX9_enough 51 = .ok (.if_icmp .ne 6, 3) := by decide +kernel
theorem dX9_enough_57 : decode cX9_enough 57 = .ok (.iload 5, 2) := by decide +kernel
theorem dX9_enough_59 : decode cX9_enough 59 = .ok (.iconst (-1), 1) := by decide +kernel
theorem dX9_enough_60 : decode cX9_enough 60 = .ok (.if_icmp .ne 14, 3) := by decide +kernel
theorem dX9_enough_63 : decode cX9_enough 63 = .ok (.iload_n 1, 1) := by decide +kernel
theorem dX9_enough_64 : decode cX9_enough 64 = .ok (.ifCond .ne 8, 3) := by decide +kernel
theorem dX9_enough_67 : decode cX9_enough 67 = .ok (.iload 4, 2) := by decide +kernel
theorem dX9_enough_69 : decode cX9_enough 69 = .ok (.goto 4, 3) := by decide +kernel
theorem dX9_enough_72 : decode cX9_enough 72 = .ok (.iload_n 2, 1) := by decide +kernel
theorem dX9_enough_73 : decode cX9_enough 73 = .ok (.ireturn, 1) := by decide +kernel
set_option maxRecDepth 20000 in
theorem ggX9_firstFailingDay_X3_firstStones : GoodIn wsX9_firstFailingDay wsX3_firstStones := goodIn_r _ [7, 8, 9, 160, 161, 162, 163, 164, 165, 166, 167, 168, 169, 170, 171, 172, 173] (by decide +kernel) (by decide +kernel)
set_option maxRecDepth 20000 in
theorem gX9_firstFailingDay_X3_firstStones_n289 : GoodIn wsX9_firstFailingDay (wsX3_firstStones) := ggX9_firstFailingDay_X3_firstStones
theorem dX9_firstFailingDay_0 : decode cX9_firstFailingDay 0 = .ok (.aload_n 0, 1) := by decide +kernel
theorem dX9_firstFailingDay_1 : decode cX9_firstFailingDay 1 = .ok (.getfield 23, 3) := by decide +kernel
theorem dX9_firstFailingDay_4 : decode cX9_firstFailingDay 4 = .ok (.iload_n 1, 1) := by decide +kernel
theorem dX9_firstFailingDay_5 : decode cX9_firstFailingDay 5 = .ok (.invokevirtual 289, 3) := by decide +kernel
theorem dX9_firstFailingDay_8 : decode cX9_firstFailingDay 8 = .ok (.istore_n 2, 1) := by decide +kernel
theorem dX9_firstFailingDay_9 : decode cX9_firstFailingDay 9 = .ok (.iconst 0, 1) := by decide +kernel
theorem dX9_firstFailingDay_10 : decode cX9_firstFailingDay 10 = .ok (.istore_n 3, 1) := by decide +kernel
theorem dX9_firstFailingDay_11 : decode cX9_firstFailingDay 11 = .ok (.iload_n 3, 1) := by decide +kernel
theorem dX9_firstFailingDay_12 : decode cX9_firstFailingDay 12 = .ok (.aload_n 0, 1) := by decide +kernel
theorem dX9_firstFailingDay_13 : decode cX9_firstFailingDay 13 = .ok (.getfield 42, 3) := by decide +kernel
theorem dX9_firstFailingDay_16 : decode cX9_firstFailingDay 16 = .ok (.getfield 141, 3) := by decide +kernel
theorem dX9_firstFailingDay_19 : decode cX9_firstFailingDay 19 = .ok (.if_icmp .ge 67, 3) := by decide +kernel
theorem dX9_firstFailingDay_86 : decode cX9_firstFailingDay 86 = .ok (.iconst (-1), 1) := by decide +kernel
theorem dX9_firstFailingDay_87 : decode cX9_firstFailingDay 87 = .ok (.ireturn, 1) := by decide +kernel
set_option maxRecDepth 20000 in
theorem ggX9_image_X1_copy : GoodIn wsX9_image wsX1_copy := goodIn_r _ [7, 8, 9, 10, 11, 12, 13, 14, 15, 16, 17, 18, 19, 20, 21, 22, 23, 35, 36, 37, 38, 39, 40, 41, 42, 43, 44, 45, 46] (by decide +kernel) (by decide +kernel)
set_option maxRecDepth 20000 in
theorem gX9_image_X1_copy_n292 : GoodIn wsX9_image (wsX1_copy) := ggX9_image_X1_copy
theorem dX9_image_0 : decode cX9_image 0 = .ok (.aload_n 0, 1) := by decide +kernel
theorem dX9_image_1 : decode cX9_image 1 = .ok (.getfield 46, 3) := by decide +kernel
theorem dX9_image_4 : decode cX9_image 4 = .ok (.aload_n 0, 1) := by decide +kernel
theorem dX9_image_5 : decode cX9_image 5 = .ok (.getfield 42, 3) := by decide +kernel
theorem dX9_image_8 : decode cX9_image 8 = .ok (.invokevirtual 292, 3) := by decide +kernel
theorem dX9_image_11 : decode cX9_image 11 = .ok (.aload_n 0, 1) := by decide +kernel
theorem dX9_image_12 : decode cX9_image 12 = .ok (.iconst 1, 1) := by decide +kernel
theorem dX9_image_13 : decode cX9_image 13 = .ok (.putfield 49, 3) := by decide +kernel
theorem dX9_image_16 : decode cX9_image 16 = .ok (.return_, 1) := by decide +kernel
theorem dX9_restore_0 : decode cX9_restore 0 = .ok (.aload_n 0, 1) := by decide +kernel
theorem dX9_restore_1 : decode cX9_restore 1 = .ok (.getfield 49, 3) := by decide +kernel
theorem dX9_restore_4 : decode cX9_restore 4 = .ok (.ifCond .eq 14, 3) := by decide +kernel
theorem dX9_restore_18 : decode cX9_restore 18 = .ok (.aload_n 0, 1) := by decide +kernel
theorem dX9_restore_19 : decode cX9_restore 19 = .ok (.getfield 49, 3) := by decide +kernel
theorem dX9_restore_22 : decode cX9_restore 22 = .ok (.ireturn, 1) := by decide +kernel
theorem dX10_seek_3 : decode cX10_seek 3 = .ok (.iload 4, 2) := by decide +kernel
theorem dX10_seek_5 : decode cX10_seek 5 = .ok (.sipush 8192, 3) := by decide +kernel
theorem dX10_seek_8 : decode cX10_seek 8 = .ok (.if_icmp .ge 17, 3) := by decide +kernel
theorem dX10_seek_11 : decode cX10_seek 11 = .ok (.aload_n 0, 1) := by decide +kernel
theorem dX10_seek_12 : decode cX10_seek 12 = .ok (.getfield 127, 3) := by decide +kernel
theorem dX10_seek_15 : decode cX10_seek 15 = .ok (.iload 4, 2) := by decide +kernel
theorem dX10_seek_17 : decode cX10_seek 17 = .ok (.iconst (-1), 1) := by decide +kernel
theorem dX10_seek_18 : decode cX10_seek 18 = .ok (.iastore, 1) := by decide +kernel
theorem dX10_seek_19 : decode cX10_seek 19 = .ok (.iinc 4 1, 3) := by decide +kernel
theorem dX10_seek_22 : decode cX10_seek 22 = .ok (.goto (-19), 3) := by decide +kernel
theorem dX10_be_0 : decode cX10_be 0 = .ok (.iconst 0, 1) := by decide +kernel
theorem dX10_be_1 : decode cX10_be 1 = .ok (.istore_n 2, 1) := by decide +kernel
theorem dX10_be_2 : decode cX10_be 2 = .ok (.iload_n 2, 1) := by decide +kernel
theorem dX10_be_3 : decode cX10_be 3 = .ok (.aload_n 0, 1) := by decide +kernel
theorem dX10_be_4 : decode cX10_be 4 = .ok (.arraylength, 1) := by decide +kernel
theorem dX10_be_5 : decode cX10_be 5 = .ok (.if_icmp .ge 15, 3) := by decide +kernel
theorem dX10_be_8 : decode cX10_be 8 = .ok (.aload_n 0, 1) := by decide +kernel
theorem dX10_be_9 : decode cX10_be 9 = .ok (.iload_n 2, 1) := by decide +kernel
theorem dX10_be_10 : decode cX10_be 10 = .ok (.aload_n 1, 1) := by decide +kernel
theorem dX10_be_11 : decode cX10_be 11 = .ok (.iload_n 2, 1) := by decide +kernel
theorem dX10_be_12 : decode cX10_be 12 = .ok (.iaload, 1) := by decide +kernel
theorem dX10_be_13 : decode cX10_be 13 = .ok (.iastore, 1) := by decide +kernel
theorem dX10_be_14 : decode cX10_be 14 = .ok (.iinc 2 1, 3) := by decide +kernel
theorem dX10_be_17 : decode cX10_be 17 = .ok (.goto (-15), 3) := by decide +kernel
theorem dX10_be_20 : decode cX10_be 20 = .ok (.return_, 1) := by decide +kernel
theorem dJ7_fill_53178_0 : decode cJ7_fill_53178 0 = .ok (.iconst 0, 1) := by decide +kernel
theorem dJ7_fill_53178_1 : decode cJ7_fill_53178 1 = .ok (.istore_n 2, 1) := by decide +kernel
theorem dJ7_fill_53178_2 : decode cJ7_fill_53178 2 = .ok (.aload_n 0, 1) := by decide +kernel
theorem dJ7_fill_53178_3 : decode cJ7_fill_53178 3 = .ok (.arraylength, 1) := by decide +kernel
theorem dJ7_fill_53178_4 : decode cJ7_fill_53178 4 = .ok (.istore_n 3, 1) := by decide +kernel
theorem dJ7_fill_53178_5 : decode cJ7_fill_53178 5 = .ok (.iload_n 2, 1) := by decide +kernel
theorem dJ7_fill_53178_6 : decode cJ7_fill_53178 6 = .ok (.iload_n 3, 1) := by decide +kernel
theorem dJ7_fill_53178_7 : decode cJ7_fill_53178 7 = .ok (.if_icmp .ge 13, 3) := by decide +kernel
theorem dJ7_fill_53178_10 : decode cJ7_fill_53178 10 = .ok (.aload_n 0, 1) := by decide +kernel
theorem dJ7_fill_53178_11 : decode cJ7_fill_53178 11 = .ok (.iload_n 2, 1) := by decide +kernel
theorem dJ7_fill_53178_12 : decode cJ7_fill_53178 12 = .ok (.iload_n 1, 1) := by decide +kernel
theorem dJ7_fill_53178_13 : decode cJ7_fill_53178 13 = .ok (.iastore, 1) := by decide +kernel
theorem dJ7_fill_53178_14 : decode cJ7_fill_53178 14 = .ok (.iinc 2 1, 3) := by decide +kernel
theorem dJ7_fill_53178_17 : decode cJ7_fill_53178 17 = .ok (.goto (-12), 3) := by decide +kernel
theorem dJ7_fill_53178_20 : decode cJ7_fill_53178 20 = .ok (.return_, 1) := by decide +kernel
