theorem dX10_may_37 : decode cX10_may 37 = .ok (.aload_n 0, 1) := by decide +kernel
theorem dX10_may_38 : decode cX10_may 38 = .ok (.getfield 87, 3) := by decide +kernel
theorem dX10_may_41 : decode cX10_may 41 = .ok (.aload_n 0, 1) := by decide +kernel
theorem dX10_may_42 : decode cX10_may 42 = .ok (.getfield 327, 3) := by decide +kernel
theorem dX10_may_45 : decode cX10_may 45 = .ok (.invokevirtual 401, 3) := by decide +kernel
theorem dX10_may_48 : decode cX10_may 48 = .ok (.ifCond .ne 5, 3) := by decide +kernel
theorem dX10_may_51 : decode cX10_may 51 = .ok (.iconst 0, 1) := by decide +kernel
theorem dX10_may_52 : decode cX10_may 52 = .ok (.ireturn, 1) := by decide +kernel
theorem dX10_may_53 : decode cX10_may 53 = .ok (.aload_n 0, 1) := by decide +kernel
theorem dX10_may_54 : decode cX10_may 54 = .ok (.aload_n 0, 1) := by decide +kernel
theorem dX10_may_55 : decode cX10_may 55 = .ok (.getfield 87, 3) := by decide +kernel
theorem dX10_may_58 : decode cX10_may 58 = .ok (.aload_n 0, 1) := by decide +kernel
theorem dX10_may_59 : decode cX10_may 59 = .ok (.getfield 327, 3) := by decide +kernel
theorem dX10_may_62 : decode cX10_may 62 = .ok (.iload_n 1, 1) := by decide +kernel
theorem dX10_may_63 : decode cX10_may 63 = .ok (.invokevirtual 405, 3) := by decide +kernel
theorem dX10_may_66 : decode cX10_may 66 = .ok (.iconst 0, 1) := by decide +kernel
theorem dX10_may_67 : decode cX10_may 67 = .ok (.istore_n 2, 1) := by decide +kernel
theorem dX10_may_68 : decode cX10_may 68 = .ok (.iconst 0, 1) := by decide +kernel
theorem dX10_may_69 : decode cX10_may 69 = .ok (.istore_n 3, 1) := by decide +kernel
theorem dX10_may_70 : decode cX10_may 70 = .ok (.iload_n 3, 1) := by decide +kernel
theorem dX10_may_71 : decode cX10_may 71 = .ok (.iconst 2, 1) := by decide +kernel
theorem dX10_may_72 : decode cX10_may 72 = .ok (.if_icmp .gt 27, 3) := by decide +kernel
theorem dX10_may_75 : decode cX10_may 75 = .ok (.iload_n 2, 1) := by decide +kernel
theorem dX10_may_76 : decode cX10_may 76 = .ok (.aload_n 0, 1) := by decide +kernel
theorem dX10_may_77 : decode cX10_may 77 = .ok (.iload_n 3, 1) := by decide +kernel
theorem dX10_may_78 : decode cX10_may 78 = .ok (.invokevirtual 409, 3) := by decide +kernel
theorem dX10_may_81 : decode cX10_may 81 = .ok (.ifCond .ne 9, 3) := by decide +kernel
theorem dX10_may_84 : decode cX10_may 84 = .ok (.iconst 1, 1) := by decide +kernel
theorem dX10_may_85 : decode cX10_may 85 = .ok (.iload_n 3, 1) := by decide +kernel
theorem dX10_may_86 : decode cX10_may 86 = .ok (.ishl, 1) := by decide +kernel
theorem dX10_may_87 : decode cX10_may 87 = .ok (.goto 4, 3) := by decide +kernel
theorem dX10_may_90 : decode cX10_may 90 = .ok (.iconst 0, 1) := by decide +kernel
theorem dX10_may_91 : decode cX10_may 91 = .ok (.ior, 1) := by decide +kernel
theorem dX10_may_92 : decode cX10_may 92 = .ok (.istore_n 2, 1) := by decide +kernel
theorem dX10_may_93 : decode cX10_may 93 = .ok (.iinc 3 1, 3) := by decide +kernel
theorem dX10_may_96 : decode cX10_may 96 = .ok (.goto (-26), 3) := by decide +kernel
theorem dX10_may_99 : decode cX10_may 99 = .ok (.iload_n 2, 1) := by decide +kernel
theorem dX10_may_100 : decode cX10_may 100 = .ok (.ireturn, 1) := by decide +kernel
theorem dX10_undo_0 : decode cX10_undo 0 = .ok (.aload_n 0, 1) := by decide +kernel
theorem dX10_undo_1 : decode cX10_undo 1 = .ok (.iconst 0, 1) := by decide +kernel
theorem dX10_undo_2 : decode cX10_undo 2 = .ok (.putfield 171, 3) := by decide +kernel
theorem dX10_undo_5 : decode cX10_undo 5 = .ok (.aload_n 0, 1) := by decide +kernel
theorem dX10_undo_6 : decode cX10_undo 6 = .ok (.getfield 330, 3) := by decide +kernel
theorem dX10_undo_9 : decode cX10_undo 9 = .ok (.ifCond .ne 5, 3) := by decide +kernel
theorem dX10_undo_12 : decode cX10_undo 12 = .ok (.iconst (-1), 1) := by decide +kernel
theorem dX10_undo_13 : decode cX10_undo 13 = .ok (.ireturn, 1) := by decide +kernel
set_option maxRecDepth 20000 in
theorem ggX10_moved_X10_isIn : GoodIn wsX10_moved wsX10_isIn := goodIn_r _ [9] (by decide +kernel) (by decide +kernel)
set_option maxRecDepth 20000 in
theorem gX10_moved_X10_isIn : GoodIn wsX10_moved (va_wsS RX10 177 yX10_isIn wsX10_isIn) := goodIn_app (goodIn_of _ (by decide +kernel)) ggX10_moved_X10_isIn
set_option maxRecDepth 20000 in
theorem ggX10_moved_X10_fail : GoodIn wsX10_moved wsX10_fail := goodIn_r _ [13, 1, 14, 15, 16, 17, 18, 19, 20, 21, 22, 23, 24, 25, 26, 27, 28, 29, 30, 31, 32, 33, 34, 35, 36, 37, 38, 39, 40, 41, 42, 43, 44, 45, 46, 47, 48, 49, 50, 51, 52, 53, 54, 55, 56, 57, 58, 59, 60, 61, 62, 63, 64, 65, 66, 67, 68, 69, 70, 71, 72, 73, 74, 75, 76, 77, 78, 79, 80, 81, 82, 83, 84] (by decide +kernel) (by decide +kernel)
set_option maxRecDepth 20000 in
theorem gX10_moved_X10_fail : GoodIn wsX10_moved (wsV RX10 315 RX10 yX10_fail wsX10_fail) := goodIn_app (goodIn_of _ (by decide +kernel)) ggX10_moved_X10_fail
theorem dX10_moved_0 : decode cX10_moved 0 = .ok (.aload_n 0, 1) := by decide +kernel
theorem dX10_moved_1 : decode cX10_moved 1 = .ok (.iconst 0, 1) := by decide +kernel
theorem dX10_moved_2 : decode cX10_moved 2 = .ok (.putfield 171, 3) := by decide +kernel
theorem dX10_moved_5 : decode cX10_moved 5 = .ok (.iload_n 1, 1) := by decide +kernel
theorem dX10_moved_6 : decode cX10_moved 6 = .ok (.iconst 0, 1) := by decide +kernel
theorem dX10_moved_7 : decode cX10_moved 7 = .ok (.aload_n 0, 1) := by decide +kernel
theorem dX10_moved_8 : decode cX10_moved 8 = .ok (.getfield 330, 3) := by decide +kernel
theorem dX10_moved_11 : decode cX10_moved 11 = .ok (.iconst 1, 1) := by decide +kernel
theorem dX10_moved_12 : decode cX10_moved 12 = .ok (.isub, 1) := by decide +kernel
theorem dX10_moved_13 : decode cX10_moved 13 = .ok (.invokestatic 177, 3) := by decide +kernel
theorem dX10_moved_16 : decode cX10_moved 16 = .ok (.ifCond .ne 9, 3) := by decide +kernel
theorem dX10_moved_19 : decode cX10_moved 19 = .ok (.aload_n 0, 1) := by decide +kernel
theorem dX10_moved_20 : decode cX10_moved 20 = .ok (.iconst 1, 1) := by decide +kernel
theorem dX10_moved_21 : decode cX10_moved 21 = .ok (.invokevirtual 315, 3) := by decide +kernel
theorem dX10_moved_24 : decode cX10_moved 24 = .ok (.ireturn, 1) := by decide +kernel
theorem dX10_back_0 : decode cX10_back 0 = .ok (.aload_n 0, 1) := by decide +kernel
theorem dX10_back_1 : decode cX10_back 1 = .ok (.iconst 0, 1) := by decide +kernel
theorem dX10_back_2 : decode cX10_back 2 = .ok (.putfield 171, 3) := by decide +kernel
theorem dX10_back_5 : decode cX10_back 5 = .ok (.iconst 0, 1) := by decide +kernel
theorem dX10_back_6 : decode cX10_back 6 = .ok (.istore_n 1, 1) := by decide +kernel
theorem dX10_back_7 : decode cX10_back 7 = .ok (.iload_n 1, 1) := by decide +kernel
theorem dX10_back_8 : decode cX10_back 8 = .ok (.bipush 7, 2) := by decide +kernel
theorem dX10_back_10 : decode cX10_back 10 = .ok (.if_icmp .ge 21, 3) := by decide +kernel
theorem dX10_back_13 : decode cX10_back 13 = .ok (.aload_n 0, 1) := by decide +kernel
theorem dX10_back_14 : decode cX10_back 14 = .ok (.getfield 114, 3) := by decide +kernel
theorem dX10_back_17 : decode cX10_back 17 = .ok (.iload_n 1, 1) := by decide +kernel
theorem dX10_back_18 : decode cX10_back 18 = .ok (.aload_n 0, 1) := by decide +kernel
theorem dX10_back_19 : decode cX10_back 19 = .ok (.getfield 87, 3) := by decide +kernel
theorem dX10_back_22 : decode cX10_back 22 = .ok (.iload_n 1, 1) := by decide +kernel
theorem dX10_back_23 : decode cX10_back 23 = .ok (.iaload, 1) := by decide +kernel
theorem dX10_back_24 : decode cX10_back 24 = .ok (.iastore, 1) := by decide +kernel
theorem dX10_back_25 : decode cX10_back 25 = .ok (.iinc 1 1, 3) := by decide +kernel
theorem dX10_back_28 : decode cX10_back 28 = .ok (.goto (-21), 3) := by decide +kernel
theorem dX10_back_31 : decode cX10_back 31 = .ok (.iconst 0, 1) := by decide +kernel
theorem dX10_back_32 : decode cX10_back 32 = .ok (.istore_n 1, 1) := by decide +kernel
theorem dX10_back_33 : decode cX10_back 33 = .ok (.aload_n 0, 1) := by decide +kernel
theorem dX10_back_34 : decode cX10_back 34 = .ok (.getfield 330, 3) := by decide +kernel
theorem dX10_back_37 : decode cX10_back 37 = .ok (.iconst 1, 1) := by decide +kernel
theorem dX10_back_38 : decode cX10_back 38 = .ok (.isub, 1) := by decide +kernel
theorem dX10_back_39 : decode cX10_back 39 = .ok (.istore_n 2, 1) := by decide +kernel
theorem dX10_back_40 : decode cX10_back 40 = .ok (.iload_n 2, 1) := by decide +kernel
theorem dX10_back_41 : decode cX10_back 41 = .ok (.ifCond .lt 100, 3) := by decide +kernel
theorem dX10_back_141 : decode cX10_back 141 = .ok (.iload_n 1, 1) := by decide +kernel
theorem dX10_back_142 : decode cX10_back 142 = .ok (.ireturn, 1) := by decide +kernel
theorem dX10_pack_0 : decode cX10_pack 0 = .ok (.iload_n 1, 1) := by decide +kernel
theorem dX10_pack_1 : decode cX10_pack 1 = .ok (.i2l, 1) := by decide +kernel
theorem dX10_pack_2 : decode cX10_pack 2 = .ok (.lstore_n 2, 1) := by decide +kernel
theorem dX10_pack_3 : decode cX10_pack 3 = .ok (.iconst 0, 1) := by decide +kernel
theorem dX10_pack_4 : decode cX10_pack 4 = .ok (.istore 4, 2) := by decide +kernel
theorem dX10_pack_6 : decode cX10_pack 6 = .ok (.iload 4, 2) := by decide +kernel
theorem dX10_pack_8 : decode cX10_pack 8 = .ok (.bipush 7, 2) := by decide +kernel
theorem dX10_pack_10 : decode cX10_pack 10 = .ok (.if_icmp .ge 21, 3) := by decide +kernel
theorem dX10_pack_13 : decode cX10_pack 13 = .ok (.ldc2_w 425, 3) := by decide +kernel
theorem dX10_pack_16 : decode cX10_pack 16 = .ok (.lload_n 2, 1) := by decide +kernel
theorem dX10_pack_17 : decode cX10_pack 17 = .ok (.lmul, 1) := by decide +kernel
theorem dX10_pack_18 : decode cX10_pack 18 = .ok (.aload_n 0, 1) := by decide +kernel
theorem dX10_pack_19 : decode cX10_pack 19 = .ok (.iload 4, 2) := by decide +kernel
theorem dX10_pack_21 : decode cX10_pack 21 = .ok (.iaload, 1) := by decide +kernel
theorem dX10_pack_22 : decode cX10_pack 22 = .ok (.i2l, 1) := by decide +kernel
theorem dX10_pack_23 : decode cX10_pack 23 = .ok (.ladd, 1) := by decide +kernel
theorem dX10_pack_24 : decode cX10_pack 24 = .ok (.lstore_n 2, 1) := by decide +kernel
theorem dX10_pack_25 : decode cX10_pack 25 = .ok (.iinc 4 1, 3) := by decide +kernel
theorem dX10_pack_28 : decode cX10_pack 28 = .ok (.goto (-22), 3) := by decide +kernel
theorem dX10_pack_31 : decode cX10_pack 31 = .ok (.lload_n 2, 1) := by decide +kernel
theorem dX10_pack_32 : decode cX10_pack 32 = .ok (.lreturn, 1) := by decide +kernel
theorem dX10_unpack_0 : decode cX10_unpack 0 = .ok (.lload_n 1, 1) := by decide +kernel
theorem dX10_unpack_1 : decode cX10_unpack 1 = .ok (.lstore_n 3, 1) := by decide +kernel
theorem dX10_unpack_2 : decode cX10_unpack 2 = .ok (.bipush 6, 2) := by decide +kernel
theorem dX10_unpack_4 : decode cX10_unpack 4 = .ok (.istore 5, 2) := by decide +kernel
theorem dX10_unpack_6 : decode cX10_unpack 6 = .ok (.iload 5, 2) := by decide +kernel
theorem dX10_unpack_8 : decode cX10_unpack 8 = .ok (.ifCond .lt 28, 3) := by decide +kernel
theorem dX10_unpack_11 : decode cX10_unpack 11 = .ok (.aload_n 0, 1) := by decide +kernel
theorem dX10_unpack_12 : decode cX10_unpack 12 = .ok (.getfield 134, 3) := by decide +kernel
theorem dX10_unpack_15 : decode cX10_unpack 15 = .ok (.iload 5, 2) := by decide +kernel
theorem dX10_unpack_17 : decode cX10_unpack 17 = .ok (.lload_n 3, 1) := by decide +kernel
theorem dX10_unpack_18 : decode cX10_unpack 18 = .ok (.ldc2_w 425, 3) := by decide +kernel
theorem dX10_unpack_21 : decode cX10_unpack 21 = .ok (.lrem, 1) := by decide +kernel
theorem dX10_unpack_22 : decode cX10_unpack 22 = .ok (.l2i, 1) := by decide +kernel
theorem dX10_unpack_23 : decode cX10_unpack 23 = .ok (.iastore, 1) := by decide +kernel
theorem dX10_unpack_24 : decode cX10_unpack 24 = .ok (.lload_n 3, 1) := by decide +kernel
theorem dX10_unpack_25 : decode cX10_unpack 25 = .ok (.ldc2_w 425, 3) := by decide +kernel
theorem dX10_unpack_28 : decode cX10_unpack 28 = .ok (.ldiv, 1) := by decide +kernel
theorem dX10_unpack_29 : decode cX10_unpack 29 = .ok (.lstore_n 3, 1) := by decide +kernel
theorem dX10_unpack_30 : decode cX10_unpack 30 = .ok (.iinc 5 (-1), 3) := by decide +kernel
theorem dX10_unpack_33 : decode cX10_unpack 33 = .ok (.goto (-27), 3) := by decide +kernel
theorem dX10_unpack_36 : decode cX10_unpack 36 = .ok (.aload_n 0, 1) := by decide +kernel
theorem dX10_unpack_37 : decode cX10_unpack 37 = .ok (.lload_n 3, 1) := by decide +kernel
theorem dX10_unpack_38 : decode cX10_unpack 38 = .ok (.l2i, 1) := by decide +kernel
theorem dX10_unpack_39 : decode cX10_unpack 39 = .ok (.putfield 427, 3) := by decide +kernel
theorem dX10_unpack_42 : decode cX10_unpack 42 = .ok (.return_, 1) := by decide +kernel
theorem dX10_foldOf_0 : decode cX10_foldOf 0 = .ok (.lload_n 0, 1) := by decide +kernel
theorem dX10_foldOf_1 : decode cX10_foldOf 1 = .ok (.ldc2_w 430, 3) := by decide +kernel
theorem dX10_foldOf_4 : decode cX10_foldOf 4 = .ok (.lmul, 1) := by decide +kernel
theorem dX10_foldOf_5 : decode cX10_foldOf 5 = .ok (.lstore_n 2, 1) := by decide +kernel
theorem dX10_foldOf_6 : decode cX10_foldOf 6 = .ok (.lload_n 2, 1) := by decide +kernel
theorem dX10_foldOf_7 : decode cX10_foldOf 7 = .ok (.bipush 51, 2) := by decide +kernel
theorem dX10_foldOf_9 : decode cX10_foldOf 9 = .ok (.lushr, 1) := by decide +kernel
theorem dX10_foldOf_10 : decode cX10_foldOf 10 = .ok (.l2i, 1) := by decide +kernel
theorem dX10_foldOf_11 : decode cX10_foldOf 11 = .ok (.ireturn, 1) := by decide +kernel
set_option maxRecDepth 20000 in
theorem ggX10_come_X10_foldOf : GoodIn wsX10_come wsX10_foldOf := goodIn_r _ [15, 16] (by decide +kernel) (by decide +kernel)
set_option maxRecDepth 20000 in
theorem gX10_come_X10_foldOf : GoodIn wsX10_come (va_wsS RX10 432 yX10_foldOf wsX10_foldOf) := goodIn_app (goodIn_of _ (by decide +kernel)) ggX10_come_X10_foldOf
theorem dX10_come_0 : decode cX10_come 0 = .ok (.lload_n 1, 1) := by decide +kernel
theorem dX10_come_1 : decode cX10_come 1 = .ok (.invokestatic 432, 3) := by decide +kernel
theorem dX10_come_4 : decode cX10_come 4 = .ok (.istore 4, 2) := by decide +kernel
theorem dX10_come_6 : decode cX10_come 6 = .ok (.aload_n 0, 1) := by decide +kernel
theorem dX10_come_7 : decode cX10_come 7 = .ok (.getfield 127, 3) := by decide +kernel
theorem dX10_come_10 : decode cX10_come 10 = .ok (.iload 4, 2) := by decide +kernel
theorem dX10_come_12 : decode cX10_come 12 = .ok (.iaload, 1) := by decide +kernel
theorem dX10_come_13 : decode cX10_come 13 = .ok (.istore 5, 2) := by decide +kernel
theorem dX10_come_15 : decode cX10_come 15 = .ok (.iload 5, 2) := by decide +kernel
theorem dX10_come_17 : decode cX10_come 17 = .ok (.iconst (-1), 1) := by decide +kernel
theorem dX10_come_18 : decode cX10_come 18 = .ok (.if_icmp .eq 49, 3) := by decide +kernel
theorem dX10_come_21 : decode cX10_come 21 = .ok (.aload_n 0, 1) := by decide +kernel
theorem dX10_come_22 : decode cX10_come 22 = .ok (.getfield 117, 3) := by decide +kernel
theorem dX10_come_25 : decode cX10_come 25 = .ok (.iload 5, 2) := by decide +kernel
theorem dX10_come_27 : decode cX10_come 27 = .ok (.laload, 1) := by decide +kernel
theorem dX10_come_28 : decode cX10_come 28 = .ok (.lload_n 1, 1) := by decide +kernel
theorem dX10_come_29 : decode cX10_come 29 = .ok (.lcmp, 1) := by decide +kernel
theorem dX10_come_30 : decode cX10_come 30 = .ok (.ifCond .eq 6, 3) := by decide +kernel
theorem dX10_come_36 : decode cX10_come 36 = .ok (.aload_n 0, 1) := by decide +kernel
theorem dX10_come_37 : decode cX10_come 37 = .ok (.getfield 121, 3) := by decide +kernel
theorem dX10_come_40 : decode cX10_come 40 = .ok (.iload 5, 2) := by decide +kernel
theorem dX10_come_42 : decode cX10_come 42 = .ok (.aload_n 0, 1) := by decide +kernel
theorem dX10_come_43 : decode cX10_come 43 = .ok (.getfield 121, 3) := by decide +kernel
theorem dX10_come_46 : decode cX10_come 46 = .ok (.iload 5, 2) := by decide +kernel
theorem dX10_come_48 : decode cX10_come 48 = .ok (.iaload, 1) := by decide +kernel
theorem dX10_come_49 : decode cX10_come 49 = .ok (.iload_n 3, 1) := by decide +kernel
theorem dX10_come_50 : decode cX10_come 50 = .ok (.invokestatic 211, 3) := by decide +kernel
theorem dX10_come_53 : decode cX10_come 53 = .ok (.iastore, 1) := by decide +kernel
theorem dX10_come_54 : decode cX10_come 54 = .ok (.return_, 1) := by decide +kernel
theorem dX10_come_67 : decode cX10_come 67 = .ok (.aload_n 0, 1) := by decide +kernel
theorem dX10_come_68 : decode cX10_come 68 = .ok (.getfield 436, 3) := by decide +kernel
theorem dX10_come_71 : decode cX10_come 71 = .ok (.sipush 1500, 3) := by decide +kernel
theorem dX10_come_74 : decode cX10_come 74 = .ok (.if_icmp .ne 9, 3) := by decide +kernel
theorem dX10_come_83 : decode cX10_come 83 = .ok (.aload_n 0, 1) := by decide +kernel
theorem dX10_come_84 : decode cX10_come 84 = .ok (.getfield 117, 3) := by decide +kernel
theorem dX10_come_87 : decode cX10_come 87 = .ok (.aload_n 0, 1) := by decide +kernel
theorem dX10_come_88 : decode cX10_come 88 = .ok (.getfield 436, 3) := by decide +kernel
theorem dX10_come_91 : decode cX10_come 91 = .ok (.lload_n 1, 1) := by decide +kernel
theorem dX10_come_92 : decode cX10_come 92 = .ok (.lastore, 1) := by decide +kernel
theorem dX10_come_93 : decode cX10_come 93 = .ok (.aload_n 0, 1) := by decide +kernel
theorem dX10_come_94 : decode cX10_come 94 = .ok (.getfield 121, 3) := by decide +kernel
theorem dX10_come_97 : decode cX10_come 97 = .ok (.aload_n 0, 1) := by decide +kernel
theorem dX10_come_98 : decode cX10_come 98 = .ok (.getfield 436, 3) := by decide +kernel
theorem dX10_come_101 : decode cX10_come 101 = .ok (.iload_n 3, 1) := by decide +kernel
theorem dX10_come_102 : decode cX10_come 102 = .ok (.iastore, 1) := by decide +kernel
theorem dX10_come_103 : decode cX10_come 103 = .ok (.aload_n 0, 1) := by decide +kernel
theorem dX10_come_104 : decode cX10_come 104 = .ok (.getfield 130, 3) := by decide +kernel
theorem dX10_come_107 : decode cX10_come 107 = .ok (.aload_n 0, 1) := by decide +kernel
theorem dX10_come_108 : decode cX10_come 108 = .ok (.getfield 436, 3) := by decide +kernel
theorem dX10_come_111 : decode cX10_come 111 = .ok (.iconst 0, 1) := by decide +kernel
theorem dX10_come_112 : decode cX10_come 112 = .ok (.bastore, 1) := by decide +kernel
theorem dX10_come_113 : decode cX10_come 113 = .ok (.aload_n 0, 1) := by decide +kernel
theorem dX10_come_114 : decode cX10_come 114 = .ok (.getfield 124, 3) := by decide +kernel
theorem dX10_come_117 : decode cX10_come 117 = .ok (.aload_n 0, 1) := by decide +kernel
theorem dX10_come_118 : decode cX10_come 118 = .ok (.getfield 436, 3) := by decide +kernel
theorem dX10_come_121 : decode cX10_come 121 = .ok (.aload_n 0, 1) := by decide +kernel
theorem dX10_come_122 : decode cX10_come 122 = .ok (.getfield 127, 3) := by decide +kernel
theorem dX10_come_125 : decode cX10_come 125 = .ok (.iload 4, 2) := by decide +kernel
theorem dX10_come_127 : decode cX10_come 127 = .ok (.iaload, 1) := by decide +kernel
theorem dX10_come_128 : decode cX10_come 128 = .ok (.iastore, 1) := by decide +kernel
theorem dX10_come_129 : decode cX10_come 129 = .ok (.aload_n 0, 1) := by decide +kernel
theorem dX10_come_130 : decode cX10_come 130 = .ok (.getfield 127, 3) := by decide +kernel
theorem dX10_come_133 : decode cX10_come 133 = .ok (.iload 4, 2) := by decide +kernel
theorem dX10_come_135 : decode cX10_come 135 = .ok (.aload_n 0, 1) := by decide +kernel
theorem dX10_come_136 : decode cX10_come 136 = .ok (.getfield 436, 3) := by decide +kernel
theorem dX10_come_139 : decode cX10_come 139 = .ok (.iastore, 1) := by decide +kernel
theorem dX10_come_140 : decode cX10_come 140 = .ok (.aload_n 0, 1) := by decide +kernel
theorem dX10_come_141 : decode cX10_come 141 = .ok (.dup, 1) := by decide +kernel
theorem dX10_come_142 : decode cX10_come 142 = .ok (.getfield 436, 3) := by decide +kernel
theorem dX10_come_145 : decode cX10_come 145 = .ok (.iconst 1, 1) := by decide +kernel
theorem dX10_come_146 : decode cX10_come 146 = .ok (.iadd, 1) := by decide +kernel
theorem dX10_come_147 : decode cX10_come 147 = .ok (.putfield 436, 3) := by decide +kernel
theorem dX10_come_150 : decode cX10_come 150 = .ok (.return_, 1) := by decide +kernel
set_option maxRecDepth 20000 in
theorem ggX10_arrange_X10_rideOn : GoodIn wsX10_arrange wsX10_rideOn := goodIn_r _ [11, 4, 5, 12, 13, 14, 15, 16, 17, 10, 18, 19, 20, 21, 22, 23, 2, 24, 25, 26, 27, 28, 29, 30, 31, 32, 33, 34, 35, 36, 37, 38, 39, 40, 41, 42, 43, 44, 45, 46, 47, 48, 49, 50, 51, 52, 53, 54, 55, 56, 57, 58, 59, 60, 61, 62, 63, 64, 65, 66, 67, 68, 69, 70, 71, 72, 73, 74, 75, 76, 77, 78, 79, 80, 81, 82, 83, 84, 85, 86, 87, 88, 89, 90, 91, 92, 93, 94, 95, 96, 97, 1, 98, 99, 100, 101, 102, 114, 115, 116, 117, 118, 119, 120, 121, 122, 123, 124, 125, 126, 127, 128, 129, 130, 131, 132, 133, 134, 135, 136, 137, 138, 139, 140, 141, 142, 143, 144, 145, 146, 147, 148, 149, 150, 151, 152, 153, 154, 155, 156, 157, 158, 159, 160, 161, 162, 163, 164, 165, 166, 167, 168, 169, 170, 171, 172, 173, 174, 175, 176, 177, 178, 179, 180, 181, 182, 183, 184] (by decide +kernel) (by decide +kernel)
set_option maxRecDepth 20000 in
theorem gX10_arrange_X10_rideOn : GoodIn wsX10_arrange (wsV RX10 442 RX10 yX10_rideOn wsX10_rideOn) := goodIn_app (goodIn_of _ (by decide +kernel)) ggX10_arrange_X10_rideOn
theorem dX10_arrange_0 : decode cX10_arrange 0 = .ok (.aload_n 0, 1) := by decide +kernel
theorem dX10_arrange_1 : decode cX10_arrange 1 = .ok (.getfield 439, 3) := by decide +kernel
theorem dX10_arrange_4 : decode cX10_arrange 4 = .ok (.ifCond .eq 4, 3) := by decide +kernel
theorem dX10_arrange_8 : decode cX10_arrange 8 = .ok (.iload_n 1, 1) := by decide +kernel
theorem dX10_arrange_9 : decode cX10_arrange 9 = .ok (.aload_n 0, 1) := by decide +kernel
theorem dX10_arrange_10 : decode cX10_arrange 10 = .ok (.getfield 174, 3) := by decide +kernel
theorem dX10_arrange_13 : decode cX10_arrange 13 = .ok (.if_icmp .ne 8, 3) := by decide +kernel
theorem dX10_arrange_16 : decode cX10_arrange 16 = .ok (.aload_n 0, 1) := by decide +kernel
theorem dX10_arrange_17 : decode cX10_arrange 17 = .ok (.invokevirtual 442, 3) := by decide +kernel
theorem dX10_arrange_20 : decode cX10_arrange 20 = .ok (.return_, 1) := by decide +kernel
set_option maxRecDepth 20000 in
theorem ggX10_rideOn_X10_keepsCap : GoodIn wsX10_rideOn wsX10_keepsCap := goodIn_r _ [10, 11, 12, 13, 14, 9, 15, 16, 17, 18, 19, 20, 97, 98, 99, 100, 101, 102, 103, 104, 105, 106, 107, 108, 109, 110, 111, 112, 113, 114, 115, 116, 117, 118, 119, 120, 121, 122, 123, 124, 125, 126, 127, 128, 129, 130, 131, 132, 133, 134, 135, 136, 137, 138, 139, 140, 141, 142, 143, 144, 145, 146, 147, 148, 149, 150, 151, 152, 153, 154, 155, 156, 157, 158, 159, 160, 161, 162, 163, 164, 165, 166, 167] (by decide +kernel) (by decide +kernel)
set_option maxRecDepth 20000 in
theorem gX10_rideOn_X10_keepsCap : GoodIn wsX10_rideOn (wsV RX10 397 RX10 yX10_keepsCap wsX10_keepsCap) := goodIn_app (goodIn_of _ (by decide +kernel)) ggX10_rideOn_X10_keepsCap
set_option maxRecDepth 20000 in
theorem ggX10_rideOn_X10_keepsRules : GoodIn wsX10_rideOn wsX10_keepsRules := goodIn_r _ [24, 25, 26, 27, 9, 28, 29, 30, 31, 32, 33, 34, 16, 35, 18, 19, 20, 12, 13, 14, 15, 17, 36, 37, 38, 39, 40, 41, 42, 43, 11, 44, 45, 46, 47, 48, 49, 50, 51, 52, 53, 54, 97, 98, 99, 100, 101, 102, 103, 104, 105, 106, 107, 108, 109, 110, 111, 112, 113, 114, 115, 116, 117, 118, 119, 120, 121, 122, 123, 124, 125, 126, 127, 128, 129, 130, 131, 132, 133, 134, 135, 136, 137, 138, 139, 140, 141, 142, 143, 144, 145, 146, 147, 148, 149, 150, 151, 152, 153, 154, 155, 156, 157, 158, 159, 160, 161, 162, 163, 164, 165, 166, 167] (by decide +kernel) (by decide +kernel)
set_option maxRecDepth 20000 in
theorem gX10_rideOn_X10_keepsRules : GoodIn wsX10_rideOn (wsV RX10 401 RX10 yX10_keepsRules wsX10_keepsRules) := goodIn_app (goodIn_of _ (by decide +kernel)) ggX10_rideOn_X10_keepsRules
set_option maxRecDepth 20000 in
theorem ggX10_rideOn_X10_depths : GoodIn wsX10_rideOn wsX10_depths := goodIn_r _ [43, 11, 97, 98, 99, 100, 101, 102, 103, 104, 105, 106, 107, 108, 109, 110, 111, 112, 113, 114, 115, 116, 117, 118, 119, 120, 121, 122, 123, 124, 125, 126, 127, 128, 129, 130, 131, 132, 133, 134, 135, 136, 137, 138, 139, 140, 141, 142, 143, 144, 145, 146, 147, 148, 149, 150, 151, 152, 153, 154, 155, 156, 157, 158, 159, 160, 161, 162, 163, 164, 165, 166, 167] (by decide +kernel) (by decide +kernel)
set_option maxRecDepth 20000 in
theorem gX10_rideOn_X10_depths : GoodIn wsX10_rideOn (wsV RX10 346 RX10 yX10_depths wsX10_depths) := goodIn_app (goodIn_of _ (by decide +kernel)) ggX10_rideOn_X10_depths
set_option maxRecDepth 20000 in
theorem ggX10_rideOn_X10_tellRide : GoodIn wsX10_rideOn wsX10_tellRide := goodIn_r _ [58, 59, 60, 61, 62, 5, 63, 64, 65, 66, 67, 68, 69, 11, 70, 71, 72, 9, 73, 12, 13, 14, 15, 16, 17, 18, 19, 20, 36, 37, 38, 39, 40, 41, 42, 43, 97, 98, 99, 100, 101, 102, 103, 104, 105, 106, 107, 108, 109, 110, 111, 112, 113, 114, 115, 116, 117, 118, 119, 120, 121, 122, 123, 124, 125, 126, 127, 128, 129, 130, 131, 132, 133, 134, 135, 136, 137, 138, 139, 140, 141, 142, 143, 144, 145, 146, 147, 148, 149, 150, 151, 152, 153, 154, 155, 156, 157, 158, 159, 160, 161, 162, 163, 164, 165, 166, 167] (by decide +kernel) (by decide +kernel)
set_option maxRecDepth 20000 in
theorem gX10_rideOn_X10_tellRide : GoodIn wsX10_rideOn (wsV RX10 405 RX10 yX10_tellRide wsX10_tellRide) := goodIn_app (goodIn_of _ (by decide +kernel)) ggX10_rideOn_X10_tellRide
set_option maxRecDepth 20000 in
theorem ggX10_rideOn_X10_swing : GoodIn wsX10_rideOn wsX10_swing := goodIn_r _ [77, 60, 11, 62, 97, 98, 99, 100, 101, 102, 103, 104, 105, 106, 107, 108, 109, 110, 111, 112, 113, 114, 115, 116, 117, 118, 119, 120, 121, 122, 123, 124, 125, 126, 127, 128, 129, 130, 131, 132, 133, 134, 135, 136, 137, 138, 139, 140, 141, 142, 143, 144, 145, 146, 147, 148, 149, 150, 151, 152, 153, 154, 155, 156, 157, 158, 159, 160, 161, 162, 163, 164, 165, 166, 167] (by decide +kernel) (by decide +kernel)
set_option maxRecDepth 20000 in
theorem gX10_rideOn_X10_swing : GoodIn wsX10_rideOn (wsV RX10 409 RX10 yX10_swing wsX10_swing) := goodIn_app (goodIn_of _ (by decide +kernel)) ggX10_rideOn_X10_swing
set_option maxRecDepth 20000 in
theorem ggX10_rideOn_X10_pack : GoodIn wsX10_rideOn wsX10_pack := goodIn_r _ [80, 81] (by decide +kernel) (by decide +kernel)
set_option maxRecDepth 20000 in
theorem gX10_rideOn_X10_pack : GoodIn wsX10_rideOn (va_wsS RX10 451 yX10_pack wsX10_pack) := goodIn_app (goodIn_of _ (by decide +kernel)) ggX10_rideOn_X10_pack
set_option maxRecDepth 20000 in
theorem ggX10_rideOn_X10_come : GoodIn wsX10_rideOn wsX10_come := goodIn_r _ [85, 86, 87, 88, 63, 64, 65, 66, 89, 90, 91, 92, 93, 94, 9, 95, 96, 97, 98, 99, 100, 101, 102, 103, 104, 105, 106, 107, 108, 109, 110, 111, 112, 113, 114, 115, 116, 117, 118, 119, 120, 121, 122, 123, 124, 125, 126, 127, 128, 129, 130, 131, 132, 133, 134, 135, 136, 137, 138, 139, 140, 141, 142, 143, 144, 145, 146, 147, 148, 149, 150, 151, 152, 153, 154, 155, 156, 157, 158, 159, 160, 161, 162, 163, 164, 165, 166, 167] (by decide +kernel) (by decide +kernel)
set_option maxRecDepth 20000 in
theorem gX10_rideOn_X10_come : GoodIn wsX10_rideOn (wsV RX10 458 RX10 yX10_come wsX10_come) := goodIn_app (goodIn_of _ (by decide +kernel)) ggX10_rideOn_X10_come
theorem dX10_rideOn_0 : decode cX10_rideOn 0 = .ok (.aload_n 0, 1) := by decide +kernel
theorem dX10_rideOn_1 : decode cX10_rideOn 1 = .ok (.aload_n 0, 1) := by decide +kernel
theorem dX10_rideOn_2 : decode cX10_rideOn 2 = .ok (.getfield 137, 3) := by decide +kernel
theorem dX10_rideOn_5 : decode cX10_rideOn 5 = .ok (.invokevirtual 397, 3) := by decide +kernel
theorem dX10_rideOn_8 : decode cX10_rideOn 8 = .ok (.ifCond .eq 18, 3) := by decide +kernel
theorem dX10_rideOn_11 : decode cX10_rideOn 11 = .ok (.aload_n 0, 1) := by decide +kernel
theorem dX10_rideOn_12 : decode cX10_rideOn 12 = .ok (.aload_n 0, 1) := by decide +kernel
theorem dX10_rideOn_13 : decode cX10_rideOn 13 = .ok (.getfield 137, 3) := by decide +kernel
theorem dX10_rideOn_16 : decode cX10_rideOn 16 = .ok (.aload_n 0, 1) := by decide +kernel
theorem dX10_rideOn_17 : decode cX10_rideOn 17 = .ok (.getfield 427, 3) := by decide +kernel
theorem dX10_rideOn_20 : decode cX10_rideOn 20 = .ok (.invokevirtual 401, 3) := by decide +kernel
theorem dX10_rideOn_23 : decode cX10_rideOn 23 = .ok (.ifCond .ne 4, 3) := by decide +kernel
theorem dX10_rideOn_27 : decode cX10_rideOn 27 = .ok (.iconst 0, 1) := by decide +kernel
theorem dX10_rideOn_28 : decode cX10_rideOn 28 = .ok (.istore_n 1, 1) := by decide +kernel
theorem dX10_rideOn_29 : decode cX10_rideOn 29 = .ok (.iload_n 1, 1) := by decide +kernel
theorem dX10_rideOn_30 : decode cX10_rideOn 30 = .ok (.aload_n 0, 1) := by decide +kernel
theorem dX10_rideOn_31 : decode cX10_rideOn 31 = .ok (.invokevirtual 346, 3) := by decide +kernel
theorem dX10_rideOn_34 : decode cX10_rideOn 34 = .ok (.if_icmp .gt 80, 3) := by decide +kernel
theorem dX10_rideOn_37 : decode cX10_rideOn 37 = .ok (.iload_n 1, 1) := by decide +kernel
theorem dX10_rideOn_38 : decode cX10_rideOn 38 = .ok (.aload_n 0, 1) := by decide +kernel
theorem dX10_rideOn_39 : decode cX10_rideOn 39 = .ok (.getfield 427, 3) := by decide +kernel
theorem dX10_rideOn_42 : decode cX10_rideOn 42 = .ok (.if_icmp .ne 6, 3) := by decide +kernel
theorem dX10_rideOn_45 : decode cX10_rideOn 45 = .ok (.goto 63, 3) := by decide +kernel
theorem dX10_rideOn_48 : decode cX10_rideOn 48 = .ok (.aload_n 0, 1) := by decide +kernel
theorem dX10_rideOn_49 : decode cX10_rideOn 49 = .ok (.aload_n 0, 1) := by decide +kernel
theorem dX10_rideOn_50 : decode cX10_rideOn 50 = .ok (.getfield 137, 3) := by decide +kernel
theorem dX10_rideOn_53 : decode cX10_rideOn 53 = .ok (.aload_n 0, 1) := by decide +kernel
theorem dX10_rideOn_54 : decode cX10_rideOn 54 = .ok (.getfield 427, 3) := by decide +kernel
theorem dX10_rideOn_57 : decode cX10_rideOn 57 = .ok (.iload_n 1, 1) := by decide +kernel
theorem dX10_rideOn_58 : decode cX10_rideOn 58 = .ok (.invokevirtual 405, 3) := by decide +kernel
theorem dX10_rideOn_61 : decode cX10_rideOn 61 = .ok (.aload_n 0, 1) := by decide +kernel
theorem dX10_rideOn_62 : decode cX10_rideOn 62 = .ok (.getfield 448, 3) := by decide +kernel
theorem dX10_rideOn_65 : decode cX10_rideOn 65 = .ok (.ifCond .ne 11, 3) := by decide +kernel
theorem dX10_rideOn_68 : decode cX10_rideOn 68 = .ok (.aload_n 0, 1) := by decide +kernel
theorem dX10_rideOn_69 : decode cX10_rideOn 69 = .ok (.iconst 1, 1) := by decide +kernel
theorem dX10_rideOn_70 : decode cX10_rideOn 70 = .ok (.invokevirtual 409, 3) := by decide +kernel
theorem dX10_rideOn_73 : decode cX10_rideOn 73 = .ok (.ifCond .ne 35, 3) := by decide +kernel
theorem dX10_rideOn_76 : decode cX10_rideOn 76 = .ok (.aload_n 0, 1) := by decide +kernel
theorem dX10_rideOn_77 : decode cX10_rideOn 77 = .ok (.aload_n 0, 1) := by decide +kernel
theorem dX10_rideOn_78 : decode cX10_rideOn 78 = .ok (.getfield 137, 3) := by decide +kernel
theorem dX10_rideOn_81 : decode cX10_rideOn 81 = .ok (.iload_n 1, 1) := by decide +kernel
theorem dX10_rideOn_82 : decode cX10_rideOn 82 = .ok (.invokestatic 451, 3) := by decide +kernel
theorem dX10_rideOn_85 : decode cX10_rideOn 85 = .ok (.aload_n 0, 1) := by decide +kernel
theorem dX10_rideOn_86 : decode cX10_rideOn 86 = .ok (.getfield 455, 3) := by decide +kernel
theorem dX10_rideOn_89 : decode cX10_rideOn 89 = .ok (.aload_n 0, 1) := by decide +kernel
theorem dX10_rideOn_90 : decode cX10_rideOn 90 = .ok (.getfield 448, 3) := by decide +kernel
theorem dX10_rideOn_93 : decode cX10_rideOn 93 = .ok (.ifCond .eq 10, 3) := by decide +kernel
theorem dX10_rideOn_96 : decode cX10_rideOn 96 = .ok (.aload_n 0, 1) := by decide +kernel
theorem dX10_rideOn_97 : decode cX10_rideOn 97 = .ok (.getfield 391, 3) := by decide +kernel
theorem dX10_rideOn_100 : decode cX10_rideOn 100 = .ok (.goto 4, 3) := by decide +kernel
theorem dX10_rideOn_104 : decode cX10_rideOn 104 = .ok (.iadd, 1) := by decide +kernel
theorem dX10_rideOn_105 : decode cX10_rideOn 105 = .ok (.invokevirtual 458, 3) := by decide +kernel
theorem dX10_rideOn_108 : decode cX10_rideOn 108 = .ok (.iinc 1 1, 3) := by decide +kernel
theorem dX10_rideOn_111 : decode cX10_rideOn 111 = .ok (.goto (-82), 3) := by decide +kernel
theorem dX10_rideOn_114 : decode cX10_rideOn 114 = .ok (.return_, 1) := by decide +kernel
theorem dX10_nearest_0 : decode cX10_nearest 0 = .ok (.iconst (-1), 1) := by decide +kernel
theorem dX10_nearest_1 : decode cX10_nearest 1 = .ok (.istore_n 1, 1) := by decide +kernel
theorem dX10_nearest_2 : decode cX10_nearest 2 = .ok (.iconst 0, 1) := by decide +kernel
theorem dX10_nearest_3 : decode cX10_nearest 3 = .ok (.istore_n 2, 1) := by decide +kernel
theorem dX10_nearest_4 : decode cX10_nearest 4 = .ok (.iload_n 2, 1) := by decide +kernel
theorem dX10_nearest_5 : decode cX10_nearest 5 = .ok (.aload_n 0, 1) := by decide +kernel
theorem dX10_nearest_6 : decode cX10_nearest 6 = .ok (.getfield 436, 3) := by decide +kernel
theorem dX10_nearest_9 : decode cX10_nearest 9 = .ok (.if_icmp .ge 40, 3) := by decide +kernel
theorem dX10_nearest_12 : decode cX10_nearest 12 = .ok (.aload_n 0, 1) := by decide +kernel
theorem dX10_nearest_13 : decode cX10_nearest 13 = .ok (.getfield 130, 3) := by decide +kernel
theorem dX10_nearest_16 : decode cX10_nearest 16 = .ok (.iload_n 2, 1) := by decide +kernel
theorem dX10_nearest_17 : decode cX10_nearest 17 = .ok (.baload, 1) := by decide +kernel
theorem dX10_nearest_18 : decode cX10_nearest 18 = .ok (.ifCond .ne 25, 3) := by decide +kernel
theorem dX10_nearest_21 : decode cX10_nearest 21 = .ok (.iload_n 1, 1) := by decide +kernel
theorem dX10_nearest_22 : decode cX10_nearest 22 = .ok (.iconst (-1), 1) := by decide +kernel
theorem dX10_nearest_23 : decode cX10_nearest 23 = .ok (.if_icmp .eq 18, 3) := by decide +kernel
theorem dX10_nearest_41 : decode cX10_nearest 41 = .ok (.iload_n 2, 1) := by decide +kernel
theorem dX10_nearest_42 : decode cX10_nearest 42 = .ok (.istore_n 1, 1) := by decide +kernel
theorem dX10_nearest_43 : decode cX10_nearest 43 = .ok (.iinc 2 1, 3) := by decide +kernel
theorem dX10_nearest_46 : decode cX10_nearest 46 = .ok (.goto (-42), 3) := by decide +kernel
theorem dX10_nearest_49 : decode cX10_nearest 49 = .ok (.iload_n 1, 1) := by decide +kernel
theorem dX10_nearest_50 : decode cX10_nearest 50 = .ok (.ireturn, 1) := by decide +kernel
set_option maxRecDepth 20000 in
theorem ggX10_seek_X10_pack : GoodIn wsX10_seek wsX10_pack := goodIn_r _ [14, 15] (by decide +kernel) (by decide +kernel)
set_option maxRecDepth 20000 in
theorem gX10_seek_X10_pack : GoodIn wsX10_seek (va_wsS RX10 451 yX10_pack wsX10_pack) := goodIn_app (goodIn_of _ (by decide +kernel)) ggX10_seek_X10_pack
set_option maxRecDepth 20000 in
theorem ggX10_seek_X10_come : GoodIn wsX10_seek wsX10_come := goodIn_r _ [19, 1, 7, 8, 20, 21, 22, 23, 24, 2, 3, 6, 25, 26, 13, 27, 28, 123, 124, 125, 126, 127, 128, 129, 130, 131, 132, 133, 134, 135, 136, 137, 138, 139, 140, 141, 142, 143, 144, 145, 146, 147, 148, 149, 150, 151, 152, 153, 154, 155, 156, 157, 158, 159, 160, 161, 162, 163, 164, 165, 166, 167, 168, 169, 170, 171, 172, 173, 174, 175, 176, 177, 178, 179, 180, 181, 182, 183, 184, 185, 186, 187, 188, 189, 190, 191, 192, 193] (by decide +kernel) (by decide +kernel)
set_option maxRecDepth 20000 in
theorem gX10_seek_X10_come : GoodIn wsX10_seek (wsV RX10 458 RX10 yX10_come wsX10_come) := goodIn_app (goodIn_of _ (by decide +kernel)) ggX10_seek_X10_come
set_option maxRecDepth 20000 in
theorem ggX10_seek_X10_nearest : GoodIn wsX10_seek wsX10_nearest := goodIn_r _ [32, 2, 6, 8, 123, 124, 125, 126, 127, 128, 129, 130, 131, 132, 133, 134, 135, 136, 137, 138, 139, 140, 141, 142, 143, 144, 145, 146, 147, 148, 149, 150, 151, 152, 153, 154, 155, 156, 157, 158, 159, 160, 161, 162, 163, 164, 165, 166, 167, 168, 169, 170, 171, 172, 173, 174, 175, 176, 177, 178, 179, 180, 181, 182, 183, 184, 185, 186, 187, 188, 189, 190, 191, 192, 193] (by decide +kernel) (by decide +kernel)
set_option maxRecDepth 20000 in
theorem gX10_seek_X10_nearest : GoodIn wsX10_seek (wsV RX10 462 RX10 yX10_nearest wsX10_nearest) := goodIn_app (goodIn_of _ (by decide +kernel)) ggX10_seek_X10_nearest
set_option maxRecDepth 20000 in
theorem ggX10_seek_X10_unpack : GoodIn wsX10_seek wsX10_unpack := goodIn_r _ [36, 10, 15, 37, 123, 124, 125, 126, 127, 128, 129, 130, 131, 132, 133, 134, 135, 136, 137, 138, 139, 140, 141, 142, 143, 144, 145, 146, 147, 148, 149, 150, 151, 152, 153, 154, 155, 156, 157, 158, 159, 160, 161, 162, 163, 164, 165, 166, 167, 168, 169, 170, 171, 172, 173, 174, 175, 176, 177, 178, 179, 180, 181, 182, 183, 184, 185, 186, 187, 188, 189, 190, 191, 192, 193] (by decide +kernel) (by decide +kernel)
set_option maxRecDepth 20000 in
theorem gX10_seek_X10_unpack : GoodIn wsX10_seek (wsV RX10 465 RX10 yX10_unpack wsX10_unpack) := goodIn_app (goodIn_of _ (by decide +kernel)) ggX10_seek_X10_unpack
set_option maxRecDepth 20000 in
theorem ggX10_seek_X10_arrange : GoodIn wsX10_seek wsX10_arrange := goodIn_r _ [41, 3, 42, 10, 5, 37, 43, 44, 45, 46, 13, 47, 4, 9, 48, 49, 50, 51, 52, 53, 54, 55, 56, 57, 58, 59, 60, 61, 62, 63, 64, 65, 66, 67, 68, 69, 70, 71, 72, 73, 74, 75, 76, 77, 78, 79, 80, 81, 82, 83, 84, 85, 86, 87, 88, 89, 90, 91, 92, 93, 94, 95, 96, 97, 98, 99, 100, 101, 102, 103, 20, 21, 22, 23, 104, 105, 106, 107, 108, 109, 110, 111, 112, 113, 114, 11, 12, 14, 15, 16, 17, 18, 19, 1, 7, 8, 24, 2, 6, 25, 26, 27, 28, 38, 39, 40, 115, 116, 117, 118, 119, 120, 121, 122, 123, 124, 125, 126, 127, 128, 129, 130, 131, 132, 133, 134, 135, 136, 137, 138, 139, 140, 141, 142, 143, 144, 145, 146, 147, 148, 149, 150, 151, 152, 153, 154, 155, 156, 157, 158, 159, 160, 161, 162, 163, 164, 165, 166, 167, 168, 169, 170, 171, 172, 173, 174, 175, 176, 177, 178, 179, 180, 181, 182, 183, 184, 185, 186, 187, 188, 189, 190, 191, 192, 193] (by decide +kernel) (by decide +kernel)
set_option maxRecDepth 20000 in
theorem gX10_seek_X10_arrange : GoodIn wsX10_seek (wsV RX10 445 RX10 yX10_arrange wsX10_arrange) := goodIn_app (goodIn_of _ (by decide +kernel)) ggX10_seek_X10_arrange
theorem dX10_seek_0 : decode cX10_seek 0 = .ok (.iconst 0, 1) := by decide +kernel
theorem dX10_seek_1 : decode cX10_seek 1 = .ok (.istore 4, 2) := by decide +kernel
theorem dX10_seek_25 : decode cX10_seek 25 = .ok (.aload_n 0, 1) := by decide +kernel
theorem dX10_seek_26 : decode cX10_seek 26 = .ok (.iconst 0, 1) := by decide +kernel
theorem dX10_seek_27 : decode cX10_seek 27 = .ok (.putfield 436, 3) := by decide +kernel
theorem dX10_seek_30 : decode cX10_seek 30 = .ok (.aload_n 0, 1) := by decide +kernel
theorem dX10_seek_31 : decode cX10_seek 31 = .ok (.iconst 0, 1) := by decide +kernel
theorem dX10_seek_32 : decode cX10_seek 32 = .ok (.putfield 439, 3) := by decide +kernel
theorem dX10_seek_35 : decode cX10_seek 35 = .ok (.aload_n 0, 1) := by decide +kernel
theorem dX10_seek_36 : decode cX10_seek 36 = .ok (.iload_n 3, 1) := by decide +kernel
theorem dX10_seek_37 : decode cX10_seek 37 = .ok (.putfield 448, 3) := by decide +kernel
theorem dX10_seek_40 : decode cX10_seek 40 = .ok (.iconst 0, 1) := by decide +kernel
theorem dX10_seek_41 : decode cX10_seek 41 = .ok (.istore 4, 2) := by decide +kernel
theorem dX10_seek_43 : decode cX10_seek 43 = .ok (.iload 4, 2) := by decide +kernel
theorem dX10_seek_45 : decode cX10_seek 45 = .ok (.bipush 7, 2) := by decide +kernel
theorem dX10_seek_47 : decode cX10_seek 47 = .ok (.if_icmp .ge 20, 3) := by decide +kernel
theorem dX10_seek_50 : decode cX10_seek 50 = .ok (.aload_n 0, 1) := by decide +kernel
theorem dX10_seek_51 : decode cX10_seek 51 = .ok (.getfield 137, 3) := by decide +kernel
theorem dX10_seek_54 : decode cX10_seek 54 = .ok (.iload 4, 2) := by decide +kernel
theorem dX10_seek_56 : decode cX10_seek 56 = .ok (.aload_n 1, 1) := by decide +kernel
theorem dX10_seek_57 : decode cX10_seek 57 = .ok (.iload 4, 2) := by decide +kernel
theorem dX10_seek_59 : decode cX10_seek 59 = .ok (.iaload, 1) := by decide +kernel
theorem dX10_seek_60 : decode cX10_seek 60 = .ok (.iastore, 1) := by decide +kernel
theorem dX10_seek_61 : decode cX10_seek 61 = .ok (.iinc 4 1, 3) := by decide +kernel
theorem dX10_seek_64 : decode cX10_seek 64 = .ok (.goto (-21), 3) := by decide +kernel
theorem dX10_seek_67 : decode cX10_seek 67 = .ok (.aload_n 0, 1) := by decide +kernel
theorem dX10_seek_68 : decode cX10_seek 68 = .ok (.aload_n 0, 1) := by decide +kernel
theorem dX10_seek_69 : decode cX10_seek 69 = .ok (.getfield 137, 3) := by decide +kernel
theorem dX10_seek_72 : decode cX10_seek 72 = .ok (.iload_n 2, 1) := by decide +kernel
theorem dX10_seek_73 : decode cX10_seek 73 = .ok (.invokestatic 451, 3) := by decide +kernel
theorem dX10_seek_76 : decode cX10_seek 76 = .ok (.iconst 0, 1) := by decide +kernel
theorem dX10_seek_77 : decode cX10_seek 77 = .ok (.invokevirtual 458, 3) := by decide +kernel
theorem dX10_seek_80 : decode cX10_seek 80 = .ok (.aload_n 0, 1) := by decide +kernel
theorem dX10_seek_81 : decode cX10_seek 81 = .ok (.invokevirtual 462, 3) := by decide +kernel
theorem dX10_seek_84 : decode cX10_seek 84 = .ok (.istore 4, 2) := by decide +kernel
theorem dX10_seek_86 : decode cX10_seek 86 = .ok (.iload 4, 2) := by decide +kernel
theorem dX10_seek_88 : decode cX10_seek 88 = .ok (.iconst (-1), 1) := by decide +kernel
theorem dX10_seek_89 : decode cX10_seek 89 = .ok (.if_icmp .eq 84, 3) := by decide +kernel
theorem dX10_seek_92 : decode cX10_seek 92 = .ok (.aload_n 0, 1) := by decide +kernel
theorem dX10_seek_93 : decode cX10_seek 93 = .ok (.getfield 439, 3) := by decide +kernel
theorem dX10_seek_96 : decode cX10_seek 96 = .ok (.ifCond .ne 77, 3) := by decide +kernel
theorem dX10_seek_99 : decode cX10_seek 99 = .ok (.aload_n 0, 1) := by decide +kernel
theorem dX10_seek_100 : decode cX10_seek 100 = .ok (.getfield 130, 3) := by decide +kernel
theorem dX10_seek_103 : decode cX10_seek 103 = .ok (.iload 4, 2) := by decide +kernel
theorem dX10_seek_105 : decode cX10_seek 105 = .ok (.iconst 1, 1) := by decide +kernel
theorem dX10_seek_106 : decode cX10_seek 106 = .ok (.bastore, 1) := by decide +kernel
theorem dX10_seek_107 : decode cX10_seek 107 = .ok (.aload_n 0, 1) := by decide +kernel
theorem dX10_seek_108 : decode cX10_seek 108 = .ok (.aload_n 0, 1) := by decide +kernel
theorem dX10_seek_109 : decode cX10_seek 109 = .ok (.getfield 117, 3) := by decide +kernel
theorem dX10_seek_112 : decode cX10_seek 112 = .ok (.iload 4, 2) := by decide +kernel
theorem dX10_seek_114 : decode cX10_seek 114 = .ok (.laload, 1) := by decide +kernel
theorem dX10_seek_115 : decode cX10_seek 115 = .ok (.invokevirtual 465, 3) := by decide +kernel
theorem dX10_seek_118 : decode cX10_seek 118 = .ok (.aload_n 0, 1) := by decide +kernel
theorem dX10_seek_119 : decode cX10_seek 119 = .ok (.aload_n 0, 1) := by decide +kernel
theorem dX10_seek_120 : decode cX10_seek 120 = .ok (.getfield 121, 3) := by decide +kernel
theorem dX10_seek_123 : decode cX10_seek 123 = .ok (.iload 4, 2) := by decide +kernel
theorem dX10_seek_125 : decode cX10_seek 125 = .ok (.iaload, 1) := by decide +kernel
theorem dX10_seek_126 : decode cX10_seek 126 = .ok (.putfield 455, 3) := by decide +kernel
theorem dX10_seek_129 : decode cX10_seek 129 = .ok (.iconst 0, 1) := by decide +kernel
theorem dX10_seek_130 : decode cX10_seek 130 = .ok (.istore 5, 2) := by decide +kernel
theorem dX10_seek_132 : decode cX10_seek 132 = .ok (.iload 5, 2) := by decide +kernel
theorem dX10_seek_134 : decode cX10_seek 134 = .ok (.bipush 7, 2) := by decide +kernel
theorem dX10_seek_136 : decode cX10_seek 136 = .ok (.if_icmp .ge 23, 3) := by decide +kernel
theorem dX10_seek_139 : decode cX10_seek 139 = .ok (.aload_n 0, 1) := by decide +kernel
theorem dX10_seek_140 : decode cX10_seek 140 = .ok (.getfield 137, 3) := by decide +kernel
theorem dX10_seek_143 : decode cX10_seek 143 = .ok (.iload 5, 2) := by decide +kernel
theorem dX10_seek_145 : decode cX10_seek 145 = .ok (.aload_n 0, 1) := by decide +kernel
theorem dX10_seek_146 : decode cX10_seek 146 = .ok (.getfield 134, 3) := by decide +kernel
theorem dX10_seek_149 : decode cX10_seek 149 = .ok (.iload 5, 2) := by decide +kernel
theorem dX10_seek_151 : decode cX10_seek 151 = .ok (.iaload, 1) := by decide +kernel
theorem dX10_seek_152 : decode cX10_seek 152 = .ok (.iastore, 1) := by decide +kernel
theorem dX10_seek_153 : decode cX10_seek 153 = .ok (.iinc 5 1, 3) := by decide +kernel
theorem dX10_seek_156 : decode cX10_seek 156 = .ok (.goto (-24), 3) := by decide +kernel
theorem dX10_seek_159 : decode cX10_seek 159 = .ok (.aload_n 0, 1) := by decide +kernel
theorem dX10_seek_160 : decode cX10_seek 160 = .ok (.iconst 0, 1) := by decide +kernel
theorem dX10_seek_161 : decode cX10_seek 161 = .ok (.invokevirtual 445, 3) := by decide +kernel
theorem dX10_seek_164 : decode cX10_seek 164 = .ok (.aload_n 0, 1) := by decide +kernel
theorem dX10_seek_165 : decode cX10_seek 165 = .ok (.invokevirtual 462, 3) := by decide +kernel
theorem dX10_seek_168 : decode cX10_seek 168 = .ok (.istore 4, 2) := by decide +kernel
theorem dX10_seek_170 : decode cX10_seek 170 = .ok (.goto (-84), 3) := by decide +kernel
theorem dX10_seek_173 : decode cX10_seek 173 = .ok (.aload_n 0, 1) := by decide +kernel
theorem dX10_seek_174 : decode cX10_seek 174 = .ok (.getfield 439, 3) := by decide +kernel
theorem dX10_seek_177 : decode cX10_seek 177 = .ok (.ifCond .ne 7, 3) := by decide +kernel
theorem dX10_seek_180 : decode cX10_seek 180 = .ok (.iconst 1, 1) := by decide +kernel
theorem dX10_seek_181 : decode cX10_seek 181 = .ok (.goto 4, 3) := by decide +kernel
theorem dX10_seek_185 : decode cX10_seek 185 = .ok (.ireturn, 1) := by decide +kernel
set_option maxRecDepth 20000 in
theorem ggX10_allServed_X10_unpack : GoodIn wsX10_allServed wsX10_unpack := goodIn_r _ [10, 3, 11, 5, 25, 26, 27, 28, 29, 30, 31, 32, 33, 34, 35, 36, 37, 38, 39, 40, 41, 42, 43, 44, 45, 46, 47, 48, 49, 50, 51, 52, 53, 54, 55, 56, 57, 58, 59, 60, 61, 62, 63, 64, 65, 66, 67, 68, 69, 70, 71, 72, 73, 74, 75, 76, 77, 78, 79, 80, 81, 82, 83, 84, 85, 86, 87, 88, 89, 90, 91, 92, 93, 94, 95] (by decide +kernel) (by decide +kernel)
set_option maxRecDepth 20000 in
theorem gX10_allServed_X10_unpack : GoodIn wsX10_allServed (wsV RX10 465 RX10 yX10_unpack wsX10_unpack) := goodIn_app (goodIn_of _ (by decide +kernel)) ggX10_allServed_X10_unpack
theorem dX10_allServed_0 : decode cX10_allServed 0 = .ok (.aload_n 0, 1) := by decide +kernel
theorem dX10_allServed_1 : decode cX10_allServed 1 = .ok (.aload_n 0, 1) := by decide +kernel
theorem dX10_allServed_2 : decode cX10_allServed 2 = .ok (.getfield 117, 3) := by decide +kernel
theorem dX10_allServed_5 : decode cX10_allServed 5 = .ok (.iload_n 1, 1) := by decide +kernel
theorem dX10_allServed_6 : decode cX10_allServed 6 = .ok (.laload, 1) := by decide +kernel
theorem dX10_allServed_7 : decode cX10_allServed 7 = .ok (.invokevirtual 465, 3) := by decide +kernel
theorem dX10_allServed_10 : decode cX10_allServed 10 = .ok (.iconst 0, 1) := by decide +kernel
theorem dX10_allServed_11 : decode cX10_allServed 11 = .ok (.istore_n 2, 1) := by decide +kernel
theorem dX10_allServed_12 : decode cX10_allServed 12 = .ok (.iload_n 2, 1) := by decide +kernel
theorem dX10_allServed_13 : decode cX10_allServed 13 = .ok (.aload_n 0, 1) := by decide +kernel
theorem dX10_allServed_14 : decode cX10_allServed 14 = .ok (.getfield 174, 3) := by decide +kernel
theorem dX10_allServed_17 : decode cX10_allServed 17 = .ok (.if_icmp .ge 107, 3) := by decide +kernel
theorem dX10_allServed_124 : decode cX10_allServed 124 = .ok (.iconst 1, 1) := by decide +kernel
theorem dX10_allServed_125 : decode cX10_allServed 125 = .ok (.ireturn, 1) := by decide +kernel
set_option maxRecDepth 20000 in
theorem ggX10_leastServed_X10_allServed : GoodIn wsX10_leastServed wsX10_allServed := goodIn_r _ [7, 8, 9, 10, 11, 12, 13, 14, 15, 6, 16, 17, 18, 19, 20, 21, 22, 23, 24, 25, 26, 27, 28, 29, 30, 31, 32, 33, 34, 35, 36, 37, 38, 39, 40, 41, 42, 43, 44, 45, 46, 47, 48, 49, 50, 51, 52, 53, 54, 55, 56, 57, 58, 59, 60, 61, 62, 63, 64, 65, 66, 67, 68, 69, 70, 71, 72, 73, 74, 75, 76, 77, 78, 79, 80, 81, 82, 83, 84, 85, 86, 87, 88, 89, 90, 91, 92, 93, 94, 95, 96, 97, 98, 99, 100, 101] (by decide +kernel) (by decide +kernel)
set_option maxRecDepth 20000 in
theorem gX10_leastServed_X10_allServed : GoodIn wsX10_leastServed (wsV RX10 469 RX10 yX10_allServed wsX10_allServed) := goodIn_app (goodIn_of _ (by decide +kernel)) ggX10_leastServed_X10_allServed
theorem dX10_leastServed_0 : decode cX10_leastServed 0 = .ok (.iconst (-1), 1) := by decide +kernel
theorem dX10_leastServed_1 : decode cX10_leastServed 1 = .ok (.istore_n 1, 1) := by decide +kernel
theorem dX10_leastServed_2 : decode cX10_leastServed 2 = .ok (.iconst 0, 1) := by decide +kernel
theorem dX10_leastServed_3 : decode cX10_leastServed 3 = .ok (.istore_n 2, 1) := by decide +kernel
theorem dX10_leastServed_4 : decode cX10_leastServed 4 = .ok (.iload_n 2, 1) := by decide +kernel
theorem dX10_leastServed_5 : decode cX10_leastServed 5 = .ok (.aload_n 0, 1) := by decide +kernel
theorem dX10_leastServed_6 : decode cX10_leastServed 6 = .ok (.getfield 436, 3) := by decide +kernel
theorem dX10_leastServed_9 : decode cX10_leastServed 9 = .ok (.if_icmp .ge 39, 3) := by decide +kernel
theorem dX10_leastServed_12 : decode cX10_leastServed 12 = .ok (.aload_n 0, 1) := by decide +kernel
theorem dX10_leastServed_13 : decode cX10_leastServed 13 = .ok (.iload_n 2, 1) := by decide +kernel
theorem dX10_leastServed_14 : decode cX10_leastServed 14 = .ok (.invokevirtual 469, 3) := by decide +kernel
theorem dX10_leastServed_17 : decode cX10_leastServed 17 = .ok (.ifCond .eq 25, 3) := by decide +kernel
theorem dX10_leastServed_20 : decode cX10_leastServed 20 = .ok (.iload_n 1, 1) := by decide +kernel
theorem dX10_leastServed_21 : decode cX10_leastServed 21 = .ok (.iconst (-1), 1) := by decide +kernel
theorem dX10_leastServed_22 : decode cX10_leastServed 22 = .ok (.if_icmp .eq 13, 3) := by decide +kernel
theorem dX10_leastServed_25 : decode cX10_leastServed 25 = .ok (.aload_n 0, 1) := by decide +kernel
theorem dX10_leastServed_26 : decode cX10_leastServed 26 = .ok (.getfield 121, 3) := by decide +kernel
theorem dX10_leastServed_29 : decode cX10_leastServed 29 = .ok (.iload_n 2, 1) := by decide +kernel
theorem dX10_leastServed_30 : decode cX10_leastServed 30 = .ok (.iaload, 1) := by decide +kernel
theorem dX10_leastServed_31 : decode cX10_leastServed 31 = .ok (.iload_n 1, 1) := by decide +kernel
theorem dX10_leastServed_32 : decode cX10_leastServed 32 = .ok (.if_icmp .ge 10, 3) := by decide +kernel
theorem dX10_leastServed_35 : decode cX10_leastServed 35 = .ok (.aload_n 0, 1) := by decide +kernel
theorem dX10_leastServed_36 : decode cX10_leastServed 36 = .ok (.getfield 121, 3) := by decide +kernel
theorem dX10_leastServed_39 : decode cX10_leastServed 39 = .ok (.iload_n 2, 1) := by decide +kernel
theorem dX10_leastServed_40 : decode cX10_leastServed 40 = .ok (.iaload, 1) := by decide +kernel
theorem dX10_leastServed_41 : decode cX10_leastServed 41 = .ok (.istore_n 1, 1) := by decide +kernel
theorem dX10_leastServed_42 : decode cX10_leastServed 42 = .ok (.iinc 2 1, 3) := by decide +kernel
theorem dX10_leastServed_45 : decode cX10_leastServed 45 = .ok (.goto (-41), 3) := by decide +kernel
theorem dX10_leastServed_48 : decode cX10_leastServed 48 = .ok (.iload_n 1, 1) := by decide +kernel
theorem dX10_leastServed_49 : decode cX10_leastServed 49 = .ok (.ireturn, 1) := by decide +kernel
set_option maxRecDepth 20000 in
theorem ggX10_fewest_X10_fail : GoodIn wsX10_fewest wsX10_fail := goodIn_r _ [8, 1, 142, 143, 144, 145, 146, 147, 148, 149, 150, 151, 152, 153, 154, 155, 156, 157, 158, 159, 160, 161, 162, 163, 164, 165, 166, 167, 168, 169, 170, 171, 172, 173, 174, 175, 176, 177, 178, 179, 180, 181, 182, 183, 184, 185, 186, 187, 188, 189, 190, 191, 192, 193, 194, 195, 196, 197, 198, 199, 200, 201, 202, 203, 204, 205, 206, 207, 208, 209, 210, 211, 212] (by decide +kernel) (by decide +kernel)
set_option maxRecDepth 20000 in
theorem gX10_fewest_X10_fail : GoodIn wsX10_fewest (wsV RX10 315 RX10 yX10_fail wsX10_fail) := goodIn_app (goodIn_of _ (by decide +kernel)) ggX10_fewest_X10_fail
set_option maxRecDepth 20000 in
theorem ggX10_fewest_X10_seek : GoodIn wsX10_fewest wsX10_seek := goodIn_r _ [12, 13, 14, 15, 16, 17, 18, 19, 20, 21, 22, 23, 24, 7, 25, 26, 27, 28, 29, 30, 31, 32, 33, 34, 35, 36, 37, 38, 39, 40, 41, 42, 43, 44, 45, 46, 47, 48, 49, 50, 51, 52, 53, 54, 55, 56, 57, 58, 59, 60, 61, 62, 63, 64, 65, 66, 67, 68, 69, 70, 71, 72, 73, 74, 75, 76, 77, 78, 79, 80, 81, 82, 83, 84, 85, 86, 87, 88, 89, 90, 91, 92, 93, 94, 95, 96, 97, 98, 99, 100, 101, 102, 103, 104, 105, 106, 107, 108, 109, 110, 111, 112, 113, 114, 115, 116, 117, 118, 119, 120, 121, 122, 123, 124, 125, 126, 127, 128, 129, 130, 131, 132, 133, 142, 143, 144, 145, 146, 147, 148, 149, 150, 151, 152, 153, 154, 155, 156, 157, 158, 159, 160, 161, 162, 163, 164, 165, 166, 167, 168, 169, 170, 171, 172, 173, 174, 175, 176, 177, 178, 179, 180, 181, 182, 183, 184, 185, 186, 187, 188, 189, 190, 191, 192, 193, 194, 195, 196, 197, 198, 199, 200, 201, 202, 203, 204, 205, 206, 207, 208, 209, 210, 211, 212] (by decide +kernel) (by decide +kernel)
set_option maxRecDepth 20000 in
theorem gX10_fewest_X10_seek : GoodIn wsX10_fewest (wsV RX10 472 RX10 yX10_seek wsX10_seek) := goodIn_app (goodIn_of _ (by decide +kernel)) ggX10_fewest_X10_seek
set_option maxRecDepth 20000 in
theorem ggX10_fewest_X10_leastServed : GoodIn wsX10_fewest wsX10_leastServed := goodIn_r _ [137, 14, 20, 138, 139, 140, 7, 141, 19, 53, 22, 54, 48, 44, 45, 46, 47, 26, 130, 131, 132, 133, 88, 89, 90, 91, 92, 93, 94, 95, 64, 142, 143, 144, 145, 146, 147, 148, 149, 150, 151, 152, 153, 154, 155, 156, 157, 158, 159, 160, 161, 162, 163, 164, 165, 166, 167, 168, 169, 170, 171, 172, 173, 174, 175, 176, 177, 178, 179, 180, 181, 182, 183, 184, 185, 186, 187, 188, 189, 190, 191, 192, 193, 194, 195, 196, 197, 198, 199, 200, 201, 202, 203, 204, 205, 206, 207, 208, 209, 210, 211, 212] (by decide +kernel) (by decide +kernel)
set_option maxRecDepth 20000 in
theorem gX10_fewest_X10_leastServed : GoodIn wsX10_fewest (wsV RX10 476 RX10 yX10_leastServed wsX10_leastServed) := goodIn_app (goodIn_of _ (by decide +kernel)) ggX10_fewest_X10_leastServed
theorem dX10_fewest_0 : decode cX10_fewest 0 = .ok (.aload_n 0, 1) := by decide +kernel
theorem dX10_fewest_1 : decode cX10_fewest 1 = .ok (.iconst 0, 1) := by decide +kernel
theorem dX10_fewest_2 : decode cX10_fewest 2 = .ok (.putfield 171, 3) := by decide +kernel
theorem dX10_fewest_5 : decode cX10_fewest 5 = .ok (.iload_n 1, 1) := by decide +kernel
theorem dX10_fewest_6 : decode cX10_fewest 6 = .ok (.ifCond .lt 8, 3) := by decide +kernel
theorem dX10_fewest_9 : decode cX10_fewest 9 = .ok (.iload_n 1, 1) := by decide +kernel
theorem dX10_fewest_10 : decode cX10_fewest 10 = .ok (.iconst 1, 1) := by decide +kernel
theorem dX10_fewest_11 : decode cX10_fewest 11 = .ok (.if_icmp .le 9, 3) := by decide +kernel
theorem dX10_fewest_14 : decode cX10_fewest 14 = .ok (.aload_n 0, 1) := by decide +kernel
theorem dX10_fewest_15 : decode cX10_fewest 15 = .ok (.iconst 1, 1) := by decide +kernel
theorem dX10_fewest_16 : decode cX10_fewest 16 = .ok (.invokevirtual 315, 3) := by decide +kernel
theorem dX10_fewest_19 : decode cX10_fewest 19 = .ok (.ireturn, 1) := by decide +kernel
theorem dX10_fewest_20 : decode cX10_fewest 20 = .ok (.aload_n 0, 1) := by decide +kernel
theorem dX10_fewest_21 : decode cX10_fewest 21 = .ok (.aload_n 0, 1) := by decide +kernel
theorem dX10_fewest_22 : decode cX10_fewest 22 = .ok (.getfield 87, 3) := by decide +kernel
theorem dX10_fewest_25 : decode cX10_fewest 25 = .ok (.aload_n 0, 1) := by decide +kernel
theorem dX10_fewest_26 : decode cX10_fewest 26 = .ok (.getfield 327, 3) := by decide +kernel
theorem dX10_fewest_29 : decode cX10_fewest 29 = .ok (.iload_n 1, 1) := by decide +kernel
theorem dX10_fewest_30 : decode cX10_fewest 30 = .ok (.iconst 1, 1) := by decide +kernel
theorem dX10_fewest_31 : decode cX10_fewest 31 = .ok (.if_icmp .ne 7, 3) := by decide +kernel
theorem dX10_fewest_34 : decode cX10_fewest 34 = .ok (.iconst 1, 1) := by decide +kernel
theorem dX10_fewest_35 : decode cX10_fewest 35 = .ok (.goto 4, 3) := by decide +kernel
theorem dX10_fewest_38 : decode cX10_fewest 38 = .ok (.iconst 0, 1) := by decide +kernel
theorem dX10_fewest_39 : decode cX10_fewest 39 = .ok (.invokevirtual 472, 3) := by decide +kernel
theorem dX10_fewest_42 : decode cX10_fewest 42 = .ok (.ifCond .eq 10, 3) := by decide +kernel
theorem dX10_fewest_45 : decode cX10_fewest 45 = .ok (.aload_n 0, 1) := by decide +kernel
theorem dX10_fewest_46 : decode cX10_fewest 46 = .ok (.invokevirtual 476, 3) := by decide +kernel
theorem dX10_fewest_49 : decode cX10_fewest 49 = .ok (.goto 5, 3) := by decide +kernel
theorem dX10_fewest_54 : decode cX10_fewest 54 = .ok (.ireturn, 1) := by decide +kernel
set_option maxRecDepth 20000 in
theorem ggX10_reach_X10_isThing : GoodIn wsX10_reach wsX10_isThing := goodIn_r _ [6, 7, 8, 9, 5, 10, 146, 147, 148, 149, 150, 151, 152, 153, 154, 155, 156, 157, 158, 159, 160, 161, 162, 163, 164, 165, 166, 167, 168, 169, 170, 171, 172, 173, 174, 175, 176, 177, 178, 179, 180, 181, 182, 183, 184, 185, 186, 187, 188, 189, 190, 191, 192, 193, 194, 195, 196, 197, 198, 199, 200, 201, 202, 203, 204, 205, 206, 207, 208, 209, 210, 211, 212, 213, 214, 215, 216] (by decide +kernel) (by decide +kernel)
set_option maxRecDepth 20000 in
theorem gX10_reach_X10_isThing : GoodIn wsX10_reach (wsV RX10 349 RX10 yX10_isThing wsX10_isThing) := goodIn_app (goodIn_of _ (by decide +kernel)) ggX10_reach_X10_isThing
set_option maxRecDepth 20000 in
theorem ggX10_reach_X10_fail : GoodIn wsX10_reach wsX10_fail := goodIn_r _ [145, 1, 146, 147, 148, 149, 150, 151, 152, 153, 154, 155, 156, 157, 158, 159, 160, 161, 162, 163, 164, 165, 166, 167, 168, 169, 170, 171, 172, 173, 174, 175, 176, 177, 178, 179, 180, 181, 182, 183, 184, 185, 186, 187, 188, 189, 190, 191, 192, 193, 194, 195, 196, 197, 198, 199, 200, 201, 202, 203, 204, 205, 206, 207, 208, 209, 210, 211, 212, 213, 214, 215, 216] (by decide +kernel) (by decide +kernel)
set_option maxRecDepth 20000 in
theorem gX10_reach_X10_fail : GoodIn wsX10_reach (wsV RX10 315 RX10 yX10_fail wsX10_fail) := goodIn_app (goodIn_of _ (by decide +kernel)) ggX10_reach_X10_fail
theorem dX10_reach_0 : decode cX10_reach 0 = .ok (.aload_n 0, 1) := by decide +kernel
theorem dX10_reach_1 : decode cX10_reach 1 = .ok (.iconst 0, 1) := by decide +kernel
theorem dX10_reach_2 : decode cX10_reach 2 = .ok (.putfield 171, 3) := by decide +kernel
theorem dX10_reach_5 : decode cX10_reach 5 = .ok (.aload_n 0, 1) := by decide +kernel
theorem dX10_reach_6 : decode cX10_reach 6 = .ok (.iload_n 1, 1) := by decide +kernel
theorem dX10_reach_7 : decode cX10_reach 7 = .ok (.invokevirtual 349, 3) := by decide +kernel
theorem dX10_reach_10 : decode cX10_reach 10 = .ok (.ifCond .eq 12, 3) := by decide +kernel
theorem dX10_reach_22 : decode cX10_reach 22 = .ok (.aload_n 0, 1) := by decide +kernel
theorem dX10_reach_23 : decode cX10_reach 23 = .ok (.iconst 1, 1) := by decide +kernel
theorem dX10_reach_24 : decode cX10_reach 24 = .ok (.invokevirtual 315, 3) := by decide +kernel
theorem dX10_reach_27 : decode cX10_reach 27 = .ok (.ireturn, 1) := by decide +kernel
set_option maxRecDepth 20000 in
theorem ggX10_bars_X10_isThing : GoodIn wsX10_bars wsX10_isThing := goodIn_r _ [7, 2, 8, 9, 6, 10, 149, 150, 151, 152, 153, 154, 155, 156, 157, 158, 159, 160, 161, 162, 163, 164, 165, 166, 167, 168, 169, 170, 171, 172, 173, 174, 175, 176, 177, 178, 179, 180, 181, 182, 183, 184, 185, 186, 187, 188, 189, 190, 191, 192, 193, 194, 195, 196, 197, 198, 199, 200, 201, 202, 203, 204, 205, 206, 207, 208, 209, 210, 211, 212, 213, 214, 215, 216, 217, 218, 219] (by decide +kernel) (by decide +kernel)
set_option maxRecDepth 20000 in
theorem gX10_bars_X10_isThing : GoodIn wsX10_bars (wsV RX10 349 RX10 yX10_isThing wsX10_isThing) := goodIn_app (goodIn_of _ (by decide +kernel)) ggX10_bars_X10_isThing
set_option maxRecDepth 20000 in
theorem ggX10_bars_X10_fail : GoodIn wsX10_bars wsX10_fail := goodIn_r _ [19, 1, 149, 150, 151, 152, 153, 154, 155, 156, 157, 158, 159, 160, 161, 162, 163, 164, 165, 166, 167, 168, 169, 170, 171, 172, 173, 174, 175, 176, 177, 178, 179, 180, 181, 182, 183, 184, 185, 186, 187, 188, 189, 190, 191, 192, 193, 194, 195, 196, 197, 198, 199, 200, 201, 202, 203, 204, 205, 206, 207, 208, 209, 210, 211, 212, 213, 214, 215, 216, 217, 218, 219] (by decide +kernel) (by decide +kernel)
set_option maxRecDepth 20000 in
theorem gX10_bars_X10_fail : GoodIn wsX10_bars (wsV RX10 315 RX10 yX10_fail wsX10_fail) := goodIn_app (goodIn_of _ (by decide +kernel)) ggX10_bars_X10_fail
theorem dX10_bars_0 : decode cX10_bars 0 = .ok (.aload_n 0, 1) := by decide +kernel
theorem dX10_bars_1 : decode cX10_bars 1 = .ok (.iconst 0, 1) := by decide +kernel
theorem dX10_bars_2 : decode cX10_bars 2 = .ok (.putfield 171, 3) := by decide +kernel
theorem dX10_bars_5 : decode cX10_bars 5 = .ok (.aload_n 0, 1) := by decide +kernel
theorem dX10_bars_6 : decode cX10_bars 6 = .ok (.iload_n 1, 1) := by decide +kernel
theorem dX10_bars_7 : decode cX10_bars 7 = .ok (.invokevirtual 349, 3) := by decide +kernel
theorem dX10_bars_10 : decode cX10_bars 10 = .ok (.ifCond .eq 15, 3) := by decide +kernel
theorem dX10_bars_25 : decode cX10_bars 25 = .ok (.aload_n 0, 1) := by decide +kernel
theorem dX10_bars_26 : decode cX10_bars 26 = .ok (.iconst 1, 1) := by decide +kernel
theorem dX10_bars_27 : decode cX10_bars 27 = .ok (.invokevirtual 315, 3) := by decide +kernel
theorem dX10_bars_30 : decode cX10_bars 30 = .ok (.ireturn, 1) := by decide +kernel
set_option maxRecDepth 20000 in
theorem ggX10_day_X10_isIn : GoodIn wsX10_day wsX10_isIn := goodIn_r _ [10] (by decide +kernel) (by decide +kernel)
set_option maxRecDepth 20000 in
theorem gX10_day_X10_isIn : GoodIn wsX10_day (va_wsS RX10 177 yX10_isIn wsX10_isIn) := goodIn_app (goodIn_of _ (by decide +kernel)) ggX10_day_X10_isIn
theorem dX10_day_0 : decode cX10_day 0 = .ok (.aload_n 0, 1) := by decide +kernel
theorem dX10_day_1 : decode cX10_day 1 = .ok (.iconst 0, 1) := by decide +kernel
theorem dX10_day_2 : decode cX10_day 2 = .ok (.putfield 171, 3) := by decide +kernel
theorem dX10_day_5 : decode cX10_day 5 = .ok (.aload_n 0, 1) := by decide +kernel
theorem dX10_day_6 : decode cX10_day 6 = .ok (.getfield 336, 3) := by decide +kernel
theorem dX10_day_9 : decode cX10_day 9 = .ok (.bipush 6, 2) := by decide +kernel
theorem dX10_day_11 : decode cX10_day 11 = .ok (.if_icmp .ge 23, 3) := by decide +kernel
theorem dX10_day_14 : decode cX10_day 14 = .ok (.iload_n 1, 1) := by decide +kernel
theorem dX10_day_15 : decode cX10_day 15 = .ok (.iconst 0, 1) := by decide +kernel
theorem dX10_day_16 : decode cX10_day 16 = .ok (.iconst 1, 1) := by decide +kernel
theorem dX10_day_17 : decode cX10_day 17 = .ok (.aload_n 0, 1) := by decide +kernel
theorem dX10_day_18 : decode cX10_day 18 = .ok (.getfield 174, 3) := by decide +kernel
theorem dX10_day_21 : decode cX10_day 21 = .ok (.ishl, 1) := by decide +kernel
theorem dX10_day_22 : decode cX10_day 22 = .ok (.iconst 1, 1) := by decide +kernel
theorem dX10_day_23 : decode cX10_day 23 = .ok (.isub, 1) := by decide +kernel
theorem dX10_day_24 : decode cX10_day 24 = .ok (.invokestatic 177, 3) := by decide +kernel
theorem dX10_day_27 : decode cX10_day 27 = .ok (.ifCond .eq 7, 3) := by decide +kernel
theorem dX10_day_30 : decode cX10_day 30 = .ok (.iconst 1, 1) := by decide +kernel
theorem dX10_day_31 : decode cX10_day 31 = .ok (.goto 4, 3) := by decide +kernel
theorem dX10_day_34 : decode cX10_day 34 = .ok (.iconst 0, 1) := by decide +kernel
theorem dX10_day_35 : decode cX10_day 35 = .ok (.istore_n 2, 1) := by decide +kernel
theorem dX10_day_36 : decode cX10_day 36 = .ok (.iconst 0, 1) := by decide +kernel
theorem dX10_day_37 : decode cX10_day 37 = .ok (.istore_n 3, 1) := by decide +kernel
theorem dX10_day_38 : decode cX10_day 38 = .ok (.iload_n 3, 1) := by decide +kernel
theorem dX10_day_39 : decode cX10_day 39 = .ok (.aload_n 0, 1) := by decide +kernel
theorem dX10_day_40 : decode cX10_day 40 = .ok (.getfield 174, 3) := by decide +kernel
theorem dX10_day_43 : decode cX10_day 43 = .ok (.if_icmp .ge 37, 3) := by decide +kernel
theorem dX10_day_80 : decode cX10_day 80 = .ok (.iload_n 2, 1) := by decide +kernel
theorem dX10_day_81 : decode cX10_day 81 = .ok (.ifCond .ne 15, 3) := by decide +kernel
theorem dX10_day_84 : decode cX10_day 84 = .ok (.aload_n 0, 1) := by decide +kernel
theorem dX10_day_85 : decode cX10_day 85 = .ok (.getfield 77, 3) := by decide +kernel
theorem dX10_day_88 : decode cX10_day 88 = .ok (.iconst 2, 1) := by decide +kernel
theorem dX10_day_89 : decode cX10_day 89 = .ok (.dup2, 1) := by decide +kernel
theorem dX10_day_90 : decode cX10_day 90 = .ok (.iaload, 1) := by decide +kernel
theorem dX10_day_91 : decode cX10_day 91 = .ok (.iconst 1, 1) := by decide +kernel
theorem dX10_day_92 : decode cX10_day 92 = .ok (.iadd, 1) := by decide +kernel
theorem dX10_day_93 : decode cX10_day 93 = .ok (.iastore, 1) := by decide +kernel
theorem dX10_day_94 : decode cX10_day 94 = .ok (.iconst (-1), 1) := by decide +kernel
theorem dX10_day_95 : decode cX10_day 95 = .ok (.ireturn, 1) := by decide +kernel
theorem dX10_day_96 : decode cX10_day 96 = .ok (.aload_n 0, 1) := by decide +kernel
theorem dX10_day_97 : decode cX10_day 97 = .ok (.getfield 90, 3) := by decide +kernel
theorem dX10_day_100 : decode cX10_day 100 = .ok (.aload_n 0, 1) := by decide +kernel
theorem dX10_day_101 : decode cX10_day 101 = .ok (.getfield 336, 3) := by decide +kernel
theorem dX10_day_104 : decode cX10_day 104 = .ok (.iload_n 1, 1) := by decide +kernel
theorem dX10_day_105 : decode cX10_day 105 = .ok (.iastore, 1) := by decide +kernel
theorem dX10_day_106 : decode cX10_day 106 = .ok (.aload_n 0, 1) := by decide +kernel
theorem dX10_day_107 : decode cX10_day 107 = .ok (.dup, 1) := by decide +kernel
theorem dX10_day_108 : decode cX10_day 108 = .ok (.getfield 336, 3) := by decide +kernel
theorem dX10_day_111 : decode cX10_day 111 = .ok (.iconst 1, 1) := by decide +kernel
theorem dX10_day_112 : decode cX10_day 112 = .ok (.iadd, 1) := by decide +kernel
theorem dX10_day_113 : decode cX10_day 113 = .ok (.putfield 336, 3) := by decide +kernel
theorem dX10_day_116 : decode cX10_day 116 = .ok (.aload_n 0, 1) := by decide +kernel
theorem dX10_day_117 : decode cX10_day 117 = .ok (.getfield 336, 3) := by decide +kernel
theorem dX10_day_120 : decode cX10_day 120 = .ok (.ireturn, 1) := by decide +kernel
theorem dX10_stonesOf_0 : decode cX10_stonesOf 0 = .ok (.iconst 0, 1) := by decide +kernel
theorem dX10_stonesOf_1 : decode cX10_stonesOf 1 = .ok (.istore_n 1, 1) := by decide +kernel
theorem dX10_stonesOf_2 : decode cX10_stonesOf 2 = .ok (.iconst 0, 1) := by decide +kernel
theorem dX10_stonesOf_3 : decode cX10_stonesOf 3 = .ok (.istore_n 2, 1) := by decide +kernel
theorem dX10_stonesOf_4 : decode cX10_stonesOf 4 = .ok (.iload_n 2, 1) := by decide +kernel
theorem dX10_stonesOf_5 : decode cX10_stonesOf 5 = .ok (.aload_n 0, 1) := by decide +kernel
theorem dX10_stonesOf_6 : decode cX10_stonesOf 6 = .ok (.getfield 174, 3) := by decide +kernel
theorem dX10_stonesOf_9 : decode cX10_stonesOf 9 = .ok (.if_icmp .ge 27, 3) := by decide +kernel
theorem dX10_stonesOf_36 : decode cX10_stonesOf 36 = .ok (.iload_n 1, 1) := by decide +kernel
theorem dX10_stonesOf_37 : decode cX10_stonesOf 37 = .ok (.ireturn, 1) := by decide +kernel
set_option maxRecDepth 20000 in
theorem ggX10_enough_X10_fail : GoodIn wsX10_enough wsX10_fail := goodIn_r _ [7, 1, 152, 153, 154, 155, 156, 157, 158, 159, 160, 161, 162, 163, 164, 165, 166, 167, 168, 169, 170, 171, 172, 173, 174, 175, 176, 177, 178, 179, 180, 181, 182, 183, 184, 185, 186, 187, 188, 189, 190, 191, 192, 193, 194, 195, 196, 197, 198, 199, 200, 201, 202, 203, 204, 205, 206, 207, 208, 209, 210, 211, 212, 213, 214, 215, 216, 217, 218, 219, 220, 221, 222] (by decide +kernel) (by decide +kernel)
set_option maxRecDepth 20000 in
theorem gX10_enough_X10_fail : GoodIn wsX10_enough (wsV RX10 315 RX10 yX10_fail wsX10_fail) := goodIn_app (goodIn_of _ (by decide +kernel)) ggX10_enough_X10_fail
set_option maxRecDepth 20000 in
theorem ggX10_enough_X10_stonesOf : GoodIn wsX10_enough wsX10_stonesOf := goodIn_r _ [11, 12, 13, 152, 153, 154, 155, 156, 157, 158, 159, 160, 161, 162, 163, 164, 165, 166, 167, 168, 169, 170, 171, 172, 173, 174, 175, 176, 177, 178, 179, 180, 181, 182, 183, 184, 185, 186, 187, 188, 189, 190, 191, 192, 193, 194, 195, 196, 197, 198, 199, 200, 201, 202, 203, 204, 205, 206, 207, 208, 209, 210, 211, 212, 213, 214, 215, 216, 217, 218, 219, 220, 221, 222] (by decide +kernel) (by decide +kernel)
set_option maxRecDepth 20000 in
theorem gX10_enough_X10_stonesOf : GoodIn wsX10_enough (wsV RX10 485 RX10 yX10_stonesOf wsX10_stonesOf) := goodIn_app (goodIn_of _ (by decide +kernel)) ggX10_enough_X10_stonesOf
theorem dX10_enough_0 : decode cX10_enough 0 = .ok (.aload_n 0, 1) := by decide +kernel
theorem dX10_enough_1 : decode cX10_enough 1 = .ok (.iconst 0, 1) := by decide +kernel
theorem dX10_enough_2 : decode cX10_enough 2 = .ok (.putfield 171, 3) := by decide +kernel
theorem dX10_enough_5 : decode cX10_enough 5 = .ok (.iload_n 1, 1) := by decide +kernel
theorem dX10_enough_6 : decode cX10_enough 6 = .ok (.ifCond .lt 8, 3) := by decide +kernel
theorem dX10_enough_9 : decode cX10_enough 9 = .ok (.iload_n 1, 1) := by decide +kernel
theorem dX10_enough_10 : decode cX10_enough 10 = .ok (.iconst 1, 1) := by decide +kernel
theorem dX10_enough_11 : decode cX10_enough 11 = .ok (.if_icmp .le 9, 3) := by decide +kernel
theorem dX10_enough_14 : decode cX10_enough 14 = .ok (.aload_n 0, 1) := by decide +kernel
theorem dX10_enough_15 : decode cX10_enough 15 = .ok (.iconst 1, 1) := by decide +kernel
theorem dX10_enough_16 : decode cX10_enough 16 = .ok (.invokevirtual 315, 3) := by decide +kernel
theorem dX10_enough_19 : decode cX10_enough 19 = .ok (.ireturn, 1) := by decide +kernel
theorem dX10_enough_20 : decode cX10_enough 20 = .ok (.iconst (-1), 1) := by decide +kernel
theorem dX10_enough_21 : decode cX10_enough 21 = .ok (.istore_n 2, 1) := by decide +kernel
theorem dX10_enough_22 : decode cX10_enough 22 = .ok (.iconst 0, 1) := by decide +kernel
theorem dX10_enough_23 : decode cX10_enough 23 = .ok (.istore_n 3, 1) := by decide +kernel
theorem dX10_enough_24 : decode cX10_enough 24 = .ok (.iload_n 3, 1) := by decide +kernel
theorem dX10_enough_25 : decode cX10_enough 25 = .ok (.aload_n 0, 1) := by decide +kernel
theorem dX10_enough_26 : decode cX10_enough 26 = .ok (.invokevirtual 485, 3) := by decide +kernel
theorem dX10_enough_29 : decode cX10_enough 29 = .ok (.if_icmp .gt 87, 3) := by decide +kernel
theorem dX10_enough_32 : decode cX10_enough 32 = .ok (.iconst 0, 1) := by decide +kernel
theorem dX10_enough_33 : decode cX10_enough 33 = .ok (.istore 4, 2) := by decide +kernel
theorem dX10_enough_35 : decode cX10_enough 35 = .ok (.iconst 1, 1) := by decide +kernel
theorem dX10_enough_36 : decode cX10_enough 36 = .ok (.istore 5, 2) := by decide +kernel
theorem dX10_enough_38 : decode cX10_enough 38 = .ok (.iload 4, 2) := by decide +kernel
theorem dX10_enough_40 : decode cX10_enough 40 = .ok (.aload_n 0, 1) := by decide +kernel
theorem dX10_enough_41 : decode cX10_enough 41 = .ok (.getfield 336, 3) := by decide +kernel
theorem dX10_enough_44 : decode cX10_enough 44 = .ok (.if_icmp .ge 37, 3) := by decide +kernel
theorem dX10_enough_81 : decode cX10_enough 81 = .ok (.iload 5, 2) := by decide +kernel
theorem dX10_enough_83 : decode cX10_enough 83 = .ok (.bipush (-2), 2) := by decide +kernel
theorem dX10_enough_85 : decode cX10_enough 85 = .ok (.if_icmp .ne 6, 3) := by decide +kernel
theorem dX10_enough_91 : decode cX10_enough 91 = .ok (.iload 5, 2) := by decide +kernel
theorem dX10_enough_93 : decode cX10_enough 93 = .ok (.iconst 1, 1) := by decide +kernel
theorem dX10_enough_94 : decode cX10_enough 94 = .ok (.if_icmp .ne 13, 3) := by decide +kernel
theorem dX10_enough_97 : decode cX10_enough 97 = .ok (.iload_n 1, 1) := by decide +kernel
theorem dX10_enough_98 : decode cX10_enough 98 = .ok (.ifCond .ne 7, 3) := by decide +kernel
theorem dX10_enough_101 : decode cX10_enough 101 = .ok (.iload_n 3, 1) := by decide +kernel
theorem dX10_enough_102 : decode cX10_enough 102 = .ok (.goto 4, 3) := by decide +kernel
theorem dX10_enough_105 : decode cX10_enough 105 = .ok (.iload_n 2, 1) := by decide +kernel
theorem dX10_enough_106 : decode cX10_enough 106 = .ok (.ireturn, 1) := by decide +kernel
set_option maxRecDepth 20000 in
theorem ggX10_image_X10_be : GoodIn wsX10_image wsX10_be := goodIn_r _ [30] (by decide +kernel) (by decide +kernel)
set_option maxRecDepth 20000 in
theorem gX10_image_X10_be : GoodIn wsX10_image (va_wsS RX10 503 yX10_be wsX10_be) := goodIn_app (goodIn_of _ (by decide +kernel)) ggX10_image_X10_be
theorem dX10_image_0 : decode cX10_image 0 = .ok (.aload_n 0, 1) := by decide +kernel
theorem dX10_image_1 : decode cX10_image 1 = .ok (.iconst 0, 1) := by decide +kernel
theorem dX10_image_2 : decode cX10_image 2 = .ok (.putfield 171, 3) := by decide +kernel
theorem dX10_image_5 : decode cX10_image 5 = .ok (.aload_n 0, 1) := by decide +kernel
theorem dX10_image_6 : decode cX10_image 6 = .ok (.iconst 1, 1) := by decide +kernel
theorem dX10_image_7 : decode cX10_image 7 = .ok (.putfield 339, 3) := by decide +kernel
theorem dX10_image_10 : decode cX10_image 10 = .ok (.aload_n 0, 1) := by decide +kernel
theorem dX10_image_11 : decode cX10_image 11 = .ok (.aload_n 0, 1) := by decide +kernel
theorem dX10_image_12 : decode cX10_image 12 = .ok (.getfield 327, 3) := by decide +kernel
theorem dX10_image_15 : decode cX10_image 15 = .ok (.putfield 491, 3) := by decide +kernel
theorem dX10_image_18 : decode cX10_image 18 = .ok (.aload_n 0, 1) := by decide +kernel
theorem dX10_image_19 : decode cX10_image 19 = .ok (.aload_n 0, 1) := by decide +kernel
theorem dX10_image_20 : decode cX10_image 20 = .ok (.getfield 330, 3) := by decide +kernel
theorem dX10_image_23 : decode cX10_image 23 = .ok (.putfield 494, 3) := by decide +kernel
theorem dX10_image_26 : decode cX10_image 26 = .ok (.aload_n 0, 1) := by decide +kernel
theorem dX10_image_27 : decode cX10_image 27 = .ok (.aload_n 0, 1) := by decide +kernel
theorem dX10_image_28 : decode cX10_image 28 = .ok (.getfield 333, 3) := by decide +kernel
theorem dX10_image_31 : decode cX10_image 31 = .ok (.putfield 497, 3) := by decide +kernel
theorem dX10_image_34 : decode cX10_image 34 = .ok (.aload_n 0, 1) := by decide +kernel
theorem dX10_image_35 : decode cX10_image 35 = .ok (.aload_n 0, 1) := by decide +kernel
theorem dX10_image_36 : decode cX10_image 36 = .ok (.getfield 336, 3) := by decide +kernel
theorem dX10_image_39 : decode cX10_image 39 = .ok (.putfield 500, 3) := by decide +kernel
theorem dX10_image_42 : decode cX10_image 42 = .ok (.aload_n 0, 1) := by decide +kernel
theorem dX10_image_43 : decode cX10_image 43 = .ok (.getfield 143, 3) := by decide +kernel
theorem dX10_image_46 : decode cX10_image 46 = .ok (.aload_n 0, 1) := by decide +kernel
theorem dX10_image_47 : decode cX10_image 47 = .ok (.getfield 87, 3) := by decide +kernel
theorem dX10_image_50 : decode cX10_image 50 = .ok (.invokestatic 503, 3) := by decide +kernel
theorem dX10_image_53 : decode cX10_image 53 = .ok (.aload_n 0, 1) := by decide +kernel
theorem dX10_image_54 : decode cX10_image 54 = .ok (.getfield 146, 3) := by decide +kernel
theorem dX10_image_57 : decode cX10_image 57 = .ok (.aload_n 0, 1) := by decide +kernel
theorem dX10_image_58 : decode cX10_image 58 = .ok (.getfield 90, 3) := by decide +kernel
theorem dX10_image_61 : decode cX10_image 61 = .ok (.invokestatic 503, 3) := by decide +kernel
theorem dX10_image_64 : decode cX10_image 64 = .ok (.aload_n 0, 1) := by decide +kernel
theorem dX10_image_65 : decode cX10_image 65 = .ok (.getfield 149, 3) := by decide +kernel
theorem dX10_image_68 : decode cX10_image 68 = .ok (.aload_n 0, 1) := by decide +kernel
theorem dX10_image_69 : decode cX10_image 69 = .ok (.getfield 93, 3) := by decide +kernel
theorem dX10_image_72 : decode cX10_image 72 = .ok (.invokestatic 503, 3) := by decide +kernel
theorem dX10_image_75 : decode cX10_image 75 = .ok (.aload_n 0, 1) := by decide +kernel
theorem dX10_image_76 : decode cX10_image 76 = .ok (.getfield 152, 3) := by decide +kernel
theorem dX10_image_79 : decode cX10_image 79 = .ok (.aload_n 0, 1) := by decide +kernel
theorem dX10_image_80 : decode cX10_image 80 = .ok (.getfield 96, 3) := by decide +kernel
theorem dX10_image_83 : decode cX10_image 83 = .ok (.invokestatic 503, 3) := by decide +kernel
theorem dX10_image_86 : decode cX10_image 86 = .ok (.aload_n 0, 1) := by decide +kernel
theorem dX10_image_87 : decode cX10_image 87 = .ok (.getfield 155, 3) := by decide +kernel
theorem dX10_image_90 : decode cX10_image 90 = .ok (.aload_n 0, 1) := by decide +kernel
theorem dX10_image_91 : decode cX10_image 91 = .ok (.getfield 99, 3) := by decide +kernel
theorem dX10_image_94 : decode cX10_image 94 = .ok (.invokestatic 503, 3) := by decide +kernel
theorem dX10_image_97 : decode cX10_image 97 = .ok (.aload_n 0, 1) := by decide +kernel
theorem dX10_image_98 : decode cX10_image 98 = .ok (.getfield 158, 3) := by decide +kernel
theorem dX10_image_101 : decode cX10_image 101 = .ok (.aload_n 0, 1) := by decide +kernel
theorem dX10_image_102 : decode cX10_image 102 = .ok (.getfield 102, 3) := by decide +kernel
theorem dX10_image_105 : decode cX10_image 105 = .ok (.invokestatic 503, 3) := by decide +kernel
