set_option maxRecDepth 20000 in
theorem dX10_fail_0_b : (decode cX10_fail 0 = .ok (.aload_n 0, 1)) ∧ (decode cX10_fail 1 = .ok (.iload_n 1, 1)) ∧ (decode cX10_fail 2 = .ok (.putfield 171, 3)) ∧ (decode cX10_fail 5 = .ok (.iconst 0, 1)) ∧ (decode cX10_fail 6 = .ok (.ireturn, 1)) := by decide +kernel
theorem dX10_fail_0 : decode cX10_fail 0 = .ok (.aload_n 0, 1) := dX10_fail_0_b.1
theorem dX10_fail_1 : decode cX10_fail 1 = .ok (.iload_n 1, 1) := dX10_fail_0_b.2.1
theorem dX10_fail_2 : decode cX10_fail 2 = .ok (.putfield 171, 3) := dX10_fail_0_b.2.2.1
theorem dX10_fail_5 : decode cX10_fail 5 = .ok (.iconst 0, 1) := dX10_fail_0_b.2.2.2.1
theorem dX10_fail_6 : decode cX10_fail 6 = .ok (.ireturn, 1) := dX10_fail_0_b.2.2.2.2
set_option maxRecDepth 20000 in
theorem dX10_isIn_0_b : (decode cX10_isIn 0 = .ok (.iload_n 0, 1)) ∧ (decode cX10_isIn 1 = .ok (.iload_n 1, 1)) ∧ (decode cX10_isIn 2 = .ok (.if_icmp .lt 12, 3)) ∧ (decode cX10_isIn 5 = .ok (.iload_n 0, 1)) ∧ (decode cX10_isIn 6 = .ok (.iload_n 2, 1)) ∧ (decode cX10_isIn 7 = .ok (.if_icmp .gt 7, 3)) := by decide +kernel
theorem dX10_isIn_0 : decode cX10_isIn 0 = .ok (.iload_n 0, 1) := dX10_isIn_0_b.1
theorem dX10_isIn_1 : decode cX10_isIn 1 = .ok (.iload_n 1, 1) := dX10_isIn_0_b.2.1
theorem dX10_isIn_2 : decode cX10_isIn 2 = .ok (.if_icmp .lt 12, 3) := dX10_isIn_0_b.2.2.1
theorem dX10_isIn_5 : decode cX10_isIn 5 = .ok (.iload_n 0, 1) := dX10_isIn_0_b.2.2.2.1
theorem dX10_isIn_6 : decode cX10_isIn 6 = .ok (.iload_n 2, 1) := dX10_isIn_0_b.2.2.2.2.1
theorem dX10_isIn_7 : decode cX10_isIn 7 = .ok (.if_icmp .gt 7, 3) := dX10_isIn_0_b.2.2.2.2.2
set_option maxRecDepth 20000 in
theorem dX10_isIn_10_b : (decode cX10_isIn 10 = .ok (.iconst 1, 1)) ∧ (decode cX10_isIn 11 = .ok (.goto 4, 3)) ∧ (decode cX10_isIn 14 = .ok (.iconst 0, 1)) ∧ (decode cX10_isIn 15 = .ok (.ireturn, 1)) := by decide +kernel
theorem dX10_isIn_10 : decode cX10_isIn 10 = .ok (.iconst 1, 1) := dX10_isIn_10_b.1
theorem dX10_isIn_11 : decode cX10_isIn 11 = .ok (.goto 4, 3) := dX10_isIn_10_b.2.1
theorem dX10_isIn_14 : decode cX10_isIn 14 = .ok (.iconst 0, 1) := dX10_isIn_10_b.2.2.1
theorem dX10_isIn_15 : decode cX10_isIn 15 = .ok (.ireturn, 1) := dX10_isIn_10_b.2.2.2
set_option maxRecDepth 20000 in
theorem ggX10_isThing_X10_isIn : GoodIn wsX10_isThing wsX10_isIn := goodIn_r _ [5] (by decide +kernel) (by decide +kernel)
set_option maxRecDepth 20000 in
theorem gX10_isThing_X10_isIn : GoodIn wsX10_isThing (va_wsS RX10 177 yX10_isIn wsX10_isIn) := goodIn_app (goodIn_of _ (by decide +kernel)) ggX10_isThing_X10_isIn
set_option maxRecDepth 20000 in
theorem dX10_isThing_0_b : (decode cX10_isThing 0 = .ok (.iload_n 1, 1)) ∧ (decode cX10_isThing 1 = .ok (.iconst 0, 1)) ∧ (decode cX10_isThing 2 = .ok (.aload_n 0, 1)) ∧ (decode cX10_isThing 3 = .ok (.getfield 174, 3)) ∧ (decode cX10_isThing 6 = .ok (.iconst 1, 1)) ∧ (decode cX10_isThing 7 = .ok (.isub, 1)) := by decide +kernel
theorem dX10_isThing_0 : decode cX10_isThing 0 = .ok (.iload_n 1, 1) := dX10_isThing_0_b.1
theorem dX10_isThing_1 : decode cX10_isThing 1 = .ok (.iconst 0, 1) := dX10_isThing_0_b.2.1
theorem dX10_isThing_2 : decode cX10_isThing 2 = .ok (.aload_n 0, 1) := dX10_isThing_0_b.2.2.1
theorem dX10_isThing_3 : decode cX10_isThing 3 = .ok (.getfield 174, 3) := dX10_isThing_0_b.2.2.2.1
theorem dX10_isThing_6 : decode cX10_isThing 6 = .ok (.iconst 1, 1) := dX10_isThing_0_b.2.2.2.2.1
theorem dX10_isThing_7 : decode cX10_isThing 7 = .ok (.isub, 1) := dX10_isThing_0_b.2.2.2.2.2
set_option maxRecDepth 20000 in
theorem dX10_isThing_8_b : (decode cX10_isThing 8 = .ok (.invokestatic 177, 3)) ∧ (decode cX10_isThing 11 = .ok (.ireturn, 1)) := by decide +kernel
theorem dX10_isThing_8 : decode cX10_isThing 8 = .ok (.invokestatic 177, 3) := dX10_isThing_8_b.1
theorem dX10_isThing_11 : decode cX10_isThing 11 = .ok (.ireturn, 1) := dX10_isThing_8_b.2
set_option maxRecDepth 20000 in
theorem dX10_depths_0_b : (decode cX10_depths 0 = .ok (.aload_n 0, 1)) ∧ (decode cX10_depths 1 = .ok (.getfield 54, 3)) ∧ (decode cX10_depths 4 = .ok (.iconst 0, 1)) ∧ (decode cX10_depths 5 = .ok (.iaload, 1)) ∧ (decode cX10_depths 6 = .ok (.ireturn, 1)) := by decide +kernel
theorem dX10_depths_0 : decode cX10_depths 0 = .ok (.aload_n 0, 1) := dX10_depths_0_b.1
theorem dX10_depths_1 : decode cX10_depths 1 = .ok (.getfield 54, 3) := dX10_depths_0_b.2.1
theorem dX10_depths_4 : decode cX10_depths 4 = .ok (.iconst 0, 1) := dX10_depths_0_b.2.2.1
theorem dX10_depths_5 : decode cX10_depths 5 = .ok (.iaload, 1) := dX10_depths_0_b.2.2.2.1
theorem dX10_depths_6 : decode cX10_depths 6 = .ok (.ireturn, 1) := dX10_depths_0_b.2.2.2.2
set_option maxRecDepth 20000 in
theorem dX10_feed_0_b : (decode cX10_feed 0 = .ok (.aload_n 0, 1)) ∧ (decode cX10_feed 1 = .ok (.iconst 0, 1)) ∧ (decode cX10_feed 2 = .ok (.putfield 171, 3)) ∧ (decode cX10_feed 5 = .ok (.aload_n 0, 1)) ∧ (decode cX10_feed 6 = .ok (.getfield 181, 3)) ∧ (decode cX10_feed 9 = .ok (.bipush 20, 2)) := by decide +kernel
theorem dX10_feed_0 : decode cX10_feed 0 = .ok (.aload_n 0, 1) := dX10_feed_0_b.1
theorem dX10_feed_1 : decode cX10_feed 1 = .ok (.iconst 0, 1) := dX10_feed_0_b.2.1
theorem dX10_feed_2 : decode cX10_feed 2 = .ok (.putfield 171, 3) := dX10_feed_0_b.2.2.1
theorem dX10_feed_5 : decode cX10_feed 5 = .ok (.aload_n 0, 1) := dX10_feed_0_b.2.2.2.1
theorem dX10_feed_6 : decode cX10_feed 6 = .ok (.getfield 181, 3) := dX10_feed_0_b.2.2.2.2.1
theorem dX10_feed_9 : decode cX10_feed 9 = .ok (.bipush 20, 2) := dX10_feed_0_b.2.2.2.2.2
set_option maxRecDepth 20000 in
theorem dX10_feed_11_b : (decode cX10_feed 11 = .ok (.iadd, 1)) ∧ (decode cX10_feed 12 = .ok (.sipush 600, 3)) ∧ (decode cX10_feed 15 = .ok (.if_icmp .le 5, 3)) ∧ (decode cX10_feed 18 = .ok (.iconst (-1), 1)) ∧ (decode cX10_feed 19 = .ok (.ireturn, 1)) ∧ (decode cX10_feed 20 = .ok (.iconst 0, 1)) := by decide +kernel
theorem dX10_feed_11 : decode cX10_feed 11 = .ok (.iadd, 1) := dX10_feed_11_b.1
theorem dX10_feed_12 : decode cX10_feed 12 = .ok (.sipush 600, 3) := dX10_feed_11_b.2.1
theorem dX10_feed_15 : decode cX10_feed 15 = .ok (.if_icmp .le 5, 3) := dX10_feed_11_b.2.2.1
theorem dX10_feed_18 : decode cX10_feed 18 = .ok (.iconst (-1), 1) := dX10_feed_11_b.2.2.2.1
theorem dX10_feed_19 : decode cX10_feed 19 = .ok (.ireturn, 1) := dX10_feed_11_b.2.2.2.2.1
theorem dX10_feed_20 : decode cX10_feed 20 = .ok (.iconst 0, 1) := dX10_feed_11_b.2.2.2.2.2
set_option maxRecDepth 20000 in
theorem dX10_feed_21_b : (decode cX10_feed 21 = .ok (.istore 6, 2)) ∧ (decode cX10_feed 23 = .ok (.iload 6, 2)) ∧ (decode cX10_feed 25 = .ok (.bipush 20, 2)) ∧ (decode cX10_feed 27 = .ok (.if_icmp .ge 93, 3)) ∧ (decode cX10_feed 30 = .ok (.iload 6, 2)) ∧ (decode cX10_feed 32 = .ok (.iconst 4, 1)) := by decide +kernel
theorem dX10_feed_21 : decode cX10_feed 21 = .ok (.istore 6, 2) := dX10_feed_21_b.1
theorem dX10_feed_23 : decode cX10_feed 23 = .ok (.iload 6, 2) := dX10_feed_21_b.2.1
theorem dX10_feed_25 : decode cX10_feed 25 = .ok (.bipush 20, 2) := dX10_feed_21_b.2.2.1
theorem dX10_feed_27 : decode cX10_feed 27 = .ok (.if_icmp .ge 93, 3) := dX10_feed_21_b.2.2.2.1
theorem dX10_feed_30 : decode cX10_feed 30 = .ok (.iload 6, 2) := dX10_feed_21_b.2.2.2.2.1
theorem dX10_feed_32 : decode cX10_feed 32 = .ok (.iconst 4, 1) := dX10_feed_21_b.2.2.2.2.2
set_option maxRecDepth 20000 in
theorem dX10_feed_33_b : (decode cX10_feed 33 = .ok (.if_icmp .ge 7, 3)) ∧ (decode cX10_feed 36 = .ok (.iload_n 1, 1)) ∧ (decode cX10_feed 37 = .ok (.goto 39, 3)) ∧ (decode cX10_feed 40 = .ok (.iload 6, 2)) ∧ (decode cX10_feed 42 = .ok (.bipush 8, 2)) ∧ (decode cX10_feed 44 = .ok (.if_icmp .ge 7, 3)) := by decide +kernel
theorem dX10_feed_33 : decode cX10_feed 33 = .ok (.if_icmp .ge 7, 3) := dX10_feed_33_b.1
theorem dX10_feed_36 : decode cX10_feed 36 = .ok (.iload_n 1, 1) := dX10_feed_33_b.2.1
theorem dX10_feed_37 : decode cX10_feed 37 = .ok (.goto 39, 3) := dX10_feed_33_b.2.2.1
theorem dX10_feed_40 : decode cX10_feed 40 = .ok (.iload 6, 2) := dX10_feed_33_b.2.2.2.1
theorem dX10_feed_42 : decode cX10_feed 42 = .ok (.bipush 8, 2) := dX10_feed_33_b.2.2.2.2.1
theorem dX10_feed_44 : decode cX10_feed 44 = .ok (.if_icmp .ge 7, 3) := dX10_feed_33_b.2.2.2.2.2
set_option maxRecDepth 20000 in
theorem dX10_feed_47_b : (decode cX10_feed 47 = .ok (.iload_n 2, 1)) ∧ (decode cX10_feed 48 = .ok (.goto 28, 3)) ∧ (decode cX10_feed 51 = .ok (.iload 6, 2)) ∧ (decode cX10_feed 53 = .ok (.bipush 12, 2)) ∧ (decode cX10_feed 55 = .ok (.if_icmp .ge 7, 3)) ∧ (decode cX10_feed 58 = .ok (.iload_n 3, 1)) := by decide +kernel
theorem dX10_feed_47 : decode cX10_feed 47 = .ok (.iload_n 2, 1) := dX10_feed_47_b.1
theorem dX10_feed_48 : decode cX10_feed 48 = .ok (.goto 28, 3) := dX10_feed_47_b.2.1
theorem dX10_feed_51 : decode cX10_feed 51 = .ok (.iload 6, 2) := dX10_feed_47_b.2.2.1
theorem dX10_feed_53 : decode cX10_feed 53 = .ok (.bipush 12, 2) := dX10_feed_47_b.2.2.2.1
theorem dX10_feed_55 : decode cX10_feed 55 = .ok (.if_icmp .ge 7, 3) := dX10_feed_47_b.2.2.2.2.1
theorem dX10_feed_58 : decode cX10_feed 58 = .ok (.iload_n 3, 1) := dX10_feed_47_b.2.2.2.2.2
set_option maxRecDepth 20000 in
theorem dX10_feed_59_b : (decode cX10_feed 59 = .ok (.goto 17, 3)) ∧ (decode cX10_feed 62 = .ok (.iload 6, 2)) ∧ (decode cX10_feed 64 = .ok (.bipush 16, 2)) ∧ (decode cX10_feed 66 = .ok (.if_icmp .ge 8, 3)) ∧ (decode cX10_feed 69 = .ok (.iload 4, 2)) ∧ (decode cX10_feed 71 = .ok (.goto 5, 3)) := by decide +kernel
theorem dX10_feed_59 : decode cX10_feed 59 = .ok (.goto 17, 3) := dX10_feed_59_b.1
theorem dX10_feed_62 : decode cX10_feed 62 = .ok (.iload 6, 2) := dX10_feed_59_b.2.1
theorem dX10_feed_64 : decode cX10_feed 64 = .ok (.bipush 16, 2) := dX10_feed_59_b.2.2.1
theorem dX10_feed_66 : decode cX10_feed 66 = .ok (.if_icmp .ge 8, 3) := dX10_feed_59_b.2.2.2.1
theorem dX10_feed_69 : decode cX10_feed 69 = .ok (.iload 4, 2) := dX10_feed_59_b.2.2.2.2.1
theorem dX10_feed_71 : decode cX10_feed 71 = .ok (.goto 5, 3) := dX10_feed_59_b.2.2.2.2.2
set_option maxRecDepth 20000 in
theorem dX10_feed_74_b : (decode cX10_feed 74 = .ok (.iload 5, 2)) ∧ (decode cX10_feed 76 = .ok (.istore 7, 2)) ∧ (decode cX10_feed 78 = .ok (.aload_n 0, 1)) ∧ (decode cX10_feed 79 = .ok (.getfield 80, 3)) ∧ (decode cX10_feed 82 = .ok (.aload_n 0, 1)) ∧ (decode cX10_feed 83 = .ok (.getfield 181, 3)) := by decide +kernel
theorem dX10_feed_74 : decode cX10_feed 74 = .ok (.iload 5, 2) := dX10_feed_74_b.1
theorem dX10_feed_76 : decode cX10_feed 76 = .ok (.istore 7, 2) := dX10_feed_74_b.2.1
theorem dX10_feed_78 : decode cX10_feed 78 = .ok (.aload_n 0, 1) := dX10_feed_74_b.2.2.1
theorem dX10_feed_79 : decode cX10_feed 79 = .ok (.getfield 80, 3) := dX10_feed_74_b.2.2.2.1
theorem dX10_feed_82 : decode cX10_feed 82 = .ok (.aload_n 0, 1) := dX10_feed_74_b.2.2.2.2.1
theorem dX10_feed_83 : decode cX10_feed 83 = .ok (.getfield 181, 3) := dX10_feed_74_b.2.2.2.2.2
set_option maxRecDepth 20000 in
theorem dX10_feed_86_b : (decode cX10_feed 86 = .ok (.iload 7, 2)) ∧ (decode cX10_feed 88 = .ok (.bipush 24, 2)) ∧ (decode cX10_feed 90 = .ok (.bipush 8, 2)) ∧ (decode cX10_feed 92 = .ok (.iload 6, 2)) ∧ (decode cX10_feed 94 = .ok (.iconst 4, 1)) ∧ (decode cX10_feed 95 = .ok (.irem, 1)) := by decide +kernel
theorem dX10_feed_86 : decode cX10_feed 86 = .ok (.iload 7, 2) := dX10_feed_86_b.1
theorem dX10_feed_88 : decode cX10_feed 88 = .ok (.bipush 24, 2) := dX10_feed_86_b.2.1
theorem dX10_feed_90 : decode cX10_feed 90 = .ok (.bipush 8, 2) := dX10_feed_86_b.2.2.1
theorem dX10_feed_92 : decode cX10_feed 92 = .ok (.iload 6, 2) := dX10_feed_86_b.2.2.2.1
theorem dX10_feed_94 : decode cX10_feed 94 = .ok (.iconst 4, 1) := dX10_feed_86_b.2.2.2.2.1
theorem dX10_feed_95 : decode cX10_feed 95 = .ok (.irem, 1) := dX10_feed_86_b.2.2.2.2.2
set_option maxRecDepth 20000 in
theorem dX10_feed_96_b : (decode cX10_feed 96 = .ok (.imul, 1)) ∧ (decode cX10_feed 97 = .ok (.isub, 1)) ∧ (decode cX10_feed 98 = .ok (.ishr, 1)) ∧ (decode cX10_feed 99 = .ok (.sipush 255, 3)) ∧ (decode cX10_feed 102 = .ok (.iand, 1)) ∧ (decode cX10_feed 103 = .ok (.iastore, 1)) := by decide +kernel
theorem dX10_feed_96 : decode cX10_feed 96 = .ok (.imul, 1) := dX10_feed_96_b.1
theorem dX10_feed_97 : decode cX10_feed 97 = .ok (.isub, 1) := dX10_feed_96_b.2.1
theorem dX10_feed_98 : decode cX10_feed 98 = .ok (.ishr, 1) := dX10_feed_96_b.2.2.1
theorem dX10_feed_99 : decode cX10_feed 99 = .ok (.sipush 255, 3) := dX10_feed_96_b.2.2.2.1
theorem dX10_feed_102 : decode cX10_feed 102 = .ok (.iand, 1) := dX10_feed_96_b.2.2.2.2.1
theorem dX10_feed_103 : decode cX10_feed 103 = .ok (.iastore, 1) := dX10_feed_96_b.2.2.2.2.2
set_option maxRecDepth 20000 in
theorem dX10_feed_104_b : (decode cX10_feed 104 = .ok (.aload_n 0, 1)) ∧ (decode cX10_feed 105 = .ok (.dup, 1)) ∧ (decode cX10_feed 106 = .ok (.getfield 181, 3)) ∧ (decode cX10_feed 109 = .ok (.iconst 1, 1)) ∧ (decode cX10_feed 110 = .ok (.iadd, 1)) ∧ (decode cX10_feed 111 = .ok (.putfield 181, 3)) := by decide +kernel
theorem dX10_feed_104 : decode cX10_feed 104 = .ok (.aload_n 0, 1) := dX10_feed_104_b.1
theorem dX10_feed_105 : decode cX10_feed 105 = .ok (.dup, 1) := dX10_feed_104_b.2.1
theorem dX10_feed_106 : decode cX10_feed 106 = .ok (.getfield 181, 3) := dX10_feed_104_b.2.2.1
theorem dX10_feed_109 : decode cX10_feed 109 = .ok (.iconst 1, 1) := dX10_feed_104_b.2.2.2.1
theorem dX10_feed_110 : decode cX10_feed 110 = .ok (.iadd, 1) := dX10_feed_104_b.2.2.2.2.1
theorem dX10_feed_111 : decode cX10_feed 111 = .ok (.putfield 181, 3) := dX10_feed_104_b.2.2.2.2.2
set_option maxRecDepth 20000 in
theorem dX10_feed_114_b : (decode cX10_feed 114 = .ok (.iinc 6 1, 3)) ∧ (decode cX10_feed 117 = .ok (.goto (-94), 3)) ∧ (decode cX10_feed 120 = .ok (.aload_n 0, 1)) ∧ (decode cX10_feed 121 = .ok (.getfield 181, 3)) ∧ (decode cX10_feed 124 = .ok (.ireturn, 1)) := by decide +kernel
theorem dX10_feed_114 : decode cX10_feed 114 = .ok (.iinc 6 1, 3) := dX10_feed_114_b.1
theorem dX10_feed_117 : decode cX10_feed 117 = .ok (.goto (-94), 3) := dX10_feed_114_b.2.1
theorem dX10_feed_120 : decode cX10_feed 120 = .ok (.aload_n 0, 1) := dX10_feed_114_b.2.2.1
theorem dX10_feed_121 : decode cX10_feed 121 = .ok (.getfield 181, 3) := dX10_feed_114_b.2.2.2.1
theorem dX10_feed_124 : decode cX10_feed 124 = .ok (.ireturn, 1) := dX10_feed_114_b.2.2.2.2
set_option maxRecDepth 20000 in
theorem dX10_byteAt_0_b : (decode cX10_byteAt 0 = .ok (.iload_n 1, 1)) ∧ (decode cX10_byteAt 1 = .ok (.aload_n 0, 1)) ∧ (decode cX10_byteAt 2 = .ok (.getfield 184, 3)) ∧ (decode cX10_byteAt 5 = .ok (.if_icmp .ge 12, 3)) ∧ (decode cX10_byteAt 8 = .ok (.aload_n 0, 1)) ∧ (decode cX10_byteAt 9 = .ok (.getfield 80, 3)) := by decide +kernel
theorem dX10_byteAt_0 : decode cX10_byteAt 0 = .ok (.iload_n 1, 1) := dX10_byteAt_0_b.1
theorem dX10_byteAt_1 : decode cX10_byteAt 1 = .ok (.aload_n 0, 1) := dX10_byteAt_0_b.2.1
theorem dX10_byteAt_2 : decode cX10_byteAt 2 = .ok (.getfield 184, 3) := dX10_byteAt_0_b.2.2.1
theorem dX10_byteAt_5 : decode cX10_byteAt 5 = .ok (.if_icmp .ge 12, 3) := dX10_byteAt_0_b.2.2.2.1
theorem dX10_byteAt_8 : decode cX10_byteAt 8 = .ok (.aload_n 0, 1) := dX10_byteAt_0_b.2.2.2.2.1
theorem dX10_byteAt_9 : decode cX10_byteAt 9 = .ok (.getfield 80, 3) := dX10_byteAt_0_b.2.2.2.2.2
set_option maxRecDepth 20000 in
theorem dX10_byteAt_12_b : (decode cX10_byteAt 12 = .ok (.iload_n 1, 1)) ∧ (decode cX10_byteAt 13 = .ok (.iaload, 1)) ∧ (decode cX10_byteAt 14 = .ok (.goto 4, 3)) ∧ (decode cX10_byteAt 17 = .ok (.iconst (-1), 1)) ∧ (decode cX10_byteAt 18 = .ok (.ireturn, 1)) := by decide +kernel
theorem dX10_byteAt_12 : decode cX10_byteAt 12 = .ok (.iload_n 1, 1) := dX10_byteAt_12_b.1
theorem dX10_byteAt_13 : decode cX10_byteAt 13 = .ok (.iaload, 1) := dX10_byteAt_12_b.2.1
theorem dX10_byteAt_14 : decode cX10_byteAt 14 = .ok (.goto 4, 3) := dX10_byteAt_12_b.2.2.1
theorem dX10_byteAt_17 : decode cX10_byteAt 17 = .ok (.iconst (-1), 1) := dX10_byteAt_12_b.2.2.2.1
theorem dX10_byteAt_18 : decode cX10_byteAt 18 = .ok (.ireturn, 1) := dX10_byteAt_12_b.2.2.2.2
set_option maxRecDepth 20000 in
theorem dX10_isLetter_0_b : (decode cX10_isLetter 0 = .ok (.iload_n 0, 1)) ∧ (decode cX10_isLetter 1 = .ok (.bipush 97, 2)) ∧ (decode cX10_isLetter 3 = .ok (.if_icmp .lt 13, 3)) ∧ (decode cX10_isLetter 6 = .ok (.iload_n 0, 1)) ∧ (decode cX10_isLetter 7 = .ok (.bipush 122, 2)) ∧ (decode cX10_isLetter 9 = .ok (.if_icmp .gt 7, 3)) := by decide +kernel
theorem dX10_isLetter_0 : decode cX10_isLetter 0 = .ok (.iload_n 0, 1) := dX10_isLetter_0_b.1
theorem dX10_isLetter_1 : decode cX10_isLetter 1 = .ok (.bipush 97, 2) := dX10_isLetter_0_b.2.1
theorem dX10_isLetter_3 : decode cX10_isLetter 3 = .ok (.if_icmp .lt 13, 3) := dX10_isLetter_0_b.2.2.1
theorem dX10_isLetter_6 : decode cX10_isLetter 6 = .ok (.iload_n 0, 1) := dX10_isLetter_0_b.2.2.2.1
theorem dX10_isLetter_7 : decode cX10_isLetter 7 = .ok (.bipush 122, 2) := dX10_isLetter_0_b.2.2.2.2.1
theorem dX10_isLetter_9 : decode cX10_isLetter 9 = .ok (.if_icmp .gt 7, 3) := dX10_isLetter_0_b.2.2.2.2.2
set_option maxRecDepth 20000 in
theorem dX10_isLetter_12_b : (decode cX10_isLetter 12 = .ok (.iconst 1, 1)) ∧ (decode cX10_isLetter 13 = .ok (.goto 4, 3)) ∧ (decode cX10_isLetter 16 = .ok (.iconst 0, 1)) ∧ (decode cX10_isLetter 17 = .ok (.ireturn, 1)) := by decide +kernel
theorem dX10_isLetter_12 : decode cX10_isLetter 12 = .ok (.iconst 1, 1) := dX10_isLetter_12_b.1
theorem dX10_isLetter_13 : decode cX10_isLetter 13 = .ok (.goto 4, 3) := dX10_isLetter_12_b.2.1
theorem dX10_isLetter_16 : decode cX10_isLetter 16 = .ok (.iconst 0, 1) := dX10_isLetter_12_b.2.2.1
theorem dX10_isLetter_17 : decode cX10_isLetter 17 = .ok (.ireturn, 1) := dX10_isLetter_12_b.2.2.2
set_option maxRecDepth 20000 in
theorem dX10_isDigit_0_b : (decode cX10_isDigit 0 = .ok (.iload_n 0, 1)) ∧ (decode cX10_isDigit 1 = .ok (.bipush 48, 2)) ∧ (decode cX10_isDigit 3 = .ok (.if_icmp .lt 13, 3)) ∧ (decode cX10_isDigit 6 = .ok (.iload_n 0, 1)) ∧ (decode cX10_isDigit 7 = .ok (.bipush 57, 2)) ∧ (decode cX10_isDigit 9 = .ok (.if_icmp .gt 7, 3)) := by decide +kernel
theorem dX10_isDigit_0 : decode cX10_isDigit 0 = .ok (.iload_n 0, 1) := dX10_isDigit_0_b.1
theorem dX10_isDigit_1 : decode cX10_isDigit 1 = .ok (.bipush 48, 2) := dX10_isDigit_0_b.2.1
theorem dX10_isDigit_3 : decode cX10_isDigit 3 = .ok (.if_icmp .lt 13, 3) := dX10_isDigit_0_b.2.2.1
theorem dX10_isDigit_6 : decode cX10_isDigit 6 = .ok (.iload_n 0, 1) := dX10_isDigit_0_b.2.2.2.1
theorem dX10_isDigit_7 : decode cX10_isDigit 7 = .ok (.bipush 57, 2) := dX10_isDigit_0_b.2.2.2.2.1
theorem dX10_isDigit_9 : decode cX10_isDigit 9 = .ok (.if_icmp .gt 7, 3) := dX10_isDigit_0_b.2.2.2.2.2
set_option maxRecDepth 20000 in
theorem dX10_isDigit_12_b : (decode cX10_isDigit 12 = .ok (.iconst 1, 1)) ∧ (decode cX10_isDigit 13 = .ok (.goto 4, 3)) ∧ (decode cX10_isDigit 16 = .ok (.iconst 0, 1)) ∧ (decode cX10_isDigit 17 = .ok (.ireturn, 1)) := by decide +kernel
theorem dX10_isDigit_12 : decode cX10_isDigit 12 = .ok (.iconst 1, 1) := dX10_isDigit_12_b.1
theorem dX10_isDigit_13 : decode cX10_isDigit 13 = .ok (.goto 4, 3) := dX10_isDigit_12_b.2.1
theorem dX10_isDigit_16 : decode cX10_isDigit 16 = .ok (.iconst 0, 1) := dX10_isDigit_12_b.2.2.1
theorem dX10_isDigit_17 : decode cX10_isDigit 17 = .ok (.ireturn, 1) := dX10_isDigit_12_b.2.2.2
set_option maxRecDepth 20000 in
theorem dX10_isMark_0_b : (decode cX10_isMark 0 = .ok (.iload_n 0, 1)) ∧ (decode cX10_isMark 1 = .ok (.bipush 59, 2)) ∧ (decode cX10_isMark 3 = .ok (.if_icmp .eq 51, 3)) ∧ (decode cX10_isMark 6 = .ok (.iload_n 0, 1)) ∧ (decode cX10_isMark 7 = .ok (.bipush 40, 2)) ∧ (decode cX10_isMark 9 = .ok (.if_icmp .eq 45, 3)) := by decide +kernel
theorem dX10_isMark_0 : decode cX10_isMark 0 = .ok (.iload_n 0, 1) := dX10_isMark_0_b.1
theorem dX10_isMark_1 : decode cX10_isMark 1 = .ok (.bipush 59, 2) := dX10_isMark_0_b.2.1
theorem dX10_isMark_3 : decode cX10_isMark 3 = .ok (.if_icmp .eq 51, 3) := dX10_isMark_0_b.2.2.1
theorem dX10_isMark_6 : decode cX10_isMark 6 = .ok (.iload_n 0, 1) := dX10_isMark_0_b.2.2.2.1
theorem dX10_isMark_7 : decode cX10_isMark 7 = .ok (.bipush 40, 2) := dX10_isMark_0_b.2.2.2.2.1
theorem dX10_isMark_9 : decode cX10_isMark 9 = .ok (.if_icmp .eq 45, 3) := dX10_isMark_0_b.2.2.2.2.2
set_option maxRecDepth 20000 in
theorem dX10_isMark_12_b : (decode cX10_isMark 12 = .ok (.iload_n 0, 1)) ∧ (decode cX10_isMark 13 = .ok (.bipush 41, 2)) ∧ (decode cX10_isMark 15 = .ok (.if_icmp .eq 39, 3)) ∧ (decode cX10_isMark 18 = .ok (.iload_n 0, 1)) ∧ (decode cX10_isMark 19 = .ok (.bipush 43, 2)) ∧ (decode cX10_isMark 21 = .ok (.if_icmp .eq 33, 3)) := by decide +kernel
theorem dX10_isMark_12 : decode cX10_isMark 12 = .ok (.iload_n 0, 1) := dX10_isMark_12_b.1
theorem dX10_isMark_13 : decode cX10_isMark 13 = .ok (.bipush 41, 2) := dX10_isMark_12_b.2.1
theorem dX10_isMark_15 : decode cX10_isMark 15 = .ok (.if_icmp .eq 39, 3) := dX10_isMark_12_b.2.2.1
theorem dX10_isMark_18 : decode cX10_isMark 18 = .ok (.iload_n 0, 1) := dX10_isMark_12_b.2.2.2.1
theorem dX10_isMark_19 : decode cX10_isMark 19 = .ok (.bipush 43, 2) := dX10_isMark_12_b.2.2.2.2.1
theorem dX10_isMark_21 : decode cX10_isMark 21 = .ok (.if_icmp .eq 33, 3) := dX10_isMark_12_b.2.2.2.2.2
set_option maxRecDepth 20000 in
theorem dX10_isMark_24_b : (decode cX10_isMark 24 = .ok (.iload_n 0, 1)) ∧ (decode cX10_isMark 25 = .ok (.bipush 45, 2)) ∧ (decode cX10_isMark 27 = .ok (.if_icmp .eq 27, 3)) ∧ (decode cX10_isMark 30 = .ok (.iload_n 0, 1)) ∧ (decode cX10_isMark 31 = .ok (.bipush 42, 2)) ∧ (decode cX10_isMark 33 = .ok (.if_icmp .eq 21, 3)) := by decide +kernel
theorem dX10_isMark_24 : decode cX10_isMark 24 = .ok (.iload_n 0, 1) := dX10_isMark_24_b.1
theorem dX10_isMark_25 : decode cX10_isMark 25 = .ok (.bipush 45, 2) := dX10_isMark_24_b.2.1
theorem dX10_isMark_27 : decode cX10_isMark 27 = .ok (.if_icmp .eq 27, 3) := dX10_isMark_24_b.2.2.1
theorem dX10_isMark_30 : decode cX10_isMark 30 = .ok (.iload_n 0, 1) := dX10_isMark_24_b.2.2.2.1
theorem dX10_isMark_31 : decode cX10_isMark 31 = .ok (.bipush 42, 2) := dX10_isMark_24_b.2.2.2.2.1
theorem dX10_isMark_33 : decode cX10_isMark 33 = .ok (.if_icmp .eq 21, 3) := dX10_isMark_24_b.2.2.2.2.2
set_option maxRecDepth 20000 in
theorem dX10_isMark_36_b : (decode cX10_isMark 36 = .ok (.iload_n 0, 1)) ∧ (decode cX10_isMark 37 = .ok (.bipush 47, 2)) ∧ (decode cX10_isMark 39 = .ok (.if_icmp .eq 15, 3)) ∧ (decode cX10_isMark 42 = .ok (.iload_n 0, 1)) ∧ (decode cX10_isMark 43 = .ok (.bipush 60, 2)) ∧ (decode cX10_isMark 45 = .ok (.if_icmp .eq 9, 3)) := by decide +kernel
theorem dX10_isMark_36 : decode cX10_isMark 36 = .ok (.iload_n 0, 1) := dX10_isMark_36_b.1
theorem dX10_isMark_37 : decode cX10_isMark 37 = .ok (.bipush 47, 2) := dX10_isMark_36_b.2.1
theorem dX10_isMark_39 : decode cX10_isMark 39 = .ok (.if_icmp .eq 15, 3) := dX10_isMark_36_b.2.2.1
theorem dX10_isMark_42 : decode cX10_isMark 42 = .ok (.iload_n 0, 1) := dX10_isMark_36_b.2.2.2.1
theorem dX10_isMark_43 : decode cX10_isMark 43 = .ok (.bipush 60, 2) := dX10_isMark_36_b.2.2.2.2.1
theorem dX10_isMark_45 : decode cX10_isMark 45 = .ok (.if_icmp .eq 9, 3) := dX10_isMark_36_b.2.2.2.2.2
set_option maxRecDepth 20000 in
theorem dX10_isMark_48_b : (decode cX10_isMark 48 = .ok (.iload_n 0, 1)) ∧ (decode cX10_isMark 49 = .ok (.bipush 61, 2)) ∧ (decode cX10_isMark 51 = .ok (.if_icmp .ne 7, 3)) ∧ (decode cX10_isMark 54 = .ok (.iconst 1, 1)) ∧ (decode cX10_isMark 55 = .ok (.goto 4, 3)) ∧ (decode cX10_isMark 58 = .ok (.iconst 0, 1)) := by decide +kernel
theorem dX10_isMark_48 : decode cX10_isMark 48 = .ok (.iload_n 0, 1) := dX10_isMark_48_b.1
theorem dX10_isMark_49 : decode cX10_isMark 49 = .ok (.bipush 61, 2) := dX10_isMark_48_b.2.1
theorem dX10_isMark_51 : decode cX10_isMark 51 = .ok (.if_icmp .ne 7, 3) := dX10_isMark_48_b.2.2.1
theorem dX10_isMark_54 : decode cX10_isMark 54 = .ok (.iconst 1, 1) := dX10_isMark_48_b.2.2.2.1
theorem dX10_isMark_55 : decode cX10_isMark 55 = .ok (.goto 4, 3) := dX10_isMark_48_b.2.2.2.2.1
theorem dX10_isMark_58 : decode cX10_isMark 58 = .ok (.iconst 0, 1) := dX10_isMark_48_b.2.2.2.2.2
theorem dX10_isMark_59 : decode cX10_isMark 59 = .ok (.ireturn, 1) := by decide +kernel
set_option maxRecDepth 20000 in
theorem ggX10_stepOn_X10_byteAt : GoodIn wsX10_stepOn wsX10_byteAt := goodIn_r _ [15, 16, 17, 27, 28, 29, 30, 31, 32, 33, 34, 35, 36, 37, 38, 39, 40, 41, 42, 43, 44, 45, 46, 47, 48, 49, 50, 51, 52, 53, 54, 55, 56, 57, 58, 59, 60, 61, 62, 63, 64, 65, 66, 67, 68, 69, 70, 71, 72, 73, 74, 75, 76, 77, 78, 79, 80, 81, 82, 83, 84, 85, 86, 87, 88, 89, 90, 91, 92, 93, 94, 95, 96, 97] (by decide +kernel) (by decide +kernel)
set_option maxRecDepth 20000 in
theorem gX10_stepOn_X10_byteAt : GoodIn wsX10_stepOn (wsV RX10 190 RX10 yX10_byteAt wsX10_byteAt) := goodIn_app (goodIn_of _ (by decide +kernel)) ggX10_stepOn_X10_byteAt
set_option maxRecDepth 20000 in
theorem ggX10_stepOn_X10_isLetter : GoodIn wsX10_stepOn wsX10_isLetter := goodIn_r _ [20] (by decide +kernel) (by decide +kernel)
set_option maxRecDepth 20000 in
theorem gX10_stepOn_X10_isLetter : GoodIn wsX10_stepOn (va_wsS RX10 200 yX10_isLetter wsX10_isLetter) := goodIn_app (goodIn_of _ (by decide +kernel)) ggX10_stepOn_X10_isLetter
set_option maxRecDepth 20000 in
theorem ggX10_stepOn_X10_isDigit : GoodIn wsX10_stepOn wsX10_isDigit := goodIn_r _ [23] (by decide +kernel) (by decide +kernel)
set_option maxRecDepth 20000 in
theorem gX10_stepOn_X10_isDigit : GoodIn wsX10_stepOn (va_wsS RX10 204 yX10_isDigit wsX10_isDigit) := goodIn_app (goodIn_of _ (by decide +kernel)) ggX10_stepOn_X10_isDigit
set_option maxRecDepth 20000 in
theorem ggX10_stepOn_X10_isMark : GoodIn wsX10_stepOn wsX10_isMark := goodIn_r _ [26] (by decide +kernel) (by decide +kernel)
set_option maxRecDepth 20000 in
theorem gX10_stepOn_X10_isMark : GoodIn wsX10_stepOn (va_wsS RX10 217 yX10_isMark wsX10_isMark) := goodIn_app (goodIn_of _ (by decide +kernel)) ggX10_stepOn_X10_isMark
set_option maxRecDepth 20000 in
theorem dX10_stepOn_0_b : (decode cX10_stepOn 0 = .ok (.aload_n 0, 1)) ∧ (decode cX10_stepOn 1 = .ok (.aload_n 0, 1)) ∧ (decode cX10_stepOn 2 = .ok (.getfield 187, 3)) ∧ (decode cX10_stepOn 5 = .ok (.invokevirtual 190, 3)) ∧ (decode cX10_stepOn 8 = .ok (.bipush 32, 2)) ∧ (decode cX10_stepOn 10 = .ok (.if_icmp .eq 16, 3)) := by decide +kernel
theorem dX10_stepOn_0 : decode cX10_stepOn 0 = .ok (.aload_n 0, 1) := dX10_stepOn_0_b.1
theorem dX10_stepOn_1 : decode cX10_stepOn 1 = .ok (.aload_n 0, 1) := dX10_stepOn_0_b.2.1
theorem dX10_stepOn_2 : decode cX10_stepOn 2 = .ok (.getfield 187, 3) := dX10_stepOn_0_b.2.2.1
theorem dX10_stepOn_5 : decode cX10_stepOn 5 = .ok (.invokevirtual 190, 3) := dX10_stepOn_0_b.2.2.2.1
theorem dX10_stepOn_8 : decode cX10_stepOn 8 = .ok (.bipush 32, 2) := dX10_stepOn_0_b.2.2.2.2.1
theorem dX10_stepOn_10 : decode cX10_stepOn 10 = .ok (.if_icmp .eq 16, 3) := dX10_stepOn_0_b.2.2.2.2.2
set_option maxRecDepth 20000 in
theorem dX10_stepOn_13_b : (decode cX10_stepOn 13 = .ok (.aload_n 0, 1)) ∧ (decode cX10_stepOn 14 = .ok (.aload_n 0, 1)) ∧ (decode cX10_stepOn 15 = .ok (.getfield 187, 3)) ∧ (decode cX10_stepOn 18 = .ok (.invokevirtual 190, 3)) ∧ (decode cX10_stepOn 21 = .ok (.bipush 10, 2)) ∧ (decode cX10_stepOn 23 = .ok (.if_icmp .ne 16, 3)) := by decide +kernel
theorem dX10_stepOn_13 : decode cX10_stepOn 13 = .ok (.aload_n 0, 1) := dX10_stepOn_13_b.1
theorem dX10_stepOn_14 : decode cX10_stepOn 14 = .ok (.aload_n 0, 1) := dX10_stepOn_13_b.2.1
theorem dX10_stepOn_15 : decode cX10_stepOn 15 = .ok (.getfield 187, 3) := dX10_stepOn_13_b.2.2.1
theorem dX10_stepOn_18 : decode cX10_stepOn 18 = .ok (.invokevirtual 190, 3) := dX10_stepOn_13_b.2.2.2.1
theorem dX10_stepOn_21 : decode cX10_stepOn 21 = .ok (.bipush 10, 2) := dX10_stepOn_13_b.2.2.2.2.1
theorem dX10_stepOn_23 : decode cX10_stepOn 23 = .ok (.if_icmp .ne 16, 3) := dX10_stepOn_13_b.2.2.2.2.2
set_option maxRecDepth 20000 in
theorem dX10_stepOn_26_b : (decode cX10_stepOn 26 = .ok (.aload_n 0, 1)) ∧ (decode cX10_stepOn 27 = .ok (.dup, 1)) ∧ (decode cX10_stepOn 28 = .ok (.getfield 187, 3)) ∧ (decode cX10_stepOn 31 = .ok (.iconst 1, 1)) ∧ (decode cX10_stepOn 32 = .ok (.iadd, 1)) ∧ (decode cX10_stepOn 33 = .ok (.putfield 187, 3)) := by decide +kernel
theorem dX10_stepOn_26 : decode cX10_stepOn 26 = .ok (.aload_n 0, 1) := dX10_stepOn_26_b.1
theorem dX10_stepOn_27 : decode cX10_stepOn 27 = .ok (.dup, 1) := dX10_stepOn_26_b.2.1
theorem dX10_stepOn_28 : decode cX10_stepOn 28 = .ok (.getfield 187, 3) := dX10_stepOn_26_b.2.2.1
theorem dX10_stepOn_31 : decode cX10_stepOn 31 = .ok (.iconst 1, 1) := dX10_stepOn_26_b.2.2.2.1
theorem dX10_stepOn_32 : decode cX10_stepOn 32 = .ok (.iadd, 1) := dX10_stepOn_26_b.2.2.2.2.1
theorem dX10_stepOn_33 : decode cX10_stepOn 33 = .ok (.putfield 187, 3) := dX10_stepOn_26_b.2.2.2.2.2
set_option maxRecDepth 20000 in
theorem dX10_stepOn_36_b : (decode cX10_stepOn 36 = .ok (.goto (-36), 3)) ∧ (decode cX10_stepOn 39 = .ok (.aload_n 0, 1)) ∧ (decode cX10_stepOn 40 = .ok (.aload_n 0, 1)) ∧ (decode cX10_stepOn 41 = .ok (.getfield 187, 3)) ∧ (decode cX10_stepOn 44 = .ok (.putfield 194, 3)) ∧ (decode cX10_stepOn 47 = .ok (.aload_n 0, 1)) := by decide +kernel
theorem dX10_stepOn_36 : decode cX10_stepOn 36 = .ok (.goto (-36), 3) := dX10_stepOn_36_b.1
theorem dX10_stepOn_39 : decode cX10_stepOn 39 = .ok (.aload_n 0, 1) := dX10_stepOn_36_b.2.1
theorem dX10_stepOn_40 : decode cX10_stepOn 40 = .ok (.aload_n 0, 1) := dX10_stepOn_36_b.2.2.1
theorem dX10_stepOn_41 : decode cX10_stepOn 41 = .ok (.getfield 187, 3) := dX10_stepOn_36_b.2.2.2.1
theorem dX10_stepOn_44 : decode cX10_stepOn 44 = .ok (.putfield 194, 3) := dX10_stepOn_36_b.2.2.2.2.1
theorem dX10_stepOn_47 : decode cX10_stepOn 47 = .ok (.aload_n 0, 1) := dX10_stepOn_36_b.2.2.2.2.2
set_option maxRecDepth 20000 in
theorem dX10_stepOn_48_b : (decode cX10_stepOn 48 = .ok (.aload_n 0, 1)) ∧ (decode cX10_stepOn 49 = .ok (.getfield 187, 3)) ∧ (decode cX10_stepOn 52 = .ok (.invokevirtual 190, 3)) ∧ (decode cX10_stepOn 55 = .ok (.istore_n 1, 1)) ∧ (decode cX10_stepOn 56 = .ok (.iload_n 1, 1)) ∧ (decode cX10_stepOn 57 = .ok (.iconst (-1), 1)) := by decide +kernel
theorem dX10_stepOn_48 : decode cX10_stepOn 48 = .ok (.aload_n 0, 1) := dX10_stepOn_48_b.1
theorem dX10_stepOn_49 : decode cX10_stepOn 49 = .ok (.getfield 187, 3) := dX10_stepOn_48_b.2.1
theorem dX10_stepOn_52 : decode cX10_stepOn 52 = .ok (.invokevirtual 190, 3) := dX10_stepOn_48_b.2.2.1
theorem dX10_stepOn_55 : decode cX10_stepOn 55 = .ok (.istore_n 1, 1) := dX10_stepOn_48_b.2.2.2.1
theorem dX10_stepOn_56 : decode cX10_stepOn 56 = .ok (.iload_n 1, 1) := dX10_stepOn_48_b.2.2.2.2.1
theorem dX10_stepOn_57 : decode cX10_stepOn 57 = .ok (.iconst (-1), 1) := dX10_stepOn_48_b.2.2.2.2.2
set_option maxRecDepth 20000 in
theorem dX10_stepOn_58_b : (decode cX10_stepOn 58 = .ok (.if_icmp .ne 11, 3)) ∧ (decode cX10_stepOn 61 = .ok (.aload_n 0, 1)) ∧ (decode cX10_stepOn 62 = .ok (.iconst 0, 1)) ∧ (decode cX10_stepOn 63 = .ok (.putfield 197, 3)) ∧ (decode cX10_stepOn 66 = .ok (.goto 146, 3)) ∧ (decode cX10_stepOn 69 = .ok (.iload_n 1, 1)) := by decide +kernel
theorem dX10_stepOn_58 : decode cX10_stepOn 58 = .ok (.if_icmp .ne 11, 3) := dX10_stepOn_58_b.1
theorem dX10_stepOn_61 : decode cX10_stepOn 61 = .ok (.aload_n 0, 1) := dX10_stepOn_58_b.2.1
theorem dX10_stepOn_62 : decode cX10_stepOn 62 = .ok (.iconst 0, 1) := dX10_stepOn_58_b.2.2.1
theorem dX10_stepOn_63 : decode cX10_stepOn 63 = .ok (.putfield 197, 3) := dX10_stepOn_58_b.2.2.2.1
theorem dX10_stepOn_66 : decode cX10_stepOn 66 = .ok (.goto 146, 3) := dX10_stepOn_58_b.2.2.2.2.1
theorem dX10_stepOn_69 : decode cX10_stepOn 69 = .ok (.iload_n 1, 1) := dX10_stepOn_58_b.2.2.2.2.2
set_option maxRecDepth 20000 in
theorem dX10_stepOn_70_b : (decode cX10_stepOn 70 = .ok (.invokestatic 200, 3)) ∧ (decode cX10_stepOn 73 = .ok (.ifCond .eq 38, 3)) ∧ (decode cX10_stepOn 76 = .ok (.aload_n 0, 1)) ∧ (decode cX10_stepOn 77 = .ok (.aload_n 0, 1)) ∧ (decode cX10_stepOn 78 = .ok (.getfield 187, 3)) ∧ (decode cX10_stepOn 81 = .ok (.invokevirtual 190, 3)) := by decide +kernel
theorem dX10_stepOn_70 : decode cX10_stepOn 70 = .ok (.invokestatic 200, 3) := dX10_stepOn_70_b.1
theorem dX10_stepOn_73 : decode cX10_stepOn 73 = .ok (.ifCond .eq 38, 3) := dX10_stepOn_70_b.2.1
theorem dX10_stepOn_76 : decode cX10_stepOn 76 = .ok (.aload_n 0, 1) := dX10_stepOn_70_b.2.2.1
theorem dX10_stepOn_77 : decode cX10_stepOn 77 = .ok (.aload_n 0, 1) := dX10_stepOn_70_b.2.2.2.1
theorem dX10_stepOn_78 : decode cX10_stepOn 78 = .ok (.getfield 187, 3) := dX10_stepOn_70_b.2.2.2.2.1
theorem dX10_stepOn_81 : decode cX10_stepOn 81 = .ok (.invokevirtual 190, 3) := dX10_stepOn_70_b.2.2.2.2.2
set_option maxRecDepth 20000 in
theorem dX10_stepOn_84_b : (decode cX10_stepOn 84 = .ok (.invokestatic 200, 3)) ∧ (decode cX10_stepOn 87 = .ok (.ifCond .eq 16, 3)) ∧ (decode cX10_stepOn 90 = .ok (.aload_n 0, 1)) ∧ (decode cX10_stepOn 91 = .ok (.dup, 1)) ∧ (decode cX10_stepOn 92 = .ok (.getfield 187, 3)) ∧ (decode cX10_stepOn 95 = .ok (.iconst 1, 1)) := by decide +kernel
theorem dX10_stepOn_84 : decode cX10_stepOn 84 = .ok (.invokestatic 200, 3) := dX10_stepOn_84_b.1
theorem dX10_stepOn_87 : decode cX10_stepOn 87 = .ok (.ifCond .eq 16, 3) := dX10_stepOn_84_b.2.1
theorem dX10_stepOn_90 : decode cX10_stepOn 90 = .ok (.aload_n 0, 1) := dX10_stepOn_84_b.2.2.1
theorem dX10_stepOn_91 : decode cX10_stepOn 91 = .ok (.dup, 1) := dX10_stepOn_84_b.2.2.2.1
theorem dX10_stepOn_92 : decode cX10_stepOn 92 = .ok (.getfield 187, 3) := dX10_stepOn_84_b.2.2.2.2.1
theorem dX10_stepOn_95 : decode cX10_stepOn 95 = .ok (.iconst 1, 1) := dX10_stepOn_84_b.2.2.2.2.2
set_option maxRecDepth 20000 in
theorem dX10_stepOn_96_b : (decode cX10_stepOn 96 = .ok (.iadd, 1)) ∧ (decode cX10_stepOn 97 = .ok (.putfield 187, 3)) ∧ (decode cX10_stepOn 100 = .ok (.goto (-24), 3)) ∧ (decode cX10_stepOn 103 = .ok (.aload_n 0, 1)) ∧ (decode cX10_stepOn 104 = .ok (.iconst 1, 1)) ∧ (decode cX10_stepOn 105 = .ok (.putfield 197, 3)) := by decide +kernel
theorem dX10_stepOn_96 : decode cX10_stepOn 96 = .ok (.iadd, 1) := dX10_stepOn_96_b.1
theorem dX10_stepOn_97 : decode cX10_stepOn 97 = .ok (.putfield 187, 3) := dX10_stepOn_96_b.2.1
theorem dX10_stepOn_100 : decode cX10_stepOn 100 = .ok (.goto (-24), 3) := dX10_stepOn_96_b.2.2.1
theorem dX10_stepOn_103 : decode cX10_stepOn 103 = .ok (.aload_n 0, 1) := dX10_stepOn_96_b.2.2.2.1
theorem dX10_stepOn_104 : decode cX10_stepOn 104 = .ok (.iconst 1, 1) := dX10_stepOn_96_b.2.2.2.2.1
theorem dX10_stepOn_105 : decode cX10_stepOn 105 = .ok (.putfield 197, 3) := dX10_stepOn_96_b.2.2.2.2.2
set_option maxRecDepth 20000 in
theorem dX10_stepOn_108_b : (decode cX10_stepOn 108 = .ok (.goto 104, 3)) ∧ (decode cX10_stepOn 111 = .ok (.iload_n 1, 1)) ∧ (decode cX10_stepOn 112 = .ok (.invokestatic 204, 3)) ∧ (decode cX10_stepOn 115 = .ok (.ifCond .eq 71, 3)) ∧ (decode cX10_stepOn 118 = .ok (.aload_n 0, 1)) ∧ (decode cX10_stepOn 119 = .ok (.iconst 0, 1)) := by decide +kernel
theorem dX10_stepOn_108 : decode cX10_stepOn 108 = .ok (.goto 104, 3) := dX10_stepOn_108_b.1
theorem dX10_stepOn_111 : decode cX10_stepOn 111 = .ok (.iload_n 1, 1) := dX10_stepOn_108_b.2.1
theorem dX10_stepOn_112 : decode cX10_stepOn 112 = .ok (.invokestatic 204, 3) := dX10_stepOn_108_b.2.2.1
theorem dX10_stepOn_115 : decode cX10_stepOn 115 = .ok (.ifCond .eq 71, 3) := dX10_stepOn_108_b.2.2.2.1
theorem dX10_stepOn_118 : decode cX10_stepOn 118 = .ok (.aload_n 0, 1) := dX10_stepOn_108_b.2.2.2.2.1
theorem dX10_stepOn_119 : decode cX10_stepOn 119 = .ok (.iconst 0, 1) := dX10_stepOn_108_b.2.2.2.2.2
set_option maxRecDepth 20000 in
theorem dX10_stepOn_120_b : (decode cX10_stepOn 120 = .ok (.putfield 207, 3)) ∧ (decode cX10_stepOn 123 = .ok (.aload_n 0, 1)) ∧ (decode cX10_stepOn 124 = .ok (.aload_n 0, 1)) ∧ (decode cX10_stepOn 125 = .ok (.getfield 187, 3)) ∧ (decode cX10_stepOn 128 = .ok (.invokevirtual 190, 3)) ∧ (decode cX10_stepOn 131 = .ok (.invokestatic 204, 3)) := by decide +kernel
theorem dX10_stepOn_120 : decode cX10_stepOn 120 = .ok (.putfield 207, 3) := dX10_stepOn_120_b.1
theorem dX10_stepOn_123 : decode cX10_stepOn 123 = .ok (.aload_n 0, 1) := dX10_stepOn_120_b.2.1
theorem dX10_stepOn_124 : decode cX10_stepOn 124 = .ok (.aload_n 0, 1) := dX10_stepOn_120_b.2.2.1
theorem dX10_stepOn_125 : decode cX10_stepOn 125 = .ok (.getfield 187, 3) := dX10_stepOn_120_b.2.2.2.1
theorem dX10_stepOn_128 : decode cX10_stepOn 128 = .ok (.invokevirtual 190, 3) := dX10_stepOn_120_b.2.2.2.2.1
theorem dX10_stepOn_131 : decode cX10_stepOn 131 = .ok (.invokestatic 204, 3) := dX10_stepOn_120_b.2.2.2.2.2
set_option maxRecDepth 20000 in
theorem dX10_stepOn_134_b : (decode cX10_stepOn 134 = .ok (.ifCond .eq 44, 3)) ∧ (decode cX10_stepOn 137 = .ok (.aload_n 0, 1)) ∧ (decode cX10_stepOn 138 = .ok (.ldc 210, 2)) ∧ (decode cX10_stepOn 140 = .ok (.bipush 10, 2)) ∧ (decode cX10_stepOn 142 = .ok (.aload_n 0, 1)) ∧ (decode cX10_stepOn 143 = .ok (.getfield 207, 3)) := by decide +kernel
theorem dX10_stepOn_134 : decode cX10_stepOn 134 = .ok (.ifCond .eq 44, 3) := dX10_stepOn_134_b.1
theorem dX10_stepOn_137 : decode cX10_stepOn 137 = .ok (.aload_n 0, 1) := dX10_stepOn_134_b.2.1
theorem dX10_stepOn_138 : decode cX10_stepOn 138 = .ok (.ldc 210, 2) := dX10_stepOn_134_b.2.2.1
theorem dX10_stepOn_140 : decode cX10_stepOn 140 = .ok (.bipush 10, 2) := dX10_stepOn_134_b.2.2.2.1
theorem dX10_stepOn_142 : decode cX10_stepOn 142 = .ok (.aload_n 0, 1) := dX10_stepOn_134_b.2.2.2.2.1
theorem dX10_stepOn_143 : decode cX10_stepOn 143 = .ok (.getfield 207, 3) := dX10_stepOn_134_b.2.2.2.2.2
set_option maxRecDepth 20000 in
theorem dX10_stepOn_146_b : (decode cX10_stepOn 146 = .ok (.imul, 1)) ∧ (decode cX10_stepOn 147 = .ok (.aload_n 0, 1)) ∧ (decode cX10_stepOn 148 = .ok (.aload_n 0, 1)) ∧ (decode cX10_stepOn 149 = .ok (.getfield 187, 3)) ∧ (decode cX10_stepOn 152 = .ok (.invokevirtual 190, 3)) ∧ (decode cX10_stepOn 155 = .ok (.iadd, 1)) := by decide +kernel
theorem dX10_stepOn_146 : decode cX10_stepOn 146 = .ok (.imul, 1) := dX10_stepOn_146_b.1
theorem dX10_stepOn_147 : decode cX10_stepOn 147 = .ok (.aload_n 0, 1) := dX10_stepOn_146_b.2.1
theorem dX10_stepOn_148 : decode cX10_stepOn 148 = .ok (.aload_n 0, 1) := dX10_stepOn_146_b.2.2.1
theorem dX10_stepOn_149 : decode cX10_stepOn 149 = .ok (.getfield 187, 3) := dX10_stepOn_146_b.2.2.2.1
theorem dX10_stepOn_152 : decode cX10_stepOn 152 = .ok (.invokevirtual 190, 3) := dX10_stepOn_146_b.2.2.2.2.1
theorem dX10_stepOn_155 : decode cX10_stepOn 155 = .ok (.iadd, 1) := dX10_stepOn_146_b.2.2.2.2.2
set_option maxRecDepth 20000 in
theorem dX10_stepOn_156_b : (decode cX10_stepOn 156 = .ok (.bipush 48, 2)) ∧ (decode cX10_stepOn 158 = .ok (.isub, 1)) ∧ (decode cX10_stepOn 159 = .ok (.invokestatic 211, 3)) ∧ (decode cX10_stepOn 162 = .ok (.putfield 207, 3)) ∧ (decode cX10_stepOn 165 = .ok (.aload_n 0, 1)) ∧ (decode cX10_stepOn 166 = .ok (.dup, 1)) := by decide +kernel
theorem dX10_stepOn_156 : decode cX10_stepOn 156 = .ok (.bipush 48, 2) := dX10_stepOn_156_b.1
theorem dX10_stepOn_158 : decode cX10_stepOn 158 = .ok (.isub, 1) := dX10_stepOn_156_b.2.1
theorem dX10_stepOn_159 : decode cX10_stepOn 159 = .ok (.invokestatic 211, 3) := dX10_stepOn_156_b.2.2.1
theorem dX10_stepOn_162 : decode cX10_stepOn 162 = .ok (.putfield 207, 3) := dX10_stepOn_156_b.2.2.2.1
theorem dX10_stepOn_165 : decode cX10_stepOn 165 = .ok (.aload_n 0, 1) := dX10_stepOn_156_b.2.2.2.2.1
theorem dX10_stepOn_166 : decode cX10_stepOn 166 = .ok (.dup, 1) := dX10_stepOn_156_b.2.2.2.2.2
set_option maxRecDepth 20000 in
theorem dX10_stepOn_167_b : (decode cX10_stepOn 167 = .ok (.getfield 187, 3)) ∧ (decode cX10_stepOn 170 = .ok (.iconst 1, 1)) ∧ (decode cX10_stepOn 171 = .ok (.iadd, 1)) ∧ (decode cX10_stepOn 172 = .ok (.putfield 187, 3)) ∧ (decode cX10_stepOn 175 = .ok (.goto (-52), 3)) ∧ (decode cX10_stepOn 178 = .ok (.aload_n 0, 1)) := by decide +kernel
theorem dX10_stepOn_167 : decode cX10_stepOn 167 = .ok (.getfield 187, 3) := dX10_stepOn_167_b.1
theorem dX10_stepOn_170 : decode cX10_stepOn 170 = .ok (.iconst 1, 1) := dX10_stepOn_167_b.2.1
theorem dX10_stepOn_171 : decode cX10_stepOn 171 = .ok (.iadd, 1) := dX10_stepOn_167_b.2.2.1
theorem dX10_stepOn_172 : decode cX10_stepOn 172 = .ok (.putfield 187, 3) := dX10_stepOn_167_b.2.2.2.1
theorem dX10_stepOn_175 : decode cX10_stepOn 175 = .ok (.goto (-52), 3) := dX10_stepOn_167_b.2.2.2.2.1
theorem dX10_stepOn_178 : decode cX10_stepOn 178 = .ok (.aload_n 0, 1) := dX10_stepOn_167_b.2.2.2.2.2
set_option maxRecDepth 20000 in
theorem dX10_stepOn_179_b : (decode cX10_stepOn 179 = .ok (.iconst 2, 1)) ∧ (decode cX10_stepOn 180 = .ok (.putfield 197, 3)) ∧ (decode cX10_stepOn 183 = .ok (.goto 29, 3)) ∧ (decode cX10_stepOn 186 = .ok (.aload_n 0, 1)) ∧ (decode cX10_stepOn 187 = .ok (.dup, 1)) ∧ (decode cX10_stepOn 188 = .ok (.getfield 187, 3)) := by decide +kernel
theorem dX10_stepOn_179 : decode cX10_stepOn 179 = .ok (.iconst 2, 1) := dX10_stepOn_179_b.1
theorem dX10_stepOn_180 : decode cX10_stepOn 180 = .ok (.putfield 197, 3) := dX10_stepOn_179_b.2.1
theorem dX10_stepOn_183 : decode cX10_stepOn 183 = .ok (.goto 29, 3) := dX10_stepOn_179_b.2.2.1
theorem dX10_stepOn_186 : decode cX10_stepOn 186 = .ok (.aload_n 0, 1) := dX10_stepOn_179_b.2.2.2.1
theorem dX10_stepOn_187 : decode cX10_stepOn 187 = .ok (.dup, 1) := dX10_stepOn_179_b.2.2.2.2.1
theorem dX10_stepOn_188 : decode cX10_stepOn 188 = .ok (.getfield 187, 3) := dX10_stepOn_179_b.2.2.2.2.2
set_option maxRecDepth 20000 in
theorem dX10_stepOn_191_b : (decode cX10_stepOn 191 = .ok (.iconst 1, 1)) ∧ (decode cX10_stepOn 192 = .ok (.iadd, 1)) ∧ (decode cX10_stepOn 193 = .ok (.putfield 187, 3)) ∧ (decode cX10_stepOn 196 = .ok (.aload_n 0, 1)) ∧ (decode cX10_stepOn 197 = .ok (.iload_n 1, 1)) ∧ (decode cX10_stepOn 198 = .ok (.invokestatic 217, 3)) := by decide +kernel
theorem dX10_stepOn_191 : decode cX10_stepOn 191 = .ok (.iconst 1, 1) := dX10_stepOn_191_b.1
theorem dX10_stepOn_192 : decode cX10_stepOn 192 = .ok (.iadd, 1) := dX10_stepOn_191_b.2.1
theorem dX10_stepOn_193 : decode cX10_stepOn 193 = .ok (.putfield 187, 3) := dX10_stepOn_191_b.2.2.1
theorem dX10_stepOn_196 : decode cX10_stepOn 196 = .ok (.aload_n 0, 1) := dX10_stepOn_191_b.2.2.2.1
theorem dX10_stepOn_197 : decode cX10_stepOn 197 = .ok (.iload_n 1, 1) := dX10_stepOn_191_b.2.2.2.2.1
theorem dX10_stepOn_198 : decode cX10_stepOn 198 = .ok (.invokestatic 217, 3) := dX10_stepOn_191_b.2.2.2.2.2
set_option maxRecDepth 20000 in
theorem dX10_stepOn_201_b : (decode cX10_stepOn 201 = .ok (.ifCond .eq 7, 3)) ∧ (decode cX10_stepOn 204 = .ok (.iconst 3, 1)) ∧ (decode cX10_stepOn 205 = .ok (.goto 4, 3)) ∧ (decode cX10_stepOn 208 = .ok (.iconst 4, 1)) ∧ (decode cX10_stepOn 209 = .ok (.putfield 197, 3)) ∧ (decode cX10_stepOn 212 = .ok (.aload_n 0, 1)) := by decide +kernel
theorem dX10_stepOn_201 : decode cX10_stepOn 201 = .ok (.ifCond .eq 7, 3) := dX10_stepOn_201_b.1
theorem dX10_stepOn_204 : decode cX10_stepOn 204 = .ok (.iconst 3, 1) := dX10_stepOn_201_b.2.1
theorem dX10_stepOn_205 : decode cX10_stepOn 205 = .ok (.goto 4, 3) := dX10_stepOn_201_b.2.2.1
theorem dX10_stepOn_208 : decode cX10_stepOn 208 = .ok (.iconst 4, 1) := dX10_stepOn_201_b.2.2.2.1
theorem dX10_stepOn_209 : decode cX10_stepOn 209 = .ok (.putfield 197, 3) := dX10_stepOn_201_b.2.2.2.2.1
theorem dX10_stepOn_212 : decode cX10_stepOn 212 = .ok (.aload_n 0, 1) := dX10_stepOn_201_b.2.2.2.2.2
set_option maxRecDepth 20000 in
theorem dX10_stepOn_213_b : (decode cX10_stepOn 213 = .ok (.aload_n 0, 1)) ∧ (decode cX10_stepOn 214 = .ok (.getfield 187, 3)) ∧ (decode cX10_stepOn 217 = .ok (.putfield 220, 3)) ∧ (decode cX10_stepOn 220 = .ok (.return_, 1)) := by decide +kernel
theorem dX10_stepOn_213 : decode cX10_stepOn 213 = .ok (.aload_n 0, 1) := dX10_stepOn_213_b.1
theorem dX10_stepOn_214 : decode cX10_stepOn 214 = .ok (.getfield 187, 3) := dX10_stepOn_213_b.2.1
theorem dX10_stepOn_217 : decode cX10_stepOn 217 = .ok (.putfield 220, 3) := dX10_stepOn_213_b.2.2.1
theorem dX10_stepOn_220 : decode cX10_stepOn 220 = .ok (.return_, 1) := dX10_stepOn_213_b.2.2.2
set_option maxRecDepth 20000 in
theorem dX10_wrong_0_b : (decode cX10_wrong 0 = .ok (.aload_n 0, 1)) ∧ (decode cX10_wrong 1 = .ok (.getfield 223, 3)) ∧ (decode cX10_wrong 4 = .ok (.ifCond .eq 4, 3)) ∧ (decode cX10_wrong 7 = .ok (.return_, 1)) ∧ (decode cX10_wrong 8 = .ok (.aload_n 0, 1)) ∧ (decode cX10_wrong 9 = .ok (.iload_n 1, 1)) := by decide +kernel
theorem dX10_wrong_0 : decode cX10_wrong 0 = .ok (.aload_n 0, 1) := dX10_wrong_0_b.1
theorem dX10_wrong_1 : decode cX10_wrong 1 = .ok (.getfield 223, 3) := dX10_wrong_0_b.2.1
theorem dX10_wrong_4 : decode cX10_wrong 4 = .ok (.ifCond .eq 4, 3) := dX10_wrong_0_b.2.2.1
theorem dX10_wrong_7 : decode cX10_wrong 7 = .ok (.return_, 1) := dX10_wrong_0_b.2.2.2.1
theorem dX10_wrong_8 : decode cX10_wrong 8 = .ok (.aload_n 0, 1) := dX10_wrong_0_b.2.2.2.2.1
theorem dX10_wrong_9 : decode cX10_wrong 9 = .ok (.iload_n 1, 1) := dX10_wrong_0_b.2.2.2.2.2
set_option maxRecDepth 20000 in
theorem dX10_wrong_10_b : (decode cX10_wrong 10 = .ok (.putfield 223, 3)) ∧ (decode cX10_wrong 13 = .ok (.aload_n 0, 1)) ∧ (decode cX10_wrong 14 = .ok (.aload_n 0, 1)) ∧ (decode cX10_wrong 15 = .ok (.getfield 194, 3)) ∧ (decode cX10_wrong 18 = .ok (.putfield 226, 3)) ∧ (decode cX10_wrong 21 = .ok (.return_, 1)) := by decide +kernel
theorem dX10_wrong_10 : decode cX10_wrong 10 = .ok (.putfield 223, 3) := dX10_wrong_10_b.1
theorem dX10_wrong_13 : decode cX10_wrong 13 = .ok (.aload_n 0, 1) := dX10_wrong_10_b.2.1
theorem dX10_wrong_14 : decode cX10_wrong 14 = .ok (.aload_n 0, 1) := dX10_wrong_10_b.2.2.1
theorem dX10_wrong_15 : decode cX10_wrong 15 = .ok (.getfield 194, 3) := dX10_wrong_10_b.2.2.2.1
theorem dX10_wrong_18 : decode cX10_wrong 18 = .ok (.putfield 226, 3) := dX10_wrong_10_b.2.2.2.2.1
theorem dX10_wrong_21 : decode cX10_wrong 21 = .ok (.return_, 1) := dX10_wrong_10_b.2.2.2.2.2
set_option maxRecDepth 20000 in
theorem dX10_isMarked_0_b : (decode cX10_isMarked 0 = .ok (.aload_n 0, 1)) ∧ (decode cX10_isMarked 1 = .ok (.getfield 223, 3)) ∧ (decode cX10_isMarked 4 = .ok (.ifCond .ne 28, 3)) ∧ (decode cX10_isMarked 7 = .ok (.aload_n 0, 1)) ∧ (decode cX10_isMarked 8 = .ok (.getfield 197, 3)) ∧ (decode cX10_isMarked 11 = .ok (.iconst 3, 1)) := by decide +kernel
theorem dX10_isMarked_0 : decode cX10_isMarked 0 = .ok (.aload_n 0, 1) := dX10_isMarked_0_b.1
theorem dX10_isMarked_1 : decode cX10_isMarked 1 = .ok (.getfield 223, 3) := dX10_isMarked_0_b.2.1
theorem dX10_isMarked_4 : decode cX10_isMarked 4 = .ok (.ifCond .ne 28, 3) := dX10_isMarked_0_b.2.2.1
theorem dX10_isMarked_7 : decode cX10_isMarked 7 = .ok (.aload_n 0, 1) := dX10_isMarked_0_b.2.2.2.1
theorem dX10_isMarked_8 : decode cX10_isMarked 8 = .ok (.getfield 197, 3) := dX10_isMarked_0_b.2.2.2.2.1
theorem dX10_isMarked_11 : decode cX10_isMarked 11 = .ok (.iconst 3, 1) := dX10_isMarked_0_b.2.2.2.2.2
set_option maxRecDepth 20000 in
theorem dX10_isMarked_12_b : (decode cX10_isMarked 12 = .ok (.if_icmp .ne 20, 3)) ∧ (decode cX10_isMarked 15 = .ok (.aload_n 0, 1)) ∧ (decode cX10_isMarked 16 = .ok (.getfield 80, 3)) ∧ (decode cX10_isMarked 19 = .ok (.aload_n 0, 1)) ∧ (decode cX10_isMarked 20 = .ok (.getfield 194, 3)) ∧ (decode cX10_isMarked 23 = .ok (.iaload, 1)) := by decide +kernel
theorem dX10_isMarked_12 : decode cX10_isMarked 12 = .ok (.if_icmp .ne 20, 3) := dX10_isMarked_12_b.1
theorem dX10_isMarked_15 : decode cX10_isMarked 15 = .ok (.aload_n 0, 1) := dX10_isMarked_12_b.2.1
theorem dX10_isMarked_16 : decode cX10_isMarked 16 = .ok (.getfield 80, 3) := dX10_isMarked_12_b.2.2.1
theorem dX10_isMarked_19 : decode cX10_isMarked 19 = .ok (.aload_n 0, 1) := dX10_isMarked_12_b.2.2.2.1
theorem dX10_isMarked_20 : decode cX10_isMarked 20 = .ok (.getfield 194, 3) := dX10_isMarked_12_b.2.2.2.2.1
theorem dX10_isMarked_23 : decode cX10_isMarked 23 = .ok (.iaload, 1) := dX10_isMarked_12_b.2.2.2.2.2
set_option maxRecDepth 20000 in
theorem dX10_isMarked_24_b : (decode cX10_isMarked 24 = .ok (.iload_n 1, 1)) ∧ (decode cX10_isMarked 25 = .ok (.if_icmp .ne 7, 3)) ∧ (decode cX10_isMarked 28 = .ok (.iconst 1, 1)) ∧ (decode cX10_isMarked 29 = .ok (.goto 4, 3)) ∧ (decode cX10_isMarked 32 = .ok (.iconst 0, 1)) ∧ (decode cX10_isMarked 33 = .ok (.ireturn, 1)) := by decide +kernel
theorem dX10_isMarked_24 : decode cX10_isMarked 24 = .ok (.iload_n 1, 1) := dX10_isMarked_24_b.1
theorem dX10_isMarked_25 : decode cX10_isMarked 25 = .ok (.if_icmp .ne 7, 3) := dX10_isMarked_24_b.2.1
theorem dX10_isMarked_28 : decode cX10_isMarked 28 = .ok (.iconst 1, 1) := dX10_isMarked_24_b.2.2.1
theorem dX10_isMarked_29 : decode cX10_isMarked 29 = .ok (.goto 4, 3) := dX10_isMarked_24_b.2.2.2.1
theorem dX10_isMarked_32 : decode cX10_isMarked 32 = .ok (.iconst 0, 1) := dX10_isMarked_24_b.2.2.2.2.1
theorem dX10_isMarked_33 : decode cX10_isMarked 33 = .ok (.ireturn, 1) := dX10_isMarked_24_b.2.2.2.2.2
set_option maxRecDepth 20000 in
theorem dX10_fault_0_b : (decode cX10_fault 0 = .ok (.aload_n 0, 1)) ∧ (decode cX10_fault 1 = .ok (.iconst 0, 1)) ∧ (decode cX10_fault 2 = .ok (.putfield 171, 3)) ∧ (decode cX10_fault 5 = .ok (.aload_n 0, 1)) ∧ (decode cX10_fault 6 = .ok (.getfield 83, 3)) ∧ (decode cX10_fault 9 = .ok (.ireturn, 1)) := by decide +kernel
theorem dX10_fault_0 : decode cX10_fault 0 = .ok (.aload_n 0, 1) := dX10_fault_0_b.1
theorem dX10_fault_1 : decode cX10_fault 1 = .ok (.iconst 0, 1) := dX10_fault_0_b.2.1
theorem dX10_fault_2 : decode cX10_fault 2 = .ok (.putfield 171, 3) := dX10_fault_0_b.2.2.1
theorem dX10_fault_5 : decode cX10_fault 5 = .ok (.aload_n 0, 1) := dX10_fault_0_b.2.2.2.1
theorem dX10_fault_6 : decode cX10_fault 6 = .ok (.getfield 83, 3) := dX10_fault_0_b.2.2.2.2.1
theorem dX10_fault_9 : decode cX10_fault 9 = .ok (.ireturn, 1) := dX10_fault_0_b.2.2.2.2.2
set_option maxRecDepth 20000 in
theorem dX10_ridesOf_0_b : (decode cX10_ridesOf 0 = .ok (.iconst 0, 1)) ∧ (decode cX10_ridesOf 1 = .ok (.istore_n 1, 1)) ∧ (decode cX10_ridesOf 2 = .ok (.iconst 0, 1)) ∧ (decode cX10_ridesOf 3 = .ok (.istore_n 2, 1)) ∧ (decode cX10_ridesOf 4 = .ok (.iload_n 2, 1)) ∧ (decode cX10_ridesOf 5 = .ok (.aload_n 0, 1)) := by decide +kernel
theorem dX10_ridesOf_0 : decode cX10_ridesOf 0 = .ok (.iconst 0, 1) := dX10_ridesOf_0_b.1
theorem dX10_ridesOf_1 : decode cX10_ridesOf 1 = .ok (.istore_n 1, 1) := dX10_ridesOf_0_b.2.1
theorem dX10_ridesOf_2 : decode cX10_ridesOf 2 = .ok (.iconst 0, 1) := dX10_ridesOf_0_b.2.2.1
theorem dX10_ridesOf_3 : decode cX10_ridesOf 3 = .ok (.istore_n 2, 1) := dX10_ridesOf_0_b.2.2.2.1
theorem dX10_ridesOf_4 : decode cX10_ridesOf 4 = .ok (.iload_n 2, 1) := dX10_ridesOf_0_b.2.2.2.2.1
theorem dX10_ridesOf_5 : decode cX10_ridesOf 5 = .ok (.aload_n 0, 1) := dX10_ridesOf_0_b.2.2.2.2.2
set_option maxRecDepth 20000 in
theorem dX10_ridesOf_6_b : (decode cX10_ridesOf 6 = .ok (.getfield 330, 3)) ∧ (decode cX10_ridesOf 9 = .ok (.if_icmp .ge 27, 3)) ∧ (decode cX10_ridesOf 12 = .ok (.iload_n 1, 1)) ∧ (decode cX10_ridesOf 13 = .ok (.aload_n 0, 1)) ∧ (decode cX10_ridesOf 14 = .ok (.getfield 93, 3)) ∧ (decode cX10_ridesOf 17 = .ok (.iload_n 2, 1)) := by decide +kernel
theorem dX10_ridesOf_6 : decode cX10_ridesOf 6 = .ok (.getfield 330, 3) := dX10_ridesOf_6_b.1
theorem dX10_ridesOf_9 : decode cX10_ridesOf 9 = .ok (.if_icmp .ge 27, 3) := dX10_ridesOf_6_b.2.1
theorem dX10_ridesOf_12 : decode cX10_ridesOf 12 = .ok (.iload_n 1, 1) := dX10_ridesOf_6_b.2.2.1
theorem dX10_ridesOf_13 : decode cX10_ridesOf 13 = .ok (.aload_n 0, 1) := dX10_ridesOf_6_b.2.2.2.1
theorem dX10_ridesOf_14 : decode cX10_ridesOf 14 = .ok (.getfield 93, 3) := dX10_ridesOf_6_b.2.2.2.2.1
theorem dX10_ridesOf_17 : decode cX10_ridesOf 17 = .ok (.iload_n 2, 1) := dX10_ridesOf_6_b.2.2.2.2.2
set_option maxRecDepth 20000 in
theorem dX10_ridesOf_18_b : (decode cX10_ridesOf 18 = .ok (.iaload, 1)) ∧ (decode cX10_ridesOf 19 = .ok (.iconst 2, 1)) ∧ (decode cX10_ridesOf 20 = .ok (.if_icmp .ne 7, 3)) ∧ (decode cX10_ridesOf 23 = .ok (.iconst 1, 1)) ∧ (decode cX10_ridesOf 24 = .ok (.goto 4, 3)) ∧ (decode cX10_ridesOf 27 = .ok (.iconst 0, 1)) := by decide +kernel
theorem dX10_ridesOf_18 : decode cX10_ridesOf 18 = .ok (.iaload, 1) := dX10_ridesOf_18_b.1
theorem dX10_ridesOf_19 : decode cX10_ridesOf 19 = .ok (.iconst 2, 1) := dX10_ridesOf_18_b.2.1
theorem dX10_ridesOf_20 : decode cX10_ridesOf 20 = .ok (.if_icmp .ne 7, 3) := dX10_ridesOf_18_b.2.2.1
theorem dX10_ridesOf_23 : decode cX10_ridesOf 23 = .ok (.iconst 1, 1) := dX10_ridesOf_18_b.2.2.2.1
theorem dX10_ridesOf_24 : decode cX10_ridesOf 24 = .ok (.goto 4, 3) := dX10_ridesOf_18_b.2.2.2.2.1
theorem dX10_ridesOf_27 : decode cX10_ridesOf 27 = .ok (.iconst 0, 1) := dX10_ridesOf_18_b.2.2.2.2.2
set_option maxRecDepth 20000 in
theorem dX10_ridesOf_28_b : (decode cX10_ridesOf 28 = .ok (.iadd, 1)) ∧ (decode cX10_ridesOf 29 = .ok (.istore_n 1, 1)) ∧ (decode cX10_ridesOf 30 = .ok (.iinc 2 1, 3)) ∧ (decode cX10_ridesOf 33 = .ok (.goto (-29), 3)) ∧ (decode cX10_ridesOf 36 = .ok (.iload_n 1, 1)) ∧ (decode cX10_ridesOf 37 = .ok (.ireturn, 1)) := by decide +kernel
theorem dX10_ridesOf_28 : decode cX10_ridesOf 28 = .ok (.iadd, 1) := dX10_ridesOf_28_b.1
theorem dX10_ridesOf_29 : decode cX10_ridesOf 29 = .ok (.istore_n 1, 1) := dX10_ridesOf_28_b.2.1
theorem dX10_ridesOf_30 : decode cX10_ridesOf 30 = .ok (.iinc 2 1, 3) := dX10_ridesOf_28_b.2.2.1
theorem dX10_ridesOf_33 : decode cX10_ridesOf 33 = .ok (.goto (-29), 3) := dX10_ridesOf_28_b.2.2.2.1
theorem dX10_ridesOf_36 : decode cX10_ridesOf 36 = .ok (.iload_n 1, 1) := dX10_ridesOf_28_b.2.2.2.2.1
theorem dX10_ridesOf_37 : decode cX10_ridesOf 37 = .ok (.ireturn, 1) := dX10_ridesOf_28_b.2.2.2.2.2
set_option maxRecDepth 20000 in
theorem ggX10_count_X10_isIn : GoodIn wsX10_count wsX10_isIn := goodIn_r _ [14] (by decide +kernel) (by decide +kernel)
set_option maxRecDepth 20000 in
theorem gX10_count_X10_isIn : GoodIn wsX10_count (va_wsS RX10 177 yX10_isIn wsX10_isIn) := goodIn_app (goodIn_of _ (by decide +kernel)) ggX10_count_X10_isIn
set_option maxRecDepth 20000 in
theorem ggX10_count_X10_ridesOf : GoodIn wsX10_count wsX10_ridesOf := goodIn_r _ [18, 7, 19, 24, 25, 26, 27, 28, 29, 30, 31, 32, 33, 34, 35, 36, 37, 38, 39, 40, 41, 42, 43, 44, 45, 46, 47, 48, 49, 50, 51, 52, 53, 54, 55, 56, 57, 58, 59, 60, 61, 62, 63, 64, 65, 66, 67, 68, 69, 70, 71, 72, 73, 74, 75, 76, 77, 78, 79, 80, 81, 82, 83, 84, 85, 86, 87, 88, 89, 90, 91, 92, 93, 94] (by decide +kernel) (by decide +kernel)
set_option maxRecDepth 20000 in
theorem gX10_count_X10_ridesOf : GoodIn wsX10_count (wsV RX10 343 RX10 yX10_ridesOf wsX10_ridesOf) := goodIn_app (goodIn_of _ (by decide +kernel)) ggX10_count_X10_ridesOf
set_option maxRecDepth 20000 in
theorem ggX10_count_X10_fail : GoodIn wsX10_count wsX10_fail := goodIn_r _ [23, 1, 24, 25, 26, 27, 28, 29, 30, 31, 32, 33, 34, 35, 36, 37, 38, 39, 40, 41, 42, 43, 44, 45, 46, 47, 48, 49, 50, 51, 52, 53, 54, 55, 56, 57, 58, 59, 60, 61, 62, 63, 64, 65, 66, 67, 68, 69, 70, 71, 72, 73, 74, 75, 76, 77, 78, 79, 80, 81, 82, 83, 84, 85, 86, 87, 88, 89, 90, 91, 92, 93, 94] (by decide +kernel) (by decide +kernel)
set_option maxRecDepth 20000 in
theorem gX10_count_X10_fail : GoodIn wsX10_count (wsV RX10 315 RX10 yX10_fail wsX10_fail) := goodIn_app (goodIn_of _ (by decide +kernel)) ggX10_count_X10_fail
set_option maxRecDepth 20000 in
theorem dX10_count_0_b : (decode cX10_count 0 = .ok (.aload_n 0, 1)) ∧ (decode cX10_count 1 = .ok (.iconst 0, 1)) ∧ (decode cX10_count 2 = .ok (.putfield 171, 3)) ∧ (decode cX10_count 5 = .ok (.iload_n 1, 1)) ∧ (decode cX10_count 6 = .ok (.bipush 14, 2)) ∧ (decode cX10_count 8 = .ok (.bipush 16, 2)) := by decide +kernel
theorem dX10_count_0 : decode cX10_count 0 = .ok (.aload_n 0, 1) := dX10_count_0_b.1
theorem dX10_count_1 : decode cX10_count 1 = .ok (.iconst 0, 1) := dX10_count_0_b.2.1
theorem dX10_count_2 : decode cX10_count 2 = .ok (.putfield 171, 3) := dX10_count_0_b.2.2.1
theorem dX10_count_5 : decode cX10_count 5 = .ok (.iload_n 1, 1) := dX10_count_0_b.2.2.2.1
theorem dX10_count_6 : decode cX10_count 6 = .ok (.bipush 14, 2) := dX10_count_0_b.2.2.2.2.1
theorem dX10_count_8 : decode cX10_count 8 = .ok (.bipush 16, 2) := dX10_count_0_b.2.2.2.2.2
set_option maxRecDepth 20000 in
theorem dX10_count_10_b : (decode cX10_count 10 = .ok (.invokestatic 177, 3)) ∧ (decode cX10_count 13 = .ok (.ifCond .eq 13, 3)) ∧ (decode cX10_count 16 = .ok (.aload_n 0, 1)) ∧ (decode cX10_count 17 = .ok (.getfield 77, 3)) ∧ (decode cX10_count 20 = .ok (.iload_n 1, 1)) ∧ (decode cX10_count 21 = .ok (.bipush 14, 2)) := by decide +kernel
theorem dX10_count_10 : decode cX10_count 10 = .ok (.invokestatic 177, 3) := dX10_count_10_b.1
theorem dX10_count_13 : decode cX10_count 13 = .ok (.ifCond .eq 13, 3) := dX10_count_10_b.2.1
theorem dX10_count_16 : decode cX10_count 16 = .ok (.aload_n 0, 1) := dX10_count_10_b.2.2.1
theorem dX10_count_17 : decode cX10_count 17 = .ok (.getfield 77, 3) := dX10_count_10_b.2.2.2.1
theorem dX10_count_20 : decode cX10_count 20 = .ok (.iload_n 1, 1) := dX10_count_10_b.2.2.2.2.1
theorem dX10_count_21 : decode cX10_count 21 = .ok (.bipush 14, 2) := dX10_count_10_b.2.2.2.2.2
set_option maxRecDepth 20000 in
theorem dX10_count_23_b : (decode cX10_count 23 = .ok (.isub, 1)) ∧ (decode cX10_count 24 = .ok (.iaload, 1)) ∧ (decode cX10_count 25 = .ok (.ireturn, 1)) ∧ (decode cX10_count 26 = .ok (.iload_n 1, 1)) ∧ (decode cX10_count 27 = .ok (.tableswitch 123 0 13 #[69, 76, 81, 81, 81, 81, 81, 88, 93, 98, 103, 108, 113, 118], 69)) ∧ (decode cX10_count 96 = .ok (.aload_n 0, 1)) := by decide +kernel
theorem dX10_count_23 : decode cX10_count 23 = .ok (.isub, 1) := dX10_count_23_b.1
theorem dX10_count_24 : decode cX10_count 24 = .ok (.iaload, 1) := dX10_count_23_b.2.1
theorem dX10_count_25 : decode cX10_count 25 = .ok (.ireturn, 1) := dX10_count_23_b.2.2.1
theorem dX10_count_26 : decode cX10_count 26 = .ok (.iload_n 1, 1) := dX10_count_23_b.2.2.2.1
theorem dX10_count_27 : decode cX10_count 27 = .ok (.tableswitch 123 0 13 #[69, 76, 81, 81, 81, 81, 81, 88, 93, 98, 103, 108, 113, 118], 69) := dX10_count_23_b.2.2.2.2.1
theorem dX10_count_96 : decode cX10_count 96 = .ok (.aload_n 0, 1) := dX10_count_23_b.2.2.2.2.2
set_option maxRecDepth 20000 in
theorem dX10_count_97_b : (decode cX10_count 97 = .ok (.getfield 54, 3)) ∧ (decode cX10_count 100 = .ok (.iconst 0, 1)) ∧ (decode cX10_count 101 = .ok (.iaload, 1)) ∧ (decode cX10_count 102 = .ok (.ireturn, 1)) ∧ (decode cX10_count 103 = .ok (.aload_n 0, 1)) ∧ (decode cX10_count 104 = .ok (.getfield 174, 3)) := by decide +kernel
theorem dX10_count_97 : decode cX10_count 97 = .ok (.getfield 54, 3) := dX10_count_97_b.1
theorem dX10_count_100 : decode cX10_count 100 = .ok (.iconst 0, 1) := dX10_count_97_b.2.1
theorem dX10_count_101 : decode cX10_count 101 = .ok (.iaload, 1) := dX10_count_97_b.2.2.1
theorem dX10_count_102 : decode cX10_count 102 = .ok (.ireturn, 1) := dX10_count_97_b.2.2.2.1
theorem dX10_count_103 : decode cX10_count 103 = .ok (.aload_n 0, 1) := dX10_count_97_b.2.2.2.2.1
theorem dX10_count_104 : decode cX10_count 104 = .ok (.getfield 174, 3) := dX10_count_97_b.2.2.2.2.2
set_option maxRecDepth 20000 in
theorem dX10_count_107_b : (decode cX10_count 107 = .ok (.ireturn, 1)) ∧ (decode cX10_count 108 = .ok (.aload_n 0, 1)) ∧ (decode cX10_count 109 = .ok (.getfield 54, 3)) ∧ (decode cX10_count 112 = .ok (.iload_n 1, 1)) ∧ (decode cX10_count 113 = .ok (.iaload, 1)) ∧ (decode cX10_count 114 = .ok (.ireturn, 1)) := by decide +kernel
theorem dX10_count_107 : decode cX10_count 107 = .ok (.ireturn, 1) := dX10_count_107_b.1
theorem dX10_count_108 : decode cX10_count 108 = .ok (.aload_n 0, 1) := dX10_count_107_b.2.1
theorem dX10_count_109 : decode cX10_count 109 = .ok (.getfield 54, 3) := dX10_count_107_b.2.2.1
theorem dX10_count_112 : decode cX10_count 112 = .ok (.iload_n 1, 1) := dX10_count_107_b.2.2.2.1
theorem dX10_count_113 : decode cX10_count 113 = .ok (.iaload, 1) := dX10_count_107_b.2.2.2.2.1
theorem dX10_count_114 : decode cX10_count 114 = .ok (.ireturn, 1) := dX10_count_107_b.2.2.2.2.2
set_option maxRecDepth 20000 in
theorem dX10_count_115_b : (decode cX10_count 115 = .ok (.aload_n 0, 1)) ∧ (decode cX10_count 116 = .ok (.getfield 324, 3)) ∧ (decode cX10_count 119 = .ok (.ireturn, 1)) ∧ (decode cX10_count 120 = .ok (.aload_n 0, 1)) ∧ (decode cX10_count 121 = .ok (.getfield 327, 3)) ∧ (decode cX10_count 124 = .ok (.ireturn, 1)) := by decide +kernel
theorem dX10_count_115 : decode cX10_count 115 = .ok (.aload_n 0, 1) := dX10_count_115_b.1
theorem dX10_count_116 : decode cX10_count 116 = .ok (.getfield 324, 3) := dX10_count_115_b.2.1
theorem dX10_count_119 : decode cX10_count 119 = .ok (.ireturn, 1) := dX10_count_115_b.2.2.1
theorem dX10_count_120 : decode cX10_count 120 = .ok (.aload_n 0, 1) := dX10_count_115_b.2.2.2.1
theorem dX10_count_121 : decode cX10_count 121 = .ok (.getfield 327, 3) := dX10_count_115_b.2.2.2.2.1
theorem dX10_count_124 : decode cX10_count 124 = .ok (.ireturn, 1) := dX10_count_115_b.2.2.2.2.2
set_option maxRecDepth 20000 in
theorem dX10_count_125_b : (decode cX10_count 125 = .ok (.aload_n 0, 1)) ∧ (decode cX10_count 126 = .ok (.getfield 330, 3)) ∧ (decode cX10_count 129 = .ok (.ireturn, 1)) ∧ (decode cX10_count 130 = .ok (.aload_n 0, 1)) ∧ (decode cX10_count 131 = .ok (.invokevirtual 343, 3)) ∧ (decode cX10_count 134 = .ok (.ireturn, 1)) := by decide +kernel
theorem dX10_count_125 : decode cX10_count 125 = .ok (.aload_n 0, 1) := dX10_count_125_b.1
theorem dX10_count_126 : decode cX10_count 126 = .ok (.getfield 330, 3) := dX10_count_125_b.2.1
theorem dX10_count_129 : decode cX10_count 129 = .ok (.ireturn, 1) := dX10_count_125_b.2.2.1
theorem dX10_count_130 : decode cX10_count 130 = .ok (.aload_n 0, 1) := dX10_count_125_b.2.2.2.1
theorem dX10_count_131 : decode cX10_count 131 = .ok (.invokevirtual 343, 3) := dX10_count_125_b.2.2.2.2.1
theorem dX10_count_134 : decode cX10_count 134 = .ok (.ireturn, 1) := dX10_count_125_b.2.2.2.2.2
set_option maxRecDepth 20000 in
theorem dX10_count_135_b : (decode cX10_count 135 = .ok (.aload_n 0, 1)) ∧ (decode cX10_count 136 = .ok (.getfield 333, 3)) ∧ (decode cX10_count 139 = .ok (.ireturn, 1)) ∧ (decode cX10_count 140 = .ok (.aload_n 0, 1)) ∧ (decode cX10_count 141 = .ok (.getfield 336, 3)) ∧ (decode cX10_count 144 = .ok (.ireturn, 1)) := by decide +kernel
theorem dX10_count_135 : decode cX10_count 135 = .ok (.aload_n 0, 1) := dX10_count_135_b.1
theorem dX10_count_136 : decode cX10_count 136 = .ok (.getfield 333, 3) := dX10_count_135_b.2.1
theorem dX10_count_139 : decode cX10_count 139 = .ok (.ireturn, 1) := dX10_count_135_b.2.2.1
theorem dX10_count_140 : decode cX10_count 140 = .ok (.aload_n 0, 1) := dX10_count_135_b.2.2.2.1
theorem dX10_count_141 : decode cX10_count 141 = .ok (.getfield 336, 3) := dX10_count_135_b.2.2.2.2.1
theorem dX10_count_144 : decode cX10_count 144 = .ok (.ireturn, 1) := dX10_count_135_b.2.2.2.2.2
set_option maxRecDepth 20000 in
theorem dX10_count_145_b : (decode cX10_count 145 = .ok (.aload_n 0, 1)) ∧ (decode cX10_count 146 = .ok (.getfield 181, 3)) ∧ (decode cX10_count 149 = .ok (.ireturn, 1)) ∧ (decode cX10_count 150 = .ok (.aload_n 0, 1)) ∧ (decode cX10_count 151 = .ok (.iconst 1, 1)) ∧ (decode cX10_count 152 = .ok (.invokevirtual 315, 3)) := by decide +kernel
theorem dX10_count_145 : decode cX10_count 145 = .ok (.aload_n 0, 1) := dX10_count_145_b.1
theorem dX10_count_146 : decode cX10_count 146 = .ok (.getfield 181, 3) := dX10_count_145_b.2.1
theorem dX10_count_149 : decode cX10_count 149 = .ok (.ireturn, 1) := dX10_count_145_b.2.2.1
theorem dX10_count_150 : decode cX10_count 150 = .ok (.aload_n 0, 1) := dX10_count_145_b.2.2.2.1
theorem dX10_count_151 : decode cX10_count 151 = .ok (.iconst 1, 1) := dX10_count_145_b.2.2.2.2.1
theorem dX10_count_152 : decode cX10_count 152 = .ok (.invokevirtual 315, 3) := dX10_count_145_b.2.2.2.2.2
theorem dX10_count_155 : decode cX10_count 155 = .ok (.ireturn, 1) := by decide +kernel
set_option maxRecDepth 20000 in
theorem ggX10_depthOf_X10_depths : GoodIn wsX10_depthOf wsX10_depths := goodIn_r _ [5, 6, 7, 8, 9, 10, 11, 12, 13, 14, 15, 16, 17, 18, 19, 20, 21, 22, 23, 24, 25, 26, 27, 28, 29, 30, 31, 32, 33, 34, 35, 36, 37, 38, 39, 40, 41, 42, 43, 44, 45, 46, 47, 48, 49, 50, 51, 52, 53, 54, 55, 56, 57, 58, 59, 60, 61, 62, 63, 64, 65, 66, 67, 68, 69, 70, 71, 72, 73, 74, 75, 76, 77] (by decide +kernel) (by decide +kernel)
set_option maxRecDepth 20000 in
theorem gX10_depthOf_X10_depths : GoodIn wsX10_depthOf (wsV RX10 346 RX10 yX10_depths wsX10_depths) := goodIn_app (goodIn_of _ (by decide +kernel)) ggX10_depthOf_X10_depths
set_option maxRecDepth 20000 in
theorem dX10_depthOf_0_b : (decode cX10_depthOf 0 = .ok (.iload_n 1, 1)) ∧ (decode cX10_depthOf 1 = .ok (.ifCond .ne 7, 3)) ∧ (decode cX10_depthOf 4 = .ok (.iload_n 2, 1)) ∧ (decode cX10_depthOf 5 = .ok (.goto 9, 3)) ∧ (decode cX10_depthOf 8 = .ok (.aload_n 0, 1)) ∧ (decode cX10_depthOf 9 = .ok (.invokevirtual 346, 3)) := by decide +kernel
theorem dX10_depthOf_0 : decode cX10_depthOf 0 = .ok (.iload_n 1, 1) := dX10_depthOf_0_b.1
theorem dX10_depthOf_1 : decode cX10_depthOf 1 = .ok (.ifCond .ne 7, 3) := dX10_depthOf_0_b.2.1
theorem dX10_depthOf_4 : decode cX10_depthOf 4 = .ok (.iload_n 2, 1) := dX10_depthOf_0_b.2.2.1
theorem dX10_depthOf_5 : decode cX10_depthOf 5 = .ok (.goto 9, 3) := dX10_depthOf_0_b.2.2.2.1
theorem dX10_depthOf_8 : decode cX10_depthOf 8 = .ok (.aload_n 0, 1) := dX10_depthOf_0_b.2.2.2.2.1
theorem dX10_depthOf_9 : decode cX10_depthOf 9 = .ok (.invokevirtual 346, 3) := dX10_depthOf_0_b.2.2.2.2.2
set_option maxRecDepth 20000 in
theorem dX10_depthOf_12_b : (decode cX10_depthOf 12 = .ok (.iload_n 2, 1)) ∧ (decode cX10_depthOf 13 = .ok (.isub, 1)) ∧ (decode cX10_depthOf 14 = .ok (.ireturn, 1)) := by decide +kernel
theorem dX10_depthOf_12 : decode cX10_depthOf 12 = .ok (.iload_n 2, 1) := dX10_depthOf_12_b.1
theorem dX10_depthOf_13 : decode cX10_depthOf 13 = .ok (.isub, 1) := dX10_depthOf_12_b.2.1
theorem dX10_depthOf_14 : decode cX10_depthOf 14 = .ok (.ireturn, 1) := dX10_depthOf_12_b.2.2
set_option maxRecDepth 20000 in
theorem dX10_isInBucket_0_b : (decode cX10_isInBucket 0 = .ok (.iload_n 0, 1)) ∧ (decode cX10_isInBucket 1 = .ok (.bipush 12, 2)) ∧ (decode cX10_isInBucket 3 = .ok (.iload_n 1, 1)) ∧ (decode cX10_isInBucket 4 = .ok (.iadd, 1)) ∧ (decode cX10_isInBucket 5 = .ok (.if_icmp .ne 7, 3)) ∧ (decode cX10_isInBucket 8 = .ok (.iconst 1, 1)) := by decide +kernel
theorem dX10_isInBucket_0 : decode cX10_isInBucket 0 = .ok (.iload_n 0, 1) := dX10_isInBucket_0_b.1
theorem dX10_isInBucket_1 : decode cX10_isInBucket 1 = .ok (.bipush 12, 2) := dX10_isInBucket_0_b.2.1
theorem dX10_isInBucket_3 : decode cX10_isInBucket 3 = .ok (.iload_n 1, 1) := dX10_isInBucket_0_b.2.2.1
theorem dX10_isInBucket_4 : decode cX10_isInBucket 4 = .ok (.iadd, 1) := dX10_isInBucket_0_b.2.2.2.1
theorem dX10_isInBucket_5 : decode cX10_isInBucket 5 = .ok (.if_icmp .ne 7, 3) := dX10_isInBucket_0_b.2.2.2.2.1
theorem dX10_isInBucket_8 : decode cX10_isInBucket 8 = .ok (.iconst 1, 1) := dX10_isInBucket_0_b.2.2.2.2.2
set_option maxRecDepth 20000 in
theorem dX10_isInBucket_9_b : (decode cX10_isInBucket 9 = .ok (.goto 4, 3)) ∧ (decode cX10_isInBucket 12 = .ok (.iconst 0, 1)) ∧ (decode cX10_isInBucket 13 = .ok (.ireturn, 1)) := by decide +kernel
theorem dX10_isInBucket_9 : decode cX10_isInBucket 9 = .ok (.goto 4, 3) := dX10_isInBucket_9_b.1
theorem dX10_isInBucket_12 : decode cX10_isInBucket 12 = .ok (.iconst 0, 1) := dX10_isInBucket_9_b.2.1
theorem dX10_isInBucket_13 : decode cX10_isInBucket 13 = .ok (.ireturn, 1) := dX10_isInBucket_9_b.2.2
set_option maxRecDepth 20000 in
theorem dX10_isServed_0_b : (decode cX10_isServed 0 = .ok (.iload_n 2, 1)) ∧ (decode cX10_isServed 1 = .ok (.bipush 14, 2)) ∧ (decode cX10_isServed 3 = .ok (.if_icmp .eq 23, 3)) ∧ (decode cX10_isServed 6 = .ok (.aload_n 0, 1)) ∧ (decode cX10_isServed 7 = .ok (.getfield 65, 3)) ∧ (decode cX10_isServed 10 = .ok (.iload_n 1, 1)) := by decide +kernel
theorem dX10_isServed_0 : decode cX10_isServed 0 = .ok (.iload_n 2, 1) := dX10_isServed_0_b.1
theorem dX10_isServed_1 : decode cX10_isServed 1 = .ok (.bipush 14, 2) := dX10_isServed_0_b.2.1
theorem dX10_isServed_3 : decode cX10_isServed 3 = .ok (.if_icmp .eq 23, 3) := dX10_isServed_0_b.2.2.1
theorem dX10_isServed_6 : decode cX10_isServed 6 = .ok (.aload_n 0, 1) := dX10_isServed_0_b.2.2.2.1
theorem dX10_isServed_7 : decode cX10_isServed 7 = .ok (.getfield 65, 3) := dX10_isServed_0_b.2.2.2.2.1
theorem dX10_isServed_10 : decode cX10_isServed 10 = .ok (.iload_n 1, 1) := dX10_isServed_0_b.2.2.2.2.2
set_option maxRecDepth 20000 in
theorem dX10_isServed_11_b : (decode cX10_isServed 11 = .ok (.iaload, 1)) ∧ (decode cX10_isServed 12 = .ok (.iconst (-1), 1)) ∧ (decode cX10_isServed 13 = .ok (.if_icmp .eq 17, 3)) ∧ (decode cX10_isServed 16 = .ok (.iload_n 2, 1)) ∧ (decode cX10_isServed 17 = .ok (.aload_n 0, 1)) ∧ (decode cX10_isServed 18 = .ok (.getfield 65, 3)) := by decide +kernel
theorem dX10_isServed_11 : decode cX10_isServed 11 = .ok (.iaload, 1) := dX10_isServed_11_b.1
theorem dX10_isServed_12 : decode cX10_isServed 12 = .ok (.iconst (-1), 1) := dX10_isServed_11_b.2.1
theorem dX10_isServed_13 : decode cX10_isServed 13 = .ok (.if_icmp .eq 17, 3) := dX10_isServed_11_b.2.2.1
theorem dX10_isServed_16 : decode cX10_isServed 16 = .ok (.iload_n 2, 1) := dX10_isServed_11_b.2.2.2.1
theorem dX10_isServed_17 : decode cX10_isServed 17 = .ok (.aload_n 0, 1) := dX10_isServed_11_b.2.2.2.2.1
theorem dX10_isServed_18 : decode cX10_isServed 18 = .ok (.getfield 65, 3) := dX10_isServed_11_b.2.2.2.2.2
set_option maxRecDepth 20000 in
theorem dX10_isServed_21_b : (decode cX10_isServed 21 = .ok (.iload_n 1, 1)) ∧ (decode cX10_isServed 22 = .ok (.iaload, 1)) ∧ (decode cX10_isServed 23 = .ok (.if_icmp .ne 7, 3)) ∧ (decode cX10_isServed 26 = .ok (.iconst 1, 1)) ∧ (decode cX10_isServed 27 = .ok (.goto 4, 3)) ∧ (decode cX10_isServed 30 = .ok (.iconst 0, 1)) := by decide +kernel
theorem dX10_isServed_21 : decode cX10_isServed 21 = .ok (.iload_n 1, 1) := dX10_isServed_21_b.1
theorem dX10_isServed_22 : decode cX10_isServed 22 = .ok (.iaload, 1) := dX10_isServed_21_b.2.1
theorem dX10_isServed_23 : decode cX10_isServed 23 = .ok (.if_icmp .ne 7, 3) := dX10_isServed_21_b.2.2.1
theorem dX10_isServed_26 : decode cX10_isServed 26 = .ok (.iconst 1, 1) := dX10_isServed_21_b.2.2.2.1
theorem dX10_isServed_27 : decode cX10_isServed 27 = .ok (.goto 4, 3) := dX10_isServed_21_b.2.2.2.2.1
theorem dX10_isServed_30 : decode cX10_isServed 30 = .ok (.iconst 0, 1) := dX10_isServed_21_b.2.2.2.2.2
theorem dX10_isServed_31 : decode cX10_isServed 31 = .ok (.ireturn, 1) := by decide +kernel
set_option maxRecDepth 20000 in
theorem ggX10_thing_X10_isThing : GoodIn wsX10_thing wsX10_isThing := goodIn_r _ [11, 12, 13, 14, 10, 15, 33, 34, 35, 36, 37, 38, 39, 40, 41, 42, 43, 44, 45, 46, 47, 48, 49, 50, 51, 52, 53, 54, 55, 56, 57, 58, 59, 60, 61, 62, 63, 64, 65, 66, 67, 68, 69, 70, 71, 72, 73, 74, 75, 76, 77, 78, 79, 80, 81, 82, 83, 84, 85, 86, 87, 88, 89, 90, 91, 92, 93, 94, 95, 96, 97, 98, 99, 100, 101, 102, 103] (by decide +kernel) (by decide +kernel)
set_option maxRecDepth 20000 in
theorem gX10_thing_X10_isThing : GoodIn wsX10_thing (wsV RX10 349 RX10 yX10_isThing wsX10_isThing) := goodIn_app (goodIn_of _ (by decide +kernel)) ggX10_thing_X10_isThing
set_option maxRecDepth 20000 in
theorem ggX10_thing_X10_fail : GoodIn wsX10_thing wsX10_fail := goodIn_r _ [19, 1, 33, 34, 35, 36, 37, 38, 39, 40, 41, 42, 43, 44, 45, 46, 47, 48, 49, 50, 51, 52, 53, 54, 55, 56, 57, 58, 59, 60, 61, 62, 63, 64, 65, 66, 67, 68, 69, 70, 71, 72, 73, 74, 75, 76, 77, 78, 79, 80, 81, 82, 83, 84, 85, 86, 87, 88, 89, 90, 91, 92, 93, 94, 95, 96, 97, 98, 99, 100, 101, 102, 103] (by decide +kernel) (by decide +kernel)
set_option maxRecDepth 20000 in
theorem gX10_thing_X10_fail : GoodIn wsX10_thing (wsV RX10 315 RX10 yX10_fail wsX10_fail) := goodIn_app (goodIn_of _ (by decide +kernel)) ggX10_thing_X10_fail
set_option maxRecDepth 20000 in
theorem ggX10_thing_X10_depthOf : GoodIn wsX10_thing wsX10_depthOf := goodIn_r _ [23, 24, 25, 26, 10, 27, 28, 33, 34, 35, 36, 37, 38, 39, 40, 41, 42, 43, 44, 45, 46, 47, 48, 49, 50, 51, 52, 53, 54, 55, 56, 57, 58, 59, 60, 61, 62, 63, 64, 65, 66, 67, 68, 69, 70, 71, 72, 73, 74, 75, 76, 77, 78, 79, 80, 81, 82, 83, 84, 85, 86, 87, 88, 89, 90, 91, 92, 93, 94, 95, 96, 97, 98, 99, 100, 101, 102, 103] (by decide +kernel) (by decide +kernel)
set_option maxRecDepth 20000 in
theorem gX10_thing_X10_depthOf : GoodIn wsX10_thing (wsV RX10 352 RX10 yX10_depthOf wsX10_depthOf) := goodIn_app (goodIn_of _ (by decide +kernel)) ggX10_thing_X10_depthOf
set_option maxRecDepth 20000 in
theorem ggX10_thing_X10_isServed : GoodIn wsX10_thing wsX10_isServed := goodIn_r _ [32, 5, 33, 34, 35, 36, 37, 38, 39, 40, 41, 42, 43, 44, 45, 46, 47, 48, 49, 50, 51, 52, 53, 54, 55, 56, 57, 58, 59, 60, 61, 62, 63, 64, 65, 66, 67, 68, 69, 70, 71, 72, 73, 74, 75, 76, 77, 78, 79, 80, 81, 82, 83, 84, 85, 86, 87, 88, 89, 90, 91, 92, 93, 94, 95, 96, 97, 98, 99, 100, 101, 102, 103] (by decide +kernel) (by decide +kernel)
set_option maxRecDepth 20000 in
theorem gX10_thing_X10_isServed : GoodIn wsX10_thing (wsV RX10 355 RX10 yX10_isServed wsX10_isServed) := goodIn_app (goodIn_of _ (by decide +kernel)) ggX10_thing_X10_isServed
set_option maxRecDepth 20000 in
theorem dX10_thing_0_b : (decode cX10_thing 0 = .ok (.aload_n 0, 1)) ∧ (decode cX10_thing 1 = .ok (.iconst 0, 1)) ∧ (decode cX10_thing 2 = .ok (.putfield 171, 3)) ∧ (decode cX10_thing 5 = .ok (.aload_n 0, 1)) ∧ (decode cX10_thing 6 = .ok (.iload_n 1, 1)) ∧ (decode cX10_thing 7 = .ok (.invokevirtual 349, 3)) := by decide +kernel
theorem dX10_thing_0 : decode cX10_thing 0 = .ok (.aload_n 0, 1) := dX10_thing_0_b.1
theorem dX10_thing_1 : decode cX10_thing 1 = .ok (.iconst 0, 1) := dX10_thing_0_b.2.1
theorem dX10_thing_2 : decode cX10_thing 2 = .ok (.putfield 171, 3) := dX10_thing_0_b.2.2.1
theorem dX10_thing_5 : decode cX10_thing 5 = .ok (.aload_n 0, 1) := dX10_thing_0_b.2.2.2.1
theorem dX10_thing_6 : decode cX10_thing 6 = .ok (.iload_n 1, 1) := dX10_thing_0_b.2.2.2.2.1
theorem dX10_thing_7 : decode cX10_thing 7 = .ok (.invokevirtual 349, 3) := dX10_thing_0_b.2.2.2.2.2
set_option maxRecDepth 20000 in
theorem dX10_thing_10_b : (decode cX10_thing 10 = .ok (.ifCond .ne 9, 3)) ∧ (decode cX10_thing 13 = .ok (.aload_n 0, 1)) ∧ (decode cX10_thing 14 = .ok (.iconst 1, 1)) ∧ (decode cX10_thing 15 = .ok (.invokevirtual 315, 3)) ∧ (decode cX10_thing 18 = .ok (.ireturn, 1)) ∧ (decode cX10_thing 19 = .ok (.aload_n 0, 1)) := by decide +kernel
theorem dX10_thing_10 : decode cX10_thing 10 = .ok (.ifCond .ne 9, 3) := dX10_thing_10_b.1
theorem dX10_thing_13 : decode cX10_thing 13 = .ok (.aload_n 0, 1) := dX10_thing_10_b.2.1
theorem dX10_thing_14 : decode cX10_thing 14 = .ok (.iconst 1, 1) := dX10_thing_10_b.2.2.1
theorem dX10_thing_15 : decode cX10_thing 15 = .ok (.invokevirtual 315, 3) := dX10_thing_10_b.2.2.2.1
theorem dX10_thing_18 : decode cX10_thing 18 = .ok (.ireturn, 1) := dX10_thing_10_b.2.2.2.2.1
theorem dX10_thing_19 : decode cX10_thing 19 = .ok (.aload_n 0, 1) := dX10_thing_10_b.2.2.2.2.2
set_option maxRecDepth 20000 in
theorem dX10_thing_20_b : (decode cX10_thing 20 = .ok (.getfield 87, 3)) ∧ (decode cX10_thing 23 = .ok (.iload_n 1, 1)) ∧ (decode cX10_thing 24 = .ok (.iaload, 1)) ∧ (decode cX10_thing 25 = .ok (.istore_n 3, 1)) ∧ (decode cX10_thing 26 = .ok (.iload_n 3, 1)) ∧ (decode cX10_thing 27 = .ok (.bipush 12, 2)) := by decide +kernel
theorem dX10_thing_20 : decode cX10_thing 20 = .ok (.getfield 87, 3) := dX10_thing_20_b.1
theorem dX10_thing_23 : decode cX10_thing 23 = .ok (.iload_n 1, 1) := dX10_thing_20_b.2.1
theorem dX10_thing_24 : decode cX10_thing 24 = .ok (.iaload, 1) := dX10_thing_20_b.2.2.1
theorem dX10_thing_25 : decode cX10_thing 25 = .ok (.istore_n 3, 1) := dX10_thing_20_b.2.2.2.1
theorem dX10_thing_26 : decode cX10_thing 26 = .ok (.iload_n 3, 1) := dX10_thing_20_b.2.2.2.2.1
theorem dX10_thing_27 : decode cX10_thing 27 = .ok (.bipush 12, 2) := dX10_thing_20_b.2.2.2.2.2
set_option maxRecDepth 20000 in
theorem dX10_thing_29_b : (decode cX10_thing 29 = .ok (.if_icmp .eq 9, 3)) ∧ (decode cX10_thing 32 = .ok (.iload_n 3, 1)) ∧ (decode cX10_thing 33 = .ok (.bipush 13, 2)) ∧ (decode cX10_thing 35 = .ok (.if_icmp .ne 7, 3)) ∧ (decode cX10_thing 38 = .ok (.iconst 1, 1)) ∧ (decode cX10_thing 39 = .ok (.goto 4, 3)) := by decide +kernel
theorem dX10_thing_29 : decode cX10_thing 29 = .ok (.if_icmp .eq 9, 3) := dX10_thing_29_b.1
theorem dX10_thing_32 : decode cX10_thing 32 = .ok (.iload_n 3, 1) := dX10_thing_29_b.2.1
theorem dX10_thing_33 : decode cX10_thing 33 = .ok (.bipush 13, 2) := dX10_thing_29_b.2.2.1
theorem dX10_thing_35 : decode cX10_thing 35 = .ok (.if_icmp .ne 7, 3) := dX10_thing_29_b.2.2.2.1
theorem dX10_thing_38 : decode cX10_thing 38 = .ok (.iconst 1, 1) := dX10_thing_29_b.2.2.2.2.1
theorem dX10_thing_39 : decode cX10_thing 39 = .ok (.goto 4, 3) := dX10_thing_29_b.2.2.2.2.2
set_option maxRecDepth 20000 in
theorem dX10_thing_42_b : (decode cX10_thing 42 = .ok (.iconst 0, 1)) ∧ (decode cX10_thing 43 = .ok (.istore 4, 2)) ∧ (decode cX10_thing 45 = .ok (.iload_n 2, 1)) ∧ (decode cX10_thing 46 = .ok (.tableswitch 120 0 5 #[38, 45, 52, 59, 91, 105], 38)) ∧ (decode cX10_thing 84 = .ok (.aload_n 0, 1)) ∧ (decode cX10_thing 85 = .ok (.getfield 57, 3)) := by decide +kernel
theorem dX10_thing_42 : decode cX10_thing 42 = .ok (.iconst 0, 1) := dX10_thing_42_b.1
theorem dX10_thing_43 : decode cX10_thing 43 = .ok (.istore 4, 2) := dX10_thing_42_b.2.1
theorem dX10_thing_45 : decode cX10_thing 45 = .ok (.iload_n 2, 1) := dX10_thing_42_b.2.2.1
theorem dX10_thing_46 : decode cX10_thing 46 = .ok (.tableswitch 120 0 5 #[38, 45, 52, 59, 91, 105], 38) := dX10_thing_42_b.2.2.2.1
theorem dX10_thing_84 : decode cX10_thing 84 = .ok (.aload_n 0, 1) := dX10_thing_42_b.2.2.2.2.1
theorem dX10_thing_85 : decode cX10_thing 85 = .ok (.getfield 57, 3) := dX10_thing_42_b.2.2.2.2.2
set_option maxRecDepth 20000 in
theorem dX10_thing_88_b : (decode cX10_thing 88 = .ok (.iload_n 1, 1)) ∧ (decode cX10_thing 89 = .ok (.iaload, 1)) ∧ (decode cX10_thing 90 = .ok (.ireturn, 1)) ∧ (decode cX10_thing 91 = .ok (.aload_n 0, 1)) ∧ (decode cX10_thing 92 = .ok (.getfield 60, 3)) ∧ (decode cX10_thing 95 = .ok (.iload_n 1, 1)) := by decide +kernel
theorem dX10_thing_88 : decode cX10_thing 88 = .ok (.iload_n 1, 1) := dX10_thing_88_b.1
theorem dX10_thing_89 : decode cX10_thing 89 = .ok (.iaload, 1) := dX10_thing_88_b.2.1
theorem dX10_thing_90 : decode cX10_thing 90 = .ok (.ireturn, 1) := dX10_thing_88_b.2.2.1
theorem dX10_thing_91 : decode cX10_thing 91 = .ok (.aload_n 0, 1) := dX10_thing_88_b.2.2.2.1
theorem dX10_thing_92 : decode cX10_thing 92 = .ok (.getfield 60, 3) := dX10_thing_88_b.2.2.2.2.1
theorem dX10_thing_95 : decode cX10_thing 95 = .ok (.iload_n 1, 1) := dX10_thing_88_b.2.2.2.2.2
set_option maxRecDepth 20000 in
theorem dX10_thing_96_b : (decode cX10_thing 96 = .ok (.iaload, 1)) ∧ (decode cX10_thing 97 = .ok (.ireturn, 1)) ∧ (decode cX10_thing 98 = .ok (.aload_n 0, 1)) ∧ (decode cX10_thing 99 = .ok (.getfield 65, 3)) ∧ (decode cX10_thing 102 = .ok (.iload_n 1, 1)) ∧ (decode cX10_thing 103 = .ok (.iaload, 1)) := by decide +kernel
theorem dX10_thing_96 : decode cX10_thing 96 = .ok (.iaload, 1) := dX10_thing_96_b.1
theorem dX10_thing_97 : decode cX10_thing 97 = .ok (.ireturn, 1) := dX10_thing_96_b.2.1
theorem dX10_thing_98 : decode cX10_thing 98 = .ok (.aload_n 0, 1) := dX10_thing_96_b.2.2.1
theorem dX10_thing_99 : decode cX10_thing 99 = .ok (.getfield 65, 3) := dX10_thing_96_b.2.2.2.1
theorem dX10_thing_102 : decode cX10_thing 102 = .ok (.iload_n 1, 1) := dX10_thing_96_b.2.2.2.2.1
theorem dX10_thing_103 : decode cX10_thing 103 = .ok (.iaload, 1) := dX10_thing_96_b.2.2.2.2.2
set_option maxRecDepth 20000 in
theorem dX10_thing_104_b : (decode cX10_thing 104 = .ok (.ireturn, 1)) ∧ (decode cX10_thing 105 = .ok (.iload 4, 2)) ∧ (decode cX10_thing 107 = .ok (.ifCond .eq 18, 3)) ∧ (decode cX10_thing 110 = .ok (.aload_n 0, 1)) ∧ (decode cX10_thing 111 = .ok (.iload_n 3, 1)) ∧ (decode cX10_thing 112 = .ok (.bipush 12, 2)) := by decide +kernel
theorem dX10_thing_104 : decode cX10_thing 104 = .ok (.ireturn, 1) := dX10_thing_104_b.1
theorem dX10_thing_105 : decode cX10_thing 105 = .ok (.iload 4, 2) := dX10_thing_104_b.2.1
theorem dX10_thing_107 : decode cX10_thing 107 = .ok (.ifCond .eq 18, 3) := dX10_thing_104_b.2.2.1
theorem dX10_thing_110 : decode cX10_thing 110 = .ok (.aload_n 0, 1) := dX10_thing_104_b.2.2.2.1
theorem dX10_thing_111 : decode cX10_thing 111 = .ok (.iload_n 3, 1) := dX10_thing_104_b.2.2.2.2.1
theorem dX10_thing_112 : decode cX10_thing 112 = .ok (.bipush 12, 2) := dX10_thing_104_b.2.2.2.2.2
set_option maxRecDepth 20000 in
theorem dX10_thing_114_b : (decode cX10_thing 114 = .ok (.isub, 1)) ∧ (decode cX10_thing 115 = .ok (.aload_n 0, 1)) ∧ (decode cX10_thing 116 = .ok (.getfield 327, 3)) ∧ (decode cX10_thing 119 = .ok (.invokevirtual 352, 3)) ∧ (decode cX10_thing 122 = .ok (.goto 14, 3)) ∧ (decode cX10_thing 125 = .ok (.iload_n 3, 1)) := by decide +kernel
theorem dX10_thing_114 : decode cX10_thing 114 = .ok (.isub, 1) := dX10_thing_114_b.1
theorem dX10_thing_115 : decode cX10_thing 115 = .ok (.aload_n 0, 1) := dX10_thing_114_b.2.1
theorem dX10_thing_116 : decode cX10_thing 116 = .ok (.getfield 327, 3) := dX10_thing_114_b.2.2.1
theorem dX10_thing_119 : decode cX10_thing 119 = .ok (.invokevirtual 352, 3) := dX10_thing_114_b.2.2.2.1
theorem dX10_thing_122 : decode cX10_thing 122 = .ok (.goto 14, 3) := dX10_thing_114_b.2.2.2.2.1
theorem dX10_thing_125 : decode cX10_thing 125 = .ok (.iload_n 3, 1) := dX10_thing_114_b.2.2.2.2.2
set_option maxRecDepth 20000 in
theorem dX10_thing_126_b : (decode cX10_thing 126 = .ok (.bipush 14, 2)) ∧ (decode cX10_thing 128 = .ok (.if_icmp .ne 7, 3)) ∧ (decode cX10_thing 131 = .ok (.iconst (-1), 1)) ∧ (decode cX10_thing 132 = .ok (.goto 4, 3)) ∧ (decode cX10_thing 135 = .ok (.iload_n 3, 1)) ∧ (decode cX10_thing 136 = .ok (.ireturn, 1)) := by decide +kernel
theorem dX10_thing_126 : decode cX10_thing 126 = .ok (.bipush 14, 2) := dX10_thing_126_b.1
theorem dX10_thing_128 : decode cX10_thing 128 = .ok (.if_icmp .ne 7, 3) := dX10_thing_126_b.2.1
theorem dX10_thing_131 : decode cX10_thing 131 = .ok (.iconst (-1), 1) := dX10_thing_126_b.2.2.1
theorem dX10_thing_132 : decode cX10_thing 132 = .ok (.goto 4, 3) := dX10_thing_126_b.2.2.2.1
theorem dX10_thing_135 : decode cX10_thing 135 = .ok (.iload_n 3, 1) := dX10_thing_126_b.2.2.2.2.1
theorem dX10_thing_136 : decode cX10_thing 136 = .ok (.ireturn, 1) := dX10_thing_126_b.2.2.2.2.2
set_option maxRecDepth 20000 in
theorem dX10_thing_137_b : (decode cX10_thing 137 = .ok (.iload 4, 2)) ∧ (decode cX10_thing 139 = .ok (.ifCond .eq 10, 3)) ∧ (decode cX10_thing 142 = .ok (.iload_n 3, 1)) ∧ (decode cX10_thing 143 = .ok (.bipush 12, 2)) ∧ (decode cX10_thing 145 = .ok (.isub, 1)) ∧ (decode cX10_thing 146 = .ok (.goto 4, 3)) := by decide +kernel
theorem dX10_thing_137 : decode cX10_thing 137 = .ok (.iload 4, 2) := dX10_thing_137_b.1
theorem dX10_thing_139 : decode cX10_thing 139 = .ok (.ifCond .eq 10, 3) := dX10_thing_137_b.2.1
theorem dX10_thing_142 : decode cX10_thing 142 = .ok (.iload_n 3, 1) := dX10_thing_137_b.2.2.1
theorem dX10_thing_143 : decode cX10_thing 143 = .ok (.bipush 12, 2) := dX10_thing_137_b.2.2.2.1
theorem dX10_thing_145 : decode cX10_thing 145 = .ok (.isub, 1) := dX10_thing_137_b.2.2.2.2.1
theorem dX10_thing_146 : decode cX10_thing 146 = .ok (.goto 4, 3) := dX10_thing_137_b.2.2.2.2.2
set_option maxRecDepth 20000 in
theorem dX10_thing_149_b : (decode cX10_thing 149 = .ok (.iconst (-1), 1)) ∧ (decode cX10_thing 150 = .ok (.ireturn, 1)) ∧ (decode cX10_thing 151 = .ok (.aload_n 0, 1)) ∧ (decode cX10_thing 152 = .ok (.iload_n 1, 1)) ∧ (decode cX10_thing 153 = .ok (.iload_n 3, 1)) ∧ (decode cX10_thing 154 = .ok (.invokevirtual 355, 3)) := by decide +kernel
theorem dX10_thing_149 : decode cX10_thing 149 = .ok (.iconst (-1), 1) := dX10_thing_149_b.1
theorem dX10_thing_150 : decode cX10_thing 150 = .ok (.ireturn, 1) := dX10_thing_149_b.2.1
theorem dX10_thing_151 : decode cX10_thing 151 = .ok (.aload_n 0, 1) := dX10_thing_149_b.2.2.1
theorem dX10_thing_152 : decode cX10_thing 152 = .ok (.iload_n 1, 1) := dX10_thing_149_b.2.2.2.1
theorem dX10_thing_153 : decode cX10_thing 153 = .ok (.iload_n 3, 1) := dX10_thing_149_b.2.2.2.2.1
theorem dX10_thing_154 : decode cX10_thing 154 = .ok (.invokevirtual 355, 3) := dX10_thing_149_b.2.2.2.2.2
set_option maxRecDepth 20000 in
theorem dX10_thing_157_b : (decode cX10_thing 157 = .ok (.ifCond .eq 7, 3)) ∧ (decode cX10_thing 160 = .ok (.iconst 1, 1)) ∧ (decode cX10_thing 161 = .ok (.goto 4, 3)) ∧ (decode cX10_thing 164 = .ok (.iconst 0, 1)) ∧ (decode cX10_thing 165 = .ok (.ireturn, 1)) ∧ (decode cX10_thing 166 = .ok (.aload_n 0, 1)) := by decide +kernel
theorem dX10_thing_157 : decode cX10_thing 157 = .ok (.ifCond .eq 7, 3) := dX10_thing_157_b.1
theorem dX10_thing_160 : decode cX10_thing 160 = .ok (.iconst 1, 1) := dX10_thing_157_b.2.1
theorem dX10_thing_161 : decode cX10_thing 161 = .ok (.goto 4, 3) := dX10_thing_157_b.2.2.1
theorem dX10_thing_164 : decode cX10_thing 164 = .ok (.iconst 0, 1) := dX10_thing_157_b.2.2.2.1
theorem dX10_thing_165 : decode cX10_thing 165 = .ok (.ireturn, 1) := dX10_thing_157_b.2.2.2.2.1
theorem dX10_thing_166 : decode cX10_thing 166 = .ok (.aload_n 0, 1) := dX10_thing_157_b.2.2.2.2.2
set_option maxRecDepth 20000 in
theorem dX10_thing_167_b : (decode cX10_thing 167 = .ok (.iconst 1, 1)) ∧ (decode cX10_thing 168 = .ok (.invokevirtual 315, 3)) ∧ (decode cX10_thing 171 = .ok (.ireturn, 1)) := by decide +kernel
theorem dX10_thing_167 : decode cX10_thing 167 = .ok (.iconst 1, 1) := dX10_thing_167_b.1
theorem dX10_thing_168 : decode cX10_thing 168 = .ok (.invokevirtual 315, 3) := dX10_thing_167_b.2.1
theorem dX10_thing_171 : decode cX10_thing 171 = .ok (.ireturn, 1) := dX10_thing_167_b.2.2
set_option maxRecDepth 20000 in
theorem ggX10_loadOf_X10_isInBucket : GoodIn wsX10_loadOf wsX10_isInBucket := goodIn_r _ [6] (by decide +kernel) (by decide +kernel)
set_option maxRecDepth 20000 in
theorem gX10_loadOf_X10_isInBucket : GoodIn wsX10_loadOf (va_wsS RX10 359 yX10_isInBucket wsX10_isInBucket) := goodIn_app (goodIn_of _ (by decide +kernel)) ggX10_loadOf_X10_isInBucket
set_option maxRecDepth 20000 in
theorem dX10_loadOf_0_b : (decode cX10_loadOf 0 = .ok (.iconst 0, 1)) ∧ (decode cX10_loadOf 1 = .ok (.istore_n 3, 1)) ∧ (decode cX10_loadOf 2 = .ok (.iconst 0, 1)) ∧ (decode cX10_loadOf 3 = .ok (.istore 4, 2)) ∧ (decode cX10_loadOf 5 = .ok (.iload 4, 2)) ∧ (decode cX10_loadOf 7 = .ok (.aload_n 0, 1)) := by decide +kernel
theorem dX10_loadOf_0 : decode cX10_loadOf 0 = .ok (.iconst 0, 1) := dX10_loadOf_0_b.1
theorem dX10_loadOf_1 : decode cX10_loadOf 1 = .ok (.istore_n 3, 1) := dX10_loadOf_0_b.2.1
theorem dX10_loadOf_2 : decode cX10_loadOf 2 = .ok (.iconst 0, 1) := dX10_loadOf_0_b.2.2.1
theorem dX10_loadOf_3 : decode cX10_loadOf 3 = .ok (.istore 4, 2) := dX10_loadOf_0_b.2.2.2.1
theorem dX10_loadOf_5 : decode cX10_loadOf 5 = .ok (.iload 4, 2) := dX10_loadOf_0_b.2.2.2.2.1
theorem dX10_loadOf_7 : decode cX10_loadOf 7 = .ok (.aload_n 0, 1) := dX10_loadOf_0_b.2.2.2.2.2
set_option maxRecDepth 20000 in
theorem dX10_loadOf_8_b : (decode cX10_loadOf 8 = .ok (.getfield 174, 3)) ∧ (decode cX10_loadOf 11 = .ok (.if_icmp .ge 34, 3)) ∧ (decode cX10_loadOf 14 = .ok (.iload_n 3, 1)) ∧ (decode cX10_loadOf 15 = .ok (.aload_n 1, 1)) ∧ (decode cX10_loadOf 16 = .ok (.iload 4, 2)) ∧ (decode cX10_loadOf 18 = .ok (.iaload, 1)) := by decide +kernel
theorem dX10_loadOf_8 : decode cX10_loadOf 8 = .ok (.getfield 174, 3) := dX10_loadOf_8_b.1
theorem dX10_loadOf_11 : decode cX10_loadOf 11 = .ok (.if_icmp .ge 34, 3) := dX10_loadOf_8_b.2.1
theorem dX10_loadOf_14 : decode cX10_loadOf 14 = .ok (.iload_n 3, 1) := dX10_loadOf_8_b.2.2.1
theorem dX10_loadOf_15 : decode cX10_loadOf 15 = .ok (.aload_n 1, 1) := dX10_loadOf_8_b.2.2.2.1
theorem dX10_loadOf_16 : decode cX10_loadOf 16 = .ok (.iload 4, 2) := dX10_loadOf_8_b.2.2.2.2.1
theorem dX10_loadOf_18 : decode cX10_loadOf 18 = .ok (.iaload, 1) := dX10_loadOf_8_b.2.2.2.2.2
set_option maxRecDepth 20000 in
theorem dX10_loadOf_19_b : (decode cX10_loadOf 19 = .ok (.iload_n 2, 1)) ∧ (decode cX10_loadOf 20 = .ok (.invokestatic 359, 3)) ∧ (decode cX10_loadOf 23 = .ok (.ifCond .eq 13, 3)) ∧ (decode cX10_loadOf 26 = .ok (.aload_n 0, 1)) ∧ (decode cX10_loadOf 27 = .ok (.getfield 60, 3)) ∧ (decode cX10_loadOf 30 = .ok (.iload 4, 2)) := by decide +kernel
theorem dX10_loadOf_19 : decode cX10_loadOf 19 = .ok (.iload_n 2, 1) := dX10_loadOf_19_b.1
theorem dX10_loadOf_20 : decode cX10_loadOf 20 = .ok (.invokestatic 359, 3) := dX10_loadOf_19_b.2.1
theorem dX10_loadOf_23 : decode cX10_loadOf 23 = .ok (.ifCond .eq 13, 3) := dX10_loadOf_19_b.2.2.1
theorem dX10_loadOf_26 : decode cX10_loadOf 26 = .ok (.aload_n 0, 1) := dX10_loadOf_19_b.2.2.2.1
theorem dX10_loadOf_27 : decode cX10_loadOf 27 = .ok (.getfield 60, 3) := dX10_loadOf_19_b.2.2.2.2.1
theorem dX10_loadOf_30 : decode cX10_loadOf 30 = .ok (.iload 4, 2) := dX10_loadOf_19_b.2.2.2.2.2
set_option maxRecDepth 20000 in
theorem dX10_loadOf_32_b : (decode cX10_loadOf 32 = .ok (.iaload, 1)) ∧ (decode cX10_loadOf 33 = .ok (.goto 4, 3)) ∧ (decode cX10_loadOf 36 = .ok (.iconst 0, 1)) ∧ (decode cX10_loadOf 37 = .ok (.iadd, 1)) ∧ (decode cX10_loadOf 38 = .ok (.istore_n 3, 1)) ∧ (decode cX10_loadOf 39 = .ok (.iinc 4 1, 3)) := by decide +kernel
theorem dX10_loadOf_32 : decode cX10_loadOf 32 = .ok (.iaload, 1) := dX10_loadOf_32_b.1
theorem dX10_loadOf_33 : decode cX10_loadOf 33 = .ok (.goto 4, 3) := dX10_loadOf_32_b.2.1
theorem dX10_loadOf_36 : decode cX10_loadOf 36 = .ok (.iconst 0, 1) := dX10_loadOf_32_b.2.2.1
theorem dX10_loadOf_37 : decode cX10_loadOf 37 = .ok (.iadd, 1) := dX10_loadOf_32_b.2.2.2.1
theorem dX10_loadOf_38 : decode cX10_loadOf 38 = .ok (.istore_n 3, 1) := dX10_loadOf_32_b.2.2.2.2.1
theorem dX10_loadOf_39 : decode cX10_loadOf 39 = .ok (.iinc 4 1, 3) := dX10_loadOf_32_b.2.2.2.2.2
set_option maxRecDepth 20000 in
theorem dX10_loadOf_42_b : (decode cX10_loadOf 42 = .ok (.goto (-37), 3)) ∧ (decode cX10_loadOf 45 = .ok (.iload_n 3, 1)) ∧ (decode cX10_loadOf 46 = .ok (.ireturn, 1)) := by decide +kernel
theorem dX10_loadOf_42 : decode cX10_loadOf 42 = .ok (.goto (-37), 3) := dX10_loadOf_42_b.1
theorem dX10_loadOf_45 : decode cX10_loadOf 45 = .ok (.iload_n 3, 1) := dX10_loadOf_42_b.2.1
theorem dX10_loadOf_46 : decode cX10_loadOf 46 = .ok (.ireturn, 1) := dX10_loadOf_42_b.2.2
set_option maxRecDepth 20000 in
theorem ggX10_sideOf_X10_loadOf : GoodIn wsX10_sideOf wsX10_loadOf := goodIn_r _ [6, 7, 8, 9, 10, 5, 11, 20, 21, 22, 23, 24, 25, 26, 27, 28, 29, 30, 31, 32, 33, 34, 35, 36, 37, 38, 39, 40, 41, 42, 43, 44, 45, 46, 47, 48, 49, 50, 51, 52, 53, 54, 55, 56, 57, 58, 59, 60, 61, 62, 63, 64, 65, 66, 67, 68, 69, 70, 71, 72, 73, 74, 75, 76, 77, 78, 79, 80, 81, 82, 83, 84, 85, 86, 87, 88, 89, 90] (by decide +kernel) (by decide +kernel)
set_option maxRecDepth 20000 in
theorem gX10_sideOf_X10_loadOf : GoodIn wsX10_sideOf (wsV RX10 362 RX10 yX10_loadOf wsX10_loadOf) := goodIn_app (goodIn_of _ (by decide +kernel)) ggX10_sideOf_X10_loadOf
set_option maxRecDepth 20000 in
theorem ggX10_sideOf_X10_depthOf : GoodIn wsX10_sideOf wsX10_depthOf := goodIn_r _ [15, 16, 17, 18, 5, 19, 1, 20, 21, 22, 23, 24, 25, 26, 27, 28, 29, 30, 31, 32, 33, 34, 35, 36, 37, 38, 39, 40, 41, 42, 43, 44, 45, 46, 47, 48, 49, 50, 51, 52, 53, 54, 55, 56, 57, 58, 59, 60, 61, 62, 63, 64, 65, 66, 67, 68, 69, 70, 71, 72, 73, 74, 75, 76, 77, 78, 79, 80, 81, 82, 83, 84, 85, 86, 87, 88, 89, 90] (by decide +kernel) (by decide +kernel)
set_option maxRecDepth 20000 in
theorem gX10_sideOf_X10_depthOf : GoodIn wsX10_sideOf (wsV RX10 352 RX10 yX10_depthOf wsX10_depthOf) := goodIn_app (goodIn_of _ (by decide +kernel)) ggX10_sideOf_X10_depthOf
set_option maxRecDepth 20000 in
theorem dX10_sideOf_0_b : (decode cX10_sideOf 0 = .ok (.aload_n 0, 1)) ∧ (decode cX10_sideOf 1 = .ok (.aload_n 1, 1)) ∧ (decode cX10_sideOf 2 = .ok (.iload_n 2, 1)) ∧ (decode cX10_sideOf 3 = .ok (.invokevirtual 362, 3)) ∧ (decode cX10_sideOf 6 = .ok (.aload_n 0, 1)) ∧ (decode cX10_sideOf 7 = .ok (.getfield 54, 3)) := by decide +kernel
theorem dX10_sideOf_0 : decode cX10_sideOf 0 = .ok (.aload_n 0, 1) := dX10_sideOf_0_b.1
theorem dX10_sideOf_1 : decode cX10_sideOf 1 = .ok (.aload_n 1, 1) := dX10_sideOf_0_b.2.1
theorem dX10_sideOf_2 : decode cX10_sideOf 2 = .ok (.iload_n 2, 1) := dX10_sideOf_0_b.2.2.1
theorem dX10_sideOf_3 : decode cX10_sideOf 3 = .ok (.invokevirtual 362, 3) := dX10_sideOf_0_b.2.2.2.1
theorem dX10_sideOf_6 : decode cX10_sideOf 6 = .ok (.aload_n 0, 1) := dX10_sideOf_0_b.2.2.2.2.1
theorem dX10_sideOf_7 : decode cX10_sideOf 7 = .ok (.getfield 54, 3) := dX10_sideOf_0_b.2.2.2.2.2
set_option maxRecDepth 20000 in
theorem dX10_sideOf_10_b : (decode cX10_sideOf 10 = .ok (.iconst 3, 1)) ∧ (decode cX10_sideOf 11 = .ok (.iaload, 1)) ∧ (decode cX10_sideOf 12 = .ok (.aload_n 0, 1)) ∧ (decode cX10_sideOf 13 = .ok (.iload_n 2, 1)) ∧ (decode cX10_sideOf 14 = .ok (.iload_n 3, 1)) ∧ (decode cX10_sideOf 15 = .ok (.invokevirtual 352, 3)) := by decide +kernel
theorem dX10_sideOf_10 : decode cX10_sideOf 10 = .ok (.iconst 3, 1) := dX10_sideOf_10_b.1
theorem dX10_sideOf_11 : decode cX10_sideOf 11 = .ok (.iaload, 1) := dX10_sideOf_10_b.2.1
theorem dX10_sideOf_12 : decode cX10_sideOf 12 = .ok (.aload_n 0, 1) := dX10_sideOf_10_b.2.2.1
theorem dX10_sideOf_13 : decode cX10_sideOf 13 = .ok (.iload_n 2, 1) := dX10_sideOf_10_b.2.2.2.1
theorem dX10_sideOf_14 : decode cX10_sideOf 14 = .ok (.iload_n 3, 1) := dX10_sideOf_10_b.2.2.2.2.1
theorem dX10_sideOf_15 : decode cX10_sideOf 15 = .ok (.invokevirtual 352, 3) := dX10_sideOf_10_b.2.2.2.2.2
set_option maxRecDepth 20000 in
theorem dX10_sideOf_18_b : (decode cX10_sideOf 18 = .ok (.imul, 1)) ∧ (decode cX10_sideOf 19 = .ok (.iadd, 1)) ∧ (decode cX10_sideOf 20 = .ok (.ireturn, 1)) := by decide +kernel
theorem dX10_sideOf_18 : decode cX10_sideOf 18 = .ok (.imul, 1) := dX10_sideOf_18_b.1
theorem dX10_sideOf_19 : decode cX10_sideOf 19 = .ok (.iadd, 1) := dX10_sideOf_18_b.2.1
theorem dX10_sideOf_20 : decode cX10_sideOf 20 = .ok (.ireturn, 1) := dX10_sideOf_18_b.2.2
set_option maxRecDepth 20000 in
theorem ggX10_manyOf_X10_isInBucket : GoodIn wsX10_manyOf wsX10_isInBucket := goodIn_r _ [6] (by decide +kernel) (by decide +kernel)
set_option maxRecDepth 20000 in
theorem gX10_manyOf_X10_isInBucket : GoodIn wsX10_manyOf (va_wsS RX10 359 yX10_isInBucket wsX10_isInBucket) := goodIn_app (goodIn_of _ (by decide +kernel)) ggX10_manyOf_X10_isInBucket
set_option maxRecDepth 20000 in
theorem dX10_manyOf_0_b : (decode cX10_manyOf 0 = .ok (.iconst 0, 1)) ∧ (decode cX10_manyOf 1 = .ok (.istore 4, 2)) ∧ (decode cX10_manyOf 3 = .ok (.iconst 0, 1)) ∧ (decode cX10_manyOf 4 = .ok (.istore 5, 2)) ∧ (decode cX10_manyOf 6 = .ok (.iload 5, 2)) ∧ (decode cX10_manyOf 8 = .ok (.aload_n 0, 1)) := by decide +kernel
theorem dX10_manyOf_0 : decode cX10_manyOf 0 = .ok (.iconst 0, 1) := dX10_manyOf_0_b.1
theorem dX10_manyOf_1 : decode cX10_manyOf 1 = .ok (.istore 4, 2) := dX10_manyOf_0_b.2.1
theorem dX10_manyOf_3 : decode cX10_manyOf 3 = .ok (.iconst 0, 1) := dX10_manyOf_0_b.2.2.1
theorem dX10_manyOf_4 : decode cX10_manyOf 4 = .ok (.istore 5, 2) := dX10_manyOf_0_b.2.2.2.1
theorem dX10_manyOf_6 : decode cX10_manyOf 6 = .ok (.iload 5, 2) := dX10_manyOf_0_b.2.2.2.2.1
theorem dX10_manyOf_8 : decode cX10_manyOf 8 = .ok (.aload_n 0, 1) := dX10_manyOf_0_b.2.2.2.2.2
set_option maxRecDepth 20000 in
theorem dX10_manyOf_9_b : (decode cX10_manyOf 9 = .ok (.getfield 174, 3)) ∧ (decode cX10_manyOf 12 = .ok (.if_icmp .ge 41, 3)) ∧ (decode cX10_manyOf 15 = .ok (.iload 4, 2)) ∧ (decode cX10_manyOf 17 = .ok (.aload_n 1, 1)) ∧ (decode cX10_manyOf 18 = .ok (.iload 5, 2)) ∧ (decode cX10_manyOf 20 = .ok (.iaload, 1)) := by decide +kernel
theorem dX10_manyOf_9 : decode cX10_manyOf 9 = .ok (.getfield 174, 3) := dX10_manyOf_9_b.1
theorem dX10_manyOf_12 : decode cX10_manyOf 12 = .ok (.if_icmp .ge 41, 3) := dX10_manyOf_9_b.2.1
theorem dX10_manyOf_15 : decode cX10_manyOf 15 = .ok (.iload 4, 2) := dX10_manyOf_9_b.2.2.1
theorem dX10_manyOf_17 : decode cX10_manyOf 17 = .ok (.aload_n 1, 1) := dX10_manyOf_9_b.2.2.2.1
theorem dX10_manyOf_18 : decode cX10_manyOf 18 = .ok (.iload 5, 2) := dX10_manyOf_9_b.2.2.2.2.1
theorem dX10_manyOf_20 : decode cX10_manyOf 20 = .ok (.iaload, 1) := dX10_manyOf_9_b.2.2.2.2.2
set_option maxRecDepth 20000 in
theorem dX10_manyOf_21_b : (decode cX10_manyOf 21 = .ok (.iload_n 2, 1)) ∧ (decode cX10_manyOf 22 = .ok (.invokestatic 359, 3)) ∧ (decode cX10_manyOf 25 = .ok (.ifCond .eq 18, 3)) ∧ (decode cX10_manyOf 28 = .ok (.aload_n 0, 1)) ∧ (decode cX10_manyOf 29 = .ok (.getfield 57, 3)) ∧ (decode cX10_manyOf 32 = .ok (.iload 5, 2)) := by decide +kernel
theorem dX10_manyOf_21 : decode cX10_manyOf 21 = .ok (.iload_n 2, 1) := dX10_manyOf_21_b.1
theorem dX10_manyOf_22 : decode cX10_manyOf 22 = .ok (.invokestatic 359, 3) := dX10_manyOf_21_b.2.1
theorem dX10_manyOf_25 : decode cX10_manyOf 25 = .ok (.ifCond .eq 18, 3) := dX10_manyOf_21_b.2.2.1
theorem dX10_manyOf_28 : decode cX10_manyOf 28 = .ok (.aload_n 0, 1) := dX10_manyOf_21_b.2.2.2.1
theorem dX10_manyOf_29 : decode cX10_manyOf 29 = .ok (.getfield 57, 3) := dX10_manyOf_21_b.2.2.2.2.1
theorem dX10_manyOf_32 : decode cX10_manyOf 32 = .ok (.iload 5, 2) := dX10_manyOf_21_b.2.2.2.2.2
set_option maxRecDepth 20000 in
theorem dX10_manyOf_34_b : (decode cX10_manyOf 34 = .ok (.iaload, 1)) ∧ (decode cX10_manyOf 35 = .ok (.iload_n 3, 1)) ∧ (decode cX10_manyOf 36 = .ok (.if_icmp .ne 7, 3)) ∧ (decode cX10_manyOf 39 = .ok (.iconst 1, 1)) ∧ (decode cX10_manyOf 40 = .ok (.goto 4, 3)) ∧ (decode cX10_manyOf 43 = .ok (.iconst 0, 1)) := by decide +kernel
theorem dX10_manyOf_34 : decode cX10_manyOf 34 = .ok (.iaload, 1) := dX10_manyOf_34_b.1
theorem dX10_manyOf_35 : decode cX10_manyOf 35 = .ok (.iload_n 3, 1) := dX10_manyOf_34_b.2.1
theorem dX10_manyOf_36 : decode cX10_manyOf 36 = .ok (.if_icmp .ne 7, 3) := dX10_manyOf_34_b.2.2.1
theorem dX10_manyOf_39 : decode cX10_manyOf 39 = .ok (.iconst 1, 1) := dX10_manyOf_34_b.2.2.2.1
theorem dX10_manyOf_40 : decode cX10_manyOf 40 = .ok (.goto 4, 3) := dX10_manyOf_34_b.2.2.2.2.1
theorem dX10_manyOf_43 : decode cX10_manyOf 43 = .ok (.iconst 0, 1) := dX10_manyOf_34_b.2.2.2.2.2
set_option maxRecDepth 20000 in
theorem dX10_manyOf_44_b : (decode cX10_manyOf 44 = .ok (.iadd, 1)) ∧ (decode cX10_manyOf 45 = .ok (.istore 4, 2)) ∧ (decode cX10_manyOf 47 = .ok (.iinc 5 1, 3)) ∧ (decode cX10_manyOf 50 = .ok (.goto (-44), 3)) ∧ (decode cX10_manyOf 53 = .ok (.iload 4, 2)) ∧ (decode cX10_manyOf 55 = .ok (.ireturn, 1)) := by decide +kernel
theorem dX10_manyOf_44 : decode cX10_manyOf 44 = .ok (.iadd, 1) := dX10_manyOf_44_b.1
theorem dX10_manyOf_45 : decode cX10_manyOf 45 = .ok (.istore 4, 2) := dX10_manyOf_44_b.2.1
theorem dX10_manyOf_47 : decode cX10_manyOf 47 = .ok (.iinc 5 1, 3) := dX10_manyOf_44_b.2.2.1
theorem dX10_manyOf_50 : decode cX10_manyOf 50 = .ok (.goto (-44), 3) := dX10_manyOf_44_b.2.2.2.1
theorem dX10_manyOf_53 : decode cX10_manyOf 53 = .ok (.iload 4, 2) := dX10_manyOf_44_b.2.2.2.2.1
theorem dX10_manyOf_55 : decode cX10_manyOf 55 = .ok (.ireturn, 1) := dX10_manyOf_44_b.2.2.2.2.2
set_option maxRecDepth 20000 in
theorem dX10_reckon_0_b : (decode cX10_reckon 0 = .ok (.iload_n 0, 1)) ∧ (decode cX10_reckon 1 = .ok (.tableswitch 103 (-26) (-20) #[89, 78, 67, 55, 51, 47, 43], 43)) ∧ (decode cX10_reckon 44 = .ok (.iload_n 1, 1)) ∧ (decode cX10_reckon 45 = .ok (.iload_n 2, 1)) ∧ (decode cX10_reckon 46 = .ok (.iadd, 1)) ∧ (decode cX10_reckon 47 = .ok (.ireturn, 1)) := by decide +kernel
theorem dX10_reckon_0 : decode cX10_reckon 0 = .ok (.iload_n 0, 1) := dX10_reckon_0_b.1
theorem dX10_reckon_1 : decode cX10_reckon 1 = .ok (.tableswitch 103 (-26) (-20) #[89, 78, 67, 55, 51, 47, 43], 43) := dX10_reckon_0_b.2.1
theorem dX10_reckon_44 : decode cX10_reckon 44 = .ok (.iload_n 1, 1) := dX10_reckon_0_b.2.2.1
theorem dX10_reckon_45 : decode cX10_reckon 45 = .ok (.iload_n 2, 1) := dX10_reckon_0_b.2.2.2.1
theorem dX10_reckon_46 : decode cX10_reckon 46 = .ok (.iadd, 1) := dX10_reckon_0_b.2.2.2.2.1
theorem dX10_reckon_47 : decode cX10_reckon 47 = .ok (.ireturn, 1) := dX10_reckon_0_b.2.2.2.2.2
set_option maxRecDepth 20000 in
theorem dX10_reckon_48_b : (decode cX10_reckon 48 = .ok (.iload_n 1, 1)) ∧ (decode cX10_reckon 49 = .ok (.iload_n 2, 1)) ∧ (decode cX10_reckon 50 = .ok (.isub, 1)) ∧ (decode cX10_reckon 51 = .ok (.ireturn, 1)) ∧ (decode cX10_reckon 52 = .ok (.iload_n 1, 1)) ∧ (decode cX10_reckon 53 = .ok (.iload_n 2, 1)) := by decide +kernel
theorem dX10_reckon_48 : decode cX10_reckon 48 = .ok (.iload_n 1, 1) := dX10_reckon_48_b.1
theorem dX10_reckon_49 : decode cX10_reckon 49 = .ok (.iload_n 2, 1) := dX10_reckon_48_b.2.1
theorem dX10_reckon_50 : decode cX10_reckon 50 = .ok (.isub, 1) := dX10_reckon_48_b.2.2.1
theorem dX10_reckon_51 : decode cX10_reckon 51 = .ok (.ireturn, 1) := dX10_reckon_48_b.2.2.2.1
theorem dX10_reckon_52 : decode cX10_reckon 52 = .ok (.iload_n 1, 1) := dX10_reckon_48_b.2.2.2.2.1
theorem dX10_reckon_53 : decode cX10_reckon 53 = .ok (.iload_n 2, 1) := dX10_reckon_48_b.2.2.2.2.2
set_option maxRecDepth 20000 in
theorem dX10_reckon_54_b : (decode cX10_reckon 54 = .ok (.imul, 1)) ∧ (decode cX10_reckon 55 = .ok (.ireturn, 1)) ∧ (decode cX10_reckon 56 = .ok (.iload_n 2, 1)) ∧ (decode cX10_reckon 57 = .ok (.ifCond .ne 7, 3)) ∧ (decode cX10_reckon 60 = .ok (.iconst 0, 1)) ∧ (decode cX10_reckon 61 = .ok (.goto 6, 3)) := by decide +kernel
theorem dX10_reckon_54 : decode cX10_reckon 54 = .ok (.imul, 1) := dX10_reckon_54_b.1
theorem dX10_reckon_55 : decode cX10_reckon 55 = .ok (.ireturn, 1) := dX10_reckon_54_b.2.1
theorem dX10_reckon_56 : decode cX10_reckon 56 = .ok (.iload_n 2, 1) := dX10_reckon_54_b.2.2.1
theorem dX10_reckon_57 : decode cX10_reckon 57 = .ok (.ifCond .ne 7, 3) := dX10_reckon_54_b.2.2.2.1
theorem dX10_reckon_60 : decode cX10_reckon 60 = .ok (.iconst 0, 1) := dX10_reckon_54_b.2.2.2.2.1
theorem dX10_reckon_61 : decode cX10_reckon 61 = .ok (.goto 6, 3) := dX10_reckon_54_b.2.2.2.2.2
set_option maxRecDepth 20000 in
theorem dX10_reckon_64_b : (decode cX10_reckon 64 = .ok (.iload_n 1, 1)) ∧ (decode cX10_reckon 65 = .ok (.iload_n 2, 1)) ∧ (decode cX10_reckon 66 = .ok (.idiv, 1)) ∧ (decode cX10_reckon 67 = .ok (.ireturn, 1)) ∧ (decode cX10_reckon 68 = .ok (.iload_n 1, 1)) ∧ (decode cX10_reckon 69 = .ok (.iload_n 2, 1)) := by decide +kernel
theorem dX10_reckon_64 : decode cX10_reckon 64 = .ok (.iload_n 1, 1) := dX10_reckon_64_b.1
theorem dX10_reckon_65 : decode cX10_reckon 65 = .ok (.iload_n 2, 1) := dX10_reckon_64_b.2.1
theorem dX10_reckon_66 : decode cX10_reckon 66 = .ok (.idiv, 1) := dX10_reckon_64_b.2.2.1
theorem dX10_reckon_67 : decode cX10_reckon 67 = .ok (.ireturn, 1) := dX10_reckon_64_b.2.2.2.1
theorem dX10_reckon_68 : decode cX10_reckon 68 = .ok (.iload_n 1, 1) := dX10_reckon_64_b.2.2.2.2.1
theorem dX10_reckon_69 : decode cX10_reckon 69 = .ok (.iload_n 2, 1) := dX10_reckon_64_b.2.2.2.2.2
set_option maxRecDepth 20000 in
theorem dX10_reckon_70_b : (decode cX10_reckon 70 = .ok (.if_icmp .ge 7, 3)) ∧ (decode cX10_reckon 73 = .ok (.iconst 1, 1)) ∧ (decode cX10_reckon 74 = .ok (.goto 4, 3)) ∧ (decode cX10_reckon 77 = .ok (.iconst 0, 1)) ∧ (decode cX10_reckon 78 = .ok (.ireturn, 1)) ∧ (decode cX10_reckon 79 = .ok (.iload_n 1, 1)) := by decide +kernel
theorem dX10_reckon_70 : decode cX10_reckon 70 = .ok (.if_icmp .ge 7, 3) := dX10_reckon_70_b.1
theorem dX10_reckon_73 : decode cX10_reckon 73 = .ok (.iconst 1, 1) := dX10_reckon_70_b.2.1
theorem dX10_reckon_74 : decode cX10_reckon 74 = .ok (.goto 4, 3) := dX10_reckon_70_b.2.2.1
theorem dX10_reckon_77 : decode cX10_reckon 77 = .ok (.iconst 0, 1) := dX10_reckon_70_b.2.2.2.1
theorem dX10_reckon_78 : decode cX10_reckon 78 = .ok (.ireturn, 1) := dX10_reckon_70_b.2.2.2.2.1
theorem dX10_reckon_79 : decode cX10_reckon 79 = .ok (.iload_n 1, 1) := dX10_reckon_70_b.2.2.2.2.2
set_option maxRecDepth 20000 in
theorem dX10_reckon_80_b : (decode cX10_reckon 80 = .ok (.iload_n 2, 1)) ∧ (decode cX10_reckon 81 = .ok (.if_icmp .ne 7, 3)) ∧ (decode cX10_reckon 84 = .ok (.iconst 1, 1)) ∧ (decode cX10_reckon 85 = .ok (.goto 4, 3)) ∧ (decode cX10_reckon 88 = .ok (.iconst 0, 1)) ∧ (decode cX10_reckon 89 = .ok (.ireturn, 1)) := by decide +kernel
theorem dX10_reckon_80 : decode cX10_reckon 80 = .ok (.iload_n 2, 1) := dX10_reckon_80_b.1
theorem dX10_reckon_81 : decode cX10_reckon 81 = .ok (.if_icmp .ne 7, 3) := dX10_reckon_80_b.2.1
theorem dX10_reckon_84 : decode cX10_reckon 84 = .ok (.iconst 1, 1) := dX10_reckon_80_b.2.2.1
theorem dX10_reckon_85 : decode cX10_reckon 85 = .ok (.goto 4, 3) := dX10_reckon_80_b.2.2.2.1
theorem dX10_reckon_88 : decode cX10_reckon 88 = .ok (.iconst 0, 1) := dX10_reckon_80_b.2.2.2.2.1
theorem dX10_reckon_89 : decode cX10_reckon 89 = .ok (.ireturn, 1) := dX10_reckon_80_b.2.2.2.2.2
set_option maxRecDepth 20000 in
theorem dX10_reckon_90_b : (decode cX10_reckon 90 = .ok (.iload_n 1, 1)) ∧ (decode cX10_reckon 91 = .ok (.ifCond .eq 11, 3)) ∧ (decode cX10_reckon 94 = .ok (.iload_n 2, 1)) ∧ (decode cX10_reckon 95 = .ok (.ifCond .eq 7, 3)) ∧ (decode cX10_reckon 98 = .ok (.iconst 1, 1)) ∧ (decode cX10_reckon 99 = .ok (.goto 4, 3)) := by decide +kernel
theorem dX10_reckon_90 : decode cX10_reckon 90 = .ok (.iload_n 1, 1) := dX10_reckon_90_b.1
theorem dX10_reckon_91 : decode cX10_reckon 91 = .ok (.ifCond .eq 11, 3) := dX10_reckon_90_b.2.1
theorem dX10_reckon_94 : decode cX10_reckon 94 = .ok (.iload_n 2, 1) := dX10_reckon_90_b.2.2.1
theorem dX10_reckon_95 : decode cX10_reckon 95 = .ok (.ifCond .eq 7, 3) := dX10_reckon_90_b.2.2.2.1
theorem dX10_reckon_98 : decode cX10_reckon 98 = .ok (.iconst 1, 1) := dX10_reckon_90_b.2.2.2.2.1
theorem dX10_reckon_99 : decode cX10_reckon 99 = .ok (.goto 4, 3) := dX10_reckon_90_b.2.2.2.2.2
set_option maxRecDepth 20000 in
theorem dX10_reckon_102_b : (decode cX10_reckon 102 = .ok (.iconst 0, 1)) ∧ (decode cX10_reckon 103 = .ok (.ireturn, 1)) ∧ (decode cX10_reckon 104 = .ok (.iload_n 1, 1)) ∧ (decode cX10_reckon 105 = .ok (.ifCond .ne 7, 3)) ∧ (decode cX10_reckon 108 = .ok (.iload_n 2, 1)) ∧ (decode cX10_reckon 109 = .ok (.ifCond .eq 7, 3)) := by decide +kernel
theorem dX10_reckon_102 : decode cX10_reckon 102 = .ok (.iconst 0, 1) := dX10_reckon_102_b.1
theorem dX10_reckon_103 : decode cX10_reckon 103 = .ok (.ireturn, 1) := dX10_reckon_102_b.2.1
theorem dX10_reckon_104 : decode cX10_reckon 104 = .ok (.iload_n 1, 1) := dX10_reckon_102_b.2.2.1
theorem dX10_reckon_105 : decode cX10_reckon 105 = .ok (.ifCond .ne 7, 3) := dX10_reckon_102_b.2.2.2.1
theorem dX10_reckon_108 : decode cX10_reckon 108 = .ok (.iload_n 2, 1) := dX10_reckon_102_b.2.2.2.2.1
theorem dX10_reckon_109 : decode cX10_reckon 109 = .ok (.ifCond .eq 7, 3) := dX10_reckon_102_b.2.2.2.2.2
set_option maxRecDepth 20000 in
theorem dX10_reckon_112_b : (decode cX10_reckon 112 = .ok (.iconst 1, 1)) ∧ (decode cX10_reckon 113 = .ok (.goto 4, 3)) ∧ (decode cX10_reckon 116 = .ok (.iconst 0, 1)) ∧ (decode cX10_reckon 117 = .ok (.ireturn, 1)) := by decide +kernel
theorem dX10_reckon_112 : decode cX10_reckon 112 = .ok (.iconst 1, 1) := dX10_reckon_112_b.1
theorem dX10_reckon_113 : decode cX10_reckon 113 = .ok (.goto 4, 3) := dX10_reckon_112_b.2.1
theorem dX10_reckon_116 : decode cX10_reckon 116 = .ok (.iconst 0, 1) := dX10_reckon_112_b.2.2.1
theorem dX10_reckon_117 : decode cX10_reckon 117 = .ok (.ireturn, 1) := dX10_reckon_112_b.2.2.2
set_option maxRecDepth 20000 in
theorem ggX10_holds_X10_reckon : GoodIn wsX10_holds wsX10_reckon := goodIn_r _ [9] (by decide +kernel) (by decide +kernel)
set_option maxRecDepth 20000 in
theorem gX10_holds_X10_reckon : GoodIn wsX10_holds (va_wsS RX10 366 yX10_reckon wsX10_reckon) := goodIn_app (goodIn_of _ (by decide +kernel)) ggX10_holds_X10_reckon
set_option maxRecDepth 20000 in
theorem dX10_holds_0_b : (decode cX10_holds 0 = .ok (.iconst 0, 1)) ∧ (decode cX10_holds 1 = .ok (.istore_n 2, 1)) ∧ (decode cX10_holds 2 = .ok (.aload_n 0, 1)) ∧ (decode cX10_holds 3 = .ok (.getfield 68, 3)) ∧ (decode cX10_holds 6 = .ok (.iload_n 1, 1)) ∧ (decode cX10_holds 7 = .ok (.iaload, 1)) := by decide +kernel
theorem dX10_holds_0 : decode cX10_holds 0 = .ok (.iconst 0, 1) := dX10_holds_0_b.1
theorem dX10_holds_1 : decode cX10_holds 1 = .ok (.istore_n 2, 1) := dX10_holds_0_b.2.1
theorem dX10_holds_2 : decode cX10_holds 2 = .ok (.aload_n 0, 1) := dX10_holds_0_b.2.2.1
theorem dX10_holds_3 : decode cX10_holds 3 = .ok (.getfield 68, 3) := dX10_holds_0_b.2.2.2.1
theorem dX10_holds_6 : decode cX10_holds 6 = .ok (.iload_n 1, 1) := dX10_holds_0_b.2.2.2.2.1
theorem dX10_holds_7 : decode cX10_holds 7 = .ok (.iaload, 1) := dX10_holds_0_b.2.2.2.2.2
set_option maxRecDepth 20000 in
theorem dX10_holds_8_b : (decode cX10_holds 8 = .ok (.istore_n 3, 1)) ∧ (decode cX10_holds 9 = .ok (.iload_n 3, 1)) ∧ (decode cX10_holds 10 = .ok (.aload_n 0, 1)) ∧ (decode cX10_holds 11 = .ok (.getfield 71, 3)) ∧ (decode cX10_holds 14 = .ok (.iload_n 1, 1)) ∧ (decode cX10_holds 15 = .ok (.iaload, 1)) := by decide +kernel
theorem dX10_holds_8 : decode cX10_holds 8 = .ok (.istore_n 3, 1) := dX10_holds_8_b.1
theorem dX10_holds_9 : decode cX10_holds 9 = .ok (.iload_n 3, 1) := dX10_holds_8_b.2.1
theorem dX10_holds_10 : decode cX10_holds 10 = .ok (.aload_n 0, 1) := dX10_holds_8_b.2.2.1
theorem dX10_holds_11 : decode cX10_holds 11 = .ok (.getfield 71, 3) := dX10_holds_8_b.2.2.2.1
theorem dX10_holds_14 : decode cX10_holds 14 = .ok (.iload_n 1, 1) := dX10_holds_8_b.2.2.2.2.1
theorem dX10_holds_15 : decode cX10_holds 15 = .ok (.iaload, 1) := dX10_holds_8_b.2.2.2.2.2
set_option maxRecDepth 20000 in
theorem dX10_holds_16_b : (decode cX10_holds 16 = .ok (.if_icmp .ge 119, 3)) ∧ (decode cX10_holds 19 = .ok (.aload_n 0, 1)) ∧ (decode cX10_holds 20 = .ok (.getfield 74, 3)) ∧ (decode cX10_holds 23 = .ok (.iload_n 3, 1)) ∧ (decode cX10_holds 24 = .ok (.iaload, 1)) ∧ (decode cX10_holds 25 = .ok (.istore 4, 2)) := by decide +kernel
theorem dX10_holds_16 : decode cX10_holds 16 = .ok (.if_icmp .ge 119, 3) := dX10_holds_16_b.1
theorem dX10_holds_19 : decode cX10_holds 19 = .ok (.aload_n 0, 1) := dX10_holds_16_b.2.1
theorem dX10_holds_20 : decode cX10_holds 20 = .ok (.getfield 74, 3) := dX10_holds_16_b.2.2.1
theorem dX10_holds_23 : decode cX10_holds 23 = .ok (.iload_n 3, 1) := dX10_holds_16_b.2.2.2.1
theorem dX10_holds_24 : decode cX10_holds 24 = .ok (.iaload, 1) := dX10_holds_16_b.2.2.2.2.1
theorem dX10_holds_25 : decode cX10_holds 25 = .ok (.istore 4, 2) := dX10_holds_16_b.2.2.2.2.2
set_option maxRecDepth 20000 in
theorem dX10_holds_27_b : (decode cX10_holds 27 = .ok (.iload 4, 2)) ∧ (decode cX10_holds 29 = .ok (.bipush (-20), 2)) ∧ (decode cX10_holds 31 = .ok (.if_icmp .le 34, 3)) ∧ (decode cX10_holds 34 = .ok (.aload_n 0, 1)) ∧ (decode cX10_holds 35 = .ok (.getfield 111, 3)) ∧ (decode cX10_holds 38 = .ok (.iload_n 2, 1)) := by decide +kernel
theorem dX10_holds_27 : decode cX10_holds 27 = .ok (.iload 4, 2) := dX10_holds_27_b.1
theorem dX10_holds_29 : decode cX10_holds 29 = .ok (.bipush (-20), 2) := dX10_holds_27_b.2.1
theorem dX10_holds_31 : decode cX10_holds 31 = .ok (.if_icmp .le 34, 3) := dX10_holds_27_b.2.2.1
theorem dX10_holds_34 : decode cX10_holds 34 = .ok (.aload_n 0, 1) := dX10_holds_27_b.2.2.2.1
theorem dX10_holds_35 : decode cX10_holds 35 = .ok (.getfield 111, 3) := dX10_holds_27_b.2.2.2.2.1
theorem dX10_holds_38 : decode cX10_holds 38 = .ok (.iload_n 2, 1) := dX10_holds_27_b.2.2.2.2.2
set_option maxRecDepth 20000 in
theorem dX10_holds_39_b : (decode cX10_holds 39 = .ok (.iload 4, 2)) ∧ (decode cX10_holds 41 = .ok (.ifCond .lt 8, 3)) ∧ (decode cX10_holds 44 = .ok (.iload 4, 2)) ∧ (decode cX10_holds 46 = .ok (.goto 12, 3)) ∧ (decode cX10_holds 49 = .ok (.aload_n 0, 1)) ∧ (decode cX10_holds 50 = .ok (.getfield 108, 3)) := by decide +kernel
theorem dX10_holds_39 : decode cX10_holds 39 = .ok (.iload 4, 2) := dX10_holds_39_b.1
theorem dX10_holds_41 : decode cX10_holds 41 = .ok (.ifCond .lt 8, 3) := dX10_holds_39_b.2.1
theorem dX10_holds_44 : decode cX10_holds 44 = .ok (.iload 4, 2) := dX10_holds_39_b.2.2.1
theorem dX10_holds_46 : decode cX10_holds 46 = .ok (.goto 12, 3) := dX10_holds_39_b.2.2.2.1
theorem dX10_holds_49 : decode cX10_holds 49 = .ok (.aload_n 0, 1) := dX10_holds_39_b.2.2.2.2.1
theorem dX10_holds_50 : decode cX10_holds 50 = .ok (.getfield 108, 3) := dX10_holds_39_b.2.2.2.2.2
set_option maxRecDepth 20000 in
theorem dX10_holds_53_b : (decode cX10_holds 53 = .ok (.iconst (-1), 1)) ∧ (decode cX10_holds 54 = .ok (.iload 4, 2)) ∧ (decode cX10_holds 56 = .ok (.isub, 1)) ∧ (decode cX10_holds 57 = .ok (.iaload, 1)) ∧ (decode cX10_holds 58 = .ok (.iastore, 1)) ∧ (decode cX10_holds 59 = .ok (.iinc 2 1, 3)) := by decide +kernel
theorem dX10_holds_53 : decode cX10_holds 53 = .ok (.iconst (-1), 1) := dX10_holds_53_b.1
theorem dX10_holds_54 : decode cX10_holds 54 = .ok (.iload 4, 2) := dX10_holds_53_b.2.1
theorem dX10_holds_56 : decode cX10_holds 56 = .ok (.isub, 1) := dX10_holds_53_b.2.2.1
theorem dX10_holds_57 : decode cX10_holds 57 = .ok (.iaload, 1) := dX10_holds_53_b.2.2.2.1
theorem dX10_holds_58 : decode cX10_holds 58 = .ok (.iastore, 1) := dX10_holds_53_b.2.2.2.2.1
theorem dX10_holds_59 : decode cX10_holds 59 = .ok (.iinc 2 1, 3) := dX10_holds_53_b.2.2.2.2.2
set_option maxRecDepth 20000 in
theorem dX10_holds_62_b : (decode cX10_holds 62 = .ok (.goto 67, 3)) ∧ (decode cX10_holds 65 = .ok (.iload 4, 2)) ∧ (decode cX10_holds 67 = .ok (.bipush (-28), 2)) ∧ (decode cX10_holds 69 = .ok (.if_icmp .ne 30, 3)) ∧ (decode cX10_holds 72 = .ok (.aload_n 0, 1)) ∧ (decode cX10_holds 73 = .ok (.getfield 111, 3)) := by decide +kernel
theorem dX10_holds_62 : decode cX10_holds 62 = .ok (.goto 67, 3) := dX10_holds_62_b.1
theorem dX10_holds_65 : decode cX10_holds 65 = .ok (.iload 4, 2) := dX10_holds_62_b.2.1
theorem dX10_holds_67 : decode cX10_holds 67 = .ok (.bipush (-28), 2) := dX10_holds_62_b.2.2.1
theorem dX10_holds_69 : decode cX10_holds 69 = .ok (.if_icmp .ne 30, 3) := dX10_holds_62_b.2.2.2.1
theorem dX10_holds_72 : decode cX10_holds 72 = .ok (.aload_n 0, 1) := dX10_holds_62_b.2.2.2.2.1
theorem dX10_holds_73 : decode cX10_holds 73 = .ok (.getfield 111, 3) := dX10_holds_62_b.2.2.2.2.2
set_option maxRecDepth 20000 in
theorem dX10_holds_76_b : (decode cX10_holds 76 = .ok (.iload_n 2, 1)) ∧ (decode cX10_holds 77 = .ok (.iconst 1, 1)) ∧ (decode cX10_holds 78 = .ok (.isub, 1)) ∧ (decode cX10_holds 79 = .ok (.aload_n 0, 1)) ∧ (decode cX10_holds 80 = .ok (.getfield 111, 3)) ∧ (decode cX10_holds 83 = .ok (.iload_n 2, 1)) := by decide +kernel
theorem dX10_holds_76 : decode cX10_holds 76 = .ok (.iload_n 2, 1) := dX10_holds_76_b.1
theorem dX10_holds_77 : decode cX10_holds 77 = .ok (.iconst 1, 1) := dX10_holds_76_b.2.1
theorem dX10_holds_78 : decode cX10_holds 78 = .ok (.isub, 1) := dX10_holds_76_b.2.2.1
theorem dX10_holds_79 : decode cX10_holds 79 = .ok (.aload_n 0, 1) := dX10_holds_76_b.2.2.2.1
theorem dX10_holds_80 : decode cX10_holds 80 = .ok (.getfield 111, 3) := dX10_holds_76_b.2.2.2.2.1
theorem dX10_holds_83 : decode cX10_holds 83 = .ok (.iload_n 2, 1) := dX10_holds_76_b.2.2.2.2.2
set_option maxRecDepth 20000 in
theorem dX10_holds_84_b : (decode cX10_holds 84 = .ok (.iconst 1, 1)) ∧ (decode cX10_holds 85 = .ok (.isub, 1)) ∧ (decode cX10_holds 86 = .ok (.iaload, 1)) ∧ (decode cX10_holds 87 = .ok (.ifCond .eq 7, 3)) ∧ (decode cX10_holds 90 = .ok (.iconst 0, 1)) ∧ (decode cX10_holds 91 = .ok (.goto 4, 3)) := by decide +kernel
theorem dX10_holds_84 : decode cX10_holds 84 = .ok (.iconst 1, 1) := dX10_holds_84_b.1
theorem dX10_holds_85 : decode cX10_holds 85 = .ok (.isub, 1) := dX10_holds_84_b.2.1
theorem dX10_holds_86 : decode cX10_holds 86 = .ok (.iaload, 1) := dX10_holds_84_b.2.2.1
theorem dX10_holds_87 : decode cX10_holds 87 = .ok (.ifCond .eq 7, 3) := dX10_holds_84_b.2.2.2.1
theorem dX10_holds_90 : decode cX10_holds 90 = .ok (.iconst 0, 1) := dX10_holds_84_b.2.2.2.2.1
theorem dX10_holds_91 : decode cX10_holds 91 = .ok (.goto 4, 3) := dX10_holds_84_b.2.2.2.2.2
set_option maxRecDepth 20000 in
theorem dX10_holds_94_b : (decode cX10_holds 94 = .ok (.iconst 1, 1)) ∧ (decode cX10_holds 95 = .ok (.iastore, 1)) ∧ (decode cX10_holds 96 = .ok (.goto 33, 3)) ∧ (decode cX10_holds 99 = .ok (.iinc 2 (-1), 3)) ∧ (decode cX10_holds 102 = .ok (.aload_n 0, 1)) ∧ (decode cX10_holds 103 = .ok (.getfield 111, 3)) := by decide +kernel
theorem dX10_holds_94 : decode cX10_holds 94 = .ok (.iconst 1, 1) := dX10_holds_94_b.1
theorem dX10_holds_95 : decode cX10_holds 95 = .ok (.iastore, 1) := dX10_holds_94_b.2.1
theorem dX10_holds_96 : decode cX10_holds 96 = .ok (.goto 33, 3) := dX10_holds_94_b.2.2.1
theorem dX10_holds_99 : decode cX10_holds 99 = .ok (.iinc 2 (-1), 3) := dX10_holds_94_b.2.2.2.1
theorem dX10_holds_102 : decode cX10_holds 102 = .ok (.aload_n 0, 1) := dX10_holds_94_b.2.2.2.2.1
theorem dX10_holds_103 : decode cX10_holds 103 = .ok (.getfield 111, 3) := dX10_holds_94_b.2.2.2.2.2
set_option maxRecDepth 20000 in
theorem dX10_holds_106_b : (decode cX10_holds 106 = .ok (.iload_n 2, 1)) ∧ (decode cX10_holds 107 = .ok (.iconst 1, 1)) ∧ (decode cX10_holds 108 = .ok (.isub, 1)) ∧ (decode cX10_holds 109 = .ok (.iload 4, 2)) ∧ (decode cX10_holds 111 = .ok (.aload_n 0, 1)) ∧ (decode cX10_holds 112 = .ok (.getfield 111, 3)) := by decide +kernel
theorem dX10_holds_106 : decode cX10_holds 106 = .ok (.iload_n 2, 1) := dX10_holds_106_b.1
theorem dX10_holds_107 : decode cX10_holds 107 = .ok (.iconst 1, 1) := dX10_holds_106_b.2.1
theorem dX10_holds_108 : decode cX10_holds 108 = .ok (.isub, 1) := dX10_holds_106_b.2.2.1
theorem dX10_holds_109 : decode cX10_holds 109 = .ok (.iload 4, 2) := dX10_holds_106_b.2.2.2.1
theorem dX10_holds_111 : decode cX10_holds 111 = .ok (.aload_n 0, 1) := dX10_holds_106_b.2.2.2.2.1
theorem dX10_holds_112 : decode cX10_holds 112 = .ok (.getfield 111, 3) := dX10_holds_106_b.2.2.2.2.2
set_option maxRecDepth 20000 in
theorem dX10_holds_115_b : (decode cX10_holds 115 = .ok (.iload_n 2, 1)) ∧ (decode cX10_holds 116 = .ok (.iconst 1, 1)) ∧ (decode cX10_holds 117 = .ok (.isub, 1)) ∧ (decode cX10_holds 118 = .ok (.iaload, 1)) ∧ (decode cX10_holds 119 = .ok (.aload_n 0, 1)) ∧ (decode cX10_holds 120 = .ok (.getfield 111, 3)) := by decide +kernel
theorem dX10_holds_115 : decode cX10_holds 115 = .ok (.iload_n 2, 1) := dX10_holds_115_b.1
theorem dX10_holds_116 : decode cX10_holds 116 = .ok (.iconst 1, 1) := dX10_holds_115_b.2.1
theorem dX10_holds_117 : decode cX10_holds 117 = .ok (.isub, 1) := dX10_holds_115_b.2.2.1
theorem dX10_holds_118 : decode cX10_holds 118 = .ok (.iaload, 1) := dX10_holds_115_b.2.2.2.1
theorem dX10_holds_119 : decode cX10_holds 119 = .ok (.aload_n 0, 1) := dX10_holds_115_b.2.2.2.2.1
theorem dX10_holds_120 : decode cX10_holds 120 = .ok (.getfield 111, 3) := dX10_holds_115_b.2.2.2.2.2
set_option maxRecDepth 20000 in
theorem dX10_holds_123_b : (decode cX10_holds 123 = .ok (.iload_n 2, 1)) ∧ (decode cX10_holds 124 = .ok (.iaload, 1)) ∧ (decode cX10_holds 125 = .ok (.invokestatic 366, 3)) ∧ (decode cX10_holds 128 = .ok (.iastore, 1)) ∧ (decode cX10_holds 129 = .ok (.iinc 3 1, 3)) ∧ (decode cX10_holds 132 = .ok (.goto (-123), 3)) := by decide +kernel
theorem dX10_holds_123 : decode cX10_holds 123 = .ok (.iload_n 2, 1) := dX10_holds_123_b.1
theorem dX10_holds_124 : decode cX10_holds 124 = .ok (.iaload, 1) := dX10_holds_123_b.2.1
theorem dX10_holds_125 : decode cX10_holds 125 = .ok (.invokestatic 366, 3) := dX10_holds_123_b.2.2.1
theorem dX10_holds_128 : decode cX10_holds 128 = .ok (.iastore, 1) := dX10_holds_123_b.2.2.2.1
theorem dX10_holds_129 : decode cX10_holds 129 = .ok (.iinc 3 1, 3) := dX10_holds_123_b.2.2.2.2.1
theorem dX10_holds_132 : decode cX10_holds 132 = .ok (.goto (-123), 3) := dX10_holds_123_b.2.2.2.2.2
set_option maxRecDepth 20000 in
theorem dX10_holds_135_b : (decode cX10_holds 135 = .ok (.aload_n 0, 1)) ∧ (decode cX10_holds 136 = .ok (.getfield 111, 3)) ∧ (decode cX10_holds 139 = .ok (.iconst 0, 1)) ∧ (decode cX10_holds 140 = .ok (.iaload, 1)) ∧ (decode cX10_holds 141 = .ok (.ifCond .eq 7, 3)) ∧ (decode cX10_holds 144 = .ok (.iconst 1, 1)) := by decide +kernel
theorem dX10_holds_135 : decode cX10_holds 135 = .ok (.aload_n 0, 1) := dX10_holds_135_b.1
theorem dX10_holds_136 : decode cX10_holds 136 = .ok (.getfield 111, 3) := dX10_holds_135_b.2.1
theorem dX10_holds_139 : decode cX10_holds 139 = .ok (.iconst 0, 1) := dX10_holds_135_b.2.2.1
theorem dX10_holds_140 : decode cX10_holds 140 = .ok (.iaload, 1) := dX10_holds_135_b.2.2.2.1
theorem dX10_holds_141 : decode cX10_holds 141 = .ok (.ifCond .eq 7, 3) := dX10_holds_135_b.2.2.2.2.1
theorem dX10_holds_144 : decode cX10_holds 144 = .ok (.iconst 1, 1) := dX10_holds_135_b.2.2.2.2.2
set_option maxRecDepth 20000 in
theorem dX10_holds_145_b : (decode cX10_holds 145 = .ok (.goto 4, 3)) ∧ (decode cX10_holds 148 = .ok (.iconst 0, 1)) ∧ (decode cX10_holds 149 = .ok (.ireturn, 1)) := by decide +kernel
theorem dX10_holds_145 : decode cX10_holds 145 = .ok (.goto 4, 3) := dX10_holds_145_b.1
theorem dX10_holds_148 : decode cX10_holds 148 = .ok (.iconst 0, 1) := dX10_holds_145_b.2.1
theorem dX10_holds_149 : decode cX10_holds 149 = .ok (.ireturn, 1) := dX10_holds_145_b.2.2
set_option maxRecDepth 20000 in
theorem ggX10_brokenBy_X10_manyOf : GoodIn wsX10_brokenBy wsX10_manyOf := goodIn_r _ [7, 8, 9, 10, 11, 6, 12, 38, 39, 40, 41, 42, 43, 44, 45, 46, 47, 48, 49, 50, 51, 52, 53, 54, 55, 56, 57, 58, 59, 60, 61, 62, 63, 64, 65, 66, 67, 68, 69, 70, 71, 72, 73, 74, 75, 76, 77, 78, 79, 80, 81, 82, 83, 84, 85, 86, 87, 88, 89, 90, 91, 92, 93, 94, 95, 96, 97, 98, 99, 100, 101, 102, 103, 104, 105, 106, 107, 108] (by decide +kernel) (by decide +kernel)
set_option maxRecDepth 20000 in
theorem gX10_brokenBy_X10_manyOf : GoodIn wsX10_brokenBy (wsV RX10 370 RX10 yX10_manyOf wsX10_manyOf) := goodIn_app (goodIn_of _ (by decide +kernel)) ggX10_brokenBy_X10_manyOf
set_option maxRecDepth 20000 in
theorem ggX10_brokenBy_X10_loadOf : GoodIn wsX10_brokenBy wsX10_loadOf := goodIn_r _ [16, 8, 17, 10, 11, 6, 12, 38, 39, 40, 41, 42, 43, 44, 45, 46, 47, 48, 49, 50, 51, 52, 53, 54, 55, 56, 57, 58, 59, 60, 61, 62, 63, 64, 65, 66, 67, 68, 69, 70, 71, 72, 73, 74, 75, 76, 77, 78, 79, 80, 81, 82, 83, 84, 85, 86, 87, 88, 89, 90, 91, 92, 93, 94, 95, 96, 97, 98, 99, 100, 101, 102, 103, 104, 105, 106, 107, 108] (by decide +kernel) (by decide +kernel)
set_option maxRecDepth 20000 in
theorem gX10_brokenBy_X10_loadOf : GoodIn wsX10_brokenBy (wsV RX10 362 RX10 yX10_loadOf wsX10_loadOf) := goodIn_app (goodIn_of _ (by decide +kernel)) ggX10_brokenBy_X10_loadOf
set_option maxRecDepth 20000 in
theorem ggX10_brokenBy_X10_depthOf : GoodIn wsX10_brokenBy wsX10_depthOf := goodIn_r _ [21, 22, 23, 24, 6, 25, 26, 38, 39, 40, 41, 42, 43, 44, 45, 46, 47, 48, 49, 50, 51, 52, 53, 54, 55, 56, 57, 58, 59, 60, 61, 62, 63, 64, 65, 66, 67, 68, 69, 70, 71, 72, 73, 74, 75, 76, 77, 78, 79, 80, 81, 82, 83, 84, 85, 86, 87, 88, 89, 90, 91, 92, 93, 94, 95, 96, 97, 98, 99, 100, 101, 102, 103, 104, 105, 106, 107, 108] (by decide +kernel) (by decide +kernel)
set_option maxRecDepth 20000 in
theorem gX10_brokenBy_X10_depthOf : GoodIn wsX10_brokenBy (wsV RX10 352 RX10 yX10_depthOf wsX10_depthOf) := goodIn_app (goodIn_of _ (by decide +kernel)) ggX10_brokenBy_X10_depthOf
set_option maxRecDepth 20000 in
theorem ggX10_brokenBy_X10_holds : GoodIn wsX10_brokenBy wsX10_holds := goodIn_r _ [30, 31, 32, 33, 34, 1, 35, 36, 6, 37, 38, 39, 40, 41, 42, 43, 44, 45, 46, 47, 48, 49, 50, 51, 52, 53, 54, 55, 56, 57, 58, 59, 60, 61, 62, 63, 64, 65, 66, 67, 68, 69, 70, 71, 72, 73, 74, 75, 76, 77, 78, 79, 80, 81, 82, 83, 84, 85, 86, 87, 88, 89, 90, 91, 92, 93, 94, 95, 96, 97, 98, 99, 100, 101, 102, 103, 104, 105, 106, 107, 108] (by decide +kernel) (by decide +kernel)
set_option maxRecDepth 20000 in
theorem gX10_brokenBy_X10_holds : GoodIn wsX10_brokenBy (wsV RX10 374 RX10 yX10_holds wsX10_holds) := goodIn_app (goodIn_of _ (by decide +kernel)) ggX10_brokenBy_X10_holds
set_option maxRecDepth 20000 in
theorem dX10_brokenBy_0_b : (decode cX10_brokenBy 0 = .ok (.aload_n 0, 1)) ∧ (decode cX10_brokenBy 1 = .ok (.getfield 108, 3)) ∧ (decode cX10_brokenBy 4 = .ok (.iconst 0, 1)) ∧ (decode cX10_brokenBy 5 = .ok (.aload_n 0, 1)) ∧ (decode cX10_brokenBy 6 = .ok (.aload_n 1, 1)) ∧ (decode cX10_brokenBy 7 = .ok (.iload_n 2, 1)) := by decide +kernel
theorem dX10_brokenBy_0 : decode cX10_brokenBy 0 = .ok (.aload_n 0, 1) := dX10_brokenBy_0_b.1
theorem dX10_brokenBy_1 : decode cX10_brokenBy 1 = .ok (.getfield 108, 3) := dX10_brokenBy_0_b.2.1
theorem dX10_brokenBy_4 : decode cX10_brokenBy 4 = .ok (.iconst 0, 1) := dX10_brokenBy_0_b.2.2.1
theorem dX10_brokenBy_5 : decode cX10_brokenBy 5 = .ok (.aload_n 0, 1) := dX10_brokenBy_0_b.2.2.2.1
theorem dX10_brokenBy_6 : decode cX10_brokenBy 6 = .ok (.aload_n 1, 1) := dX10_brokenBy_0_b.2.2.2.2.1
theorem dX10_brokenBy_7 : decode cX10_brokenBy 7 = .ok (.iload_n 2, 1) := dX10_brokenBy_0_b.2.2.2.2.2
set_option maxRecDepth 20000 in
theorem dX10_brokenBy_8_b : (decode cX10_brokenBy 8 = .ok (.iconst 0, 1)) ∧ (decode cX10_brokenBy 9 = .ok (.invokevirtual 370, 3)) ∧ (decode cX10_brokenBy 12 = .ok (.iastore, 1)) ∧ (decode cX10_brokenBy 13 = .ok (.aload_n 0, 1)) ∧ (decode cX10_brokenBy 14 = .ok (.getfield 108, 3)) ∧ (decode cX10_brokenBy 17 = .ok (.iconst 1, 1)) := by decide +kernel
theorem dX10_brokenBy_8 : decode cX10_brokenBy 8 = .ok (.iconst 0, 1) := dX10_brokenBy_8_b.1
theorem dX10_brokenBy_9 : decode cX10_brokenBy 9 = .ok (.invokevirtual 370, 3) := dX10_brokenBy_8_b.2.1
theorem dX10_brokenBy_12 : decode cX10_brokenBy 12 = .ok (.iastore, 1) := dX10_brokenBy_8_b.2.2.1
theorem dX10_brokenBy_13 : decode cX10_brokenBy 13 = .ok (.aload_n 0, 1) := dX10_brokenBy_8_b.2.2.2.1
theorem dX10_brokenBy_14 : decode cX10_brokenBy 14 = .ok (.getfield 108, 3) := dX10_brokenBy_8_b.2.2.2.2.1
theorem dX10_brokenBy_17 : decode cX10_brokenBy 17 = .ok (.iconst 1, 1) := dX10_brokenBy_8_b.2.2.2.2.2
set_option maxRecDepth 20000 in
theorem dX10_brokenBy_18_b : (decode cX10_brokenBy 18 = .ok (.aload_n 0, 1)) ∧ (decode cX10_brokenBy 19 = .ok (.aload_n 1, 1)) ∧ (decode cX10_brokenBy 20 = .ok (.iload_n 2, 1)) ∧ (decode cX10_brokenBy 21 = .ok (.iconst 1, 1)) ∧ (decode cX10_brokenBy 22 = .ok (.invokevirtual 370, 3)) ∧ (decode cX10_brokenBy 25 = .ok (.iastore, 1)) := by decide +kernel
theorem dX10_brokenBy_18 : decode cX10_brokenBy 18 = .ok (.aload_n 0, 1) := dX10_brokenBy_18_b.1
theorem dX10_brokenBy_19 : decode cX10_brokenBy 19 = .ok (.aload_n 1, 1) := dX10_brokenBy_18_b.2.1
theorem dX10_brokenBy_20 : decode cX10_brokenBy 20 = .ok (.iload_n 2, 1) := dX10_brokenBy_18_b.2.2.1
theorem dX10_brokenBy_21 : decode cX10_brokenBy 21 = .ok (.iconst 1, 1) := dX10_brokenBy_18_b.2.2.2.1
theorem dX10_brokenBy_22 : decode cX10_brokenBy 22 = .ok (.invokevirtual 370, 3) := dX10_brokenBy_18_b.2.2.2.2.1
theorem dX10_brokenBy_25 : decode cX10_brokenBy 25 = .ok (.iastore, 1) := dX10_brokenBy_18_b.2.2.2.2.2
set_option maxRecDepth 20000 in
theorem dX10_brokenBy_26_b : (decode cX10_brokenBy 26 = .ok (.aload_n 0, 1)) ∧ (decode cX10_brokenBy 27 = .ok (.getfield 108, 3)) ∧ (decode cX10_brokenBy 30 = .ok (.iconst 2, 1)) ∧ (decode cX10_brokenBy 31 = .ok (.aload_n 0, 1)) ∧ (decode cX10_brokenBy 32 = .ok (.aload_n 1, 1)) ∧ (decode cX10_brokenBy 33 = .ok (.iload_n 2, 1)) := by decide +kernel
theorem dX10_brokenBy_26 : decode cX10_brokenBy 26 = .ok (.aload_n 0, 1) := dX10_brokenBy_26_b.1
theorem dX10_brokenBy_27 : decode cX10_brokenBy 27 = .ok (.getfield 108, 3) := dX10_brokenBy_26_b.2.1
theorem dX10_brokenBy_30 : decode cX10_brokenBy 30 = .ok (.iconst 2, 1) := dX10_brokenBy_26_b.2.2.1
theorem dX10_brokenBy_31 : decode cX10_brokenBy 31 = .ok (.aload_n 0, 1) := dX10_brokenBy_26_b.2.2.2.1
theorem dX10_brokenBy_32 : decode cX10_brokenBy 32 = .ok (.aload_n 1, 1) := dX10_brokenBy_26_b.2.2.2.2.1
theorem dX10_brokenBy_33 : decode cX10_brokenBy 33 = .ok (.iload_n 2, 1) := dX10_brokenBy_26_b.2.2.2.2.2
set_option maxRecDepth 20000 in
theorem dX10_brokenBy_34_b : (decode cX10_brokenBy 34 = .ok (.iconst 2, 1)) ∧ (decode cX10_brokenBy 35 = .ok (.invokevirtual 370, 3)) ∧ (decode cX10_brokenBy 38 = .ok (.iastore, 1)) ∧ (decode cX10_brokenBy 39 = .ok (.aload_n 0, 1)) ∧ (decode cX10_brokenBy 40 = .ok (.getfield 108, 3)) ∧ (decode cX10_brokenBy 43 = .ok (.iconst 3, 1)) := by decide +kernel
theorem dX10_brokenBy_34 : decode cX10_brokenBy 34 = .ok (.iconst 2, 1) := dX10_brokenBy_34_b.1
theorem dX10_brokenBy_35 : decode cX10_brokenBy 35 = .ok (.invokevirtual 370, 3) := dX10_brokenBy_34_b.2.1
theorem dX10_brokenBy_38 : decode cX10_brokenBy 38 = .ok (.iastore, 1) := dX10_brokenBy_34_b.2.2.1
theorem dX10_brokenBy_39 : decode cX10_brokenBy 39 = .ok (.aload_n 0, 1) := dX10_brokenBy_34_b.2.2.2.1
theorem dX10_brokenBy_40 : decode cX10_brokenBy 40 = .ok (.getfield 108, 3) := dX10_brokenBy_34_b.2.2.2.2.1
theorem dX10_brokenBy_43 : decode cX10_brokenBy 43 = .ok (.iconst 3, 1) := dX10_brokenBy_34_b.2.2.2.2.2
set_option maxRecDepth 20000 in
theorem dX10_brokenBy_44_b : (decode cX10_brokenBy 44 = .ok (.aload_n 0, 1)) ∧ (decode cX10_brokenBy 45 = .ok (.aload_n 1, 1)) ∧ (decode cX10_brokenBy 46 = .ok (.iload_n 2, 1)) ∧ (decode cX10_brokenBy 47 = .ok (.iconst 3, 1)) ∧ (decode cX10_brokenBy 48 = .ok (.invokevirtual 370, 3)) ∧ (decode cX10_brokenBy 51 = .ok (.iastore, 1)) := by decide +kernel
theorem dX10_brokenBy_44 : decode cX10_brokenBy 44 = .ok (.aload_n 0, 1) := dX10_brokenBy_44_b.1
theorem dX10_brokenBy_45 : decode cX10_brokenBy 45 = .ok (.aload_n 1, 1) := dX10_brokenBy_44_b.2.1
theorem dX10_brokenBy_46 : decode cX10_brokenBy 46 = .ok (.iload_n 2, 1) := dX10_brokenBy_44_b.2.2.1
theorem dX10_brokenBy_47 : decode cX10_brokenBy 47 = .ok (.iconst 3, 1) := dX10_brokenBy_44_b.2.2.2.1
theorem dX10_brokenBy_48 : decode cX10_brokenBy 48 = .ok (.invokevirtual 370, 3) := dX10_brokenBy_44_b.2.2.2.2.1
theorem dX10_brokenBy_51 : decode cX10_brokenBy 51 = .ok (.iastore, 1) := dX10_brokenBy_44_b.2.2.2.2.2
set_option maxRecDepth 20000 in
theorem dX10_brokenBy_52_b : (decode cX10_brokenBy 52 = .ok (.aload_n 0, 1)) ∧ (decode cX10_brokenBy 53 = .ok (.getfield 108, 3)) ∧ (decode cX10_brokenBy 56 = .ok (.iconst 4, 1)) ∧ (decode cX10_brokenBy 57 = .ok (.aload_n 0, 1)) ∧ (decode cX10_brokenBy 58 = .ok (.aload_n 1, 1)) ∧ (decode cX10_brokenBy 59 = .ok (.iload_n 2, 1)) := by decide +kernel
theorem dX10_brokenBy_52 : decode cX10_brokenBy 52 = .ok (.aload_n 0, 1) := dX10_brokenBy_52_b.1
theorem dX10_brokenBy_53 : decode cX10_brokenBy 53 = .ok (.getfield 108, 3) := dX10_brokenBy_52_b.2.1
theorem dX10_brokenBy_56 : decode cX10_brokenBy 56 = .ok (.iconst 4, 1) := dX10_brokenBy_52_b.2.2.1
theorem dX10_brokenBy_57 : decode cX10_brokenBy 57 = .ok (.aload_n 0, 1) := dX10_brokenBy_52_b.2.2.2.1
theorem dX10_brokenBy_58 : decode cX10_brokenBy 58 = .ok (.aload_n 1, 1) := dX10_brokenBy_52_b.2.2.2.2.1
theorem dX10_brokenBy_59 : decode cX10_brokenBy 59 = .ok (.iload_n 2, 1) := dX10_brokenBy_52_b.2.2.2.2.2
set_option maxRecDepth 20000 in
theorem dX10_brokenBy_60_b : (decode cX10_brokenBy 60 = .ok (.invokevirtual 362, 3)) ∧ (decode cX10_brokenBy 63 = .ok (.iastore, 1)) ∧ (decode cX10_brokenBy 64 = .ok (.aload_n 0, 1)) ∧ (decode cX10_brokenBy 65 = .ok (.getfield 108, 3)) ∧ (decode cX10_brokenBy 68 = .ok (.iconst 5, 1)) ∧ (decode cX10_brokenBy 69 = .ok (.aload_n 0, 1)) := by decide +kernel
theorem dX10_brokenBy_60 : decode cX10_brokenBy 60 = .ok (.invokevirtual 362, 3) := dX10_brokenBy_60_b.1
theorem dX10_brokenBy_63 : decode cX10_brokenBy 63 = .ok (.iastore, 1) := dX10_brokenBy_60_b.2.1
theorem dX10_brokenBy_64 : decode cX10_brokenBy 64 = .ok (.aload_n 0, 1) := dX10_brokenBy_60_b.2.2.1
theorem dX10_brokenBy_65 : decode cX10_brokenBy 65 = .ok (.getfield 108, 3) := dX10_brokenBy_60_b.2.2.2.1
theorem dX10_brokenBy_68 : decode cX10_brokenBy 68 = .ok (.iconst 5, 1) := dX10_brokenBy_60_b.2.2.2.2.1
theorem dX10_brokenBy_69 : decode cX10_brokenBy 69 = .ok (.aload_n 0, 1) := dX10_brokenBy_60_b.2.2.2.2.2
set_option maxRecDepth 20000 in
theorem dX10_brokenBy_70_b : (decode cX10_brokenBy 70 = .ok (.iload_n 2, 1)) ∧ (decode cX10_brokenBy 71 = .ok (.iload_n 3, 1)) ∧ (decode cX10_brokenBy 72 = .ok (.invokevirtual 352, 3)) ∧ (decode cX10_brokenBy 75 = .ok (.iastore, 1)) ∧ (decode cX10_brokenBy 76 = .ok (.aload_n 0, 1)) ∧ (decode cX10_brokenBy 77 = .ok (.getfield 108, 3)) := by decide +kernel
theorem dX10_brokenBy_70 : decode cX10_brokenBy 70 = .ok (.iload_n 2, 1) := dX10_brokenBy_70_b.1
theorem dX10_brokenBy_71 : decode cX10_brokenBy 71 = .ok (.iload_n 3, 1) := dX10_brokenBy_70_b.2.1
theorem dX10_brokenBy_72 : decode cX10_brokenBy 72 = .ok (.invokevirtual 352, 3) := dX10_brokenBy_70_b.2.2.1
theorem dX10_brokenBy_75 : decode cX10_brokenBy 75 = .ok (.iastore, 1) := dX10_brokenBy_70_b.2.2.2.1
theorem dX10_brokenBy_76 : decode cX10_brokenBy 76 = .ok (.aload_n 0, 1) := dX10_brokenBy_70_b.2.2.2.2.1
theorem dX10_brokenBy_77 : decode cX10_brokenBy 77 = .ok (.getfield 108, 3) := dX10_brokenBy_70_b.2.2.2.2.2
set_option maxRecDepth 20000 in
theorem dX10_brokenBy_80_b : (decode cX10_brokenBy 80 = .ok (.bipush 6, 2)) ∧ (decode cX10_brokenBy 82 = .ok (.aload_n 0, 1)) ∧ (decode cX10_brokenBy 83 = .ok (.aload_n 1, 1)) ∧ (decode cX10_brokenBy 84 = .ok (.iconst 1, 1)) ∧ (decode cX10_brokenBy 85 = .ok (.iload_n 2, 1)) ∧ (decode cX10_brokenBy 86 = .ok (.isub, 1)) := by decide +kernel
theorem dX10_brokenBy_80 : decode cX10_brokenBy 80 = .ok (.bipush 6, 2) := dX10_brokenBy_80_b.1
theorem dX10_brokenBy_82 : decode cX10_brokenBy 82 = .ok (.aload_n 0, 1) := dX10_brokenBy_80_b.2.1
theorem dX10_brokenBy_83 : decode cX10_brokenBy 83 = .ok (.aload_n 1, 1) := dX10_brokenBy_80_b.2.2.1
theorem dX10_brokenBy_84 : decode cX10_brokenBy 84 = .ok (.iconst 1, 1) := dX10_brokenBy_80_b.2.2.2.1
theorem dX10_brokenBy_85 : decode cX10_brokenBy 85 = .ok (.iload_n 2, 1) := dX10_brokenBy_80_b.2.2.2.2.1
theorem dX10_brokenBy_86 : decode cX10_brokenBy 86 = .ok (.isub, 1) := dX10_brokenBy_80_b.2.2.2.2.2
set_option maxRecDepth 20000 in
theorem dX10_brokenBy_87_b : (decode cX10_brokenBy 87 = .ok (.invokevirtual 362, 3)) ∧ (decode cX10_brokenBy 90 = .ok (.iastore, 1)) ∧ (decode cX10_brokenBy 91 = .ok (.iconst 0, 1)) ∧ (decode cX10_brokenBy 92 = .ok (.istore 4, 2)) ∧ (decode cX10_brokenBy 94 = .ok (.iload 4, 2)) ∧ (decode cX10_brokenBy 96 = .ok (.aload_n 0, 1)) := by decide +kernel
theorem dX10_brokenBy_87 : decode cX10_brokenBy 87 = .ok (.invokevirtual 362, 3) := dX10_brokenBy_87_b.1
theorem dX10_brokenBy_90 : decode cX10_brokenBy 90 = .ok (.iastore, 1) := dX10_brokenBy_87_b.2.1
theorem dX10_brokenBy_91 : decode cX10_brokenBy 91 = .ok (.iconst 0, 1) := dX10_brokenBy_87_b.2.2.1
theorem dX10_brokenBy_92 : decode cX10_brokenBy 92 = .ok (.istore 4, 2) := dX10_brokenBy_87_b.2.2.2.1
theorem dX10_brokenBy_94 : decode cX10_brokenBy 94 = .ok (.iload 4, 2) := dX10_brokenBy_87_b.2.2.2.2.1
theorem dX10_brokenBy_96 : decode cX10_brokenBy 96 = .ok (.aload_n 0, 1) := dX10_brokenBy_87_b.2.2.2.2.2
set_option maxRecDepth 20000 in
theorem dX10_brokenBy_97_b : (decode cX10_brokenBy 97 = .ok (.getfield 324, 3)) ∧ (decode cX10_brokenBy 100 = .ok (.if_icmp .ge 21, 3)) ∧ (decode cX10_brokenBy 103 = .ok (.aload_n 0, 1)) ∧ (decode cX10_brokenBy 104 = .ok (.iload 4, 2)) ∧ (decode cX10_brokenBy 106 = .ok (.invokevirtual 374, 3)) ∧ (decode cX10_brokenBy 109 = .ok (.ifCond .ne 6, 3)) := by decide +kernel
theorem dX10_brokenBy_97 : decode cX10_brokenBy 97 = .ok (.getfield 324, 3) := dX10_brokenBy_97_b.1
theorem dX10_brokenBy_100 : decode cX10_brokenBy 100 = .ok (.if_icmp .ge 21, 3) := dX10_brokenBy_97_b.2.1
theorem dX10_brokenBy_103 : decode cX10_brokenBy 103 = .ok (.aload_n 0, 1) := dX10_brokenBy_97_b.2.2.1
theorem dX10_brokenBy_104 : decode cX10_brokenBy 104 = .ok (.iload 4, 2) := dX10_brokenBy_97_b.2.2.2.1
theorem dX10_brokenBy_106 : decode cX10_brokenBy 106 = .ok (.invokevirtual 374, 3) := dX10_brokenBy_97_b.2.2.2.2.1
theorem dX10_brokenBy_109 : decode cX10_brokenBy 109 = .ok (.ifCond .ne 6, 3) := dX10_brokenBy_97_b.2.2.2.2.2
set_option maxRecDepth 20000 in
theorem dX10_brokenBy_112_b : (decode cX10_brokenBy 112 = .ok (.iload 4, 2)) ∧ (decode cX10_brokenBy 114 = .ok (.ireturn, 1)) ∧ (decode cX10_brokenBy 115 = .ok (.iinc 4 1, 3)) ∧ (decode cX10_brokenBy 118 = .ok (.goto (-24), 3)) ∧ (decode cX10_brokenBy 121 = .ok (.iconst (-1), 1)) ∧ (decode cX10_brokenBy 122 = .ok (.ireturn, 1)) := by decide +kernel
theorem dX10_brokenBy_112 : decode cX10_brokenBy 112 = .ok (.iload 4, 2) := dX10_brokenBy_112_b.1
theorem dX10_brokenBy_114 : decode cX10_brokenBy 114 = .ok (.ireturn, 1) := dX10_brokenBy_112_b.2.1
theorem dX10_brokenBy_115 : decode cX10_brokenBy 115 = .ok (.iinc 4 1, 3) := dX10_brokenBy_112_b.2.2.1
theorem dX10_brokenBy_118 : decode cX10_brokenBy 118 = .ok (.goto (-24), 3) := dX10_brokenBy_112_b.2.2.2.1
theorem dX10_brokenBy_121 : decode cX10_brokenBy 121 = .ok (.iconst (-1), 1) := dX10_brokenBy_112_b.2.2.2.2.1
theorem dX10_brokenBy_122 : decode cX10_brokenBy 122 = .ok (.ireturn, 1) := dX10_brokenBy_112_b.2.2.2.2.2
set_option maxRecDepth 20000 in
theorem dJx29ce0_ordinal_8abf5_0_b : (decode cJx29ce0_ordinal_8abf5 0 = .ok (.aload_n 0, 1)) ∧ (decode cJx29ce0_ordinal_8abf5 1 = .ok (.getfield 7, 3)) ∧ (decode cJx29ce0_ordinal_8abf5 4 = .ok (.ireturn, 1)) := by decide +kernel
theorem dJx29ce0_ordinal_8abf5_0 : decode cJx29ce0_ordinal_8abf5 0 = .ok (.aload_n 0, 1) := dJx29ce0_ordinal_8abf5_0_b.1
theorem dJx29ce0_ordinal_8abf5_1 : decode cJx29ce0_ordinal_8abf5 1 = .ok (.getfield 7, 3) := dJx29ce0_ordinal_8abf5_0_b.2.1
theorem dJx29ce0_ordinal_8abf5_4 : decode cJx29ce0_ordinal_8abf5 4 = .ok (.ireturn, 1) := dJx29ce0_ordinal_8abf5_0_b.2.2
set_option maxRecDepth 20000 in
theorem dJ6_bitCount_0f7a4_0_b : (decode cJ6_bitCount_0f7a4 0 = .ok (.iload_n 0, 1)) ∧ (decode cJ6_bitCount_0f7a4 1 = .ok (.iload_n 0, 1)) ∧ (decode cJ6_bitCount_0f7a4 2 = .ok (.iconst 1, 1)) ∧ (decode cJ6_bitCount_0f7a4 3 = .ok (.iushr, 1)) ∧ (decode cJ6_bitCount_0f7a4 4 = .ok (.ldc_w 265, 3)) ∧ (decode cJ6_bitCount_0f7a4 7 = .ok (.iand, 1)) := by decide +kernel
theorem dJ6_bitCount_0f7a4_0 : decode cJ6_bitCount_0f7a4 0 = .ok (.iload_n 0, 1) := dJ6_bitCount_0f7a4_0_b.1
theorem dJ6_bitCount_0f7a4_1 : decode cJ6_bitCount_0f7a4 1 = .ok (.iload_n 0, 1) := dJ6_bitCount_0f7a4_0_b.2.1
theorem dJ6_bitCount_0f7a4_2 : decode cJ6_bitCount_0f7a4 2 = .ok (.iconst 1, 1) := dJ6_bitCount_0f7a4_0_b.2.2.1
theorem dJ6_bitCount_0f7a4_3 : decode cJ6_bitCount_0f7a4 3 = .ok (.iushr, 1) := dJ6_bitCount_0f7a4_0_b.2.2.2.1
theorem dJ6_bitCount_0f7a4_4 : decode cJ6_bitCount_0f7a4 4 = .ok (.ldc_w 265, 3) := dJ6_bitCount_0f7a4_0_b.2.2.2.2.1
theorem dJ6_bitCount_0f7a4_7 : decode cJ6_bitCount_0f7a4 7 = .ok (.iand, 1) := dJ6_bitCount_0f7a4_0_b.2.2.2.2.2
set_option maxRecDepth 20000 in
theorem dJ6_bitCount_0f7a4_8_b : (decode cJ6_bitCount_0f7a4 8 = .ok (.isub, 1)) ∧ (decode cJ6_bitCount_0f7a4 9 = .ok (.istore_n 0, 1)) ∧ (decode cJ6_bitCount_0f7a4 10 = .ok (.iload_n 0, 1)) ∧ (decode cJ6_bitCount_0f7a4 11 = .ok (.ldc_w 266, 3)) ∧ (decode cJ6_bitCount_0f7a4 14 = .ok (.iand, 1)) ∧ (decode cJ6_bitCount_0f7a4 15 = .ok (.iload_n 0, 1)) := by decide +kernel
theorem dJ6_bitCount_0f7a4_8 : decode cJ6_bitCount_0f7a4 8 = .ok (.isub, 1) := dJ6_bitCount_0f7a4_8_b.1
theorem dJ6_bitCount_0f7a4_9 : decode cJ6_bitCount_0f7a4 9 = .ok (.istore_n 0, 1) := dJ6_bitCount_0f7a4_8_b.2.1
theorem dJ6_bitCount_0f7a4_10 : decode cJ6_bitCount_0f7a4 10 = .ok (.iload_n 0, 1) := dJ6_bitCount_0f7a4_8_b.2.2.1
theorem dJ6_bitCount_0f7a4_11 : decode cJ6_bitCount_0f7a4 11 = .ok (.ldc_w 266, 3) := dJ6_bitCount_0f7a4_8_b.2.2.2.1
theorem dJ6_bitCount_0f7a4_14 : decode cJ6_bitCount_0f7a4 14 = .ok (.iand, 1) := dJ6_bitCount_0f7a4_8_b.2.2.2.2.1
theorem dJ6_bitCount_0f7a4_15 : decode cJ6_bitCount_0f7a4 15 = .ok (.iload_n 0, 1) := dJ6_bitCount_0f7a4_8_b.2.2.2.2.2
set_option maxRecDepth 20000 in
theorem dJ6_bitCount_0f7a4_16_b : (decode cJ6_bitCount_0f7a4 16 = .ok (.iconst 2, 1)) ∧ (decode cJ6_bitCount_0f7a4 17 = .ok (.iushr, 1)) ∧ (decode cJ6_bitCount_0f7a4 18 = .ok (.ldc_w 266, 3)) ∧ (decode cJ6_bitCount_0f7a4 21 = .ok (.iand, 1)) ∧ (decode cJ6_bitCount_0f7a4 22 = .ok (.iadd, 1)) ∧ (decode cJ6_bitCount_0f7a4 23 = .ok (.istore_n 0, 1)) := by decide +kernel
theorem dJ6_bitCount_0f7a4_16 : decode cJ6_bitCount_0f7a4 16 = .ok (.iconst 2, 1) := dJ6_bitCount_0f7a4_16_b.1
theorem dJ6_bitCount_0f7a4_17 : decode cJ6_bitCount_0f7a4 17 = .ok (.iushr, 1) := dJ6_bitCount_0f7a4_16_b.2.1
theorem dJ6_bitCount_0f7a4_18 : decode cJ6_bitCount_0f7a4 18 = .ok (.ldc_w 266, 3) := dJ6_bitCount_0f7a4_16_b.2.2.1
theorem dJ6_bitCount_0f7a4_21 : decode cJ6_bitCount_0f7a4 21 = .ok (.iand, 1) := dJ6_bitCount_0f7a4_16_b.2.2.2.1
theorem dJ6_bitCount_0f7a4_22 : decode cJ6_bitCount_0f7a4 22 = .ok (.iadd, 1) := dJ6_bitCount_0f7a4_16_b.2.2.2.2.1
theorem dJ6_bitCount_0f7a4_23 : decode cJ6_bitCount_0f7a4 23 = .ok (.istore_n 0, 1) := dJ6_bitCount_0f7a4_16_b.2.2.2.2.2
set_option maxRecDepth 20000 in
theorem dJ6_bitCount_0f7a4_24_b : (decode cJ6_bitCount_0f7a4 24 = .ok (.iload_n 0, 1)) ∧ (decode cJ6_bitCount_0f7a4 25 = .ok (.iload_n 0, 1)) ∧ (decode cJ6_bitCount_0f7a4 26 = .ok (.iconst 4, 1)) ∧ (decode cJ6_bitCount_0f7a4 27 = .ok (.iushr, 1)) ∧ (decode cJ6_bitCount_0f7a4 28 = .ok (.iadd, 1)) ∧ (decode cJ6_bitCount_0f7a4 29 = .ok (.ldc_w 267, 3)) := by decide +kernel
theorem dJ6_bitCount_0f7a4_24 : decode cJ6_bitCount_0f7a4 24 = .ok (.iload_n 0, 1) := dJ6_bitCount_0f7a4_24_b.1
theorem dJ6_bitCount_0f7a4_25 : decode cJ6_bitCount_0f7a4 25 = .ok (.iload_n 0, 1) := dJ6_bitCount_0f7a4_24_b.2.1
theorem dJ6_bitCount_0f7a4_26 : decode cJ6_bitCount_0f7a4 26 = .ok (.iconst 4, 1) := dJ6_bitCount_0f7a4_24_b.2.2.1
theorem dJ6_bitCount_0f7a4_27 : decode cJ6_bitCount_0f7a4 27 = .ok (.iushr, 1) := dJ6_bitCount_0f7a4_24_b.2.2.2.1
theorem dJ6_bitCount_0f7a4_28 : decode cJ6_bitCount_0f7a4 28 = .ok (.iadd, 1) := dJ6_bitCount_0f7a4_24_b.2.2.2.2.1
theorem dJ6_bitCount_0f7a4_29 : decode cJ6_bitCount_0f7a4 29 = .ok (.ldc_w 267, 3) := dJ6_bitCount_0f7a4_24_b.2.2.2.2.2
set_option maxRecDepth 20000 in
theorem dJ6_bitCount_0f7a4_32_b : (decode cJ6_bitCount_0f7a4 32 = .ok (.iand, 1)) ∧ (decode cJ6_bitCount_0f7a4 33 = .ok (.istore_n 0, 1)) ∧ (decode cJ6_bitCount_0f7a4 34 = .ok (.iload_n 0, 1)) ∧ (decode cJ6_bitCount_0f7a4 35 = .ok (.iload_n 0, 1)) ∧ (decode cJ6_bitCount_0f7a4 36 = .ok (.bipush 8, 2)) ∧ (decode cJ6_bitCount_0f7a4 38 = .ok (.iushr, 1)) := by decide +kernel
theorem dJ6_bitCount_0f7a4_32 : decode cJ6_bitCount_0f7a4 32 = .ok (.iand, 1) := dJ6_bitCount_0f7a4_32_b.1
theorem dJ6_bitCount_0f7a4_33 : decode cJ6_bitCount_0f7a4 33 = .ok (.istore_n 0, 1) := dJ6_bitCount_0f7a4_32_b.2.1
theorem dJ6_bitCount_0f7a4_34 : decode cJ6_bitCount_0f7a4 34 = .ok (.iload_n 0, 1) := dJ6_bitCount_0f7a4_32_b.2.2.1
theorem dJ6_bitCount_0f7a4_35 : decode cJ6_bitCount_0f7a4 35 = .ok (.iload_n 0, 1) := dJ6_bitCount_0f7a4_32_b.2.2.2.1
theorem dJ6_bitCount_0f7a4_36 : decode cJ6_bitCount_0f7a4 36 = .ok (.bipush 8, 2) := dJ6_bitCount_0f7a4_32_b.2.2.2.2.1
theorem dJ6_bitCount_0f7a4_38 : decode cJ6_bitCount_0f7a4 38 = .ok (.iushr, 1) := dJ6_bitCount_0f7a4_32_b.2.2.2.2.2
set_option maxRecDepth 20000 in
theorem dJ6_bitCount_0f7a4_39_b : (decode cJ6_bitCount_0f7a4 39 = .ok (.iadd, 1)) ∧ (decode cJ6_bitCount_0f7a4 40 = .ok (.istore_n 0, 1)) ∧ (decode cJ6_bitCount_0f7a4 41 = .ok (.iload_n 0, 1)) ∧ (decode cJ6_bitCount_0f7a4 42 = .ok (.iload_n 0, 1)) ∧ (decode cJ6_bitCount_0f7a4 43 = .ok (.bipush 16, 2)) ∧ (decode cJ6_bitCount_0f7a4 45 = .ok (.iushr, 1)) := by decide +kernel
theorem dJ6_bitCount_0f7a4_39 : decode cJ6_bitCount_0f7a4 39 = .ok (.iadd, 1) := dJ6_bitCount_0f7a4_39_b.1
theorem dJ6_bitCount_0f7a4_40 : decode cJ6_bitCount_0f7a4 40 = .ok (.istore_n 0, 1) := dJ6_bitCount_0f7a4_39_b.2.1
theorem dJ6_bitCount_0f7a4_41 : decode cJ6_bitCount_0f7a4 41 = .ok (.iload_n 0, 1) := dJ6_bitCount_0f7a4_39_b.2.2.1
theorem dJ6_bitCount_0f7a4_42 : decode cJ6_bitCount_0f7a4 42 = .ok (.iload_n 0, 1) := dJ6_bitCount_0f7a4_39_b.2.2.2.1
theorem dJ6_bitCount_0f7a4_43 : decode cJ6_bitCount_0f7a4 43 = .ok (.bipush 16, 2) := dJ6_bitCount_0f7a4_39_b.2.2.2.2.1
theorem dJ6_bitCount_0f7a4_45 : decode cJ6_bitCount_0f7a4 45 = .ok (.iushr, 1) := dJ6_bitCount_0f7a4_39_b.2.2.2.2.2
set_option maxRecDepth 20000 in
theorem dJ6_bitCount_0f7a4_46_b : (decode cJ6_bitCount_0f7a4 46 = .ok (.iadd, 1)) ∧ (decode cJ6_bitCount_0f7a4 47 = .ok (.istore_n 0, 1)) ∧ (decode cJ6_bitCount_0f7a4 48 = .ok (.iload_n 0, 1)) ∧ (decode cJ6_bitCount_0f7a4 49 = .ok (.bipush 63, 2)) ∧ (decode cJ6_bitCount_0f7a4 51 = .ok (.iand, 1)) ∧ (decode cJ6_bitCount_0f7a4 52 = .ok (.ireturn, 1)) := by decide +kernel
theorem dJ6_bitCount_0f7a4_46 : decode cJ6_bitCount_0f7a4 46 = .ok (.iadd, 1) := dJ6_bitCount_0f7a4_46_b.1
theorem dJ6_bitCount_0f7a4_47 : decode cJ6_bitCount_0f7a4 47 = .ok (.istore_n 0, 1) := dJ6_bitCount_0f7a4_46_b.2.1
theorem dJ6_bitCount_0f7a4_48 : decode cJ6_bitCount_0f7a4 48 = .ok (.iload_n 0, 1) := dJ6_bitCount_0f7a4_46_b.2.2.1
theorem dJ6_bitCount_0f7a4_49 : decode cJ6_bitCount_0f7a4 49 = .ok (.bipush 63, 2) := dJ6_bitCount_0f7a4_46_b.2.2.2.1
theorem dJ6_bitCount_0f7a4_51 : decode cJ6_bitCount_0f7a4 51 = .ok (.iand, 1) := dJ6_bitCount_0f7a4_46_b.2.2.2.2.1
theorem dJ6_bitCount_0f7a4_52 : decode cJ6_bitCount_0f7a4 52 = .ok (.ireturn, 1) := dJ6_bitCount_0f7a4_46_b.2.2.2.2.2
set_option maxRecDepth 20000 in
theorem ggJ0_length_8abf5_J0_coder_7d493 : GoodIn wsJ0_length_8abf5 wsJ0_coder_7d493 := goodIn_r _ [6, 7, 8] (by decide +kernel) (by decide +kernel)
set_option maxRecDepth 20000 in
theorem gJ0_length_8abf5_J0_coder_7d493 : GoodIn wsJ0_length_8abf5 (wsV RJ0 335 RJ0 yJ0_coder_7d493 wsJ0_coder_7d493) := goodIn_app (goodIn_of _ (by decide +kernel)) ggJ0_length_8abf5_J0_coder_7d493
set_option maxRecDepth 20000 in
theorem dJ0_length_8abf5_0_b : (decode cJ0_length_8abf5 0 = .ok (.aload_n 0, 1)) ∧ (decode cJ0_length_8abf5 1 = .ok (.getfield 9, 3)) ∧ (decode cJ0_length_8abf5 4 = .ok (.arraylength, 1)) ∧ (decode cJ0_length_8abf5 5 = .ok (.aload_n 0, 1)) ∧ (decode cJ0_length_8abf5 6 = .ok (.invokevirtual 335, 3)) ∧ (decode cJ0_length_8abf5 9 = .ok (.ishr, 1)) := by decide +kernel
theorem dJ0_length_8abf5_0 : decode cJ0_length_8abf5 0 = .ok (.aload_n 0, 1) := dJ0_length_8abf5_0_b.1
theorem dJ0_length_8abf5_1 : decode cJ0_length_8abf5 1 = .ok (.getfield 9, 3) := dJ0_length_8abf5_0_b.2.1
theorem dJ0_length_8abf5_4 : decode cJ0_length_8abf5 4 = .ok (.arraylength, 1) := dJ0_length_8abf5_0_b.2.2.1
theorem dJ0_length_8abf5_5 : decode cJ0_length_8abf5 5 = .ok (.aload_n 0, 1) := dJ0_length_8abf5_0_b.2.2.2.1
theorem dJ0_length_8abf5_6 : decode cJ0_length_8abf5 6 = .ok (.invokevirtual 335, 3) := dJ0_length_8abf5_0_b.2.2.2.2.1
theorem dJ0_length_8abf5_9 : decode cJ0_length_8abf5 9 = .ok (.ishr, 1) := dJ0_length_8abf5_0_b.2.2.2.2.2
theorem dJ0_length_8abf5_10 : decode cJ0_length_8abf5 10 = .ok (.ireturn, 1) := by decide +kernel
set_option maxRecDepth 20000 in
theorem ggJ0_charAt_5068e_J0_isLatin1_aae02 : GoodIn wsJ0_charAt_5068e wsJ0_isLatin1_aae02 := goodIn_r _ [6, 7, 8] (by decide +kernel) (by decide +kernel)
set_option maxRecDepth 20000 in
theorem gJ0_charAt_5068e_J0_isLatin1_aae02 : GoodIn wsJ0_charAt_5068e (wsV RJ0 492 RJ0 yJ0_isLatin1_aae02 wsJ0_isLatin1_aae02) := goodIn_app (goodIn_of _ (by decide +kernel)) ggJ0_charAt_5068e_J0_isLatin1_aae02
set_option maxRecDepth 20000 in
theorem ggJ0_charAt_5068e_J1_charAt_3b067 : GoodIn wsJ0_charAt_5068e wsJ1_charAt_3b067 := goodIn_r _ [12, 13, 14, 5, 15, 16, 17, 18, 19, 20] (by decide +kernel) (by decide +kernel)
set_option maxRecDepth 20000 in
theorem gJ0_charAt_5068e_J1_charAt_3b067 : GoodIn wsJ0_charAt_5068e (va_wsS RJ0 495 yJ1_charAt_3b067 wsJ1_charAt_3b067) := goodIn_app (goodIn_of _ (by decide +kernel)) ggJ0_charAt_5068e_J1_charAt_3b067
set_option maxRecDepth 20000 in
theorem dJ0_charAt_5068e_0_b : (decode cJ0_charAt_5068e 0 = .ok (.aload_n 0, 1)) ∧ (decode cJ0_charAt_5068e 1 = .ok (.invokevirtual 492, 3)) ∧ (decode cJ0_charAt_5068e 4 = .ok (.ifCond .eq 12, 3)) ∧ (decode cJ0_charAt_5068e 7 = .ok (.aload_n 0, 1)) ∧ (decode cJ0_charAt_5068e 8 = .ok (.getfield 9, 3)) ∧ (decode cJ0_charAt_5068e 11 = .ok (.iload_n 1, 1)) := by decide +kernel
theorem dJ0_charAt_5068e_0 : decode cJ0_charAt_5068e 0 = .ok (.aload_n 0, 1) := dJ0_charAt_5068e_0_b.1
theorem dJ0_charAt_5068e_1 : decode cJ0_charAt_5068e 1 = .ok (.invokevirtual 492, 3) := dJ0_charAt_5068e_0_b.2.1
theorem dJ0_charAt_5068e_4 : decode cJ0_charAt_5068e 4 = .ok (.ifCond .eq 12, 3) := dJ0_charAt_5068e_0_b.2.2.1
theorem dJ0_charAt_5068e_7 : decode cJ0_charAt_5068e 7 = .ok (.aload_n 0, 1) := dJ0_charAt_5068e_0_b.2.2.2.1
theorem dJ0_charAt_5068e_8 : decode cJ0_charAt_5068e 8 = .ok (.getfield 9, 3) := dJ0_charAt_5068e_0_b.2.2.2.2.1
theorem dJ0_charAt_5068e_11 : decode cJ0_charAt_5068e 11 = .ok (.iload_n 1, 1) := dJ0_charAt_5068e_0_b.2.2.2.2.2
set_option maxRecDepth 20000 in
theorem dJ0_charAt_5068e_12_b : (decode cJ0_charAt_5068e 12 = .ok (.invokestatic 495, 3)) ∧ (decode cJ0_charAt_5068e 15 = .ok (.ireturn, 1)) := by decide +kernel
theorem dJ0_charAt_5068e_12 : decode cJ0_charAt_5068e 12 = .ok (.invokestatic 495, 3) := dJ0_charAt_5068e_12_b.1
theorem dJ0_charAt_5068e_15 : decode cJ0_charAt_5068e 15 = .ok (.ireturn, 1) := dJ0_charAt_5068e_12_b.2
set_option maxRecDepth 20000 in
theorem dJ0_coder_7d493_0_b : (decode cJ0_coder_7d493 0 = .ok (.getstatic 38, 3)) ∧ (decode cJ0_coder_7d493 3 = .ok (.ifCond .eq 10, 3)) ∧ (decode cJ0_coder_7d493 6 = .ok (.aload_n 0, 1)) ∧ (decode cJ0_coder_7d493 7 = .ok (.getfield 15, 3)) ∧ (decode cJ0_coder_7d493 10 = .ok (.goto 4, 3)) ∧ (decode cJ0_coder_7d493 14 = .ok (.ireturn, 1)) := by decide +kernel
theorem dJ0_coder_7d493_0 : decode cJ0_coder_7d493 0 = .ok (.getstatic 38, 3) := dJ0_coder_7d493_0_b.1
theorem dJ0_coder_7d493_3 : decode cJ0_coder_7d493 3 = .ok (.ifCond .eq 10, 3) := dJ0_coder_7d493_0_b.2.1
theorem dJ0_coder_7d493_6 : decode cJ0_coder_7d493 6 = .ok (.aload_n 0, 1) := dJ0_coder_7d493_0_b.2.2.1
theorem dJ0_coder_7d493_7 : decode cJ0_coder_7d493 7 = .ok (.getfield 15, 3) := dJ0_coder_7d493_0_b.2.2.2.1
theorem dJ0_coder_7d493_10 : decode cJ0_coder_7d493 10 = .ok (.goto 4, 3) := dJ0_coder_7d493_0_b.2.2.2.2.1
theorem dJ0_coder_7d493_14 : decode cJ0_coder_7d493 14 = .ok (.ireturn, 1) := dJ0_coder_7d493_0_b.2.2.2.2.2
set_option maxRecDepth 20000 in
theorem dJ0_isLatin1_aae02_0_b : (decode cJ0_isLatin1_aae02 0 = .ok (.getstatic 38, 3)) ∧ (decode cJ0_isLatin1_aae02 3 = .ok (.ifCond .eq 14, 3)) ∧ (decode cJ0_isLatin1_aae02 6 = .ok (.aload_n 0, 1)) ∧ (decode cJ0_isLatin1_aae02 7 = .ok (.getfield 15, 3)) ∧ (decode cJ0_isLatin1_aae02 10 = .ok (.ifCond .ne 7, 3)) ∧ (decode cJ0_isLatin1_aae02 13 = .ok (.iconst 1, 1)) := by decide +kernel
theorem dJ0_isLatin1_aae02_0 : decode cJ0_isLatin1_aae02 0 = .ok (.getstatic 38, 3) := dJ0_isLatin1_aae02_0_b.1
theorem dJ0_isLatin1_aae02_3 : decode cJ0_isLatin1_aae02 3 = .ok (.ifCond .eq 14, 3) := dJ0_isLatin1_aae02_0_b.2.1
theorem dJ0_isLatin1_aae02_6 : decode cJ0_isLatin1_aae02 6 = .ok (.aload_n 0, 1) := dJ0_isLatin1_aae02_0_b.2.2.1
theorem dJ0_isLatin1_aae02_7 : decode cJ0_isLatin1_aae02 7 = .ok (.getfield 15, 3) := dJ0_isLatin1_aae02_0_b.2.2.2.1
theorem dJ0_isLatin1_aae02_10 : decode cJ0_isLatin1_aae02 10 = .ok (.ifCond .ne 7, 3) := dJ0_isLatin1_aae02_0_b.2.2.2.2.1
theorem dJ0_isLatin1_aae02_13 : decode cJ0_isLatin1_aae02 13 = .ok (.iconst 1, 1) := dJ0_isLatin1_aae02_0_b.2.2.2.2.2
set_option maxRecDepth 20000 in
theorem dJ0_isLatin1_aae02_14_b : (decode cJ0_isLatin1_aae02 14 = .ok (.goto 4, 3)) ∧ (decode cJ0_isLatin1_aae02 18 = .ok (.ireturn, 1)) := by decide +kernel
theorem dJ0_isLatin1_aae02_14 : decode cJ0_isLatin1_aae02 14 = .ok (.goto 4, 3) := dJ0_isLatin1_aae02_14_b.1
theorem dJ0_isLatin1_aae02_18 : decode cJ0_isLatin1_aae02 18 = .ok (.ireturn, 1) := dJ0_isLatin1_aae02_14_b.2
set_option maxRecDepth 20000 in
theorem ggJ0_checkIndex_df160_J3_checkIndex_8e157 : GoodIn wsJ0_checkIndex_df160 wsJ3_checkIndex_8e157 := goodIn_r _ [5] (by decide +kernel) (by decide +kernel)
set_option maxRecDepth 20000 in
theorem gJ0_checkIndex_df160_J3_checkIndex_8e157 : GoodIn wsJ0_checkIndex_df160 (va_wsS RJ0 1059 yJ3_checkIndex_8e157 wsJ3_checkIndex_8e157) := goodIn_app (goodIn_of _ (by decide +kernel)) ggJ0_checkIndex_df160_J3_checkIndex_8e157
set_option maxRecDepth 20000 in
theorem dJ0_checkIndex_df160_0_b : (decode cJ0_checkIndex_df160 0 = .ok (.iload_n 0, 1)) ∧ (decode cJ0_checkIndex_df160 1 = .ok (.iload_n 1, 1)) ∧ (decode cJ0_checkIndex_df160 2 = .ok (.getstatic 1053, 3)) ∧ (decode cJ0_checkIndex_df160 5 = .ok (.invokestatic 1059, 3)) ∧ (decode cJ0_checkIndex_df160 8 = .ok (.pop, 1)) ∧ (decode cJ0_checkIndex_df160 9 = .ok (.return_, 1)) := by decide +kernel
theorem dJ0_checkIndex_df160_0 : decode cJ0_checkIndex_df160 0 = .ok (.iload_n 0, 1) := dJ0_checkIndex_df160_0_b.1
theorem dJ0_checkIndex_df160_1 : decode cJ0_checkIndex_df160 1 = .ok (.iload_n 1, 1) := dJ0_checkIndex_df160_0_b.2.1
theorem dJ0_checkIndex_df160_2 : decode cJ0_checkIndex_df160 2 = .ok (.getstatic 1053, 3) := dJ0_checkIndex_df160_0_b.2.2.1
theorem dJ0_checkIndex_df160_5 : decode cJ0_checkIndex_df160 5 = .ok (.invokestatic 1059, 3) := dJ0_checkIndex_df160_0_b.2.2.2.1
theorem dJ0_checkIndex_df160_8 : decode cJ0_checkIndex_df160 8 = .ok (.pop, 1) := dJ0_checkIndex_df160_0_b.2.2.2.2.1
theorem dJ0_checkIndex_df160_9 : decode cJ0_checkIndex_df160 9 = .ok (.return_, 1) := dJ0_checkIndex_df160_0_b.2.2.2.2.2
set_option maxRecDepth 20000 in
theorem ggJ1_charAt_3b067_J0_checkIndex_df160 : GoodIn wsJ1_charAt_3b067 wsJ0_checkIndex_df160 := goodIn_r _ [4, 5, 6, 7, 8, 9] (by decide +kernel) (by decide +kernel)
set_option maxRecDepth 20000 in
theorem gJ1_charAt_3b067_J0_checkIndex_df160 : GoodIn wsJ1_charAt_3b067 (va_wsS RJ1 9 yJ0_checkIndex_df160 wsJ0_checkIndex_df160) := goodIn_app (goodIn_of _ (by decide +kernel)) ggJ1_charAt_3b067_J0_checkIndex_df160
set_option maxRecDepth 20000 in
theorem dJ1_charAt_3b067_0_b : (decode cJ1_charAt_3b067 0 = .ok (.iload_n 1, 1)) ∧ (decode cJ1_charAt_3b067 1 = .ok (.aload_n 0, 1)) ∧ (decode cJ1_charAt_3b067 2 = .ok (.arraylength, 1)) ∧ (decode cJ1_charAt_3b067 3 = .ok (.invokestatic 9, 3)) ∧ (decode cJ1_charAt_3b067 6 = .ok (.aload_n 0, 1)) ∧ (decode cJ1_charAt_3b067 7 = .ok (.iload_n 1, 1)) := by decide +kernel
theorem dJ1_charAt_3b067_0 : decode cJ1_charAt_3b067 0 = .ok (.iload_n 1, 1) := dJ1_charAt_3b067_0_b.1
theorem dJ1_charAt_3b067_1 : decode cJ1_charAt_3b067 1 = .ok (.aload_n 0, 1) := dJ1_charAt_3b067_0_b.2.1
theorem dJ1_charAt_3b067_2 : decode cJ1_charAt_3b067 2 = .ok (.arraylength, 1) := dJ1_charAt_3b067_0_b.2.2.1
theorem dJ1_charAt_3b067_3 : decode cJ1_charAt_3b067 3 = .ok (.invokestatic 9, 3) := dJ1_charAt_3b067_0_b.2.2.2.1
theorem dJ1_charAt_3b067_6 : decode cJ1_charAt_3b067 6 = .ok (.aload_n 0, 1) := dJ1_charAt_3b067_0_b.2.2.2.2.1
theorem dJ1_charAt_3b067_7 : decode cJ1_charAt_3b067 7 = .ok (.iload_n 1, 1) := dJ1_charAt_3b067_0_b.2.2.2.2.2
set_option maxRecDepth 20000 in
theorem dJ1_charAt_3b067_8_b : (decode cJ1_charAt_3b067 8 = .ok (.baload, 1)) ∧ (decode cJ1_charAt_3b067 9 = .ok (.sipush 255, 3)) ∧ (decode cJ1_charAt_3b067 12 = .ok (.iand, 1)) ∧ (decode cJ1_charAt_3b067 13 = .ok (.i2c, 1)) ∧ (decode cJ1_charAt_3b067 14 = .ok (.ireturn, 1)) := by decide +kernel
theorem dJ1_charAt_3b067_8 : decode cJ1_charAt_3b067 8 = .ok (.baload, 1) := dJ1_charAt_3b067_8_b.1
theorem dJ1_charAt_3b067_9 : decode cJ1_charAt_3b067 9 = .ok (.sipush 255, 3) := dJ1_charAt_3b067_8_b.2.1
theorem dJ1_charAt_3b067_12 : decode cJ1_charAt_3b067 12 = .ok (.iand, 1) := dJ1_charAt_3b067_8_b.2.2.1
theorem dJ1_charAt_3b067_13 : decode cJ1_charAt_3b067 13 = .ok (.i2c, 1) := dJ1_charAt_3b067_8_b.2.2.2.1
theorem dJ1_charAt_3b067_14 : decode cJ1_charAt_3b067 14 = .ok (.ireturn, 1) := dJ1_charAt_3b067_8_b.2.2.2.2
set_option maxRecDepth 20000 in
theorem dJ3_checkIndex_8e157_0_b : (decode cJ3_checkIndex_8e157 0 = .ok (.iload_n 0, 1)) ∧ (decode cJ3_checkIndex_8e157 1 = .ok (.ifCond .lt 8, 3)) ∧ (decode cJ3_checkIndex_8e157 4 = .ok (.iload_n 0, 1)) ∧ (decode cJ3_checkIndex_8e157 5 = .ok (.iload_n 1, 1)) ∧ (decode cJ3_checkIndex_8e157 6 = .ok (.if_icmp .lt 10, 3)) ∧ (decode cJ3_checkIndex_8e157 16 = .ok (.iload_n 0, 1)) := by decide +kernel
theorem dJ3_checkIndex_8e157_0 : decode cJ3_checkIndex_8e157 0 = .ok (.iload_n 0, 1) := dJ3_checkIndex_8e157_0_b.1
theorem dJ3_checkIndex_8e157_1 : decode cJ3_checkIndex_8e157 1 = .ok (.ifCond .lt 8, 3) := dJ3_checkIndex_8e157_0_b.2.1
theorem dJ3_checkIndex_8e157_4 : decode cJ3_checkIndex_8e157 4 = .ok (.iload_n 0, 1) := dJ3_checkIndex_8e157_0_b.2.2.1
theorem dJ3_checkIndex_8e157_5 : decode cJ3_checkIndex_8e157 5 = .ok (.iload_n 1, 1) := dJ3_checkIndex_8e157_0_b.2.2.2.1
theorem dJ3_checkIndex_8e157_6 : decode cJ3_checkIndex_8e157 6 = .ok (.if_icmp .lt 10, 3) := dJ3_checkIndex_8e157_0_b.2.2.2.2.1
theorem dJ3_checkIndex_8e157_16 : decode cJ3_checkIndex_8e157 16 = .ok (.iload_n 0, 1) := dJ3_checkIndex_8e157_0_b.2.2.2.2.2
theorem dJ3_checkIndex_8e157_17 : decode cJ3_checkIndex_8e157 17 = .ok (.ireturn, 1) := by decide +kernel
