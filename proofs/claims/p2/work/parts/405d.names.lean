set_option maxRecDepth 20000 in
theorem dX10_enough_88_b : (decode cX10_enough 88 = .ok (.bipush (-2), 2)) ∧ (decode cX10_enough 90 = .ok (.ireturn, 1)) ∧ (decode cX10_enough 91 = .ok (.iload 5, 2)) ∧ (decode cX10_enough 93 = .ok (.iconst 1, 1)) ∧ (decode cX10_enough 94 = .ok (.if_icmp .ne 13, 3)) ∧ (decode cX10_enough 97 = .ok (.iload_n 1, 1)) := by decide +kernel
theorem dX10_enough_88 : decode cX10_enough 88 = .ok (.bipush (-2), 2) := dX10_enough_88_b.1
theorem dX10_enough_90 : decode cX10_enough 90 = .ok (.ireturn, 1) := dX10_enough_88_b.2.1
theorem dX10_enough_91 : decode cX10_enough 91 = .ok (.iload 5, 2) := dX10_enough_88_b.2.2.1
theorem dX10_enough_93 : decode cX10_enough 93 = .ok (.iconst 1, 1) := dX10_enough_88_b.2.2.2.1
theorem dX10_enough_94 : decode cX10_enough 94 = .ok (.if_icmp .ne 13, 3) := dX10_enough_88_b.2.2.2.2.1
theorem dX10_enough_97 : decode cX10_enough 97 = .ok (.iload_n 1, 1) := dX10_enough_88_b.2.2.2.2.2
set_option maxRecDepth 20000 in
theorem dX10_enough_98_b : (decode cX10_enough 98 = .ok (.ifCond .ne 7, 3)) ∧ (decode cX10_enough 101 = .ok (.iload_n 3, 1)) ∧ (decode cX10_enough 102 = .ok (.goto 4, 3)) ∧ (decode cX10_enough 105 = .ok (.iload_n 2, 1)) ∧ (decode cX10_enough 106 = .ok (.ireturn, 1)) ∧ (decode cX10_enough 107 = .ok (.iload 4, 2)) := by decide +kernel
theorem dX10_enough_98 : decode cX10_enough 98 = .ok (.ifCond .ne 7, 3) := dX10_enough_98_b.1
theorem dX10_enough_101 : decode cX10_enough 101 = .ok (.iload_n 3, 1) := dX10_enough_98_b.2.1
theorem dX10_enough_102 : decode cX10_enough 102 = .ok (.goto 4, 3) := dX10_enough_98_b.2.2.1
theorem dX10_enough_105 : decode cX10_enough 105 = .ok (.iload_n 2, 1) := dX10_enough_98_b.2.2.2.1
theorem dX10_enough_106 : decode cX10_enough 106 = .ok (.ireturn, 1) := dX10_enough_98_b.2.2.2.2.1
theorem dX10_enough_107 : decode cX10_enough 107 = .ok (.iload 4, 2) := dX10_enough_98_b.2.2.2.2.2
set_option maxRecDepth 20000 in
theorem dX10_enough_109_b : (decode cX10_enough 109 = .ok (.istore_n 2, 1)) ∧ (decode cX10_enough 110 = .ok (.iinc 3 1, 3)) ∧ (decode cX10_enough 113 = .ok (.goto (-89), 3)) ∧ (decode cX10_enough 116 = .ok (.iconst (-1), 1)) ∧ (decode cX10_enough 117 = .ok (.ireturn, 1)) := by decide +kernel
theorem dX10_enough_109 : decode cX10_enough 109 = .ok (.istore_n 2, 1) := dX10_enough_109_b.1
theorem dX10_enough_110 : decode cX10_enough 110 = .ok (.iinc 3 1, 3) := dX10_enough_109_b.2.1
theorem dX10_enough_113 : decode cX10_enough 113 = .ok (.goto (-89), 3) := dX10_enough_109_b.2.2.1
theorem dX10_enough_116 : decode cX10_enough 116 = .ok (.iconst (-1), 1) := dX10_enough_109_b.2.2.2.1
theorem dX10_enough_117 : decode cX10_enough 117 = .ok (.ireturn, 1) := dX10_enough_109_b.2.2.2.2
set_option maxRecDepth 20000 in
theorem dX10_be_0_b : (decode cX10_be 0 = .ok (.iconst 0, 1)) ∧ (decode cX10_be 1 = .ok (.istore_n 2, 1)) ∧ (decode cX10_be 2 = .ok (.iload_n 2, 1)) ∧ (decode cX10_be 3 = .ok (.aload_n 0, 1)) ∧ (decode cX10_be 4 = .ok (.arraylength, 1)) ∧ (decode cX10_be 5 = .ok (.if_icmp .ge 15, 3)) := by decide +kernel
theorem dX10_be_0 : decode cX10_be 0 = .ok (.iconst 0, 1) := dX10_be_0_b.1
theorem dX10_be_1 : decode cX10_be 1 = .ok (.istore_n 2, 1) := dX10_be_0_b.2.1
theorem dX10_be_2 : decode cX10_be 2 = .ok (.iload_n 2, 1) := dX10_be_0_b.2.2.1
theorem dX10_be_3 : decode cX10_be 3 = .ok (.aload_n 0, 1) := dX10_be_0_b.2.2.2.1
theorem dX10_be_4 : decode cX10_be 4 = .ok (.arraylength, 1) := dX10_be_0_b.2.2.2.2.1
theorem dX10_be_5 : decode cX10_be 5 = .ok (.if_icmp .ge 15, 3) := dX10_be_0_b.2.2.2.2.2
set_option maxRecDepth 20000 in
theorem dX10_be_8_b : (decode cX10_be 8 = .ok (.aload_n 0, 1)) ∧ (decode cX10_be 9 = .ok (.iload_n 2, 1)) ∧ (decode cX10_be 10 = .ok (.aload_n 1, 1)) ∧ (decode cX10_be 11 = .ok (.iload_n 2, 1)) ∧ (decode cX10_be 12 = .ok (.iaload, 1)) ∧ (decode cX10_be 13 = .ok (.iastore, 1)) := by decide +kernel
theorem dX10_be_8 : decode cX10_be 8 = .ok (.aload_n 0, 1) := dX10_be_8_b.1
theorem dX10_be_9 : decode cX10_be 9 = .ok (.iload_n 2, 1) := dX10_be_8_b.2.1
theorem dX10_be_10 : decode cX10_be 10 = .ok (.aload_n 1, 1) := dX10_be_8_b.2.2.1
theorem dX10_be_11 : decode cX10_be 11 = .ok (.iload_n 2, 1) := dX10_be_8_b.2.2.2.1
theorem dX10_be_12 : decode cX10_be 12 = .ok (.iaload, 1) := dX10_be_8_b.2.2.2.2.1
theorem dX10_be_13 : decode cX10_be 13 = .ok (.iastore, 1) := dX10_be_8_b.2.2.2.2.2
set_option maxRecDepth 20000 in
theorem dX10_be_14_b : (decode cX10_be 14 = .ok (.iinc 2 1, 3)) ∧ (decode cX10_be 17 = .ok (.goto (-15), 3)) ∧ (decode cX10_be 20 = .ok (.return_, 1)) := by decide +kernel
theorem dX10_be_14 : decode cX10_be 14 = .ok (.iinc 2 1, 3) := dX10_be_14_b.1
theorem dX10_be_17 : decode cX10_be 17 = .ok (.goto (-15), 3) := dX10_be_14_b.2.1
theorem dX10_be_20 : decode cX10_be 20 = .ok (.return_, 1) := dX10_be_14_b.2.2
set_option maxRecDepth 20000 in
theorem ggX10_image_X10_be : GoodIn wsX10_image wsX10_be := goodIn_r _ [30] (by decide +kernel) (by decide +kernel)
set_option maxRecDepth 20000 in
theorem gX10_image_X10_be : GoodIn wsX10_image (va_wsS RX10 503 yX10_be wsX10_be) := goodIn_app (goodIn_of _ (by decide +kernel)) ggX10_image_X10_be
set_option maxRecDepth 20000 in
theorem dX10_image_0_b : (decode cX10_image 0 = .ok (.aload_n 0, 1)) ∧ (decode cX10_image 1 = .ok (.iconst 0, 1)) ∧ (decode cX10_image 2 = .ok (.putfield 171, 3)) ∧ (decode cX10_image 5 = .ok (.aload_n 0, 1)) ∧ (decode cX10_image 6 = .ok (.iconst 1, 1)) ∧ (decode cX10_image 7 = .ok (.putfield 339, 3)) := by decide +kernel
theorem dX10_image_0 : decode cX10_image 0 = .ok (.aload_n 0, 1) := dX10_image_0_b.1
theorem dX10_image_1 : decode cX10_image 1 = .ok (.iconst 0, 1) := dX10_image_0_b.2.1
theorem dX10_image_2 : decode cX10_image 2 = .ok (.putfield 171, 3) := dX10_image_0_b.2.2.1
theorem dX10_image_5 : decode cX10_image 5 = .ok (.aload_n 0, 1) := dX10_image_0_b.2.2.2.1
theorem dX10_image_6 : decode cX10_image 6 = .ok (.iconst 1, 1) := dX10_image_0_b.2.2.2.2.1
theorem dX10_image_7 : decode cX10_image 7 = .ok (.putfield 339, 3) := dX10_image_0_b.2.2.2.2.2
set_option maxRecDepth 20000 in
theorem dX10_image_10_b : (decode cX10_image 10 = .ok (.aload_n 0, 1)) ∧ (decode cX10_image 11 = .ok (.aload_n 0, 1)) ∧ (decode cX10_image 12 = .ok (.getfield 327, 3)) ∧ (decode cX10_image 15 = .ok (.putfield 491, 3)) ∧ (decode cX10_image 18 = .ok (.aload_n 0, 1)) ∧ (decode cX10_image 19 = .ok (.aload_n 0, 1)) := by decide +kernel
theorem dX10_image_10 : decode cX10_image 10 = .ok (.aload_n 0, 1) := dX10_image_10_b.1
theorem dX10_image_11 : decode cX10_image 11 = .ok (.aload_n 0, 1) := dX10_image_10_b.2.1
theorem dX10_image_12 : decode cX10_image 12 = .ok (.getfield 327, 3) := dX10_image_10_b.2.2.1
theorem dX10_image_15 : decode cX10_image 15 = .ok (.putfield 491, 3) := dX10_image_10_b.2.2.2.1
theorem dX10_image_18 : decode cX10_image 18 = .ok (.aload_n 0, 1) := dX10_image_10_b.2.2.2.2.1
theorem dX10_image_19 : decode cX10_image 19 = .ok (.aload_n 0, 1) := dX10_image_10_b.2.2.2.2.2
set_option maxRecDepth 20000 in
theorem dX10_image_20_b : (decode cX10_image 20 = .ok (.getfield 330, 3)) ∧ (decode cX10_image 23 = .ok (.putfield 494, 3)) ∧ (decode cX10_image 26 = .ok (.aload_n 0, 1)) ∧ (decode cX10_image 27 = .ok (.aload_n 0, 1)) ∧ (decode cX10_image 28 = .ok (.getfield 333, 3)) ∧ (decode cX10_image 31 = .ok (.putfield 497, 3)) := by decide +kernel
theorem dX10_image_20 : decode cX10_image 20 = .ok (.getfield 330, 3) := dX10_image_20_b.1
theorem dX10_image_23 : decode cX10_image 23 = .ok (.putfield 494, 3) := dX10_image_20_b.2.1
theorem dX10_image_26 : decode cX10_image 26 = .ok (.aload_n 0, 1) := dX10_image_20_b.2.2.1
theorem dX10_image_27 : decode cX10_image 27 = .ok (.aload_n 0, 1) := dX10_image_20_b.2.2.2.1
theorem dX10_image_28 : decode cX10_image 28 = .ok (.getfield 333, 3) := dX10_image_20_b.2.2.2.2.1
theorem dX10_image_31 : decode cX10_image 31 = .ok (.putfield 497, 3) := dX10_image_20_b.2.2.2.2.2
set_option maxRecDepth 20000 in
theorem dX10_image_34_b : (decode cX10_image 34 = .ok (.aload_n 0, 1)) ∧ (decode cX10_image 35 = .ok (.aload_n 0, 1)) ∧ (decode cX10_image 36 = .ok (.getfield 336, 3)) ∧ (decode cX10_image 39 = .ok (.putfield 500, 3)) ∧ (decode cX10_image 42 = .ok (.aload_n 0, 1)) ∧ (decode cX10_image 43 = .ok (.getfield 143, 3)) := by decide +kernel
theorem dX10_image_34 : decode cX10_image 34 = .ok (.aload_n 0, 1) := dX10_image_34_b.1
theorem dX10_image_35 : decode cX10_image 35 = .ok (.aload_n 0, 1) := dX10_image_34_b.2.1
theorem dX10_image_36 : decode cX10_image 36 = .ok (.getfield 336, 3) := dX10_image_34_b.2.2.1
theorem dX10_image_39 : decode cX10_image 39 = .ok (.putfield 500, 3) := dX10_image_34_b.2.2.2.1
theorem dX10_image_42 : decode cX10_image 42 = .ok (.aload_n 0, 1) := dX10_image_34_b.2.2.2.2.1
theorem dX10_image_43 : decode cX10_image 43 = .ok (.getfield 143, 3) := dX10_image_34_b.2.2.2.2.2
set_option maxRecDepth 20000 in
theorem dX10_image_46_b : (decode cX10_image 46 = .ok (.aload_n 0, 1)) ∧ (decode cX10_image 47 = .ok (.getfield 87, 3)) ∧ (decode cX10_image 50 = .ok (.invokestatic 503, 3)) ∧ (decode cX10_image 53 = .ok (.aload_n 0, 1)) ∧ (decode cX10_image 54 = .ok (.getfield 146, 3)) ∧ (decode cX10_image 57 = .ok (.aload_n 0, 1)) := by decide +kernel
theorem dX10_image_46 : decode cX10_image 46 = .ok (.aload_n 0, 1) := dX10_image_46_b.1
theorem dX10_image_47 : decode cX10_image 47 = .ok (.getfield 87, 3) := dX10_image_46_b.2.1
theorem dX10_image_50 : decode cX10_image 50 = .ok (.invokestatic 503, 3) := dX10_image_46_b.2.2.1
theorem dX10_image_53 : decode cX10_image 53 = .ok (.aload_n 0, 1) := dX10_image_46_b.2.2.2.1
theorem dX10_image_54 : decode cX10_image 54 = .ok (.getfield 146, 3) := dX10_image_46_b.2.2.2.2.1
theorem dX10_image_57 : decode cX10_image 57 = .ok (.aload_n 0, 1) := dX10_image_46_b.2.2.2.2.2
set_option maxRecDepth 20000 in
theorem dX10_image_58_b : (decode cX10_image 58 = .ok (.getfield 90, 3)) ∧ (decode cX10_image 61 = .ok (.invokestatic 503, 3)) ∧ (decode cX10_image 64 = .ok (.aload_n 0, 1)) ∧ (decode cX10_image 65 = .ok (.getfield 149, 3)) ∧ (decode cX10_image 68 = .ok (.aload_n 0, 1)) ∧ (decode cX10_image 69 = .ok (.getfield 93, 3)) := by decide +kernel
theorem dX10_image_58 : decode cX10_image 58 = .ok (.getfield 90, 3) := dX10_image_58_b.1
theorem dX10_image_61 : decode cX10_image 61 = .ok (.invokestatic 503, 3) := dX10_image_58_b.2.1
theorem dX10_image_64 : decode cX10_image 64 = .ok (.aload_n 0, 1) := dX10_image_58_b.2.2.1
theorem dX10_image_65 : decode cX10_image 65 = .ok (.getfield 149, 3) := dX10_image_58_b.2.2.2.1
theorem dX10_image_68 : decode cX10_image 68 = .ok (.aload_n 0, 1) := dX10_image_58_b.2.2.2.2.1
theorem dX10_image_69 : decode cX10_image 69 = .ok (.getfield 93, 3) := dX10_image_58_b.2.2.2.2.2
set_option maxRecDepth 20000 in
theorem dX10_image_72_b : (decode cX10_image 72 = .ok (.invokestatic 503, 3)) ∧ (decode cX10_image 75 = .ok (.aload_n 0, 1)) ∧ (decode cX10_image 76 = .ok (.getfield 152, 3)) ∧ (decode cX10_image 79 = .ok (.aload_n 0, 1)) ∧ (decode cX10_image 80 = .ok (.getfield 96, 3)) ∧ (decode cX10_image 83 = .ok (.invokestatic 503, 3)) := by decide +kernel
theorem dX10_image_72 : decode cX10_image 72 = .ok (.invokestatic 503, 3) := dX10_image_72_b.1
theorem dX10_image_75 : decode cX10_image 75 = .ok (.aload_n 0, 1) := dX10_image_72_b.2.1
theorem dX10_image_76 : decode cX10_image 76 = .ok (.getfield 152, 3) := dX10_image_72_b.2.2.1
theorem dX10_image_79 : decode cX10_image 79 = .ok (.aload_n 0, 1) := dX10_image_72_b.2.2.2.1
theorem dX10_image_80 : decode cX10_image 80 = .ok (.getfield 96, 3) := dX10_image_72_b.2.2.2.2.1
theorem dX10_image_83 : decode cX10_image 83 = .ok (.invokestatic 503, 3) := dX10_image_72_b.2.2.2.2.2
set_option maxRecDepth 20000 in
theorem dX10_image_86_b : (decode cX10_image 86 = .ok (.aload_n 0, 1)) ∧ (decode cX10_image 87 = .ok (.getfield 155, 3)) ∧ (decode cX10_image 90 = .ok (.aload_n 0, 1)) ∧ (decode cX10_image 91 = .ok (.getfield 99, 3)) ∧ (decode cX10_image 94 = .ok (.invokestatic 503, 3)) ∧ (decode cX10_image 97 = .ok (.aload_n 0, 1)) := by decide +kernel
theorem dX10_image_86 : decode cX10_image 86 = .ok (.aload_n 0, 1) := dX10_image_86_b.1
theorem dX10_image_87 : decode cX10_image 87 = .ok (.getfield 155, 3) := dX10_image_86_b.2.1
theorem dX10_image_90 : decode cX10_image 90 = .ok (.aload_n 0, 1) := dX10_image_86_b.2.2.1
theorem dX10_image_91 : decode cX10_image 91 = .ok (.getfield 99, 3) := dX10_image_86_b.2.2.2.1
theorem dX10_image_94 : decode cX10_image 94 = .ok (.invokestatic 503, 3) := dX10_image_86_b.2.2.2.2.1
theorem dX10_image_97 : decode cX10_image 97 = .ok (.aload_n 0, 1) := dX10_image_86_b.2.2.2.2.2
set_option maxRecDepth 20000 in
theorem dX10_image_98_b : (decode cX10_image 98 = .ok (.getfield 158, 3)) ∧ (decode cX10_image 101 = .ok (.aload_n 0, 1)) ∧ (decode cX10_image 102 = .ok (.getfield 102, 3)) ∧ (decode cX10_image 105 = .ok (.invokestatic 503, 3)) ∧ (decode cX10_image 108 = .ok (.aload_n 0, 1)) ∧ (decode cX10_image 109 = .ok (.getfield 161, 3)) := by decide +kernel
theorem dX10_image_98 : decode cX10_image 98 = .ok (.getfield 158, 3) := dX10_image_98_b.1
theorem dX10_image_101 : decode cX10_image 101 = .ok (.aload_n 0, 1) := dX10_image_98_b.2.1
theorem dX10_image_102 : decode cX10_image 102 = .ok (.getfield 102, 3) := dX10_image_98_b.2.2.1
theorem dX10_image_105 : decode cX10_image 105 = .ok (.invokestatic 503, 3) := dX10_image_98_b.2.2.2.1
theorem dX10_image_108 : decode cX10_image 108 = .ok (.aload_n 0, 1) := dX10_image_98_b.2.2.2.2.1
theorem dX10_image_109 : decode cX10_image 109 = .ok (.getfield 161, 3) := dX10_image_98_b.2.2.2.2.2
set_option maxRecDepth 20000 in
theorem dX10_image_112_b : (decode cX10_image 112 = .ok (.aload_n 0, 1)) ∧ (decode cX10_image 113 = .ok (.getfield 105, 3)) ∧ (decode cX10_image 116 = .ok (.invokestatic 503, 3)) ∧ (decode cX10_image 119 = .ok (.aload_n 0, 1)) ∧ (decode cX10_image 120 = .ok (.getfield 164, 3)) ∧ (decode cX10_image 123 = .ok (.aload_n 0, 1)) := by decide +kernel
theorem dX10_image_112 : decode cX10_image 112 = .ok (.aload_n 0, 1) := dX10_image_112_b.1
theorem dX10_image_113 : decode cX10_image 113 = .ok (.getfield 105, 3) := dX10_image_112_b.2.1
theorem dX10_image_116 : decode cX10_image 116 = .ok (.invokestatic 503, 3) := dX10_image_112_b.2.2.1
theorem dX10_image_119 : decode cX10_image 119 = .ok (.aload_n 0, 1) := dX10_image_112_b.2.2.2.1
theorem dX10_image_120 : decode cX10_image 120 = .ok (.getfield 164, 3) := dX10_image_112_b.2.2.2.2.1
theorem dX10_image_123 : decode cX10_image 123 = .ok (.aload_n 0, 1) := dX10_image_112_b.2.2.2.2.2
set_option maxRecDepth 20000 in
theorem dX10_image_124_b : (decode cX10_image 124 = .ok (.getfield 77, 3)) ∧ (decode cX10_image 127 = .ok (.invokestatic 503, 3)) ∧ (decode cX10_image 130 = .ok (.return_, 1)) := by decide +kernel
theorem dX10_image_124 : decode cX10_image 124 = .ok (.getfield 77, 3) := dX10_image_124_b.1
theorem dX10_image_127 : decode cX10_image 127 = .ok (.invokestatic 503, 3) := dX10_image_124_b.2.1
theorem dX10_image_130 : decode cX10_image 130 = .ok (.return_, 1) := dX10_image_124_b.2.2
set_option maxRecDepth 20000 in
theorem ggX10_restore_X10_be : GoodIn wsX10_restore wsX10_be := goodIn_r _ [30] (by decide +kernel) (by decide +kernel)
set_option maxRecDepth 20000 in
theorem gX10_restore_X10_be : GoodIn wsX10_restore (va_wsS RX10 503 yX10_be wsX10_be) := goodIn_app (goodIn_of _ (by decide +kernel)) ggX10_restore_X10_be
set_option maxRecDepth 20000 in
theorem dX10_restore_0_b : (decode cX10_restore 0 = .ok (.aload_n 0, 1)) ∧ (decode cX10_restore 1 = .ok (.iconst 0, 1)) ∧ (decode cX10_restore 2 = .ok (.putfield 171, 3)) ∧ (decode cX10_restore 5 = .ok (.aload_n 0, 1)) ∧ (decode cX10_restore 6 = .ok (.getfield 339, 3)) ∧ (decode cX10_restore 9 = .ok (.ifCond .ne 5, 3)) := by decide +kernel
theorem dX10_restore_0 : decode cX10_restore 0 = .ok (.aload_n 0, 1) := dX10_restore_0_b.1
theorem dX10_restore_1 : decode cX10_restore 1 = .ok (.iconst 0, 1) := dX10_restore_0_b.2.1
theorem dX10_restore_2 : decode cX10_restore 2 = .ok (.putfield 171, 3) := dX10_restore_0_b.2.2.1
theorem dX10_restore_5 : decode cX10_restore 5 = .ok (.aload_n 0, 1) := dX10_restore_0_b.2.2.2.1
theorem dX10_restore_6 : decode cX10_restore 6 = .ok (.getfield 339, 3) := dX10_restore_0_b.2.2.2.2.1
theorem dX10_restore_9 : decode cX10_restore 9 = .ok (.ifCond .ne 5, 3) := dX10_restore_0_b.2.2.2.2.2
set_option maxRecDepth 20000 in
theorem dX10_restore_12_b : (decode cX10_restore 12 = .ok (.iconst 0, 1)) ∧ (decode cX10_restore 13 = .ok (.ireturn, 1)) ∧ (decode cX10_restore 14 = .ok (.aload_n 0, 1)) ∧ (decode cX10_restore 15 = .ok (.aload_n 0, 1)) ∧ (decode cX10_restore 16 = .ok (.getfield 491, 3)) ∧ (decode cX10_restore 19 = .ok (.putfield 327, 3)) := by decide +kernel
theorem dX10_restore_12 : decode cX10_restore 12 = .ok (.iconst 0, 1) := dX10_restore_12_b.1
theorem dX10_restore_13 : decode cX10_restore 13 = .ok (.ireturn, 1) := dX10_restore_12_b.2.1
theorem dX10_restore_14 : decode cX10_restore 14 = .ok (.aload_n 0, 1) := dX10_restore_12_b.2.2.1
theorem dX10_restore_15 : decode cX10_restore 15 = .ok (.aload_n 0, 1) := dX10_restore_12_b.2.2.2.1
theorem dX10_restore_16 : decode cX10_restore 16 = .ok (.getfield 491, 3) := dX10_restore_12_b.2.2.2.2.1
theorem dX10_restore_19 : decode cX10_restore 19 = .ok (.putfield 327, 3) := dX10_restore_12_b.2.2.2.2.2
set_option maxRecDepth 20000 in
theorem dX10_restore_22_b : (decode cX10_restore 22 = .ok (.aload_n 0, 1)) ∧ (decode cX10_restore 23 = .ok (.aload_n 0, 1)) ∧ (decode cX10_restore 24 = .ok (.getfield 494, 3)) ∧ (decode cX10_restore 27 = .ok (.putfield 330, 3)) ∧ (decode cX10_restore 30 = .ok (.aload_n 0, 1)) ∧ (decode cX10_restore 31 = .ok (.aload_n 0, 1)) := by decide +kernel
theorem dX10_restore_22 : decode cX10_restore 22 = .ok (.aload_n 0, 1) := dX10_restore_22_b.1
theorem dX10_restore_23 : decode cX10_restore 23 = .ok (.aload_n 0, 1) := dX10_restore_22_b.2.1
theorem dX10_restore_24 : decode cX10_restore 24 = .ok (.getfield 494, 3) := dX10_restore_22_b.2.2.1
theorem dX10_restore_27 : decode cX10_restore 27 = .ok (.putfield 330, 3) := dX10_restore_22_b.2.2.2.1
theorem dX10_restore_30 : decode cX10_restore 30 = .ok (.aload_n 0, 1) := dX10_restore_22_b.2.2.2.2.1
theorem dX10_restore_31 : decode cX10_restore 31 = .ok (.aload_n 0, 1) := dX10_restore_22_b.2.2.2.2.2
set_option maxRecDepth 20000 in
theorem dX10_restore_32_b : (decode cX10_restore 32 = .ok (.getfield 497, 3)) ∧ (decode cX10_restore 35 = .ok (.putfield 333, 3)) ∧ (decode cX10_restore 38 = .ok (.aload_n 0, 1)) ∧ (decode cX10_restore 39 = .ok (.aload_n 0, 1)) ∧ (decode cX10_restore 40 = .ok (.getfield 500, 3)) ∧ (decode cX10_restore 43 = .ok (.putfield 336, 3)) := by decide +kernel
theorem dX10_restore_32 : decode cX10_restore 32 = .ok (.getfield 497, 3) := dX10_restore_32_b.1
theorem dX10_restore_35 : decode cX10_restore 35 = .ok (.putfield 333, 3) := dX10_restore_32_b.2.1
theorem dX10_restore_38 : decode cX10_restore 38 = .ok (.aload_n 0, 1) := dX10_restore_32_b.2.2.1
theorem dX10_restore_39 : decode cX10_restore 39 = .ok (.aload_n 0, 1) := dX10_restore_32_b.2.2.2.1
theorem dX10_restore_40 : decode cX10_restore 40 = .ok (.getfield 500, 3) := dX10_restore_32_b.2.2.2.2.1
theorem dX10_restore_43 : decode cX10_restore 43 = .ok (.putfield 336, 3) := dX10_restore_32_b.2.2.2.2.2
set_option maxRecDepth 20000 in
theorem dX10_restore_46_b : (decode cX10_restore 46 = .ok (.aload_n 0, 1)) ∧ (decode cX10_restore 47 = .ok (.getfield 87, 3)) ∧ (decode cX10_restore 50 = .ok (.aload_n 0, 1)) ∧ (decode cX10_restore 51 = .ok (.getfield 143, 3)) ∧ (decode cX10_restore 54 = .ok (.invokestatic 503, 3)) ∧ (decode cX10_restore 57 = .ok (.aload_n 0, 1)) := by decide +kernel
theorem dX10_restore_46 : decode cX10_restore 46 = .ok (.aload_n 0, 1) := dX10_restore_46_b.1
theorem dX10_restore_47 : decode cX10_restore 47 = .ok (.getfield 87, 3) := dX10_restore_46_b.2.1
theorem dX10_restore_50 : decode cX10_restore 50 = .ok (.aload_n 0, 1) := dX10_restore_46_b.2.2.1
theorem dX10_restore_51 : decode cX10_restore 51 = .ok (.getfield 143, 3) := dX10_restore_46_b.2.2.2.1
theorem dX10_restore_54 : decode cX10_restore 54 = .ok (.invokestatic 503, 3) := dX10_restore_46_b.2.2.2.2.1
theorem dX10_restore_57 : decode cX10_restore 57 = .ok (.aload_n 0, 1) := dX10_restore_46_b.2.2.2.2.2
set_option maxRecDepth 20000 in
theorem dX10_restore_58_b : (decode cX10_restore 58 = .ok (.getfield 90, 3)) ∧ (decode cX10_restore 61 = .ok (.aload_n 0, 1)) ∧ (decode cX10_restore 62 = .ok (.getfield 146, 3)) ∧ (decode cX10_restore 65 = .ok (.invokestatic 503, 3)) ∧ (decode cX10_restore 68 = .ok (.aload_n 0, 1)) ∧ (decode cX10_restore 69 = .ok (.getfield 93, 3)) := by decide +kernel
theorem dX10_restore_58 : decode cX10_restore 58 = .ok (.getfield 90, 3) := dX10_restore_58_b.1
theorem dX10_restore_61 : decode cX10_restore 61 = .ok (.aload_n 0, 1) := dX10_restore_58_b.2.1
theorem dX10_restore_62 : decode cX10_restore 62 = .ok (.getfield 146, 3) := dX10_restore_58_b.2.2.1
theorem dX10_restore_65 : decode cX10_restore 65 = .ok (.invokestatic 503, 3) := dX10_restore_58_b.2.2.2.1
theorem dX10_restore_68 : decode cX10_restore 68 = .ok (.aload_n 0, 1) := dX10_restore_58_b.2.2.2.2.1
theorem dX10_restore_69 : decode cX10_restore 69 = .ok (.getfield 93, 3) := dX10_restore_58_b.2.2.2.2.2
set_option maxRecDepth 20000 in
theorem dX10_restore_72_b : (decode cX10_restore 72 = .ok (.aload_n 0, 1)) ∧ (decode cX10_restore 73 = .ok (.getfield 149, 3)) ∧ (decode cX10_restore 76 = .ok (.invokestatic 503, 3)) ∧ (decode cX10_restore 79 = .ok (.aload_n 0, 1)) ∧ (decode cX10_restore 80 = .ok (.getfield 96, 3)) ∧ (decode cX10_restore 83 = .ok (.aload_n 0, 1)) := by decide +kernel
theorem dX10_restore_72 : decode cX10_restore 72 = .ok (.aload_n 0, 1) := dX10_restore_72_b.1
theorem dX10_restore_73 : decode cX10_restore 73 = .ok (.getfield 149, 3) := dX10_restore_72_b.2.1
theorem dX10_restore_76 : decode cX10_restore 76 = .ok (.invokestatic 503, 3) := dX10_restore_72_b.2.2.1
theorem dX10_restore_79 : decode cX10_restore 79 = .ok (.aload_n 0, 1) := dX10_restore_72_b.2.2.2.1
theorem dX10_restore_80 : decode cX10_restore 80 = .ok (.getfield 96, 3) := dX10_restore_72_b.2.2.2.2.1
theorem dX10_restore_83 : decode cX10_restore 83 = .ok (.aload_n 0, 1) := dX10_restore_72_b.2.2.2.2.2
set_option maxRecDepth 20000 in
theorem dX10_restore_84_b : (decode cX10_restore 84 = .ok (.getfield 152, 3)) ∧ (decode cX10_restore 87 = .ok (.invokestatic 503, 3)) ∧ (decode cX10_restore 90 = .ok (.aload_n 0, 1)) ∧ (decode cX10_restore 91 = .ok (.getfield 99, 3)) ∧ (decode cX10_restore 94 = .ok (.aload_n 0, 1)) ∧ (decode cX10_restore 95 = .ok (.getfield 155, 3)) := by decide +kernel
theorem dX10_restore_84 : decode cX10_restore 84 = .ok (.getfield 152, 3) := dX10_restore_84_b.1
theorem dX10_restore_87 : decode cX10_restore 87 = .ok (.invokestatic 503, 3) := dX10_restore_84_b.2.1
theorem dX10_restore_90 : decode cX10_restore 90 = .ok (.aload_n 0, 1) := dX10_restore_84_b.2.2.1
theorem dX10_restore_91 : decode cX10_restore 91 = .ok (.getfield 99, 3) := dX10_restore_84_b.2.2.2.1
theorem dX10_restore_94 : decode cX10_restore 94 = .ok (.aload_n 0, 1) := dX10_restore_84_b.2.2.2.2.1
theorem dX10_restore_95 : decode cX10_restore 95 = .ok (.getfield 155, 3) := dX10_restore_84_b.2.2.2.2.2
set_option maxRecDepth 20000 in
theorem dX10_restore_98_b : (decode cX10_restore 98 = .ok (.invokestatic 503, 3)) ∧ (decode cX10_restore 101 = .ok (.aload_n 0, 1)) ∧ (decode cX10_restore 102 = .ok (.getfield 102, 3)) ∧ (decode cX10_restore 105 = .ok (.aload_n 0, 1)) ∧ (decode cX10_restore 106 = .ok (.getfield 158, 3)) ∧ (decode cX10_restore 109 = .ok (.invokestatic 503, 3)) := by decide +kernel
theorem dX10_restore_98 : decode cX10_restore 98 = .ok (.invokestatic 503, 3) := dX10_restore_98_b.1
theorem dX10_restore_101 : decode cX10_restore 101 = .ok (.aload_n 0, 1) := dX10_restore_98_b.2.1
theorem dX10_restore_102 : decode cX10_restore 102 = .ok (.getfield 102, 3) := dX10_restore_98_b.2.2.1
theorem dX10_restore_105 : decode cX10_restore 105 = .ok (.aload_n 0, 1) := dX10_restore_98_b.2.2.2.1
theorem dX10_restore_106 : decode cX10_restore 106 = .ok (.getfield 158, 3) := dX10_restore_98_b.2.2.2.2.1
theorem dX10_restore_109 : decode cX10_restore 109 = .ok (.invokestatic 503, 3) := dX10_restore_98_b.2.2.2.2.2
set_option maxRecDepth 20000 in
theorem dX10_restore_112_b : (decode cX10_restore 112 = .ok (.aload_n 0, 1)) ∧ (decode cX10_restore 113 = .ok (.getfield 105, 3)) ∧ (decode cX10_restore 116 = .ok (.aload_n 0, 1)) ∧ (decode cX10_restore 117 = .ok (.getfield 161, 3)) ∧ (decode cX10_restore 120 = .ok (.invokestatic 503, 3)) ∧ (decode cX10_restore 123 = .ok (.aload_n 0, 1)) := by decide +kernel
theorem dX10_restore_112 : decode cX10_restore 112 = .ok (.aload_n 0, 1) := dX10_restore_112_b.1
theorem dX10_restore_113 : decode cX10_restore 113 = .ok (.getfield 105, 3) := dX10_restore_112_b.2.1
theorem dX10_restore_116 : decode cX10_restore 116 = .ok (.aload_n 0, 1) := dX10_restore_112_b.2.2.1
theorem dX10_restore_117 : decode cX10_restore 117 = .ok (.getfield 161, 3) := dX10_restore_112_b.2.2.2.1
theorem dX10_restore_120 : decode cX10_restore 120 = .ok (.invokestatic 503, 3) := dX10_restore_112_b.2.2.2.2.1
theorem dX10_restore_123 : decode cX10_restore 123 = .ok (.aload_n 0, 1) := dX10_restore_112_b.2.2.2.2.2
set_option maxRecDepth 20000 in
theorem dX10_restore_124_b : (decode cX10_restore 124 = .ok (.getfield 77, 3)) ∧ (decode cX10_restore 127 = .ok (.aload_n 0, 1)) ∧ (decode cX10_restore 128 = .ok (.getfield 164, 3)) ∧ (decode cX10_restore 131 = .ok (.invokestatic 503, 3)) ∧ (decode cX10_restore 134 = .ok (.iconst 1, 1)) ∧ (decode cX10_restore 135 = .ok (.ireturn, 1)) := by decide +kernel
theorem dX10_restore_124 : decode cX10_restore 124 = .ok (.getfield 77, 3) := dX10_restore_124_b.1
theorem dX10_restore_127 : decode cX10_restore 127 = .ok (.aload_n 0, 1) := dX10_restore_124_b.2.1
theorem dX10_restore_128 : decode cX10_restore 128 = .ok (.getfield 164, 3) := dX10_restore_124_b.2.2.1
theorem dX10_restore_131 : decode cX10_restore 131 = .ok (.invokestatic 503, 3) := dX10_restore_124_b.2.2.2.1
theorem dX10_restore_134 : decode cX10_restore 134 = .ok (.iconst 1, 1) := dX10_restore_124_b.2.2.2.2.1
theorem dX10_restore_135 : decode cX10_restore 135 = .ok (.ireturn, 1) := dX10_restore_124_b.2.2.2.2.2
