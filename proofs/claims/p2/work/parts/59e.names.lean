set_option maxRecDepth 20000 in
theorem dX9_enough_5_b : (decode cX9_enough 5 = .ok (.iconst 1, 1)) ∧ (decode cX9_enough 6 = .ok (.if_icmp .eq 14, 3)) ∧ (decode cX9_enough 9 = .ok (.new 144, 3)) ∧ (decode cX9_enough 12 = .ok (.dup, 1)) ∧ (decode cX9_enough 13 = .ok (.ldc_w 281, 3)) ∧ (decode cX9_enough 16 = .ok (.invokespecial 148, 3)) := by decide +kernel
theorem dX9_enough_5 : decode cX9_enough 5 = .ok (.iconst 1, 1) := dX9_enough_5_b.1
theorem dX9_enough_6 : decode cX9_enough 6 = .ok (.if_icmp .eq 14, 3) := dX9_enough_5_b.2.1
theorem dX9_enough_9 : decode cX9_enough 9 = .ok (.new 144, 3) := dX9_enough_5_b.2.2.1
theorem dX9_enough_12 : decode cX9_enough 12 = .ok (.dup, 1) := dX9_enough_5_b.2.2.2.1
theorem dX9_enough_13 : decode cX9_enough 13 = .ok (.ldc_w 281, 3) := dX9_enough_5_b.2.2.2.2.1
theorem dX9_enough_16 : decode cX9_enough 16 = .ok (.invokespecial 148, 3) := dX9_enough_5_b.2.2.2.2.2
set_option maxRecDepth 20000 in
theorem dX9_enough_19_b : (decode cX9_enough 19 = .ok (.athrow, 1)) ∧ (decode cX9_enough 20 = .ok (.iconst (-1), 1)) ∧ (decode cX9_enough 21 = .ok (.istore_n 2, 1)) ∧ (decode cX9_enough 22 = .ok (.aload_n 0, 1)) ∧ (decode cX9_enough 23 = .ok (.getfield 23, 3)) ∧ (decode cX9_enough 26 = .ok (.invokevirtual 283, 3)) := by decide +kernel
theorem dX9_enough_19 : decode cX9_enough 19 = .ok (.athrow, 1) := dX9_enough_19_b.1
theorem dX9_enough_20 : decode cX9_enough 20 = .ok (.iconst (-1), 1) := dX9_enough_19_b.2.1
theorem dX9_enough_21 : decode cX9_enough 21 = .ok (.istore_n 2, 1) := dX9_enough_19_b.2.2.1
theorem dX9_enough_22 : decode cX9_enough 22 = .ok (.aload_n 0, 1) := dX9_enough_19_b.2.2.2.1
theorem dX9_enough_23 : decode cX9_enough 23 = .ok (.getfield 23, 3) := dX9_enough_19_b.2.2.2.2.1
theorem dX9_enough_26 : decode cX9_enough 26 = .ok (.invokevirtual 283, 3) := dX9_enough_19_b.2.2.2.2.2
set_option maxRecDepth 20000 in
theorem dX9_enough_29_b : (decode cX9_enough 29 = .ok (.istore_n 3, 1)) ∧ (decode cX9_enough 30 = .ok (.iconst 0, 1)) ∧ (decode cX9_enough 31 = .ok (.istore 4, 2)) ∧ (decode cX9_enough 33 = .ok (.iload 4, 2)) ∧ (decode cX9_enough 35 = .ok (.iload_n 3, 1)) ∧ (decode cX9_enough 36 = .ok (.if_icmp .gt 47, 3)) := by decide +kernel
theorem dX9_enough_29 : decode cX9_enough 29 = .ok (.istore_n 3, 1) := dX9_enough_29_b.1
theorem dX9_enough_30 : decode cX9_enough 30 = .ok (.iconst 0, 1) := dX9_enough_29_b.2.1
theorem dX9_enough_31 : decode cX9_enough 31 = .ok (.istore 4, 2) := dX9_enough_29_b.2.2.1
theorem dX9_enough_33 : decode cX9_enough 33 = .ok (.iload 4, 2) := dX9_enough_29_b.2.2.2.1
theorem dX9_enough_35 : decode cX9_enough 35 = .ok (.iload_n 3, 1) := dX9_enough_29_b.2.2.2.2.1
theorem dX9_enough_36 : decode cX9_enough 36 = .ok (.if_icmp .gt 47, 3) := dX9_enough_29_b.2.2.2.2.2
set_option maxRecDepth 20000 in
theorem dX9_enough_39_b : (decode cX9_enough 39 = .ok (.aload_n 0, 1)) ∧ (decode cX9_enough 40 = .ok (.iload 4, 2)) ∧ (decode cX9_enough 42 = .ok (.invokevirtual 286, 3)) ∧ (decode cX9_enough 45 = .ok (.istore 5, 2)) ∧ (decode cX9_enough 47 = .ok (.iload 5, 2)) ∧ (decode cX9_enough 49 = .ok (.bipush (-2), 2)) := by decide +kernel
theorem dX9_enough_39 : decode cX9_enough 39 = .ok (.aload_n 0, 1) := dX9_enough_39_b.1
theorem dX9_enough_40 : decode cX9_enough 40 = .ok (.iload 4, 2) := dX9_enough_39_b.2.1
theorem dX9_enough_42 : decode cX9_enough 42 = .ok (.invokevirtual 286, 3) := dX9_enough_39_b.2.2.1
theorem dX9_enough_45 : decode cX9_enough 45 = .ok (.istore 5, 2) := dX9_enough_39_b.2.2.2.1
theorem dX9_enough_47 : decode cX9_enough 47 = .ok (.iload 5, 2) := dX9_enough_39_b.2.2.2.2.1
theorem dX9_enough_49 : decode cX9_enough 49 = .ok (.bipush (-2), 2) := dX9_enough_39_b.2.2.2.2.2
set_option maxRecDepth 20000 in
theorem dX9_enough_51_b : (decode cX9_enough 51 = .ok (.if_icmp .ne 6, 3)) ∧ (decode cX9_enough 54 = .ok (.bipush (-2), 2)) ∧ (decode cX9_enough 56 = .ok (.ireturn, 1)) ∧ (decode cX9_enough 57 = .ok (.iload 5, 2)) ∧ (decode cX9_enough 59 = .ok (.iconst (-1), 1)) ∧ (decode cX9_enough 60 = .ok (.if_icmp .ne 14, 3)) := by decide +kernel
theorem dX9_enough_51 : decode cX9_enough 51 = .ok (.if_icmp .ne 6, 3) := dX9_enough_51_b.1
theorem dX9_enough_54 : decode cX9_enough 54 = .ok (.bipush (-2), 2) := dX9_enough_51_b.2.1
theorem dX9_enough_56 : decode cX9_enough 56 = .ok (.ireturn, 1) := dX9_enough_51_b.2.2.1
theorem dX9_enough_57 : decode cX9_enough 57 = .ok (.iload 5, 2) := dX9_enough_51_b.2.2.2.1
theorem dX9_enough_59 : decode cX9_enough 59 = .ok (.iconst (-1), 1) := dX9_enough_51_b.2.2.2.2.1
theorem dX9_enough_60 : decode cX9_enough 60 = .ok (.if_icmp .ne 14, 3) := dX9_enough_51_b.2.2.2.2.2
set_option maxRecDepth 20000 in
theorem dX9_enough_63_b : (decode cX9_enough 63 = .ok (.iload_n 1, 1)) ∧ (decode cX9_enough 64 = .ok (.ifCond .ne 8, 3)) ∧ (decode cX9_enough 67 = .ok (.iload 4, 2)) ∧ (decode cX9_enough 69 = .ok (.goto 4, 3)) ∧ (decode cX9_enough 72 = .ok (.iload_n 2, 1)) ∧ (decode cX9_enough 73 = .ok (.ireturn, 1)) := by decide +kernel
theorem dX9_enough_63 : decode cX9_enough 63 = .ok (.iload_n 1, 1) := dX9_enough_63_b.1
theorem dX9_enough_64 : decode cX9_enough 64 = .ok (.ifCond .ne 8, 3) := dX9_enough_63_b.2.1
theorem dX9_enough_67 : decode cX9_enough 67 = .ok (.iload 4, 2) := dX9_enough_63_b.2.2.1
theorem dX9_enough_69 : decode cX9_enough 69 = .ok (.goto 4, 3) := dX9_enough_63_b.2.2.2.1
theorem dX9_enough_72 : decode cX9_enough 72 = .ok (.iload_n 2, 1) := dX9_enough_63_b.2.2.2.2.1
theorem dX9_enough_73 : decode cX9_enough 73 = .ok (.ireturn, 1) := dX9_enough_63_b.2.2.2.2.2
set_option maxRecDepth 20000 in
theorem dX9_enough_74_b : (decode cX9_enough 74 = .ok (.iload 5, 2)) ∧ (decode cX9_enough 76 = .ok (.istore_n 2, 1)) ∧ (decode cX9_enough 77 = .ok (.iinc 4 1, 3)) ∧ (decode cX9_enough 80 = .ok (.goto (-47), 3)) ∧ (decode cX9_enough 83 = .ok (.iconst (-1), 1)) ∧ (decode cX9_enough 84 = .ok (.ireturn, 1)) := by decide +kernel
theorem dX9_enough_74 : decode cX9_enough 74 = .ok (.iload 5, 2) := dX9_enough_74_b.1
theorem dX9_enough_76 : decode cX9_enough 76 = .ok (.istore_n 2, 1) := dX9_enough_74_b.2.1
theorem dX9_enough_77 : decode cX9_enough 77 = .ok (.iinc 4 1, 3) := dX9_enough_74_b.2.2.1
theorem dX9_enough_80 : decode cX9_enough 80 = .ok (.goto (-47), 3) := dX9_enough_74_b.2.2.2.1
theorem dX9_enough_83 : decode cX9_enough 83 = .ok (.iconst (-1), 1) := dX9_enough_74_b.2.2.2.2.1
theorem dX9_enough_84 : decode cX9_enough 84 = .ok (.ireturn, 1) := dX9_enough_74_b.2.2.2.2.2
set_option maxRecDepth 20000 in
theorem dX9_firstFailingDay_0_b : (decode cX9_firstFailingDay 0 = .ok (.aload_n 0, 1)) ∧ (decode cX9_firstFailingDay 1 = .ok (.getfield 23, 3)) ∧ (decode cX9_firstFailingDay 4 = .ok (.iload_n 1, 1)) ∧ (decode cX9_firstFailingDay 5 = .ok (.invokevirtual 289, 3)) ∧ (decode cX9_firstFailingDay 8 = .ok (.istore_n 2, 1)) ∧ (decode cX9_firstFailingDay 9 = .ok (.iconst 0, 1)) := by decide +kernel
theorem dX9_firstFailingDay_0 : decode cX9_firstFailingDay 0 = .ok (.aload_n 0, 1) := dX9_firstFailingDay_0_b.1
theorem dX9_firstFailingDay_1 : decode cX9_firstFailingDay 1 = .ok (.getfield 23, 3) := dX9_firstFailingDay_0_b.2.1
theorem dX9_firstFailingDay_4 : decode cX9_firstFailingDay 4 = .ok (.iload_n 1, 1) := dX9_firstFailingDay_0_b.2.2.1
theorem dX9_firstFailingDay_5 : decode cX9_firstFailingDay 5 = .ok (.invokevirtual 289, 3) := dX9_firstFailingDay_0_b.2.2.2.1
theorem dX9_firstFailingDay_8 : decode cX9_firstFailingDay 8 = .ok (.istore_n 2, 1) := dX9_firstFailingDay_0_b.2.2.2.2.1
theorem dX9_firstFailingDay_9 : decode cX9_firstFailingDay 9 = .ok (.iconst 0, 1) := dX9_firstFailingDay_0_b.2.2.2.2.2
set_option maxRecDepth 20000 in
theorem dX9_firstFailingDay_10_b : (decode cX9_firstFailingDay 10 = .ok (.istore_n 3, 1)) ∧ (decode cX9_firstFailingDay 11 = .ok (.iload_n 3, 1)) ∧ (decode cX9_firstFailingDay 12 = .ok (.aload_n 0, 1)) ∧ (decode cX9_firstFailingDay 13 = .ok (.getfield 42, 3)) ∧ (decode cX9_firstFailingDay 16 = .ok (.getfield 141, 3)) ∧ (decode cX9_firstFailingDay 19 = .ok (.if_icmp .ge 67, 3)) := by decide +kernel
theorem dX9_firstFailingDay_10 : decode cX9_firstFailingDay 10 = .ok (.istore_n 3, 1) := dX9_firstFailingDay_10_b.1
theorem dX9_firstFailingDay_11 : decode cX9_firstFailingDay 11 = .ok (.iload_n 3, 1) := dX9_firstFailingDay_10_b.2.1
theorem dX9_firstFailingDay_12 : decode cX9_firstFailingDay 12 = .ok (.aload_n 0, 1) := dX9_firstFailingDay_10_b.2.2.1
theorem dX9_firstFailingDay_13 : decode cX9_firstFailingDay 13 = .ok (.getfield 42, 3) := dX9_firstFailingDay_10_b.2.2.2.1
theorem dX9_firstFailingDay_16 : decode cX9_firstFailingDay 16 = .ok (.getfield 141, 3) := dX9_firstFailingDay_10_b.2.2.2.2.1
theorem dX9_firstFailingDay_19 : decode cX9_firstFailingDay 19 = .ok (.if_icmp .ge 67, 3) := dX9_firstFailingDay_10_b.2.2.2.2.2
set_option maxRecDepth 20000 in
theorem dX9_firstFailingDay_22_b : (decode cX9_firstFailingDay 22 = .ok (.aload_n 0, 1)) ∧ (decode cX9_firstFailingDay 23 = .ok (.getfield 42, 3)) ∧ (decode cX9_firstFailingDay 26 = .ok (.getfield 278, 3)) ∧ (decode cX9_firstFailingDay 29 = .ok (.iload_n 3, 1)) ∧ (decode cX9_firstFailingDay 30 = .ok (.iaload, 1)) ∧ (decode cX9_firstFailingDay 31 = .ok (.iload_n 2, 1)) := by decide +kernel
theorem dX9_firstFailingDay_22 : decode cX9_firstFailingDay 22 = .ok (.aload_n 0, 1) := dX9_firstFailingDay_22_b.1
theorem dX9_firstFailingDay_23 : decode cX9_firstFailingDay 23 = .ok (.getfield 42, 3) := dX9_firstFailingDay_22_b.2.1
theorem dX9_firstFailingDay_26 : decode cX9_firstFailingDay 26 = .ok (.getfield 278, 3) := dX9_firstFailingDay_22_b.2.2.1
theorem dX9_firstFailingDay_29 : decode cX9_firstFailingDay 29 = .ok (.iload_n 3, 1) := dX9_firstFailingDay_22_b.2.2.2.1
theorem dX9_firstFailingDay_30 : decode cX9_firstFailingDay 30 = .ok (.iaload, 1) := dX9_firstFailingDay_22_b.2.2.2.2.1
theorem dX9_firstFailingDay_31 : decode cX9_firstFailingDay 31 = .ok (.iload_n 2, 1) := dX9_firstFailingDay_22_b.2.2.2.2.2
set_option maxRecDepth 20000 in
theorem dX9_firstFailingDay_32_b : (decode cX9_firstFailingDay 32 = .ok (.ior, 1)) ∧ (decode cX9_firstFailingDay 33 = .ok (.iconst (-1), 1)) ∧ (decode cX9_firstFailingDay 34 = .ok (.ixor, 1)) ∧ (decode cX9_firstFailingDay 35 = .ok (.istore 4, 2)) ∧ (decode cX9_firstFailingDay 37 = .ok (.aload_n 0, 1)) ∧ (decode cX9_firstFailingDay 38 = .ok (.getfield 56, 3)) := by decide +kernel
theorem dX9_firstFailingDay_32 : decode cX9_firstFailingDay 32 = .ok (.ior, 1) := dX9_firstFailingDay_32_b.1
theorem dX9_firstFailingDay_33 : decode cX9_firstFailingDay 33 = .ok (.iconst (-1), 1) := dX9_firstFailingDay_32_b.2.1
theorem dX9_firstFailingDay_34 : decode cX9_firstFailingDay 34 = .ok (.ixor, 1) := dX9_firstFailingDay_32_b.2.2.1
theorem dX9_firstFailingDay_35 : decode cX9_firstFailingDay 35 = .ok (.istore 4, 2) := dX9_firstFailingDay_32_b.2.2.2.1
theorem dX9_firstFailingDay_37 : decode cX9_firstFailingDay 37 = .ok (.aload_n 0, 1) := dX9_firstFailingDay_32_b.2.2.2.2.1
theorem dX9_firstFailingDay_38 : decode cX9_firstFailingDay 38 = .ok (.getfield 56, 3) := dX9_firstFailingDay_32_b.2.2.2.2.2
set_option maxRecDepth 20000 in
theorem dX9_firstFailingDay_41_b : (decode cX9_firstFailingDay 41 = .ok (.aload_n 0, 1)) ∧ (decode cX9_firstFailingDay 42 = .ok (.getfield 23, 3)) ∧ (decode cX9_firstFailingDay 45 = .ok (.aload_n 0, 1)) ∧ (decode cX9_firstFailingDay 46 = .ok (.getfield 23, 3)) ∧ (decode cX9_firstFailingDay 49 = .ok (.invokevirtual 64, 3)) ∧ (decode cX9_firstFailingDay 52 = .ok (.iload 4, 2)) := by decide +kernel
theorem dX9_firstFailingDay_41 : decode cX9_firstFailingDay 41 = .ok (.aload_n 0, 1) := dX9_firstFailingDay_41_b.1
theorem dX9_firstFailingDay_42 : decode cX9_firstFailingDay 42 = .ok (.getfield 23, 3) := dX9_firstFailingDay_41_b.2.1
theorem dX9_firstFailingDay_45 : decode cX9_firstFailingDay 45 = .ok (.aload_n 0, 1) := dX9_firstFailingDay_41_b.2.2.1
theorem dX9_firstFailingDay_46 : decode cX9_firstFailingDay 46 = .ok (.getfield 23, 3) := dX9_firstFailingDay_41_b.2.2.2.1
theorem dX9_firstFailingDay_49 : decode cX9_firstFailingDay 49 = .ok (.invokevirtual 64, 3) := dX9_firstFailingDay_41_b.2.2.2.2.1
theorem dX9_firstFailingDay_52 : decode cX9_firstFailingDay 52 = .ok (.iload 4, 2) := dX9_firstFailingDay_41_b.2.2.2.2.2
set_option maxRecDepth 20000 in
theorem dX9_firstFailingDay_54_b : (decode cX9_firstFailingDay 54 = .ok (.invokestatic 266, 3)) ∧ (decode cX9_firstFailingDay 57 = .ok (.iconst 0, 1)) ∧ (decode cX9_firstFailingDay 58 = .ok (.invokevirtual 246, 3)) ∧ (decode cX9_firstFailingDay 61 = .ok (.ifCond .ne 6, 3)) ∧ (decode cX9_firstFailingDay 64 = .ok (.bipush (-2), 2)) ∧ (decode cX9_firstFailingDay 66 = .ok (.ireturn, 1)) := by decide +kernel
theorem dX9_firstFailingDay_54 : decode cX9_firstFailingDay 54 = .ok (.invokestatic 266, 3) := dX9_firstFailingDay_54_b.1
theorem dX9_firstFailingDay_57 : decode cX9_firstFailingDay 57 = .ok (.iconst 0, 1) := dX9_firstFailingDay_54_b.2.1
theorem dX9_firstFailingDay_58 : decode cX9_firstFailingDay 58 = .ok (.invokevirtual 246, 3) := dX9_firstFailingDay_54_b.2.2.1
theorem dX9_firstFailingDay_61 : decode cX9_firstFailingDay 61 = .ok (.ifCond .ne 6, 3) := dX9_firstFailingDay_54_b.2.2.2.1
theorem dX9_firstFailingDay_64 : decode cX9_firstFailingDay 64 = .ok (.bipush (-2), 2) := dX9_firstFailingDay_54_b.2.2.2.2.1
theorem dX9_firstFailingDay_66 : decode cX9_firstFailingDay 66 = .ok (.ireturn, 1) := dX9_firstFailingDay_54_b.2.2.2.2.2
set_option maxRecDepth 20000 in
theorem dX9_firstFailingDay_67_b : (decode cX9_firstFailingDay 67 = .ok (.aload_n 0, 1)) ∧ (decode cX9_firstFailingDay 68 = .ok (.getfield 56, 3)) ∧ (decode cX9_firstFailingDay 71 = .ok (.invokevirtual 250, 3)) ∧ (decode cX9_firstFailingDay 74 = .ok (.iconst (-1), 1)) ∧ (decode cX9_firstFailingDay 75 = .ok (.if_icmp .ne 5, 3)) ∧ (decode cX9_firstFailingDay 78 = .ok (.iload_n 3, 1)) := by decide +kernel
theorem dX9_firstFailingDay_67 : decode cX9_firstFailingDay 67 = .ok (.aload_n 0, 1) := dX9_firstFailingDay_67_b.1
theorem dX9_firstFailingDay_68 : decode cX9_firstFailingDay 68 = .ok (.getfield 56, 3) := dX9_firstFailingDay_67_b.2.1
theorem dX9_firstFailingDay_71 : decode cX9_firstFailingDay 71 = .ok (.invokevirtual 250, 3) := dX9_firstFailingDay_67_b.2.2.1
theorem dX9_firstFailingDay_74 : decode cX9_firstFailingDay 74 = .ok (.iconst (-1), 1) := dX9_firstFailingDay_67_b.2.2.2.1
theorem dX9_firstFailingDay_75 : decode cX9_firstFailingDay 75 = .ok (.if_icmp .ne 5, 3) := dX9_firstFailingDay_67_b.2.2.2.2.1
theorem dX9_firstFailingDay_78 : decode cX9_firstFailingDay 78 = .ok (.iload_n 3, 1) := dX9_firstFailingDay_67_b.2.2.2.2.2
set_option maxRecDepth 20000 in
theorem dX9_firstFailingDay_79_b : (decode cX9_firstFailingDay 79 = .ok (.ireturn, 1)) ∧ (decode cX9_firstFailingDay 80 = .ok (.iinc 3 1, 3)) ∧ (decode cX9_firstFailingDay 83 = .ok (.goto (-72), 3)) ∧ (decode cX9_firstFailingDay 86 = .ok (.iconst (-1), 1)) ∧ (decode cX9_firstFailingDay 87 = .ok (.ireturn, 1)) := by decide +kernel
theorem dX9_firstFailingDay_79 : decode cX9_firstFailingDay 79 = .ok (.ireturn, 1) := dX9_firstFailingDay_79_b.1
theorem dX9_firstFailingDay_80 : decode cX9_firstFailingDay 80 = .ok (.iinc 3 1, 3) := dX9_firstFailingDay_79_b.2.1
theorem dX9_firstFailingDay_83 : decode cX9_firstFailingDay 83 = .ok (.goto (-72), 3) := dX9_firstFailingDay_79_b.2.2.1
theorem dX9_firstFailingDay_86 : decode cX9_firstFailingDay 86 = .ok (.iconst (-1), 1) := dX9_firstFailingDay_79_b.2.2.2.1
theorem dX9_firstFailingDay_87 : decode cX9_firstFailingDay 87 = .ok (.ireturn, 1) := dX9_firstFailingDay_79_b.2.2.2.2
set_option maxRecDepth 20000 in
theorem dX9_image_0_b : (decode cX9_image 0 = .ok (.aload_n 0, 1)) ∧ (decode cX9_image 1 = .ok (.getfield 46, 3)) ∧ (decode cX9_image 4 = .ok (.aload_n 0, 1)) ∧ (decode cX9_image 5 = .ok (.getfield 42, 3)) ∧ (decode cX9_image 8 = .ok (.invokevirtual 292, 3)) ∧ (decode cX9_image 11 = .ok (.aload_n 0, 1)) := by decide +kernel
theorem dX9_image_0 : decode cX9_image 0 = .ok (.aload_n 0, 1) := dX9_image_0_b.1
theorem dX9_image_1 : decode cX9_image 1 = .ok (.getfield 46, 3) := dX9_image_0_b.2.1
theorem dX9_image_4 : decode cX9_image 4 = .ok (.aload_n 0, 1) := dX9_image_0_b.2.2.1
theorem dX9_image_5 : decode cX9_image 5 = .ok (.getfield 42, 3) := dX9_image_0_b.2.2.2.1
theorem dX9_image_8 : decode cX9_image 8 = .ok (.invokevirtual 292, 3) := dX9_image_0_b.2.2.2.2.1
theorem dX9_image_11 : decode cX9_image 11 = .ok (.aload_n 0, 1) := dX9_image_0_b.2.2.2.2.2
set_option maxRecDepth 20000 in
theorem dX9_image_12_b : (decode cX9_image 12 = .ok (.iconst 1, 1)) ∧ (decode cX9_image 13 = .ok (.putfield 49, 3)) ∧ (decode cX9_image 16 = .ok (.return_, 1)) := by decide +kernel
theorem dX9_image_12 : decode cX9_image 12 = .ok (.iconst 1, 1) := dX9_image_12_b.1
theorem dX9_image_13 : decode cX9_image 13 = .ok (.putfield 49, 3) := dX9_image_12_b.2.1
theorem dX9_image_16 : decode cX9_image 16 = .ok (.return_, 1) := dX9_image_12_b.2.2
set_option maxRecDepth 20000 in
theorem dX9_restore_0_b : (decode cX9_restore 0 = .ok (.aload_n 0, 1)) ∧ (decode cX9_restore 1 = .ok (.getfield 49, 3)) ∧ (decode cX9_restore 4 = .ok (.ifCond .eq 14, 3)) ∧ (decode cX9_restore 7 = .ok (.aload_n 0, 1)) ∧ (decode cX9_restore 8 = .ok (.getfield 42, 3)) ∧ (decode cX9_restore 11 = .ok (.aload_n 0, 1)) := by decide +kernel
theorem dX9_restore_0 : decode cX9_restore 0 = .ok (.aload_n 0, 1) := dX9_restore_0_b.1
theorem dX9_restore_1 : decode cX9_restore 1 = .ok (.getfield 49, 3) := dX9_restore_0_b.2.1
theorem dX9_restore_4 : decode cX9_restore 4 = .ok (.ifCond .eq 14, 3) := dX9_restore_0_b.2.2.1
theorem dX9_restore_7 : decode cX9_restore 7 = .ok (.aload_n 0, 1) := dX9_restore_0_b.2.2.2.1
theorem dX9_restore_8 : decode cX9_restore 8 = .ok (.getfield 42, 3) := dX9_restore_0_b.2.2.2.2.1
theorem dX9_restore_11 : decode cX9_restore 11 = .ok (.aload_n 0, 1) := dX9_restore_0_b.2.2.2.2.2
set_option maxRecDepth 20000 in
theorem dX9_restore_12_b : (decode cX9_restore 12 = .ok (.getfield 46, 3)) ∧ (decode cX9_restore 15 = .ok (.invokevirtual 292, 3)) ∧ (decode cX9_restore 18 = .ok (.aload_n 0, 1)) ∧ (decode cX9_restore 19 = .ok (.getfield 49, 3)) ∧ (decode cX9_restore 22 = .ok (.ireturn, 1)) := by decide +kernel
theorem dX9_restore_12 : decode cX9_restore 12 = .ok (.getfield 46, 3) := dX9_restore_12_b.1
theorem dX9_restore_15 : decode cX9_restore 15 = .ok (.invokevirtual 292, 3) := dX9_restore_12_b.2.1
theorem dX9_restore_18 : decode cX9_restore 18 = .ok (.aload_n 0, 1) := dX9_restore_12_b.2.2.1
theorem dX9_restore_19 : decode cX9_restore 19 = .ok (.getfield 49, 3) := dX9_restore_12_b.2.2.2.1
theorem dX9_restore_22 : decode cX9_restore 22 = .ok (.ireturn, 1) := dX9_restore_12_b.2.2.2.2
set_option maxRecDepth 20000 in
theorem dX10_init_0_b : (decode cX10_init 0 = .ok (.aload_n 0, 1)) ∧ (decode cX10_init 1 = .ok (.invokespecial 1, 3)) ∧ (decode cX10_init 4 = .ok (.aload_n 0, 1)) ∧ (decode cX10_init 5 = .ok (.bipush 12, 2)) ∧ (decode cX10_init 7 = .ok (.anewarray 7, 3)) ∧ (decode cX10_init 10 = .ok (.dup, 1)) := by decide +kernel
theorem dX10_init_0 : decode cX10_init 0 = .ok (.aload_n 0, 1) := dX10_init_0_b.1
theorem dX10_init_1 : decode cX10_init 1 = .ok (.invokespecial 1, 3) := dX10_init_0_b.2.1
theorem dX10_init_4 : decode cX10_init 4 = .ok (.aload_n 0, 1) := dX10_init_0_b.2.2.1
theorem dX10_init_5 : decode cX10_init 5 = .ok (.bipush 12, 2) := dX10_init_0_b.2.2.2.1
theorem dX10_init_7 : decode cX10_init 7 = .ok (.anewarray 7, 3) := dX10_init_0_b.2.2.2.2.1
theorem dX10_init_10 : decode cX10_init 10 = .ok (.dup, 1) := dX10_init_0_b.2.2.2.2.2
set_option maxRecDepth 20000 in
theorem dX10_init_11_b : (decode cX10_init 11 = .ok (.iconst 0, 1)) ∧ (decode cX10_init 12 = .ok (.ldc 9, 2)) ∧ (decode cX10_init 14 = .ok (.aastore, 1)) ∧ (decode cX10_init 15 = .ok (.dup, 1)) ∧ (decode cX10_init 16 = .ok (.iconst 1, 1)) ∧ (decode cX10_init 17 = .ok (.ldc 11, 2)) := by decide +kernel
theorem dX10_init_11 : decode cX10_init 11 = .ok (.iconst 0, 1) := dX10_init_11_b.1
theorem dX10_init_12 : decode cX10_init 12 = .ok (.ldc 9, 2) := dX10_init_11_b.2.1
theorem dX10_init_14 : decode cX10_init 14 = .ok (.aastore, 1) := dX10_init_11_b.2.2.1
theorem dX10_init_15 : decode cX10_init 15 = .ok (.dup, 1) := dX10_init_11_b.2.2.2.1
theorem dX10_init_16 : decode cX10_init 16 = .ok (.iconst 1, 1) := dX10_init_11_b.2.2.2.2.1
theorem dX10_init_17 : decode cX10_init 17 = .ok (.ldc 11, 2) := dX10_init_11_b.2.2.2.2.2
set_option maxRecDepth 20000 in
theorem dX10_init_19_b : (decode cX10_init 19 = .ok (.aastore, 1)) ∧ (decode cX10_init 20 = .ok (.dup, 1)) ∧ (decode cX10_init 21 = .ok (.iconst 2, 1)) ∧ (decode cX10_init 22 = .ok (.ldc 13, 2)) ∧ (decode cX10_init 24 = .ok (.aastore, 1)) ∧ (decode cX10_init 25 = .ok (.dup, 1)) := by decide +kernel
theorem dX10_init_19 : decode cX10_init 19 = .ok (.aastore, 1) := dX10_init_19_b.1
theorem dX10_init_20 : decode cX10_init 20 = .ok (.dup, 1) := dX10_init_19_b.2.1
theorem dX10_init_21 : decode cX10_init 21 = .ok (.iconst 2, 1) := dX10_init_19_b.2.2.1
theorem dX10_init_22 : decode cX10_init 22 = .ok (.ldc 13, 2) := dX10_init_19_b.2.2.2.1
theorem dX10_init_24 : decode cX10_init 24 = .ok (.aastore, 1) := dX10_init_19_b.2.2.2.2.1
theorem dX10_init_25 : decode cX10_init 25 = .ok (.dup, 1) := dX10_init_19_b.2.2.2.2.2
set_option maxRecDepth 20000 in
theorem dX10_init_26_b : (decode cX10_init 26 = .ok (.iconst 3, 1)) ∧ (decode cX10_init 27 = .ok (.ldc 15, 2)) ∧ (decode cX10_init 29 = .ok (.aastore, 1)) ∧ (decode cX10_init 30 = .ok (.dup, 1)) ∧ (decode cX10_init 31 = .ok (.iconst 4, 1)) ∧ (decode cX10_init 32 = .ok (.ldc 17, 2)) := by decide +kernel
theorem dX10_init_26 : decode cX10_init 26 = .ok (.iconst 3, 1) := dX10_init_26_b.1
theorem dX10_init_27 : decode cX10_init 27 = .ok (.ldc 15, 2) := dX10_init_26_b.2.1
theorem dX10_init_29 : decode cX10_init 29 = .ok (.aastore, 1) := dX10_init_26_b.2.2.1
theorem dX10_init_30 : decode cX10_init 30 = .ok (.dup, 1) := dX10_init_26_b.2.2.2.1
theorem dX10_init_31 : decode cX10_init 31 = .ok (.iconst 4, 1) := dX10_init_26_b.2.2.2.2.1
theorem dX10_init_32 : decode cX10_init 32 = .ok (.ldc 17, 2) := dX10_init_26_b.2.2.2.2.2
set_option maxRecDepth 20000 in
theorem dX10_init_34_b : (decode cX10_init 34 = .ok (.aastore, 1)) ∧ (decode cX10_init 35 = .ok (.dup, 1)) ∧ (decode cX10_init 36 = .ok (.iconst 5, 1)) ∧ (decode cX10_init 37 = .ok (.ldc 19, 2)) ∧ (decode cX10_init 39 = .ok (.aastore, 1)) ∧ (decode cX10_init 40 = .ok (.dup, 1)) := by decide +kernel
theorem dX10_init_34 : decode cX10_init 34 = .ok (.aastore, 1) := dX10_init_34_b.1
theorem dX10_init_35 : decode cX10_init 35 = .ok (.dup, 1) := dX10_init_34_b.2.1
theorem dX10_init_36 : decode cX10_init 36 = .ok (.iconst 5, 1) := dX10_init_34_b.2.2.1
theorem dX10_init_37 : decode cX10_init 37 = .ok (.ldc 19, 2) := dX10_init_34_b.2.2.2.1
theorem dX10_init_39 : decode cX10_init 39 = .ok (.aastore, 1) := dX10_init_34_b.2.2.2.2.1
theorem dX10_init_40 : decode cX10_init 40 = .ok (.dup, 1) := dX10_init_34_b.2.2.2.2.2
set_option maxRecDepth 20000 in
theorem dX10_init_41_b : (decode cX10_init 41 = .ok (.bipush 6, 2)) ∧ (decode cX10_init 43 = .ok (.ldc 21, 2)) ∧ (decode cX10_init 45 = .ok (.aastore, 1)) ∧ (decode cX10_init 46 = .ok (.dup, 1)) ∧ (decode cX10_init 47 = .ok (.bipush 7, 2)) ∧ (decode cX10_init 49 = .ok (.ldc 23, 2)) := by decide +kernel
theorem dX10_init_41 : decode cX10_init 41 = .ok (.bipush 6, 2) := dX10_init_41_b.1
theorem dX10_init_43 : decode cX10_init 43 = .ok (.ldc 21, 2) := dX10_init_41_b.2.1
theorem dX10_init_45 : decode cX10_init 45 = .ok (.aastore, 1) := dX10_init_41_b.2.2.1
theorem dX10_init_46 : decode cX10_init 46 = .ok (.dup, 1) := dX10_init_41_b.2.2.2.1
theorem dX10_init_47 : decode cX10_init 47 = .ok (.bipush 7, 2) := dX10_init_41_b.2.2.2.2.1
theorem dX10_init_49 : decode cX10_init 49 = .ok (.ldc 23, 2) := dX10_init_41_b.2.2.2.2.2
set_option maxRecDepth 20000 in
theorem dX10_init_51_b : (decode cX10_init 51 = .ok (.aastore, 1)) ∧ (decode cX10_init 52 = .ok (.dup, 1)) ∧ (decode cX10_init 53 = .ok (.bipush 8, 2)) ∧ (decode cX10_init 55 = .ok (.ldc 25, 2)) ∧ (decode cX10_init 57 = .ok (.aastore, 1)) ∧ (decode cX10_init 58 = .ok (.dup, 1)) := by decide +kernel
theorem dX10_init_51 : decode cX10_init 51 = .ok (.aastore, 1) := dX10_init_51_b.1
theorem dX10_init_52 : decode cX10_init 52 = .ok (.dup, 1) := dX10_init_51_b.2.1
theorem dX10_init_53 : decode cX10_init 53 = .ok (.bipush 8, 2) := dX10_init_51_b.2.2.1
theorem dX10_init_55 : decode cX10_init 55 = .ok (.ldc 25, 2) := dX10_init_51_b.2.2.2.1
theorem dX10_init_57 : decode cX10_init 57 = .ok (.aastore, 1) := dX10_init_51_b.2.2.2.2.1
theorem dX10_init_58 : decode cX10_init 58 = .ok (.dup, 1) := dX10_init_51_b.2.2.2.2.2
set_option maxRecDepth 20000 in
theorem dX10_init_59_b : (decode cX10_init 59 = .ok (.bipush 9, 2)) ∧ (decode cX10_init 61 = .ok (.ldc 27, 2)) ∧ (decode cX10_init 63 = .ok (.aastore, 1)) ∧ (decode cX10_init 64 = .ok (.dup, 1)) ∧ (decode cX10_init 65 = .ok (.bipush 10, 2)) ∧ (decode cX10_init 67 = .ok (.ldc 29, 2)) := by decide +kernel
theorem dX10_init_59 : decode cX10_init 59 = .ok (.bipush 9, 2) := dX10_init_59_b.1
theorem dX10_init_61 : decode cX10_init 61 = .ok (.ldc 27, 2) := dX10_init_59_b.2.1
theorem dX10_init_63 : decode cX10_init 63 = .ok (.aastore, 1) := dX10_init_59_b.2.2.1
theorem dX10_init_64 : decode cX10_init 64 = .ok (.dup, 1) := dX10_init_59_b.2.2.2.1
theorem dX10_init_65 : decode cX10_init 65 = .ok (.bipush 10, 2) := dX10_init_59_b.2.2.2.2.1
theorem dX10_init_67 : decode cX10_init 67 = .ok (.ldc 29, 2) := dX10_init_59_b.2.2.2.2.2
set_option maxRecDepth 20000 in
theorem dX10_init_69_b : (decode cX10_init 69 = .ok (.aastore, 1)) ∧ (decode cX10_init 70 = .ok (.dup, 1)) ∧ (decode cX10_init 71 = .ok (.bipush 11, 2)) ∧ (decode cX10_init 73 = .ok (.ldc 31, 2)) ∧ (decode cX10_init 75 = .ok (.aastore, 1)) ∧ (decode cX10_init 76 = .ok (.putfield 33, 3)) := by decide +kernel
theorem dX10_init_69 : decode cX10_init 69 = .ok (.aastore, 1) := dX10_init_69_b.1
theorem dX10_init_70 : decode cX10_init 70 = .ok (.dup, 1) := dX10_init_69_b.2.1
theorem dX10_init_71 : decode cX10_init 71 = .ok (.bipush 11, 2) := dX10_init_69_b.2.2.1
theorem dX10_init_73 : decode cX10_init 73 = .ok (.ldc 31, 2) := dX10_init_69_b.2.2.2.1
theorem dX10_init_75 : decode cX10_init 75 = .ok (.aastore, 1) := dX10_init_69_b.2.2.2.2.1
theorem dX10_init_76 : decode cX10_init 76 = .ok (.putfield 33, 3) := dX10_init_69_b.2.2.2.2.2
set_option maxRecDepth 20000 in
theorem dX10_init_79_b : (decode cX10_init 79 = .ok (.aload_n 0, 1)) ∧ (decode cX10_init 80 = .ok (.bipush 7, 2)) ∧ (decode cX10_init 82 = .ok (.anewarray 7, 3)) ∧ (decode cX10_init 85 = .ok (.dup, 1)) ∧ (decode cX10_init 86 = .ok (.iconst 0, 1)) ∧ (decode cX10_init 87 = .ok (.ldc 39, 2)) := by decide +kernel
theorem dX10_init_79 : decode cX10_init 79 = .ok (.aload_n 0, 1) := dX10_init_79_b.1
theorem dX10_init_80 : decode cX10_init 80 = .ok (.bipush 7, 2) := dX10_init_79_b.2.1
theorem dX10_init_82 : decode cX10_init 82 = .ok (.anewarray 7, 3) := dX10_init_79_b.2.2.1
theorem dX10_init_85 : decode cX10_init 85 = .ok (.dup, 1) := dX10_init_79_b.2.2.2.1
theorem dX10_init_86 : decode cX10_init 86 = .ok (.iconst 0, 1) := dX10_init_79_b.2.2.2.2.1
theorem dX10_init_87 : decode cX10_init 87 = .ok (.ldc 39, 2) := dX10_init_79_b.2.2.2.2.2
set_option maxRecDepth 20000 in
theorem dX10_init_89_b : (decode cX10_init 89 = .ok (.aastore, 1)) ∧ (decode cX10_init 90 = .ok (.dup, 1)) ∧ (decode cX10_init 91 = .ok (.iconst 1, 1)) ∧ (decode cX10_init 92 = .ok (.ldc 41, 2)) ∧ (decode cX10_init 94 = .ok (.aastore, 1)) ∧ (decode cX10_init 95 = .ok (.dup, 1)) := by decide +kernel
theorem dX10_init_89 : decode cX10_init 89 = .ok (.aastore, 1) := dX10_init_89_b.1
theorem dX10_init_90 : decode cX10_init 90 = .ok (.dup, 1) := dX10_init_89_b.2.1
theorem dX10_init_91 : decode cX10_init 91 = .ok (.iconst 1, 1) := dX10_init_89_b.2.2.1
theorem dX10_init_92 : decode cX10_init 92 = .ok (.ldc 41, 2) := dX10_init_89_b.2.2.2.1
theorem dX10_init_94 : decode cX10_init 94 = .ok (.aastore, 1) := dX10_init_89_b.2.2.2.2.1
theorem dX10_init_95 : decode cX10_init 95 = .ok (.dup, 1) := dX10_init_89_b.2.2.2.2.2
set_option maxRecDepth 20000 in
theorem dX10_init_96_b : (decode cX10_init 96 = .ok (.iconst 2, 1)) ∧ (decode cX10_init 97 = .ok (.ldc 43, 2)) ∧ (decode cX10_init 99 = .ok (.aastore, 1)) ∧ (decode cX10_init 100 = .ok (.dup, 1)) ∧ (decode cX10_init 101 = .ok (.iconst 3, 1)) ∧ (decode cX10_init 102 = .ok (.ldc 45, 2)) := by decide +kernel
theorem dX10_init_96 : decode cX10_init 96 = .ok (.iconst 2, 1) := dX10_init_96_b.1
theorem dX10_init_97 : decode cX10_init 97 = .ok (.ldc 43, 2) := dX10_init_96_b.2.1
theorem dX10_init_99 : decode cX10_init 99 = .ok (.aastore, 1) := dX10_init_96_b.2.2.1
theorem dX10_init_100 : decode cX10_init 100 = .ok (.dup, 1) := dX10_init_96_b.2.2.2.1
theorem dX10_init_101 : decode cX10_init 101 = .ok (.iconst 3, 1) := dX10_init_96_b.2.2.2.2.1
theorem dX10_init_102 : decode cX10_init 102 = .ok (.ldc 45, 2) := dX10_init_96_b.2.2.2.2.2
set_option maxRecDepth 20000 in
theorem dX10_init_104_b : (decode cX10_init 104 = .ok (.aastore, 1)) ∧ (decode cX10_init 105 = .ok (.dup, 1)) ∧ (decode cX10_init 106 = .ok (.iconst 4, 1)) ∧ (decode cX10_init 107 = .ok (.ldc 47, 2)) ∧ (decode cX10_init 109 = .ok (.aastore, 1)) ∧ (decode cX10_init 110 = .ok (.dup, 1)) := by decide +kernel
theorem dX10_init_104 : decode cX10_init 104 = .ok (.aastore, 1) := dX10_init_104_b.1
theorem dX10_init_105 : decode cX10_init 105 = .ok (.dup, 1) := dX10_init_104_b.2.1
theorem dX10_init_106 : decode cX10_init 106 = .ok (.iconst 4, 1) := dX10_init_104_b.2.2.1
theorem dX10_init_107 : decode cX10_init 107 = .ok (.ldc 47, 2) := dX10_init_104_b.2.2.2.1
theorem dX10_init_109 : decode cX10_init 109 = .ok (.aastore, 1) := dX10_init_104_b.2.2.2.2.1
theorem dX10_init_110 : decode cX10_init 110 = .ok (.dup, 1) := dX10_init_104_b.2.2.2.2.2
set_option maxRecDepth 20000 in
theorem dX10_init_111_b : (decode cX10_init 111 = .ok (.iconst 5, 1)) ∧ (decode cX10_init 112 = .ok (.ldc 9, 2)) ∧ (decode cX10_init 114 = .ok (.aastore, 1)) ∧ (decode cX10_init 115 = .ok (.dup, 1)) ∧ (decode cX10_init 116 = .ok (.bipush 6, 2)) ∧ (decode cX10_init 118 = .ok (.ldc 49, 2)) := by decide +kernel
theorem dX10_init_111 : decode cX10_init 111 = .ok (.iconst 5, 1) := dX10_init_111_b.1
theorem dX10_init_112 : decode cX10_init 112 = .ok (.ldc 9, 2) := dX10_init_111_b.2.1
theorem dX10_init_114 : decode cX10_init 114 = .ok (.aastore, 1) := dX10_init_111_b.2.2.1
theorem dX10_init_115 : decode cX10_init 115 = .ok (.dup, 1) := dX10_init_111_b.2.2.2.1
theorem dX10_init_116 : decode cX10_init 116 = .ok (.bipush 6, 2) := dX10_init_111_b.2.2.2.2.1
theorem dX10_init_118 : decode cX10_init 118 = .ok (.ldc 49, 2) := dX10_init_111_b.2.2.2.2.2
set_option maxRecDepth 20000 in
theorem dX10_init_120_b : (decode cX10_init 120 = .ok (.aastore, 1)) ∧ (decode cX10_init 121 = .ok (.putfield 51, 3)) ∧ (decode cX10_init 124 = .ok (.aload_n 0, 1)) ∧ (decode cX10_init 125 = .ok (.bipush 14, 2)) ∧ (decode cX10_init 127 = .ok (.newarray .int, 2)) ∧ (decode cX10_init 129 = .ok (.putfield 54, 3)) := by decide +kernel
theorem dX10_init_120 : decode cX10_init 120 = .ok (.aastore, 1) := dX10_init_120_b.1
theorem dX10_init_121 : decode cX10_init 121 = .ok (.putfield 51, 3) := dX10_init_120_b.2.1
theorem dX10_init_124 : decode cX10_init 124 = .ok (.aload_n 0, 1) := dX10_init_120_b.2.2.1
theorem dX10_init_125 : decode cX10_init 125 = .ok (.bipush 14, 2) := dX10_init_120_b.2.2.2.1
theorem dX10_init_127 : decode cX10_init 127 = .ok (.newarray .int, 2) := dX10_init_120_b.2.2.2.2.1
theorem dX10_init_129 : decode cX10_init 129 = .ok (.putfield 54, 3) := dX10_init_120_b.2.2.2.2.2
set_option maxRecDepth 20000 in
theorem dX10_init_132_b : (decode cX10_init 132 = .ok (.aload_n 0, 1)) ∧ (decode cX10_init 133 = .ok (.bipush 14, 2)) ∧ (decode cX10_init 135 = .ok (.newarray .int, 2)) ∧ (decode cX10_init 137 = .ok (.putfield 57, 3)) ∧ (decode cX10_init 140 = .ok (.aload_n 0, 1)) ∧ (decode cX10_init 141 = .ok (.bipush 14, 2)) := by decide +kernel
theorem dX10_init_132 : decode cX10_init 132 = .ok (.aload_n 0, 1) := dX10_init_132_b.1
theorem dX10_init_133 : decode cX10_init 133 = .ok (.bipush 14, 2) := dX10_init_132_b.2.1
theorem dX10_init_135 : decode cX10_init 135 = .ok (.newarray .int, 2) := dX10_init_132_b.2.2.1
theorem dX10_init_137 : decode cX10_init 137 = .ok (.putfield 57, 3) := dX10_init_132_b.2.2.2.1
theorem dX10_init_140 : decode cX10_init 140 = .ok (.aload_n 0, 1) := dX10_init_132_b.2.2.2.2.1
theorem dX10_init_141 : decode cX10_init 141 = .ok (.bipush 14, 2) := dX10_init_132_b.2.2.2.2.2
set_option maxRecDepth 20000 in
theorem dX10_init_143_b : (decode cX10_init 143 = .ok (.newarray .int, 2)) ∧ (decode cX10_init 145 = .ok (.putfield 60, 3)) ∧ (decode cX10_init 148 = .ok (.aload_n 0, 1)) ∧ (decode cX10_init 149 = .ok (.bipush 14, 2)) ∧ (decode cX10_init 151 = .ok (.newarray .int, 2)) ∧ (decode cX10_init 153 = .ok (.putfield 62, 3)) := by decide +kernel
theorem dX10_init_143 : decode cX10_init 143 = .ok (.newarray .int, 2) := dX10_init_143_b.1
theorem dX10_init_145 : decode cX10_init 145 = .ok (.putfield 60, 3) := dX10_init_143_b.2.1
theorem dX10_init_148 : decode cX10_init 148 = .ok (.aload_n 0, 1) := dX10_init_143_b.2.2.1
theorem dX10_init_149 : decode cX10_init 149 = .ok (.bipush 14, 2) := dX10_init_143_b.2.2.2.1
theorem dX10_init_151 : decode cX10_init 151 = .ok (.newarray .int, 2) := dX10_init_143_b.2.2.2.2.1
theorem dX10_init_153 : decode cX10_init 153 = .ok (.putfield 62, 3) := dX10_init_143_b.2.2.2.2.2
set_option maxRecDepth 20000 in
theorem dX10_init_156_b : (decode cX10_init 156 = .ok (.aload_n 0, 1)) ∧ (decode cX10_init 157 = .ok (.bipush 14, 2)) ∧ (decode cX10_init 159 = .ok (.newarray .int, 2)) ∧ (decode cX10_init 161 = .ok (.putfield 65, 3)) ∧ (decode cX10_init 164 = .ok (.aload_n 0, 1)) ∧ (decode cX10_init 165 = .ok (.bipush 8, 2)) := by decide +kernel
theorem dX10_init_156 : decode cX10_init 156 = .ok (.aload_n 0, 1) := dX10_init_156_b.1
theorem dX10_init_157 : decode cX10_init 157 = .ok (.bipush 14, 2) := dX10_init_156_b.2.1
theorem dX10_init_159 : decode cX10_init 159 = .ok (.newarray .int, 2) := dX10_init_156_b.2.2.1
theorem dX10_init_161 : decode cX10_init 161 = .ok (.putfield 65, 3) := dX10_init_156_b.2.2.2.1
theorem dX10_init_164 : decode cX10_init 164 = .ok (.aload_n 0, 1) := dX10_init_156_b.2.2.2.2.1
theorem dX10_init_165 : decode cX10_init 165 = .ok (.bipush 8, 2) := dX10_init_156_b.2.2.2.2.2
set_option maxRecDepth 20000 in
theorem dX10_init_167_b : (decode cX10_init 167 = .ok (.newarray .int, 2)) ∧ (decode cX10_init 169 = .ok (.putfield 68, 3)) ∧ (decode cX10_init 172 = .ok (.aload_n 0, 1)) ∧ (decode cX10_init 173 = .ok (.bipush 8, 2)) ∧ (decode cX10_init 175 = .ok (.newarray .int, 2)) ∧ (decode cX10_init 177 = .ok (.putfield 71, 3)) := by decide +kernel
theorem dX10_init_167 : decode cX10_init 167 = .ok (.newarray .int, 2) := dX10_init_167_b.1
theorem dX10_init_169 : decode cX10_init 169 = .ok (.putfield 68, 3) := dX10_init_167_b.2.1
theorem dX10_init_172 : decode cX10_init 172 = .ok (.aload_n 0, 1) := dX10_init_167_b.2.2.1
theorem dX10_init_173 : decode cX10_init 173 = .ok (.bipush 8, 2) := dX10_init_167_b.2.2.2.1
theorem dX10_init_175 : decode cX10_init 175 = .ok (.newarray .int, 2) := dX10_init_167_b.2.2.2.2.1
theorem dX10_init_177 : decode cX10_init 177 = .ok (.putfield 71, 3) := dX10_init_167_b.2.2.2.2.2
set_option maxRecDepth 20000 in
theorem dX10_init_180_b : (decode cX10_init 180 = .ok (.aload_n 0, 1)) ∧ (decode cX10_init 181 = .ok (.sipush 1200, 3)) ∧ (decode cX10_init 184 = .ok (.newarray .int, 2)) ∧ (decode cX10_init 186 = .ok (.putfield 74, 3)) ∧ (decode cX10_init 189 = .ok (.aload_n 0, 1)) ∧ (decode cX10_init 190 = .ok (.iconst 3, 1)) := by decide +kernel
theorem dX10_init_180 : decode cX10_init 180 = .ok (.aload_n 0, 1) := dX10_init_180_b.1
theorem dX10_init_181 : decode cX10_init 181 = .ok (.sipush 1200, 3) := dX10_init_180_b.2.1
theorem dX10_init_184 : decode cX10_init 184 = .ok (.newarray .int, 2) := dX10_init_180_b.2.2.1
theorem dX10_init_186 : decode cX10_init 186 = .ok (.putfield 74, 3) := dX10_init_180_b.2.2.2.1
theorem dX10_init_189 : decode cX10_init 189 = .ok (.aload_n 0, 1) := dX10_init_180_b.2.2.2.2.1
theorem dX10_init_190 : decode cX10_init 190 = .ok (.iconst 3, 1) := dX10_init_180_b.2.2.2.2.2
set_option maxRecDepth 20000 in
theorem dX10_init_191_b : (decode cX10_init 191 = .ok (.newarray .int, 2)) ∧ (decode cX10_init 193 = .ok (.putfield 77, 3)) ∧ (decode cX10_init 196 = .ok (.aload_n 0, 1)) ∧ (decode cX10_init 197 = .ok (.sipush 600, 3)) ∧ (decode cX10_init 200 = .ok (.newarray .int, 2)) ∧ (decode cX10_init 202 = .ok (.putfield 80, 3)) := by decide +kernel
theorem dX10_init_191 : decode cX10_init 191 = .ok (.newarray .int, 2) := dX10_init_191_b.1
theorem dX10_init_193 : decode cX10_init 193 = .ok (.putfield 77, 3) := dX10_init_191_b.2.1
theorem dX10_init_196 : decode cX10_init 196 = .ok (.aload_n 0, 1) := dX10_init_191_b.2.2.1
theorem dX10_init_197 : decode cX10_init 197 = .ok (.sipush 600, 3) := dX10_init_191_b.2.2.2.1
theorem dX10_init_200 : decode cX10_init 200 = .ok (.newarray .int, 2) := dX10_init_191_b.2.2.2.2.1
theorem dX10_init_202 : decode cX10_init 202 = .ok (.putfield 80, 3) := dX10_init_191_b.2.2.2.2.2
set_option maxRecDepth 20000 in
theorem dX10_init_205_b : (decode cX10_init 205 = .ok (.aload_n 0, 1)) ∧ (decode cX10_init 206 = .ok (.iconst (-1), 1)) ∧ (decode cX10_init 207 = .ok (.putfield 83, 3)) ∧ (decode cX10_init 210 = .ok (.aload_n 0, 1)) ∧ (decode cX10_init 211 = .ok (.bipush 7, 2)) ∧ (decode cX10_init 213 = .ok (.newarray .int, 2)) := by decide +kernel
theorem dX10_init_205 : decode cX10_init 205 = .ok (.aload_n 0, 1) := dX10_init_205_b.1
theorem dX10_init_206 : decode cX10_init 206 = .ok (.iconst (-1), 1) := dX10_init_205_b.2.1
theorem dX10_init_207 : decode cX10_init 207 = .ok (.putfield 83, 3) := dX10_init_205_b.2.2.1
theorem dX10_init_210 : decode cX10_init 210 = .ok (.aload_n 0, 1) := dX10_init_205_b.2.2.2.1
theorem dX10_init_211 : decode cX10_init 211 = .ok (.bipush 7, 2) := dX10_init_205_b.2.2.2.2.1
theorem dX10_init_213 : decode cX10_init 213 = .ok (.newarray .int, 2) := dX10_init_205_b.2.2.2.2.2
set_option maxRecDepth 20000 in
theorem dX10_init_215_b : (decode cX10_init 215 = .ok (.dup, 1)) ∧ (decode cX10_init 216 = .ok (.iconst 0, 1)) ∧ (decode cX10_init 217 = .ok (.bipush 15, 2)) ∧ (decode cX10_init 219 = .ok (.iastore, 1)) ∧ (decode cX10_init 220 = .ok (.dup, 1)) ∧ (decode cX10_init 221 = .ok (.iconst 1, 1)) := by decide +kernel
theorem dX10_init_215 : decode cX10_init 215 = .ok (.dup, 1) := dX10_init_215_b.1
theorem dX10_init_216 : decode cX10_init 216 = .ok (.iconst 0, 1) := dX10_init_215_b.2.1
theorem dX10_init_217 : decode cX10_init 217 = .ok (.bipush 15, 2) := dX10_init_215_b.2.2.1
theorem dX10_init_219 : decode cX10_init 219 = .ok (.iastore, 1) := dX10_init_215_b.2.2.2.1
theorem dX10_init_220 : decode cX10_init 220 = .ok (.dup, 1) := dX10_init_215_b.2.2.2.2.1
theorem dX10_init_221 : decode cX10_init 221 = .ok (.iconst 1, 1) := dX10_init_215_b.2.2.2.2.2
set_option maxRecDepth 20000 in
theorem dX10_init_222_b : (decode cX10_init 222 = .ok (.bipush 15, 2)) ∧ (decode cX10_init 224 = .ok (.iastore, 1)) ∧ (decode cX10_init 225 = .ok (.dup, 1)) ∧ (decode cX10_init 226 = .ok (.iconst 2, 1)) ∧ (decode cX10_init 227 = .ok (.bipush 15, 2)) ∧ (decode cX10_init 229 = .ok (.iastore, 1)) := by decide +kernel
theorem dX10_init_222 : decode cX10_init 222 = .ok (.bipush 15, 2) := dX10_init_222_b.1
theorem dX10_init_224 : decode cX10_init 224 = .ok (.iastore, 1) := dX10_init_222_b.2.1
theorem dX10_init_225 : decode cX10_init 225 = .ok (.dup, 1) := dX10_init_222_b.2.2.1
theorem dX10_init_226 : decode cX10_init 226 = .ok (.iconst 2, 1) := dX10_init_222_b.2.2.2.1
theorem dX10_init_227 : decode cX10_init 227 = .ok (.bipush 15, 2) := dX10_init_222_b.2.2.2.2.1
theorem dX10_init_229 : decode cX10_init 229 = .ok (.iastore, 1) := dX10_init_222_b.2.2.2.2.2
set_option maxRecDepth 20000 in
theorem dX10_init_230_b : (decode cX10_init 230 = .ok (.dup, 1)) ∧ (decode cX10_init 231 = .ok (.iconst 3, 1)) ∧ (decode cX10_init 232 = .ok (.bipush 15, 2)) ∧ (decode cX10_init 234 = .ok (.iastore, 1)) ∧ (decode cX10_init 235 = .ok (.dup, 1)) ∧ (decode cX10_init 236 = .ok (.iconst 4, 1)) := by decide +kernel
theorem dX10_init_230 : decode cX10_init 230 = .ok (.dup, 1) := dX10_init_230_b.1
theorem dX10_init_231 : decode cX10_init 231 = .ok (.iconst 3, 1) := dX10_init_230_b.2.1
theorem dX10_init_232 : decode cX10_init 232 = .ok (.bipush 15, 2) := dX10_init_230_b.2.2.1
theorem dX10_init_234 : decode cX10_init 234 = .ok (.iastore, 1) := dX10_init_230_b.2.2.2.1
theorem dX10_init_235 : decode cX10_init 235 = .ok (.dup, 1) := dX10_init_230_b.2.2.2.2.1
theorem dX10_init_236 : decode cX10_init 236 = .ok (.iconst 4, 1) := dX10_init_230_b.2.2.2.2.2
set_option maxRecDepth 20000 in
theorem dX10_init_237_b : (decode cX10_init 237 = .ok (.bipush 15, 2)) ∧ (decode cX10_init 239 = .ok (.iastore, 1)) ∧ (decode cX10_init 240 = .ok (.dup, 1)) ∧ (decode cX10_init 241 = .ok (.iconst 5, 1)) ∧ (decode cX10_init 242 = .ok (.bipush 15, 2)) ∧ (decode cX10_init 244 = .ok (.iastore, 1)) := by decide +kernel
theorem dX10_init_237 : decode cX10_init 237 = .ok (.bipush 15, 2) := dX10_init_237_b.1
theorem dX10_init_239 : decode cX10_init 239 = .ok (.iastore, 1) := dX10_init_237_b.2.1
theorem dX10_init_240 : decode cX10_init 240 = .ok (.dup, 1) := dX10_init_237_b.2.2.1
theorem dX10_init_241 : decode cX10_init 241 = .ok (.iconst 5, 1) := dX10_init_237_b.2.2.2.1
theorem dX10_init_242 : decode cX10_init 242 = .ok (.bipush 15, 2) := dX10_init_237_b.2.2.2.2.1
theorem dX10_init_244 : decode cX10_init 244 = .ok (.iastore, 1) := dX10_init_237_b.2.2.2.2.2
set_option maxRecDepth 20000 in
theorem dX10_init_245_b : (decode cX10_init 245 = .ok (.dup, 1)) ∧ (decode cX10_init 246 = .ok (.bipush 6, 2)) ∧ (decode cX10_init 248 = .ok (.bipush 15, 2)) ∧ (decode cX10_init 250 = .ok (.iastore, 1)) ∧ (decode cX10_init 251 = .ok (.putfield 87, 3)) ∧ (decode cX10_init 254 = .ok (.aload_n 0, 1)) := by decide +kernel
theorem dX10_init_245 : decode cX10_init 245 = .ok (.dup, 1) := dX10_init_245_b.1
theorem dX10_init_246 : decode cX10_init 246 = .ok (.bipush 6, 2) := dX10_init_245_b.2.1
theorem dX10_init_248 : decode cX10_init 248 = .ok (.bipush 15, 2) := dX10_init_245_b.2.2.1
theorem dX10_init_250 : decode cX10_init 250 = .ok (.iastore, 1) := dX10_init_245_b.2.2.2.1
theorem dX10_init_251 : decode cX10_init 251 = .ok (.putfield 87, 3) := dX10_init_245_b.2.2.2.2.1
theorem dX10_init_254 : decode cX10_init 254 = .ok (.aload_n 0, 1) := dX10_init_245_b.2.2.2.2.2
set_option maxRecDepth 20000 in
theorem dX10_init_255_b : (decode cX10_init 255 = .ok (.bipush 6, 2)) ∧ (decode cX10_init 257 = .ok (.newarray .int, 2)) ∧ (decode cX10_init 259 = .ok (.putfield 90, 3)) ∧ (decode cX10_init 262 = .ok (.aload_n 0, 1)) ∧ (decode cX10_init 263 = .ok (.bipush 60, 2)) ∧ (decode cX10_init 265 = .ok (.newarray .int, 2)) := by decide +kernel
theorem dX10_init_255 : decode cX10_init 255 = .ok (.bipush 6, 2) := dX10_init_255_b.1
theorem dX10_init_257 : decode cX10_init 257 = .ok (.newarray .int, 2) := dX10_init_255_b.2.1
theorem dX10_init_259 : decode cX10_init 259 = .ok (.putfield 90, 3) := dX10_init_255_b.2.2.1
theorem dX10_init_262 : decode cX10_init 262 = .ok (.aload_n 0, 1) := dX10_init_255_b.2.2.2.1
theorem dX10_init_263 : decode cX10_init 263 = .ok (.bipush 60, 2) := dX10_init_255_b.2.2.2.2.1
theorem dX10_init_265 : decode cX10_init 265 = .ok (.newarray .int, 2) := dX10_init_255_b.2.2.2.2.2
set_option maxRecDepth 20000 in
theorem dX10_init_267_b : (decode cX10_init 267 = .ok (.putfield 93, 3)) ∧ (decode cX10_init 270 = .ok (.aload_n 0, 1)) ∧ (decode cX10_init 271 = .ok (.bipush 60, 2)) ∧ (decode cX10_init 273 = .ok (.newarray .int, 2)) ∧ (decode cX10_init 275 = .ok (.putfield 96, 3)) ∧ (decode cX10_init 278 = .ok (.aload_n 0, 1)) := by decide +kernel
theorem dX10_init_267 : decode cX10_init 267 = .ok (.putfield 93, 3) := dX10_init_267_b.1
theorem dX10_init_270 : decode cX10_init 270 = .ok (.aload_n 0, 1) := dX10_init_267_b.2.1
theorem dX10_init_271 : decode cX10_init 271 = .ok (.bipush 60, 2) := dX10_init_267_b.2.2.1
theorem dX10_init_273 : decode cX10_init 273 = .ok (.newarray .int, 2) := dX10_init_267_b.2.2.2.1
theorem dX10_init_275 : decode cX10_init 275 = .ok (.putfield 96, 3) := dX10_init_267_b.2.2.2.2.1
theorem dX10_init_278 : decode cX10_init 278 = .ok (.aload_n 0, 1) := dX10_init_267_b.2.2.2.2.2
set_option maxRecDepth 20000 in
theorem dX10_init_279_b : (decode cX10_init 279 = .ok (.bipush 60, 2)) ∧ (decode cX10_init 281 = .ok (.newarray .int, 2)) ∧ (decode cX10_init 283 = .ok (.putfield 99, 3)) ∧ (decode cX10_init 286 = .ok (.aload_n 0, 1)) ∧ (decode cX10_init 287 = .ok (.bipush 60, 2)) ∧ (decode cX10_init 289 = .ok (.newarray .int, 2)) := by decide +kernel
theorem dX10_init_279 : decode cX10_init 279 = .ok (.bipush 60, 2) := dX10_init_279_b.1
theorem dX10_init_281 : decode cX10_init 281 = .ok (.newarray .int, 2) := dX10_init_279_b.2.1
theorem dX10_init_283 : decode cX10_init 283 = .ok (.putfield 99, 3) := dX10_init_279_b.2.2.1
theorem dX10_init_286 : decode cX10_init 286 = .ok (.aload_n 0, 1) := dX10_init_279_b.2.2.2.1
theorem dX10_init_287 : decode cX10_init 287 = .ok (.bipush 60, 2) := dX10_init_279_b.2.2.2.2.1
theorem dX10_init_289 : decode cX10_init 289 = .ok (.newarray .int, 2) := dX10_init_279_b.2.2.2.2.2
set_option maxRecDepth 20000 in
theorem dX10_init_291_b : (decode cX10_init 291 = .ok (.putfield 102, 3)) ∧ (decode cX10_init 294 = .ok (.aload_n 0, 1)) ∧ (decode cX10_init 295 = .ok (.bipush 60, 2)) ∧ (decode cX10_init 297 = .ok (.newarray .int, 2)) ∧ (decode cX10_init 299 = .ok (.putfield 105, 3)) ∧ (decode cX10_init 302 = .ok (.aload_n 0, 1)) := by decide +kernel
theorem dX10_init_291 : decode cX10_init 291 = .ok (.putfield 102, 3) := dX10_init_291_b.1
theorem dX10_init_294 : decode cX10_init 294 = .ok (.aload_n 0, 1) := dX10_init_291_b.2.1
theorem dX10_init_295 : decode cX10_init 295 = .ok (.bipush 60, 2) := dX10_init_291_b.2.2.1
theorem dX10_init_297 : decode cX10_init 297 = .ok (.newarray .int, 2) := dX10_init_291_b.2.2.2.1
theorem dX10_init_299 : decode cX10_init 299 = .ok (.putfield 105, 3) := dX10_init_291_b.2.2.2.2.1
theorem dX10_init_302 : decode cX10_init 302 = .ok (.aload_n 0, 1) := dX10_init_291_b.2.2.2.2.2
set_option maxRecDepth 20000 in
theorem dX10_init_303_b : (decode cX10_init 303 = .ok (.bipush 7, 2)) ∧ (decode cX10_init 305 = .ok (.newarray .int, 2)) ∧ (decode cX10_init 307 = .ok (.putfield 108, 3)) ∧ (decode cX10_init 310 = .ok (.aload_n 0, 1)) ∧ (decode cX10_init 311 = .ok (.bipush 60, 2)) ∧ (decode cX10_init 313 = .ok (.newarray .int, 2)) := by decide +kernel
theorem dX10_init_303 : decode cX10_init 303 = .ok (.bipush 7, 2) := dX10_init_303_b.1
theorem dX10_init_305 : decode cX10_init 305 = .ok (.newarray .int, 2) := dX10_init_303_b.2.1
theorem dX10_init_307 : decode cX10_init 307 = .ok (.putfield 108, 3) := dX10_init_303_b.2.2.1
theorem dX10_init_310 : decode cX10_init 310 = .ok (.aload_n 0, 1) := dX10_init_303_b.2.2.2.1
theorem dX10_init_311 : decode cX10_init 311 = .ok (.bipush 60, 2) := dX10_init_303_b.2.2.2.2.1
theorem dX10_init_313 : decode cX10_init 313 = .ok (.newarray .int, 2) := dX10_init_303_b.2.2.2.2.2
set_option maxRecDepth 20000 in
theorem dX10_init_315_b : (decode cX10_init 315 = .ok (.putfield 111, 3)) ∧ (decode cX10_init 318 = .ok (.aload_n 0, 1)) ∧ (decode cX10_init 319 = .ok (.bipush 7, 2)) ∧ (decode cX10_init 321 = .ok (.newarray .int, 2)) ∧ (decode cX10_init 323 = .ok (.putfield 114, 3)) ∧ (decode cX10_init 326 = .ok (.aload_n 0, 1)) := by decide +kernel
theorem dX10_init_315 : decode cX10_init 315 = .ok (.putfield 111, 3) := dX10_init_315_b.1
theorem dX10_init_318 : decode cX10_init 318 = .ok (.aload_n 0, 1) := dX10_init_315_b.2.1
theorem dX10_init_319 : decode cX10_init 319 = .ok (.bipush 7, 2) := dX10_init_315_b.2.2.1
theorem dX10_init_321 : decode cX10_init 321 = .ok (.newarray .int, 2) := dX10_init_315_b.2.2.2.1
theorem dX10_init_323 : decode cX10_init 323 = .ok (.putfield 114, 3) := dX10_init_315_b.2.2.2.2.1
theorem dX10_init_326 : decode cX10_init 326 = .ok (.aload_n 0, 1) := dX10_init_315_b.2.2.2.2.2
set_option maxRecDepth 20000 in
theorem dX10_init_327_b : (decode cX10_init 327 = .ok (.sipush 1501, 3)) ∧ (decode cX10_init 330 = .ok (.newarray .long, 2)) ∧ (decode cX10_init 332 = .ok (.putfield 117, 3)) ∧ (decode cX10_init 335 = .ok (.aload_n 0, 1)) ∧ (decode cX10_init 336 = .ok (.sipush 1501, 3)) ∧ (decode cX10_init 339 = .ok (.newarray .int, 2)) := by decide +kernel
theorem dX10_init_327 : decode cX10_init 327 = .ok (.sipush 1501, 3) := dX10_init_327_b.1
theorem dX10_init_330 : decode cX10_init 330 = .ok (.newarray .long, 2) := dX10_init_327_b.2.1
theorem dX10_init_332 : decode cX10_init 332 = .ok (.putfield 117, 3) := dX10_init_327_b.2.2.1
theorem dX10_init_335 : decode cX10_init 335 = .ok (.aload_n 0, 1) := dX10_init_327_b.2.2.2.1
theorem dX10_init_336 : decode cX10_init 336 = .ok (.sipush 1501, 3) := dX10_init_327_b.2.2.2.2.1
theorem dX10_init_339 : decode cX10_init 339 = .ok (.newarray .int, 2) := dX10_init_327_b.2.2.2.2.2
set_option maxRecDepth 20000 in
theorem dX10_init_341_b : (decode cX10_init 341 = .ok (.putfield 121, 3)) ∧ (decode cX10_init 344 = .ok (.aload_n 0, 1)) ∧ (decode cX10_init 345 = .ok (.sipush 1501, 3)) ∧ (decode cX10_init 348 = .ok (.newarray .int, 2)) ∧ (decode cX10_init 350 = .ok (.putfield 124, 3)) ∧ (decode cX10_init 353 = .ok (.aload_n 0, 1)) := by decide +kernel
theorem dX10_init_341 : decode cX10_init 341 = .ok (.putfield 121, 3) := dX10_init_341_b.1
theorem dX10_init_344 : decode cX10_init 344 = .ok (.aload_n 0, 1) := dX10_init_341_b.2.1
theorem dX10_init_345 : decode cX10_init 345 = .ok (.sipush 1501, 3) := dX10_init_341_b.2.2.1
theorem dX10_init_348 : decode cX10_init 348 = .ok (.newarray .int, 2) := dX10_init_341_b.2.2.2.1
theorem dX10_init_350 : decode cX10_init 350 = .ok (.putfield 124, 3) := dX10_init_341_b.2.2.2.2.1
theorem dX10_init_353 : decode cX10_init 353 = .ok (.aload_n 0, 1) := dX10_init_341_b.2.2.2.2.2
set_option maxRecDepth 20000 in
theorem dX10_init_354_b : (decode cX10_init 354 = .ok (.sipush 8192, 3)) ∧ (decode cX10_init 357 = .ok (.newarray .int, 2)) ∧ (decode cX10_init 359 = .ok (.putfield 127, 3)) ∧ (decode cX10_init 362 = .ok (.aload_n 0, 1)) ∧ (decode cX10_init 363 = .ok (.sipush 1501, 3)) ∧ (decode cX10_init 366 = .ok (.newarray .boolean, 2)) := by decide +kernel
theorem dX10_init_354 : decode cX10_init 354 = .ok (.sipush 8192, 3) := dX10_init_354_b.1
theorem dX10_init_357 : decode cX10_init 357 = .ok (.newarray .int, 2) := dX10_init_354_b.2.1
theorem dX10_init_359 : decode cX10_init 359 = .ok (.putfield 127, 3) := dX10_init_354_b.2.2.1
theorem dX10_init_362 : decode cX10_init 362 = .ok (.aload_n 0, 1) := dX10_init_354_b.2.2.2.1
theorem dX10_init_363 : decode cX10_init 363 = .ok (.sipush 1501, 3) := dX10_init_354_b.2.2.2.2.1
theorem dX10_init_366 : decode cX10_init 366 = .ok (.newarray .boolean, 2) := dX10_init_354_b.2.2.2.2.2
set_option maxRecDepth 20000 in
theorem dX10_init_368_b : (decode cX10_init 368 = .ok (.putfield 130, 3)) ∧ (decode cX10_init 371 = .ok (.aload_n 0, 1)) ∧ (decode cX10_init 372 = .ok (.bipush 7, 2)) ∧ (decode cX10_init 374 = .ok (.newarray .int, 2)) ∧ (decode cX10_init 376 = .ok (.putfield 134, 3)) ∧ (decode cX10_init 379 = .ok (.aload_n 0, 1)) := by decide +kernel
theorem dX10_init_368 : decode cX10_init 368 = .ok (.putfield 130, 3) := dX10_init_368_b.1
theorem dX10_init_371 : decode cX10_init 371 = .ok (.aload_n 0, 1) := dX10_init_368_b.2.1
theorem dX10_init_372 : decode cX10_init 372 = .ok (.bipush 7, 2) := dX10_init_368_b.2.2.1
theorem dX10_init_374 : decode cX10_init 374 = .ok (.newarray .int, 2) := dX10_init_368_b.2.2.2.1
theorem dX10_init_376 : decode cX10_init 376 = .ok (.putfield 134, 3) := dX10_init_368_b.2.2.2.2.1
theorem dX10_init_379 : decode cX10_init 379 = .ok (.aload_n 0, 1) := dX10_init_368_b.2.2.2.2.2
set_option maxRecDepth 20000 in
theorem dX10_init_380_b : (decode cX10_init 380 = .ok (.bipush 7, 2)) ∧ (decode cX10_init 382 = .ok (.newarray .int, 2)) ∧ (decode cX10_init 384 = .ok (.putfield 137, 3)) ∧ (decode cX10_init 387 = .ok (.aload_n 0, 1)) ∧ (decode cX10_init 388 = .ok (.bipush 7, 2)) ∧ (decode cX10_init 390 = .ok (.newarray .int, 2)) := by decide +kernel
theorem dX10_init_380 : decode cX10_init 380 = .ok (.bipush 7, 2) := dX10_init_380_b.1
theorem dX10_init_382 : decode cX10_init 382 = .ok (.newarray .int, 2) := dX10_init_380_b.2.1
theorem dX10_init_384 : decode cX10_init 384 = .ok (.putfield 137, 3) := dX10_init_380_b.2.2.1
theorem dX10_init_387 : decode cX10_init 387 = .ok (.aload_n 0, 1) := dX10_init_380_b.2.2.2.1
theorem dX10_init_388 : decode cX10_init 388 = .ok (.bipush 7, 2) := dX10_init_380_b.2.2.2.2.1
theorem dX10_init_390 : decode cX10_init 390 = .ok (.newarray .int, 2) := dX10_init_380_b.2.2.2.2.2
set_option maxRecDepth 20000 in
theorem dX10_init_392_b : (decode cX10_init 392 = .ok (.putfield 140, 3)) ∧ (decode cX10_init 395 = .ok (.aload_n 0, 1)) ∧ (decode cX10_init 396 = .ok (.bipush 7, 2)) ∧ (decode cX10_init 398 = .ok (.newarray .int, 2)) ∧ (decode cX10_init 400 = .ok (.putfield 143, 3)) ∧ (decode cX10_init 403 = .ok (.aload_n 0, 1)) := by decide +kernel
theorem dX10_init_392 : decode cX10_init 392 = .ok (.putfield 140, 3) := dX10_init_392_b.1
theorem dX10_init_395 : decode cX10_init 395 = .ok (.aload_n 0, 1) := dX10_init_392_b.2.1
theorem dX10_init_396 : decode cX10_init 396 = .ok (.bipush 7, 2) := dX10_init_392_b.2.2.1
theorem dX10_init_398 : decode cX10_init 398 = .ok (.newarray .int, 2) := dX10_init_392_b.2.2.2.1
theorem dX10_init_400 : decode cX10_init 400 = .ok (.putfield 143, 3) := dX10_init_392_b.2.2.2.2.1
theorem dX10_init_403 : decode cX10_init 403 = .ok (.aload_n 0, 1) := dX10_init_392_b.2.2.2.2.2
set_option maxRecDepth 20000 in
theorem dX10_init_404_b : (decode cX10_init 404 = .ok (.bipush 6, 2)) ∧ (decode cX10_init 406 = .ok (.newarray .int, 2)) ∧ (decode cX10_init 408 = .ok (.putfield 146, 3)) ∧ (decode cX10_init 411 = .ok (.aload_n 0, 1)) ∧ (decode cX10_init 412 = .ok (.bipush 60, 2)) ∧ (decode cX10_init 414 = .ok (.newarray .int, 2)) := by decide +kernel
theorem dX10_init_404 : decode cX10_init 404 = .ok (.bipush 6, 2) := dX10_init_404_b.1
theorem dX10_init_406 : decode cX10_init 406 = .ok (.newarray .int, 2) := dX10_init_404_b.2.1
theorem dX10_init_408 : decode cX10_init 408 = .ok (.putfield 146, 3) := dX10_init_404_b.2.2.1
theorem dX10_init_411 : decode cX10_init 411 = .ok (.aload_n 0, 1) := dX10_init_404_b.2.2.2.1
theorem dX10_init_412 : decode cX10_init 412 = .ok (.bipush 60, 2) := dX10_init_404_b.2.2.2.2.1
theorem dX10_init_414 : decode cX10_init 414 = .ok (.newarray .int, 2) := dX10_init_404_b.2.2.2.2.2
set_option maxRecDepth 20000 in
theorem dX10_init_416_b : (decode cX10_init 416 = .ok (.putfield 149, 3)) ∧ (decode cX10_init 419 = .ok (.aload_n 0, 1)) ∧ (decode cX10_init 420 = .ok (.bipush 60, 2)) ∧ (decode cX10_init 422 = .ok (.newarray .int, 2)) ∧ (decode cX10_init 424 = .ok (.putfield 152, 3)) ∧ (decode cX10_init 427 = .ok (.aload_n 0, 1)) := by decide +kernel
theorem dX10_init_416 : decode cX10_init 416 = .ok (.putfield 149, 3) := dX10_init_416_b.1
theorem dX10_init_419 : decode cX10_init 419 = .ok (.aload_n 0, 1) := dX10_init_416_b.2.1
theorem dX10_init_420 : decode cX10_init 420 = .ok (.bipush 60, 2) := dX10_init_416_b.2.2.1
theorem dX10_init_422 : decode cX10_init 422 = .ok (.newarray .int, 2) := dX10_init_416_b.2.2.2.1
theorem dX10_init_424 : decode cX10_init 424 = .ok (.putfield 152, 3) := dX10_init_416_b.2.2.2.2.1
theorem dX10_init_427 : decode cX10_init 427 = .ok (.aload_n 0, 1) := dX10_init_416_b.2.2.2.2.2
set_option maxRecDepth 20000 in
theorem dX10_init_428_b : (decode cX10_init 428 = .ok (.bipush 60, 2)) ∧ (decode cX10_init 430 = .ok (.newarray .int, 2)) ∧ (decode cX10_init 432 = .ok (.putfield 155, 3)) ∧ (decode cX10_init 435 = .ok (.aload_n 0, 1)) ∧ (decode cX10_init 436 = .ok (.bipush 60, 2)) ∧ (decode cX10_init 438 = .ok (.newarray .int, 2)) := by decide +kernel
theorem dX10_init_428 : decode cX10_init 428 = .ok (.bipush 60, 2) := dX10_init_428_b.1
theorem dX10_init_430 : decode cX10_init 430 = .ok (.newarray .int, 2) := dX10_init_428_b.2.1
theorem dX10_init_432 : decode cX10_init 432 = .ok (.putfield 155, 3) := dX10_init_428_b.2.2.1
theorem dX10_init_435 : decode cX10_init 435 = .ok (.aload_n 0, 1) := dX10_init_428_b.2.2.2.1
theorem dX10_init_436 : decode cX10_init 436 = .ok (.bipush 60, 2) := dX10_init_428_b.2.2.2.2.1
theorem dX10_init_438 : decode cX10_init 438 = .ok (.newarray .int, 2) := dX10_init_428_b.2.2.2.2.2
set_option maxRecDepth 20000 in
theorem dX10_init_440_b : (decode cX10_init 440 = .ok (.putfield 158, 3)) ∧ (decode cX10_init 443 = .ok (.aload_n 0, 1)) ∧ (decode cX10_init 444 = .ok (.bipush 60, 2)) ∧ (decode cX10_init 446 = .ok (.newarray .int, 2)) ∧ (decode cX10_init 448 = .ok (.putfield 161, 3)) ∧ (decode cX10_init 451 = .ok (.aload_n 0, 1)) := by decide +kernel
theorem dX10_init_440 : decode cX10_init 440 = .ok (.putfield 158, 3) := dX10_init_440_b.1
theorem dX10_init_443 : decode cX10_init 443 = .ok (.aload_n 0, 1) := dX10_init_440_b.2.1
theorem dX10_init_444 : decode cX10_init 444 = .ok (.bipush 60, 2) := dX10_init_440_b.2.2.1
theorem dX10_init_446 : decode cX10_init 446 = .ok (.newarray .int, 2) := dX10_init_440_b.2.2.2.1
theorem dX10_init_448 : decode cX10_init 448 = .ok (.putfield 161, 3) := dX10_init_440_b.2.2.2.2.1
theorem dX10_init_451 : decode cX10_init 451 = .ok (.aload_n 0, 1) := dX10_init_440_b.2.2.2.2.2
set_option maxRecDepth 20000 in
theorem dX10_init_452_b : (decode cX10_init 452 = .ok (.iconst 3, 1)) ∧ (decode cX10_init 453 = .ok (.newarray .int, 2)) ∧ (decode cX10_init 455 = .ok (.putfield 164, 3)) ∧ (decode cX10_init 458 = .ok (.aload_n 0, 1)) ∧ (decode cX10_init 459 = .ok (.iconst 0, 1)) ∧ (decode cX10_init 460 = .ok (.invokevirtual 167, 3)) := by decide +kernel
theorem dX10_init_452 : decode cX10_init 452 = .ok (.iconst 3, 1) := dX10_init_452_b.1
theorem dX10_init_453 : decode cX10_init 453 = .ok (.newarray .int, 2) := dX10_init_452_b.2.1
theorem dX10_init_455 : decode cX10_init 455 = .ok (.putfield 164, 3) := dX10_init_452_b.2.2.1
theorem dX10_init_458 : decode cX10_init 458 = .ok (.aload_n 0, 1) := dX10_init_452_b.2.2.2.1
theorem dX10_init_459 : decode cX10_init 459 = .ok (.iconst 0, 1) := dX10_init_452_b.2.2.2.2.1
theorem dX10_init_460 : decode cX10_init 460 = .ok (.invokevirtual 167, 3) := dX10_init_452_b.2.2.2.2.2
theorem dX10_init_463 : decode cX10_init 463 = .ok (.return_, 1) := by decide +kernel
set_option maxRecDepth 20000 in
theorem dJ7_fill_53178_0_b : (decode cJ7_fill_53178 0 = .ok (.iconst 0, 1)) ∧ (decode cJ7_fill_53178 1 = .ok (.istore_n 2, 1)) ∧ (decode cJ7_fill_53178 2 = .ok (.aload_n 0, 1)) ∧ (decode cJ7_fill_53178 3 = .ok (.arraylength, 1)) ∧ (decode cJ7_fill_53178 4 = .ok (.istore_n 3, 1)) ∧ (decode cJ7_fill_53178 5 = .ok (.iload_n 2, 1)) := by decide +kernel
theorem dJ7_fill_53178_0 : decode cJ7_fill_53178 0 = .ok (.iconst 0, 1) := dJ7_fill_53178_0_b.1
theorem dJ7_fill_53178_1 : decode cJ7_fill_53178 1 = .ok (.istore_n 2, 1) := dJ7_fill_53178_0_b.2.1
theorem dJ7_fill_53178_2 : decode cJ7_fill_53178 2 = .ok (.aload_n 0, 1) := dJ7_fill_53178_0_b.2.2.1
theorem dJ7_fill_53178_3 : decode cJ7_fill_53178 3 = .ok (.arraylength, 1) := dJ7_fill_53178_0_b.2.2.2.1
theorem dJ7_fill_53178_4 : decode cJ7_fill_53178 4 = .ok (.istore_n 3, 1) := dJ7_fill_53178_0_b.2.2.2.2.1
theorem dJ7_fill_53178_5 : decode cJ7_fill_53178 5 = .ok (.iload_n 2, 1) := dJ7_fill_53178_0_b.2.2.2.2.2
set_option maxRecDepth 20000 in
theorem dJ7_fill_53178_6_b : (decode cJ7_fill_53178 6 = .ok (.iload_n 3, 1)) ∧ (decode cJ7_fill_53178 7 = .ok (.if_icmp .ge 13, 3)) ∧ (decode cJ7_fill_53178 10 = .ok (.aload_n 0, 1)) ∧ (decode cJ7_fill_53178 11 = .ok (.iload_n 2, 1)) ∧ (decode cJ7_fill_53178 12 = .ok (.iload_n 1, 1)) ∧ (decode cJ7_fill_53178 13 = .ok (.iastore, 1)) := by decide +kernel
theorem dJ7_fill_53178_6 : decode cJ7_fill_53178 6 = .ok (.iload_n 3, 1) := dJ7_fill_53178_6_b.1
theorem dJ7_fill_53178_7 : decode cJ7_fill_53178 7 = .ok (.if_icmp .ge 13, 3) := dJ7_fill_53178_6_b.2.1
theorem dJ7_fill_53178_10 : decode cJ7_fill_53178 10 = .ok (.aload_n 0, 1) := dJ7_fill_53178_6_b.2.2.1
theorem dJ7_fill_53178_11 : decode cJ7_fill_53178 11 = .ok (.iload_n 2, 1) := dJ7_fill_53178_6_b.2.2.2.1
theorem dJ7_fill_53178_12 : decode cJ7_fill_53178 12 = .ok (.iload_n 1, 1) := dJ7_fill_53178_6_b.2.2.2.2.1
theorem dJ7_fill_53178_13 : decode cJ7_fill_53178 13 = .ok (.iastore, 1) := dJ7_fill_53178_6_b.2.2.2.2.2
set_option maxRecDepth 20000 in
theorem dJ7_fill_53178_14_b : (decode cJ7_fill_53178 14 = .ok (.iinc 2 1, 3)) ∧ (decode cJ7_fill_53178 17 = .ok (.goto (-12), 3)) ∧ (decode cJ7_fill_53178 20 = .ok (.return_, 1)) := by decide +kernel
theorem dJ7_fill_53178_14 : decode cJ7_fill_53178 14 = .ok (.iinc 2 1, 3) := dJ7_fill_53178_14_b.1
theorem dJ7_fill_53178_17 : decode cJ7_fill_53178 17 = .ok (.goto (-12), 3) := dJ7_fill_53178_14_b.2.1
theorem dJ7_fill_53178_20 : decode cJ7_fill_53178 20 = .ok (.return_, 1) := dJ7_fill_53178_14_b.2.2
set_option maxRecDepth 20000 in
theorem dL_town_0_b : (decode cL_town 0 = .ok (.aload_n 2, 1)) ∧ (decode cL_town 1 = .ok (.iconst 0, 1)) ∧ (decode cL_town 2 = .ok (.aload_n 0, 1)) ∧ (decode cL_town 3 = .ok (.iload_n 1, 1)) ∧ (decode cL_town 4 = .ok (.invokevirtual 7, 3)) ∧ (decode cL_town 7 = .ok (.i2l, 1)) := by decide +kernel
theorem dL_town_0 : decode cL_town 0 = .ok (.aload_n 2, 1) := dL_town_0_b.1
theorem dL_town_1 : decode cL_town 1 = .ok (.iconst 0, 1) := dL_town_0_b.2.1
theorem dL_town_2 : decode cL_town 2 = .ok (.aload_n 0, 1) := dL_town_0_b.2.2.1
theorem dL_town_3 : decode cL_town 3 = .ok (.iload_n 1, 1) := dL_town_0_b.2.2.2.1
theorem dL_town_4 : decode cL_town 4 = .ok (.invokevirtual 7, 3) := dL_town_0_b.2.2.2.2.1
theorem dL_town_7 : decode cL_town 7 = .ok (.i2l, 1) := dL_town_0_b.2.2.2.2.2
set_option maxRecDepth 20000 in
theorem dL_town_8_b : (decode cL_town 8 = .ok (.lastore, 1)) ∧ (decode cL_town 9 = .ok (.goto 6, 3)) ∧ (decode cL_town 12 = .ok (.astore_n 3, 1)) ∧ (decode cL_town 13 = .ok (.iconst 1, 1)) ∧ (decode cL_town 14 = .ok (.ireturn, 1)) ∧ (decode cL_town 15 = .ok (.iconst 0, 1)) := by decide +kernel
theorem dL_town_8 : decode cL_town 8 = .ok (.lastore, 1) := dL_town_8_b.1
theorem dL_town_9 : decode cL_town 9 = .ok (.goto 6, 3) := dL_town_8_b.2.1
theorem dL_town_12 : decode cL_town 12 = .ok (.astore_n 3, 1) := dL_town_8_b.2.2.1
theorem dL_town_13 : decode cL_town 13 = .ok (.iconst 1, 1) := dL_town_8_b.2.2.2.1
theorem dL_town_14 : decode cL_town 14 = .ok (.ireturn, 1) := dL_town_8_b.2.2.2.2.1
theorem dL_town_15 : decode cL_town 15 = .ok (.iconst 0, 1) := dL_town_8_b.2.2.2.2.2
theorem dL_town_16 : decode cL_town 16 = .ok (.ireturn, 1) := by decide +kernel
set_option maxRecDepth 20000 in
theorem dL_count_0_b : (decode cL_count 0 = .ok (.aload_n 2, 1)) ∧ (decode cL_count 1 = .ok (.iconst 0, 1)) ∧ (decode cL_count 2 = .ok (.aload_n 0, 1)) ∧ (decode cL_count 3 = .ok (.iload_n 1, 1)) ∧ (decode cL_count 4 = .ok (.invokevirtual 15, 3)) ∧ (decode cL_count 7 = .ok (.i2l, 1)) := by decide +kernel
theorem dL_count_0 : decode cL_count 0 = .ok (.aload_n 2, 1) := dL_count_0_b.1
theorem dL_count_1 : decode cL_count 1 = .ok (.iconst 0, 1) := dL_count_0_b.2.1
theorem dL_count_2 : decode cL_count 2 = .ok (.aload_n 0, 1) := dL_count_0_b.2.2.1
theorem dL_count_3 : decode cL_count 3 = .ok (.iload_n 1, 1) := dL_count_0_b.2.2.2.1
theorem dL_count_4 : decode cL_count 4 = .ok (.invokevirtual 15, 3) := dL_count_0_b.2.2.2.2.1
theorem dL_count_7 : decode cL_count 7 = .ok (.i2l, 1) := dL_count_0_b.2.2.2.2.2
set_option maxRecDepth 20000 in
theorem dL_count_8_b : (decode cL_count 8 = .ok (.lastore, 1)) ∧ (decode cL_count 9 = .ok (.goto 6, 3)) ∧ (decode cL_count 12 = .ok (.astore_n 3, 1)) ∧ (decode cL_count 13 = .ok (.iconst 1, 1)) ∧ (decode cL_count 14 = .ok (.ireturn, 1)) ∧ (decode cL_count 15 = .ok (.iconst 0, 1)) := by decide +kernel
theorem dL_count_8 : decode cL_count 8 = .ok (.lastore, 1) := dL_count_8_b.1
theorem dL_count_9 : decode cL_count 9 = .ok (.goto 6, 3) := dL_count_8_b.2.1
theorem dL_count_12 : decode cL_count 12 = .ok (.astore_n 3, 1) := dL_count_8_b.2.2.1
theorem dL_count_13 : decode cL_count 13 = .ok (.iconst 1, 1) := dL_count_8_b.2.2.2.1
theorem dL_count_14 : decode cL_count 14 = .ok (.ireturn, 1) := dL_count_8_b.2.2.2.2.1
theorem dL_count_15 : decode cL_count 15 = .ok (.iconst 0, 1) := dL_count_8_b.2.2.2.2.2
theorem dL_count_16 : decode cL_count 16 = .ok (.ireturn, 1) := by decide +kernel
set_option maxRecDepth 20000 in
theorem dL_thing_0_b : (decode cL_thing 0 = .ok (.aload_n 3, 1)) ∧ (decode cL_thing 1 = .ok (.iconst 0, 1)) ∧ (decode cL_thing 2 = .ok (.aload_n 0, 1)) ∧ (decode cL_thing 3 = .ok (.iload_n 1, 1)) ∧ (decode cL_thing 4 = .ok (.iload_n 2, 1)) ∧ (decode cL_thing 5 = .ok (.invokevirtual 20, 3)) := by decide +kernel
theorem dL_thing_0 : decode cL_thing 0 = .ok (.aload_n 3, 1) := dL_thing_0_b.1
theorem dL_thing_1 : decode cL_thing 1 = .ok (.iconst 0, 1) := dL_thing_0_b.2.1
theorem dL_thing_2 : decode cL_thing 2 = .ok (.aload_n 0, 1) := dL_thing_0_b.2.2.1
theorem dL_thing_3 : decode cL_thing 3 = .ok (.iload_n 1, 1) := dL_thing_0_b.2.2.2.1
theorem dL_thing_4 : decode cL_thing 4 = .ok (.iload_n 2, 1) := dL_thing_0_b.2.2.2.2.1
theorem dL_thing_5 : decode cL_thing 5 = .ok (.invokevirtual 20, 3) := dL_thing_0_b.2.2.2.2.2
set_option maxRecDepth 20000 in
theorem dL_thing_8_b : (decode cL_thing 8 = .ok (.i2l, 1)) ∧ (decode cL_thing 9 = .ok (.lastore, 1)) ∧ (decode cL_thing 10 = .ok (.goto 7, 3)) ∧ (decode cL_thing 13 = .ok (.astore 4, 2)) ∧ (decode cL_thing 15 = .ok (.iconst 1, 1)) ∧ (decode cL_thing 16 = .ok (.ireturn, 1)) := by decide +kernel
theorem dL_thing_8 : decode cL_thing 8 = .ok (.i2l, 1) := dL_thing_8_b.1
theorem dL_thing_9 : decode cL_thing 9 = .ok (.lastore, 1) := dL_thing_8_b.2.1
theorem dL_thing_10 : decode cL_thing 10 = .ok (.goto 7, 3) := dL_thing_8_b.2.2.1
theorem dL_thing_13 : decode cL_thing 13 = .ok (.astore 4, 2) := dL_thing_8_b.2.2.2.1
theorem dL_thing_15 : decode cL_thing 15 = .ok (.iconst 1, 1) := dL_thing_8_b.2.2.2.2.1
theorem dL_thing_16 : decode cL_thing 16 = .ok (.ireturn, 1) := dL_thing_8_b.2.2.2.2.2
set_option maxRecDepth 20000 in
theorem dL_thing_17_b : (decode cL_thing 17 = .ok (.iconst 0, 1)) ∧ (decode cL_thing 18 = .ok (.ireturn, 1)) := by decide +kernel
theorem dL_thing_17 : decode cL_thing 17 = .ok (.iconst 0, 1) := dL_thing_17_b.1
theorem dL_thing_18 : decode cL_thing 18 = .ok (.ireturn, 1) := dL_thing_17_b.2
set_option maxRecDepth 20000 in
theorem dL_bucket_0_b : (decode cL_bucket 0 = .ok (.aload_n 3, 1)) ∧ (decode cL_bucket 1 = .ok (.iconst 0, 1)) ∧ (decode cL_bucket 2 = .ok (.aload_n 0, 1)) ∧ (decode cL_bucket 3 = .ok (.iload_n 1, 1)) ∧ (decode cL_bucket 4 = .ok (.iload_n 2, 1)) ∧ (decode cL_bucket 5 = .ok (.invokevirtual 24, 3)) := by decide +kernel
theorem dL_bucket_0 : decode cL_bucket 0 = .ok (.aload_n 3, 1) := dL_bucket_0_b.1
theorem dL_bucket_1 : decode cL_bucket 1 = .ok (.iconst 0, 1) := dL_bucket_0_b.2.1
theorem dL_bucket_2 : decode cL_bucket 2 = .ok (.aload_n 0, 1) := dL_bucket_0_b.2.2.1
theorem dL_bucket_3 : decode cL_bucket 3 = .ok (.iload_n 1, 1) := dL_bucket_0_b.2.2.2.1
theorem dL_bucket_4 : decode cL_bucket 4 = .ok (.iload_n 2, 1) := dL_bucket_0_b.2.2.2.2.1
theorem dL_bucket_5 : decode cL_bucket 5 = .ok (.invokevirtual 24, 3) := dL_bucket_0_b.2.2.2.2.2
set_option maxRecDepth 20000 in
theorem dL_bucket_8_b : (decode cL_bucket 8 = .ok (.i2l, 1)) ∧ (decode cL_bucket 9 = .ok (.lastore, 1)) ∧ (decode cL_bucket 10 = .ok (.goto 7, 3)) ∧ (decode cL_bucket 13 = .ok (.astore 4, 2)) ∧ (decode cL_bucket 15 = .ok (.iconst 1, 1)) ∧ (decode cL_bucket 16 = .ok (.ireturn, 1)) := by decide +kernel
theorem dL_bucket_8 : decode cL_bucket 8 = .ok (.i2l, 1) := dL_bucket_8_b.1
theorem dL_bucket_9 : decode cL_bucket 9 = .ok (.lastore, 1) := dL_bucket_8_b.2.1
theorem dL_bucket_10 : decode cL_bucket 10 = .ok (.goto 7, 3) := dL_bucket_8_b.2.2.1
theorem dL_bucket_13 : decode cL_bucket 13 = .ok (.astore 4, 2) := dL_bucket_8_b.2.2.2.1
theorem dL_bucket_15 : decode cL_bucket 15 = .ok (.iconst 1, 1) := dL_bucket_8_b.2.2.2.2.1
theorem dL_bucket_16 : decode cL_bucket 16 = .ok (.ireturn, 1) := dL_bucket_8_b.2.2.2.2.2
set_option maxRecDepth 20000 in
theorem dL_bucket_17_b : (decode cL_bucket 17 = .ok (.iconst 0, 1)) ∧ (decode cL_bucket 18 = .ok (.ireturn, 1)) := by decide +kernel
theorem dL_bucket_17 : decode cL_bucket 17 = .ok (.iconst 0, 1) := dL_bucket_17_b.1
theorem dL_bucket_18 : decode cL_bucket 18 = .ok (.ireturn, 1) := dL_bucket_17_b.2
set_option maxRecDepth 20000 in
theorem dL_moved_0_b : (decode cL_moved 0 = .ok (.aload_n 3, 1)) ∧ (decode cL_moved 1 = .ok (.iconst 0, 1)) ∧ (decode cL_moved 2 = .ok (.aload_n 0, 1)) ∧ (decode cL_moved 3 = .ok (.iload_n 1, 1)) ∧ (decode cL_moved 4 = .ok (.iload_n 2, 1)) ∧ (decode cL_moved 5 = .ok (.invokevirtual 27, 3)) := by decide +kernel
theorem dL_moved_0 : decode cL_moved 0 = .ok (.aload_n 3, 1) := dL_moved_0_b.1
theorem dL_moved_1 : decode cL_moved 1 = .ok (.iconst 0, 1) := dL_moved_0_b.2.1
theorem dL_moved_2 : decode cL_moved 2 = .ok (.aload_n 0, 1) := dL_moved_0_b.2.2.1
theorem dL_moved_3 : decode cL_moved 3 = .ok (.iload_n 1, 1) := dL_moved_0_b.2.2.2.1
theorem dL_moved_4 : decode cL_moved 4 = .ok (.iload_n 2, 1) := dL_moved_0_b.2.2.2.2.1
theorem dL_moved_5 : decode cL_moved 5 = .ok (.invokevirtual 27, 3) := dL_moved_0_b.2.2.2.2.2
set_option maxRecDepth 20000 in
theorem dL_moved_8_b : (decode cL_moved 8 = .ok (.i2l, 1)) ∧ (decode cL_moved 9 = .ok (.lastore, 1)) ∧ (decode cL_moved 10 = .ok (.goto 7, 3)) ∧ (decode cL_moved 13 = .ok (.astore 4, 2)) ∧ (decode cL_moved 15 = .ok (.iconst 1, 1)) ∧ (decode cL_moved 16 = .ok (.ireturn, 1)) := by decide +kernel
theorem dL_moved_8 : decode cL_moved 8 = .ok (.i2l, 1) := dL_moved_8_b.1
theorem dL_moved_9 : decode cL_moved 9 = .ok (.lastore, 1) := dL_moved_8_b.2.1
theorem dL_moved_10 : decode cL_moved 10 = .ok (.goto 7, 3) := dL_moved_8_b.2.2.1
theorem dL_moved_13 : decode cL_moved 13 = .ok (.astore 4, 2) := dL_moved_8_b.2.2.2.1
theorem dL_moved_15 : decode cL_moved 15 = .ok (.iconst 1, 1) := dL_moved_8_b.2.2.2.2.1
theorem dL_moved_16 : decode cL_moved 16 = .ok (.ireturn, 1) := dL_moved_8_b.2.2.2.2.2
set_option maxRecDepth 20000 in
theorem dL_moved_17_b : (decode cL_moved 17 = .ok (.iconst 0, 1)) ∧ (decode cL_moved 18 = .ok (.ireturn, 1)) := by decide +kernel
theorem dL_moved_17 : decode cL_moved 17 = .ok (.iconst 0, 1) := dL_moved_17_b.1
theorem dL_moved_18 : decode cL_moved 18 = .ok (.ireturn, 1) := dL_moved_17_b.2
set_option maxRecDepth 20000 in
theorem dL_fewest_0_b : (decode cL_fewest 0 = .ok (.aload_n 2, 1)) ∧ (decode cL_fewest 1 = .ok (.iconst 0, 1)) ∧ (decode cL_fewest 2 = .ok (.aload_n 0, 1)) ∧ (decode cL_fewest 3 = .ok (.iload_n 1, 1)) ∧ (decode cL_fewest 4 = .ok (.invokevirtual 30, 3)) ∧ (decode cL_fewest 7 = .ok (.i2l, 1)) := by decide +kernel
theorem dL_fewest_0 : decode cL_fewest 0 = .ok (.aload_n 2, 1) := dL_fewest_0_b.1
theorem dL_fewest_1 : decode cL_fewest 1 = .ok (.iconst 0, 1) := dL_fewest_0_b.2.1
theorem dL_fewest_2 : decode cL_fewest 2 = .ok (.aload_n 0, 1) := dL_fewest_0_b.2.2.1
theorem dL_fewest_3 : decode cL_fewest 3 = .ok (.iload_n 1, 1) := dL_fewest_0_b.2.2.2.1
theorem dL_fewest_4 : decode cL_fewest 4 = .ok (.invokevirtual 30, 3) := dL_fewest_0_b.2.2.2.2.1
theorem dL_fewest_7 : decode cL_fewest 7 = .ok (.i2l, 1) := dL_fewest_0_b.2.2.2.2.2
set_option maxRecDepth 20000 in
theorem dL_fewest_8_b : (decode cL_fewest 8 = .ok (.lastore, 1)) ∧ (decode cL_fewest 9 = .ok (.goto 6, 3)) ∧ (decode cL_fewest 12 = .ok (.astore_n 3, 1)) ∧ (decode cL_fewest 13 = .ok (.iconst 1, 1)) ∧ (decode cL_fewest 14 = .ok (.ireturn, 1)) ∧ (decode cL_fewest 15 = .ok (.iconst 0, 1)) := by decide +kernel
theorem dL_fewest_8 : decode cL_fewest 8 = .ok (.lastore, 1) := dL_fewest_8_b.1
theorem dL_fewest_9 : decode cL_fewest 9 = .ok (.goto 6, 3) := dL_fewest_8_b.2.1
theorem dL_fewest_12 : decode cL_fewest 12 = .ok (.astore_n 3, 1) := dL_fewest_8_b.2.2.1
theorem dL_fewest_13 : decode cL_fewest 13 = .ok (.iconst 1, 1) := dL_fewest_8_b.2.2.2.1
theorem dL_fewest_14 : decode cL_fewest 14 = .ok (.ireturn, 1) := dL_fewest_8_b.2.2.2.2.1
theorem dL_fewest_15 : decode cL_fewest 15 = .ok (.iconst 0, 1) := dL_fewest_8_b.2.2.2.2.2
theorem dL_fewest_16 : decode cL_fewest 16 = .ok (.ireturn, 1) := by decide +kernel
set_option maxRecDepth 20000 in
theorem dL_reach_0_b : (decode cL_reach 0 = .ok (.aload_n 2, 1)) ∧ (decode cL_reach 1 = .ok (.iconst 0, 1)) ∧ (decode cL_reach 2 = .ok (.aload_n 0, 1)) ∧ (decode cL_reach 3 = .ok (.iload_n 1, 1)) ∧ (decode cL_reach 4 = .ok (.invokevirtual 33, 3)) ∧ (decode cL_reach 7 = .ok (.i2l, 1)) := by decide +kernel
theorem dL_reach_0 : decode cL_reach 0 = .ok (.aload_n 2, 1) := dL_reach_0_b.1
theorem dL_reach_1 : decode cL_reach 1 = .ok (.iconst 0, 1) := dL_reach_0_b.2.1
theorem dL_reach_2 : decode cL_reach 2 = .ok (.aload_n 0, 1) := dL_reach_0_b.2.2.1
theorem dL_reach_3 : decode cL_reach 3 = .ok (.iload_n 1, 1) := dL_reach_0_b.2.2.2.1
theorem dL_reach_4 : decode cL_reach 4 = .ok (.invokevirtual 33, 3) := dL_reach_0_b.2.2.2.2.1
theorem dL_reach_7 : decode cL_reach 7 = .ok (.i2l, 1) := dL_reach_0_b.2.2.2.2.2
set_option maxRecDepth 20000 in
theorem dL_reach_8_b : (decode cL_reach 8 = .ok (.lastore, 1)) ∧ (decode cL_reach 9 = .ok (.goto 6, 3)) ∧ (decode cL_reach 12 = .ok (.astore_n 3, 1)) ∧ (decode cL_reach 13 = .ok (.iconst 1, 1)) ∧ (decode cL_reach 14 = .ok (.ireturn, 1)) ∧ (decode cL_reach 15 = .ok (.iconst 0, 1)) := by decide +kernel
theorem dL_reach_8 : decode cL_reach 8 = .ok (.lastore, 1) := dL_reach_8_b.1
theorem dL_reach_9 : decode cL_reach 9 = .ok (.goto 6, 3) := dL_reach_8_b.2.1
theorem dL_reach_12 : decode cL_reach 12 = .ok (.astore_n 3, 1) := dL_reach_8_b.2.2.1
theorem dL_reach_13 : decode cL_reach 13 = .ok (.iconst 1, 1) := dL_reach_8_b.2.2.2.1
theorem dL_reach_14 : decode cL_reach 14 = .ok (.ireturn, 1) := dL_reach_8_b.2.2.2.2.1
theorem dL_reach_15 : decode cL_reach 15 = .ok (.iconst 0, 1) := dL_reach_8_b.2.2.2.2.2
theorem dL_reach_16 : decode cL_reach 16 = .ok (.ireturn, 1) := by decide +kernel
set_option maxRecDepth 20000 in
theorem dL_bars_0_b : (decode cL_bars 0 = .ok (.aload_n 3, 1)) ∧ (decode cL_bars 1 = .ok (.iconst 0, 1)) ∧ (decode cL_bars 2 = .ok (.aload_n 0, 1)) ∧ (decode cL_bars 3 = .ok (.iload_n 1, 1)) ∧ (decode cL_bars 4 = .ok (.iload_n 2, 1)) ∧ (decode cL_bars 5 = .ok (.invokevirtual 36, 3)) := by decide +kernel
theorem dL_bars_0 : decode cL_bars 0 = .ok (.aload_n 3, 1) := dL_bars_0_b.1
theorem dL_bars_1 : decode cL_bars 1 = .ok (.iconst 0, 1) := dL_bars_0_b.2.1
theorem dL_bars_2 : decode cL_bars 2 = .ok (.aload_n 0, 1) := dL_bars_0_b.2.2.1
theorem dL_bars_3 : decode cL_bars 3 = .ok (.iload_n 1, 1) := dL_bars_0_b.2.2.2.1
theorem dL_bars_4 : decode cL_bars 4 = .ok (.iload_n 2, 1) := dL_bars_0_b.2.2.2.2.1
theorem dL_bars_5 : decode cL_bars 5 = .ok (.invokevirtual 36, 3) := dL_bars_0_b.2.2.2.2.2
set_option maxRecDepth 20000 in
theorem dL_bars_8_b : (decode cL_bars 8 = .ok (.i2l, 1)) ∧ (decode cL_bars 9 = .ok (.lastore, 1)) ∧ (decode cL_bars 10 = .ok (.goto 7, 3)) ∧ (decode cL_bars 13 = .ok (.astore 4, 2)) ∧ (decode cL_bars 15 = .ok (.iconst 1, 1)) ∧ (decode cL_bars 16 = .ok (.ireturn, 1)) := by decide +kernel
theorem dL_bars_8 : decode cL_bars 8 = .ok (.i2l, 1) := dL_bars_8_b.1
theorem dL_bars_9 : decode cL_bars 9 = .ok (.lastore, 1) := dL_bars_8_b.2.1
theorem dL_bars_10 : decode cL_bars 10 = .ok (.goto 7, 3) := dL_bars_8_b.2.2.1
theorem dL_bars_13 : decode cL_bars 13 = .ok (.astore 4, 2) := dL_bars_8_b.2.2.2.1
theorem dL_bars_15 : decode cL_bars 15 = .ok (.iconst 1, 1) := dL_bars_8_b.2.2.2.2.1
theorem dL_bars_16 : decode cL_bars 16 = .ok (.ireturn, 1) := dL_bars_8_b.2.2.2.2.2
set_option maxRecDepth 20000 in
theorem dL_bars_17_b : (decode cL_bars 17 = .ok (.iconst 0, 1)) ∧ (decode cL_bars 18 = .ok (.ireturn, 1)) := by decide +kernel
theorem dL_bars_17 : decode cL_bars 17 = .ok (.iconst 0, 1) := dL_bars_17_b.1
theorem dL_bars_18 : decode cL_bars 18 = .ok (.ireturn, 1) := dL_bars_17_b.2
set_option maxRecDepth 20000 in
theorem dL_enough_0_b : (decode cL_enough 0 = .ok (.aload_n 2, 1)) ∧ (decode cL_enough 1 = .ok (.iconst 0, 1)) ∧ (decode cL_enough 2 = .ok (.aload_n 0, 1)) ∧ (decode cL_enough 3 = .ok (.iload_n 1, 1)) ∧ (decode cL_enough 4 = .ok (.invokevirtual 39, 3)) ∧ (decode cL_enough 7 = .ok (.i2l, 1)) := by decide +kernel
theorem dL_enough_0 : decode cL_enough 0 = .ok (.aload_n 2, 1) := dL_enough_0_b.1
theorem dL_enough_1 : decode cL_enough 1 = .ok (.iconst 0, 1) := dL_enough_0_b.2.1
theorem dL_enough_2 : decode cL_enough 2 = .ok (.aload_n 0, 1) := dL_enough_0_b.2.2.1
theorem dL_enough_3 : decode cL_enough 3 = .ok (.iload_n 1, 1) := dL_enough_0_b.2.2.2.1
theorem dL_enough_4 : decode cL_enough 4 = .ok (.invokevirtual 39, 3) := dL_enough_0_b.2.2.2.2.1
theorem dL_enough_7 : decode cL_enough 7 = .ok (.i2l, 1) := dL_enough_0_b.2.2.2.2.2
set_option maxRecDepth 20000 in
theorem dL_enough_8_b : (decode cL_enough 8 = .ok (.lastore, 1)) ∧ (decode cL_enough 9 = .ok (.goto 6, 3)) ∧ (decode cL_enough 12 = .ok (.astore_n 3, 1)) ∧ (decode cL_enough 13 = .ok (.iconst 1, 1)) ∧ (decode cL_enough 14 = .ok (.ireturn, 1)) ∧ (decode cL_enough 15 = .ok (.iconst 0, 1)) := by decide +kernel
theorem dL_enough_8 : decode cL_enough 8 = .ok (.lastore, 1) := dL_enough_8_b.1
theorem dL_enough_9 : decode cL_enough 9 = .ok (.goto 6, 3) := dL_enough_8_b.2.1
theorem dL_enough_12 : decode cL_enough 12 = .ok (.astore_n 3, 1) := dL_enough_8_b.2.2.1
theorem dL_enough_13 : decode cL_enough 13 = .ok (.iconst 1, 1) := dL_enough_8_b.2.2.2.1
theorem dL_enough_14 : decode cL_enough 14 = .ok (.ireturn, 1) := dL_enough_8_b.2.2.2.2.1
theorem dL_enough_15 : decode cL_enough 15 = .ok (.iconst 0, 1) := dL_enough_8_b.2.2.2.2.2
theorem dL_enough_16 : decode cL_enough 16 = .ok (.ireturn, 1) := by decide +kernel
