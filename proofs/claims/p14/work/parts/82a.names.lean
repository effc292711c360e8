set_option maxRecDepth 20000 in
theorem dX1_init_0_b : (decode cX1_init 0 = .ok (.aload_n 0, 1)) ∧ (decode cX1_init 1 = .ok (.invokespecial 3, 3)) ∧ (decode cX1_init 4 = .ok (.aload_n 0, 1)) ∧ (decode cX1_init 5 = .ok (.bipush 60, 2)) ∧ (decode cX1_init 7 = .ok (.newarray .int, 2)) ∧ (decode cX1_init 9 = .ok (.putfield 9, 3)) := by decide +kernel
theorem dX1_init_0 : decode cX1_init 0 = .ok (.aload_n 0, 1) := dX1_init_0_b.1
theorem dX1_init_1 : decode cX1_init 1 = .ok (.invokespecial 3, 3) := dX1_init_0_b.2.1
theorem dX1_init_4 : decode cX1_init 4 = .ok (.aload_n 0, 1) := dX1_init_0_b.2.2.1
theorem dX1_init_5 : decode cX1_init 5 = .ok (.bipush 60, 2) := dX1_init_0_b.2.2.2.1
theorem dX1_init_7 : decode cX1_init 7 = .ok (.newarray .int, 2) := dX1_init_0_b.2.2.2.2.1
theorem dX1_init_9 : decode cX1_init 9 = .ok (.putfield 9, 3) := dX1_init_0_b.2.2.2.2.2
set_option maxRecDepth 20000 in
theorem dX1_init_12_b : (decode cX1_init 12 = .ok (.aload_n 0, 1)) ∧ (decode cX1_init 13 = .ok (.bipush 60, 2)) ∧ (decode cX1_init 15 = .ok (.newarray .int, 2)) ∧ (decode cX1_init 17 = .ok (.putfield 15, 3)) ∧ (decode cX1_init 20 = .ok (.aload_n 0, 1)) ∧ (decode cX1_init 21 = .ok (.bipush 60, 2)) := by decide +kernel
theorem dX1_init_12 : decode cX1_init 12 = .ok (.aload_n 0, 1) := dX1_init_12_b.1
theorem dX1_init_13 : decode cX1_init 13 = .ok (.bipush 60, 2) := dX1_init_12_b.2.1
theorem dX1_init_15 : decode cX1_init 15 = .ok (.newarray .int, 2) := dX1_init_12_b.2.2.1
theorem dX1_init_17 : decode cX1_init 17 = .ok (.putfield 15, 3) := dX1_init_12_b.2.2.2.1
theorem dX1_init_20 : decode cX1_init 20 = .ok (.aload_n 0, 1) := dX1_init_12_b.2.2.2.2.1
theorem dX1_init_21 : decode cX1_init 21 = .ok (.bipush 60, 2) := dX1_init_12_b.2.2.2.2.2
set_option maxRecDepth 20000 in
theorem dX1_init_23_b : (decode cX1_init 23 = .ok (.newarray .int, 2)) ∧ (decode cX1_init 25 = .ok (.putfield 18, 3)) ∧ (decode cX1_init 28 = .ok (.aload_n 0, 1)) ∧ (decode cX1_init 29 = .ok (.bipush 60, 2)) ∧ (decode cX1_init 31 = .ok (.newarray .int, 2)) ∧ (decode cX1_init 33 = .ok (.putfield 21, 3)) := by decide +kernel
theorem dX1_init_23 : decode cX1_init 23 = .ok (.newarray .int, 2) := dX1_init_23_b.1
theorem dX1_init_25 : decode cX1_init 25 = .ok (.putfield 18, 3) := dX1_init_23_b.2.1
theorem dX1_init_28 : decode cX1_init 28 = .ok (.aload_n 0, 1) := dX1_init_23_b.2.2.1
theorem dX1_init_29 : decode cX1_init 29 = .ok (.bipush 60, 2) := dX1_init_23_b.2.2.2.1
theorem dX1_init_31 : decode cX1_init 31 = .ok (.newarray .int, 2) := dX1_init_23_b.2.2.2.2.1
theorem dX1_init_33 : decode cX1_init 33 = .ok (.putfield 21, 3) := dX1_init_23_b.2.2.2.2.2
set_option maxRecDepth 20000 in
theorem dX1_init_36_b : (decode cX1_init 36 = .ok (.aload_n 0, 1)) ∧ (decode cX1_init 37 = .ok (.bipush 60, 2)) ∧ (decode cX1_init 39 = .ok (.newarray .int, 2)) ∧ (decode cX1_init 41 = .ok (.putfield 24, 3)) ∧ (decode cX1_init 44 = .ok (.aload_n 0, 1)) ∧ (decode cX1_init 45 = .ok (.bipush 6, 2)) := by decide +kernel
theorem dX1_init_36 : decode cX1_init 36 = .ok (.aload_n 0, 1) := dX1_init_36_b.1
theorem dX1_init_37 : decode cX1_init 37 = .ok (.bipush 60, 2) := dX1_init_36_b.2.1
theorem dX1_init_39 : decode cX1_init 39 = .ok (.newarray .int, 2) := dX1_init_36_b.2.2.1
theorem dX1_init_41 : decode cX1_init 41 = .ok (.putfield 24, 3) := dX1_init_36_b.2.2.2.1
theorem dX1_init_44 : decode cX1_init 44 = .ok (.aload_n 0, 1) := dX1_init_36_b.2.2.2.2.1
theorem dX1_init_45 : decode cX1_init 45 = .ok (.bipush 6, 2) := dX1_init_36_b.2.2.2.2.2
set_option maxRecDepth 20000 in
theorem dX1_init_47_b : (decode cX1_init 47 = .ok (.newarray .int, 2)) ∧ (decode cX1_init 49 = .ok (.putfield 27, 3)) ∧ (decode cX1_init 52 = .ok (.aload_n 0, 1)) ∧ (decode cX1_init 53 = .ok (.iconst 3, 1)) ∧ (decode cX1_init 54 = .ok (.newarray .int, 2)) ∧ (decode cX1_init 56 = .ok (.putfield 30, 3)) := by decide +kernel
theorem dX1_init_47 : decode cX1_init 47 = .ok (.newarray .int, 2) := dX1_init_47_b.1
theorem dX1_init_49 : decode cX1_init 49 = .ok (.putfield 27, 3) := dX1_init_47_b.2.1
theorem dX1_init_52 : decode cX1_init 52 = .ok (.aload_n 0, 1) := dX1_init_47_b.2.2.1
theorem dX1_init_53 : decode cX1_init 53 = .ok (.iconst 3, 1) := dX1_init_47_b.2.2.2.1
theorem dX1_init_54 : decode cX1_init 54 = .ok (.newarray .int, 2) := dX1_init_47_b.2.2.2.2.1
theorem dX1_init_56 : decode cX1_init 56 = .ok (.putfield 30, 3) := dX1_init_47_b.2.2.2.2.2
theorem dX1_init_59 : decode cX1_init 59 = .ok (.return_, 1) := by decide +kernel
set_option maxRecDepth 20000 in
theorem dX2_init_0_b : (decode cX2_init 0 = .ok (.aload_n 0, 1)) ∧ (decode cX2_init 1 = .ok (.invokespecial 3, 3)) ∧ (decode cX2_init 4 = .ok (.aload_n 0, 1)) ∧ (decode cX2_init 5 = .ok (.new 9, 3)) ∧ (decode cX2_init 8 = .ok (.dup, 1)) ∧ (decode cX2_init 9 = .ok (.invokespecial 11, 3)) := by decide +kernel
theorem dX2_init_0 : decode cX2_init 0 = .ok (.aload_n 0, 1) := dX2_init_0_b.1
theorem dX2_init_1 : decode cX2_init 1 = .ok (.invokespecial 3, 3) := dX2_init_0_b.2.1
theorem dX2_init_4 : decode cX2_init 4 = .ok (.aload_n 0, 1) := dX2_init_0_b.2.2.1
theorem dX2_init_5 : decode cX2_init 5 = .ok (.new 9, 3) := dX2_init_0_b.2.2.2.1
theorem dX2_init_8 : decode cX2_init 8 = .ok (.dup, 1) := dX2_init_0_b.2.2.2.2.1
theorem dX2_init_9 : decode cX2_init 9 = .ok (.invokespecial 11, 3) := dX2_init_0_b.2.2.2.2.2
set_option maxRecDepth 20000 in
theorem dX2_init_12_b : (decode cX2_init 12 = .ok (.putfield 12, 3)) ∧ (decode cX2_init 15 = .ok (.aload_n 0, 1)) ∧ (decode cX2_init 16 = .ok (.aload_n 1, 1)) ∧ (decode cX2_init 17 = .ok (.putfield 18, 3)) ∧ (decode cX2_init 20 = .ok (.aload_n 0, 1)) ∧ (decode cX2_init 21 = .ok (.iconst 0, 1)) := by decide +kernel
theorem dX2_init_12 : decode cX2_init 12 = .ok (.putfield 12, 3) := dX2_init_12_b.1
theorem dX2_init_15 : decode cX2_init 15 = .ok (.aload_n 0, 1) := dX2_init_12_b.2.1
theorem dX2_init_16 : decode cX2_init 16 = .ok (.aload_n 1, 1) := dX2_init_12_b.2.2.1
theorem dX2_init_17 : decode cX2_init 17 = .ok (.putfield 18, 3) := dX2_init_12_b.2.2.2.1
theorem dX2_init_20 : decode cX2_init 20 = .ok (.aload_n 0, 1) := dX2_init_12_b.2.2.2.2.1
theorem dX2_init_21 : decode cX2_init 21 = .ok (.iconst 0, 1) := dX2_init_12_b.2.2.2.2.2
set_option maxRecDepth 20000 in
theorem dX2_init_22_b : (decode cX2_init 22 = .ok (.putfield 22, 3)) ∧ (decode cX2_init 25 = .ok (.aload_n 0, 1)) ∧ (decode cX2_init 26 = .ok (.iconst 0, 1)) ∧ (decode cX2_init 27 = .ok (.putfield 26, 3)) ∧ (decode cX2_init 30 = .ok (.aload_n 0, 1)) ∧ (decode cX2_init 31 = .ok (.iconst (-1), 1)) := by decide +kernel
theorem dX2_init_22 : decode cX2_init 22 = .ok (.putfield 22, 3) := dX2_init_22_b.1
theorem dX2_init_25 : decode cX2_init 25 = .ok (.aload_n 0, 1) := dX2_init_22_b.2.1
theorem dX2_init_26 : decode cX2_init 26 = .ok (.iconst 0, 1) := dX2_init_22_b.2.2.1
theorem dX2_init_27 : decode cX2_init 27 = .ok (.putfield 26, 3) := dX2_init_22_b.2.2.2.1
theorem dX2_init_30 : decode cX2_init 30 = .ok (.aload_n 0, 1) := dX2_init_22_b.2.2.2.2.1
theorem dX2_init_31 : decode cX2_init 31 = .ok (.iconst (-1), 1) := dX2_init_22_b.2.2.2.2.2
set_option maxRecDepth 20000 in
theorem dX2_init_32_b : (decode cX2_init 32 = .ok (.putfield 29, 3)) ∧ (decode cX2_init 35 = .ok (.return_, 1)) := by decide +kernel
theorem dX2_init_32 : decode cX2_init 32 = .ok (.putfield 29, 3) := dX2_init_32_b.1
theorem dX2_init_35 : decode cX2_init 35 = .ok (.return_, 1) := dX2_init_32_b.2
set_option maxRecDepth 20000 in
theorem dX3_init_0_b : (decode cX3_init 0 = .ok (.aload_n 0, 1)) ∧ (decode cX3_init 1 = .ok (.invokespecial 3, 3)) ∧ (decode cX3_init 4 = .ok (.aload_n 0, 1)) ∧ (decode cX3_init 5 = .ok (.bipush 7, 2)) ∧ (decode cX3_init 7 = .ok (.newarray .int, 2)) ∧ (decode cX3_init 9 = .ok (.putfield 9, 3)) := by decide +kernel
theorem dX3_init_0 : decode cX3_init 0 = .ok (.aload_n 0, 1) := dX3_init_0_b.1
theorem dX3_init_1 : decode cX3_init 1 = .ok (.invokespecial 3, 3) := dX3_init_0_b.2.1
theorem dX3_init_4 : decode cX3_init 4 = .ok (.aload_n 0, 1) := dX3_init_0_b.2.2.1
theorem dX3_init_5 : decode cX3_init 5 = .ok (.bipush 7, 2) := dX3_init_0_b.2.2.2.1
theorem dX3_init_7 : decode cX3_init 7 = .ok (.newarray .int, 2) := dX3_init_0_b.2.2.2.2.1
theorem dX3_init_9 : decode cX3_init 9 = .ok (.putfield 9, 3) := dX3_init_0_b.2.2.2.2.2
set_option maxRecDepth 20000 in
theorem dX3_init_12_b : (decode cX3_init 12 = .ok (.aload_n 0, 1)) ∧ (decode cX3_init 13 = .ok (.bipush 7, 2)) ∧ (decode cX3_init 15 = .ok (.newarray .int, 2)) ∧ (decode cX3_init 17 = .ok (.putfield 15, 3)) ∧ (decode cX3_init 20 = .ok (.aload_n 0, 1)) ∧ (decode cX3_init 21 = .ok (.bipush 7, 2)) := by decide +kernel
theorem dX3_init_12 : decode cX3_init 12 = .ok (.aload_n 0, 1) := dX3_init_12_b.1
theorem dX3_init_13 : decode cX3_init 13 = .ok (.bipush 7, 2) := dX3_init_12_b.2.1
theorem dX3_init_15 : decode cX3_init 15 = .ok (.newarray .int, 2) := dX3_init_12_b.2.2.1
theorem dX3_init_17 : decode cX3_init 17 = .ok (.putfield 15, 3) := dX3_init_12_b.2.2.2.1
theorem dX3_init_20 : decode cX3_init 20 = .ok (.aload_n 0, 1) := dX3_init_12_b.2.2.2.2.1
theorem dX3_init_21 : decode cX3_init 21 = .ok (.bipush 7, 2) := dX3_init_12_b.2.2.2.2.2
set_option maxRecDepth 20000 in
theorem dX3_init_23_b : (decode cX3_init 23 = .ok (.newarray .int, 2)) ∧ (decode cX3_init 25 = .ok (.putfield 18, 3)) ∧ (decode cX3_init 28 = .ok (.aload_n 0, 1)) ∧ (decode cX3_init 29 = .ok (.bipush 7, 2)) ∧ (decode cX3_init 31 = .ok (.newarray .int, 2)) ∧ (decode cX3_init 33 = .ok (.putfield 21, 3)) := by decide +kernel
theorem dX3_init_23 : decode cX3_init 23 = .ok (.newarray .int, 2) := dX3_init_23_b.1
theorem dX3_init_25 : decode cX3_init 25 = .ok (.putfield 18, 3) := dX3_init_23_b.2.1
theorem dX3_init_28 : decode cX3_init 28 = .ok (.aload_n 0, 1) := dX3_init_23_b.2.2.1
theorem dX3_init_29 : decode cX3_init 29 = .ok (.bipush 7, 2) := dX3_init_23_b.2.2.2.1
theorem dX3_init_31 : decode cX3_init 31 = .ok (.newarray .int, 2) := dX3_init_23_b.2.2.2.2.1
theorem dX3_init_33 : decode cX3_init 33 = .ok (.putfield 21, 3) := dX3_init_23_b.2.2.2.2.2
set_option maxRecDepth 20000 in
theorem dX3_init_36_b : (decode cX3_init 36 = .ok (.aload_n 0, 1)) ∧ (decode cX3_init 37 = .ok (.new 24, 3)) ∧ (decode cX3_init 40 = .ok (.dup, 1)) ∧ (decode cX3_init 41 = .ok (.invokespecial 26, 3)) ∧ (decode cX3_init 44 = .ok (.putfield 27, 3)) ∧ (decode cX3_init 47 = .ok (.aload_n 0, 1)) := by decide +kernel
theorem dX3_init_36 : decode cX3_init 36 = .ok (.aload_n 0, 1) := dX3_init_36_b.1
theorem dX3_init_37 : decode cX3_init 37 = .ok (.new 24, 3) := dX3_init_36_b.2.1
theorem dX3_init_40 : decode cX3_init 40 = .ok (.dup, 1) := dX3_init_36_b.2.2.1
theorem dX3_init_41 : decode cX3_init 41 = .ok (.invokespecial 26, 3) := dX3_init_36_b.2.2.2.1
theorem dX3_init_44 : decode cX3_init 44 = .ok (.putfield 27, 3) := dX3_init_36_b.2.2.2.2.1
theorem dX3_init_47 : decode cX3_init 47 = .ok (.aload_n 0, 1) := dX3_init_36_b.2.2.2.2.2
set_option maxRecDepth 20000 in
theorem dX3_init_48_b : (decode cX3_init 48 = .ok (.bipush 7, 2)) ∧ (decode cX3_init 50 = .ok (.newarray .int, 2)) ∧ (decode cX3_init 52 = .ok (.putfield 31, 3)) ∧ (decode cX3_init 55 = .ok (.aload_n 0, 1)) ∧ (decode cX3_init 56 = .ok (.invokevirtual 34, 3)) ∧ (decode cX3_init 59 = .ok (.return_, 1)) := by decide +kernel
theorem dX3_init_48 : decode cX3_init 48 = .ok (.bipush 7, 2) := dX3_init_48_b.1
theorem dX3_init_50 : decode cX3_init 50 = .ok (.newarray .int, 2) := dX3_init_48_b.2.1
theorem dX3_init_52 : decode cX3_init 52 = .ok (.putfield 31, 3) := dX3_init_48_b.2.2.1
theorem dX3_init_55 : decode cX3_init 55 = .ok (.aload_n 0, 1) := dX3_init_48_b.2.2.2.1
theorem dX3_init_56 : decode cX3_init 56 = .ok (.invokevirtual 34, 3) := dX3_init_48_b.2.2.2.2.1
theorem dX3_init_59 : decode cX3_init 59 = .ok (.return_, 1) := dX3_init_48_b.2.2.2.2.2
set_option maxRecDepth 20000 in
theorem dX4_init_0_b : (decode cX4_init 0 = .ok (.aload_n 0, 1)) ∧ (decode cX4_init 1 = .ok (.invokespecial 3, 3)) ∧ (decode cX4_init 4 = .ok (.aload_n 0, 1)) ∧ (decode cX4_init 5 = .ok (.iconst 0, 1)) ∧ (decode cX4_init 6 = .ok (.newarray .byte, 2)) ∧ (decode cX4_init 8 = .ok (.putfield 9, 3)) := by decide +kernel
theorem dX4_init_0 : decode cX4_init 0 = .ok (.aload_n 0, 1) := dX4_init_0_b.1
theorem dX4_init_1 : decode cX4_init 1 = .ok (.invokespecial 3, 3) := dX4_init_0_b.2.1
theorem dX4_init_4 : decode cX4_init 4 = .ok (.aload_n 0, 1) := dX4_init_0_b.2.2.1
theorem dX4_init_5 : decode cX4_init 5 = .ok (.iconst 0, 1) := dX4_init_0_b.2.2.2.1
theorem dX4_init_6 : decode cX4_init 6 = .ok (.newarray .byte, 2) := dX4_init_0_b.2.2.2.2.1
theorem dX4_init_8 : decode cX4_init 8 = .ok (.putfield 9, 3) := dX4_init_0_b.2.2.2.2.2
set_option maxRecDepth 20000 in
theorem dX4_init_11_b : (decode cX4_init 11 = .ok (.aload_n 0, 1)) ∧ (decode cX4_init 12 = .ok (.iconst 0, 1)) ∧ (decode cX4_init 13 = .ok (.putfield 15, 3)) ∧ (decode cX4_init 16 = .ok (.aload_n 0, 1)) ∧ (decode cX4_init 17 = .ok (.iconst 0, 1)) ∧ (decode cX4_init 18 = .ok (.putfield 19, 3)) := by decide +kernel
theorem dX4_init_11 : decode cX4_init 11 = .ok (.aload_n 0, 1) := dX4_init_11_b.1
theorem dX4_init_12 : decode cX4_init 12 = .ok (.iconst 0, 1) := dX4_init_11_b.2.1
theorem dX4_init_13 : decode cX4_init 13 = .ok (.putfield 15, 3) := dX4_init_11_b.2.2.1
theorem dX4_init_16 : decode cX4_init 16 = .ok (.aload_n 0, 1) := dX4_init_11_b.2.2.2.1
theorem dX4_init_17 : decode cX4_init 17 = .ok (.iconst 0, 1) := dX4_init_11_b.2.2.2.2.1
theorem dX4_init_18 : decode cX4_init 18 = .ok (.putfield 19, 3) := dX4_init_11_b.2.2.2.2.2
set_option maxRecDepth 20000 in
theorem dX4_init_21_b : (decode cX4_init 21 = .ok (.aload_n 0, 1)) ∧ (decode cX4_init 22 = .ok (.iconst 0, 1)) ∧ (decode cX4_init 23 = .ok (.putfield 22, 3)) ∧ (decode cX4_init 26 = .ok (.aload_n 0, 1)) ∧ (decode cX4_init 27 = .ok (.iconst 0, 1)) ∧ (decode cX4_init 28 = .ok (.putfield 25, 3)) := by decide +kernel
theorem dX4_init_21 : decode cX4_init 21 = .ok (.aload_n 0, 1) := dX4_init_21_b.1
theorem dX4_init_22 : decode cX4_init 22 = .ok (.iconst 0, 1) := dX4_init_21_b.2.1
theorem dX4_init_23 : decode cX4_init 23 = .ok (.putfield 22, 3) := dX4_init_21_b.2.2.1
theorem dX4_init_26 : decode cX4_init 26 = .ok (.aload_n 0, 1) := dX4_init_21_b.2.2.2.1
theorem dX4_init_27 : decode cX4_init 27 = .ok (.iconst 0, 1) := dX4_init_21_b.2.2.2.2.1
theorem dX4_init_28 : decode cX4_init 28 = .ok (.putfield 25, 3) := dX4_init_21_b.2.2.2.2.2
set_option maxRecDepth 20000 in
theorem dX4_init_31_b : (decode cX4_init 31 = .ok (.aload_n 0, 1)) ∧ (decode cX4_init 32 = .ok (.getstatic 28, 3)) ∧ (decode cX4_init 35 = .ok (.putfield 34, 3)) ∧ (decode cX4_init 38 = .ok (.aload_n 0, 1)) ∧ (decode cX4_init 39 = .ok (.iconst 0, 1)) ∧ (decode cX4_init 40 = .ok (.putfield 37, 3)) := by decide +kernel
theorem dX4_init_31 : decode cX4_init 31 = .ok (.aload_n 0, 1) := dX4_init_31_b.1
theorem dX4_init_32 : decode cX4_init 32 = .ok (.getstatic 28, 3) := dX4_init_31_b.2.1
theorem dX4_init_35 : decode cX4_init 35 = .ok (.putfield 34, 3) := dX4_init_31_b.2.2.1
theorem dX4_init_38 : decode cX4_init 38 = .ok (.aload_n 0, 1) := dX4_init_31_b.2.2.2.1
theorem dX4_init_39 : decode cX4_init 39 = .ok (.iconst 0, 1) := dX4_init_31_b.2.2.2.2.1
theorem dX4_init_40 : decode cX4_init 40 = .ok (.putfield 37, 3) := dX4_init_31_b.2.2.2.2.2
set_option maxRecDepth 20000 in
theorem dX4_init_43_b : (decode cX4_init 43 = .ok (.aload_n 0, 1)) ∧ (decode cX4_init 44 = .ok (.iconst 0, 1)) ∧ (decode cX4_init 45 = .ok (.putfield 40, 3)) ∧ (decode cX4_init 48 = .ok (.return_, 1)) := by decide +kernel
theorem dX4_init_43 : decode cX4_init 43 = .ok (.aload_n 0, 1) := dX4_init_43_b.1
theorem dX4_init_44 : decode cX4_init 44 = .ok (.iconst 0, 1) := dX4_init_43_b.2.1
theorem dX4_init_45 : decode cX4_init 45 = .ok (.putfield 40, 3) := dX4_init_43_b.2.2.1
theorem dX4_init_48 : decode cX4_init 48 = .ok (.return_, 1) := dX4_init_43_b.2.2.2
set_option maxRecDepth 20000 in
theorem dX5_init_0_b : (decode cX5_init 0 = .ok (.aload_n 0, 1)) ∧ (decode cX5_init 1 = .ok (.invokespecial 3, 3)) ∧ (decode cX5_init 4 = .ok (.aload_n 0, 1)) ∧ (decode cX5_init 5 = .ok (.sipush 600, 3)) ∧ (decode cX5_init 8 = .ok (.newarray .int, 2)) ∧ (decode cX5_init 10 = .ok (.putfield 9, 3)) := by decide +kernel
theorem dX5_init_0 : decode cX5_init 0 = .ok (.aload_n 0, 1) := dX5_init_0_b.1
theorem dX5_init_1 : decode cX5_init 1 = .ok (.invokespecial 3, 3) := dX5_init_0_b.2.1
theorem dX5_init_4 : decode cX5_init 4 = .ok (.aload_n 0, 1) := dX5_init_0_b.2.2.1
theorem dX5_init_5 : decode cX5_init 5 = .ok (.sipush 600, 3) := dX5_init_0_b.2.2.2.1
theorem dX5_init_8 : decode cX5_init 8 = .ok (.newarray .int, 2) := dX5_init_0_b.2.2.2.2.1
theorem dX5_init_10 : decode cX5_init 10 = .ok (.putfield 9, 3) := dX5_init_0_b.2.2.2.2.2
set_option maxRecDepth 20000 in
theorem dX5_init_13_b : (decode cX5_init 13 = .ok (.aload_n 0, 1)) ∧ (decode cX5_init 14 = .ok (.iconst 4, 1)) ∧ (decode cX5_init 15 = .ok (.newarray .int, 2)) ∧ (decode cX5_init 17 = .ok (.putfield 15, 3)) ∧ (decode cX5_init 20 = .ok (.aload_n 0, 1)) ∧ (decode cX5_init 21 = .ok (.bipush 32, 2)) := by decide +kernel
theorem dX5_init_13 : decode cX5_init 13 = .ok (.aload_n 0, 1) := dX5_init_13_b.1
theorem dX5_init_14 : decode cX5_init 14 = .ok (.iconst 4, 1) := dX5_init_13_b.2.1
theorem dX5_init_15 : decode cX5_init 15 = .ok (.newarray .int, 2) := dX5_init_13_b.2.2.1
theorem dX5_init_17 : decode cX5_init 17 = .ok (.putfield 15, 3) := dX5_init_13_b.2.2.2.1
theorem dX5_init_20 : decode cX5_init 20 = .ok (.aload_n 0, 1) := dX5_init_13_b.2.2.2.2.1
theorem dX5_init_21 : decode cX5_init 21 = .ok (.bipush 32, 2) := dX5_init_13_b.2.2.2.2.2
set_option maxRecDepth 20000 in
theorem dX5_init_23_b : (decode cX5_init 23 = .ok (.newarray .int, 2)) ∧ (decode cX5_init 25 = .ok (.putfield 18, 3)) ∧ (decode cX5_init 28 = .ok (.aload_n 0, 1)) ∧ (decode cX5_init 29 = .ok (.invokevirtual 21, 3)) ∧ (decode cX5_init 32 = .ok (.return_, 1)) := by decide +kernel
theorem dX5_init_23 : decode cX5_init 23 = .ok (.newarray .int, 2) := dX5_init_23_b.1
theorem dX5_init_25 : decode cX5_init 25 = .ok (.putfield 18, 3) := dX5_init_23_b.2.1
theorem dX5_init_28 : decode cX5_init 28 = .ok (.aload_n 0, 1) := dX5_init_23_b.2.2.1
theorem dX5_init_29 : decode cX5_init 29 = .ok (.invokevirtual 21, 3) := dX5_init_23_b.2.2.2.1
theorem dX5_init_32 : decode cX5_init 32 = .ok (.return_, 1) := dX5_init_23_b.2.2.2.2
set_option maxRecDepth 20000 in
theorem dX6_init_0_b : (decode cX6_init 0 = .ok (.aload_n 0, 1)) ∧ (decode cX6_init 1 = .ok (.invokespecial 3, 3)) ∧ (decode cX6_init 4 = .ok (.aload_n 0, 1)) ∧ (decode cX6_init 5 = .ok (.aload_n 1, 1)) ∧ (decode cX6_init 6 = .ok (.putfield 9, 3)) ∧ (decode cX6_init 9 = .ok (.aload_n 0, 1)) := by decide +kernel
theorem dX6_init_0 : decode cX6_init 0 = .ok (.aload_n 0, 1) := dX6_init_0_b.1
theorem dX6_init_1 : decode cX6_init 1 = .ok (.invokespecial 3, 3) := dX6_init_0_b.2.1
theorem dX6_init_4 : decode cX6_init 4 = .ok (.aload_n 0, 1) := dX6_init_0_b.2.2.1
theorem dX6_init_5 : decode cX6_init 5 = .ok (.aload_n 1, 1) := dX6_init_0_b.2.2.2.1
theorem dX6_init_6 : decode cX6_init 6 = .ok (.putfield 9, 3) := dX6_init_0_b.2.2.2.2.1
theorem dX6_init_9 : decode cX6_init 9 = .ok (.aload_n 0, 1) := dX6_init_0_b.2.2.2.2.2
set_option maxRecDepth 20000 in
theorem dX6_init_10_b : (decode cX6_init 10 = .ok (.iconst 0, 1)) ∧ (decode cX6_init 11 = .ok (.putfield 15, 3)) ∧ (decode cX6_init 14 = .ok (.aload_n 0, 1)) ∧ (decode cX6_init 15 = .ok (.iconst 0, 1)) ∧ (decode cX6_init 16 = .ok (.putfield 19, 3)) ∧ (decode cX6_init 19 = .ok (.aload_n 0, 1)) := by decide +kernel
theorem dX6_init_10 : decode cX6_init 10 = .ok (.iconst 0, 1) := dX6_init_10_b.1
theorem dX6_init_11 : decode cX6_init 11 = .ok (.putfield 15, 3) := dX6_init_10_b.2.1
theorem dX6_init_14 : decode cX6_init 14 = .ok (.aload_n 0, 1) := dX6_init_10_b.2.2.1
theorem dX6_init_15 : decode cX6_init 15 = .ok (.iconst 0, 1) := dX6_init_10_b.2.2.2.1
theorem dX6_init_16 : decode cX6_init 16 = .ok (.putfield 19, 3) := dX6_init_10_b.2.2.2.2.1
theorem dX6_init_19 : decode cX6_init 19 = .ok (.aload_n 0, 1) := dX6_init_10_b.2.2.2.2.2
set_option maxRecDepth 20000 in
theorem dX6_init_20_b : (decode cX6_init 20 = .ok (.iconst 0, 1)) ∧ (decode cX6_init 21 = .ok (.putfield 22, 3)) ∧ (decode cX6_init 24 = .ok (.aload_n 0, 1)) ∧ (decode cX6_init 25 = .ok (.iconst 0, 1)) ∧ (decode cX6_init 26 = .ok (.putfield 26, 3)) ∧ (decode cX6_init 29 = .ok (.aload_n 0, 1)) := by decide +kernel
theorem dX6_init_20 : decode cX6_init 20 = .ok (.iconst 0, 1) := dX6_init_20_b.1
theorem dX6_init_21 : decode cX6_init 21 = .ok (.putfield 22, 3) := dX6_init_20_b.2.1
theorem dX6_init_24 : decode cX6_init 24 = .ok (.aload_n 0, 1) := dX6_init_20_b.2.2.1
theorem dX6_init_25 : decode cX6_init 25 = .ok (.iconst 0, 1) := dX6_init_20_b.2.2.2.1
theorem dX6_init_26 : decode cX6_init 26 = .ok (.putfield 26, 3) := dX6_init_20_b.2.2.2.2.1
theorem dX6_init_29 : decode cX6_init 29 = .ok (.aload_n 0, 1) := dX6_init_20_b.2.2.2.2.2
set_option maxRecDepth 20000 in
theorem dX6_init_30_b : (decode cX6_init 30 = .ok (.iconst (-1), 1)) ∧ (decode cX6_init 31 = .ok (.putfield 29, 3)) ∧ (decode cX6_init 34 = .ok (.aload_n 0, 1)) ∧ (decode cX6_init 35 = .ok (.sipush 1500, 3)) ∧ (decode cX6_init 38 = .ok (.newarray .int, 2)) ∧ (decode cX6_init 40 = .ok (.putfield 32, 3)) := by decide +kernel
theorem dX6_init_30 : decode cX6_init 30 = .ok (.iconst (-1), 1) := dX6_init_30_b.1
theorem dX6_init_31 : decode cX6_init 31 = .ok (.putfield 29, 3) := dX6_init_30_b.2.1
theorem dX6_init_34 : decode cX6_init 34 = .ok (.aload_n 0, 1) := dX6_init_30_b.2.2.1
theorem dX6_init_35 : decode cX6_init 35 = .ok (.sipush 1500, 3) := dX6_init_30_b.2.2.2.1
theorem dX6_init_38 : decode cX6_init 38 = .ok (.newarray .int, 2) := dX6_init_30_b.2.2.2.2.1
theorem dX6_init_40 : decode cX6_init 40 = .ok (.putfield 32, 3) := dX6_init_30_b.2.2.2.2.2
set_option maxRecDepth 20000 in
theorem dX6_init_43_b : (decode cX6_init 43 = .ok (.aload_n 0, 1)) ∧ (decode cX6_init 44 = .ok (.sipush 1500, 3)) ∧ (decode cX6_init 47 = .ok (.newarray .int, 2)) ∧ (decode cX6_init 49 = .ok (.putfield 36, 3)) ∧ (decode cX6_init 52 = .ok (.aload_n 0, 1)) ∧ (decode cX6_init 53 = .ok (.sipush 1500, 3)) := by decide +kernel
theorem dX6_init_43 : decode cX6_init 43 = .ok (.aload_n 0, 1) := dX6_init_43_b.1
theorem dX6_init_44 : decode cX6_init 44 = .ok (.sipush 1500, 3) := dX6_init_43_b.2.1
theorem dX6_init_47 : decode cX6_init 47 = .ok (.newarray .int, 2) := dX6_init_43_b.2.2.1
theorem dX6_init_49 : decode cX6_init 49 = .ok (.putfield 36, 3) := dX6_init_43_b.2.2.2.1
theorem dX6_init_52 : decode cX6_init 52 = .ok (.aload_n 0, 1) := dX6_init_43_b.2.2.2.2.1
theorem dX6_init_53 : decode cX6_init 53 = .ok (.sipush 1500, 3) := dX6_init_43_b.2.2.2.2.2
set_option maxRecDepth 20000 in
theorem dX6_init_56_b : (decode cX6_init 56 = .ok (.newarray .int, 2)) ∧ (decode cX6_init 58 = .ok (.putfield 39, 3)) ∧ (decode cX6_init 61 = .ok (.aload_n 0, 1)) ∧ (decode cX6_init 62 = .ok (.sipush 1024, 3)) ∧ (decode cX6_init 65 = .ok (.newarray .int, 2)) ∧ (decode cX6_init 67 = .ok (.putfield 42, 3)) := by decide +kernel
theorem dX6_init_56 : decode cX6_init 56 = .ok (.newarray .int, 2) := dX6_init_56_b.1
theorem dX6_init_58 : decode cX6_init 58 = .ok (.putfield 39, 3) := dX6_init_56_b.2.1
theorem dX6_init_61 : decode cX6_init 61 = .ok (.aload_n 0, 1) := dX6_init_56_b.2.2.1
theorem dX6_init_62 : decode cX6_init 62 = .ok (.sipush 1024, 3) := dX6_init_56_b.2.2.2.1
theorem dX6_init_65 : decode cX6_init 65 = .ok (.newarray .int, 2) := dX6_init_56_b.2.2.2.2.1
theorem dX6_init_67 : decode cX6_init 67 = .ok (.putfield 42, 3) := dX6_init_56_b.2.2.2.2.2
set_option maxRecDepth 20000 in
theorem dX6_init_70_b : (decode cX6_init 70 = .ok (.aload_n 0, 1)) ∧ (decode cX6_init 71 = .ok (.sipush 1500, 3)) ∧ (decode cX6_init 74 = .ok (.newarray .int, 2)) ∧ (decode cX6_init 76 = .ok (.putfield 45, 3)) ∧ (decode cX6_init 79 = .ok (.aload_n 0, 1)) ∧ (decode cX6_init 80 = .ok (.sipush 1500, 3)) := by decide +kernel
theorem dX6_init_70 : decode cX6_init 70 = .ok (.aload_n 0, 1) := dX6_init_70_b.1
theorem dX6_init_71 : decode cX6_init 71 = .ok (.sipush 1500, 3) := dX6_init_70_b.2.1
theorem dX6_init_74 : decode cX6_init 74 = .ok (.newarray .int, 2) := dX6_init_70_b.2.2.1
theorem dX6_init_76 : decode cX6_init 76 = .ok (.putfield 45, 3) := dX6_init_70_b.2.2.2.1
theorem dX6_init_79 : decode cX6_init 79 = .ok (.aload_n 0, 1) := dX6_init_70_b.2.2.2.2.1
theorem dX6_init_80 : decode cX6_init 80 = .ok (.sipush 1500, 3) := dX6_init_70_b.2.2.2.2.2
set_option maxRecDepth 20000 in
theorem dX6_init_83_b : (decode cX6_init 83 = .ok (.newarray .int, 2)) ∧ (decode cX6_init 85 = .ok (.putfield 48, 3)) ∧ (decode cX6_init 88 = .ok (.aload_n 0, 1)) ∧ (decode cX6_init 89 = .ok (.sipush 1500, 3)) ∧ (decode cX6_init 92 = .ok (.newarray .int, 2)) ∧ (decode cX6_init 94 = .ok (.putfield 51, 3)) := by decide +kernel
theorem dX6_init_83 : decode cX6_init 83 = .ok (.newarray .int, 2) := dX6_init_83_b.1
theorem dX6_init_85 : decode cX6_init 85 = .ok (.putfield 48, 3) := dX6_init_83_b.2.1
theorem dX6_init_88 : decode cX6_init 88 = .ok (.aload_n 0, 1) := dX6_init_83_b.2.2.1
theorem dX6_init_89 : decode cX6_init 89 = .ok (.sipush 1500, 3) := dX6_init_83_b.2.2.2.1
theorem dX6_init_92 : decode cX6_init 92 = .ok (.newarray .int, 2) := dX6_init_83_b.2.2.2.2.1
theorem dX6_init_94 : decode cX6_init 94 = .ok (.putfield 51, 3) := dX6_init_83_b.2.2.2.2.2
set_option maxRecDepth 20000 in
theorem dX6_init_97_b : (decode cX6_init 97 = .ok (.aload_n 0, 1)) ∧ (decode cX6_init 98 = .ok (.bipush 7, 2)) ∧ (decode cX6_init 100 = .ok (.newarray .int, 2)) ∧ (decode cX6_init 102 = .ok (.putfield 54, 3)) ∧ (decode cX6_init 105 = .ok (.aload_n 0, 1)) ∧ (decode cX6_init 106 = .ok (.sipush 1641, 3)) := by decide +kernel
theorem dX6_init_97 : decode cX6_init 97 = .ok (.aload_n 0, 1) := dX6_init_97_b.1
theorem dX6_init_98 : decode cX6_init 98 = .ok (.bipush 7, 2) := dX6_init_97_b.2.1
theorem dX6_init_100 : decode cX6_init 100 = .ok (.newarray .int, 2) := dX6_init_97_b.2.2.1
theorem dX6_init_102 : decode cX6_init 102 = .ok (.putfield 54, 3) := dX6_init_97_b.2.2.2.1
theorem dX6_init_105 : decode cX6_init 105 = .ok (.aload_n 0, 1) := dX6_init_97_b.2.2.2.2.1
theorem dX6_init_106 : decode cX6_init 106 = .ok (.sipush 1641, 3) := dX6_init_97_b.2.2.2.2.2
set_option maxRecDepth 20000 in
theorem dX6_init_109_b : (decode cX6_init 109 = .ok (.newarray .int, 2)) ∧ (decode cX6_init 111 = .ok (.putfield 57, 3)) ∧ (decode cX6_init 114 = .ok (.return_, 1)) := by decide +kernel
theorem dX6_init_109 : decode cX6_init 109 = .ok (.newarray .int, 2) := dX6_init_109_b.1
theorem dX6_init_111 : decode cX6_init 111 = .ok (.putfield 57, 3) := dX6_init_109_b.2.1
theorem dX6_init_114 : decode cX6_init 114 = .ok (.return_, 1) := dX6_init_109_b.2.2
set_option maxRecDepth 20000 in
theorem dX9_init_0_b : (decode cX9_init 0 = .ok (.aload_n 0, 1)) ∧ (decode cX9_init 1 = .ok (.invokespecial 1, 3)) ∧ (decode cX9_init 4 = .ok (.aload_n 0, 1)) ∧ (decode cX9_init 5 = .ok (.sipush 600, 3)) ∧ (decode cX9_init 8 = .ok (.newarray .byte, 2)) ∧ (decode cX9_init 10 = .ok (.putfield 9, 3)) := by decide +kernel
theorem dX9_init_0 : decode cX9_init 0 = .ok (.aload_n 0, 1) := dX9_init_0_b.1
theorem dX9_init_1 : decode cX9_init 1 = .ok (.invokespecial 1, 3) := dX9_init_0_b.2.1
theorem dX9_init_4 : decode cX9_init 4 = .ok (.aload_n 0, 1) := dX9_init_0_b.2.2.1
theorem dX9_init_5 : decode cX9_init 5 = .ok (.sipush 600, 3) := dX9_init_0_b.2.2.2.1
theorem dX9_init_8 : decode cX9_init 8 = .ok (.newarray .byte, 2) := dX9_init_0_b.2.2.2.2.1
theorem dX9_init_10 : decode cX9_init 10 = .ok (.putfield 9, 3) := dX9_init_0_b.2.2.2.2.2
set_option maxRecDepth 20000 in
theorem dX9_init_13_b : (decode cX9_init 13 = .ok (.aload_n 0, 1)) ∧ (decode cX9_init 14 = .ok (.iconst 0, 1)) ∧ (decode cX9_init 15 = .ok (.putfield 13, 3)) ∧ (decode cX9_init 18 = .ok (.aload_n 0, 1)) ∧ (decode cX9_init 19 = .ok (.iconst (-1), 1)) ∧ (decode cX9_init 20 = .ok (.putfield 17, 3)) := by decide +kernel
theorem dX9_init_13 : decode cX9_init 13 = .ok (.aload_n 0, 1) := dX9_init_13_b.1
theorem dX9_init_14 : decode cX9_init 14 = .ok (.iconst 0, 1) := dX9_init_13_b.2.1
theorem dX9_init_15 : decode cX9_init 15 = .ok (.putfield 13, 3) := dX9_init_13_b.2.2.1
theorem dX9_init_18 : decode cX9_init 18 = .ok (.aload_n 0, 1) := dX9_init_13_b.2.2.2.1
theorem dX9_init_19 : decode cX9_init 19 = .ok (.iconst (-1), 1) := dX9_init_13_b.2.2.2.2.1
theorem dX9_init_20 : decode cX9_init 20 = .ok (.putfield 17, 3) := dX9_init_13_b.2.2.2.2.2
set_option maxRecDepth 20000 in
theorem dX9_init_23_b : (decode cX9_init 23 = .ok (.aload_n 0, 1)) ∧ (decode cX9_init 24 = .ok (.new 20, 3)) ∧ (decode cX9_init 27 = .ok (.dup, 1)) ∧ (decode cX9_init 28 = .ok (.invokespecial 22, 3)) ∧ (decode cX9_init 31 = .ok (.putfield 23, 3)) ∧ (decode cX9_init 34 = .ok (.aload_n 0, 1)) := by decide +kernel
theorem dX9_init_23 : decode cX9_init 23 = .ok (.aload_n 0, 1) := dX9_init_23_b.1
theorem dX9_init_24 : decode cX9_init 24 = .ok (.new 20, 3) := dX9_init_23_b.2.1
theorem dX9_init_27 : decode cX9_init 27 = .ok (.dup, 1) := dX9_init_23_b.2.2.1
theorem dX9_init_28 : decode cX9_init 28 = .ok (.invokespecial 22, 3) := dX9_init_23_b.2.2.2.1
theorem dX9_init_31 : decode cX9_init 31 = .ok (.putfield 23, 3) := dX9_init_23_b.2.2.2.2.1
theorem dX9_init_34 : decode cX9_init 34 = .ok (.aload_n 0, 1) := dX9_init_23_b.2.2.2.2.2
set_option maxRecDepth 20000 in
theorem dX9_init_35_b : (decode cX9_init 35 = .ok (.new 20, 3)) ∧ (decode cX9_init 38 = .ok (.dup, 1)) ∧ (decode cX9_init 39 = .ok (.invokespecial 22, 3)) ∧ (decode cX9_init 42 = .ok (.putfield 27, 3)) ∧ (decode cX9_init 45 = .ok (.aload_n 0, 1)) ∧ (decode cX9_init 46 = .ok (.new 30, 3)) := by decide +kernel
theorem dX9_init_35 : decode cX9_init 35 = .ok (.new 20, 3) := dX9_init_35_b.1
theorem dX9_init_38 : decode cX9_init 38 = .ok (.dup, 1) := dX9_init_35_b.2.1
theorem dX9_init_39 : decode cX9_init 39 = .ok (.invokespecial 22, 3) := dX9_init_35_b.2.2.1
theorem dX9_init_42 : decode cX9_init 42 = .ok (.putfield 27, 3) := dX9_init_35_b.2.2.2.1
theorem dX9_init_45 : decode cX9_init 45 = .ok (.aload_n 0, 1) := dX9_init_35_b.2.2.2.2.1
theorem dX9_init_46 : decode cX9_init 46 = .ok (.new 30, 3) := dX9_init_35_b.2.2.2.2.2
set_option maxRecDepth 20000 in
theorem dX9_init_49_b : (decode cX9_init 49 = .ok (.dup, 1)) ∧ (decode cX9_init 50 = .ok (.aload_n 0, 1)) ∧ (decode cX9_init 51 = .ok (.getfield 27, 3)) ∧ (decode cX9_init 54 = .ok (.invokespecial 32, 3)) ∧ (decode cX9_init 57 = .ok (.putfield 35, 3)) ∧ (decode cX9_init 60 = .ok (.aload_n 0, 1)) := by decide +kernel
theorem dX9_init_49 : decode cX9_init 49 = .ok (.dup, 1) := dX9_init_49_b.1
theorem dX9_init_50 : decode cX9_init 50 = .ok (.aload_n 0, 1) := dX9_init_49_b.2.1
theorem dX9_init_51 : decode cX9_init 51 = .ok (.getfield 27, 3) := dX9_init_49_b.2.2.1
theorem dX9_init_54 : decode cX9_init 54 = .ok (.invokespecial 32, 3) := dX9_init_49_b.2.2.2.1
theorem dX9_init_57 : decode cX9_init 57 = .ok (.putfield 35, 3) := dX9_init_49_b.2.2.2.2.1
theorem dX9_init_60 : decode cX9_init 60 = .ok (.aload_n 0, 1) := dX9_init_49_b.2.2.2.2.2
set_option maxRecDepth 20000 in
theorem dX9_init_61_b : (decode cX9_init 61 = .ok (.new 39, 3)) ∧ (decode cX9_init 64 = .ok (.dup, 1)) ∧ (decode cX9_init 65 = .ok (.invokespecial 41, 3)) ∧ (decode cX9_init 68 = .ok (.putfield 42, 3)) ∧ (decode cX9_init 71 = .ok (.aload_n 0, 1)) ∧ (decode cX9_init 72 = .ok (.new 39, 3)) := by decide +kernel
theorem dX9_init_61 : decode cX9_init 61 = .ok (.new 39, 3) := dX9_init_61_b.1
theorem dX9_init_64 : decode cX9_init 64 = .ok (.dup, 1) := dX9_init_61_b.2.1
theorem dX9_init_65 : decode cX9_init 65 = .ok (.invokespecial 41, 3) := dX9_init_61_b.2.2.1
theorem dX9_init_68 : decode cX9_init 68 = .ok (.putfield 42, 3) := dX9_init_61_b.2.2.2.1
theorem dX9_init_71 : decode cX9_init 71 = .ok (.aload_n 0, 1) := dX9_init_61_b.2.2.2.2.1
theorem dX9_init_72 : decode cX9_init 72 = .ok (.new 39, 3) := dX9_init_61_b.2.2.2.2.2
set_option maxRecDepth 20000 in
theorem dX9_init_75_b : (decode cX9_init 75 = .ok (.dup, 1)) ∧ (decode cX9_init 76 = .ok (.invokespecial 41, 3)) ∧ (decode cX9_init 79 = .ok (.putfield 46, 3)) ∧ (decode cX9_init 82 = .ok (.aload_n 0, 1)) ∧ (decode cX9_init 83 = .ok (.iconst 0, 1)) ∧ (decode cX9_init 84 = .ok (.putfield 49, 3)) := by decide +kernel
theorem dX9_init_75 : decode cX9_init 75 = .ok (.dup, 1) := dX9_init_75_b.1
theorem dX9_init_76 : decode cX9_init 76 = .ok (.invokespecial 41, 3) := dX9_init_75_b.2.1
theorem dX9_init_79 : decode cX9_init 79 = .ok (.putfield 46, 3) := dX9_init_75_b.2.2.1
theorem dX9_init_82 : decode cX9_init 82 = .ok (.aload_n 0, 1) := dX9_init_75_b.2.2.2.1
theorem dX9_init_83 : decode cX9_init 83 = .ok (.iconst 0, 1) := dX9_init_75_b.2.2.2.2.1
theorem dX9_init_84 : decode cX9_init 84 = .ok (.putfield 49, 3) := dX9_init_75_b.2.2.2.2.2
set_option maxRecDepth 20000 in
theorem dX9_init_87_b : (decode cX9_init 87 = .ok (.aload_n 0, 1)) ∧ (decode cX9_init 88 = .ok (.new 53, 3)) ∧ (decode cX9_init 91 = .ok (.dup, 1)) ∧ (decode cX9_init 92 = .ok (.aload_n 0, 1)) ∧ (decode cX9_init 93 = .ok (.getfield 23, 3)) ∧ (decode cX9_init 96 = .ok (.invokespecial 55, 3)) := by decide +kernel
theorem dX9_init_87 : decode cX9_init 87 = .ok (.aload_n 0, 1) := dX9_init_87_b.1
theorem dX9_init_88 : decode cX9_init 88 = .ok (.new 53, 3) := dX9_init_87_b.2.1
theorem dX9_init_91 : decode cX9_init 91 = .ok (.dup, 1) := dX9_init_87_b.2.2.1
theorem dX9_init_92 : decode cX9_init 92 = .ok (.aload_n 0, 1) := dX9_init_87_b.2.2.2.1
theorem dX9_init_93 : decode cX9_init 93 = .ok (.getfield 23, 3) := dX9_init_87_b.2.2.2.2.1
theorem dX9_init_96 : decode cX9_init 96 = .ok (.invokespecial 55, 3) := dX9_init_87_b.2.2.2.2.2
set_option maxRecDepth 20000 in
theorem dX9_init_99_b : (decode cX9_init 99 = .ok (.putfield 56, 3)) ∧ (decode cX9_init 102 = .ok (.aload_n 0, 1)) ∧ (decode cX9_init 103 = .ok (.sipush 128, 3)) ∧ (decode cX9_init 106 = .ok (.newarray .int, 2)) ∧ (decode cX9_init 108 = .ok (.putfield 60, 3)) ∧ (decode cX9_init 111 = .ok (.aload_n 0, 1)) := by decide +kernel
theorem dX9_init_99 : decode cX9_init 99 = .ok (.putfield 56, 3) := dX9_init_99_b.1
theorem dX9_init_102 : decode cX9_init 102 = .ok (.aload_n 0, 1) := dX9_init_99_b.2.1
theorem dX9_init_103 : decode cX9_init 103 = .ok (.sipush 128, 3) := dX9_init_99_b.2.2.1
theorem dX9_init_106 : decode cX9_init 106 = .ok (.newarray .int, 2) := dX9_init_99_b.2.2.2.1
theorem dX9_init_108 : decode cX9_init 108 = .ok (.putfield 60, 3) := dX9_init_99_b.2.2.2.2.1
theorem dX9_init_111 : decode cX9_init 111 = .ok (.aload_n 0, 1) := dX9_init_99_b.2.2.2.2.2
set_option maxRecDepth 20000 in
theorem dX9_init_112_b : (decode cX9_init 112 = .ok (.getfield 42, 3)) ∧ (decode cX9_init 115 = .ok (.aload_n 0, 1)) ∧ (decode cX9_init 116 = .ok (.getfield 23, 3)) ∧ (decode cX9_init 119 = .ok (.invokevirtual 64, 3)) ∧ (decode cX9_init 122 = .ok (.invokevirtual 68, 3)) ∧ (decode cX9_init 125 = .ok (.return_, 1)) := by decide +kernel
theorem dX9_init_112 : decode cX9_init 112 = .ok (.getfield 42, 3) := dX9_init_112_b.1
theorem dX9_init_115 : decode cX9_init 115 = .ok (.aload_n 0, 1) := dX9_init_112_b.2.1
theorem dX9_init_116 : decode cX9_init 116 = .ok (.getfield 23, 3) := dX9_init_112_b.2.2.1
theorem dX9_init_119 : decode cX9_init 119 = .ok (.invokevirtual 64, 3) := dX9_init_112_b.2.2.2.1
theorem dX9_init_122 : decode cX9_init 122 = .ok (.invokevirtual 68, 3) := dX9_init_112_b.2.2.2.2.1
theorem dX9_init_125 : decode cX9_init 125 = .ok (.return_, 1) := dX9_init_112_b.2.2.2.2.2
set_option maxRecDepth 20000 in
theorem dX10_init_0_b : (decode cX10_init 0 = .ok (.aload_n 0, 1)) ∧ (decode cX10_init 1 = .ok (.invokespecial 1, 3)) ∧ (decode cX10_init 4 = .ok (.aload_n 0, 1)) ∧ (decode cX10_init 5 = .ok (.bipush 12, 2)) ∧ (decode cX10_init 7 = .ok (.anewarray 7, 3)) ∧ (decode cX10_init 10 = .ok (.dup, 1)) := by decide +kernel
theorem dX10_init_0 : decode cX10_init 0 = .ok (.aload_n 0, 1) := dX10_init_0_b.1
theorem dX10_init_1 : decode cX10_init 1 = .ok (.invokespecial 1, 3) := dX10_init_0_b.2.1
theorem dX10_init_4 : decode cX10_init 4 = .ok (.aload_n 0, 1) := dX10_init_0_b.2.2.1
theorem dX10_init_5 : decode cX10_init 5 = .ok (.bipush 12, 2) := dX10_init_0_b.2.2.2.1
theorem dX10_init_7 : decode cX10_init 7 = .ok (.anewarray 7, 3) := dX10_init_0_b.2.2.2.2.1
theorem dX10_init_10 : decode cX10_init 10 = .ok (.dup, 1) := dX10_init_0_b.2.2.2.2.2
set_option maxRecDepth 20000 in
theorem dX10_init_11_b : (decode cX10_init 11 = .ok (.iconst 0, 1)) ∧ (decode cX10_init 12 = .ok (.ldc 9, 2)) ∧ (decode cX10_init 14 = .ok (.aastore, 1)) ∧ (decode cX10_init 15 = .ok (.dup, 1)) ∧ (decode cX10_init 16 = .ok (.iconst 1, 1)) ∧ (decode cX10_init 17 = .ok (.ldc 11, 2)) := by decide +kernel
theorem dX10_init_11 : decode cX10_init 11 = .ok (.iconst 0, 1) := dX10_init_11_b.1
theorem dX10_init_12 : decode cX10_init 12 = .ok (.ldc 9, 2) := dX10_init_11_b.2.1
theorem dX10_init_14 : decode cX10_init 14 = .ok (.aastore, 1) := dX10_init_11_b.2.2.1
theorem dX10_init_15 : decode cX10_init 15 = .ok (.dup, 1) := dX10_init_11_b.2.2.2.1
theorem dX10_init_16 : decode cX10_init 16 = .ok (.iconst 1, 1) := dX10_init_11_b.2.2.2.2.1
theorem dX10_init_17 : decode cX10_init 17 = .ok (.ldc 11, 2) := dX10_init_11_b.2.2.2.2.2
set_option maxRecDepth 20000 in
theorem dX10_init_19_b : (decode cX10_init 19 = .ok (.aastore, 1)) ∧ (decode cX10_init 20 = .ok (.dup, 1)) ∧ (decode cX10_init 21 = .ok (.iconst 2, 1)) ∧ (decode cX10_init 22 = .ok (.ldc 13, 2)) ∧ (decode cX10_init 24 = .ok (.aastore, 1)) ∧ (decode cX10_init 25 = .ok (.dup, 1)) := by decide +kernel
theorem dX10_init_19 : decode cX10_init 19 = .ok (.aastore, 1) := dX10_init_19_b.1
theorem dX10_init_20 : decode cX10_init 20 = .ok (.dup, 1) := dX10_init_19_b.2.1
theorem dX10_init_21 : decode cX10_init 21 = .ok (.iconst 2, 1) := dX10_init_19_b.2.2.1
theorem dX10_init_22 : decode cX10_init 22 = .ok (.ldc 13, 2) := dX10_init_19_b.2.2.2.1
theorem dX10_init_24 : decode cX10_init 24 = .ok (.aastore, 1) := dX10_init_19_b.2.2.2.2.1
theorem dX10_init_25 : decode cX10_init 25 = .ok (.dup, 1) := dX10_init_19_b.2.2.2.2.2
set_option maxRecDepth 20000 in
theorem dX10_init_26_b : (decode cX10_init 26 = .ok (.iconst 3, 1)) ∧ (decode cX10_init 27 = .ok (.ldc 15, 2)) ∧ (decode cX10_init 29 = .ok (.aastore, 1)) ∧ (decode cX10_init 30 = .ok (.dup, 1)) ∧ (decode cX10_init 31 = .ok (.iconst 4, 1)) ∧ (decode cX10_init 32 = .ok (.ldc 17, 2)) := by decide +kernel
theorem dX10_init_26 : decode cX10_init 26 = .ok (.iconst 3, 1) := dX10_init_26_b.1
theorem dX10_init_27 : decode cX10_init 27 = .ok (.ldc 15, 2) := dX10_init_26_b.2.1
theorem dX10_init_29 : decode cX10_init 29 = .ok (.aastore, 1) := dX10_init_26_b.2.2.1
theorem dX10_init_30 : decode cX10_init 30 = .ok (.dup, 1) := dX10_init_26_b.2.2.2.1
theorem dX10_init_31 : decode cX10_init 31 = .ok (.iconst 4, 1) := dX10_init_26_b.2.2.2.2.1
theorem dX10_init_32 : decode cX10_init 32 = .ok (.ldc 17, 2) := dX10_init_26_b.2.2.2.2.2
set_option maxRecDepth 20000 in
theorem dX10_init_34_b : (decode cX10_init 34 = .ok (.aastore, 1)) ∧ (decode cX10_init 35 = .ok (.dup, 1)) ∧ (decode cX10_init 36 = .ok (.iconst 5, 1)) ∧ (decode cX10_init 37 = .ok (.ldc 19, 2)) ∧ (decode cX10_init 39 = .ok (.aastore, 1)) ∧ (decode cX10_init 40 = .ok (.dup, 1)) := by decide +kernel
theorem dX10_init_34 : decode cX10_init 34 = .ok (.aastore, 1) := dX10_init_34_b.1
theorem dX10_init_35 : decode cX10_init 35 = .ok (.dup, 1) := dX10_init_34_b.2.1
theorem dX10_init_36 : decode cX10_init 36 = .ok (.iconst 5, 1) := dX10_init_34_b.2.2.1
theorem dX10_init_37 : decode cX10_init 37 = .ok (.ldc 19, 2) := dX10_init_34_b.2.2.2.1
theorem dX10_init_39 : decode cX10_init 39 = .ok (.aastore, 1) := dX10_init_34_b.2.2.2.2.1
theorem dX10_init_40 : decode cX10_init 40 = .ok (.dup, 1) := dX10_init_34_b.2.2.2.2.2
set_option maxRecDepth 20000 in
theorem dX10_init_41_b : (decode cX10_init 41 = .ok (.bipush 6, 2)) ∧ (decode cX10_init 43 = .ok (.ldc 21, 2)) ∧ (decode cX10_init 45 = .ok (.aastore, 1)) ∧ (decode cX10_init 46 = .ok (.dup, 1)) ∧ (decode cX10_init 47 = .ok (.bipush 7, 2)) ∧ (decode cX10_init 49 = .ok (.ldc 23, 2)) := by decide +kernel
theorem dX10_init_41 : decode cX10_init 41 = .ok (.bipush 6, 2) := dX10_init_41_b.1
theorem dX10_init_43 : decode cX10_init 43 = .ok (.ldc 21, 2) := dX10_init_41_b.2.1
theorem dX10_init_45 : decode cX10_init 45 = .ok (.aastore, 1) := dX10_init_41_b.2.2.1
theorem dX10_init_46 : decode cX10_init 46 = .ok (.dup, 1) := dX10_init_41_b.2.2.2.1
theorem dX10_init_47 : decode cX10_init 47 = .ok (.bipush 7, 2) := dX10_init_41_b.2.2.2.2.1
theorem dX10_init_49 : decode cX10_init 49 = .ok (.ldc 23, 2) := dX10_init_41_b.2.2.2.2.2
set_option maxRecDepth 20000 in
theorem dX10_init_51_b : (decode cX10_init 51 = .ok (.aastore, 1)) ∧ (decode cX10_init 52 = .ok (.dup, 1)) ∧ (decode cX10_init 53 = .ok (.bipush 8, 2)) ∧ (decode cX10_init 55 = .ok (.ldc 25, 2)) ∧ (decode cX10_init 57 = .ok (.aastore, 1)) ∧ (decode cX10_init 58 = .ok (.dup, 1)) := by decide +kernel
theorem dX10_init_51 : decode cX10_init 51 = .ok (.aastore, 1) := dX10_init_51_b.1
theorem dX10_init_52 : decode cX10_init 52 = .ok (.dup, 1) := dX10_init_51_b.2.1
theorem dX10_init_53 : decode cX10_init 53 = .ok (.bipush 8, 2) := dX10_init_51_b.2.2.1
theorem dX10_init_55 : decode cX10_init 55 = .ok (.ldc 25, 2) := dX10_init_51_b.2.2.2.1
theorem dX10_init_57 : decode cX10_init 57 = .ok (.aastore, 1) := dX10_init_51_b.2.2.2.2.1
theorem dX10_init_58 : decode cX10_init 58 = .ok (.dup, 1) := dX10_init_51_b.2.2.2.2.2
set_option maxRecDepth 20000 in
theorem dX10_init_59_b : (decode cX10_init 59 = .ok (.bipush 9, 2)) ∧ (decode cX10_init 61 = .ok (.ldc 27, 2)) ∧ (decode cX10_init 63 = .ok (.aastore, 1)) ∧ (decode cX10_init 64 = .ok (.dup, 1)) ∧ (decode cX10_init 65 = .ok (.bipush 10, 2)) ∧ (decode cX10_init 67 = .ok (.ldc 29, 2)) := by decide +kernel
theorem dX10_init_59 : decode cX10_init 59 = .ok (.bipush 9, 2) := dX10_init_59_b.1
theorem dX10_init_61 : decode cX10_init 61 = .ok (.ldc 27, 2) := dX10_init_59_b.2.1
theorem dX10_init_63 : decode cX10_init 63 = .ok (.aastore, 1) := dX10_init_59_b.2.2.1
theorem dX10_init_64 : decode cX10_init 64 = .ok (.dup, 1) := dX10_init_59_b.2.2.2.1
theorem dX10_init_65 : decode cX10_init 65 = .ok (.bipush 10, 2) := dX10_init_59_b.2.2.2.2.1
theorem dX10_init_67 : decode cX10_init 67 = .ok (.ldc 29, 2) := dX10_init_59_b.2.2.2.2.2
set_option maxRecDepth 20000 in
theorem dX10_init_69_b : (decode cX10_init 69 = .ok (.aastore, 1)) ∧ (decode cX10_init 70 = .ok (.dup, 1)) ∧ (decode cX10_init 71 = .ok (.bipush 11, 2)) ∧ (decode cX10_init 73 = .ok (.ldc 31, 2)) ∧ (decode cX10_init 75 = .ok (.aastore, 1)) ∧ (decode cX10_init 76 = .ok (.putfield 33, 3)) := by decide +kernel
theorem dX10_init_69 : decode cX10_init 69 = .ok (.aastore, 1) := dX10_init_69_b.1
theorem dX10_init_70 : decode cX10_init 70 = .ok (.dup, 1) := dX10_init_69_b.2.1
theorem dX10_init_71 : decode cX10_init 71 = .ok (.bipush 11, 2) := dX10_init_69_b.2.2.1
theorem dX10_init_73 : decode cX10_init 73 = .ok (.ldc 31, 2) := dX10_init_69_b.2.2.2.1
theorem dX10_init_75 : decode cX10_init 75 = .ok (.aastore, 1) := dX10_init_69_b.2.2.2.2.1
theorem dX10_init_76 : decode cX10_init 76 = .ok (.putfield 33, 3) := dX10_init_69_b.2.2.2.2.2
set_option maxRecDepth 20000 in
theorem dX10_init_79_b : (decode cX10_init 79 = .ok (.aload_n 0, 1)) ∧ (decode cX10_init 80 = .ok (.bipush 7, 2)) ∧ (decode cX10_init 82 = .ok (.anewarray 7, 3)) ∧ (decode cX10_init 85 = .ok (.dup, 1)) ∧ (decode cX10_init 86 = .ok (.iconst 0, 1)) ∧ (decode cX10_init 87 = .ok (.ldc 39, 2)) := by decide +kernel
theorem dX10_init_79 : decode cX10_init 79 = .ok (.aload_n 0, 1) := dX10_init_79_b.1
theorem dX10_init_80 : decode cX10_init 80 = .ok (.bipush 7, 2) := dX10_init_79_b.2.1
theorem dX10_init_82 : decode cX10_init 82 = .ok (.anewarray 7, 3) := dX10_init_79_b.2.2.1
theorem dX10_init_85 : decode cX10_init 85 = .ok (.dup, 1) := dX10_init_79_b.2.2.2.1
theorem dX10_init_86 : decode cX10_init 86 = .ok (.iconst 0, 1) := dX10_init_79_b.2.2.2.2.1
theorem dX10_init_87 : decode cX10_init 87 = .ok (.ldc 39, 2) := dX10_init_79_b.2.2.2.2.2
set_option maxRecDepth 20000 in
theorem dX10_init_89_b : (decode cX10_init 89 = .ok (.aastore, 1)) ∧ (decode cX10_init 90 = .ok (.dup, 1)) ∧ (decode cX10_init 91 = .ok (.iconst 1, 1)) ∧ (decode cX10_init 92 = .ok (.ldc 41, 2)) ∧ (decode cX10_init 94 = .ok (.aastore, 1)) ∧ (decode cX10_init 95 = .ok (.dup, 1)) := by decide +kernel
theorem dX10_init_89 : decode cX10_init 89 = .ok (.aastore, 1) := dX10_init_89_b.1
theorem dX10_init_90 : decode cX10_init 90 = .ok (.dup, 1) := dX10_init_89_b.2.1
theorem dX10_init_91 : decode cX10_init 91 = .ok (.iconst 1, 1) := dX10_init_89_b.2.2.1
theorem dX10_init_92 : decode cX10_init 92 = .ok (.ldc 41, 2) := dX10_init_89_b.2.2.2.1
theorem dX10_init_94 : decode cX10_init 94 = .ok (.aastore, 1) := dX10_init_89_b.2.2.2.2.1
theorem dX10_init_95 : decode cX10_init 95 = .ok (.dup, 1) := dX10_init_89_b.2.2.2.2.2
set_option maxRecDepth 20000 in
theorem dX10_init_96_b : (decode cX10_init 96 = .ok (.iconst 2, 1)) ∧ (decode cX10_init 97 = .ok (.ldc 43, 2)) ∧ (decode cX10_init 99 = .ok (.aastore, 1)) ∧ (decode cX10_init 100 = .ok (.dup, 1)) ∧ (decode cX10_init 101 = .ok (.iconst 3, 1)) ∧ (decode cX10_init 102 = .ok (.ldc 45, 2)) := by decide +kernel
theorem dX10_init_96 : decode cX10_init 96 = .ok (.iconst 2, 1) := dX10_init_96_b.1
theorem dX10_init_97 : decode cX10_init 97 = .ok (.ldc 43, 2) := dX10_init_96_b.2.1
theorem dX10_init_99 : decode cX10_init 99 = .ok (.aastore, 1) := dX10_init_96_b.2.2.1
theorem dX10_init_100 : decode cX10_init 100 = .ok (.dup, 1) := dX10_init_96_b.2.2.2.1
theorem dX10_init_101 : decode cX10_init 101 = .ok (.iconst 3, 1) := dX10_init_96_b.2.2.2.2.1
theorem dX10_init_102 : decode cX10_init 102 = .ok (.ldc 45, 2) := dX10_init_96_b.2.2.2.2.2
set_option maxRecDepth 20000 in
theorem dX10_init_104_b : (decode cX10_init 104 = .ok (.aastore, 1)) ∧ (decode cX10_init 105 = .ok (.dup, 1)) ∧ (decode cX10_init 106 = .ok (.iconst 4, 1)) ∧ (decode cX10_init 107 = .ok (.ldc 47, 2)) ∧ (decode cX10_init 109 = .ok (.aastore, 1)) ∧ (decode cX10_init 110 = .ok (.dup, 1)) := by decide +kernel
theorem dX10_init_104 : decode cX10_init 104 = .ok (.aastore, 1) := dX10_init_104_b.1
theorem dX10_init_105 : decode cX10_init 105 = .ok (.dup, 1) := dX10_init_104_b.2.1
theorem dX10_init_106 : decode cX10_init 106 = .ok (.iconst 4, 1) := dX10_init_104_b.2.2.1
theorem dX10_init_107 : decode cX10_init 107 = .ok (.ldc 47, 2) := dX10_init_104_b.2.2.2.1
theorem dX10_init_109 : decode cX10_init 109 = .ok (.aastore, 1) := dX10_init_104_b.2.2.2.2.1
theorem dX10_init_110 : decode cX10_init 110 = .ok (.dup, 1) := dX10_init_104_b.2.2.2.2.2
set_option maxRecDepth 20000 in
theorem dX10_init_111_b : (decode cX10_init 111 = .ok (.iconst 5, 1)) ∧ (decode cX10_init 112 = .ok (.ldc 9, 2)) ∧ (decode cX10_init 114 = .ok (.aastore, 1)) ∧ (decode cX10_init 115 = .ok (.dup, 1)) ∧ (decode cX10_init 116 = .ok (.bipush 6, 2)) ∧ (decode cX10_init 118 = .ok (.ldc 49, 2)) := by decide +kernel
theorem dX10_init_111 : decode cX10_init 111 = .ok (.iconst 5, 1) := dX10_init_111_b.1
theorem dX10_init_112 : decode cX10_init 112 = .ok (.ldc 9, 2) := dX10_init_111_b.2.1
theorem dX10_init_114 : decode cX10_init 114 = .ok (.aastore, 1) := dX10_init_111_b.2.2.1
theorem dX10_init_115 : decode cX10_init 115 = .ok (.dup, 1) := dX10_init_111_b.2.2.2.1
theorem dX10_init_116 : decode cX10_init 116 = .ok (.bipush 6, 2) := dX10_init_111_b.2.2.2.2.1
theorem dX10_init_118 : decode cX10_init 118 = .ok (.ldc 49, 2) := dX10_init_111_b.2.2.2.2.2
set_option maxRecDepth 20000 in
theorem dX10_init_120_b : (decode cX10_init 120 = .ok (.aastore, 1)) ∧ (decode cX10_init 121 = .ok (.putfield 51, 3)) ∧ (decode cX10_init 124 = .ok (.aload_n 0, 1)) ∧ (decode cX10_init 125 = .ok (.bipush 14, 2)) ∧ (decode cX10_init 127 = .ok (.newarray .int, 2)) ∧ (decode cX10_init 129 = .ok (.putfield 54, 3)) := by decide +kernel
theorem dX10_init_120 : decode cX10_init 120 = .ok (.aastore, 1) := dX10_init_120_b.1
theorem dX10_init_121 : decode cX10_init 121 = .ok (.putfield 51, 3) := dX10_init_120_b.2.1
theorem dX10_init_124 : decode cX10_init 124 = .ok (.aload_n 0, 1) := dX10_init_120_b.2.2.1
theorem dX10_init_125 : decode cX10_init 125 = .ok (.bipush 14, 2) := dX10_init_120_b.2.2.2.1
theorem dX10_init_127 : decode cX10_init 127 = .ok (.newarray .int, 2) := dX10_init_120_b.2.2.2.2.1
theorem dX10_init_129 : decode cX10_init 129 = .ok (.putfield 54, 3) := dX10_init_120_b.2.2.2.2.2
set_option maxRecDepth 20000 in
theorem dX10_init_132_b : (decode cX10_init 132 = .ok (.aload_n 0, 1)) ∧ (decode cX10_init 133 = .ok (.bipush 14, 2)) ∧ (decode cX10_init 135 = .ok (.newarray .int, 2)) ∧ (decode cX10_init 137 = .ok (.putfield 57, 3)) ∧ (decode cX10_init 140 = .ok (.aload_n 0, 1)) ∧ (decode cX10_init 141 = .ok (.bipush 14, 2)) := by decide +kernel
theorem dX10_init_132 : decode cX10_init 132 = .ok (.aload_n 0, 1) := dX10_init_132_b.1
theorem dX10_init_133 : decode cX10_init 133 = .ok (.bipush 14, 2) := dX10_init_132_b.2.1
theorem dX10_init_135 : decode cX10_init 135 = .ok (.newarray .int, 2) := dX10_init_132_b.2.2.1
theorem dX10_init_137 : decode cX10_init 137 = .ok (.putfield 57, 3) := dX10_init_132_b.2.2.2.1
theorem dX10_init_140 : decode cX10_init 140 = .ok (.aload_n 0, 1) := dX10_init_132_b.2.2.2.2.1
theorem dX10_init_141 : decode cX10_init 141 = .ok (.bipush 14, 2) := dX10_init_132_b.2.2.2.2.2
set_option maxRecDepth 20000 in
theorem dX10_init_143_b : (decode cX10_init 143 = .ok (.newarray .int, 2)) ∧ (decode cX10_init 145 = .ok (.putfield 60, 3)) ∧ (decode cX10_init 148 = .ok (.aload_n 0, 1)) ∧ (decode cX10_init 149 = .ok (.bipush 14, 2)) ∧ (decode cX10_init 151 = .ok (.newarray .int, 2)) ∧ (decode cX10_init 153 = .ok (.putfield 62, 3)) := by decide +kernel
theorem dX10_init_143 : decode cX10_init 143 = .ok (.newarray .int, 2) := dX10_init_143_b.1
theorem dX10_init_145 : decode cX10_init 145 = .ok (.putfield 60, 3) := dX10_init_143_b.2.1
theorem dX10_init_148 : decode cX10_init 148 = .ok (.aload_n 0, 1) := dX10_init_143_b.2.2.1
theorem dX10_init_149 : decode cX10_init 149 = .ok (.bipush 14, 2) := dX10_init_143_b.2.2.2.1
theorem dX10_init_151 : decode cX10_init 151 = .ok (.newarray .int, 2) := dX10_init_143_b.2.2.2.2.1
theorem dX10_init_153 : decode cX10_init 153 = .ok (.putfield 62, 3) := dX10_init_143_b.2.2.2.2.2
set_option maxRecDepth 20000 in
theorem dX10_init_156_b : (decode cX10_init 156 = .ok (.aload_n 0, 1)) ∧ (decode cX10_init 157 = .ok (.bipush 14, 2)) ∧ (decode cX10_init 159 = .ok (.newarray .int, 2)) ∧ (decode cX10_init 161 = .ok (.putfield 65, 3)) ∧ (decode cX10_init 164 = .ok (.aload_n 0, 1)) ∧ (decode cX10_init 165 = .ok (.bipush 8, 2)) := by decide +kernel
theorem dX10_init_156 : decode cX10_init 156 = .ok (.aload_n 0, 1) := dX10_init_156_b.1
theorem dX10_init_157 : decode cX10_init 157 = .ok (.bipush 14, 2) := dX10_init_156_b.2.1
theorem dX10_init_159 : decode cX10_init 159 = .ok (.newarray .int, 2) := dX10_init_156_b.2.2.1
theorem dX10_init_161 : decode cX10_init 161 = .ok (.putfield 65, 3) := dX10_init_156_b.2.2.2.1
theorem dX10_init_164 : decode cX10_init 164 = .ok (.aload_n 0, 1) := dX10_init_156_b.2.2.2.2.1
theorem dX10_init_165 : decode cX10_init 165 = .ok (.bipush 8, 2) := dX10_init_156_b.2.2.2.2.2
set_option maxRecDepth 20000 in
theorem dX10_init_167_b : (decode cX10_init 167 = .ok (.newarray .int, 2)) ∧ (decode cX10_init 169 = .ok (.putfield 68, 3)) ∧ (decode cX10_init 172 = .ok (.aload_n 0, 1)) ∧ (decode cX10_init 173 = .ok (.bipush 8, 2)) ∧ (decode cX10_init 175 = .ok (.newarray .int, 2)) ∧ (decode cX10_init 177 = .ok (.putfield 71, 3)) := by decide +kernel
theorem dX10_init_167 : decode cX10_init 167 = .ok (.newarray .int, 2) := dX10_init_167_b.1
theorem dX10_init_169 : decode cX10_init 169 = .ok (.putfield 68, 3) := dX10_init_167_b.2.1
theorem dX10_init_172 : decode cX10_init 172 = .ok (.aload_n 0, 1) := dX10_init_167_b.2.2.1
theorem dX10_init_173 : decode cX10_init 173 = .ok (.bipush 8, 2) := dX10_init_167_b.2.2.2.1
theorem dX10_init_175 : decode cX10_init 175 = .ok (.newarray .int, 2) := dX10_init_167_b.2.2.2.2.1
theorem dX10_init_177 : decode cX10_init 177 = .ok (.putfield 71, 3) := dX10_init_167_b.2.2.2.2.2
set_option maxRecDepth 20000 in
theorem dX10_init_180_b : (decode cX10_init 180 = .ok (.aload_n 0, 1)) ∧ (decode cX10_init 181 = .ok (.sipush 1200, 3)) ∧ (decode cX10_init 184 = .ok (.newarray .int, 2)) ∧ (decode cX10_init 186 = .ok (.putfield 74, 3)) ∧ (decode cX10_init 189 = .ok (.aload_n 0, 1)) ∧ (decode cX10_init 190 = .ok (.iconst 3, 1)) := by decide +kernel
theorem dX10_init_180 : decode cX10_init 180 = .ok (.aload_n 0, 1) := dX10_init_180_b.1
theorem dX10_init_181 : decode cX10_init 181 = .ok (.sipush 1200, 3) := dX10_init_180_b.2.1
theorem dX10_init_184 : decode cX10_init 184 = .ok (.newarray .int, 2) := dX10_init_180_b.2.2.1
theorem dX10_init_186 : decode cX10_init 186 = .ok (.putfield 74, 3) := dX10_init_180_b.2.2.2.1
theorem dX10_init_189 : decode cX10_init 189 = .ok (.aload_n 0, 1) := dX10_init_180_b.2.2.2.2.1
theorem dX10_init_190 : decode cX10_init 190 = .ok (.iconst 3, 1) := dX10_init_180_b.2.2.2.2.2
set_option maxRecDepth 20000 in
theorem dX10_init_191_b : (decode cX10_init 191 = .ok (.newarray .int, 2)) ∧ (decode cX10_init 193 = .ok (.putfield 77, 3)) ∧ (decode cX10_init 196 = .ok (.aload_n 0, 1)) ∧ (decode cX10_init 197 = .ok (.sipush 600, 3)) ∧ (decode cX10_init 200 = .ok (.newarray .int, 2)) ∧ (decode cX10_init 202 = .ok (.putfield 80, 3)) := by decide +kernel
theorem dX10_init_191 : decode cX10_init 191 = .ok (.newarray .int, 2) := dX10_init_191_b.1
theorem dX10_init_193 : decode cX10_init 193 = .ok (.putfield 77, 3) := dX10_init_191_b.2.1
theorem dX10_init_196 : decode cX10_init 196 = .ok (.aload_n 0, 1) := dX10_init_191_b.2.2.1
theorem dX10_init_197 : decode cX10_init 197 = .ok (.sipush 600, 3) := dX10_init_191_b.2.2.2.1
theorem dX10_init_200 : decode cX10_init 200 = .ok (.newarray .int, 2) := dX10_init_191_b.2.2.2.2.1
theorem dX10_init_202 : decode cX10_init 202 = .ok (.putfield 80, 3) := dX10_init_191_b.2.2.2.2.2
set_option maxRecDepth 20000 in
theorem dX10_init_205_b : (decode cX10_init 205 = .ok (.aload_n 0, 1)) ∧ (decode cX10_init 206 = .ok (.iconst (-1), 1)) ∧ (decode cX10_init 207 = .ok (.putfield 83, 3)) ∧ (decode cX10_init 210 = .ok (.aload_n 0, 1)) ∧ (decode cX10_init 211 = .ok (.bipush 7, 2)) ∧ (decode cX10_init 213 = .ok (.newarray .int, 2)) := by decide +kernel
theorem dX10_init_205 : decode cX10_init 205 = .ok (.aload_n 0, 1) := dX10_init_205_b.1
theorem dX10_init_206 : decode cX10_init 206 = .ok (.iconst (-1), 1) := dX10_init_205_b.2.1
theorem dX10_init_207 : decode cX10_init 207 = .ok (.putfield 83, 3) := dX10_init_205_b.2.2.1
theorem dX10_init_210 : decode cX10_init 210 = .ok (.aload_n 0, 1) := dX10_init_205_b.2.2.2.1
theorem dX10_init_211 : decode cX10_init 211 = .ok (.bipush 7, 2) := dX10_init_205_b.2.2.2.2.1
theorem dX10_init_213 : decode cX10_init 213 = .ok (.newarray .int, 2) := dX10_init_205_b.2.2.2.2.2
set_option maxRecDepth 20000 in
theorem dX10_init_215_b : (decode cX10_init 215 = .ok (.dup, 1)) ∧ (decode cX10_init 216 = .ok (.iconst 0, 1)) ∧ (decode cX10_init 217 = .ok (.bipush 15, 2)) ∧ (decode cX10_init 219 = .ok (.iastore, 1)) ∧ (decode cX10_init 220 = .ok (.dup, 1)) ∧ (decode cX10_init 221 = .ok (.iconst 1, 1)) := by decide +kernel
theorem dX10_init_215 : decode cX10_init 215 = .ok (.dup, 1) := dX10_init_215_b.1
theorem dX10_init_216 : decode cX10_init 216 = .ok (.iconst 0, 1) := dX10_init_215_b.2.1
theorem dX10_init_217 : decode cX10_init 217 = .ok (.bipush 15, 2) := dX10_init_215_b.2.2.1
theorem dX10_init_219 : decode cX10_init 219 = .ok (.iastore, 1) := dX10_init_215_b.2.2.2.1
theorem dX10_init_220 : decode cX10_init 220 = .ok (.dup, 1) := dX10_init_215_b.2.2.2.2.1
theorem dX10_init_221 : decode cX10_init 221 = .ok (.iconst 1, 1) := dX10_init_215_b.2.2.2.2.2
set_option maxRecDepth 20000 in
theorem dX10_init_222_b : (decode cX10_init 222 = .ok (.bipush 15, 2)) ∧ (decode cX10_init 224 = .ok (.iastore, 1)) ∧ (decode cX10_init 225 = .ok (.dup, 1)) ∧ (decode cX10_init 226 = .ok (.iconst 2, 1)) ∧ (decode cX10_init 227 = .ok (.bipush 15, 2)) ∧ (decode cX10_init 229 = .ok (.iastore, 1)) := by decide +kernel
theorem dX10_init_222 : decode cX10_init 222 = .ok (.bipush 15, 2) := dX10_init_222_b.1
theorem dX10_init_224 : decode cX10_init 224 = .ok (.iastore, 1) := dX10_init_222_b.2.1
theorem dX10_init_225 : decode cX10_init 225 = .ok (.dup, 1) := dX10_init_222_b.2.2.1
theorem dX10_init_226 : decode cX10_init 226 = .ok (.iconst 2, 1) := dX10_init_222_b.2.2.2.1
theorem dX10_init_227 : decode cX10_init 227 = .ok (.bipush 15, 2) := dX10_init_222_b.2.2.2.2.1
theorem dX10_init_229 : decode cX10_init 229 = .ok (.iastore, 1) := dX10_init_222_b.2.2.2.2.2
set_option maxRecDepth 20000 in
theorem dX10_init_230_b : (decode cX10_init 230 = .ok (.dup, 1)) ∧ (decode cX10_init 231 = .ok (.iconst 3, 1)) ∧ (decode cX10_init 232 = .ok (.bipush 15, 2)) ∧ (decode cX10_init 234 = .ok (.iastore, 1)) ∧ (decode cX10_init 235 = .ok (.dup, 1)) ∧ (decode cX10_init 236 = .ok (.iconst 4, 1)) := by decide +kernel
theorem dX10_init_230 : decode cX10_init 230 = .ok (.dup, 1) := dX10_init_230_b.1
theorem dX10_init_231 : decode cX10_init 231 = .ok (.iconst 3, 1) := dX10_init_230_b.2.1
theorem dX10_init_232 : decode cX10_init 232 = .ok (.bipush 15, 2) := dX10_init_230_b.2.2.1
theorem dX10_init_234 : decode cX10_init 234 = .ok (.iastore, 1) := dX10_init_230_b.2.2.2.1
theorem dX10_init_235 : decode cX10_init 235 = .ok (.dup, 1) := dX10_init_230_b.2.2.2.2.1
theorem dX10_init_236 : decode cX10_init 236 = .ok (.iconst 4, 1) := dX10_init_230_b.2.2.2.2.2
set_option maxRecDepth 20000 in
theorem dX10_init_237_b : (decode cX10_init 237 = .ok (.bipush 15, 2)) ∧ (decode cX10_init 239 = .ok (.iastore, 1)) ∧ (decode cX10_init 240 = .ok (.dup, 1)) ∧ (decode cX10_init 241 = .ok (.iconst 5, 1)) ∧ (decode cX10_init 242 = .ok (.bipush 15, 2)) ∧ (decode cX10_init 244 = .ok (.iastore, 1)) := by decide +kernel
theorem dX10_init_237 : decode cX10_init 237 = .ok (.bipush 15, 2) := dX10_init_237_b.1
theorem dX10_init_239 : decode cX10_init 239 = .ok (.iastore, 1) := dX10_init_237_b.2.1
theorem dX10_init_240 : decode cX10_init 240 = .ok (.dup, 1) := dX10_init_237_b.2.2.1
theorem dX10_init_241 : decode cX10_init 241 = .ok (.iconst 5, 1) := dX10_init_237_b.2.2.2.1
theorem dX10_init_242 : decode cX10_init 242 = .ok (.bipush 15, 2) := dX10_init_237_b.2.2.2.2.1
theorem dX10_init_244 : decode cX10_init 244 = .ok (.iastore, 1) := dX10_init_237_b.2.2.2.2.2
set_option maxRecDepth 20000 in
theorem dX10_init_245_b : (decode cX10_init 245 = .ok (.dup, 1)) ∧ (decode cX10_init 246 = .ok (.bipush 6, 2)) ∧ (decode cX10_init 248 = .ok (.bipush 15, 2)) ∧ (decode cX10_init 250 = .ok (.iastore, 1)) ∧ (decode cX10_init 251 = .ok (.putfield 87, 3)) ∧ (decode cX10_init 254 = .ok (.aload_n 0, 1)) := by decide +kernel
theorem dX10_init_245 : decode cX10_init 245 = .ok (.dup, 1) := dX10_init_245_b.1
theorem dX10_init_246 : decode cX10_init 246 = .ok (.bipush 6, 2) := dX10_init_245_b.2.1
theorem dX10_init_248 : decode cX10_init 248 = .ok (.bipush 15, 2) := dX10_init_245_b.2.2.1
theorem dX10_init_250 : decode cX10_init 250 = .ok (.iastore, 1) := dX10_init_245_b.2.2.2.1
theorem dX10_init_251 : decode cX10_init 251 = .ok (.putfield 87, 3) := dX10_init_245_b.2.2.2.2.1
theorem dX10_init_254 : decode cX10_init 254 = .ok (.aload_n 0, 1) := dX10_init_245_b.2.2.2.2.2
set_option maxRecDepth 20000 in
theorem dX10_init_255_b : (decode cX10_init 255 = .ok (.bipush 6, 2)) ∧ (decode cX10_init 257 = .ok (.newarray .int, 2)) ∧ (decode cX10_init 259 = .ok (.putfield 90, 3)) ∧ (decode cX10_init 262 = .ok (.aload_n 0, 1)) ∧ (decode cX10_init 263 = .ok (.bipush 60, 2)) ∧ (decode cX10_init 265 = .ok (.newarray .int, 2)) := by decide +kernel
theorem dX10_init_255 : decode cX10_init 255 = .ok (.bipush 6, 2) := dX10_init_255_b.1
theorem dX10_init_257 : decode cX10_init 257 = .ok (.newarray .int, 2) := dX10_init_255_b.2.1
theorem dX10_init_259 : decode cX10_init 259 = .ok (.putfield 90, 3) := dX10_init_255_b.2.2.1
theorem dX10_init_262 : decode cX10_init 262 = .ok (.aload_n 0, 1) := dX10_init_255_b.2.2.2.1
theorem dX10_init_263 : decode cX10_init 263 = .ok (.bipush 60, 2) := dX10_init_255_b.2.2.2.2.1
theorem dX10_init_265 : decode cX10_init 265 = .ok (.newarray .int, 2) := dX10_init_255_b.2.2.2.2.2
set_option maxRecDepth 20000 in
theorem dX10_init_267_b : (decode cX10_init 267 = .ok (.putfield 93, 3)) ∧ (decode cX10_init 270 = .ok (.aload_n 0, 1)) ∧ (decode cX10_init 271 = .ok (.bipush 60, 2)) ∧ (decode cX10_init 273 = .ok (.newarray .int, 2)) ∧ (decode cX10_init 275 = .ok (.putfield 96, 3)) ∧ (decode cX10_init 278 = .ok (.aload_n 0, 1)) := by decide +kernel
theorem dX10_init_267 : decode cX10_init 267 = .ok (.putfield 93, 3) := dX10_init_267_b.1
theorem dX10_init_270 : decode cX10_init 270 = .ok (.aload_n 0, 1) := dX10_init_267_b.2.1
theorem dX10_init_271 : decode cX10_init 271 = .ok (.bipush 60, 2) := dX10_init_267_b.2.2.1
theorem dX10_init_273 : decode cX10_init 273 = .ok (.newarray .int, 2) := dX10_init_267_b.2.2.2.1
theorem dX10_init_275 : decode cX10_init 275 = .ok (.putfield 96, 3) := dX10_init_267_b.2.2.2.2.1
theorem dX10_init_278 : decode cX10_init 278 = .ok (.aload_n 0, 1) := dX10_init_267_b.2.2.2.2.2
set_option maxRecDepth 20000 in
theorem dX10_init_279_b : (decode cX10_init 279 = .ok (.bipush 60, 2)) ∧ (decode cX10_init 281 = .ok (.newarray .int, 2)) ∧ (decode cX10_init 283 = .ok (.putfield 99, 3)) ∧ (decode cX10_init 286 = .ok (.aload_n 0, 1)) ∧ (decode cX10_init 287 = .ok (.bipush 60, 2)) ∧ (decode cX10_init 289 = .ok (.newarray .int, 2)) := by decide +kernel
theorem dX10_init_279 : decode cX10_init 279 = .ok (.bipush 60, 2) := dX10_init_279_b.1
theorem dX10_init_281 : decode cX10_init 281 = .ok (.newarray .int, 2) := dX10_init_279_b.2.1
theorem dX10_init_283 : decode cX10_init 283 = .ok (.putfield 99, 3) := dX10_init_279_b.2.2.1
theorem dX10_init_286 : decode cX10_init 286 = .ok (.aload_n 0, 1) := dX10_init_279_b.2.2.2.1
theorem dX10_init_287 : decode cX10_init 287 = .ok (.bipush 60, 2) := dX10_init_279_b.2.2.2.2.1
theorem dX10_init_289 : decode cX10_init 289 = .ok (.newarray .int, 2) := dX10_init_279_b.2.2.2.2.2
set_option maxRecDepth 20000 in
theorem dX10_init_291_b : (decode cX10_init 291 = .ok (.putfield 102, 3)) ∧ (decode cX10_init 294 = .ok (.aload_n 0, 1)) ∧ (decode cX10_init 295 = .ok (.bipush 60, 2)) ∧ (decode cX10_init 297 = .ok (.newarray .int, 2)) ∧ (decode cX10_init 299 = .ok (.putfield 105, 3)) ∧ (decode cX10_init 302 = .ok (.aload_n 0, 1)) := by decide +kernel
theorem dX10_init_291 : decode cX10_init 291 = .ok (.putfield 102, 3) := dX10_init_291_b.1
theorem dX10_init_294 : decode cX10_init 294 = .ok (.aload_n 0, 1) := dX10_init_291_b.2.1
theorem dX10_init_295 : decode cX10_init 295 = .ok (.bipush 60, 2) := dX10_init_291_b.2.2.1
theorem dX10_init_297 : decode cX10_init 297 = .ok (.newarray .int, 2) := dX10_init_291_b.2.2.2.1
theorem dX10_init_299 : decode cX10_init 299 = .ok (.putfield 105, 3) := dX10_init_291_b.2.2.2.2.1
theorem dX10_init_302 : decode cX10_init 302 = .ok (.aload_n 0, 1) := dX10_init_291_b.2.2.2.2.2
set_option maxRecDepth 20000 in
theorem dX10_init_303_b : (decode cX10_init 303 = .ok (.bipush 7, 2)) ∧ (decode cX10_init 305 = .ok (.newarray .int, 2)) ∧ (decode cX10_init 307 = .ok (.putfield 108, 3)) ∧ (decode cX10_init 310 = .ok (.aload_n 0, 1)) ∧ (decode cX10_init 311 = .ok (.bipush 60, 2)) ∧ (decode cX10_init 313 = .ok (.newarray .int, 2)) := by decide +kernel
theorem dX10_init_303 : decode cX10_init 303 = .ok (.bipush 7, 2) := dX10_init_303_b.1
theorem dX10_init_305 : decode cX10_init 305 = .ok (.newarray .int, 2) := dX10_init_303_b.2.1
theorem dX10_init_307 : decode cX10_init 307 = .ok (.putfield 108, 3) := dX10_init_303_b.2.2.1
theorem dX10_init_310 : decode cX10_init 310 = .ok (.aload_n 0, 1) := dX10_init_303_b.2.2.2.1
theorem dX10_init_311 : decode cX10_init 311 = .ok (.bipush 60, 2) := dX10_init_303_b.2.2.2.2.1
theorem dX10_init_313 : decode cX10_init 313 = .ok (.newarray .int, 2) := dX10_init_303_b.2.2.2.2.2
set_option maxRecDepth 20000 in
theorem dX10_init_315_b : (decode cX10_init 315 = .ok (.putfield 111, 3)) ∧ (decode cX10_init 318 = .ok (.aload_n 0, 1)) ∧ (decode cX10_init 319 = .ok (.bipush 7, 2)) ∧ (decode cX10_init 321 = .ok (.newarray .int, 2)) ∧ (decode cX10_init 323 = .ok (.putfield 114, 3)) ∧ (decode cX10_init 326 = .ok (.aload_n 0, 1)) := by decide +kernel
theorem dX10_init_315 : decode cX10_init 315 = .ok (.putfield 111, 3) := dX10_init_315_b.1
theorem dX10_init_318 : decode cX10_init 318 = .ok (.aload_n 0, 1) := dX10_init_315_b.2.1
theorem dX10_init_319 : decode cX10_init 319 = .ok (.bipush 7, 2) := dX10_init_315_b.2.2.1
theorem dX10_init_321 : decode cX10_init 321 = .ok (.newarray .int, 2) := dX10_init_315_b.2.2.2.1
theorem dX10_init_323 : decode cX10_init 323 = .ok (.putfield 114, 3) := dX10_init_315_b.2.2.2.2.1
theorem dX10_init_326 : decode cX10_init 326 = .ok (.aload_n 0, 1) := dX10_init_315_b.2.2.2.2.2
set_option maxRecDepth 20000 in
theorem dX10_init_327_b : (decode cX10_init 327 = .ok (.sipush 1501, 3)) ∧ (decode cX10_init 330 = .ok (.newarray .long, 2)) ∧ (decode cX10_init 332 = .ok (.putfield 117, 3)) ∧ (decode cX10_init 335 = .ok (.aload_n 0, 1)) ∧ (decode cX10_init 336 = .ok (.sipush 1501, 3)) ∧ (decode cX10_init 339 = .ok (.newarray .int, 2)) := by decide +kernel
theorem dX10_init_327 : decode cX10_init 327 = .ok (.sipush 1501, 3) := dX10_init_327_b.1
theorem dX10_init_330 : decode cX10_init 330 = .ok (.newarray .long, 2) := dX10_init_327_b.2.1
theorem dX10_init_332 : decode cX10_init 332 = .ok (.putfield 117, 3) := dX10_init_327_b.2.2.1
theorem dX10_init_335 : decode cX10_init 335 = .ok (.aload_n 0, 1) := dX10_init_327_b.2.2.2.1
theorem dX10_init_336 : decode cX10_init 336 = .ok (.sipush 1501, 3) := dX10_init_327_b.2.2.2.2.1
theorem dX10_init_339 : decode cX10_init 339 = .ok (.newarray .int, 2) := dX10_init_327_b.2.2.2.2.2
set_option maxRecDepth 20000 in
theorem dX10_init_341_b : (decode cX10_init 341 = .ok (.putfield 121, 3)) ∧ (decode cX10_init 344 = .ok (.aload_n 0, 1)) ∧ (decode cX10_init 345 = .ok (.sipush 1501, 3)) ∧ (decode cX10_init 348 = .ok (.newarray .int, 2)) ∧ (decode cX10_init 350 = .ok (.putfield 124, 3)) ∧ (decode cX10_init 353 = .ok (.aload_n 0, 1)) := by decide +kernel
theorem dX10_init_341 : decode cX10_init 341 = .ok (.putfield 121, 3) := dX10_init_341_b.1
theorem dX10_init_344 : decode cX10_init 344 = .ok (.aload_n 0, 1) := dX10_init_341_b.2.1
theorem dX10_init_345 : decode cX10_init 345 = .ok (.sipush 1501, 3) := dX10_init_341_b.2.2.1
theorem dX10_init_348 : decode cX10_init 348 = .ok (.newarray .int, 2) := dX10_init_341_b.2.2.2.1
theorem dX10_init_350 : decode cX10_init 350 = .ok (.putfield 124, 3) := dX10_init_341_b.2.2.2.2.1
theorem dX10_init_353 : decode cX10_init 353 = .ok (.aload_n 0, 1) := dX10_init_341_b.2.2.2.2.2
set_option maxRecDepth 20000 in
theorem dX10_init_354_b : (decode cX10_init 354 = .ok (.sipush 8192, 3)) ∧ (decode cX10_init 357 = .ok (.newarray .int, 2)) ∧ (decode cX10_init 359 = .ok (.putfield 127, 3)) ∧ (decode cX10_init 362 = .ok (.aload_n 0, 1)) ∧ (decode cX10_init 363 = .ok (.sipush 1501, 3)) ∧ (decode cX10_init 366 = .ok (.newarray .boolean, 2)) := by decide +kernel
theorem dX10_init_354 : decode cX10_init 354 = .ok (.sipush 8192, 3) := dX10_init_354_b.1
theorem dX10_init_357 : decode cX10_init 357 = .ok (.newarray .int, 2) := dX10_init_354_b.2.1
theorem dX10_init_359 : decode cX10_init 359 = .ok (.putfield 127, 3) := dX10_init_354_b.2.2.1
theorem dX10_init_362 : decode cX10_init 362 = .ok (.aload_n 0, 1) := dX10_init_354_b.2.2.2.1
theorem dX10_init_363 : decode cX10_init 363 = .ok (.sipush 1501, 3) := dX10_init_354_b.2.2.2.2.1
theorem dX10_init_366 : decode cX10_init 366 = .ok (.newarray .boolean, 2) := dX10_init_354_b.2.2.2.2.2
set_option maxRecDepth 20000 in
theorem dX10_init_368_b : (decode cX10_init 368 = .ok (.putfield 130, 3)) ∧ (decode cX10_init 371 = .ok (.aload_n 0, 1)) ∧ (decode cX10_init 372 = .ok (.bipush 7, 2)) ∧ (decode cX10_init 374 = .ok (.newarray .int, 2)) ∧ (decode cX10_init 376 = .ok (.putfield 134, 3)) ∧ (decode cX10_init 379 = .ok (.aload_n 0, 1)) := by decide +kernel
theorem dX10_init_368 : decode cX10_init 368 = .ok (.putfield 130, 3) := dX10_init_368_b.1
theorem dX10_init_371 : decode cX10_init 371 = .ok (.aload_n 0, 1) := dX10_init_368_b.2.1
theorem dX10_init_372 : decode cX10_init 372 = .ok (.bipush 7, 2) := dX10_init_368_b.2.2.1
theorem dX10_init_374 : decode cX10_init 374 = .ok (.newarray .int, 2) := dX10_init_368_b.2.2.2.1
theorem dX10_init_376 : decode cX10_init 376 = .ok (.putfield 134, 3) := dX10_init_368_b.2.2.2.2.1
theorem dX10_init_379 : decode cX10_init 379 = .ok (.aload_n 0, 1) := dX10_init_368_b.2.2.2.2.2
set_option maxRecDepth 20000 in
theorem dX10_init_380_b : (decode cX10_init 380 = .ok (.bipush 7, 2)) ∧ (decode cX10_init 382 = .ok (.newarray .int, 2)) ∧ (decode cX10_init 384 = .ok (.putfield 137, 3)) ∧ (decode cX10_init 387 = .ok (.aload_n 0, 1)) ∧ (decode cX10_init 388 = .ok (.bipush 7, 2)) ∧ (decode cX10_init 390 = .ok (.newarray .int, 2)) := by decide +kernel
theorem dX10_init_380 : decode cX10_init 380 = .ok (.bipush 7, 2) := dX10_init_380_b.1
theorem dX10_init_382 : decode cX10_init 382 = .ok (.newarray .int, 2) := dX10_init_380_b.2.1
theorem dX10_init_384 : decode cX10_init 384 = .ok (.putfield 137, 3) := dX10_init_380_b.2.2.1
theorem dX10_init_387 : decode cX10_init 387 = .ok (.aload_n 0, 1) := dX10_init_380_b.2.2.2.1
theorem dX10_init_388 : decode cX10_init 388 = .ok (.bipush 7, 2) := dX10_init_380_b.2.2.2.2.1
theorem dX10_init_390 : decode cX10_init 390 = .ok (.newarray .int, 2) := dX10_init_380_b.2.2.2.2.2
set_option maxRecDepth 20000 in
theorem dX10_init_392_b : (decode cX10_init 392 = .ok (.putfield 140, 3)) ∧ (decode cX10_init 395 = .ok (.aload_n 0, 1)) ∧ (decode cX10_init 396 = .ok (.bipush 7, 2)) ∧ (decode cX10_init 398 = .ok (.newarray .int, 2)) ∧ (decode cX10_init 400 = .ok (.putfield 143, 3)) ∧ (decode cX10_init 403 = .ok (.aload_n 0, 1)) := by decide +kernel
theorem dX10_init_392 : decode cX10_init 392 = .ok (.putfield 140, 3) := dX10_init_392_b.1
theorem dX10_init_395 : decode cX10_init 395 = .ok (.aload_n 0, 1) := dX10_init_392_b.2.1
theorem dX10_init_396 : decode cX10_init 396 = .ok (.bipush 7, 2) := dX10_init_392_b.2.2.1
theorem dX10_init_398 : decode cX10_init 398 = .ok (.newarray .int, 2) := dX10_init_392_b.2.2.2.1
theorem dX10_init_400 : decode cX10_init 400 = .ok (.putfield 143, 3) := dX10_init_392_b.2.2.2.2.1
theorem dX10_init_403 : decode cX10_init 403 = .ok (.aload_n 0, 1) := dX10_init_392_b.2.2.2.2.2
set_option maxRecDepth 20000 in
theorem dX10_init_404_b : (decode cX10_init 404 = .ok (.bipush 6, 2)) ∧ (decode cX10_init 406 = .ok (.newarray .int, 2)) ∧ (decode cX10_init 408 = .ok (.putfield 146, 3)) ∧ (decode cX10_init 411 = .ok (.aload_n 0, 1)) ∧ (decode cX10_init 412 = .ok (.bipush 60, 2)) ∧ (decode cX10_init 414 = .ok (.newarray .int, 2)) := by decide +kernel
theorem dX10_init_404 : decode cX10_init 404 = .ok (.bipush 6, 2) := dX10_init_404_b.1
theorem dX10_init_406 : decode cX10_init 406 = .ok (.newarray .int, 2) := dX10_init_404_b.2.1
theorem dX10_init_408 : decode cX10_init 408 = .ok (.putfield 146, 3) := dX10_init_404_b.2.2.1
theorem dX10_init_411 : decode cX10_init 411 = .ok (.aload_n 0, 1) := dX10_init_404_b.2.2.2.1
theorem dX10_init_412 : decode cX10_init 412 = .ok (.bipush 60, 2) := dX10_init_404_b.2.2.2.2.1
theorem dX10_init_414 : decode cX10_init 414 = .ok (.newarray .int, 2) := dX10_init_404_b.2.2.2.2.2
set_option maxRecDepth 20000 in
theorem dX10_init_416_b : (decode cX10_init 416 = .ok (.putfield 149, 3)) ∧ (decode cX10_init 419 = .ok (.aload_n 0, 1)) ∧ (decode cX10_init 420 = .ok (.bipush 60, 2)) ∧ (decode cX10_init 422 = .ok (.newarray .int, 2)) ∧ (decode cX10_init 424 = .ok (.putfield 152, 3)) ∧ (decode cX10_init 427 = .ok (.aload_n 0, 1)) := by decide +kernel
theorem dX10_init_416 : decode cX10_init 416 = .ok (.putfield 149, 3) := dX10_init_416_b.1
theorem dX10_init_419 : decode cX10_init 419 = .ok (.aload_n 0, 1) := dX10_init_416_b.2.1
theorem dX10_init_420 : decode cX10_init 420 = .ok (.bipush 60, 2) := dX10_init_416_b.2.2.1
theorem dX10_init_422 : decode cX10_init 422 = .ok (.newarray .int, 2) := dX10_init_416_b.2.2.2.1
theorem dX10_init_424 : decode cX10_init 424 = .ok (.putfield 152, 3) := dX10_init_416_b.2.2.2.2.1
theorem dX10_init_427 : decode cX10_init 427 = .ok (.aload_n 0, 1) := dX10_init_416_b.2.2.2.2.2
set_option maxRecDepth 20000 in
theorem dX10_init_428_b : (decode cX10_init 428 = .ok (.bipush 60, 2)) ∧ (decode cX10_init 430 = .ok (.newarray .int, 2)) ∧ (decode cX10_init 432 = .ok (.putfield 155, 3)) ∧ (decode cX10_init 435 = .ok (.aload_n 0, 1)) ∧ (decode cX10_init 436 = .ok (.bipush 60, 2)) ∧ (decode cX10_init 438 = .ok (.newarray .int, 2)) := by decide +kernel
theorem dX10_init_428 : decode cX10_init 428 = .ok (.bipush 60, 2) := dX10_init_428_b.1
theorem dX10_init_430 : decode cX10_init 430 = .ok (.newarray .int, 2) := dX10_init_428_b.2.1
theorem dX10_init_432 : decode cX10_init 432 = .ok (.putfield 155, 3) := dX10_init_428_b.2.2.1
theorem dX10_init_435 : decode cX10_init 435 = .ok (.aload_n 0, 1) := dX10_init_428_b.2.2.2.1
theorem dX10_init_436 : decode cX10_init 436 = .ok (.bipush 60, 2) := dX10_init_428_b.2.2.2.2.1
theorem dX10_init_438 : decode cX10_init 438 = .ok (.newarray .int, 2) := dX10_init_428_b.2.2.2.2.2
set_option maxRecDepth 20000 in
theorem dX10_init_440_b : (decode cX10_init 440 = .ok (.putfield 158, 3)) ∧ (decode cX10_init 443 = .ok (.aload_n 0, 1)) ∧ (decode cX10_init 444 = .ok (.bipush 60, 2)) ∧ (decode cX10_init 446 = .ok (.newarray .int, 2)) ∧ (decode cX10_init 448 = .ok (.putfield 161, 3)) ∧ (decode cX10_init 451 = .ok (.aload_n 0, 1)) := by decide +kernel
theorem dX10_init_440 : decode cX10_init 440 = .ok (.putfield 158, 3) := dX10_init_440_b.1
theorem dX10_init_443 : decode cX10_init 443 = .ok (.aload_n 0, 1) := dX10_init_440_b.2.1
theorem dX10_init_444 : decode cX10_init 444 = .ok (.bipush 60, 2) := dX10_init_440_b.2.2.1
theorem dX10_init_446 : decode cX10_init 446 = .ok (.newarray .int, 2) := dX10_init_440_b.2.2.2.1
theorem dX10_init_448 : decode cX10_init 448 = .ok (.putfield 161, 3) := dX10_init_440_b.2.2.2.2.1
theorem dX10_init_451 : decode cX10_init 451 = .ok (.aload_n 0, 1) := dX10_init_440_b.2.2.2.2.2
set_option maxRecDepth 20000 in
theorem dX10_init_452_b : (decode cX10_init 452 = .ok (.iconst 3, 1)) ∧ (decode cX10_init 453 = .ok (.newarray .int, 2)) ∧ (decode cX10_init 455 = .ok (.putfield 164, 3)) ∧ (decode cX10_init 458 = .ok (.aload_n 0, 1)) ∧ (decode cX10_init 459 = .ok (.iconst 0, 1)) ∧ (decode cX10_init 460 = .ok (.invokevirtual 167, 3)) := by decide +kernel
theorem dX10_init_452 : decode cX10_init 452 = .ok (.iconst 3, 1) := dX10_init_452_b.1
theorem dX10_init_453 : decode cX10_init 453 = .ok (.newarray .int, 2) := dX10_init_452_b.2.1
theorem dX10_init_455 : decode cX10_init 455 = .ok (.putfield 164, 3) := dX10_init_452_b.2.2.1
theorem dX10_init_458 : decode cX10_init 458 = .ok (.aload_n 0, 1) := dX10_init_452_b.2.2.2.1
theorem dX10_init_459 : decode cX10_init 459 = .ok (.iconst 0, 1) := dX10_init_452_b.2.2.2.2.1
theorem dX10_init_460 : decode cX10_init 460 = .ok (.invokevirtual 167, 3) := dX10_init_452_b.2.2.2.2.2
theorem dX10_init_463 : decode cX10_init 463 = .ok (.return_, 1) := by decide +kernel
set_option maxRecDepth 20000 in
theorem dL_law_0_b : (decode cL_law 0 = .ok (.new 8, 3)) ∧ (decode cL_law 3 = .ok (.dup, 1)) ∧ (decode cL_law 4 = .ok (.invokespecial 42, 3)) ∧ (decode cL_law 7 = .ok (.astore_n 1, 1)) ∧ (decode cL_law 8 = .ok (.new 43, 3)) ∧ (decode cL_law 11 = .ok (.dup, 1)) := by decide +kernel
theorem dL_law_0 : decode cL_law 0 = .ok (.new 8, 3) := dL_law_0_b.1
theorem dL_law_3 : decode cL_law 3 = .ok (.dup, 1) := dL_law_0_b.2.1
theorem dL_law_4 : decode cL_law 4 = .ok (.invokespecial 42, 3) := dL_law_0_b.2.2.1
theorem dL_law_7 : decode cL_law 7 = .ok (.astore_n 1, 1) := dL_law_0_b.2.2.2.1
theorem dL_law_8 : decode cL_law 8 = .ok (.new 43, 3) := dL_law_0_b.2.2.2.2.1
theorem dL_law_11 : decode cL_law 11 = .ok (.dup, 1) := dL_law_0_b.2.2.2.2.2
set_option maxRecDepth 20000 in
theorem dL_law_12_b : (decode cL_law 12 = .ok (.invokespecial 45, 3)) ∧ (decode cL_law 15 = .ok (.astore_n 2, 1)) ∧ (decode cL_law 16 = .ok (.iconst 1, 1)) ∧ (decode cL_law 17 = .ok (.newarray .long, 2)) ∧ (decode cL_law 19 = .ok (.astore_n 3, 1)) ∧ (decode cL_law 20 = .ok (.iconst 0, 1)) := by decide +kernel
theorem dL_law_12 : decode cL_law 12 = .ok (.invokespecial 45, 3) := dL_law_12_b.1
theorem dL_law_15 : decode cL_law 15 = .ok (.astore_n 2, 1) := dL_law_12_b.2.1
theorem dL_law_16 : decode cL_law 16 = .ok (.iconst 1, 1) := dL_law_12_b.2.2.1
theorem dL_law_17 : decode cL_law 17 = .ok (.newarray .long, 2) := dL_law_12_b.2.2.2.1
theorem dL_law_19 : decode cL_law 19 = .ok (.astore_n 3, 1) := dL_law_12_b.2.2.2.2.1
theorem dL_law_20 : decode cL_law 20 = .ok (.iconst 0, 1) := dL_law_12_b.2.2.2.2.2
set_option maxRecDepth 20000 in
theorem dL_law_21_b : (decode cL_law 21 = .ok (.istore 4, 2)) ∧ (decode cL_law 23 = .ok (.iload 4, 2)) ∧ (decode cL_law 25 = .ok (.aload_n 0, 1)) ∧ (decode cL_law 26 = .ok (.arraylength, 1)) ∧ (decode cL_law 27 = .ok (.bipush 6, 2)) ∧ (decode cL_law 29 = .ok (.isub, 1)) := by decide +kernel
theorem dL_law_21 : decode cL_law 21 = .ok (.istore 4, 2) := dL_law_21_b.1
theorem dL_law_23 : decode cL_law 23 = .ok (.iload 4, 2) := dL_law_21_b.2.1
theorem dL_law_25 : decode cL_law 25 = .ok (.aload_n 0, 1) := dL_law_21_b.2.2.1
theorem dL_law_26 : decode cL_law 26 = .ok (.arraylength, 1) := dL_law_21_b.2.2.2.1
theorem dL_law_27 : decode cL_law 27 = .ok (.bipush 6, 2) := dL_law_21_b.2.2.2.2.1
theorem dL_law_29 : decode cL_law 29 = .ok (.isub, 1) := dL_law_21_b.2.2.2.2.2
set_option maxRecDepth 20000 in
theorem dL_law_30_b : (decode cL_law 30 = .ok (.if_icmp .gt 754, 3)) ∧ (decode cL_law 33 = .ok (.aload_n 0, 1)) ∧ (decode cL_law 34 = .ok (.iload 4, 2)) ∧ (decode cL_law 36 = .ok (.iaload, 1)) ∧ (decode cL_law 37 = .ok (.bipush 31, 2)) ∧ (decode cL_law 39 = .ok (.iand, 1)) := by decide +kernel
theorem dL_law_30 : decode cL_law 30 = .ok (.if_icmp .gt 754, 3) := dL_law_30_b.1
theorem dL_law_33 : decode cL_law 33 = .ok (.aload_n 0, 1) := dL_law_30_b.2.1
theorem dL_law_34 : decode cL_law 34 = .ok (.iload 4, 2) := dL_law_30_b.2.2.1
theorem dL_law_36 : decode cL_law 36 = .ok (.iaload, 1) := dL_law_30_b.2.2.2.1
theorem dL_law_37 : decode cL_law 37 = .ok (.bipush 31, 2) := dL_law_30_b.2.2.2.2.1
theorem dL_law_39 : decode cL_law 39 = .ok (.iand, 1) := dL_law_30_b.2.2.2.2.2
set_option maxRecDepth 20000 in
theorem dL_law_40_b : (decode cL_law 40 = .ok (.tableswitch 738 0 20 #[100, 173, 201, 214, 242, 282, 322, 359, 384, 421, 446, 471, 484, 552, 565, 593, 621, 661, 686, 714, 725], 100)) ∧ (decode cL_law 140 = .ok (.aload_n 1, 1)) ∧ (decode cL_law 141 = .ok (.aload_n 0, 1)) ∧ (decode cL_law 142 = .ok (.iload 4, 2)) ∧ (decode cL_law 144 = .ok (.iconst 1, 1)) ∧ (decode cL_law 145 = .ok (.iadd, 1)) := by decide +kernel
theorem dL_law_40 : decode cL_law 40 = .ok (.tableswitch 738 0 20 #[100, 173, 201, 214, 242, 282, 322, 359, 384, 421, 446, 471, 484, 552, 565, 593, 621, 661, 686, 714, 725], 100) := dL_law_40_b.1
theorem dL_law_140 : decode cL_law 140 = .ok (.aload_n 1, 1) := dL_law_40_b.2.1
theorem dL_law_141 : decode cL_law 141 = .ok (.aload_n 0, 1) := dL_law_40_b.2.2.1
theorem dL_law_142 : decode cL_law 142 = .ok (.iload 4, 2) := dL_law_40_b.2.2.2.1
theorem dL_law_144 : decode cL_law 144 = .ok (.iconst 1, 1) := dL_law_40_b.2.2.2.2.1
theorem dL_law_145 : decode cL_law 145 = .ok (.iadd, 1) := dL_law_40_b.2.2.2.2.2
set_option maxRecDepth 20000 in
theorem dL_law_146_b : (decode cL_law 146 = .ok (.iaload, 1)) ∧ (decode cL_law 147 = .ok (.aload_n 0, 1)) ∧ (decode cL_law 148 = .ok (.iload 4, 2)) ∧ (decode cL_law 150 = .ok (.iconst 2, 1)) ∧ (decode cL_law 151 = .ok (.iadd, 1)) ∧ (decode cL_law 152 = .ok (.iaload, 1)) := by decide +kernel
theorem dL_law_146 : decode cL_law 146 = .ok (.iaload, 1) := dL_law_146_b.1
theorem dL_law_147 : decode cL_law 147 = .ok (.aload_n 0, 1) := dL_law_146_b.2.1
theorem dL_law_148 : decode cL_law 148 = .ok (.iload 4, 2) := dL_law_146_b.2.2.1
theorem dL_law_150 : decode cL_law 150 = .ok (.iconst 2, 1) := dL_law_146_b.2.2.2.1
theorem dL_law_151 : decode cL_law 151 = .ok (.iadd, 1) := dL_law_146_b.2.2.2.2.1
theorem dL_law_152 : decode cL_law 152 = .ok (.iaload, 1) := dL_law_146_b.2.2.2.2.2
set_option maxRecDepth 20000 in
theorem dL_law_153_b : (decode cL_law 153 = .ok (.aload_n 0, 1)) ∧ (decode cL_law 154 = .ok (.iload 4, 2)) ∧ (decode cL_law 156 = .ok (.iconst 3, 1)) ∧ (decode cL_law 157 = .ok (.iadd, 1)) ∧ (decode cL_law 158 = .ok (.iaload, 1)) ∧ (decode cL_law 159 = .ok (.aload_n 0, 1)) := by decide +kernel
theorem dL_law_153 : decode cL_law 153 = .ok (.aload_n 0, 1) := dL_law_153_b.1
theorem dL_law_154 : decode cL_law 154 = .ok (.iload 4, 2) := dL_law_153_b.2.1
theorem dL_law_156 : decode cL_law 156 = .ok (.iconst 3, 1) := dL_law_153_b.2.2.1
theorem dL_law_157 : decode cL_law 157 = .ok (.iadd, 1) := dL_law_153_b.2.2.2.1
theorem dL_law_158 : decode cL_law 158 = .ok (.iaload, 1) := dL_law_153_b.2.2.2.2.1
theorem dL_law_159 : decode cL_law 159 = .ok (.aload_n 0, 1) := dL_law_153_b.2.2.2.2.2
set_option maxRecDepth 20000 in
theorem dL_law_160_b : (decode cL_law 160 = .ok (.iload 4, 2)) ∧ (decode cL_law 162 = .ok (.iconst 4, 1)) ∧ (decode cL_law 163 = .ok (.iadd, 1)) ∧ (decode cL_law 164 = .ok (.iaload, 1)) ∧ (decode cL_law 165 = .ok (.aload_n 0, 1)) ∧ (decode cL_law 166 = .ok (.iload 4, 2)) := by decide +kernel
theorem dL_law_160 : decode cL_law 160 = .ok (.iload 4, 2) := dL_law_160_b.1
theorem dL_law_162 : decode cL_law 162 = .ok (.iconst 4, 1) := dL_law_160_b.2.1
theorem dL_law_163 : decode cL_law 163 = .ok (.iadd, 1) := dL_law_160_b.2.2.1
theorem dL_law_164 : decode cL_law 164 = .ok (.iaload, 1) := dL_law_160_b.2.2.2.1
theorem dL_law_165 : decode cL_law 165 = .ok (.aload_n 0, 1) := dL_law_160_b.2.2.2.2.1
theorem dL_law_166 : decode cL_law 166 = .ok (.iload 4, 2) := dL_law_160_b.2.2.2.2.2
set_option maxRecDepth 20000 in
theorem dL_law_168_b : (decode cL_law 168 = .ok (.iconst 5, 1)) ∧ (decode cL_law 169 = .ok (.iadd, 1)) ∧ (decode cL_law 170 = .ok (.iaload, 1)) ∧ (decode cL_law 171 = .ok (.invokevirtual 46, 3)) ∧ (decode cL_law 174 = .ok (.pop, 1)) ∧ (decode cL_law 175 = .ok (.aload_n 2, 1)) := by decide +kernel
theorem dL_law_168 : decode cL_law 168 = .ok (.iconst 5, 1) := dL_law_168_b.1
theorem dL_law_169 : decode cL_law 169 = .ok (.iadd, 1) := dL_law_168_b.2.1
theorem dL_law_170 : decode cL_law 170 = .ok (.iaload, 1) := dL_law_168_b.2.2.1
theorem dL_law_171 : decode cL_law 171 = .ok (.invokevirtual 46, 3) := dL_law_168_b.2.2.2.1
theorem dL_law_174 : decode cL_law 174 = .ok (.pop, 1) := dL_law_168_b.2.2.2.2.1
theorem dL_law_175 : decode cL_law 175 = .ok (.aload_n 2, 1) := dL_law_168_b.2.2.2.2.2
set_option maxRecDepth 20000 in
theorem dL_law_176_b : (decode cL_law 176 = .ok (.aload_n 0, 1)) ∧ (decode cL_law 177 = .ok (.iload 4, 2)) ∧ (decode cL_law 179 = .ok (.iconst 1, 1)) ∧ (decode cL_law 180 = .ok (.iadd, 1)) ∧ (decode cL_law 181 = .ok (.iaload, 1)) ∧ (decode cL_law 182 = .ok (.aload_n 0, 1)) := by decide +kernel
theorem dL_law_176 : decode cL_law 176 = .ok (.aload_n 0, 1) := dL_law_176_b.1
theorem dL_law_177 : decode cL_law 177 = .ok (.iload 4, 2) := dL_law_176_b.2.1
theorem dL_law_179 : decode cL_law 179 = .ok (.iconst 1, 1) := dL_law_176_b.2.2.1
theorem dL_law_180 : decode cL_law 180 = .ok (.iadd, 1) := dL_law_176_b.2.2.2.1
theorem dL_law_181 : decode cL_law 181 = .ok (.iaload, 1) := dL_law_176_b.2.2.2.2.1
theorem dL_law_182 : decode cL_law 182 = .ok (.aload_n 0, 1) := dL_law_176_b.2.2.2.2.2
set_option maxRecDepth 20000 in
theorem dL_law_183_b : (decode cL_law 183 = .ok (.iload 4, 2)) ∧ (decode cL_law 185 = .ok (.iconst 2, 1)) ∧ (decode cL_law 186 = .ok (.iadd, 1)) ∧ (decode cL_law 187 = .ok (.iaload, 1)) ∧ (decode cL_law 188 = .ok (.aload_n 0, 1)) ∧ (decode cL_law 189 = .ok (.iload 4, 2)) := by decide +kernel
theorem dL_law_183 : decode cL_law 183 = .ok (.iload 4, 2) := dL_law_183_b.1
theorem dL_law_185 : decode cL_law 185 = .ok (.iconst 2, 1) := dL_law_183_b.2.1
theorem dL_law_186 : decode cL_law 186 = .ok (.iadd, 1) := dL_law_183_b.2.2.1
theorem dL_law_187 : decode cL_law 187 = .ok (.iaload, 1) := dL_law_183_b.2.2.2.1
theorem dL_law_188 : decode cL_law 188 = .ok (.aload_n 0, 1) := dL_law_183_b.2.2.2.2.1
theorem dL_law_189 : decode cL_law 189 = .ok (.iload 4, 2) := dL_law_183_b.2.2.2.2.2
set_option maxRecDepth 20000 in
theorem dL_law_191_b : (decode cL_law 191 = .ok (.iconst 3, 1)) ∧ (decode cL_law 192 = .ok (.iadd, 1)) ∧ (decode cL_law 193 = .ok (.iaload, 1)) ∧ (decode cL_law 194 = .ok (.aload_n 0, 1)) ∧ (decode cL_law 195 = .ok (.iload 4, 2)) ∧ (decode cL_law 197 = .ok (.iconst 4, 1)) := by decide +kernel
theorem dL_law_191 : decode cL_law 191 = .ok (.iconst 3, 1) := dL_law_191_b.1
theorem dL_law_192 : decode cL_law 192 = .ok (.iadd, 1) := dL_law_191_b.2.1
theorem dL_law_193 : decode cL_law 193 = .ok (.iaload, 1) := dL_law_191_b.2.2.1
theorem dL_law_194 : decode cL_law 194 = .ok (.aload_n 0, 1) := dL_law_191_b.2.2.2.1
theorem dL_law_195 : decode cL_law 195 = .ok (.iload 4, 2) := dL_law_191_b.2.2.2.2.1
theorem dL_law_197 : decode cL_law 197 = .ok (.iconst 4, 1) := dL_law_191_b.2.2.2.2.2
set_option maxRecDepth 20000 in
theorem dL_law_198_b : (decode cL_law 198 = .ok (.iadd, 1)) ∧ (decode cL_law 199 = .ok (.iaload, 1)) ∧ (decode cL_law 200 = .ok (.aload_n 0, 1)) ∧ (decode cL_law 201 = .ok (.iload 4, 2)) ∧ (decode cL_law 203 = .ok (.iconst 5, 1)) ∧ (decode cL_law 204 = .ok (.iadd, 1)) := by decide +kernel
theorem dL_law_198 : decode cL_law 198 = .ok (.iadd, 1) := dL_law_198_b.1
theorem dL_law_199 : decode cL_law 199 = .ok (.iaload, 1) := dL_law_198_b.2.1
theorem dL_law_200 : decode cL_law 200 = .ok (.aload_n 0, 1) := dL_law_198_b.2.2.1
theorem dL_law_201 : decode cL_law 201 = .ok (.iload 4, 2) := dL_law_198_b.2.2.2.1
theorem dL_law_203 : decode cL_law 203 = .ok (.iconst 5, 1) := dL_law_198_b.2.2.2.2.1
theorem dL_law_204 : decode cL_law 204 = .ok (.iadd, 1) := dL_law_198_b.2.2.2.2.2
set_option maxRecDepth 20000 in
theorem dL_law_205_b : (decode cL_law 205 = .ok (.iaload, 1)) ∧ (decode cL_law 206 = .ok (.invokevirtual 50, 3)) ∧ (decode cL_law 209 = .ok (.pop, 1)) ∧ (decode cL_law 210 = .ok (.goto 568, 3)) ∧ (decode cL_law 213 = .ok (.aload_n 1, 1)) ∧ (decode cL_law 214 = .ok (.aload_n 0, 1)) := by decide +kernel
theorem dL_law_205 : decode cL_law 205 = .ok (.iaload, 1) := dL_law_205_b.1
theorem dL_law_206 : decode cL_law 206 = .ok (.invokevirtual 50, 3) := dL_law_205_b.2.1
theorem dL_law_209 : decode cL_law 209 = .ok (.pop, 1) := dL_law_205_b.2.2.1
theorem dL_law_210 : decode cL_law 210 = .ok (.goto 568, 3) := dL_law_205_b.2.2.2.1
theorem dL_law_213 : decode cL_law 213 = .ok (.aload_n 1, 1) := dL_law_205_b.2.2.2.2.1
theorem dL_law_214 : decode cL_law 214 = .ok (.aload_n 0, 1) := dL_law_205_b.2.2.2.2.2
set_option maxRecDepth 20000 in
theorem dL_law_215_b : (decode cL_law 215 = .ok (.iload 4, 2)) ∧ (decode cL_law 217 = .ok (.iconst 1, 1)) ∧ (decode cL_law 218 = .ok (.iadd, 1)) ∧ (decode cL_law 219 = .ok (.iaload, 1)) ∧ (decode cL_law 220 = .ok (.aload_n 3, 1)) ∧ (decode cL_law 221 = .ok (.invokestatic 51, 3)) := by decide +kernel
theorem dL_law_215 : decode cL_law 215 = .ok (.iload 4, 2) := dL_law_215_b.1
theorem dL_law_217 : decode cL_law 217 = .ok (.iconst 1, 1) := dL_law_215_b.2.1
theorem dL_law_218 : decode cL_law 218 = .ok (.iadd, 1) := dL_law_215_b.2.2.1
theorem dL_law_219 : decode cL_law 219 = .ok (.iaload, 1) := dL_law_215_b.2.2.2.1
theorem dL_law_220 : decode cL_law 220 = .ok (.aload_n 3, 1) := dL_law_215_b.2.2.2.2.1
theorem dL_law_221 : decode cL_law 221 = .ok (.invokestatic 51, 3) := dL_law_215_b.2.2.2.2.2
set_option maxRecDepth 20000 in
theorem dL_law_224_b : (decode cL_law 224 = .ok (.istore 5, 2)) ∧ (decode cL_law 226 = .ok (.aload_n 2, 1)) ∧ (decode cL_law 227 = .ok (.aload_n 0, 1)) ∧ (decode cL_law 228 = .ok (.iload 4, 2)) ∧ (decode cL_law 230 = .ok (.iconst 1, 1)) ∧ (decode cL_law 231 = .ok (.iadd, 1)) := by decide +kernel
theorem dL_law_224 : decode cL_law 224 = .ok (.istore 5, 2) := dL_law_224_b.1
theorem dL_law_226 : decode cL_law 226 = .ok (.aload_n 2, 1) := dL_law_224_b.2.1
theorem dL_law_227 : decode cL_law 227 = .ok (.aload_n 0, 1) := dL_law_224_b.2.2.1
theorem dL_law_228 : decode cL_law 228 = .ok (.iload 4, 2) := dL_law_224_b.2.2.2.1
theorem dL_law_230 : decode cL_law 230 = .ok (.iconst 1, 1) := dL_law_224_b.2.2.2.2.1
theorem dL_law_231 : decode cL_law 231 = .ok (.iadd, 1) := dL_law_224_b.2.2.2.2.2
set_option maxRecDepth 20000 in
theorem dL_law_232_b : (decode cL_law 232 = .ok (.iaload, 1)) ∧ (decode cL_law 233 = .ok (.invokevirtual 56, 3)) ∧ (decode cL_law 236 = .ok (.istore 6, 2)) ∧ (decode cL_law 238 = .ok (.goto 540, 3)) ∧ (decode cL_law 241 = .ok (.aload_n 1, 1)) ∧ (decode cL_law 242 = .ok (.invokevirtual 57, 3)) := by decide +kernel
theorem dL_law_232 : decode cL_law 232 = .ok (.iaload, 1) := dL_law_232_b.1
theorem dL_law_233 : decode cL_law 233 = .ok (.invokevirtual 56, 3) := dL_law_232_b.2.1
theorem dL_law_236 : decode cL_law 236 = .ok (.istore 6, 2) := dL_law_232_b.2.2.1
theorem dL_law_238 : decode cL_law 238 = .ok (.goto 540, 3) := dL_law_232_b.2.2.2.1
theorem dL_law_241 : decode cL_law 241 = .ok (.aload_n 1, 1) := dL_law_232_b.2.2.2.2.1
theorem dL_law_242 : decode cL_law 242 = .ok (.invokevirtual 57, 3) := dL_law_232_b.2.2.2.2.2
set_option maxRecDepth 20000 in
theorem dL_law_245_b : (decode cL_law 245 = .ok (.pop, 1)) ∧ (decode cL_law 246 = .ok (.aload_n 2, 1)) ∧ (decode cL_law 247 = .ok (.invokevirtual 61, 3)) ∧ (decode cL_law 250 = .ok (.pop, 1)) ∧ (decode cL_law 251 = .ok (.goto 527, 3)) ∧ (decode cL_law 254 = .ok (.aload_n 1, 1)) := by decide +kernel
theorem dL_law_245 : decode cL_law 245 = .ok (.pop, 1) := dL_law_245_b.1
theorem dL_law_246 : decode cL_law 246 = .ok (.aload_n 2, 1) := dL_law_245_b.2.1
theorem dL_law_247 : decode cL_law 247 = .ok (.invokevirtual 61, 3) := dL_law_245_b.2.2.1
theorem dL_law_250 : decode cL_law 250 = .ok (.pop, 1) := dL_law_245_b.2.2.2.1
theorem dL_law_251 : decode cL_law 251 = .ok (.goto 527, 3) := dL_law_245_b.2.2.2.2.1
theorem dL_law_254 : decode cL_law 254 = .ok (.aload_n 1, 1) := dL_law_245_b.2.2.2.2.2
set_option maxRecDepth 20000 in
theorem dL_law_255_b : (decode cL_law 255 = .ok (.aload_n 0, 1)) ∧ (decode cL_law 256 = .ok (.iload 4, 2)) ∧ (decode cL_law 258 = .ok (.iconst 1, 1)) ∧ (decode cL_law 259 = .ok (.iadd, 1)) ∧ (decode cL_law 260 = .ok (.iaload, 1)) ∧ (decode cL_law 261 = .ok (.aload_n 3, 1)) := by decide +kernel
theorem dL_law_255 : decode cL_law 255 = .ok (.aload_n 0, 1) := dL_law_255_b.1
theorem dL_law_256 : decode cL_law 256 = .ok (.iload 4, 2) := dL_law_255_b.2.1
theorem dL_law_258 : decode cL_law 258 = .ok (.iconst 1, 1) := dL_law_255_b.2.2.1
theorem dL_law_259 : decode cL_law 259 = .ok (.iadd, 1) := dL_law_255_b.2.2.2.1
theorem dL_law_260 : decode cL_law 260 = .ok (.iaload, 1) := dL_law_255_b.2.2.2.2.1
theorem dL_law_261 : decode cL_law 261 = .ok (.aload_n 3, 1) := dL_law_255_b.2.2.2.2.2
set_option maxRecDepth 20000 in
theorem dL_law_262_b : (decode cL_law 262 = .ok (.invokestatic 62, 3)) ∧ (decode cL_law 265 = .ok (.istore 5, 2)) ∧ (decode cL_law 267 = .ok (.aload_n 2, 1)) ∧ (decode cL_law 268 = .ok (.aload_n 0, 1)) ∧ (decode cL_law 269 = .ok (.iload 4, 2)) ∧ (decode cL_law 271 = .ok (.iconst 1, 1)) := by decide +kernel
theorem dL_law_262 : decode cL_law 262 = .ok (.invokestatic 62, 3) := dL_law_262_b.1
theorem dL_law_265 : decode cL_law 265 = .ok (.istore 5, 2) := dL_law_262_b.2.1
theorem dL_law_267 : decode cL_law 267 = .ok (.aload_n 2, 1) := dL_law_262_b.2.2.1
theorem dL_law_268 : decode cL_law 268 = .ok (.aload_n 0, 1) := dL_law_262_b.2.2.2.1
theorem dL_law_269 : decode cL_law 269 = .ok (.iload 4, 2) := dL_law_262_b.2.2.2.2.1
theorem dL_law_271 : decode cL_law 271 = .ok (.iconst 1, 1) := dL_law_262_b.2.2.2.2.2
set_option maxRecDepth 20000 in
theorem dL_law_272_b : (decode cL_law 272 = .ok (.iadd, 1)) ∧ (decode cL_law 273 = .ok (.iaload, 1)) ∧ (decode cL_law 274 = .ok (.invokevirtual 64, 3)) ∧ (decode cL_law 277 = .ok (.istore 6, 2)) ∧ (decode cL_law 279 = .ok (.goto 499, 3)) ∧ (decode cL_law 282 = .ok (.aload_n 1, 1)) := by decide +kernel
theorem dL_law_272 : decode cL_law 272 = .ok (.iadd, 1) := dL_law_272_b.1
theorem dL_law_273 : decode cL_law 273 = .ok (.iaload, 1) := dL_law_272_b.2.1
theorem dL_law_274 : decode cL_law 274 = .ok (.invokevirtual 64, 3) := dL_law_272_b.2.2.1
theorem dL_law_277 : decode cL_law 277 = .ok (.istore 6, 2) := dL_law_272_b.2.2.2.1
theorem dL_law_279 : decode cL_law 279 = .ok (.goto 499, 3) := dL_law_272_b.2.2.2.2.1
theorem dL_law_282 : decode cL_law 282 = .ok (.aload_n 1, 1) := dL_law_272_b.2.2.2.2.2
set_option maxRecDepth 20000 in
theorem dL_law_283_b : (decode cL_law 283 = .ok (.aload_n 0, 1)) ∧ (decode cL_law 284 = .ok (.iload 4, 2)) ∧ (decode cL_law 286 = .ok (.iconst 1, 1)) ∧ (decode cL_law 287 = .ok (.iadd, 1)) ∧ (decode cL_law 288 = .ok (.iaload, 1)) ∧ (decode cL_law 289 = .ok (.aload_n 0, 1)) := by decide +kernel
theorem dL_law_283 : decode cL_law 283 = .ok (.aload_n 0, 1) := dL_law_283_b.1
theorem dL_law_284 : decode cL_law 284 = .ok (.iload 4, 2) := dL_law_283_b.2.1
theorem dL_law_286 : decode cL_law 286 = .ok (.iconst 1, 1) := dL_law_283_b.2.2.1
theorem dL_law_287 : decode cL_law 287 = .ok (.iadd, 1) := dL_law_283_b.2.2.2.1
theorem dL_law_288 : decode cL_law 288 = .ok (.iaload, 1) := dL_law_283_b.2.2.2.2.1
theorem dL_law_289 : decode cL_law 289 = .ok (.aload_n 0, 1) := dL_law_283_b.2.2.2.2.2
set_option maxRecDepth 20000 in
theorem dL_law_290_b : (decode cL_law 290 = .ok (.iload 4, 2)) ∧ (decode cL_law 292 = .ok (.iconst 2, 1)) ∧ (decode cL_law 293 = .ok (.iadd, 1)) ∧ (decode cL_law 294 = .ok (.iaload, 1)) ∧ (decode cL_law 295 = .ok (.aload_n 3, 1)) ∧ (decode cL_law 296 = .ok (.invokestatic 65, 3)) := by decide +kernel
theorem dL_law_290 : decode cL_law 290 = .ok (.iload 4, 2) := dL_law_290_b.1
theorem dL_law_292 : decode cL_law 292 = .ok (.iconst 2, 1) := dL_law_290_b.2.1
theorem dL_law_293 : decode cL_law 293 = .ok (.iadd, 1) := dL_law_290_b.2.2.1
theorem dL_law_294 : decode cL_law 294 = .ok (.iaload, 1) := dL_law_290_b.2.2.2.1
theorem dL_law_295 : decode cL_law 295 = .ok (.aload_n 3, 1) := dL_law_290_b.2.2.2.2.1
theorem dL_law_296 : decode cL_law 296 = .ok (.invokestatic 65, 3) := dL_law_290_b.2.2.2.2.2
set_option maxRecDepth 20000 in
theorem dL_law_299_b : (decode cL_law 299 = .ok (.istore 5, 2)) ∧ (decode cL_law 301 = .ok (.aload_n 2, 1)) ∧ (decode cL_law 302 = .ok (.aload_n 0, 1)) ∧ (decode cL_law 303 = .ok (.iload 4, 2)) ∧ (decode cL_law 305 = .ok (.iconst 1, 1)) ∧ (decode cL_law 306 = .ok (.iadd, 1)) := by decide +kernel
theorem dL_law_299 : decode cL_law 299 = .ok (.istore 5, 2) := dL_law_299_b.1
theorem dL_law_301 : decode cL_law 301 = .ok (.aload_n 2, 1) := dL_law_299_b.2.1
theorem dL_law_302 : decode cL_law 302 = .ok (.aload_n 0, 1) := dL_law_299_b.2.2.1
theorem dL_law_303 : decode cL_law 303 = .ok (.iload 4, 2) := dL_law_299_b.2.2.2.1
theorem dL_law_305 : decode cL_law 305 = .ok (.iconst 1, 1) := dL_law_299_b.2.2.2.2.1
theorem dL_law_306 : decode cL_law 306 = .ok (.iadd, 1) := dL_law_299_b.2.2.2.2.2
set_option maxRecDepth 20000 in
theorem dL_law_307_b : (decode cL_law 307 = .ok (.iaload, 1)) ∧ (decode cL_law 308 = .ok (.aload_n 0, 1)) ∧ (decode cL_law 309 = .ok (.iload 4, 2)) ∧ (decode cL_law 311 = .ok (.iconst 2, 1)) ∧ (decode cL_law 312 = .ok (.iadd, 1)) ∧ (decode cL_law 313 = .ok (.iaload, 1)) := by decide +kernel
theorem dL_law_307 : decode cL_law 307 = .ok (.iaload, 1) := dL_law_307_b.1
theorem dL_law_308 : decode cL_law 308 = .ok (.aload_n 0, 1) := dL_law_307_b.2.1
theorem dL_law_309 : decode cL_law 309 = .ok (.iload 4, 2) := dL_law_307_b.2.2.1
theorem dL_law_311 : decode cL_law 311 = .ok (.iconst 2, 1) := dL_law_307_b.2.2.2.1
theorem dL_law_312 : decode cL_law 312 = .ok (.iadd, 1) := dL_law_307_b.2.2.2.2.1
theorem dL_law_313 : decode cL_law 313 = .ok (.iaload, 1) := dL_law_307_b.2.2.2.2.2
set_option maxRecDepth 20000 in
theorem dL_law_314_b : (decode cL_law 314 = .ok (.invokevirtual 68, 3)) ∧ (decode cL_law 317 = .ok (.istore 6, 2)) ∧ (decode cL_law 319 = .ok (.goto 459, 3)) ∧ (decode cL_law 322 = .ok (.aload_n 1, 1)) ∧ (decode cL_law 323 = .ok (.aload_n 0, 1)) ∧ (decode cL_law 324 = .ok (.iload 4, 2)) := by decide +kernel
theorem dL_law_314 : decode cL_law 314 = .ok (.invokevirtual 68, 3) := dL_law_314_b.1
theorem dL_law_317 : decode cL_law 317 = .ok (.istore 6, 2) := dL_law_314_b.2.1
theorem dL_law_319 : decode cL_law 319 = .ok (.goto 459, 3) := dL_law_314_b.2.2.1
theorem dL_law_322 : decode cL_law 322 = .ok (.aload_n 1, 1) := dL_law_314_b.2.2.2.1
theorem dL_law_323 : decode cL_law 323 = .ok (.aload_n 0, 1) := dL_law_314_b.2.2.2.2.1
theorem dL_law_324 : decode cL_law 324 = .ok (.iload 4, 2) := dL_law_314_b.2.2.2.2.2
set_option maxRecDepth 20000 in
theorem dL_law_326_b : (decode cL_law 326 = .ok (.iconst 1, 1)) ∧ (decode cL_law 327 = .ok (.iadd, 1)) ∧ (decode cL_law 328 = .ok (.iaload, 1)) ∧ (decode cL_law 329 = .ok (.aload_n 0, 1)) ∧ (decode cL_law 330 = .ok (.iload 4, 2)) ∧ (decode cL_law 332 = .ok (.iconst 2, 1)) := by decide +kernel
theorem dL_law_326 : decode cL_law 326 = .ok (.iconst 1, 1) := dL_law_326_b.1
theorem dL_law_327 : decode cL_law 327 = .ok (.iadd, 1) := dL_law_326_b.2.1
theorem dL_law_328 : decode cL_law 328 = .ok (.iaload, 1) := dL_law_326_b.2.2.1
theorem dL_law_329 : decode cL_law 329 = .ok (.aload_n 0, 1) := dL_law_326_b.2.2.2.1
theorem dL_law_330 : decode cL_law 330 = .ok (.iload 4, 2) := dL_law_326_b.2.2.2.2.1
theorem dL_law_332 : decode cL_law 332 = .ok (.iconst 2, 1) := dL_law_326_b.2.2.2.2.2
set_option maxRecDepth 20000 in
theorem dL_law_333_b : (decode cL_law 333 = .ok (.iadd, 1)) ∧ (decode cL_law 334 = .ok (.iaload, 1)) ∧ (decode cL_law 335 = .ok (.aload_n 3, 1)) ∧ (decode cL_law 336 = .ok (.invokestatic 69, 3)) ∧ (decode cL_law 339 = .ok (.istore 5, 2)) ∧ (decode cL_law 341 = .ok (.aload_n 2, 1)) := by decide +kernel
theorem dL_law_333 : decode cL_law 333 = .ok (.iadd, 1) := dL_law_333_b.1
theorem dL_law_334 : decode cL_law 334 = .ok (.iaload, 1) := dL_law_333_b.2.1
theorem dL_law_335 : decode cL_law 335 = .ok (.aload_n 3, 1) := dL_law_333_b.2.2.1
theorem dL_law_336 : decode cL_law 336 = .ok (.invokestatic 69, 3) := dL_law_333_b.2.2.2.1
theorem dL_law_339 : decode cL_law 339 = .ok (.istore 5, 2) := dL_law_333_b.2.2.2.2.1
theorem dL_law_341 : decode cL_law 341 = .ok (.aload_n 2, 1) := dL_law_333_b.2.2.2.2.2
set_option maxRecDepth 20000 in
theorem dL_law_342_b : (decode cL_law 342 = .ok (.aload_n 0, 1)) ∧ (decode cL_law 343 = .ok (.iload 4, 2)) ∧ (decode cL_law 345 = .ok (.iconst 1, 1)) ∧ (decode cL_law 346 = .ok (.iadd, 1)) ∧ (decode cL_law 347 = .ok (.iaload, 1)) ∧ (decode cL_law 348 = .ok (.aload_n 0, 1)) := by decide +kernel
theorem dL_law_342 : decode cL_law 342 = .ok (.aload_n 0, 1) := dL_law_342_b.1
theorem dL_law_343 : decode cL_law 343 = .ok (.iload 4, 2) := dL_law_342_b.2.1
theorem dL_law_345 : decode cL_law 345 = .ok (.iconst 1, 1) := dL_law_342_b.2.2.1
theorem dL_law_346 : decode cL_law 346 = .ok (.iadd, 1) := dL_law_342_b.2.2.2.1
theorem dL_law_347 : decode cL_law 347 = .ok (.iaload, 1) := dL_law_342_b.2.2.2.2.1
theorem dL_law_348 : decode cL_law 348 = .ok (.aload_n 0, 1) := dL_law_342_b.2.2.2.2.2
set_option maxRecDepth 20000 in
theorem dL_law_349_b : (decode cL_law 349 = .ok (.iload 4, 2)) ∧ (decode cL_law 351 = .ok (.iconst 2, 1)) ∧ (decode cL_law 352 = .ok (.iadd, 1)) ∧ (decode cL_law 353 = .ok (.iaload, 1)) ∧ (decode cL_law 354 = .ok (.invokevirtual 71, 3)) ∧ (decode cL_law 357 = .ok (.istore 6, 2)) := by decide +kernel
theorem dL_law_349 : decode cL_law 349 = .ok (.iload 4, 2) := dL_law_349_b.1
theorem dL_law_351 : decode cL_law 351 = .ok (.iconst 2, 1) := dL_law_349_b.2.1
theorem dL_law_352 : decode cL_law 352 = .ok (.iadd, 1) := dL_law_349_b.2.2.1
theorem dL_law_353 : decode cL_law 353 = .ok (.iaload, 1) := dL_law_349_b.2.2.2.1
theorem dL_law_354 : decode cL_law 354 = .ok (.invokevirtual 71, 3) := dL_law_349_b.2.2.2.2.1
theorem dL_law_357 : decode cL_law 357 = .ok (.istore 6, 2) := dL_law_349_b.2.2.2.2.2
set_option maxRecDepth 20000 in
theorem dL_law_359_b : (decode cL_law 359 = .ok (.goto 419, 3)) ∧ (decode cL_law 362 = .ok (.aload_n 1, 1)) ∧ (decode cL_law 363 = .ok (.aload_n 0, 1)) ∧ (decode cL_law 364 = .ok (.iload 4, 2)) ∧ (decode cL_law 366 = .ok (.iconst 1, 1)) ∧ (decode cL_law 367 = .ok (.iadd, 1)) := by decide +kernel
theorem dL_law_359 : decode cL_law 359 = .ok (.goto 419, 3) := dL_law_359_b.1
theorem dL_law_362 : decode cL_law 362 = .ok (.aload_n 1, 1) := dL_law_359_b.2.1
theorem dL_law_363 : decode cL_law 363 = .ok (.aload_n 0, 1) := dL_law_359_b.2.2.1
theorem dL_law_364 : decode cL_law 364 = .ok (.iload 4, 2) := dL_law_359_b.2.2.2.1
theorem dL_law_366 : decode cL_law 366 = .ok (.iconst 1, 1) := dL_law_359_b.2.2.2.2.1
theorem dL_law_367 : decode cL_law 367 = .ok (.iadd, 1) := dL_law_359_b.2.2.2.2.2
set_option maxRecDepth 20000 in
theorem dL_law_368_b : (decode cL_law 368 = .ok (.iaload, 1)) ∧ (decode cL_law 369 = .ok (.aload_n 0, 1)) ∧ (decode cL_law 370 = .ok (.iload 4, 2)) ∧ (decode cL_law 372 = .ok (.iconst 2, 1)) ∧ (decode cL_law 373 = .ok (.iadd, 1)) ∧ (decode cL_law 374 = .ok (.iaload, 1)) := by decide +kernel
theorem dL_law_368 : decode cL_law 368 = .ok (.iaload, 1) := dL_law_368_b.1
theorem dL_law_369 : decode cL_law 369 = .ok (.aload_n 0, 1) := dL_law_368_b.2.1
theorem dL_law_370 : decode cL_law 370 = .ok (.iload 4, 2) := dL_law_368_b.2.2.1
theorem dL_law_372 : decode cL_law 372 = .ok (.iconst 2, 1) := dL_law_368_b.2.2.2.1
theorem dL_law_373 : decode cL_law 373 = .ok (.iadd, 1) := dL_law_368_b.2.2.2.2.1
theorem dL_law_374 : decode cL_law 374 = .ok (.iaload, 1) := dL_law_368_b.2.2.2.2.2
set_option maxRecDepth 20000 in
theorem dL_law_375_b : (decode cL_law 375 = .ok (.invokevirtual 72, 3)) ∧ (decode cL_law 378 = .ok (.pop, 1)) ∧ (decode cL_law 379 = .ok (.aload_n 2, 1)) ∧ (decode cL_law 380 = .ok (.aload_n 0, 1)) ∧ (decode cL_law 381 = .ok (.iload 4, 2)) ∧ (decode cL_law 383 = .ok (.iconst 1, 1)) := by decide +kernel
theorem dL_law_375 : decode cL_law 375 = .ok (.invokevirtual 72, 3) := dL_law_375_b.1
theorem dL_law_378 : decode cL_law 378 = .ok (.pop, 1) := dL_law_375_b.2.1
theorem dL_law_379 : decode cL_law 379 = .ok (.aload_n 2, 1) := dL_law_375_b.2.2.1
theorem dL_law_380 : decode cL_law 380 = .ok (.aload_n 0, 1) := dL_law_375_b.2.2.2.1
theorem dL_law_381 : decode cL_law 381 = .ok (.iload 4, 2) := dL_law_375_b.2.2.2.2.1
theorem dL_law_383 : decode cL_law 383 = .ok (.iconst 1, 1) := dL_law_375_b.2.2.2.2.2
set_option maxRecDepth 20000 in
theorem dL_law_384_b : (decode cL_law 384 = .ok (.iadd, 1)) ∧ (decode cL_law 385 = .ok (.iaload, 1)) ∧ (decode cL_law 386 = .ok (.aload_n 0, 1)) ∧ (decode cL_law 387 = .ok (.iload 4, 2)) ∧ (decode cL_law 389 = .ok (.iconst 2, 1)) ∧ (decode cL_law 390 = .ok (.iadd, 1)) := by decide +kernel
theorem dL_law_384 : decode cL_law 384 = .ok (.iadd, 1) := dL_law_384_b.1
theorem dL_law_385 : decode cL_law 385 = .ok (.iaload, 1) := dL_law_384_b.2.1
theorem dL_law_386 : decode cL_law 386 = .ok (.aload_n 0, 1) := dL_law_384_b.2.2.1
theorem dL_law_387 : decode cL_law 387 = .ok (.iload 4, 2) := dL_law_384_b.2.2.2.1
theorem dL_law_389 : decode cL_law 389 = .ok (.iconst 2, 1) := dL_law_384_b.2.2.2.2.1
theorem dL_law_390 : decode cL_law 390 = .ok (.iadd, 1) := dL_law_384_b.2.2.2.2.2
set_option maxRecDepth 20000 in
theorem dL_law_391_b : (decode cL_law 391 = .ok (.iaload, 1)) ∧ (decode cL_law 392 = .ok (.invokevirtual 75, 3)) ∧ (decode cL_law 395 = .ok (.pop, 1)) ∧ (decode cL_law 396 = .ok (.goto 382, 3)) ∧ (decode cL_law 399 = .ok (.aload_n 1, 1)) ∧ (decode cL_law 400 = .ok (.aload_n 0, 1)) := by decide +kernel
theorem dL_law_391 : decode cL_law 391 = .ok (.iaload, 1) := dL_law_391_b.1
theorem dL_law_392 : decode cL_law 392 = .ok (.invokevirtual 75, 3) := dL_law_391_b.2.1
theorem dL_law_395 : decode cL_law 395 = .ok (.pop, 1) := dL_law_391_b.2.2.1
theorem dL_law_396 : decode cL_law 396 = .ok (.goto 382, 3) := dL_law_391_b.2.2.2.1
theorem dL_law_399 : decode cL_law 399 = .ok (.aload_n 1, 1) := dL_law_391_b.2.2.2.2.1
theorem dL_law_400 : decode cL_law 400 = .ok (.aload_n 0, 1) := dL_law_391_b.2.2.2.2.2
set_option maxRecDepth 20000 in
theorem dL_law_401_b : (decode cL_law 401 = .ok (.iload 4, 2)) ∧ (decode cL_law 403 = .ok (.iconst 1, 1)) ∧ (decode cL_law 404 = .ok (.iadd, 1)) ∧ (decode cL_law 405 = .ok (.iaload, 1)) ∧ (decode cL_law 406 = .ok (.invokevirtual 76, 3)) ∧ (decode cL_law 409 = .ok (.pop, 1)) := by decide +kernel
theorem dL_law_401 : decode cL_law 401 = .ok (.iload 4, 2) := dL_law_401_b.1
theorem dL_law_403 : decode cL_law 403 = .ok (.iconst 1, 1) := dL_law_401_b.2.1
theorem dL_law_404 : decode cL_law 404 = .ok (.iadd, 1) := dL_law_401_b.2.2.1
theorem dL_law_405 : decode cL_law 405 = .ok (.iaload, 1) := dL_law_401_b.2.2.2.1
theorem dL_law_406 : decode cL_law 406 = .ok (.invokevirtual 76, 3) := dL_law_401_b.2.2.2.2.1
theorem dL_law_409 : decode cL_law 409 = .ok (.pop, 1) := dL_law_401_b.2.2.2.2.2
set_option maxRecDepth 20000 in
theorem dL_law_410_b : (decode cL_law 410 = .ok (.aload_n 2, 1)) ∧ (decode cL_law 411 = .ok (.aload_n 0, 1)) ∧ (decode cL_law 412 = .ok (.iload 4, 2)) ∧ (decode cL_law 414 = .ok (.iconst 1, 1)) ∧ (decode cL_law 415 = .ok (.iadd, 1)) ∧ (decode cL_law 416 = .ok (.iaload, 1)) := by decide +kernel
theorem dL_law_410 : decode cL_law 410 = .ok (.aload_n 2, 1) := dL_law_410_b.1
theorem dL_law_411 : decode cL_law 411 = .ok (.aload_n 0, 1) := dL_law_410_b.2.1
theorem dL_law_412 : decode cL_law 412 = .ok (.iload 4, 2) := dL_law_410_b.2.2.1
theorem dL_law_414 : decode cL_law 414 = .ok (.iconst 1, 1) := dL_law_410_b.2.2.2.1
theorem dL_law_415 : decode cL_law 415 = .ok (.iadd, 1) := dL_law_410_b.2.2.2.2.1
theorem dL_law_416 : decode cL_law 416 = .ok (.iaload, 1) := dL_law_410_b.2.2.2.2.2
set_option maxRecDepth 20000 in
theorem dL_law_417_b : (decode cL_law 417 = .ok (.invokevirtual 79, 3)) ∧ (decode cL_law 420 = .ok (.pop, 1)) ∧ (decode cL_law 421 = .ok (.goto 357, 3)) ∧ (decode cL_law 424 = .ok (.aload_n 1, 1)) ∧ (decode cL_law 425 = .ok (.aload_n 0, 1)) ∧ (decode cL_law 426 = .ok (.iload 4, 2)) := by decide +kernel
theorem dL_law_417 : decode cL_law 417 = .ok (.invokevirtual 79, 3) := dL_law_417_b.1
theorem dL_law_420 : decode cL_law 420 = .ok (.pop, 1) := dL_law_417_b.2.1
theorem dL_law_421 : decode cL_law 421 = .ok (.goto 357, 3) := dL_law_417_b.2.2.1
theorem dL_law_424 : decode cL_law 424 = .ok (.aload_n 1, 1) := dL_law_417_b.2.2.2.1
theorem dL_law_425 : decode cL_law 425 = .ok (.aload_n 0, 1) := dL_law_417_b.2.2.2.2.1
theorem dL_law_426 : decode cL_law 426 = .ok (.iload 4, 2) := dL_law_417_b.2.2.2.2.2
set_option maxRecDepth 20000 in
theorem dL_law_428_b : (decode cL_law 428 = .ok (.iconst 1, 1)) ∧ (decode cL_law 429 = .ok (.iadd, 1)) ∧ (decode cL_law 430 = .ok (.iaload, 1)) ∧ (decode cL_law 431 = .ok (.aload_n 0, 1)) ∧ (decode cL_law 432 = .ok (.iload 4, 2)) ∧ (decode cL_law 434 = .ok (.iconst 2, 1)) := by decide +kernel
theorem dL_law_428 : decode cL_law 428 = .ok (.iconst 1, 1) := dL_law_428_b.1
theorem dL_law_429 : decode cL_law 429 = .ok (.iadd, 1) := dL_law_428_b.2.1
theorem dL_law_430 : decode cL_law 430 = .ok (.iaload, 1) := dL_law_428_b.2.2.1
theorem dL_law_431 : decode cL_law 431 = .ok (.aload_n 0, 1) := dL_law_428_b.2.2.2.1
theorem dL_law_432 : decode cL_law 432 = .ok (.iload 4, 2) := dL_law_428_b.2.2.2.2.1
theorem dL_law_434 : decode cL_law 434 = .ok (.iconst 2, 1) := dL_law_428_b.2.2.2.2.2
set_option maxRecDepth 20000 in
theorem dL_law_435_b : (decode cL_law 435 = .ok (.iadd, 1)) ∧ (decode cL_law 436 = .ok (.iaload, 1)) ∧ (decode cL_law 437 = .ok (.invokevirtual 80, 3)) ∧ (decode cL_law 440 = .ok (.pop, 1)) ∧ (decode cL_law 441 = .ok (.aload_n 2, 1)) ∧ (decode cL_law 442 = .ok (.aload_n 0, 1)) := by decide +kernel
theorem dL_law_435 : decode cL_law 435 = .ok (.iadd, 1) := dL_law_435_b.1
theorem dL_law_436 : decode cL_law 436 = .ok (.iaload, 1) := dL_law_435_b.2.1
theorem dL_law_437 : decode cL_law 437 = .ok (.invokevirtual 80, 3) := dL_law_435_b.2.2.1
theorem dL_law_440 : decode cL_law 440 = .ok (.pop, 1) := dL_law_435_b.2.2.2.1
theorem dL_law_441 : decode cL_law 441 = .ok (.aload_n 2, 1) := dL_law_435_b.2.2.2.2.1
theorem dL_law_442 : decode cL_law 442 = .ok (.aload_n 0, 1) := dL_law_435_b.2.2.2.2.2
set_option maxRecDepth 20000 in
theorem dL_law_443_b : (decode cL_law 443 = .ok (.iload 4, 2)) ∧ (decode cL_law 445 = .ok (.iconst 1, 1)) ∧ (decode cL_law 446 = .ok (.iadd, 1)) ∧ (decode cL_law 447 = .ok (.iaload, 1)) ∧ (decode cL_law 448 = .ok (.aload_n 0, 1)) ∧ (decode cL_law 449 = .ok (.iload 4, 2)) := by decide +kernel
theorem dL_law_443 : decode cL_law 443 = .ok (.iload 4, 2) := dL_law_443_b.1
theorem dL_law_445 : decode cL_law 445 = .ok (.iconst 1, 1) := dL_law_443_b.2.1
theorem dL_law_446 : decode cL_law 446 = .ok (.iadd, 1) := dL_law_443_b.2.2.1
theorem dL_law_447 : decode cL_law 447 = .ok (.iaload, 1) := dL_law_443_b.2.2.2.1
theorem dL_law_448 : decode cL_law 448 = .ok (.aload_n 0, 1) := dL_law_443_b.2.2.2.2.1
theorem dL_law_449 : decode cL_law 449 = .ok (.iload 4, 2) := dL_law_443_b.2.2.2.2.2
set_option maxRecDepth 20000 in
theorem dL_law_451_b : (decode cL_law 451 = .ok (.iconst 2, 1)) ∧ (decode cL_law 452 = .ok (.iadd, 1)) ∧ (decode cL_law 453 = .ok (.iaload, 1)) ∧ (decode cL_law 454 = .ok (.invokevirtual 83, 3)) ∧ (decode cL_law 457 = .ok (.pop, 1)) ∧ (decode cL_law 458 = .ok (.goto 320, 3)) := by decide +kernel
theorem dL_law_451 : decode cL_law 451 = .ok (.iconst 2, 1) := dL_law_451_b.1
theorem dL_law_452 : decode cL_law 452 = .ok (.iadd, 1) := dL_law_451_b.2.1
theorem dL_law_453 : decode cL_law 453 = .ok (.iaload, 1) := dL_law_451_b.2.2.1
theorem dL_law_454 : decode cL_law 454 = .ok (.invokevirtual 83, 3) := dL_law_451_b.2.2.2.1
theorem dL_law_457 : decode cL_law 457 = .ok (.pop, 1) := dL_law_451_b.2.2.2.2.1
theorem dL_law_458 : decode cL_law 458 = .ok (.goto 320, 3) := dL_law_451_b.2.2.2.2.2
set_option maxRecDepth 20000 in
theorem dL_law_461_b : (decode cL_law 461 = .ok (.aload_n 1, 1)) ∧ (decode cL_law 462 = .ok (.aload_n 0, 1)) ∧ (decode cL_law 463 = .ok (.iload 4, 2)) ∧ (decode cL_law 465 = .ok (.iconst 1, 1)) ∧ (decode cL_law 466 = .ok (.iadd, 1)) ∧ (decode cL_law 467 = .ok (.iaload, 1)) := by decide +kernel
theorem dL_law_461 : decode cL_law 461 = .ok (.aload_n 1, 1) := dL_law_461_b.1
theorem dL_law_462 : decode cL_law 462 = .ok (.aload_n 0, 1) := dL_law_461_b.2.1
theorem dL_law_463 : decode cL_law 463 = .ok (.iload 4, 2) := dL_law_461_b.2.2.1
theorem dL_law_465 : decode cL_law 465 = .ok (.iconst 1, 1) := dL_law_461_b.2.2.2.1
theorem dL_law_466 : decode cL_law 466 = .ok (.iadd, 1) := dL_law_461_b.2.2.2.2.1
theorem dL_law_467 : decode cL_law 467 = .ok (.iaload, 1) := dL_law_461_b.2.2.2.2.2
set_option maxRecDepth 20000 in
theorem dL_law_468_b : (decode cL_law 468 = .ok (.invokevirtual 84, 3)) ∧ (decode cL_law 471 = .ok (.pop, 1)) ∧ (decode cL_law 472 = .ok (.aload_n 2, 1)) ∧ (decode cL_law 473 = .ok (.aload_n 0, 1)) ∧ (decode cL_law 474 = .ok (.iload 4, 2)) ∧ (decode cL_law 476 = .ok (.iconst 1, 1)) := by decide +kernel
theorem dL_law_468 : decode cL_law 468 = .ok (.invokevirtual 84, 3) := dL_law_468_b.1
theorem dL_law_471 : decode cL_law 471 = .ok (.pop, 1) := dL_law_468_b.2.1
theorem dL_law_472 : decode cL_law 472 = .ok (.aload_n 2, 1) := dL_law_468_b.2.2.1
theorem dL_law_473 : decode cL_law 473 = .ok (.aload_n 0, 1) := dL_law_468_b.2.2.2.1
theorem dL_law_474 : decode cL_law 474 = .ok (.iload 4, 2) := dL_law_468_b.2.2.2.2.1
theorem dL_law_476 : decode cL_law 476 = .ok (.iconst 1, 1) := dL_law_468_b.2.2.2.2.2
set_option maxRecDepth 20000 in
theorem dL_law_477_b : (decode cL_law 477 = .ok (.iadd, 1)) ∧ (decode cL_law 478 = .ok (.iaload, 1)) ∧ (decode cL_law 479 = .ok (.invokevirtual 87, 3)) ∧ (decode cL_law 482 = .ok (.pop, 1)) ∧ (decode cL_law 483 = .ok (.goto 295, 3)) ∧ (decode cL_law 486 = .ok (.aload_n 1, 1)) := by decide +kernel
theorem dL_law_477 : decode cL_law 477 = .ok (.iadd, 1) := dL_law_477_b.1
theorem dL_law_478 : decode cL_law 478 = .ok (.iaload, 1) := dL_law_477_b.2.1
theorem dL_law_479 : decode cL_law 479 = .ok (.invokevirtual 87, 3) := dL_law_477_b.2.2.1
theorem dL_law_482 : decode cL_law 482 = .ok (.pop, 1) := dL_law_477_b.2.2.2.1
theorem dL_law_483 : decode cL_law 483 = .ok (.goto 295, 3) := dL_law_477_b.2.2.2.2.1
theorem dL_law_486 : decode cL_law 486 = .ok (.aload_n 1, 1) := dL_law_477_b.2.2.2.2.2
set_option maxRecDepth 20000 in
theorem dL_law_487_b : (decode cL_law 487 = .ok (.aload_n 0, 1)) ∧ (decode cL_law 488 = .ok (.iload 4, 2)) ∧ (decode cL_law 490 = .ok (.iconst 1, 1)) ∧ (decode cL_law 491 = .ok (.iadd, 1)) ∧ (decode cL_law 492 = .ok (.iaload, 1)) ∧ (decode cL_law 493 = .ok (.invokevirtual 88, 3)) := by decide +kernel
theorem dL_law_487 : decode cL_law 487 = .ok (.aload_n 0, 1) := dL_law_487_b.1
theorem dL_law_488 : decode cL_law 488 = .ok (.iload 4, 2) := dL_law_487_b.2.1
theorem dL_law_490 : decode cL_law 490 = .ok (.iconst 1, 1) := dL_law_487_b.2.2.1
theorem dL_law_491 : decode cL_law 491 = .ok (.iadd, 1) := dL_law_487_b.2.2.2.1
theorem dL_law_492 : decode cL_law 492 = .ok (.iaload, 1) := dL_law_487_b.2.2.2.2.1
theorem dL_law_493 : decode cL_law 493 = .ok (.invokevirtual 88, 3) := dL_law_487_b.2.2.2.2.2
set_option maxRecDepth 20000 in
theorem dL_law_496_b : (decode cL_law 496 = .ok (.pop, 1)) ∧ (decode cL_law 497 = .ok (.aload_n 2, 1)) ∧ (decode cL_law 498 = .ok (.aload_n 0, 1)) ∧ (decode cL_law 499 = .ok (.iload 4, 2)) ∧ (decode cL_law 501 = .ok (.iconst 1, 1)) ∧ (decode cL_law 502 = .ok (.iadd, 1)) := by decide +kernel
theorem dL_law_496 : decode cL_law 496 = .ok (.pop, 1) := dL_law_496_b.1
theorem dL_law_497 : decode cL_law 497 = .ok (.aload_n 2, 1) := dL_law_496_b.2.1
theorem dL_law_498 : decode cL_law 498 = .ok (.aload_n 0, 1) := dL_law_496_b.2.2.1
theorem dL_law_499 : decode cL_law 499 = .ok (.iload 4, 2) := dL_law_496_b.2.2.2.1
theorem dL_law_501 : decode cL_law 501 = .ok (.iconst 1, 1) := dL_law_496_b.2.2.2.2.1
theorem dL_law_502 : decode cL_law 502 = .ok (.iadd, 1) := dL_law_496_b.2.2.2.2.2
set_option maxRecDepth 20000 in
theorem dL_law_503_b : (decode cL_law 503 = .ok (.iaload, 1)) ∧ (decode cL_law 504 = .ok (.invokevirtual 91, 3)) ∧ (decode cL_law 507 = .ok (.pop, 1)) ∧ (decode cL_law 508 = .ok (.goto 270, 3)) ∧ (decode cL_law 511 = .ok (.aload_n 1, 1)) ∧ (decode cL_law 512 = .ok (.invokevirtual 92, 3)) := by decide +kernel
theorem dL_law_503 : decode cL_law 503 = .ok (.iaload, 1) := dL_law_503_b.1
theorem dL_law_504 : decode cL_law 504 = .ok (.invokevirtual 91, 3) := dL_law_503_b.2.1
theorem dL_law_507 : decode cL_law 507 = .ok (.pop, 1) := dL_law_503_b.2.2.1
theorem dL_law_508 : decode cL_law 508 = .ok (.goto 270, 3) := dL_law_503_b.2.2.2.1
theorem dL_law_511 : decode cL_law 511 = .ok (.aload_n 1, 1) := dL_law_503_b.2.2.2.2.1
theorem dL_law_512 : decode cL_law 512 = .ok (.invokevirtual 92, 3) := dL_law_503_b.2.2.2.2.2
set_option maxRecDepth 20000 in
theorem dL_law_515_b : (decode cL_law 515 = .ok (.pop, 1)) ∧ (decode cL_law 516 = .ok (.aload_n 2, 1)) ∧ (decode cL_law 517 = .ok (.invokevirtual 95, 3)) ∧ (decode cL_law 520 = .ok (.pop, 1)) ∧ (decode cL_law 521 = .ok (.goto 257, 3)) ∧ (decode cL_law 524 = .ok (.aload_n 1, 1)) := by decide +kernel
theorem dL_law_515 : decode cL_law 515 = .ok (.pop, 1) := dL_law_515_b.1
theorem dL_law_516 : decode cL_law 516 = .ok (.aload_n 2, 1) := dL_law_515_b.2.1
theorem dL_law_517 : decode cL_law 517 = .ok (.invokevirtual 95, 3) := dL_law_515_b.2.2.1
theorem dL_law_520 : decode cL_law 520 = .ok (.pop, 1) := dL_law_515_b.2.2.2.1
theorem dL_law_521 : decode cL_law 521 = .ok (.goto 257, 3) := dL_law_515_b.2.2.2.2.1
theorem dL_law_524 : decode cL_law 524 = .ok (.aload_n 1, 1) := dL_law_515_b.2.2.2.2.2
set_option maxRecDepth 20000 in
theorem dL_law_525_b : (decode cL_law 525 = .ok (.aload_n 0, 1)) ∧ (decode cL_law 526 = .ok (.iload 4, 2)) ∧ (decode cL_law 528 = .ok (.iconst 1, 1)) ∧ (decode cL_law 529 = .ok (.iadd, 1)) ∧ (decode cL_law 530 = .ok (.iaload, 1)) ∧ (decode cL_law 531 = .ok (.aload_n 0, 1)) := by decide +kernel
theorem dL_law_525 : decode cL_law 525 = .ok (.aload_n 0, 1) := dL_law_525_b.1
theorem dL_law_526 : decode cL_law 526 = .ok (.iload 4, 2) := dL_law_525_b.2.1
theorem dL_law_528 : decode cL_law 528 = .ok (.iconst 1, 1) := dL_law_525_b.2.2.1
theorem dL_law_529 : decode cL_law 529 = .ok (.iadd, 1) := dL_law_525_b.2.2.2.1
theorem dL_law_530 : decode cL_law 530 = .ok (.iaload, 1) := dL_law_525_b.2.2.2.2.1
theorem dL_law_531 : decode cL_law 531 = .ok (.aload_n 0, 1) := dL_law_525_b.2.2.2.2.2
set_option maxRecDepth 20000 in
theorem dL_law_532_b : (decode cL_law 532 = .ok (.iload 4, 2)) ∧ (decode cL_law 534 = .ok (.iconst 2, 1)) ∧ (decode cL_law 535 = .ok (.iadd, 1)) ∧ (decode cL_law 536 = .ok (.iaload, 1)) ∧ (decode cL_law 537 = .ok (.aload_n 3, 1)) ∧ (decode cL_law 538 = .ok (.invokestatic 96, 3)) := by decide +kernel
theorem dL_law_532 : decode cL_law 532 = .ok (.iload 4, 2) := dL_law_532_b.1
theorem dL_law_534 : decode cL_law 534 = .ok (.iconst 2, 1) := dL_law_532_b.2.1
theorem dL_law_535 : decode cL_law 535 = .ok (.iadd, 1) := dL_law_532_b.2.2.1
theorem dL_law_536 : decode cL_law 536 = .ok (.iaload, 1) := dL_law_532_b.2.2.2.1
theorem dL_law_537 : decode cL_law 537 = .ok (.aload_n 3, 1) := dL_law_532_b.2.2.2.2.1
theorem dL_law_538 : decode cL_law 538 = .ok (.invokestatic 96, 3) := dL_law_532_b.2.2.2.2.2
set_option maxRecDepth 20000 in
theorem dL_law_541_b : (decode cL_law 541 = .ok (.istore 5, 2)) ∧ (decode cL_law 543 = .ok (.aload_n 2, 1)) ∧ (decode cL_law 544 = .ok (.aload_n 0, 1)) ∧ (decode cL_law 545 = .ok (.iload 4, 2)) ∧ (decode cL_law 547 = .ok (.iconst 1, 1)) ∧ (decode cL_law 548 = .ok (.iadd, 1)) := by decide +kernel
theorem dL_law_541 : decode cL_law 541 = .ok (.istore 5, 2) := dL_law_541_b.1
theorem dL_law_543 : decode cL_law 543 = .ok (.aload_n 2, 1) := dL_law_541_b.2.1
theorem dL_law_544 : decode cL_law 544 = .ok (.aload_n 0, 1) := dL_law_541_b.2.2.1
theorem dL_law_545 : decode cL_law 545 = .ok (.iload 4, 2) := dL_law_541_b.2.2.2.1
theorem dL_law_547 : decode cL_law 547 = .ok (.iconst 1, 1) := dL_law_541_b.2.2.2.2.1
theorem dL_law_548 : decode cL_law 548 = .ok (.iadd, 1) := dL_law_541_b.2.2.2.2.2
set_option maxRecDepth 20000 in
theorem dL_law_549_b : (decode cL_law 549 = .ok (.iaload, 1)) ∧ (decode cL_law 550 = .ok (.aload_n 0, 1)) ∧ (decode cL_law 551 = .ok (.iload 4, 2)) ∧ (decode cL_law 553 = .ok (.iconst 2, 1)) ∧ (decode cL_law 554 = .ok (.iadd, 1)) ∧ (decode cL_law 555 = .ok (.iaload, 1)) := by decide +kernel
theorem dL_law_549 : decode cL_law 549 = .ok (.iaload, 1) := dL_law_549_b.1
theorem dL_law_550 : decode cL_law 550 = .ok (.aload_n 0, 1) := dL_law_549_b.2.1
theorem dL_law_551 : decode cL_law 551 = .ok (.iload 4, 2) := dL_law_549_b.2.2.1
theorem dL_law_553 : decode cL_law 553 = .ok (.iconst 2, 1) := dL_law_549_b.2.2.2.1
theorem dL_law_554 : decode cL_law 554 = .ok (.iadd, 1) := dL_law_549_b.2.2.2.2.1
theorem dL_law_555 : decode cL_law 555 = .ok (.iaload, 1) := dL_law_549_b.2.2.2.2.2
set_option maxRecDepth 20000 in
theorem dL_law_556_b : (decode cL_law 556 = .ok (.invokevirtual 98, 3)) ∧ (decode cL_law 559 = .ok (.istore 6, 2)) ∧ (decode cL_law 561 = .ok (.aload_n 2, 1)) ∧ (decode cL_law 562 = .ok (.invokevirtual 99, 3)) ∧ (decode cL_law 565 = .ok (.iload 5, 2)) ∧ (decode cL_law 567 = .ok (.if_icmp .eq 5, 3)) := by decide +kernel
theorem dL_law_556 : decode cL_law 556 = .ok (.invokevirtual 98, 3) := dL_law_556_b.1
theorem dL_law_559 : decode cL_law 559 = .ok (.istore 6, 2) := dL_law_556_b.2.1
theorem dL_law_561 : decode cL_law 561 = .ok (.aload_n 2, 1) := dL_law_556_b.2.2.1
theorem dL_law_562 : decode cL_law 562 = .ok (.invokevirtual 99, 3) := dL_law_556_b.2.2.2.1
theorem dL_law_565 : decode cL_law 565 = .ok (.iload 5, 2) := dL_law_556_b.2.2.2.2.1
theorem dL_law_567 : decode cL_law 567 = .ok (.if_icmp .eq 5, 3) := dL_law_556_b.2.2.2.2.2
set_option maxRecDepth 20000 in
theorem dL_law_572_b : (decode cL_law 572 = .ok (.iload 5, 2)) ∧ (decode cL_law 574 = .ok (.ifCond .ne 15, 3)) ∧ (decode cL_law 577 = .ok (.aload_n 3, 1)) ∧ (decode cL_law 578 = .ok (.iconst 0, 1)) ∧ (decode cL_law 579 = .ok (.laload, 1)) ∧ (decode cL_law 580 = .ok (.iload 6, 2)) := by decide +kernel
theorem dL_law_572 : decode cL_law 572 = .ok (.iload 5, 2) := dL_law_572_b.1
theorem dL_law_574 : decode cL_law 574 = .ok (.ifCond .ne 15, 3) := dL_law_572_b.2.1
theorem dL_law_577 : decode cL_law 577 = .ok (.aload_n 3, 1) := dL_law_572_b.2.2.1
theorem dL_law_578 : decode cL_law 578 = .ok (.iconst 0, 1) := dL_law_572_b.2.2.2.1
theorem dL_law_579 : decode cL_law 579 = .ok (.laload, 1) := dL_law_572_b.2.2.2.2.1
theorem dL_law_580 : decode cL_law 580 = .ok (.iload 6, 2) := dL_law_572_b.2.2.2.2.2
set_option maxRecDepth 20000 in
theorem dL_law_582_b : (decode cL_law 582 = .ok (.i2l, 1)) ∧ (decode cL_law 583 = .ok (.lcmp, 1)) ∧ (decode cL_law 584 = .ok (.ifCond .eq 5, 3)) ∧ (decode cL_law 589 = .ok (.goto 189, 3)) ∧ (decode cL_law 592 = .ok (.aload_n 1, 1)) ∧ (decode cL_law 593 = .ok (.invokevirtual 102, 3)) := by decide +kernel
theorem dL_law_582 : decode cL_law 582 = .ok (.i2l, 1) := dL_law_582_b.1
theorem dL_law_583 : decode cL_law 583 = .ok (.lcmp, 1) := dL_law_582_b.2.1
theorem dL_law_584 : decode cL_law 584 = .ok (.ifCond .eq 5, 3) := dL_law_582_b.2.2.1
theorem dL_law_589 : decode cL_law 589 = .ok (.goto 189, 3) := dL_law_582_b.2.2.2.1
theorem dL_law_592 : decode cL_law 592 = .ok (.aload_n 1, 1) := dL_law_582_b.2.2.2.2.1
theorem dL_law_593 : decode cL_law 593 = .ok (.invokevirtual 102, 3) := dL_law_582_b.2.2.2.2.2
set_option maxRecDepth 20000 in
theorem dL_law_596_b : (decode cL_law 596 = .ok (.pop, 1)) ∧ (decode cL_law 597 = .ok (.aload_n 2, 1)) ∧ (decode cL_law 598 = .ok (.invokevirtual 105, 3)) ∧ (decode cL_law 601 = .ok (.pop, 1)) ∧ (decode cL_law 602 = .ok (.goto 176, 3)) ∧ (decode cL_law 605 = .ok (.aload_n 1, 1)) := by decide +kernel
theorem dL_law_596 : decode cL_law 596 = .ok (.pop, 1) := dL_law_596_b.1
theorem dL_law_597 : decode cL_law 597 = .ok (.aload_n 2, 1) := dL_law_596_b.2.1
theorem dL_law_598 : decode cL_law 598 = .ok (.invokevirtual 105, 3) := dL_law_596_b.2.2.1
theorem dL_law_601 : decode cL_law 601 = .ok (.pop, 1) := dL_law_596_b.2.2.2.1
theorem dL_law_602 : decode cL_law 602 = .ok (.goto 176, 3) := dL_law_596_b.2.2.2.2.1
theorem dL_law_605 : decode cL_law 605 = .ok (.aload_n 1, 1) := dL_law_596_b.2.2.2.2.2
set_option maxRecDepth 20000 in
theorem dL_law_606_b : (decode cL_law 606 = .ok (.aload_n 0, 1)) ∧ (decode cL_law 607 = .ok (.iload 4, 2)) ∧ (decode cL_law 609 = .ok (.iconst 1, 1)) ∧ (decode cL_law 610 = .ok (.iadd, 1)) ∧ (decode cL_law 611 = .ok (.iaload, 1)) ∧ (decode cL_law 612 = .ok (.aload_n 3, 1)) := by decide +kernel
theorem dL_law_606 : decode cL_law 606 = .ok (.aload_n 0, 1) := dL_law_606_b.1
theorem dL_law_607 : decode cL_law 607 = .ok (.iload 4, 2) := dL_law_606_b.2.1
theorem dL_law_609 : decode cL_law 609 = .ok (.iconst 1, 1) := dL_law_606_b.2.2.1
theorem dL_law_610 : decode cL_law 610 = .ok (.iadd, 1) := dL_law_606_b.2.2.2.1
theorem dL_law_611 : decode cL_law 611 = .ok (.iaload, 1) := dL_law_606_b.2.2.2.2.1
theorem dL_law_612 : decode cL_law 612 = .ok (.aload_n 3, 1) := dL_law_606_b.2.2.2.2.2
set_option maxRecDepth 20000 in
theorem dL_law_613_b : (decode cL_law 613 = .ok (.invokestatic 106, 3)) ∧ (decode cL_law 616 = .ok (.istore 5, 2)) ∧ (decode cL_law 618 = .ok (.aload_n 2, 1)) ∧ (decode cL_law 619 = .ok (.aload_n 0, 1)) ∧ (decode cL_law 620 = .ok (.iload 4, 2)) ∧ (decode cL_law 622 = .ok (.iconst 1, 1)) := by decide +kernel
theorem dL_law_613 : decode cL_law 613 = .ok (.invokestatic 106, 3) := dL_law_613_b.1
theorem dL_law_616 : decode cL_law 616 = .ok (.istore 5, 2) := dL_law_613_b.2.1
theorem dL_law_618 : decode cL_law 618 = .ok (.aload_n 2, 1) := dL_law_613_b.2.2.1
theorem dL_law_619 : decode cL_law 619 = .ok (.aload_n 0, 1) := dL_law_613_b.2.2.2.1
theorem dL_law_620 : decode cL_law 620 = .ok (.iload 4, 2) := dL_law_613_b.2.2.2.2.1
theorem dL_law_622 : decode cL_law 622 = .ok (.iconst 1, 1) := dL_law_613_b.2.2.2.2.2
set_option maxRecDepth 20000 in
theorem dL_law_623_b : (decode cL_law 623 = .ok (.iadd, 1)) ∧ (decode cL_law 624 = .ok (.iaload, 1)) ∧ (decode cL_law 625 = .ok (.invokevirtual 108, 3)) ∧ (decode cL_law 628 = .ok (.istore 6, 2)) ∧ (decode cL_law 630 = .ok (.goto 148, 3)) ∧ (decode cL_law 633 = .ok (.aload_n 1, 1)) := by decide +kernel
theorem dL_law_623 : decode cL_law 623 = .ok (.iadd, 1) := dL_law_623_b.1
theorem dL_law_624 : decode cL_law 624 = .ok (.iaload, 1) := dL_law_623_b.2.1
theorem dL_law_625 : decode cL_law 625 = .ok (.invokevirtual 108, 3) := dL_law_623_b.2.2.1
theorem dL_law_628 : decode cL_law 628 = .ok (.istore 6, 2) := dL_law_623_b.2.2.2.1
theorem dL_law_630 : decode cL_law 630 = .ok (.goto 148, 3) := dL_law_623_b.2.2.2.2.1
theorem dL_law_633 : decode cL_law 633 = .ok (.aload_n 1, 1) := dL_law_623_b.2.2.2.2.2
set_option maxRecDepth 20000 in
theorem dL_law_634_b : (decode cL_law 634 = .ok (.aload_n 0, 1)) ∧ (decode cL_law 635 = .ok (.iload 4, 2)) ∧ (decode cL_law 637 = .ok (.iconst 1, 1)) ∧ (decode cL_law 638 = .ok (.iadd, 1)) ∧ (decode cL_law 639 = .ok (.iaload, 1)) ∧ (decode cL_law 640 = .ok (.aload_n 3, 1)) := by decide +kernel
theorem dL_law_634 : decode cL_law 634 = .ok (.aload_n 0, 1) := dL_law_634_b.1
theorem dL_law_635 : decode cL_law 635 = .ok (.iload 4, 2) := dL_law_634_b.2.1
theorem dL_law_637 : decode cL_law 637 = .ok (.iconst 1, 1) := dL_law_634_b.2.2.1
theorem dL_law_638 : decode cL_law 638 = .ok (.iadd, 1) := dL_law_634_b.2.2.2.1
theorem dL_law_639 : decode cL_law 639 = .ok (.iaload, 1) := dL_law_634_b.2.2.2.2.1
theorem dL_law_640 : decode cL_law 640 = .ok (.aload_n 3, 1) := dL_law_634_b.2.2.2.2.2
set_option maxRecDepth 20000 in
theorem dL_law_641_b : (decode cL_law 641 = .ok (.invokestatic 109, 3)) ∧ (decode cL_law 644 = .ok (.istore 5, 2)) ∧ (decode cL_law 646 = .ok (.aload_n 2, 1)) ∧ (decode cL_law 647 = .ok (.aload_n 0, 1)) ∧ (decode cL_law 648 = .ok (.iload 4, 2)) ∧ (decode cL_law 650 = .ok (.iconst 1, 1)) := by decide +kernel
theorem dL_law_641 : decode cL_law 641 = .ok (.invokestatic 109, 3) := dL_law_641_b.1
theorem dL_law_644 : decode cL_law 644 = .ok (.istore 5, 2) := dL_law_641_b.2.1
theorem dL_law_646 : decode cL_law 646 = .ok (.aload_n 2, 1) := dL_law_641_b.2.2.1
theorem dL_law_647 : decode cL_law 647 = .ok (.aload_n 0, 1) := dL_law_641_b.2.2.2.1
theorem dL_law_648 : decode cL_law 648 = .ok (.iload 4, 2) := dL_law_641_b.2.2.2.2.1
theorem dL_law_650 : decode cL_law 650 = .ok (.iconst 1, 1) := dL_law_641_b.2.2.2.2.2
set_option maxRecDepth 20000 in
theorem dL_law_651_b : (decode cL_law 651 = .ok (.iadd, 1)) ∧ (decode cL_law 652 = .ok (.iaload, 1)) ∧ (decode cL_law 653 = .ok (.invokevirtual 111, 3)) ∧ (decode cL_law 656 = .ok (.istore 6, 2)) ∧ (decode cL_law 658 = .ok (.goto 120, 3)) ∧ (decode cL_law 661 = .ok (.aload_n 1, 1)) := by decide +kernel
theorem dL_law_651 : decode cL_law 651 = .ok (.iadd, 1) := dL_law_651_b.1
theorem dL_law_652 : decode cL_law 652 = .ok (.iaload, 1) := dL_law_651_b.2.1
theorem dL_law_653 : decode cL_law 653 = .ok (.invokevirtual 111, 3) := dL_law_651_b.2.2.1
theorem dL_law_656 : decode cL_law 656 = .ok (.istore 6, 2) := dL_law_651_b.2.2.2.1
theorem dL_law_658 : decode cL_law 658 = .ok (.goto 120, 3) := dL_law_651_b.2.2.2.2.1
theorem dL_law_661 : decode cL_law 661 = .ok (.aload_n 1, 1) := dL_law_651_b.2.2.2.2.2
set_option maxRecDepth 20000 in
theorem dL_law_662_b : (decode cL_law 662 = .ok (.aload_n 0, 1)) ∧ (decode cL_law 663 = .ok (.iload 4, 2)) ∧ (decode cL_law 665 = .ok (.iconst 1, 1)) ∧ (decode cL_law 666 = .ok (.iadd, 1)) ∧ (decode cL_law 667 = .ok (.iaload, 1)) ∧ (decode cL_law 668 = .ok (.aload_n 0, 1)) := by decide +kernel
theorem dL_law_662 : decode cL_law 662 = .ok (.aload_n 0, 1) := dL_law_662_b.1
theorem dL_law_663 : decode cL_law 663 = .ok (.iload 4, 2) := dL_law_662_b.2.1
theorem dL_law_665 : decode cL_law 665 = .ok (.iconst 1, 1) := dL_law_662_b.2.2.1
theorem dL_law_666 : decode cL_law 666 = .ok (.iadd, 1) := dL_law_662_b.2.2.2.1
theorem dL_law_667 : decode cL_law 667 = .ok (.iaload, 1) := dL_law_662_b.2.2.2.2.1
theorem dL_law_668 : decode cL_law 668 = .ok (.aload_n 0, 1) := dL_law_662_b.2.2.2.2.2
set_option maxRecDepth 20000 in
theorem dL_law_669_b : (decode cL_law 669 = .ok (.iload 4, 2)) ∧ (decode cL_law 671 = .ok (.iconst 2, 1)) ∧ (decode cL_law 672 = .ok (.iadd, 1)) ∧ (decode cL_law 673 = .ok (.iaload, 1)) ∧ (decode cL_law 674 = .ok (.aload_n 3, 1)) ∧ (decode cL_law 675 = .ok (.invokestatic 112, 3)) := by decide +kernel
theorem dL_law_669 : decode cL_law 669 = .ok (.iload 4, 2) := dL_law_669_b.1
theorem dL_law_671 : decode cL_law 671 = .ok (.iconst 2, 1) := dL_law_669_b.2.1
theorem dL_law_672 : decode cL_law 672 = .ok (.iadd, 1) := dL_law_669_b.2.2.1
theorem dL_law_673 : decode cL_law 673 = .ok (.iaload, 1) := dL_law_669_b.2.2.2.1
theorem dL_law_674 : decode cL_law 674 = .ok (.aload_n 3, 1) := dL_law_669_b.2.2.2.2.1
theorem dL_law_675 : decode cL_law 675 = .ok (.invokestatic 112, 3) := dL_law_669_b.2.2.2.2.2
set_option maxRecDepth 20000 in
theorem dL_law_678_b : (decode cL_law 678 = .ok (.istore 5, 2)) ∧ (decode cL_law 680 = .ok (.aload_n 2, 1)) ∧ (decode cL_law 681 = .ok (.aload_n 0, 1)) ∧ (decode cL_law 682 = .ok (.iload 4, 2)) ∧ (decode cL_law 684 = .ok (.iconst 1, 1)) ∧ (decode cL_law 685 = .ok (.iadd, 1)) := by decide +kernel
theorem dL_law_678 : decode cL_law 678 = .ok (.istore 5, 2) := dL_law_678_b.1
theorem dL_law_680 : decode cL_law 680 = .ok (.aload_n 2, 1) := dL_law_678_b.2.1
theorem dL_law_681 : decode cL_law 681 = .ok (.aload_n 0, 1) := dL_law_678_b.2.2.1
theorem dL_law_682 : decode cL_law 682 = .ok (.iload 4, 2) := dL_law_678_b.2.2.2.1
theorem dL_law_684 : decode cL_law 684 = .ok (.iconst 1, 1) := dL_law_678_b.2.2.2.2.1
theorem dL_law_685 : decode cL_law 685 = .ok (.iadd, 1) := dL_law_678_b.2.2.2.2.2
set_option maxRecDepth 20000 in
theorem dL_law_686_b : (decode cL_law 686 = .ok (.iaload, 1)) ∧ (decode cL_law 687 = .ok (.aload_n 0, 1)) ∧ (decode cL_law 688 = .ok (.iload 4, 2)) ∧ (decode cL_law 690 = .ok (.iconst 2, 1)) ∧ (decode cL_law 691 = .ok (.iadd, 1)) ∧ (decode cL_law 692 = .ok (.iaload, 1)) := by decide +kernel
theorem dL_law_686 : decode cL_law 686 = .ok (.iaload, 1) := dL_law_686_b.1
theorem dL_law_687 : decode cL_law 687 = .ok (.aload_n 0, 1) := dL_law_686_b.2.1
theorem dL_law_688 : decode cL_law 688 = .ok (.iload 4, 2) := dL_law_686_b.2.2.1
theorem dL_law_690 : decode cL_law 690 = .ok (.iconst 2, 1) := dL_law_686_b.2.2.2.1
theorem dL_law_691 : decode cL_law 691 = .ok (.iadd, 1) := dL_law_686_b.2.2.2.2.1
theorem dL_law_692 : decode cL_law 692 = .ok (.iaload, 1) := dL_law_686_b.2.2.2.2.2
set_option maxRecDepth 20000 in
theorem dL_law_693_b : (decode cL_law 693 = .ok (.invokevirtual 114, 3)) ∧ (decode cL_law 696 = .ok (.istore 6, 2)) ∧ (decode cL_law 698 = .ok (.goto 80, 3)) ∧ (decode cL_law 701 = .ok (.aload_n 1, 1)) ∧ (decode cL_law 702 = .ok (.aload_n 0, 1)) ∧ (decode cL_law 703 = .ok (.iload 4, 2)) := by decide +kernel
theorem dL_law_693 : decode cL_law 693 = .ok (.invokevirtual 114, 3) := dL_law_693_b.1
theorem dL_law_696 : decode cL_law 696 = .ok (.istore 6, 2) := dL_law_693_b.2.1
theorem dL_law_698 : decode cL_law 698 = .ok (.goto 80, 3) := dL_law_693_b.2.2.1
theorem dL_law_701 : decode cL_law 701 = .ok (.aload_n 1, 1) := dL_law_693_b.2.2.2.1
theorem dL_law_702 : decode cL_law 702 = .ok (.aload_n 0, 1) := dL_law_693_b.2.2.2.2.1
theorem dL_law_703 : decode cL_law 703 = .ok (.iload 4, 2) := dL_law_693_b.2.2.2.2.2
set_option maxRecDepth 20000 in
theorem dL_law_705_b : (decode cL_law 705 = .ok (.iconst 1, 1)) ∧ (decode cL_law 706 = .ok (.iadd, 1)) ∧ (decode cL_law 707 = .ok (.iaload, 1)) ∧ (decode cL_law 708 = .ok (.invokevirtual 115, 3)) ∧ (decode cL_law 711 = .ok (.pop, 1)) ∧ (decode cL_law 712 = .ok (.aload_n 2, 1)) := by decide +kernel
theorem dL_law_705 : decode cL_law 705 = .ok (.iconst 1, 1) := dL_law_705_b.1
theorem dL_law_706 : decode cL_law 706 = .ok (.iadd, 1) := dL_law_705_b.2.1
theorem dL_law_707 : decode cL_law 707 = .ok (.iaload, 1) := dL_law_705_b.2.2.1
theorem dL_law_708 : decode cL_law 708 = .ok (.invokevirtual 115, 3) := dL_law_705_b.2.2.2.1
theorem dL_law_711 : decode cL_law 711 = .ok (.pop, 1) := dL_law_705_b.2.2.2.2.1
theorem dL_law_712 : decode cL_law 712 = .ok (.aload_n 2, 1) := dL_law_705_b.2.2.2.2.2
set_option maxRecDepth 20000 in
theorem dL_law_713_b : (decode cL_law 713 = .ok (.aload_n 0, 1)) ∧ (decode cL_law 714 = .ok (.iload 4, 2)) ∧ (decode cL_law 716 = .ok (.iconst 1, 1)) ∧ (decode cL_law 717 = .ok (.iadd, 1)) ∧ (decode cL_law 718 = .ok (.iaload, 1)) ∧ (decode cL_law 719 = .ok (.invokevirtual 118, 3)) := by decide +kernel
theorem dL_law_713 : decode cL_law 713 = .ok (.aload_n 0, 1) := dL_law_713_b.1
theorem dL_law_714 : decode cL_law 714 = .ok (.iload 4, 2) := dL_law_713_b.2.1
theorem dL_law_716 : decode cL_law 716 = .ok (.iconst 1, 1) := dL_law_713_b.2.2.1
theorem dL_law_717 : decode cL_law 717 = .ok (.iadd, 1) := dL_law_713_b.2.2.2.1
theorem dL_law_718 : decode cL_law 718 = .ok (.iaload, 1) := dL_law_713_b.2.2.2.2.1
theorem dL_law_719 : decode cL_law 719 = .ok (.invokevirtual 118, 3) := dL_law_713_b.2.2.2.2.2
set_option maxRecDepth 20000 in
theorem dL_law_722_b : (decode cL_law 722 = .ok (.pop, 1)) ∧ (decode cL_law 723 = .ok (.goto 55, 3)) ∧ (decode cL_law 726 = .ok (.aload_n 1, 1)) ∧ (decode cL_law 727 = .ok (.aload_n 0, 1)) ∧ (decode cL_law 728 = .ok (.iload 4, 2)) ∧ (decode cL_law 730 = .ok (.iconst 1, 1)) := by decide +kernel
theorem dL_law_722 : decode cL_law 722 = .ok (.pop, 1) := dL_law_722_b.1
theorem dL_law_723 : decode cL_law 723 = .ok (.goto 55, 3) := dL_law_722_b.2.1
theorem dL_law_726 : decode cL_law 726 = .ok (.aload_n 1, 1) := dL_law_722_b.2.2.1
theorem dL_law_727 : decode cL_law 727 = .ok (.aload_n 0, 1) := dL_law_722_b.2.2.2.1
theorem dL_law_728 : decode cL_law 728 = .ok (.iload 4, 2) := dL_law_722_b.2.2.2.2.1
theorem dL_law_730 : decode cL_law 730 = .ok (.iconst 1, 1) := dL_law_722_b.2.2.2.2.2
set_option maxRecDepth 20000 in
theorem dL_law_731_b : (decode cL_law 731 = .ok (.iadd, 1)) ∧ (decode cL_law 732 = .ok (.iaload, 1)) ∧ (decode cL_law 733 = .ok (.aload_n 3, 1)) ∧ (decode cL_law 734 = .ok (.invokestatic 119, 3)) ∧ (decode cL_law 737 = .ok (.istore 5, 2)) ∧ (decode cL_law 739 = .ok (.aload_n 2, 1)) := by decide +kernel
theorem dL_law_731 : decode cL_law 731 = .ok (.iadd, 1) := dL_law_731_b.1
theorem dL_law_732 : decode cL_law 732 = .ok (.iaload, 1) := dL_law_731_b.2.1
theorem dL_law_733 : decode cL_law 733 = .ok (.aload_n 3, 1) := dL_law_731_b.2.2.1
theorem dL_law_734 : decode cL_law 734 = .ok (.invokestatic 119, 3) := dL_law_731_b.2.2.2.1
theorem dL_law_737 : decode cL_law 737 = .ok (.istore 5, 2) := dL_law_731_b.2.2.2.2.1
theorem dL_law_739 : decode cL_law 739 = .ok (.aload_n 2, 1) := dL_law_731_b.2.2.2.2.2
set_option maxRecDepth 20000 in
theorem dL_law_740_b : (decode cL_law 740 = .ok (.aload_n 0, 1)) ∧ (decode cL_law 741 = .ok (.iload 4, 2)) ∧ (decode cL_law 743 = .ok (.iconst 1, 1)) ∧ (decode cL_law 744 = .ok (.iadd, 1)) ∧ (decode cL_law 745 = .ok (.iaload, 1)) ∧ (decode cL_law 746 = .ok (.invokevirtual 121, 3)) := by decide +kernel
theorem dL_law_740 : decode cL_law 740 = .ok (.aload_n 0, 1) := dL_law_740_b.1
theorem dL_law_741 : decode cL_law 741 = .ok (.iload 4, 2) := dL_law_740_b.2.1
theorem dL_law_743 : decode cL_law 743 = .ok (.iconst 1, 1) := dL_law_740_b.2.2.1
theorem dL_law_744 : decode cL_law 744 = .ok (.iadd, 1) := dL_law_740_b.2.2.2.1
theorem dL_law_745 : decode cL_law 745 = .ok (.iaload, 1) := dL_law_740_b.2.2.2.2.1
theorem dL_law_746 : decode cL_law 746 = .ok (.invokevirtual 121, 3) := dL_law_740_b.2.2.2.2.2
set_option maxRecDepth 20000 in
theorem dL_law_749_b : (decode cL_law 749 = .ok (.istore 6, 2)) ∧ (decode cL_law 751 = .ok (.goto 27, 3)) ∧ (decode cL_law 754 = .ok (.aload_n 1, 1)) ∧ (decode cL_law 755 = .ok (.invokevirtual 122, 3)) ∧ (decode cL_law 758 = .ok (.aload_n 2, 1)) ∧ (decode cL_law 759 = .ok (.invokevirtual 125, 3)) := by decide +kernel
theorem dL_law_749 : decode cL_law 749 = .ok (.istore 6, 2) := dL_law_749_b.1
theorem dL_law_751 : decode cL_law 751 = .ok (.goto 27, 3) := dL_law_749_b.2.1
theorem dL_law_754 : decode cL_law 754 = .ok (.aload_n 1, 1) := dL_law_749_b.2.2.1
theorem dL_law_755 : decode cL_law 755 = .ok (.invokevirtual 122, 3) := dL_law_749_b.2.2.2.1
theorem dL_law_758 : decode cL_law 758 = .ok (.aload_n 2, 1) := dL_law_749_b.2.2.2.2.1
theorem dL_law_759 : decode cL_law 759 = .ok (.invokevirtual 125, 3) := dL_law_749_b.2.2.2.2.2
set_option maxRecDepth 20000 in
theorem dL_law_762_b : (decode cL_law 762 = .ok (.goto 16, 3)) ∧ (decode cL_law 765 = .ok (.aload_n 1, 1)) ∧ (decode cL_law 766 = .ok (.invokevirtual 126, 3)) ∧ (decode cL_law 769 = .ok (.pop, 1)) ∧ (decode cL_law 770 = .ok (.aload_n 2, 1)) ∧ (decode cL_law 771 = .ok (.invokevirtual 130, 3)) := by decide +kernel
theorem dL_law_762 : decode cL_law 762 = .ok (.goto 16, 3) := dL_law_762_b.1
theorem dL_law_765 : decode cL_law 765 = .ok (.aload_n 1, 1) := dL_law_762_b.2.1
theorem dL_law_766 : decode cL_law 766 = .ok (.invokevirtual 126, 3) := dL_law_762_b.2.2.1
theorem dL_law_769 : decode cL_law 769 = .ok (.pop, 1) := dL_law_762_b.2.2.2.1
theorem dL_law_770 : decode cL_law 770 = .ok (.aload_n 2, 1) := dL_law_762_b.2.2.2.2.1
theorem dL_law_771 : decode cL_law 771 = .ok (.invokevirtual 130, 3) := dL_law_762_b.2.2.2.2.2
set_option maxRecDepth 20000 in
theorem dL_law_774_b : (decode cL_law 774 = .ok (.pop, 1)) ∧ (decode cL_law 775 = .ok (.goto 3, 3)) ∧ (decode cL_law 778 = .ok (.iinc 4 6, 3)) ∧ (decode cL_law 781 = .ok (.goto (-758), 3)) ∧ (decode cL_law 784 = .ok (.iconst 1, 1)) ∧ (decode cL_law 785 = .ok (.ireturn, 1)) := by decide +kernel
theorem dL_law_774 : decode cL_law 774 = .ok (.pop, 1) := dL_law_774_b.1
theorem dL_law_775 : decode cL_law 775 = .ok (.goto 3, 3) := dL_law_774_b.2.1
theorem dL_law_778 : decode cL_law 778 = .ok (.iinc 4 6, 3) := dL_law_774_b.2.2.1
theorem dL_law_781 : decode cL_law 781 = .ok (.goto (-758), 3) := dL_law_774_b.2.2.2.1
theorem dL_law_784 : decode cL_law 784 = .ok (.iconst 1, 1) := dL_law_774_b.2.2.2.2.1
theorem dL_law_785 : decode cL_law 785 = .ok (.ireturn, 1) := dL_law_774_b.2.2.2.2.2
