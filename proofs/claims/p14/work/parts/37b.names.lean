set_option maxRecDepth 20000 in
theorem dX3_isServed_1_b : (decode cX3_isServed 1 = .ok (.iload_n 2, 1)) ∧ (decode cX3_isServed 2 = .ok (.invokestatic 78, 3)) ∧ (decode cX3_isServed 5 = .ok (.istore_n 3, 1)) ∧ (decode cX3_isServed 6 = .ok (.iload_n 3, 1)) ∧ (decode cX3_isServed 7 = .ok (.aload_n 0, 1)) ∧ (decode cX3_isServed 8 = .ok (.getfield 21, 3)) := by decide +kernel
theorem dX3_isServed_1 : decode cX3_isServed 1 = .ok (.iload_n 2, 1) := dX3_isServed_1_b.1
theorem dX3_isServed_2 : decode cX3_isServed 2 = .ok (.invokestatic 78, 3) := dX3_isServed_1_b.2.1
theorem dX3_isServed_5 : decode cX3_isServed 5 = .ok (.istore_n 3, 1) := dX3_isServed_1_b.2.2.1
theorem dX3_isServed_6 : decode cX3_isServed 6 = .ok (.iload_n 3, 1) := dX3_isServed_1_b.2.2.2.1
theorem dX3_isServed_7 : decode cX3_isServed 7 = .ok (.aload_n 0, 1) := dX3_isServed_1_b.2.2.2.2.1
theorem dX3_isServed_8 : decode cX3_isServed 8 = .ok (.getfield 21, 3) := dX3_isServed_1_b.2.2.2.2.2
set_option maxRecDepth 20000 in
theorem dX3_isServed_11_b : (decode cX3_isServed 11 = .ok (.iload_n 2, 1)) ∧ (decode cX3_isServed 12 = .ok (.iaload, 1)) ∧ (decode cX3_isServed 13 = .ok (.if_icmp .eq 9, 3)) ∧ (decode cX3_isServed 16 = .ok (.iload_n 3, 1)) ∧ (decode cX3_isServed 17 = .ok (.bipush 14, 2)) ∧ (decode cX3_isServed 19 = .ok (.if_icmp .ne 7, 3)) := by decide +kernel
theorem dX3_isServed_11 : decode cX3_isServed 11 = .ok (.iload_n 2, 1) := dX3_isServed_11_b.1
theorem dX3_isServed_12 : decode cX3_isServed 12 = .ok (.iaload, 1) := dX3_isServed_11_b.2.1
theorem dX3_isServed_13 : decode cX3_isServed 13 = .ok (.if_icmp .eq 9, 3) := dX3_isServed_11_b.2.2.1
theorem dX3_isServed_16 : decode cX3_isServed 16 = .ok (.iload_n 3, 1) := dX3_isServed_11_b.2.2.2.1
theorem dX3_isServed_17 : decode cX3_isServed 17 = .ok (.bipush 14, 2) := dX3_isServed_11_b.2.2.2.2.1
theorem dX3_isServed_19 : decode cX3_isServed 19 = .ok (.if_icmp .ne 7, 3) := dX3_isServed_11_b.2.2.2.2.2
set_option maxRecDepth 20000 in
theorem dX3_isServed_22_b : (decode cX3_isServed 22 = .ok (.iconst 1, 1)) ∧ (decode cX3_isServed 23 = .ok (.goto 4, 3)) ∧ (decode cX3_isServed 26 = .ok (.iconst 0, 1)) ∧ (decode cX3_isServed 27 = .ok (.ireturn, 1)) := by decide +kernel
theorem dX3_isServed_22 : decode cX3_isServed 22 = .ok (.iconst 1, 1) := dX3_isServed_22_b.1
theorem dX3_isServed_23 : decode cX3_isServed 23 = .ok (.goto 4, 3) := dX3_isServed_22_b.2.1
theorem dX3_isServed_26 : decode cX3_isServed 26 = .ok (.iconst 0, 1) := dX3_isServed_22_b.2.2.1
theorem dX3_isServed_27 : decode cX3_isServed 27 = .ok (.ireturn, 1) := dX3_isServed_22_b.2.2.2
set_option maxRecDepth 20000 in
theorem dX3_isAllServed_0_b : (decode cX3_isAllServed 0 = .ok (.iconst 0, 1)) ∧ (decode cX3_isAllServed 1 = .ok (.istore_n 2, 1)) ∧ (decode cX3_isAllServed 2 = .ok (.iload_n 2, 1)) ∧ (decode cX3_isAllServed 3 = .ok (.aload_n 0, 1)) ∧ (decode cX3_isAllServed 4 = .ok (.getfield 59, 3)) ∧ (decode cX3_isAllServed 7 = .ok (.if_icmp .ge 60, 3)) := by decide +kernel
theorem dX3_isAllServed_0 : decode cX3_isAllServed 0 = .ok (.iconst 0, 1) := dX3_isAllServed_0_b.1
theorem dX3_isAllServed_1 : decode cX3_isAllServed 1 = .ok (.istore_n 2, 1) := dX3_isAllServed_0_b.2.1
theorem dX3_isAllServed_2 : decode cX3_isAllServed 2 = .ok (.iload_n 2, 1) := dX3_isAllServed_0_b.2.2.1
theorem dX3_isAllServed_3 : decode cX3_isAllServed 3 = .ok (.aload_n 0, 1) := dX3_isAllServed_0_b.2.2.2.1
theorem dX3_isAllServed_4 : decode cX3_isAllServed 4 = .ok (.getfield 59, 3) := dX3_isAllServed_0_b.2.2.2.2.1
theorem dX3_isAllServed_7 : decode cX3_isAllServed 7 = .ok (.if_icmp .ge 60, 3) := dX3_isAllServed_0_b.2.2.2.2.2
set_option maxRecDepth 20000 in
theorem dX3_isAllServed_10_b : (decode cX3_isAllServed 10 = .ok (.iload_n 1, 1)) ∧ (decode cX3_isAllServed 11 = .ok (.iload_n 2, 1)) ∧ (decode cX3_isAllServed 12 = .ok (.invokestatic 78, 3)) ∧ (decode cX3_isAllServed 15 = .ok (.istore_n 3, 1)) ∧ (decode cX3_isAllServed 16 = .ok (.aload_n 0, 1)) ∧ (decode cX3_isAllServed 17 = .ok (.getfield 21, 3)) := by decide +kernel
theorem dX3_isAllServed_10 : decode cX3_isAllServed 10 = .ok (.iload_n 1, 1) := dX3_isAllServed_10_b.1
theorem dX3_isAllServed_11 : decode cX3_isAllServed 11 = .ok (.iload_n 2, 1) := dX3_isAllServed_10_b.2.1
theorem dX3_isAllServed_12 : decode cX3_isAllServed 12 = .ok (.invokestatic 78, 3) := dX3_isAllServed_10_b.2.2.1
theorem dX3_isAllServed_15 : decode cX3_isAllServed 15 = .ok (.istore_n 3, 1) := dX3_isAllServed_10_b.2.2.2.1
theorem dX3_isAllServed_16 : decode cX3_isAllServed 16 = .ok (.aload_n 0, 1) := dX3_isAllServed_10_b.2.2.2.2.1
theorem dX3_isAllServed_17 : decode cX3_isAllServed 17 = .ok (.getfield 21, 3) := dX3_isAllServed_10_b.2.2.2.2.2
set_option maxRecDepth 20000 in
theorem dX3_isAllServed_20_b : (decode cX3_isAllServed 20 = .ok (.iload_n 2, 1)) ∧ (decode cX3_isAllServed 21 = .ok (.iaload, 1)) ∧ (decode cX3_isAllServed 22 = .ok (.iconst (-1), 1)) ∧ (decode cX3_isAllServed 23 = .ok (.if_icmp .eq 13, 3)) ∧ (decode cX3_isAllServed 26 = .ok (.iload_n 3, 1)) ∧ (decode cX3_isAllServed 27 = .ok (.bipush 14, 2)) := by decide +kernel
theorem dX3_isAllServed_20 : decode cX3_isAllServed 20 = .ok (.iload_n 2, 1) := dX3_isAllServed_20_b.1
theorem dX3_isAllServed_21 : decode cX3_isAllServed 21 = .ok (.iaload, 1) := dX3_isAllServed_20_b.2.1
theorem dX3_isAllServed_22 : decode cX3_isAllServed 22 = .ok (.iconst (-1), 1) := dX3_isAllServed_20_b.2.2.1
theorem dX3_isAllServed_23 : decode cX3_isAllServed 23 = .ok (.if_icmp .eq 13, 3) := dX3_isAllServed_20_b.2.2.2.1
theorem dX3_isAllServed_26 : decode cX3_isAllServed 26 = .ok (.iload_n 3, 1) := dX3_isAllServed_20_b.2.2.2.2.1
theorem dX3_isAllServed_27 : decode cX3_isAllServed 27 = .ok (.bipush 14, 2) := dX3_isAllServed_20_b.2.2.2.2.2
set_option maxRecDepth 20000 in
theorem dX3_isAllServed_29_b : (decode cX3_isAllServed 29 = .ok (.if_icmp .ge 7, 3)) ∧ (decode cX3_isAllServed 32 = .ok (.iconst 1, 1)) ∧ (decode cX3_isAllServed 33 = .ok (.goto 4, 3)) ∧ (decode cX3_isAllServed 36 = .ok (.iconst 0, 1)) ∧ (decode cX3_isAllServed 37 = .ok (.istore 4, 2)) ∧ (decode cX3_isAllServed 39 = .ok (.iload 4, 2)) := by decide +kernel
theorem dX3_isAllServed_29 : decode cX3_isAllServed 29 = .ok (.if_icmp .ge 7, 3) := dX3_isAllServed_29_b.1
theorem dX3_isAllServed_32 : decode cX3_isAllServed 32 = .ok (.iconst 1, 1) := dX3_isAllServed_29_b.2.1
theorem dX3_isAllServed_33 : decode cX3_isAllServed 33 = .ok (.goto 4, 3) := dX3_isAllServed_29_b.2.2.1
theorem dX3_isAllServed_36 : decode cX3_isAllServed 36 = .ok (.iconst 0, 1) := dX3_isAllServed_29_b.2.2.2.1
theorem dX3_isAllServed_37 : decode cX3_isAllServed 37 = .ok (.istore 4, 2) := dX3_isAllServed_29_b.2.2.2.2.1
theorem dX3_isAllServed_39 : decode cX3_isAllServed 39 = .ok (.iload 4, 2) := dX3_isAllServed_29_b.2.2.2.2.2
set_option maxRecDepth 20000 in
theorem dX3_isAllServed_41_b : (decode cX3_isAllServed 41 = .ok (.ifCond .eq 20, 3)) ∧ (decode cX3_isAllServed 44 = .ok (.aload_n 0, 1)) ∧ (decode cX3_isAllServed 45 = .ok (.iload_n 1, 1)) ∧ (decode cX3_isAllServed 46 = .ok (.iload_n 2, 1)) ∧ (decode cX3_isAllServed 47 = .ok (.invokevirtual 84, 3)) ∧ (decode cX3_isAllServed 50 = .ok (.aload_n 0, 1)) := by decide +kernel
theorem dX3_isAllServed_41 : decode cX3_isAllServed 41 = .ok (.ifCond .eq 20, 3) := dX3_isAllServed_41_b.1
theorem dX3_isAllServed_44 : decode cX3_isAllServed 44 = .ok (.aload_n 0, 1) := dX3_isAllServed_41_b.2.1
theorem dX3_isAllServed_45 : decode cX3_isAllServed 45 = .ok (.iload_n 1, 1) := dX3_isAllServed_41_b.2.2.1
theorem dX3_isAllServed_46 : decode cX3_isAllServed 46 = .ok (.iload_n 2, 1) := dX3_isAllServed_41_b.2.2.2.1
theorem dX3_isAllServed_47 : decode cX3_isAllServed 47 = .ok (.invokevirtual 84, 3) := dX3_isAllServed_41_b.2.2.2.2.1
theorem dX3_isAllServed_50 : decode cX3_isAllServed 50 = .ok (.aload_n 0, 1) := dX3_isAllServed_41_b.2.2.2.2.2
set_option maxRecDepth 20000 in
theorem dX3_isAllServed_51_b : (decode cX3_isAllServed 51 = .ok (.getfield 21, 3)) ∧ (decode cX3_isAllServed 54 = .ok (.iload_n 2, 1)) ∧ (decode cX3_isAllServed 55 = .ok (.iaload, 1)) ∧ (decode cX3_isAllServed 56 = .ok (.if_icmp .eq 5, 3)) ∧ (decode cX3_isAllServed 59 = .ok (.iconst 0, 1)) ∧ (decode cX3_isAllServed 60 = .ok (.ireturn, 1)) := by decide +kernel
theorem dX3_isAllServed_51 : decode cX3_isAllServed 51 = .ok (.getfield 21, 3) := dX3_isAllServed_51_b.1
theorem dX3_isAllServed_54 : decode cX3_isAllServed 54 = .ok (.iload_n 2, 1) := dX3_isAllServed_51_b.2.1
theorem dX3_isAllServed_55 : decode cX3_isAllServed 55 = .ok (.iaload, 1) := dX3_isAllServed_51_b.2.2.1
theorem dX3_isAllServed_56 : decode cX3_isAllServed 56 = .ok (.if_icmp .eq 5, 3) := dX3_isAllServed_51_b.2.2.2.1
theorem dX3_isAllServed_59 : decode cX3_isAllServed 59 = .ok (.iconst 0, 1) := dX3_isAllServed_51_b.2.2.2.2.1
theorem dX3_isAllServed_60 : decode cX3_isAllServed 60 = .ok (.ireturn, 1) := dX3_isAllServed_51_b.2.2.2.2.2
set_option maxRecDepth 20000 in
theorem dX3_isAllServed_61_b : (decode cX3_isAllServed 61 = .ok (.iinc 2 1, 3)) ∧ (decode cX3_isAllServed 64 = .ok (.goto (-62), 3)) ∧ (decode cX3_isAllServed 67 = .ok (.iconst 1, 1)) ∧ (decode cX3_isAllServed 68 = .ok (.ireturn, 1)) := by decide +kernel
theorem dX3_isAllServed_61 : decode cX3_isAllServed 61 = .ok (.iinc 2 1, 3) := dX3_isAllServed_61_b.1
theorem dX3_isAllServed_64 : decode cX3_isAllServed 64 = .ok (.goto (-62), 3) := dX3_isAllServed_61_b.2.1
theorem dX3_isAllServed_67 : decode cX3_isAllServed 67 = .ok (.iconst 1, 1) := dX3_isAllServed_61_b.2.2.1
theorem dX3_isAllServed_68 : decode cX3_isAllServed 68 = .ok (.ireturn, 1) := dX3_isAllServed_61_b.2.2.2
set_option maxRecDepth 20000 in
theorem dX3_placeOutside_0_b : (decode cX3_placeOutside 0 = .ok (.iload_n 1, 1)) ∧ (decode cX3_placeOutside 1 = .ok (.iload_n 2, 1)) ∧ (decode cX3_placeOutside 2 = .ok (.invokestatic 78, 3)) ∧ (decode cX3_placeOutside 5 = .ok (.istore_n 3, 1)) ∧ (decode cX3_placeOutside 6 = .ok (.iload_n 3, 1)) ∧ (decode cX3_placeOutside 7 = .ok (.bipush 12, 2)) := by decide +kernel
theorem dX3_placeOutside_0 : decode cX3_placeOutside 0 = .ok (.iload_n 1, 1) := dX3_placeOutside_0_b.1
theorem dX3_placeOutside_1 : decode cX3_placeOutside 1 = .ok (.iload_n 2, 1) := dX3_placeOutside_0_b.2.1
theorem dX3_placeOutside_2 : decode cX3_placeOutside 2 = .ok (.invokestatic 78, 3) := dX3_placeOutside_0_b.2.2.1
theorem dX3_placeOutside_5 : decode cX3_placeOutside 5 = .ok (.istore_n 3, 1) := dX3_placeOutside_0_b.2.2.2.1
theorem dX3_placeOutside_6 : decode cX3_placeOutside 6 = .ok (.iload_n 3, 1) := dX3_placeOutside_0_b.2.2.2.2.1
theorem dX3_placeOutside_7 : decode cX3_placeOutside 7 = .ok (.bipush 12, 2) := dX3_placeOutside_0_b.2.2.2.2.2
set_option maxRecDepth 20000 in
theorem dX3_placeOutside_9_b : (decode cX3_placeOutside 9 = .ok (.if_icmp .eq 11, 3)) ∧ (decode cX3_placeOutside 12 = .ok (.iload_n 3, 1)) ∧ (decode cX3_placeOutside 13 = .ok (.bipush 13, 2)) ∧ (decode cX3_placeOutside 15 = .ok (.if_icmp .eq 5, 3)) ∧ (decode cX3_placeOutside 18 = .ok (.iload_n 3, 1)) ∧ (decode cX3_placeOutside 19 = .ok (.ireturn, 1)) := by decide +kernel
theorem dX3_placeOutside_9 : decode cX3_placeOutside 9 = .ok (.if_icmp .eq 11, 3) := dX3_placeOutside_9_b.1
theorem dX3_placeOutside_12 : decode cX3_placeOutside 12 = .ok (.iload_n 3, 1) := dX3_placeOutside_9_b.2.1
theorem dX3_placeOutside_13 : decode cX3_placeOutside 13 = .ok (.bipush 13, 2) := dX3_placeOutside_9_b.2.2.1
theorem dX3_placeOutside_15 : decode cX3_placeOutside 15 = .ok (.if_icmp .eq 5, 3) := dX3_placeOutside_9_b.2.2.2.1
theorem dX3_placeOutside_18 : decode cX3_placeOutside 18 = .ok (.iload_n 3, 1) := dX3_placeOutside_9_b.2.2.2.2.1
theorem dX3_placeOutside_19 : decode cX3_placeOutside 19 = .ok (.ireturn, 1) := dX3_placeOutside_9_b.2.2.2.2.2
set_option maxRecDepth 20000 in
theorem dX3_placeOutside_20_b : (decode cX3_placeOutside 20 = .ok (.aload_n 0, 1)) ∧ (decode cX3_placeOutside 21 = .ok (.iload_n 1, 1)) ∧ (decode cX3_placeOutside 22 = .ok (.iload_n 3, 1)) ∧ (decode cX3_placeOutside 23 = .ok (.bipush 12, 2)) ∧ (decode cX3_placeOutside 25 = .ok (.isub, 1)) ∧ (decode cX3_placeOutside 26 = .ok (.invokevirtual 81, 3)) := by decide +kernel
theorem dX3_placeOutside_20 : decode cX3_placeOutside 20 = .ok (.aload_n 0, 1) := dX3_placeOutside_20_b.1
theorem dX3_placeOutside_21 : decode cX3_placeOutside 21 = .ok (.iload_n 1, 1) := dX3_placeOutside_20_b.2.1
theorem dX3_placeOutside_22 : decode cX3_placeOutside 22 = .ok (.iload_n 3, 1) := dX3_placeOutside_20_b.2.2.1
theorem dX3_placeOutside_23 : decode cX3_placeOutside 23 = .ok (.bipush 12, 2) := dX3_placeOutside_20_b.2.2.2.1
theorem dX3_placeOutside_25 : decode cX3_placeOutside 25 = .ok (.isub, 1) := dX3_placeOutside_20_b.2.2.2.2.1
theorem dX3_placeOutside_26 : decode cX3_placeOutside 26 = .ok (.invokevirtual 81, 3) := dX3_placeOutside_20_b.2.2.2.2.2
set_option maxRecDepth 20000 in
theorem dX3_placeOutside_29_b : (decode cX3_placeOutside 29 = .ok (.istore 4, 2)) ∧ (decode cX3_placeOutside 31 = .ok (.aload_n 0, 1)) ∧ (decode cX3_placeOutside 32 = .ok (.getfield 9, 3)) ∧ (decode cX3_placeOutside 35 = .ok (.iload_n 2, 1)) ∧ (decode cX3_placeOutside 36 = .ok (.iaload, 1)) ∧ (decode cX3_placeOutside 37 = .ok (.iconst 3, 1)) := by decide +kernel
theorem dX3_placeOutside_29 : decode cX3_placeOutside 29 = .ok (.istore 4, 2) := dX3_placeOutside_29_b.1
theorem dX3_placeOutside_31 : decode cX3_placeOutside 31 = .ok (.aload_n 0, 1) := dX3_placeOutside_29_b.2.1
theorem dX3_placeOutside_32 : decode cX3_placeOutside 32 = .ok (.getfield 9, 3) := dX3_placeOutside_29_b.2.2.1
theorem dX3_placeOutside_35 : decode cX3_placeOutside 35 = .ok (.iload_n 2, 1) := dX3_placeOutside_29_b.2.2.2.1
theorem dX3_placeOutside_36 : decode cX3_placeOutside 36 = .ok (.iaload, 1) := dX3_placeOutside_29_b.2.2.2.2.1
theorem dX3_placeOutside_37 : decode cX3_placeOutside 37 = .ok (.iconst 3, 1) := dX3_placeOutside_29_b.2.2.2.2.2
set_option maxRecDepth 20000 in
theorem dX3_placeOutside_38_b : (decode cX3_placeOutside 38 = .ok (.if_icmp .ne 19, 3)) ∧ (decode cX3_placeOutside 41 = .ok (.iload 4, 2)) ∧ (decode cX3_placeOutside 43 = .ok (.aload_n 0, 1)) ∧ (decode cX3_placeOutside 44 = .ok (.getfield 21, 3)) ∧ (decode cX3_placeOutside 47 = .ok (.iload_n 2, 1)) ∧ (decode cX3_placeOutside 48 = .ok (.iaload, 1)) := by decide +kernel
theorem dX3_placeOutside_38 : decode cX3_placeOutside 38 = .ok (.if_icmp .ne 19, 3) := dX3_placeOutside_38_b.1
theorem dX3_placeOutside_41 : decode cX3_placeOutside 41 = .ok (.iload 4, 2) := dX3_placeOutside_38_b.2.1
theorem dX3_placeOutside_43 : decode cX3_placeOutside 43 = .ok (.aload_n 0, 1) := dX3_placeOutside_38_b.2.2.1
theorem dX3_placeOutside_44 : decode cX3_placeOutside 44 = .ok (.getfield 21, 3) := dX3_placeOutside_38_b.2.2.2.1
theorem dX3_placeOutside_47 : decode cX3_placeOutside 47 = .ok (.iload_n 2, 1) := dX3_placeOutside_38_b.2.2.2.2.1
theorem dX3_placeOutside_48 : decode cX3_placeOutside 48 = .ok (.iaload, 1) := dX3_placeOutside_38_b.2.2.2.2.2
set_option maxRecDepth 20000 in
theorem dX3_placeOutside_49_b : (decode cX3_placeOutside 49 = .ok (.if_icmp .ne 8, 3)) ∧ (decode cX3_placeOutside 52 = .ok (.bipush 14, 2)) ∧ (decode cX3_placeOutside 54 = .ok (.goto 5, 3)) ∧ (decode cX3_placeOutside 57 = .ok (.iload 4, 2)) ∧ (decode cX3_placeOutside 59 = .ok (.ireturn, 1)) := by decide +kernel
theorem dX3_placeOutside_49 : decode cX3_placeOutside 49 = .ok (.if_icmp .ne 8, 3) := dX3_placeOutside_49_b.1
theorem dX3_placeOutside_52 : decode cX3_placeOutside 52 = .ok (.bipush 14, 2) := dX3_placeOutside_49_b.2.1
theorem dX3_placeOutside_54 : decode cX3_placeOutside 54 = .ok (.goto 5, 3) := dX3_placeOutside_49_b.2.2.1
theorem dX3_placeOutside_57 : decode cX3_placeOutside 57 = .ok (.iload 4, 2) := dX3_placeOutside_49_b.2.2.2.1
theorem dX3_placeOutside_59 : decode cX3_placeOutside 59 = .ok (.ireturn, 1) := dX3_placeOutside_49_b.2.2.2.2
set_option maxRecDepth 20000 in
theorem dX3_loadTrouble_0_b : (decode cX3_loadTrouble 0 = .ok (.aload_n 0, 1)) ∧ (decode cX3_loadTrouble 1 = .ok (.iload_n 2, 1)) ∧ (decode cX3_loadTrouble 2 = .ok (.invokevirtual 87, 3)) ∧ (decode cX3_loadTrouble 5 = .ok (.ifCond .eq 12, 3)) ∧ (decode cX3_loadTrouble 8 = .ok (.iload_n 3, 1)) ∧ (decode cX3_loadTrouble 9 = .ok (.ifCond .lt 8, 3)) := by decide +kernel
theorem dX3_loadTrouble_0 : decode cX3_loadTrouble 0 = .ok (.aload_n 0, 1) := dX3_loadTrouble_0_b.1
theorem dX3_loadTrouble_1 : decode cX3_loadTrouble 1 = .ok (.iload_n 2, 1) := dX3_loadTrouble_0_b.2.1
theorem dX3_loadTrouble_2 : decode cX3_loadTrouble 2 = .ok (.invokevirtual 87, 3) := dX3_loadTrouble_0_b.2.2.1
theorem dX3_loadTrouble_5 : decode cX3_loadTrouble 5 = .ok (.ifCond .eq 12, 3) := dX3_loadTrouble_0_b.2.2.2.1
theorem dX3_loadTrouble_8 : decode cX3_loadTrouble 8 = .ok (.iload_n 3, 1) := dX3_loadTrouble_0_b.2.2.2.2.1
theorem dX3_loadTrouble_9 : decode cX3_loadTrouble 9 = .ok (.ifCond .lt 8, 3) := dX3_loadTrouble_0_b.2.2.2.2.2
set_option maxRecDepth 20000 in
theorem dX3_loadTrouble_12_b : (decode cX3_loadTrouble 12 = .ok (.iload_n 3, 1)) ∧ (decode cX3_loadTrouble 13 = .ok (.iconst 1, 1)) ∧ (decode cX3_loadTrouble 14 = .ok (.if_icmp .le 5, 3)) ∧ (decode cX3_loadTrouble 17 = .ok (.iconst 1, 1)) ∧ (decode cX3_loadTrouble 18 = .ok (.ireturn, 1)) ∧ (decode cX3_loadTrouble 19 = .ok (.iload_n 1, 1)) := by decide +kernel
theorem dX3_loadTrouble_12 : decode cX3_loadTrouble 12 = .ok (.iload_n 3, 1) := dX3_loadTrouble_12_b.1
theorem dX3_loadTrouble_13 : decode cX3_loadTrouble 13 = .ok (.iconst 1, 1) := dX3_loadTrouble_12_b.2.1
theorem dX3_loadTrouble_14 : decode cX3_loadTrouble 14 = .ok (.if_icmp .le 5, 3) := dX3_loadTrouble_12_b.2.2.1
theorem dX3_loadTrouble_17 : decode cX3_loadTrouble 17 = .ok (.iconst 1, 1) := dX3_loadTrouble_12_b.2.2.2.1
theorem dX3_loadTrouble_18 : decode cX3_loadTrouble 18 = .ok (.ireturn, 1) := dX3_loadTrouble_12_b.2.2.2.2.1
theorem dX3_loadTrouble_19 : decode cX3_loadTrouble 19 = .ok (.iload_n 1, 1) := dX3_loadTrouble_12_b.2.2.2.2.2
set_option maxRecDepth 20000 in
theorem dX3_loadTrouble_20_b : (decode cX3_loadTrouble 20 = .ok (.iload_n 2, 1)) ∧ (decode cX3_loadTrouble 21 = .ok (.invokestatic 78, 3)) ∧ (decode cX3_loadTrouble 24 = .ok (.bipush 12, 2)) ∧ (decode cX3_loadTrouble 26 = .ok (.if_icmp .ge 12, 3)) ∧ (decode cX3_loadTrouble 29 = .ok (.aload_n 0, 1)) ∧ (decode cX3_loadTrouble 30 = .ok (.iload_n 1, 1)) := by decide +kernel
theorem dX3_loadTrouble_20 : decode cX3_loadTrouble 20 = .ok (.iload_n 2, 1) := dX3_loadTrouble_20_b.1
theorem dX3_loadTrouble_21 : decode cX3_loadTrouble 21 = .ok (.invokestatic 78, 3) := dX3_loadTrouble_20_b.2.1
theorem dX3_loadTrouble_24 : decode cX3_loadTrouble 24 = .ok (.bipush 12, 2) := dX3_loadTrouble_20_b.2.2.1
theorem dX3_loadTrouble_26 : decode cX3_loadTrouble 26 = .ok (.if_icmp .ge 12, 3) := dX3_loadTrouble_20_b.2.2.2.1
theorem dX3_loadTrouble_29 : decode cX3_loadTrouble 29 = .ok (.aload_n 0, 1) := dX3_loadTrouble_20_b.2.2.2.2.1
theorem dX3_loadTrouble_30 : decode cX3_loadTrouble 30 = .ok (.iload_n 1, 1) := dX3_loadTrouble_20_b.2.2.2.2.2
set_option maxRecDepth 20000 in
theorem dX3_loadTrouble_31_b : (decode cX3_loadTrouble 31 = .ok (.iload_n 2, 1)) ∧ (decode cX3_loadTrouble 32 = .ok (.invokevirtual 91, 3)) ∧ (decode cX3_loadTrouble 35 = .ok (.ifCond .eq 5, 3)) ∧ (decode cX3_loadTrouble 38 = .ok (.iconst 2, 1)) ∧ (decode cX3_loadTrouble 39 = .ok (.ireturn, 1)) ∧ (decode cX3_loadTrouble 40 = .ok (.aload_n 0, 1)) := by decide +kernel
theorem dX3_loadTrouble_31 : decode cX3_loadTrouble 31 = .ok (.iload_n 2, 1) := dX3_loadTrouble_31_b.1
theorem dX3_loadTrouble_32 : decode cX3_loadTrouble 32 = .ok (.invokevirtual 91, 3) := dX3_loadTrouble_31_b.2.1
theorem dX3_loadTrouble_35 : decode cX3_loadTrouble 35 = .ok (.ifCond .eq 5, 3) := dX3_loadTrouble_31_b.2.2.1
theorem dX3_loadTrouble_38 : decode cX3_loadTrouble 38 = .ok (.iconst 2, 1) := dX3_loadTrouble_31_b.2.2.2.1
theorem dX3_loadTrouble_39 : decode cX3_loadTrouble 39 = .ok (.ireturn, 1) := dX3_loadTrouble_31_b.2.2.2.2.1
theorem dX3_loadTrouble_40 : decode cX3_loadTrouble 40 = .ok (.aload_n 0, 1) := dX3_loadTrouble_31_b.2.2.2.2.2
set_option maxRecDepth 20000 in
theorem dX3_loadTrouble_41_b : (decode cX3_loadTrouble 41 = .ok (.iload_n 1, 1)) ∧ (decode cX3_loadTrouble 42 = .ok (.iload_n 3, 1)) ∧ (decode cX3_loadTrouble 43 = .ok (.invokevirtual 81, 3)) ∧ (decode cX3_loadTrouble 46 = .ok (.aload_n 0, 1)) ∧ (decode cX3_loadTrouble 47 = .ok (.iload_n 1, 1)) ∧ (decode cX3_loadTrouble 48 = .ok (.iload_n 2, 1)) := by decide +kernel
theorem dX3_loadTrouble_41 : decode cX3_loadTrouble 41 = .ok (.iload_n 1, 1) := dX3_loadTrouble_41_b.1
theorem dX3_loadTrouble_42 : decode cX3_loadTrouble 42 = .ok (.iload_n 3, 1) := dX3_loadTrouble_41_b.2.1
theorem dX3_loadTrouble_43 : decode cX3_loadTrouble 43 = .ok (.invokevirtual 81, 3) := dX3_loadTrouble_41_b.2.2.1
theorem dX3_loadTrouble_46 : decode cX3_loadTrouble 46 = .ok (.aload_n 0, 1) := dX3_loadTrouble_41_b.2.2.2.1
theorem dX3_loadTrouble_47 : decode cX3_loadTrouble 47 = .ok (.iload_n 1, 1) := dX3_loadTrouble_41_b.2.2.2.2.1
theorem dX3_loadTrouble_48 : decode cX3_loadTrouble 48 = .ok (.iload_n 2, 1) := dX3_loadTrouble_41_b.2.2.2.2.2
set_option maxRecDepth 20000 in
theorem dX3_loadTrouble_49_b : (decode cX3_loadTrouble 49 = .ok (.invokevirtual 84, 3)) ∧ (decode cX3_loadTrouble 52 = .ok (.if_icmp .ne 7, 3)) ∧ (decode cX3_loadTrouble 55 = .ok (.iconst 0, 1)) ∧ (decode cX3_loadTrouble 56 = .ok (.goto 4, 3)) ∧ (decode cX3_loadTrouble 59 = .ok (.iconst 3, 1)) ∧ (decode cX3_loadTrouble 60 = .ok (.ireturn, 1)) := by decide +kernel
theorem dX3_loadTrouble_49 : decode cX3_loadTrouble 49 = .ok (.invokevirtual 84, 3) := dX3_loadTrouble_49_b.1
theorem dX3_loadTrouble_52 : decode cX3_loadTrouble 52 = .ok (.if_icmp .ne 7, 3) := dX3_loadTrouble_49_b.2.1
theorem dX3_loadTrouble_55 : decode cX3_loadTrouble 55 = .ok (.iconst 0, 1) := dX3_loadTrouble_49_b.2.2.1
theorem dX3_loadTrouble_56 : decode cX3_loadTrouble 56 = .ok (.goto 4, 3) := dX3_loadTrouble_49_b.2.2.2.1
theorem dX3_loadTrouble_59 : decode cX3_loadTrouble 59 = .ok (.iconst 3, 1) := dX3_loadTrouble_49_b.2.2.2.2.1
theorem dX3_loadTrouble_60 : decode cX3_loadTrouble 60 = .ok (.ireturn, 1) := dX3_loadTrouble_49_b.2.2.2.2.2
set_option maxRecDepth 20000 in
theorem dX3_unloadTrouble_0_b : (decode cX3_unloadTrouble 0 = .ok (.aload_n 0, 1)) ∧ (decode cX3_unloadTrouble 1 = .ok (.iload_n 2, 1)) ∧ (decode cX3_unloadTrouble 2 = .ok (.invokevirtual 87, 3)) ∧ (decode cX3_unloadTrouble 5 = .ok (.ifCond .ne 5, 3)) ∧ (decode cX3_unloadTrouble 8 = .ok (.iconst 1, 1)) ∧ (decode cX3_unloadTrouble 9 = .ok (.ireturn, 1)) := by decide +kernel
theorem dX3_unloadTrouble_0 : decode cX3_unloadTrouble 0 = .ok (.aload_n 0, 1) := dX3_unloadTrouble_0_b.1
theorem dX3_unloadTrouble_1 : decode cX3_unloadTrouble 1 = .ok (.iload_n 2, 1) := dX3_unloadTrouble_0_b.2.1
theorem dX3_unloadTrouble_2 : decode cX3_unloadTrouble 2 = .ok (.invokevirtual 87, 3) := dX3_unloadTrouble_0_b.2.2.1
theorem dX3_unloadTrouble_5 : decode cX3_unloadTrouble 5 = .ok (.ifCond .ne 5, 3) := dX3_unloadTrouble_0_b.2.2.2.1
theorem dX3_unloadTrouble_8 : decode cX3_unloadTrouble 8 = .ok (.iconst 1, 1) := dX3_unloadTrouble_0_b.2.2.2.2.1
theorem dX3_unloadTrouble_9 : decode cX3_unloadTrouble 9 = .ok (.ireturn, 1) := dX3_unloadTrouble_0_b.2.2.2.2.2
set_option maxRecDepth 20000 in
theorem dX3_unloadTrouble_10_b : (decode cX3_unloadTrouble 10 = .ok (.iload_n 1, 1)) ∧ (decode cX3_unloadTrouble 11 = .ok (.iload_n 2, 1)) ∧ (decode cX3_unloadTrouble 12 = .ok (.invokestatic 95, 3)) ∧ (decode cX3_unloadTrouble 15 = .ok (.iconst (-1), 1)) ∧ (decode cX3_unloadTrouble 16 = .ok (.if_icmp .ne 7, 3)) ∧ (decode cX3_unloadTrouble 19 = .ok (.iconst 2, 1)) := by decide +kernel
theorem dX3_unloadTrouble_10 : decode cX3_unloadTrouble 10 = .ok (.iload_n 1, 1) := dX3_unloadTrouble_10_b.1
theorem dX3_unloadTrouble_11 : decode cX3_unloadTrouble 11 = .ok (.iload_n 2, 1) := dX3_unloadTrouble_10_b.2.1
theorem dX3_unloadTrouble_12 : decode cX3_unloadTrouble 12 = .ok (.invokestatic 95, 3) := dX3_unloadTrouble_10_b.2.2.1
theorem dX3_unloadTrouble_15 : decode cX3_unloadTrouble 15 = .ok (.iconst (-1), 1) := dX3_unloadTrouble_10_b.2.2.2.1
theorem dX3_unloadTrouble_16 : decode cX3_unloadTrouble 16 = .ok (.if_icmp .ne 7, 3) := dX3_unloadTrouble_10_b.2.2.2.2.1
theorem dX3_unloadTrouble_19 : decode cX3_unloadTrouble 19 = .ok (.iconst 2, 1) := dX3_unloadTrouble_10_b.2.2.2.2.2
set_option maxRecDepth 20000 in
theorem dX3_unloadTrouble_20_b : (decode cX3_unloadTrouble 20 = .ok (.goto 4, 3)) ∧ (decode cX3_unloadTrouble 23 = .ok (.iconst 0, 1)) ∧ (decode cX3_unloadTrouble 24 = .ok (.ireturn, 1)) := by decide +kernel
theorem dX3_unloadTrouble_20 : decode cX3_unloadTrouble 20 = .ok (.goto 4, 3) := dX3_unloadTrouble_20_b.1
theorem dX3_unloadTrouble_23 : decode cX3_unloadTrouble 23 = .ok (.iconst 0, 1) := dX3_unloadTrouble_20_b.2.1
theorem dX3_unloadTrouble_24 : decode cX3_unloadTrouble 24 = .ok (.ireturn, 1) := dX3_unloadTrouble_20_b.2.2
set_option maxRecDepth 20000 in
theorem dX3_rideTrouble_0_b : (decode cX3_rideTrouble 0 = .ok (.aload_n 0, 1)) ∧ (decode cX3_rideTrouble 1 = .ok (.iload_n 2, 1)) ∧ (decode cX3_rideTrouble 2 = .ok (.invokevirtual 98, 3)) ∧ (decode cX3_rideTrouble 5 = .ok (.ifCond .eq 12, 3)) ∧ (decode cX3_rideTrouble 8 = .ok (.iload_n 3, 1)) ∧ (decode cX3_rideTrouble 9 = .ok (.ifCond .lt 8, 3)) := by decide +kernel
theorem dX3_rideTrouble_0 : decode cX3_rideTrouble 0 = .ok (.aload_n 0, 1) := dX3_rideTrouble_0_b.1
theorem dX3_rideTrouble_1 : decode cX3_rideTrouble 1 = .ok (.iload_n 2, 1) := dX3_rideTrouble_0_b.2.1
theorem dX3_rideTrouble_2 : decode cX3_rideTrouble 2 = .ok (.invokevirtual 98, 3) := dX3_rideTrouble_0_b.2.2.1
theorem dX3_rideTrouble_5 : decode cX3_rideTrouble 5 = .ok (.ifCond .eq 12, 3) := dX3_rideTrouble_0_b.2.2.2.1
theorem dX3_rideTrouble_8 : decode cX3_rideTrouble 8 = .ok (.iload_n 3, 1) := dX3_rideTrouble_0_b.2.2.2.2.1
theorem dX3_rideTrouble_9 : decode cX3_rideTrouble 9 = .ok (.ifCond .lt 8, 3) := dX3_rideTrouble_0_b.2.2.2.2.2
set_option maxRecDepth 20000 in
theorem dX3_rideTrouble_12_b : (decode cX3_rideTrouble 12 = .ok (.iload_n 3, 1)) ∧ (decode cX3_rideTrouble 13 = .ok (.iconst 2, 1)) ∧ (decode cX3_rideTrouble 14 = .ok (.if_icmp .le 5, 3)) ∧ (decode cX3_rideTrouble 17 = .ok (.iconst 1, 1)) ∧ (decode cX3_rideTrouble 18 = .ok (.ireturn, 1)) ∧ (decode cX3_rideTrouble 19 = .ok (.iload_n 2, 1)) := by decide +kernel
theorem dX3_rideTrouble_12 : decode cX3_rideTrouble 12 = .ok (.iload_n 3, 1) := dX3_rideTrouble_12_b.1
theorem dX3_rideTrouble_13 : decode cX3_rideTrouble 13 = .ok (.iconst 2, 1) := dX3_rideTrouble_12_b.2.1
theorem dX3_rideTrouble_14 : decode cX3_rideTrouble 14 = .ok (.if_icmp .le 5, 3) := dX3_rideTrouble_12_b.2.2.1
theorem dX3_rideTrouble_17 : decode cX3_rideTrouble 17 = .ok (.iconst 1, 1) := dX3_rideTrouble_12_b.2.2.2.1
theorem dX3_rideTrouble_18 : decode cX3_rideTrouble 18 = .ok (.ireturn, 1) := dX3_rideTrouble_12_b.2.2.2.2.1
theorem dX3_rideTrouble_19 : decode cX3_rideTrouble 19 = .ok (.iload_n 2, 1) := dX3_rideTrouble_12_b.2.2.2.2.2
set_option maxRecDepth 20000 in
theorem dX3_rideTrouble_20_b : (decode cX3_rideTrouble 20 = .ok (.iload_n 1, 1)) ∧ (decode cX3_rideTrouble 21 = .ok (.invokestatic 74, 3)) ∧ (decode cX3_rideTrouble 24 = .ok (.if_icmp .ne 5, 3)) ∧ (decode cX3_rideTrouble 27 = .ok (.iconst 3, 1)) ∧ (decode cX3_rideTrouble 28 = .ok (.ireturn, 1)) ∧ (decode cX3_rideTrouble 29 = .ok (.aload_n 0, 1)) := by decide +kernel
theorem dX3_rideTrouble_20 : decode cX3_rideTrouble 20 = .ok (.iload_n 1, 1) := dX3_rideTrouble_20_b.1
theorem dX3_rideTrouble_21 : decode cX3_rideTrouble 21 = .ok (.invokestatic 74, 3) := dX3_rideTrouble_20_b.2.1
theorem dX3_rideTrouble_24 : decode cX3_rideTrouble 24 = .ok (.if_icmp .ne 5, 3) := dX3_rideTrouble_20_b.2.2.1
theorem dX3_rideTrouble_27 : decode cX3_rideTrouble 27 = .ok (.iconst 3, 1) := dX3_rideTrouble_20_b.2.2.2.1
theorem dX3_rideTrouble_28 : decode cX3_rideTrouble 28 = .ok (.ireturn, 1) := dX3_rideTrouble_20_b.2.2.2.2.1
theorem dX3_rideTrouble_29 : decode cX3_rideTrouble 29 = .ok (.aload_n 0, 1) := dX3_rideTrouble_20_b.2.2.2.2.2
set_option maxRecDepth 20000 in
theorem dX3_rideTrouble_30_b : (decode cX3_rideTrouble 30 = .ok (.iload_n 1, 1)) ∧ (decode cX3_rideTrouble 31 = .ok (.iconst 0, 1)) ∧ (decode cX3_rideTrouble 32 = .ok (.invokevirtual 101, 3)) ∧ (decode cX3_rideTrouble 35 = .ok (.aload_n 0, 1)) ∧ (decode cX3_rideTrouble 36 = .ok (.getfield 44, 3)) ∧ (decode cX3_rideTrouble 39 = .ok (.if_icmp .gt 16, 3)) := by decide +kernel
theorem dX3_rideTrouble_30 : decode cX3_rideTrouble 30 = .ok (.iload_n 1, 1) := dX3_rideTrouble_30_b.1
theorem dX3_rideTrouble_31 : decode cX3_rideTrouble 31 = .ok (.iconst 0, 1) := dX3_rideTrouble_30_b.2.1
theorem dX3_rideTrouble_32 : decode cX3_rideTrouble 32 = .ok (.invokevirtual 101, 3) := dX3_rideTrouble_30_b.2.2.1
theorem dX3_rideTrouble_35 : decode cX3_rideTrouble 35 = .ok (.aload_n 0, 1) := dX3_rideTrouble_30_b.2.2.2.1
theorem dX3_rideTrouble_36 : decode cX3_rideTrouble 36 = .ok (.getfield 44, 3) := dX3_rideTrouble_30_b.2.2.2.2.1
theorem dX3_rideTrouble_39 : decode cX3_rideTrouble 39 = .ok (.if_icmp .gt 16, 3) := dX3_rideTrouble_30_b.2.2.2.2.2
set_option maxRecDepth 20000 in
theorem dX3_rideTrouble_42_b : (decode cX3_rideTrouble 42 = .ok (.aload_n 0, 1)) ∧ (decode cX3_rideTrouble 43 = .ok (.iload_n 1, 1)) ∧ (decode cX3_rideTrouble 44 = .ok (.iconst 1, 1)) ∧ (decode cX3_rideTrouble 45 = .ok (.invokevirtual 101, 3)) ∧ (decode cX3_rideTrouble 48 = .ok (.aload_n 0, 1)) ∧ (decode cX3_rideTrouble 49 = .ok (.getfield 44, 3)) := by decide +kernel
theorem dX3_rideTrouble_42 : decode cX3_rideTrouble 42 = .ok (.aload_n 0, 1) := dX3_rideTrouble_42_b.1
theorem dX3_rideTrouble_43 : decode cX3_rideTrouble 43 = .ok (.iload_n 1, 1) := dX3_rideTrouble_42_b.2.1
theorem dX3_rideTrouble_44 : decode cX3_rideTrouble 44 = .ok (.iconst 1, 1) := dX3_rideTrouble_42_b.2.2.1
theorem dX3_rideTrouble_45 : decode cX3_rideTrouble 45 = .ok (.invokevirtual 101, 3) := dX3_rideTrouble_42_b.2.2.2.1
theorem dX3_rideTrouble_48 : decode cX3_rideTrouble 48 = .ok (.aload_n 0, 1) := dX3_rideTrouble_42_b.2.2.2.2.1
theorem dX3_rideTrouble_49 : decode cX3_rideTrouble 49 = .ok (.getfield 44, 3) := dX3_rideTrouble_42_b.2.2.2.2.2
set_option maxRecDepth 20000 in
theorem dX3_rideTrouble_52_b : (decode cX3_rideTrouble 52 = .ok (.if_icmp .le 5, 3)) ∧ (decode cX3_rideTrouble 55 = .ok (.iconst 4, 1)) ∧ (decode cX3_rideTrouble 56 = .ok (.ireturn, 1)) ∧ (decode cX3_rideTrouble 57 = .ok (.aload_n 0, 1)) ∧ (decode cX3_rideTrouble 58 = .ok (.iload_n 1, 1)) ∧ (decode cX3_rideTrouble 59 = .ok (.iconst 0, 1)) := by decide +kernel
theorem dX3_rideTrouble_52 : decode cX3_rideTrouble 52 = .ok (.if_icmp .le 5, 3) := dX3_rideTrouble_52_b.1
theorem dX3_rideTrouble_55 : decode cX3_rideTrouble 55 = .ok (.iconst 4, 1) := dX3_rideTrouble_52_b.2.1
theorem dX3_rideTrouble_56 : decode cX3_rideTrouble 56 = .ok (.ireturn, 1) := dX3_rideTrouble_52_b.2.2.1
theorem dX3_rideTrouble_57 : decode cX3_rideTrouble 57 = .ok (.aload_n 0, 1) := dX3_rideTrouble_52_b.2.2.2.1
theorem dX3_rideTrouble_58 : decode cX3_rideTrouble 58 = .ok (.iload_n 1, 1) := dX3_rideTrouble_52_b.2.2.2.2.1
theorem dX3_rideTrouble_59 : decode cX3_rideTrouble 59 = .ok (.iconst 0, 1) := dX3_rideTrouble_52_b.2.2.2.2.2
set_option maxRecDepth 20000 in
theorem dX3_rideTrouble_60_b : (decode cX3_rideTrouble 60 = .ok (.invokevirtual 104, 3)) ∧ (decode cX3_rideTrouble 63 = .ok (.iconst (-1), 1)) ∧ (decode cX3_rideTrouble 64 = .ok (.if_icmp .ne 13, 3)) ∧ (decode cX3_rideTrouble 67 = .ok (.aload_n 0, 1)) ∧ (decode cX3_rideTrouble 68 = .ok (.iload_n 1, 1)) ∧ (decode cX3_rideTrouble 69 = .ok (.iconst 1, 1)) := by decide +kernel
theorem dX3_rideTrouble_60 : decode cX3_rideTrouble 60 = .ok (.invokevirtual 104, 3) := dX3_rideTrouble_60_b.1
theorem dX3_rideTrouble_63 : decode cX3_rideTrouble 63 = .ok (.iconst (-1), 1) := dX3_rideTrouble_60_b.2.1
theorem dX3_rideTrouble_64 : decode cX3_rideTrouble 64 = .ok (.if_icmp .ne 13, 3) := dX3_rideTrouble_60_b.2.2.1
theorem dX3_rideTrouble_67 : decode cX3_rideTrouble 67 = .ok (.aload_n 0, 1) := dX3_rideTrouble_60_b.2.2.2.1
theorem dX3_rideTrouble_68 : decode cX3_rideTrouble 68 = .ok (.iload_n 1, 1) := dX3_rideTrouble_60_b.2.2.2.2.1
theorem dX3_rideTrouble_69 : decode cX3_rideTrouble 69 = .ok (.iconst 1, 1) := dX3_rideTrouble_60_b.2.2.2.2.2
set_option maxRecDepth 20000 in
theorem dX3_rideTrouble_70_b : (decode cX3_rideTrouble 70 = .ok (.invokevirtual 104, 3)) ∧ (decode cX3_rideTrouble 73 = .ok (.iconst (-1), 1)) ∧ (decode cX3_rideTrouble 74 = .ok (.if_icmp .eq 5, 3)) ∧ (decode cX3_rideTrouble 77 = .ok (.iconst 5, 1)) ∧ (decode cX3_rideTrouble 78 = .ok (.ireturn, 1)) ∧ (decode cX3_rideTrouble 79 = .ok (.iload_n 3, 1)) := by decide +kernel
theorem dX3_rideTrouble_70 : decode cX3_rideTrouble 70 = .ok (.invokevirtual 104, 3) := dX3_rideTrouble_70_b.1
theorem dX3_rideTrouble_73 : decode cX3_rideTrouble 73 = .ok (.iconst (-1), 1) := dX3_rideTrouble_70_b.2.1
theorem dX3_rideTrouble_74 : decode cX3_rideTrouble 74 = .ok (.if_icmp .eq 5, 3) := dX3_rideTrouble_70_b.2.2.1
theorem dX3_rideTrouble_77 : decode cX3_rideTrouble 77 = .ok (.iconst 5, 1) := dX3_rideTrouble_70_b.2.2.2.1
theorem dX3_rideTrouble_78 : decode cX3_rideTrouble 78 = .ok (.ireturn, 1) := dX3_rideTrouble_70_b.2.2.2.2.1
theorem dX3_rideTrouble_79 : decode cX3_rideTrouble 79 = .ok (.iload_n 3, 1) := dX3_rideTrouble_70_b.2.2.2.2.2
set_option maxRecDepth 20000 in
theorem dX3_rideTrouble_80_b : (decode cX3_rideTrouble 80 = .ok (.iconst 2, 1)) ∧ (decode cX3_rideTrouble 81 = .ok (.if_icmp .ne 7, 3)) ∧ (decode cX3_rideTrouble 84 = .ok (.iconst 0, 1)) ∧ (decode cX3_rideTrouble 85 = .ok (.goto 29, 3)) ∧ (decode cX3_rideTrouble 88 = .ok (.aload_n 0, 1)) ∧ (decode cX3_rideTrouble 89 = .ok (.iload_n 1, 1)) := by decide +kernel
theorem dX3_rideTrouble_80 : decode cX3_rideTrouble 80 = .ok (.iconst 2, 1) := dX3_rideTrouble_80_b.1
theorem dX3_rideTrouble_81 : decode cX3_rideTrouble 81 = .ok (.if_icmp .ne 7, 3) := dX3_rideTrouble_80_b.2.1
theorem dX3_rideTrouble_84 : decode cX3_rideTrouble 84 = .ok (.iconst 0, 1) := dX3_rideTrouble_80_b.2.2.1
theorem dX3_rideTrouble_85 : decode cX3_rideTrouble 85 = .ok (.goto 29, 3) := dX3_rideTrouble_80_b.2.2.2.1
theorem dX3_rideTrouble_88 : decode cX3_rideTrouble 88 = .ok (.aload_n 0, 1) := dX3_rideTrouble_80_b.2.2.2.2.1
theorem dX3_rideTrouble_89 : decode cX3_rideTrouble 89 = .ok (.iload_n 1, 1) := dX3_rideTrouble_80_b.2.2.2.2.2
set_option maxRecDepth 20000 in
theorem dX3_rideTrouble_90_b : (decode cX3_rideTrouble 90 = .ok (.iload_n 2, 1)) ∧ (decode cX3_rideTrouble 91 = .ok (.iload_n 3, 1)) ∧ (decode cX3_rideTrouble 92 = .ok (.ifCond .ne 10, 3)) ∧ (decode cX3_rideTrouble 95 = .ok (.aload_n 0, 1)) ∧ (decode cX3_rideTrouble 96 = .ok (.getfield 53, 3)) ∧ (decode cX3_rideTrouble 99 = .ok (.goto 12, 3)) := by decide +kernel
theorem dX3_rideTrouble_90 : decode cX3_rideTrouble 90 = .ok (.iload_n 2, 1) := dX3_rideTrouble_90_b.1
theorem dX3_rideTrouble_91 : decode cX3_rideTrouble 91 = .ok (.iload_n 3, 1) := dX3_rideTrouble_90_b.2.1
theorem dX3_rideTrouble_92 : decode cX3_rideTrouble 92 = .ok (.ifCond .ne 10, 3) := dX3_rideTrouble_90_b.2.2.1
theorem dX3_rideTrouble_95 : decode cX3_rideTrouble 95 = .ok (.aload_n 0, 1) := dX3_rideTrouble_90_b.2.2.2.1
theorem dX3_rideTrouble_96 : decode cX3_rideTrouble 96 = .ok (.getfield 53, 3) := dX3_rideTrouble_90_b.2.2.2.2.1
theorem dX3_rideTrouble_99 : decode cX3_rideTrouble 99 = .ok (.goto 12, 3) := dX3_rideTrouble_90_b.2.2.2.2.2
set_option maxRecDepth 20000 in
theorem dX3_rideTrouble_102_b : (decode cX3_rideTrouble 102 = .ok (.aload_n 0, 1)) ∧ (decode cX3_rideTrouble 103 = .ok (.getfield 53, 3)) ∧ (decode cX3_rideTrouble 106 = .ok (.aload_n 0, 1)) ∧ (decode cX3_rideTrouble 107 = .ok (.getfield 56, 3)) ∧ (decode cX3_rideTrouble 110 = .ok (.iadd, 1)) ∧ (decode cX3_rideTrouble 111 = .ok (.invokevirtual 107, 3)) := by decide +kernel
theorem dX3_rideTrouble_102 : decode cX3_rideTrouble 102 = .ok (.aload_n 0, 1) := dX3_rideTrouble_102_b.1
theorem dX3_rideTrouble_103 : decode cX3_rideTrouble 103 = .ok (.getfield 53, 3) := dX3_rideTrouble_102_b.2.1
theorem dX3_rideTrouble_106 : decode cX3_rideTrouble 106 = .ok (.aload_n 0, 1) := dX3_rideTrouble_102_b.2.2.1
theorem dX3_rideTrouble_107 : decode cX3_rideTrouble 107 = .ok (.getfield 56, 3) := dX3_rideTrouble_102_b.2.2.2.1
theorem dX3_rideTrouble_110 : decode cX3_rideTrouble 110 = .ok (.iadd, 1) := dX3_rideTrouble_102_b.2.2.2.2.1
theorem dX3_rideTrouble_111 : decode cX3_rideTrouble 111 = .ok (.invokevirtual 107, 3) := dX3_rideTrouble_102_b.2.2.2.2.2
theorem dX3_rideTrouble_114 : decode cX3_rideTrouble 114 = .ok (.ireturn, 1) := by decide +kernel
set_option maxRecDepth 20000 in
theorem dX3_excessTrouble_0_b : (decode cX3_excessTrouble 0 = .ok (.aload_n 0, 1)) ∧ (decode cX3_excessTrouble 1 = .ok (.iload_n 1, 1)) ∧ (decode cX3_excessTrouble 2 = .ok (.iconst 0, 1)) ∧ (decode cX3_excessTrouble 3 = .ok (.invokevirtual 101, 3)) ∧ (decode cX3_excessTrouble 6 = .ok (.aload_n 0, 1)) ∧ (decode cX3_excessTrouble 7 = .ok (.iload_n 1, 1)) := by decide +kernel
theorem dX3_excessTrouble_0 : decode cX3_excessTrouble 0 = .ok (.aload_n 0, 1) := dX3_excessTrouble_0_b.1
theorem dX3_excessTrouble_1 : decode cX3_excessTrouble 1 = .ok (.iload_n 1, 1) := dX3_excessTrouble_0_b.2.1
theorem dX3_excessTrouble_2 : decode cX3_excessTrouble 2 = .ok (.iconst 0, 1) := dX3_excessTrouble_0_b.2.2.1
theorem dX3_excessTrouble_3 : decode cX3_excessTrouble 3 = .ok (.invokevirtual 101, 3) := dX3_excessTrouble_0_b.2.2.2.1
theorem dX3_excessTrouble_6 : decode cX3_excessTrouble 6 = .ok (.aload_n 0, 1) := dX3_excessTrouble_0_b.2.2.2.2.1
theorem dX3_excessTrouble_7 : decode cX3_excessTrouble 7 = .ok (.iload_n 1, 1) := dX3_excessTrouble_0_b.2.2.2.2.2
set_option maxRecDepth 20000 in
theorem dX3_excessTrouble_8_b : (decode cX3_excessTrouble 8 = .ok (.iconst 1, 1)) ∧ (decode cX3_excessTrouble 9 = .ok (.invokevirtual 101, 3)) ∧ (decode cX3_excessTrouble 12 = .ok (.isub, 1)) ∧ (decode cX3_excessTrouble 13 = .ok (.istore 4, 2)) ∧ (decode cX3_excessTrouble 15 = .ok (.iload_n 2, 1)) ∧ (decode cX3_excessTrouble 16 = .ok (.iload_n 1, 1)) := by decide +kernel
theorem dX3_excessTrouble_8 : decode cX3_excessTrouble 8 = .ok (.iconst 1, 1) := dX3_excessTrouble_8_b.1
theorem dX3_excessTrouble_9 : decode cX3_excessTrouble 9 = .ok (.invokevirtual 101, 3) := dX3_excessTrouble_8_b.2.1
theorem dX3_excessTrouble_12 : decode cX3_excessTrouble 12 = .ok (.isub, 1) := dX3_excessTrouble_8_b.2.2.1
theorem dX3_excessTrouble_13 : decode cX3_excessTrouble 13 = .ok (.istore 4, 2) := dX3_excessTrouble_8_b.2.2.2.1
theorem dX3_excessTrouble_15 : decode cX3_excessTrouble 15 = .ok (.iload_n 2, 1) := dX3_excessTrouble_8_b.2.2.2.2.1
theorem dX3_excessTrouble_16 : decode cX3_excessTrouble 16 = .ok (.iload_n 1, 1) := dX3_excessTrouble_8_b.2.2.2.2.2
set_option maxRecDepth 20000 in
theorem dX3_excessTrouble_17_b : (decode cX3_excessTrouble 17 = .ok (.invokestatic 74, 3)) ∧ (decode cX3_excessTrouble 20 = .ok (.if_icmp .le 7, 3)) ∧ (decode cX3_excessTrouble 23 = .ok (.iconst 1, 1)) ∧ (decode cX3_excessTrouble 24 = .ok (.goto 4, 3)) ∧ (decode cX3_excessTrouble 27 = .ok (.iconst (-1), 1)) ∧ (decode cX3_excessTrouble 28 = .ok (.istore 5, 2)) := by decide +kernel
theorem dX3_excessTrouble_17 : decode cX3_excessTrouble 17 = .ok (.invokestatic 74, 3) := dX3_excessTrouble_17_b.1
theorem dX3_excessTrouble_20 : decode cX3_excessTrouble 20 = .ok (.if_icmp .le 7, 3) := dX3_excessTrouble_17_b.2.1
theorem dX3_excessTrouble_23 : decode cX3_excessTrouble 23 = .ok (.iconst 1, 1) := dX3_excessTrouble_17_b.2.2.1
theorem dX3_excessTrouble_24 : decode cX3_excessTrouble 24 = .ok (.goto 4, 3) := dX3_excessTrouble_17_b.2.2.2.1
theorem dX3_excessTrouble_27 : decode cX3_excessTrouble 27 = .ok (.iconst (-1), 1) := dX3_excessTrouble_17_b.2.2.2.2.1
theorem dX3_excessTrouble_28 : decode cX3_excessTrouble 28 = .ok (.istore 5, 2) := dX3_excessTrouble_17_b.2.2.2.2.2
set_option maxRecDepth 20000 in
theorem dX3_excessTrouble_30_b : (decode cX3_excessTrouble 30 = .ok (.iconst 0, 1)) ∧ (decode cX3_excessTrouble 31 = .ok (.istore 6, 2)) ∧ (decode cX3_excessTrouble 33 = .ok (.iload_n 1, 1)) ∧ (decode cX3_excessTrouble 34 = .ok (.invokestatic 74, 3)) ∧ (decode cX3_excessTrouble 37 = .ok (.istore 7, 2)) ∧ (decode cX3_excessTrouble 39 = .ok (.aload_n 0, 1)) := by decide +kernel
theorem dX3_excessTrouble_30 : decode cX3_excessTrouble 30 = .ok (.iconst 0, 1) := dX3_excessTrouble_30_b.1
theorem dX3_excessTrouble_31 : decode cX3_excessTrouble 31 = .ok (.istore 6, 2) := dX3_excessTrouble_30_b.2.1
theorem dX3_excessTrouble_33 : decode cX3_excessTrouble 33 = .ok (.iload_n 1, 1) := dX3_excessTrouble_30_b.2.2.1
theorem dX3_excessTrouble_34 : decode cX3_excessTrouble 34 = .ok (.invokestatic 74, 3) := dX3_excessTrouble_30_b.2.2.2.1
theorem dX3_excessTrouble_37 : decode cX3_excessTrouble 37 = .ok (.istore 7, 2) := dX3_excessTrouble_30_b.2.2.2.2.1
theorem dX3_excessTrouble_39 : decode cX3_excessTrouble 39 = .ok (.aload_n 0, 1) := dX3_excessTrouble_30_b.2.2.2.2.2
set_option maxRecDepth 20000 in
theorem dX3_excessTrouble_40_b : (decode cX3_excessTrouble 40 = .ok (.iload 7, 2)) ∧ (decode cX3_excessTrouble 42 = .ok (.invokevirtual 98, 3)) ∧ (decode cX3_excessTrouble 45 = .ok (.ifCond .eq 58, 3)) ∧ (decode cX3_excessTrouble 48 = .ok (.iload 7, 2)) ∧ (decode cX3_excessTrouble 50 = .ok (.iload_n 2, 1)) ∧ (decode cX3_excessTrouble 51 = .ok (.if_icmp .eq 52, 3)) := by decide +kernel
theorem dX3_excessTrouble_40 : decode cX3_excessTrouble 40 = .ok (.iload 7, 2) := dX3_excessTrouble_40_b.1
theorem dX3_excessTrouble_42 : decode cX3_excessTrouble 42 = .ok (.invokevirtual 98, 3) := dX3_excessTrouble_40_b.2.1
theorem dX3_excessTrouble_45 : decode cX3_excessTrouble 45 = .ok (.ifCond .eq 58, 3) := dX3_excessTrouble_40_b.2.2.1
theorem dX3_excessTrouble_48 : decode cX3_excessTrouble 48 = .ok (.iload 7, 2) := dX3_excessTrouble_40_b.2.2.2.1
theorem dX3_excessTrouble_50 : decode cX3_excessTrouble 50 = .ok (.iload_n 2, 1) := dX3_excessTrouble_40_b.2.2.2.2.1
theorem dX3_excessTrouble_51 : decode cX3_excessTrouble 51 = .ok (.if_icmp .eq 52, 3) := dX3_excessTrouble_40_b.2.2.2.2.2
set_option maxRecDepth 20000 in
theorem dX3_excessTrouble_54_b : (decode cX3_excessTrouble 54 = .ok (.aload_n 0, 1)) ∧ (decode cX3_excessTrouble 55 = .ok (.iload 4, 2)) ∧ (decode cX3_excessTrouble 57 = .ok (.iload 7, 2)) ∧ (decode cX3_excessTrouble 59 = .ok (.iload 5, 2)) ∧ (decode cX3_excessTrouble 61 = .ok (.invokevirtual 110, 3)) ∧ (decode cX3_excessTrouble 64 = .ok (.istore 8, 2)) := by decide +kernel
theorem dX3_excessTrouble_54 : decode cX3_excessTrouble 54 = .ok (.aload_n 0, 1) := dX3_excessTrouble_54_b.1
theorem dX3_excessTrouble_55 : decode cX3_excessTrouble 55 = .ok (.iload 4, 2) := dX3_excessTrouble_54_b.2.1
theorem dX3_excessTrouble_57 : decode cX3_excessTrouble 57 = .ok (.iload 7, 2) := dX3_excessTrouble_54_b.2.2.1
theorem dX3_excessTrouble_59 : decode cX3_excessTrouble 59 = .ok (.iload 5, 2) := dX3_excessTrouble_54_b.2.2.2.1
theorem dX3_excessTrouble_61 : decode cX3_excessTrouble 61 = .ok (.invokevirtual 110, 3) := dX3_excessTrouble_54_b.2.2.2.2.1
theorem dX3_excessTrouble_64 : decode cX3_excessTrouble 64 = .ok (.istore 8, 2) := dX3_excessTrouble_54_b.2.2.2.2.2
set_option maxRecDepth 20000 in
theorem dX3_excessTrouble_66_b : (decode cX3_excessTrouble 66 = .ok (.iload 8, 2)) ∧ (decode cX3_excessTrouble 68 = .ok (.aload_n 0, 1)) ∧ (decode cX3_excessTrouble 69 = .ok (.getfield 50, 3)) ∧ (decode cX3_excessTrouble 72 = .ok (.if_icmp .ge 6, 3)) ∧ (decode cX3_excessTrouble 75 = .ok (.bipush 6, 2)) ∧ (decode cX3_excessTrouble 77 = .ok (.ireturn, 1)) := by decide +kernel
theorem dX3_excessTrouble_66 : decode cX3_excessTrouble 66 = .ok (.iload 8, 2) := dX3_excessTrouble_66_b.1
theorem dX3_excessTrouble_68 : decode cX3_excessTrouble 68 = .ok (.aload_n 0, 1) := dX3_excessTrouble_66_b.2.1
theorem dX3_excessTrouble_69 : decode cX3_excessTrouble 69 = .ok (.getfield 50, 3) := dX3_excessTrouble_66_b.2.2.1
theorem dX3_excessTrouble_72 : decode cX3_excessTrouble 72 = .ok (.if_icmp .ge 6, 3) := dX3_excessTrouble_66_b.2.2.2.1
theorem dX3_excessTrouble_75 : decode cX3_excessTrouble 75 = .ok (.bipush 6, 2) := dX3_excessTrouble_66_b.2.2.2.2.1
theorem dX3_excessTrouble_77 : decode cX3_excessTrouble 77 = .ok (.ireturn, 1) := dX3_excessTrouble_66_b.2.2.2.2.2
set_option maxRecDepth 20000 in
theorem dX3_excessTrouble_78_b : (decode cX3_excessTrouble 78 = .ok (.iload 8, 2)) ∧ (decode cX3_excessTrouble 80 = .ok (.iload_n 3, 1)) ∧ (decode cX3_excessTrouble 81 = .ok (.if_icmp .le 8, 3)) ∧ (decode cX3_excessTrouble 84 = .ok (.bipush 7, 2)) ∧ (decode cX3_excessTrouble 86 = .ok (.goto 5, 3)) ∧ (decode cX3_excessTrouble 89 = .ok (.iload 6, 2)) := by decide +kernel
theorem dX3_excessTrouble_78 : decode cX3_excessTrouble 78 = .ok (.iload 8, 2) := dX3_excessTrouble_78_b.1
theorem dX3_excessTrouble_80 : decode cX3_excessTrouble 80 = .ok (.iload_n 3, 1) := dX3_excessTrouble_78_b.2.1
theorem dX3_excessTrouble_81 : decode cX3_excessTrouble 81 = .ok (.if_icmp .le 8, 3) := dX3_excessTrouble_78_b.2.2.1
theorem dX3_excessTrouble_84 : decode cX3_excessTrouble 84 = .ok (.bipush 7, 2) := dX3_excessTrouble_78_b.2.2.2.1
theorem dX3_excessTrouble_86 : decode cX3_excessTrouble 86 = .ok (.goto 5, 3) := dX3_excessTrouble_78_b.2.2.2.2.1
theorem dX3_excessTrouble_89 : decode cX3_excessTrouble 89 = .ok (.iload 6, 2) := dX3_excessTrouble_78_b.2.2.2.2.2
set_option maxRecDepth 20000 in
theorem dX3_excessTrouble_91_b : (decode cX3_excessTrouble 91 = .ok (.istore 6, 2)) ∧ (decode cX3_excessTrouble 93 = .ok (.iload 7, 2)) ∧ (decode cX3_excessTrouble 95 = .ok (.iload 5, 2)) ∧ (decode cX3_excessTrouble 97 = .ok (.iadd, 1)) ∧ (decode cX3_excessTrouble 98 = .ok (.istore 7, 2)) ∧ (decode cX3_excessTrouble 100 = .ok (.goto (-61), 3)) := by decide +kernel
theorem dX3_excessTrouble_91 : decode cX3_excessTrouble 91 = .ok (.istore 6, 2) := dX3_excessTrouble_91_b.1
theorem dX3_excessTrouble_93 : decode cX3_excessTrouble 93 = .ok (.iload 7, 2) := dX3_excessTrouble_91_b.2.1
theorem dX3_excessTrouble_95 : decode cX3_excessTrouble 95 = .ok (.iload 5, 2) := dX3_excessTrouble_91_b.2.2.1
theorem dX3_excessTrouble_97 : decode cX3_excessTrouble 97 = .ok (.iadd, 1) := dX3_excessTrouble_91_b.2.2.2.1
theorem dX3_excessTrouble_98 : decode cX3_excessTrouble 98 = .ok (.istore 7, 2) := dX3_excessTrouble_91_b.2.2.2.2.1
theorem dX3_excessTrouble_100 : decode cX3_excessTrouble 100 = .ok (.goto (-61), 3) := dX3_excessTrouble_91_b.2.2.2.2.2
set_option maxRecDepth 20000 in
theorem dX3_excessTrouble_103_b : (decode cX3_excessTrouble 103 = .ok (.iload 6, 2)) ∧ (decode cX3_excessTrouble 105 = .ok (.ireturn, 1)) := by decide +kernel
theorem dX3_excessTrouble_103 : decode cX3_excessTrouble 103 = .ok (.iload 6, 2) := dX3_excessTrouble_103_b.1
theorem dX3_excessTrouble_105 : decode cX3_excessTrouble 105 = .ok (.ireturn, 1) := dX3_excessTrouble_103_b.2
set_option maxRecDepth 20000 in
theorem dX3_windingTo_0_b : (decode cX3_windingTo 0 = .ok (.aload_n 0, 1)) ∧ (decode cX3_windingTo 1 = .ok (.iload_n 1, 1)) ∧ (decode cX3_windingTo 2 = .ok (.iconst 0, 1)) ∧ (decode cX3_windingTo 3 = .ok (.invokevirtual 101, 3)) ∧ (decode cX3_windingTo 6 = .ok (.aload_n 0, 1)) ∧ (decode cX3_windingTo 7 = .ok (.iload_n 1, 1)) := by decide +kernel
theorem dX3_windingTo_0 : decode cX3_windingTo 0 = .ok (.aload_n 0, 1) := dX3_windingTo_0_b.1
theorem dX3_windingTo_1 : decode cX3_windingTo 1 = .ok (.iload_n 1, 1) := dX3_windingTo_0_b.2.1
theorem dX3_windingTo_2 : decode cX3_windingTo 2 = .ok (.iconst 0, 1) := dX3_windingTo_0_b.2.2.1
theorem dX3_windingTo_3 : decode cX3_windingTo 3 = .ok (.invokevirtual 101, 3) := dX3_windingTo_0_b.2.2.2.1
theorem dX3_windingTo_6 : decode cX3_windingTo 6 = .ok (.aload_n 0, 1) := dX3_windingTo_0_b.2.2.2.2.1
theorem dX3_windingTo_7 : decode cX3_windingTo 7 = .ok (.iload_n 1, 1) := dX3_windingTo_0_b.2.2.2.2.2
set_option maxRecDepth 20000 in
theorem dX3_windingTo_8_b : (decode cX3_windingTo 8 = .ok (.iconst 1, 1)) ∧ (decode cX3_windingTo 9 = .ok (.invokevirtual 101, 3)) ∧ (decode cX3_windingTo 12 = .ok (.isub, 1)) ∧ (decode cX3_windingTo 13 = .ok (.istore_n 3, 1)) ∧ (decode cX3_windingTo 14 = .ok (.iload_n 2, 1)) ∧ (decode cX3_windingTo 15 = .ok (.iload_n 1, 1)) := by decide +kernel
theorem dX3_windingTo_8 : decode cX3_windingTo 8 = .ok (.iconst 1, 1) := dX3_windingTo_8_b.1
theorem dX3_windingTo_9 : decode cX3_windingTo 9 = .ok (.invokevirtual 101, 3) := dX3_windingTo_8_b.2.1
theorem dX3_windingTo_12 : decode cX3_windingTo 12 = .ok (.isub, 1) := dX3_windingTo_8_b.2.2.1
theorem dX3_windingTo_13 : decode cX3_windingTo 13 = .ok (.istore_n 3, 1) := dX3_windingTo_8_b.2.2.2.1
theorem dX3_windingTo_14 : decode cX3_windingTo 14 = .ok (.iload_n 2, 1) := dX3_windingTo_8_b.2.2.2.2.1
theorem dX3_windingTo_15 : decode cX3_windingTo 15 = .ok (.iload_n 1, 1) := dX3_windingTo_8_b.2.2.2.2.2
set_option maxRecDepth 20000 in
theorem dX3_windingTo_16_b : (decode cX3_windingTo 16 = .ok (.invokestatic 74, 3)) ∧ (decode cX3_windingTo 19 = .ok (.if_icmp .le 7, 3)) ∧ (decode cX3_windingTo 22 = .ok (.iconst 1, 1)) ∧ (decode cX3_windingTo 23 = .ok (.goto 4, 3)) ∧ (decode cX3_windingTo 26 = .ok (.iconst (-1), 1)) ∧ (decode cX3_windingTo 27 = .ok (.istore 4, 2)) := by decide +kernel
theorem dX3_windingTo_16 : decode cX3_windingTo 16 = .ok (.invokestatic 74, 3) := dX3_windingTo_16_b.1
theorem dX3_windingTo_19 : decode cX3_windingTo 19 = .ok (.if_icmp .le 7, 3) := dX3_windingTo_16_b.2.1
theorem dX3_windingTo_22 : decode cX3_windingTo 22 = .ok (.iconst 1, 1) := dX3_windingTo_16_b.2.2.1
theorem dX3_windingTo_23 : decode cX3_windingTo 23 = .ok (.goto 4, 3) := dX3_windingTo_16_b.2.2.2.1
theorem dX3_windingTo_26 : decode cX3_windingTo 26 = .ok (.iconst (-1), 1) := dX3_windingTo_16_b.2.2.2.2.1
theorem dX3_windingTo_27 : decode cX3_windingTo 27 = .ok (.istore 4, 2) := dX3_windingTo_16_b.2.2.2.2.2
set_option maxRecDepth 20000 in
theorem dX3_windingTo_29_b : (decode cX3_windingTo 29 = .ok (.iconst 0, 1)) ∧ (decode cX3_windingTo 30 = .ok (.istore 5, 2)) ∧ (decode cX3_windingTo 32 = .ok (.iload_n 1, 1)) ∧ (decode cX3_windingTo 33 = .ok (.invokestatic 74, 3)) ∧ (decode cX3_windingTo 36 = .ok (.istore 6, 2)) ∧ (decode cX3_windingTo 38 = .ok (.aload_n 0, 1)) := by decide +kernel
theorem dX3_windingTo_29 : decode cX3_windingTo 29 = .ok (.iconst 0, 1) := dX3_windingTo_29_b.1
theorem dX3_windingTo_30 : decode cX3_windingTo 30 = .ok (.istore 5, 2) := dX3_windingTo_29_b.2.1
theorem dX3_windingTo_32 : decode cX3_windingTo 32 = .ok (.iload_n 1, 1) := dX3_windingTo_29_b.2.2.1
theorem dX3_windingTo_33 : decode cX3_windingTo 33 = .ok (.invokestatic 74, 3) := dX3_windingTo_29_b.2.2.2.1
theorem dX3_windingTo_36 : decode cX3_windingTo 36 = .ok (.istore 6, 2) := dX3_windingTo_29_b.2.2.2.2.1
theorem dX3_windingTo_38 : decode cX3_windingTo 38 = .ok (.aload_n 0, 1) := dX3_windingTo_29_b.2.2.2.2.2
set_option maxRecDepth 20000 in
theorem dX3_windingTo_39_b : (decode cX3_windingTo 39 = .ok (.iload 6, 2)) ∧ (decode cX3_windingTo 41 = .ok (.invokevirtual 98, 3)) ∧ (decode cX3_windingTo 44 = .ok (.ifCond .eq 37, 3)) ∧ (decode cX3_windingTo 47 = .ok (.iload 6, 2)) ∧ (decode cX3_windingTo 49 = .ok (.iload_n 2, 1)) ∧ (decode cX3_windingTo 50 = .ok (.if_icmp .eq 31, 3)) := by decide +kernel
theorem dX3_windingTo_39 : decode cX3_windingTo 39 = .ok (.iload 6, 2) := dX3_windingTo_39_b.1
theorem dX3_windingTo_41 : decode cX3_windingTo 41 = .ok (.invokevirtual 98, 3) := dX3_windingTo_39_b.2.1
theorem dX3_windingTo_44 : decode cX3_windingTo 44 = .ok (.ifCond .eq 37, 3) := dX3_windingTo_39_b.2.2.1
theorem dX3_windingTo_47 : decode cX3_windingTo 47 = .ok (.iload 6, 2) := dX3_windingTo_39_b.2.2.2.1
theorem dX3_windingTo_49 : decode cX3_windingTo 49 = .ok (.iload_n 2, 1) := dX3_windingTo_39_b.2.2.2.2.1
theorem dX3_windingTo_50 : decode cX3_windingTo 50 = .ok (.if_icmp .eq 31, 3) := dX3_windingTo_39_b.2.2.2.2.2
set_option maxRecDepth 20000 in
theorem dX3_windingTo_53_b : (decode cX3_windingTo 53 = .ok (.iload 5, 2)) ∧ (decode cX3_windingTo 55 = .ok (.aload_n 0, 1)) ∧ (decode cX3_windingTo 56 = .ok (.aload_n 0, 1)) ∧ (decode cX3_windingTo 57 = .ok (.iload_n 3, 1)) ∧ (decode cX3_windingTo 58 = .ok (.iload 6, 2)) ∧ (decode cX3_windingTo 60 = .ok (.iload 4, 2)) := by decide +kernel
theorem dX3_windingTo_53 : decode cX3_windingTo 53 = .ok (.iload 5, 2) := dX3_windingTo_53_b.1
theorem dX3_windingTo_55 : decode cX3_windingTo 55 = .ok (.aload_n 0, 1) := dX3_windingTo_53_b.2.1
theorem dX3_windingTo_56 : decode cX3_windingTo 56 = .ok (.aload_n 0, 1) := dX3_windingTo_53_b.2.2.1
theorem dX3_windingTo_57 : decode cX3_windingTo 57 = .ok (.iload_n 3, 1) := dX3_windingTo_53_b.2.2.2.1
theorem dX3_windingTo_58 : decode cX3_windingTo 58 = .ok (.iload 6, 2) := dX3_windingTo_53_b.2.2.2.2.1
theorem dX3_windingTo_60 : decode cX3_windingTo 60 = .ok (.iload 4, 2) := dX3_windingTo_53_b.2.2.2.2.2
set_option maxRecDepth 20000 in
theorem dX3_windingTo_62_b : (decode cX3_windingTo 62 = .ok (.invokevirtual 110, 3)) ∧ (decode cX3_windingTo 65 = .ok (.invokevirtual 113, 3)) ∧ (decode cX3_windingTo 68 = .ok (.iadd, 1)) ∧ (decode cX3_windingTo 69 = .ok (.istore 5, 2)) ∧ (decode cX3_windingTo 71 = .ok (.iload 6, 2)) ∧ (decode cX3_windingTo 73 = .ok (.iload 4, 2)) := by decide +kernel
theorem dX3_windingTo_62 : decode cX3_windingTo 62 = .ok (.invokevirtual 110, 3) := dX3_windingTo_62_b.1
theorem dX3_windingTo_65 : decode cX3_windingTo 65 = .ok (.invokevirtual 113, 3) := dX3_windingTo_62_b.2.1
theorem dX3_windingTo_68 : decode cX3_windingTo 68 = .ok (.iadd, 1) := dX3_windingTo_62_b.2.2.1
theorem dX3_windingTo_69 : decode cX3_windingTo 69 = .ok (.istore 5, 2) := dX3_windingTo_62_b.2.2.2.1
theorem dX3_windingTo_71 : decode cX3_windingTo 71 = .ok (.iload 6, 2) := dX3_windingTo_62_b.2.2.2.2.1
theorem dX3_windingTo_73 : decode cX3_windingTo 73 = .ok (.iload 4, 2) := dX3_windingTo_62_b.2.2.2.2.2
set_option maxRecDepth 20000 in
theorem dX3_windingTo_75_b : (decode cX3_windingTo 75 = .ok (.iadd, 1)) ∧ (decode cX3_windingTo 76 = .ok (.istore 6, 2)) ∧ (decode cX3_windingTo 78 = .ok (.goto (-40), 3)) ∧ (decode cX3_windingTo 81 = .ok (.iload 5, 2)) ∧ (decode cX3_windingTo 83 = .ok (.ireturn, 1)) := by decide +kernel
theorem dX3_windingTo_75 : decode cX3_windingTo 75 = .ok (.iadd, 1) := dX3_windingTo_75_b.1
theorem dX3_windingTo_76 : decode cX3_windingTo 76 = .ok (.istore 6, 2) := dX3_windingTo_75_b.2.1
theorem dX3_windingTo_78 : decode cX3_windingTo 78 = .ok (.goto (-40), 3) := dX3_windingTo_75_b.2.2.1
theorem dX3_windingTo_81 : decode cX3_windingTo 81 = .ok (.iload 5, 2) := dX3_windingTo_75_b.2.2.2.1
theorem dX3_windingTo_83 : decode cX3_windingTo 83 = .ok (.ireturn, 1) := dX3_windingTo_75_b.2.2.2.2
set_option maxRecDepth 20000 in
theorem dX3_excess_0_b : (decode cX3_excess 0 = .ok (.iload_n 3, 1)) ∧ (decode cX3_excess 1 = .ok (.iload_n 1, 1)) ∧ (decode cX3_excess 2 = .ok (.aload_n 0, 1)) ∧ (decode cX3_excess 3 = .ok (.getfield 47, 3)) ∧ (decode cX3_excess 6 = .ok (.iconst 2, 1)) ∧ (decode cX3_excess 7 = .ok (.iload_n 2, 1)) := by decide +kernel
theorem dX3_excess_0 : decode cX3_excess 0 = .ok (.iload_n 3, 1) := dX3_excess_0_b.1
theorem dX3_excess_1 : decode cX3_excess 1 = .ok (.iload_n 1, 1) := dX3_excess_0_b.2.1
theorem dX3_excess_2 : decode cX3_excess 2 = .ok (.aload_n 0, 1) := dX3_excess_0_b.2.2.1
theorem dX3_excess_3 : decode cX3_excess 3 = .ok (.getfield 47, 3) := dX3_excess_0_b.2.2.2.1
theorem dX3_excess_6 : decode cX3_excess 6 = .ok (.iconst 2, 1) := dX3_excess_0_b.2.2.2.2.1
theorem dX3_excess_7 : decode cX3_excess 7 = .ok (.iload_n 2, 1) := dX3_excess_0_b.2.2.2.2.2
set_option maxRecDepth 20000 in
theorem dX3_excess_8_b : (decode cX3_excess 8 = .ok (.imul, 1)) ∧ (decode cX3_excess 9 = .ok (.aload_n 0, 1)) ∧ (decode cX3_excess 10 = .ok (.getfield 37, 3)) ∧ (decode cX3_excess 13 = .ok (.isub, 1)) ∧ (decode cX3_excess 14 = .ok (.imul, 1)) ∧ (decode cX3_excess 15 = .ok (.iadd, 1)) := by decide +kernel
theorem dX3_excess_8 : decode cX3_excess 8 = .ok (.imul, 1) := dX3_excess_8_b.1
theorem dX3_excess_9 : decode cX3_excess 9 = .ok (.aload_n 0, 1) := dX3_excess_8_b.2.1
theorem dX3_excess_10 : decode cX3_excess 10 = .ok (.getfield 37, 3) := dX3_excess_8_b.2.2.1
theorem dX3_excess_13 : decode cX3_excess 13 = .ok (.isub, 1) := dX3_excess_8_b.2.2.2.1
theorem dX3_excess_14 : decode cX3_excess 14 = .ok (.imul, 1) := dX3_excess_8_b.2.2.2.2.1
theorem dX3_excess_15 : decode cX3_excess 15 = .ok (.iadd, 1) := dX3_excess_8_b.2.2.2.2.2
set_option maxRecDepth 20000 in
theorem dX3_excess_16_b : (decode cX3_excess 16 = .ok (.imul, 1)) ∧ (decode cX3_excess 17 = .ok (.ireturn, 1)) := by decide +kernel
theorem dX3_excess_16 : decode cX3_excess 16 = .ok (.imul, 1) := dX3_excess_16_b.1
theorem dX3_excess_17 : decode cX3_excess 17 = .ok (.ireturn, 1) := dX3_excess_16_b.2
set_option maxRecDepth 20000 in
theorem dX3_runsByWeight_0_b : (decode cX3_runsByWeight 0 = .ok (.iload_n 1, 1)) ∧ (decode cX3_runsByWeight 1 = .ok (.aload_n 0, 1)) ∧ (decode cX3_runsByWeight 2 = .ok (.getfield 50, 3)) ∧ (decode cX3_runsByWeight 5 = .ok (.if_icmp .lt 20, 3)) ∧ (decode cX3_runsByWeight 8 = .ok (.iload_n 1, 1)) ∧ (decode cX3_runsByWeight 9 = .ok (.aload_n 0, 1)) := by decide +kernel
theorem dX3_runsByWeight_0 : decode cX3_runsByWeight 0 = .ok (.iload_n 1, 1) := dX3_runsByWeight_0_b.1
theorem dX3_runsByWeight_1 : decode cX3_runsByWeight 1 = .ok (.aload_n 0, 1) := dX3_runsByWeight_0_b.2.1
theorem dX3_runsByWeight_2 : decode cX3_runsByWeight 2 = .ok (.getfield 50, 3) := dX3_runsByWeight_0_b.2.2.1
theorem dX3_runsByWeight_5 : decode cX3_runsByWeight 5 = .ok (.if_icmp .lt 20, 3) := dX3_runsByWeight_0_b.2.2.2.1
theorem dX3_runsByWeight_8 : decode cX3_runsByWeight 8 = .ok (.iload_n 1, 1) := dX3_runsByWeight_0_b.2.2.2.2.1
theorem dX3_runsByWeight_9 : decode cX3_runsByWeight 9 = .ok (.aload_n 0, 1) := dX3_runsByWeight_0_b.2.2.2.2.2
set_option maxRecDepth 20000 in
theorem dX3_runsByWeight_10_b : (decode cX3_runsByWeight 10 = .ok (.getfield 53, 3)) ∧ (decode cX3_runsByWeight 13 = .ok (.aload_n 0, 1)) ∧ (decode cX3_runsByWeight 14 = .ok (.getfield 56, 3)) ∧ (decode cX3_runsByWeight 17 = .ok (.iadd, 1)) ∧ (decode cX3_runsByWeight 18 = .ok (.if_icmp .gt 7, 3)) ∧ (decode cX3_runsByWeight 21 = .ok (.iconst 1, 1)) := by decide +kernel
theorem dX3_runsByWeight_10 : decode cX3_runsByWeight 10 = .ok (.getfield 53, 3) := dX3_runsByWeight_10_b.1
theorem dX3_runsByWeight_13 : decode cX3_runsByWeight 13 = .ok (.aload_n 0, 1) := dX3_runsByWeight_10_b.2.1
theorem dX3_runsByWeight_14 : decode cX3_runsByWeight 14 = .ok (.getfield 56, 3) := dX3_runsByWeight_10_b.2.2.1
theorem dX3_runsByWeight_17 : decode cX3_runsByWeight 17 = .ok (.iadd, 1) := dX3_runsByWeight_10_b.2.2.2.1
theorem dX3_runsByWeight_18 : decode cX3_runsByWeight 18 = .ok (.if_icmp .gt 7, 3) := dX3_runsByWeight_10_b.2.2.2.2.1
theorem dX3_runsByWeight_21 : decode cX3_runsByWeight 21 = .ok (.iconst 1, 1) := dX3_runsByWeight_10_b.2.2.2.2.2
set_option maxRecDepth 20000 in
theorem dX3_runsByWeight_22_b : (decode cX3_runsByWeight 22 = .ok (.goto 4, 3)) ∧ (decode cX3_runsByWeight 25 = .ok (.iconst 0, 1)) ∧ (decode cX3_runsByWeight 26 = .ok (.ireturn, 1)) := by decide +kernel
theorem dX3_runsByWeight_22 : decode cX3_runsByWeight 22 = .ok (.goto 4, 3) := dX3_runsByWeight_22_b.1
theorem dX3_runsByWeight_25 : decode cX3_runsByWeight 25 = .ok (.iconst 0, 1) := dX3_runsByWeight_22_b.2.1
theorem dX3_runsByWeight_26 : decode cX3_runsByWeight 26 = .ok (.ireturn, 1) := dX3_runsByWeight_22_b.2.2
set_option maxRecDepth 20000 in
theorem dX3_windingOf_0_b : (decode cX3_windingOf 0 = .ok (.iload_n 1, 1)) ∧ (decode cX3_windingOf 1 = .ok (.aload_n 0, 1)) ∧ (decode cX3_windingOf 2 = .ok (.getfield 50, 3)) ∧ (decode cX3_windingOf 5 = .ok (.if_icmp .ge 10, 3)) ∧ (decode cX3_windingOf 8 = .ok (.aload_n 0, 1)) ∧ (decode cX3_windingOf 9 = .ok (.getfield 50, 3)) := by decide +kernel
theorem dX3_windingOf_0 : decode cX3_windingOf 0 = .ok (.iload_n 1, 1) := dX3_windingOf_0_b.1
theorem dX3_windingOf_1 : decode cX3_windingOf 1 = .ok (.aload_n 0, 1) := dX3_windingOf_0_b.2.1
theorem dX3_windingOf_2 : decode cX3_windingOf 2 = .ok (.getfield 50, 3) := dX3_windingOf_0_b.2.2.1
theorem dX3_windingOf_5 : decode cX3_windingOf 5 = .ok (.if_icmp .ge 10, 3) := dX3_windingOf_0_b.2.2.2.1
theorem dX3_windingOf_8 : decode cX3_windingOf 8 = .ok (.aload_n 0, 1) := dX3_windingOf_0_b.2.2.2.2.1
theorem dX3_windingOf_9 : decode cX3_windingOf 9 = .ok (.getfield 50, 3) := dX3_windingOf_0_b.2.2.2.2.2
set_option maxRecDepth 20000 in
theorem dX3_windingOf_12_b : (decode cX3_windingOf 12 = .ok (.iload_n 1, 1)) ∧ (decode cX3_windingOf 13 = .ok (.isub, 1)) ∧ (decode cX3_windingOf 14 = .ok (.ireturn, 1)) ∧ (decode cX3_windingOf 15 = .ok (.iload_n 1, 1)) ∧ (decode cX3_windingOf 16 = .ok (.aload_n 0, 1)) ∧ (decode cX3_windingOf 17 = .ok (.getfield 53, 3)) := by decide +kernel
theorem dX3_windingOf_12 : decode cX3_windingOf 12 = .ok (.iload_n 1, 1) := dX3_windingOf_12_b.1
theorem dX3_windingOf_13 : decode cX3_windingOf 13 = .ok (.isub, 1) := dX3_windingOf_12_b.2.1
theorem dX3_windingOf_14 : decode cX3_windingOf 14 = .ok (.ireturn, 1) := dX3_windingOf_12_b.2.2.1
theorem dX3_windingOf_15 : decode cX3_windingOf 15 = .ok (.iload_n 1, 1) := dX3_windingOf_12_b.2.2.2.1
theorem dX3_windingOf_16 : decode cX3_windingOf 16 = .ok (.aload_n 0, 1) := dX3_windingOf_12_b.2.2.2.2.1
theorem dX3_windingOf_17 : decode cX3_windingOf 17 = .ok (.getfield 53, 3) := dX3_windingOf_12_b.2.2.2.2.2
set_option maxRecDepth 20000 in
theorem dX3_windingOf_20_b : (decode cX3_windingOf 20 = .ok (.aload_n 0, 1)) ∧ (decode cX3_windingOf 21 = .ok (.getfield 56, 3)) ∧ (decode cX3_windingOf 24 = .ok (.iadd, 1)) ∧ (decode cX3_windingOf 25 = .ok (.if_icmp .le 17, 3)) ∧ (decode cX3_windingOf 28 = .ok (.iload_n 1, 1)) ∧ (decode cX3_windingOf 29 = .ok (.aload_n 0, 1)) := by decide +kernel
theorem dX3_windingOf_20 : decode cX3_windingOf 20 = .ok (.aload_n 0, 1) := dX3_windingOf_20_b.1
theorem dX3_windingOf_21 : decode cX3_windingOf 21 = .ok (.getfield 56, 3) := dX3_windingOf_20_b.2.1
theorem dX3_windingOf_24 : decode cX3_windingOf 24 = .ok (.iadd, 1) := dX3_windingOf_20_b.2.2.1
theorem dX3_windingOf_25 : decode cX3_windingOf 25 = .ok (.if_icmp .le 17, 3) := dX3_windingOf_20_b.2.2.2.1
theorem dX3_windingOf_28 : decode cX3_windingOf 28 = .ok (.iload_n 1, 1) := dX3_windingOf_20_b.2.2.2.2.1
theorem dX3_windingOf_29 : decode cX3_windingOf 29 = .ok (.aload_n 0, 1) := dX3_windingOf_20_b.2.2.2.2.2
set_option maxRecDepth 20000 in
theorem dX3_windingOf_30_b : (decode cX3_windingOf 30 = .ok (.getfield 53, 3)) ∧ (decode cX3_windingOf 33 = .ok (.isub, 1)) ∧ (decode cX3_windingOf 34 = .ok (.aload_n 0, 1)) ∧ (decode cX3_windingOf 35 = .ok (.getfield 56, 3)) ∧ (decode cX3_windingOf 38 = .ok (.isub, 1)) ∧ (decode cX3_windingOf 39 = .ok (.goto 4, 3)) := by decide +kernel
theorem dX3_windingOf_30 : decode cX3_windingOf 30 = .ok (.getfield 53, 3) := dX3_windingOf_30_b.1
theorem dX3_windingOf_33 : decode cX3_windingOf 33 = .ok (.isub, 1) := dX3_windingOf_30_b.2.1
theorem dX3_windingOf_34 : decode cX3_windingOf 34 = .ok (.aload_n 0, 1) := dX3_windingOf_30_b.2.2.1
theorem dX3_windingOf_35 : decode cX3_windingOf 35 = .ok (.getfield 56, 3) := dX3_windingOf_30_b.2.2.2.1
theorem dX3_windingOf_38 : decode cX3_windingOf 38 = .ok (.isub, 1) := dX3_windingOf_30_b.2.2.2.2.1
theorem dX3_windingOf_39 : decode cX3_windingOf 39 = .ok (.goto 4, 3) := dX3_windingOf_30_b.2.2.2.2.2
set_option maxRecDepth 20000 in
theorem dX3_windingOf_42_b : (decode cX3_windingOf 42 = .ok (.iconst 0, 1)) ∧ (decode cX3_windingOf 43 = .ok (.ireturn, 1)) := by decide +kernel
theorem dX3_windingOf_42 : decode cX3_windingOf 42 = .ok (.iconst 0, 1) := dX3_windingOf_42_b.1
theorem dX3_windingOf_43 : decode cX3_windingOf 43 = .ok (.ireturn, 1) := dX3_windingOf_42_b.2
set_option maxRecDepth 20000 in
theorem dX3_brokenRule_0_b : (decode cX3_brokenRule 0 = .ok (.aload_n 0, 1)) ∧ (decode cX3_brokenRule 1 = .ok (.getfield 27, 3)) ∧ (decode cX3_brokenRule 4 = .ok (.getfield 116, 3)) ∧ (decode cX3_brokenRule 7 = .ok (.ifCond .ne 5, 3)) ∧ (decode cX3_brokenRule 10 = .ok (.iconst (-1), 1)) ∧ (decode cX3_brokenRule 11 = .ok (.ireturn, 1)) := by decide +kernel
theorem dX3_brokenRule_0 : decode cX3_brokenRule 0 = .ok (.aload_n 0, 1) := dX3_brokenRule_0_b.1
theorem dX3_brokenRule_1 : decode cX3_brokenRule 1 = .ok (.getfield 27, 3) := dX3_brokenRule_0_b.2.1
theorem dX3_brokenRule_4 : decode cX3_brokenRule 4 = .ok (.getfield 116, 3) := dX3_brokenRule_0_b.2.2.1
theorem dX3_brokenRule_7 : decode cX3_brokenRule 7 = .ok (.ifCond .ne 5, 3) := dX3_brokenRule_0_b.2.2.2.1
theorem dX3_brokenRule_10 : decode cX3_brokenRule 10 = .ok (.iconst (-1), 1) := dX3_brokenRule_0_b.2.2.2.2.1
theorem dX3_brokenRule_11 : decode cX3_brokenRule 11 = .ok (.ireturn, 1) := dX3_brokenRule_0_b.2.2.2.2.2
set_option maxRecDepth 20000 in
theorem dX3_brokenRule_12_b : (decode cX3_brokenRule 12 = .ok (.aload_n 0, 1)) ∧ (decode cX3_brokenRule 13 = .ok (.getfield 31, 3)) ∧ (decode cX3_brokenRule 16 = .ok (.iconst 0, 1)) ∧ (decode cX3_brokenRule 17 = .ok (.invokestatic 119, 3)) ∧ (decode cX3_brokenRule 20 = .ok (.iconst 0, 1)) ∧ (decode cX3_brokenRule 21 = .ok (.istore_n 3, 1)) := by decide +kernel
theorem dX3_brokenRule_12 : decode cX3_brokenRule 12 = .ok (.aload_n 0, 1) := dX3_brokenRule_12_b.1
theorem dX3_brokenRule_13 : decode cX3_brokenRule 13 = .ok (.getfield 31, 3) := dX3_brokenRule_12_b.2.1
theorem dX3_brokenRule_16 : decode cX3_brokenRule 16 = .ok (.iconst 0, 1) := dX3_brokenRule_12_b.2.2.1
theorem dX3_brokenRule_17 : decode cX3_brokenRule 17 = .ok (.invokestatic 119, 3) := dX3_brokenRule_12_b.2.2.2.1
theorem dX3_brokenRule_20 : decode cX3_brokenRule 20 = .ok (.iconst 0, 1) := dX3_brokenRule_12_b.2.2.2.2.1
theorem dX3_brokenRule_21 : decode cX3_brokenRule 21 = .ok (.istore_n 3, 1) := dX3_brokenRule_12_b.2.2.2.2.2
set_option maxRecDepth 20000 in
theorem dX3_brokenRule_22_b : (decode cX3_brokenRule 22 = .ok (.iload_n 3, 1)) ∧ (decode cX3_brokenRule 23 = .ok (.aload_n 0, 1)) ∧ (decode cX3_brokenRule 24 = .ok (.getfield 59, 3)) ∧ (decode cX3_brokenRule 27 = .ok (.if_icmp .ge 83, 3)) ∧ (decode cX3_brokenRule 30 = .ok (.iload_n 1, 1)) ∧ (decode cX3_brokenRule 31 = .ok (.iload_n 3, 1)) := by decide +kernel
theorem dX3_brokenRule_22 : decode cX3_brokenRule 22 = .ok (.iload_n 3, 1) := dX3_brokenRule_22_b.1
theorem dX3_brokenRule_23 : decode cX3_brokenRule 23 = .ok (.aload_n 0, 1) := dX3_brokenRule_22_b.2.1
theorem dX3_brokenRule_24 : decode cX3_brokenRule 24 = .ok (.getfield 59, 3) := dX3_brokenRule_22_b.2.2.1
theorem dX3_brokenRule_27 : decode cX3_brokenRule 27 = .ok (.if_icmp .ge 83, 3) := dX3_brokenRule_22_b.2.2.2.1
theorem dX3_brokenRule_30 : decode cX3_brokenRule 30 = .ok (.iload_n 1, 1) := dX3_brokenRule_22_b.2.2.2.2.1
theorem dX3_brokenRule_31 : decode cX3_brokenRule 31 = .ok (.iload_n 3, 1) := dX3_brokenRule_22_b.2.2.2.2.2
set_option maxRecDepth 20000 in
theorem dX3_brokenRule_32_b : (decode cX3_brokenRule 32 = .ok (.invokestatic 78, 3)) ∧ (decode cX3_brokenRule 35 = .ok (.istore 4, 2)) ∧ (decode cX3_brokenRule 37 = .ok (.iload 4, 2)) ∧ (decode cX3_brokenRule 39 = .ok (.bipush 12, 2)) ∧ (decode cX3_brokenRule 41 = .ok (.iload_n 2, 1)) ∧ (decode cX3_brokenRule 42 = .ok (.iadd, 1)) := by decide +kernel
theorem dX3_brokenRule_32 : decode cX3_brokenRule 32 = .ok (.invokestatic 78, 3) := dX3_brokenRule_32_b.1
theorem dX3_brokenRule_35 : decode cX3_brokenRule 35 = .ok (.istore 4, 2) := dX3_brokenRule_32_b.2.1
theorem dX3_brokenRule_37 : decode cX3_brokenRule 37 = .ok (.iload 4, 2) := dX3_brokenRule_32_b.2.2.1
theorem dX3_brokenRule_39 : decode cX3_brokenRule 39 = .ok (.bipush 12, 2) := dX3_brokenRule_32_b.2.2.2.1
theorem dX3_brokenRule_41 : decode cX3_brokenRule 41 = .ok (.iload_n 2, 1) := dX3_brokenRule_32_b.2.2.2.2.1
theorem dX3_brokenRule_42 : decode cX3_brokenRule 42 = .ok (.iadd, 1) := dX3_brokenRule_32_b.2.2.2.2.2
set_option maxRecDepth 20000 in
theorem dX3_brokenRule_43_b : (decode cX3_brokenRule 43 = .ok (.if_icmp .ne 36, 3)) ∧ (decode cX3_brokenRule 46 = .ok (.aload_n 0, 1)) ∧ (decode cX3_brokenRule 47 = .ok (.getfield 31, 3)) ∧ (decode cX3_brokenRule 50 = .ok (.aload_n 0, 1)) ∧ (decode cX3_brokenRule 51 = .ok (.getfield 9, 3)) ∧ (decode cX3_brokenRule 54 = .ok (.iload_n 3, 1)) := by decide +kernel
theorem dX3_brokenRule_43 : decode cX3_brokenRule 43 = .ok (.if_icmp .ne 36, 3) := dX3_brokenRule_43_b.1
theorem dX3_brokenRule_46 : decode cX3_brokenRule 46 = .ok (.aload_n 0, 1) := dX3_brokenRule_43_b.2.1
theorem dX3_brokenRule_47 : decode cX3_brokenRule 47 = .ok (.getfield 31, 3) := dX3_brokenRule_43_b.2.2.1
theorem dX3_brokenRule_50 : decode cX3_brokenRule 50 = .ok (.aload_n 0, 1) := dX3_brokenRule_43_b.2.2.2.1
theorem dX3_brokenRule_51 : decode cX3_brokenRule 51 = .ok (.getfield 9, 3) := dX3_brokenRule_43_b.2.2.2.2.1
theorem dX3_brokenRule_54 : decode cX3_brokenRule 54 = .ok (.iload_n 3, 1) := dX3_brokenRule_43_b.2.2.2.2.2
set_option maxRecDepth 20000 in
theorem dX3_brokenRule_55_b : (decode cX3_brokenRule 55 = .ok (.iaload, 1)) ∧ (decode cX3_brokenRule 56 = .ok (.dup2, 1)) ∧ (decode cX3_brokenRule 57 = .ok (.iaload, 1)) ∧ (decode cX3_brokenRule 58 = .ok (.iconst 1, 1)) ∧ (decode cX3_brokenRule 59 = .ok (.iadd, 1)) ∧ (decode cX3_brokenRule 60 = .ok (.iastore, 1)) := by decide +kernel
theorem dX3_brokenRule_55 : decode cX3_brokenRule 55 = .ok (.iaload, 1) := dX3_brokenRule_55_b.1
theorem dX3_brokenRule_56 : decode cX3_brokenRule 56 = .ok (.dup2, 1) := dX3_brokenRule_55_b.2.1
theorem dX3_brokenRule_57 : decode cX3_brokenRule 57 = .ok (.iaload, 1) := dX3_brokenRule_55_b.2.2.1
theorem dX3_brokenRule_58 : decode cX3_brokenRule 58 = .ok (.iconst 1, 1) := dX3_brokenRule_55_b.2.2.2.1
theorem dX3_brokenRule_59 : decode cX3_brokenRule 59 = .ok (.iadd, 1) := dX3_brokenRule_55_b.2.2.2.2.1
theorem dX3_brokenRule_60 : decode cX3_brokenRule 60 = .ok (.iastore, 1) := dX3_brokenRule_55_b.2.2.2.2.2
set_option maxRecDepth 20000 in
theorem dX3_brokenRule_61_b : (decode cX3_brokenRule 61 = .ok (.aload_n 0, 1)) ∧ (decode cX3_brokenRule 62 = .ok (.getfield 31, 3)) ∧ (decode cX3_brokenRule 65 = .ok (.iconst 4, 1)) ∧ (decode cX3_brokenRule 66 = .ok (.dup2, 1)) ∧ (decode cX3_brokenRule 67 = .ok (.iaload, 1)) ∧ (decode cX3_brokenRule 68 = .ok (.aload_n 0, 1)) := by decide +kernel
theorem dX3_brokenRule_61 : decode cX3_brokenRule 61 = .ok (.aload_n 0, 1) := dX3_brokenRule_61_b.1
theorem dX3_brokenRule_62 : decode cX3_brokenRule 62 = .ok (.getfield 31, 3) := dX3_brokenRule_61_b.2.1
theorem dX3_brokenRule_65 : decode cX3_brokenRule 65 = .ok (.iconst 4, 1) := dX3_brokenRule_61_b.2.2.1
theorem dX3_brokenRule_66 : decode cX3_brokenRule 66 = .ok (.dup2, 1) := dX3_brokenRule_61_b.2.2.2.1
theorem dX3_brokenRule_67 : decode cX3_brokenRule 67 = .ok (.iaload, 1) := dX3_brokenRule_61_b.2.2.2.2.1
theorem dX3_brokenRule_68 : decode cX3_brokenRule 68 = .ok (.aload_n 0, 1) := dX3_brokenRule_61_b.2.2.2.2.2
set_option maxRecDepth 20000 in
theorem dX3_brokenRule_69_b : (decode cX3_brokenRule 69 = .ok (.getfield 15, 3)) ∧ (decode cX3_brokenRule 72 = .ok (.iload_n 3, 1)) ∧ (decode cX3_brokenRule 73 = .ok (.iaload, 1)) ∧ (decode cX3_brokenRule 74 = .ok (.iadd, 1)) ∧ (decode cX3_brokenRule 75 = .ok (.iastore, 1)) ∧ (decode cX3_brokenRule 76 = .ok (.goto 28, 3)) := by decide +kernel
theorem dX3_brokenRule_69 : decode cX3_brokenRule 69 = .ok (.getfield 15, 3) := dX3_brokenRule_69_b.1
theorem dX3_brokenRule_72 : decode cX3_brokenRule 72 = .ok (.iload_n 3, 1) := dX3_brokenRule_69_b.2.1
theorem dX3_brokenRule_73 : decode cX3_brokenRule 73 = .ok (.iaload, 1) := dX3_brokenRule_69_b.2.2.1
theorem dX3_brokenRule_74 : decode cX3_brokenRule 74 = .ok (.iadd, 1) := dX3_brokenRule_69_b.2.2.2.1
theorem dX3_brokenRule_75 : decode cX3_brokenRule 75 = .ok (.iastore, 1) := dX3_brokenRule_69_b.2.2.2.2.1
theorem dX3_brokenRule_76 : decode cX3_brokenRule 76 = .ok (.goto 28, 3) := dX3_brokenRule_69_b.2.2.2.2.2
set_option maxRecDepth 20000 in
theorem dX3_brokenRule_79_b : (decode cX3_brokenRule 79 = .ok (.iload 4, 2)) ∧ (decode cX3_brokenRule 81 = .ok (.bipush 13, 2)) ∧ (decode cX3_brokenRule 83 = .ok (.iload_n 2, 1)) ∧ (decode cX3_brokenRule 84 = .ok (.isub, 1)) ∧ (decode cX3_brokenRule 85 = .ok (.if_icmp .ne 19, 3)) ∧ (decode cX3_brokenRule 88 = .ok (.aload_n 0, 1)) := by decide +kernel
theorem dX3_brokenRule_79 : decode cX3_brokenRule 79 = .ok (.iload 4, 2) := dX3_brokenRule_79_b.1
theorem dX3_brokenRule_81 : decode cX3_brokenRule 81 = .ok (.bipush 13, 2) := dX3_brokenRule_79_b.2.1
theorem dX3_brokenRule_83 : decode cX3_brokenRule 83 = .ok (.iload_n 2, 1) := dX3_brokenRule_79_b.2.2.1
theorem dX3_brokenRule_84 : decode cX3_brokenRule 84 = .ok (.isub, 1) := dX3_brokenRule_79_b.2.2.2.1
theorem dX3_brokenRule_85 : decode cX3_brokenRule 85 = .ok (.if_icmp .ne 19, 3) := dX3_brokenRule_79_b.2.2.2.2.1
theorem dX3_brokenRule_88 : decode cX3_brokenRule 88 = .ok (.aload_n 0, 1) := dX3_brokenRule_79_b.2.2.2.2.2
set_option maxRecDepth 20000 in
theorem dX3_brokenRule_89_b : (decode cX3_brokenRule 89 = .ok (.getfield 31, 3)) ∧ (decode cX3_brokenRule 92 = .ok (.bipush 6, 2)) ∧ (decode cX3_brokenRule 94 = .ok (.dup2, 1)) ∧ (decode cX3_brokenRule 95 = .ok (.iaload, 1)) ∧ (decode cX3_brokenRule 96 = .ok (.aload_n 0, 1)) ∧ (decode cX3_brokenRule 97 = .ok (.getfield 15, 3)) := by decide +kernel
theorem dX3_brokenRule_89 : decode cX3_brokenRule 89 = .ok (.getfield 31, 3) := dX3_brokenRule_89_b.1
theorem dX3_brokenRule_92 : decode cX3_brokenRule 92 = .ok (.bipush 6, 2) := dX3_brokenRule_89_b.2.1
theorem dX3_brokenRule_94 : decode cX3_brokenRule 94 = .ok (.dup2, 1) := dX3_brokenRule_89_b.2.2.1
theorem dX3_brokenRule_95 : decode cX3_brokenRule 95 = .ok (.iaload, 1) := dX3_brokenRule_89_b.2.2.2.1
theorem dX3_brokenRule_96 : decode cX3_brokenRule 96 = .ok (.aload_n 0, 1) := dX3_brokenRule_89_b.2.2.2.2.1
theorem dX3_brokenRule_97 : decode cX3_brokenRule 97 = .ok (.getfield 15, 3) := dX3_brokenRule_89_b.2.2.2.2.2
set_option maxRecDepth 20000 in
theorem dX3_brokenRule_100_b : (decode cX3_brokenRule 100 = .ok (.iload_n 3, 1)) ∧ (decode cX3_brokenRule 101 = .ok (.iaload, 1)) ∧ (decode cX3_brokenRule 102 = .ok (.iadd, 1)) ∧ (decode cX3_brokenRule 103 = .ok (.iastore, 1)) ∧ (decode cX3_brokenRule 104 = .ok (.iinc 3 1, 3)) ∧ (decode cX3_brokenRule 107 = .ok (.goto (-85), 3)) := by decide +kernel
theorem dX3_brokenRule_100 : decode cX3_brokenRule 100 = .ok (.iload_n 3, 1) := dX3_brokenRule_100_b.1
theorem dX3_brokenRule_101 : decode cX3_brokenRule 101 = .ok (.iaload, 1) := dX3_brokenRule_100_b.2.1
theorem dX3_brokenRule_102 : decode cX3_brokenRule 102 = .ok (.iadd, 1) := dX3_brokenRule_100_b.2.2.1
theorem dX3_brokenRule_103 : decode cX3_brokenRule 103 = .ok (.iastore, 1) := dX3_brokenRule_100_b.2.2.2.1
theorem dX3_brokenRule_104 : decode cX3_brokenRule 104 = .ok (.iinc 3 1, 3) := dX3_brokenRule_100_b.2.2.2.2.1
theorem dX3_brokenRule_107 : decode cX3_brokenRule 107 = .ok (.goto (-85), 3) := dX3_brokenRule_100_b.2.2.2.2.2
set_option maxRecDepth 20000 in
theorem dX3_brokenRule_110_b : (decode cX3_brokenRule 110 = .ok (.aload_n 0, 1)) ∧ (decode cX3_brokenRule 111 = .ok (.getfield 31, 3)) ∧ (decode cX3_brokenRule 114 = .ok (.iconst 5, 1)) ∧ (decode cX3_brokenRule 115 = .ok (.aload_n 0, 1)) ∧ (decode cX3_brokenRule 116 = .ok (.iload_n 1, 1)) ∧ (decode cX3_brokenRule 117 = .ok (.iload_n 2, 1)) := by decide +kernel
theorem dX3_brokenRule_110 : decode cX3_brokenRule 110 = .ok (.aload_n 0, 1) := dX3_brokenRule_110_b.1
theorem dX3_brokenRule_111 : decode cX3_brokenRule 111 = .ok (.getfield 31, 3) := dX3_brokenRule_110_b.2.1
theorem dX3_brokenRule_114 : decode cX3_brokenRule 114 = .ok (.iconst 5, 1) := dX3_brokenRule_110_b.2.2.1
theorem dX3_brokenRule_115 : decode cX3_brokenRule 115 = .ok (.aload_n 0, 1) := dX3_brokenRule_110_b.2.2.2.1
theorem dX3_brokenRule_116 : decode cX3_brokenRule 116 = .ok (.iload_n 1, 1) := dX3_brokenRule_110_b.2.2.2.2.1
theorem dX3_brokenRule_117 : decode cX3_brokenRule 117 = .ok (.iload_n 2, 1) := dX3_brokenRule_110_b.2.2.2.2.2
set_option maxRecDepth 20000 in
theorem dX3_brokenRule_118_b : (decode cX3_brokenRule 118 = .ok (.invokevirtual 81, 3)) ∧ (decode cX3_brokenRule 121 = .ok (.iastore, 1)) ∧ (decode cX3_brokenRule 122 = .ok (.iconst 0, 1)) ∧ (decode cX3_brokenRule 123 = .ok (.istore_n 3, 1)) ∧ (decode cX3_brokenRule 124 = .ok (.iload_n 3, 1)) ∧ (decode cX3_brokenRule 125 = .ok (.aload_n 0, 1)) := by decide +kernel
theorem dX3_brokenRule_118 : decode cX3_brokenRule 118 = .ok (.invokevirtual 81, 3) := dX3_brokenRule_118_b.1
theorem dX3_brokenRule_121 : decode cX3_brokenRule 121 = .ok (.iastore, 1) := dX3_brokenRule_118_b.2.1
theorem dX3_brokenRule_122 : decode cX3_brokenRule 122 = .ok (.iconst 0, 1) := dX3_brokenRule_118_b.2.2.1
theorem dX3_brokenRule_123 : decode cX3_brokenRule 123 = .ok (.istore_n 3, 1) := dX3_brokenRule_118_b.2.2.2.1
theorem dX3_brokenRule_124 : decode cX3_brokenRule 124 = .ok (.iload_n 3, 1) := dX3_brokenRule_118_b.2.2.2.2.1
theorem dX3_brokenRule_125 : decode cX3_brokenRule 125 = .ok (.aload_n 0, 1) := dX3_brokenRule_118_b.2.2.2.2.2
set_option maxRecDepth 20000 in
theorem dX3_brokenRule_126_b : (decode cX3_brokenRule 126 = .ok (.getfield 27, 3)) ∧ (decode cX3_brokenRule 129 = .ok (.getfield 116, 3)) ∧ (decode cX3_brokenRule 132 = .ok (.if_icmp .ge 26, 3)) ∧ (decode cX3_brokenRule 135 = .ok (.aload_n 0, 1)) ∧ (decode cX3_brokenRule 136 = .ok (.getfield 27, 3)) ∧ (decode cX3_brokenRule 139 = .ok (.iload_n 3, 1)) := by decide +kernel
theorem dX3_brokenRule_126 : decode cX3_brokenRule 126 = .ok (.getfield 27, 3) := dX3_brokenRule_126_b.1
theorem dX3_brokenRule_129 : decode cX3_brokenRule 129 = .ok (.getfield 116, 3) := dX3_brokenRule_126_b.2.1
theorem dX3_brokenRule_132 : decode cX3_brokenRule 132 = .ok (.if_icmp .ge 26, 3) := dX3_brokenRule_126_b.2.2.1
theorem dX3_brokenRule_135 : decode cX3_brokenRule 135 = .ok (.aload_n 0, 1) := dX3_brokenRule_126_b.2.2.2.1
theorem dX3_brokenRule_136 : decode cX3_brokenRule 136 = .ok (.getfield 27, 3) := dX3_brokenRule_126_b.2.2.2.2.1
theorem dX3_brokenRule_139 : decode cX3_brokenRule 139 = .ok (.iload_n 3, 1) := dX3_brokenRule_126_b.2.2.2.2.2
set_option maxRecDepth 20000 in
theorem dX3_brokenRule_140_b : (decode cX3_brokenRule 140 = .ok (.aload_n 0, 1)) ∧ (decode cX3_brokenRule 141 = .ok (.getfield 31, 3)) ∧ (decode cX3_brokenRule 144 = .ok (.invokevirtual 125, 3)) ∧ (decode cX3_brokenRule 147 = .ok (.ifCond .ne 5, 3)) ∧ (decode cX3_brokenRule 150 = .ok (.iload_n 3, 1)) ∧ (decode cX3_brokenRule 151 = .ok (.ireturn, 1)) := by decide +kernel
theorem dX3_brokenRule_140 : decode cX3_brokenRule 140 = .ok (.aload_n 0, 1) := dX3_brokenRule_140_b.1
theorem dX3_brokenRule_141 : decode cX3_brokenRule 141 = .ok (.getfield 31, 3) := dX3_brokenRule_140_b.2.1
theorem dX3_brokenRule_144 : decode cX3_brokenRule 144 = .ok (.invokevirtual 125, 3) := dX3_brokenRule_140_b.2.2.1
theorem dX3_brokenRule_147 : decode cX3_brokenRule 147 = .ok (.ifCond .ne 5, 3) := dX3_brokenRule_140_b.2.2.2.1
theorem dX3_brokenRule_150 : decode cX3_brokenRule 150 = .ok (.iload_n 3, 1) := dX3_brokenRule_140_b.2.2.2.2.1
theorem dX3_brokenRule_151 : decode cX3_brokenRule 151 = .ok (.ireturn, 1) := dX3_brokenRule_140_b.2.2.2.2.2
set_option maxRecDepth 20000 in
theorem dX3_brokenRule_152_b : (decode cX3_brokenRule 152 = .ok (.iinc 3 1, 3)) ∧ (decode cX3_brokenRule 155 = .ok (.goto (-31), 3)) ∧ (decode cX3_brokenRule 158 = .ok (.iconst (-1), 1)) ∧ (decode cX3_brokenRule 159 = .ok (.ireturn, 1)) := by decide +kernel
theorem dX3_brokenRule_152 : decode cX3_brokenRule 152 = .ok (.iinc 3 1, 3) := dX3_brokenRule_152_b.1
theorem dX3_brokenRule_155 : decode cX3_brokenRule 155 = .ok (.goto (-31), 3) := dX3_brokenRule_152_b.2.1
theorem dX3_brokenRule_158 : decode cX3_brokenRule 158 = .ok (.iconst (-1), 1) := dX3_brokenRule_152_b.2.2.1
theorem dX3_brokenRule_159 : decode cX3_brokenRule 159 = .ok (.ireturn, 1) := dX3_brokenRule_152_b.2.2.2
set_option maxRecDepth 20000 in
theorem dX4_open_0_b : (decode cX4_open 0 = .ok (.aload_n 0, 1)) ∧ (decode cX4_open 1 = .ok (.aload_n 1, 1)) ∧ (decode cX4_open 2 = .ok (.putfield 9, 3)) ∧ (decode cX4_open 5 = .ok (.aload_n 0, 1)) ∧ (decode cX4_open 6 = .ok (.iload_n 2, 1)) ∧ (decode cX4_open 7 = .ok (.aload_n 1, 1)) := by decide +kernel
theorem dX4_open_0 : decode cX4_open 0 = .ok (.aload_n 0, 1) := dX4_open_0_b.1
theorem dX4_open_1 : decode cX4_open 1 = .ok (.aload_n 1, 1) := dX4_open_0_b.2.1
theorem dX4_open_2 : decode cX4_open 2 = .ok (.putfield 9, 3) := dX4_open_0_b.2.2.1
theorem dX4_open_5 : decode cX4_open 5 = .ok (.aload_n 0, 1) := dX4_open_0_b.2.2.2.1
theorem dX4_open_6 : decode cX4_open 6 = .ok (.iload_n 2, 1) := dX4_open_0_b.2.2.2.2.1
theorem dX4_open_7 : decode cX4_open 7 = .ok (.aload_n 1, 1) := dX4_open_0_b.2.2.2.2.2
set_option maxRecDepth 20000 in
theorem dX4_open_8_b : (decode cX4_open 8 = .ok (.arraylength, 1)) ∧ (decode cX4_open 9 = .ok (.if_icmp .ge 7, 3)) ∧ (decode cX4_open 12 = .ok (.iload_n 2, 1)) ∧ (decode cX4_open 13 = .ok (.goto 5, 3)) ∧ (decode cX4_open 16 = .ok (.aload_n 1, 1)) ∧ (decode cX4_open 17 = .ok (.arraylength, 1)) := by decide +kernel
theorem dX4_open_8 : decode cX4_open 8 = .ok (.arraylength, 1) := dX4_open_8_b.1
theorem dX4_open_9 : decode cX4_open 9 = .ok (.if_icmp .ge 7, 3) := dX4_open_8_b.2.1
theorem dX4_open_12 : decode cX4_open 12 = .ok (.iload_n 2, 1) := dX4_open_8_b.2.2.1
theorem dX4_open_13 : decode cX4_open 13 = .ok (.goto 5, 3) := dX4_open_8_b.2.2.2.1
theorem dX4_open_16 : decode cX4_open 16 = .ok (.aload_n 1, 1) := dX4_open_8_b.2.2.2.2.1
theorem dX4_open_17 : decode cX4_open 17 = .ok (.arraylength, 1) := dX4_open_8_b.2.2.2.2.2
set_option maxRecDepth 20000 in
theorem dX4_open_18_b : (decode cX4_open 18 = .ok (.putfield 15, 3)) ∧ (decode cX4_open 21 = .ok (.aload_n 0, 1)) ∧ (decode cX4_open 22 = .ok (.iconst 0, 1)) ∧ (decode cX4_open 23 = .ok (.putfield 22, 3)) ∧ (decode cX4_open 26 = .ok (.aload_n 0, 1)) ∧ (decode cX4_open 27 = .ok (.invokevirtual 43, 3)) := by decide +kernel
theorem dX4_open_18 : decode cX4_open 18 = .ok (.putfield 15, 3) := dX4_open_18_b.1
theorem dX4_open_21 : decode cX4_open 21 = .ok (.aload_n 0, 1) := dX4_open_18_b.2.1
theorem dX4_open_22 : decode cX4_open 22 = .ok (.iconst 0, 1) := dX4_open_18_b.2.2.1
theorem dX4_open_23 : decode cX4_open 23 = .ok (.putfield 22, 3) := dX4_open_18_b.2.2.2.1
theorem dX4_open_26 : decode cX4_open 26 = .ok (.aload_n 0, 1) := dX4_open_18_b.2.2.2.2.1
theorem dX4_open_27 : decode cX4_open 27 = .ok (.invokevirtual 43, 3) := dX4_open_18_b.2.2.2.2.2
theorem dX4_open_30 : decode cX4_open 30 = .ok (.return_, 1) := by decide +kernel
set_option maxRecDepth 20000 in
theorem dX4_advance_0_b : (decode cX4_advance 0 = .ok (.aload_n 0, 1)) ∧ (decode cX4_advance 1 = .ok (.aload_n 0, 1)) ∧ (decode cX4_advance 2 = .ok (.getfield 22, 3)) ∧ (decode cX4_advance 5 = .ok (.putfield 19, 3)) ∧ (decode cX4_advance 8 = .ok (.aload_n 0, 1)) ∧ (decode cX4_advance 9 = .ok (.getfield 22, 3)) := by decide +kernel
theorem dX4_advance_0 : decode cX4_advance 0 = .ok (.aload_n 0, 1) := dX4_advance_0_b.1
theorem dX4_advance_1 : decode cX4_advance 1 = .ok (.aload_n 0, 1) := dX4_advance_0_b.2.1
theorem dX4_advance_2 : decode cX4_advance 2 = .ok (.getfield 22, 3) := dX4_advance_0_b.2.2.1
theorem dX4_advance_5 : decode cX4_advance 5 = .ok (.putfield 19, 3) := dX4_advance_0_b.2.2.2.1
theorem dX4_advance_8 : decode cX4_advance 8 = .ok (.aload_n 0, 1) := dX4_advance_0_b.2.2.2.2.1
theorem dX4_advance_9 : decode cX4_advance 9 = .ok (.getfield 22, 3) := dX4_advance_0_b.2.2.2.2.2
set_option maxRecDepth 20000 in
theorem dX4_advance_12_b : (decode cX4_advance 12 = .ok (.istore_n 1, 1)) ∧ (decode cX4_advance 13 = .ok (.iload_n 1, 1)) ∧ (decode cX4_advance 14 = .ok (.aload_n 0, 1)) ∧ (decode cX4_advance 15 = .ok (.getfield 15, 3)) ∧ (decode cX4_advance 18 = .ok (.if_icmp .ge 38, 3)) ∧ (decode cX4_advance 21 = .ok (.aload_n 0, 1)) := by decide +kernel
theorem dX4_advance_12 : decode cX4_advance 12 = .ok (.istore_n 1, 1) := dX4_advance_12_b.1
theorem dX4_advance_13 : decode cX4_advance 13 = .ok (.iload_n 1, 1) := dX4_advance_12_b.2.1
theorem dX4_advance_14 : decode cX4_advance 14 = .ok (.aload_n 0, 1) := dX4_advance_12_b.2.2.1
theorem dX4_advance_15 : decode cX4_advance 15 = .ok (.getfield 15, 3) := dX4_advance_12_b.2.2.2.1
theorem dX4_advance_18 : decode cX4_advance 18 = .ok (.if_icmp .ge 38, 3) := dX4_advance_12_b.2.2.2.2.1
theorem dX4_advance_21 : decode cX4_advance 21 = .ok (.aload_n 0, 1) := dX4_advance_12_b.2.2.2.2.2
set_option maxRecDepth 20000 in
theorem dX4_advance_22_b : (decode cX4_advance 22 = .ok (.getfield 9, 3)) ∧ (decode cX4_advance 25 = .ok (.iload_n 1, 1)) ∧ (decode cX4_advance 26 = .ok (.baload, 1)) ∧ (decode cX4_advance 27 = .ok (.bipush 32, 2)) ∧ (decode cX4_advance 29 = .ok (.if_icmp .eq 14, 3)) ∧ (decode cX4_advance 32 = .ok (.aload_n 0, 1)) := by decide +kernel
theorem dX4_advance_22 : decode cX4_advance 22 = .ok (.getfield 9, 3) := dX4_advance_22_b.1
theorem dX4_advance_25 : decode cX4_advance 25 = .ok (.iload_n 1, 1) := dX4_advance_22_b.2.1
theorem dX4_advance_26 : decode cX4_advance 26 = .ok (.baload, 1) := dX4_advance_22_b.2.2.1
theorem dX4_advance_27 : decode cX4_advance 27 = .ok (.bipush 32, 2) := dX4_advance_22_b.2.2.2.1
theorem dX4_advance_29 : decode cX4_advance 29 = .ok (.if_icmp .eq 14, 3) := dX4_advance_22_b.2.2.2.2.1
theorem dX4_advance_32 : decode cX4_advance 32 = .ok (.aload_n 0, 1) := dX4_advance_22_b.2.2.2.2.2
set_option maxRecDepth 20000 in
theorem dX4_advance_33_b : (decode cX4_advance 33 = .ok (.getfield 9, 3)) ∧ (decode cX4_advance 36 = .ok (.iload_n 1, 1)) ∧ (decode cX4_advance 37 = .ok (.baload, 1)) ∧ (decode cX4_advance 38 = .ok (.bipush 10, 2)) ∧ (decode cX4_advance 40 = .ok (.if_icmp .ne 16, 3)) ∧ (decode cX4_advance 43 = .ok (.aload_n 0, 1)) := by decide +kernel
theorem dX4_advance_33 : decode cX4_advance 33 = .ok (.getfield 9, 3) := dX4_advance_33_b.1
theorem dX4_advance_36 : decode cX4_advance 36 = .ok (.iload_n 1, 1) := dX4_advance_33_b.2.1
theorem dX4_advance_37 : decode cX4_advance 37 = .ok (.baload, 1) := dX4_advance_33_b.2.2.1
theorem dX4_advance_38 : decode cX4_advance 38 = .ok (.bipush 10, 2) := dX4_advance_33_b.2.2.2.1
theorem dX4_advance_40 : decode cX4_advance 40 = .ok (.if_icmp .ne 16, 3) := dX4_advance_33_b.2.2.2.2.1
theorem dX4_advance_43 : decode cX4_advance 43 = .ok (.aload_n 0, 1) := dX4_advance_33_b.2.2.2.2.2
set_option maxRecDepth 20000 in
theorem dX4_advance_44_b : (decode cX4_advance 44 = .ok (.iload_n 1, 1)) ∧ (decode cX4_advance 45 = .ok (.iconst 1, 1)) ∧ (decode cX4_advance 46 = .ok (.iadd, 1)) ∧ (decode cX4_advance 47 = .ok (.putfield 19, 3)) ∧ (decode cX4_advance 50 = .ok (.iinc 1 1, 3)) ∧ (decode cX4_advance 53 = .ok (.goto (-40), 3)) := by decide +kernel
theorem dX4_advance_44 : decode cX4_advance 44 = .ok (.iload_n 1, 1) := dX4_advance_44_b.1
theorem dX4_advance_45 : decode cX4_advance 45 = .ok (.iconst 1, 1) := dX4_advance_44_b.2.1
theorem dX4_advance_46 : decode cX4_advance 46 = .ok (.iadd, 1) := dX4_advance_44_b.2.2.1
theorem dX4_advance_47 : decode cX4_advance 47 = .ok (.putfield 19, 3) := dX4_advance_44_b.2.2.2.1
theorem dX4_advance_50 : decode cX4_advance 50 = .ok (.iinc 1 1, 3) := dX4_advance_44_b.2.2.2.2.1
theorem dX4_advance_53 : decode cX4_advance 53 = .ok (.goto (-40), 3) := dX4_advance_44_b.2.2.2.2.2
set_option maxRecDepth 20000 in
theorem dX4_advance_56_b : (decode cX4_advance 56 = .ok (.aload_n 0, 1)) ∧ (decode cX4_advance 57 = .ok (.getstatic 28, 3)) ∧ (decode cX4_advance 60 = .ok (.putfield 34, 3)) ∧ (decode cX4_advance 63 = .ok (.aload_n 0, 1)) ∧ (decode cX4_advance 64 = .ok (.iconst 0, 1)) ∧ (decode cX4_advance 65 = .ok (.putfield 40, 3)) := by decide +kernel
theorem dX4_advance_56 : decode cX4_advance 56 = .ok (.aload_n 0, 1) := dX4_advance_56_b.1
theorem dX4_advance_57 : decode cX4_advance 57 = .ok (.getstatic 28, 3) := dX4_advance_56_b.2.1
theorem dX4_advance_60 : decode cX4_advance 60 = .ok (.putfield 34, 3) := dX4_advance_56_b.2.2.1
theorem dX4_advance_63 : decode cX4_advance 63 = .ok (.aload_n 0, 1) := dX4_advance_56_b.2.2.2.1
theorem dX4_advance_64 : decode cX4_advance 64 = .ok (.iconst 0, 1) := dX4_advance_56_b.2.2.2.2.1
theorem dX4_advance_65 : decode cX4_advance 65 = .ok (.putfield 40, 3) := dX4_advance_56_b.2.2.2.2.2
set_option maxRecDepth 20000 in
theorem dX4_advance_68_b : (decode cX4_advance 68 = .ok (.aload_n 0, 1)) ∧ (decode cX4_advance 69 = .ok (.bipush 97, 2)) ∧ (decode cX4_advance 71 = .ok (.bipush 122, 2)) ∧ (decode cX4_advance 73 = .ok (.invokevirtual 46, 3)) ∧ (decode cX4_advance 76 = .ok (.istore_n 1, 1)) ∧ (decode cX4_advance 77 = .ok (.aload_n 0, 1)) := by decide +kernel
theorem dX4_advance_68 : decode cX4_advance 68 = .ok (.aload_n 0, 1) := dX4_advance_68_b.1
theorem dX4_advance_69 : decode cX4_advance 69 = .ok (.bipush 97, 2) := dX4_advance_68_b.2.1
theorem dX4_advance_71 : decode cX4_advance 71 = .ok (.bipush 122, 2) := dX4_advance_68_b.2.2.1
theorem dX4_advance_73 : decode cX4_advance 73 = .ok (.invokevirtual 46, 3) := dX4_advance_68_b.2.2.2.1
theorem dX4_advance_76 : decode cX4_advance 76 = .ok (.istore_n 1, 1) := dX4_advance_68_b.2.2.2.2.1
theorem dX4_advance_77 : decode cX4_advance 77 = .ok (.aload_n 0, 1) := dX4_advance_68_b.2.2.2.2.2
set_option maxRecDepth 20000 in
theorem dX4_advance_78_b : (decode cX4_advance 78 = .ok (.bipush 48, 2)) ∧ (decode cX4_advance 80 = .ok (.bipush 57, 2)) ∧ (decode cX4_advance 82 = .ok (.invokevirtual 46, 3)) ∧ (decode cX4_advance 85 = .ok (.istore_n 2, 1)) ∧ (decode cX4_advance 86 = .ok (.aload_n 0, 1)) ∧ (decode cX4_advance 87 = .ok (.getfield 19, 3)) := by decide +kernel
theorem dX4_advance_78 : decode cX4_advance 78 = .ok (.bipush 48, 2) := dX4_advance_78_b.1
theorem dX4_advance_80 : decode cX4_advance 80 = .ok (.bipush 57, 2) := dX4_advance_78_b.2.1
theorem dX4_advance_82 : decode cX4_advance 82 = .ok (.invokevirtual 46, 3) := dX4_advance_78_b.2.2.1
theorem dX4_advance_85 : decode cX4_advance 85 = .ok (.istore_n 2, 1) := dX4_advance_78_b.2.2.2.1
theorem dX4_advance_86 : decode cX4_advance 86 = .ok (.aload_n 0, 1) := dX4_advance_78_b.2.2.2.2.1
theorem dX4_advance_87 : decode cX4_advance 87 = .ok (.getfield 19, 3) := dX4_advance_78_b.2.2.2.2.2
set_option maxRecDepth 20000 in
theorem dX4_advance_90_b : (decode cX4_advance 90 = .ok (.aload_n 0, 1)) ∧ (decode cX4_advance 91 = .ok (.getfield 15, 3)) ∧ (decode cX4_advance 94 = .ok (.if_icmp .lt 10, 3)) ∧ (decode cX4_advance 97 = .ok (.aload_n 0, 1)) ∧ (decode cX4_advance 98 = .ok (.invokevirtual 50, 3)) ∧ (decode cX4_advance 101 = .ok (.goto 57, 3)) := by decide +kernel
theorem dX4_advance_90 : decode cX4_advance 90 = .ok (.aload_n 0, 1) := dX4_advance_90_b.1
theorem dX4_advance_91 : decode cX4_advance 91 = .ok (.getfield 15, 3) := dX4_advance_90_b.2.1
theorem dX4_advance_94 : decode cX4_advance 94 = .ok (.if_icmp .lt 10, 3) := dX4_advance_90_b.2.2.1
theorem dX4_advance_97 : decode cX4_advance 97 = .ok (.aload_n 0, 1) := dX4_advance_90_b.2.2.2.1
theorem dX4_advance_98 : decode cX4_advance 98 = .ok (.invokevirtual 50, 3) := dX4_advance_90_b.2.2.2.2.1
theorem dX4_advance_101 : decode cX4_advance 101 = .ok (.goto 57, 3) := dX4_advance_90_b.2.2.2.2.2
set_option maxRecDepth 20000 in
theorem dX4_advance_104_b : (decode cX4_advance 104 = .ok (.iload_n 1, 1)) ∧ (decode cX4_advance 105 = .ok (.aload_n 0, 1)) ∧ (decode cX4_advance 106 = .ok (.getfield 19, 3)) ∧ (decode cX4_advance 109 = .ok (.if_icmp .le 15, 3)) ∧ (decode cX4_advance 112 = .ok (.aload_n 0, 1)) ∧ (decode cX4_advance 113 = .ok (.iload_n 1, 1)) := by decide +kernel
theorem dX4_advance_104 : decode cX4_advance 104 = .ok (.iload_n 1, 1) := dX4_advance_104_b.1
theorem dX4_advance_105 : decode cX4_advance 105 = .ok (.aload_n 0, 1) := dX4_advance_104_b.2.1
theorem dX4_advance_106 : decode cX4_advance 106 = .ok (.getfield 19, 3) := dX4_advance_104_b.2.2.1
theorem dX4_advance_109 : decode cX4_advance 109 = .ok (.if_icmp .le 15, 3) := dX4_advance_104_b.2.2.2.1
theorem dX4_advance_112 : decode cX4_advance 112 = .ok (.aload_n 0, 1) := dX4_advance_104_b.2.2.2.2.1
theorem dX4_advance_113 : decode cX4_advance 113 = .ok (.iload_n 1, 1) := dX4_advance_104_b.2.2.2.2.2
set_option maxRecDepth 20000 in
theorem dX4_advance_114_b : (decode cX4_advance 114 = .ok (.putfield 22, 3)) ∧ (decode cX4_advance 117 = .ok (.aload_n 0, 1)) ∧ (decode cX4_advance 118 = .ok (.invokevirtual 53, 3)) ∧ (decode cX4_advance 121 = .ok (.goto 37, 3)) ∧ (decode cX4_advance 124 = .ok (.iload_n 2, 1)) ∧ (decode cX4_advance 125 = .ok (.aload_n 0, 1)) := by decide +kernel
theorem dX4_advance_114 : decode cX4_advance 114 = .ok (.putfield 22, 3) := dX4_advance_114_b.1
theorem dX4_advance_117 : decode cX4_advance 117 = .ok (.aload_n 0, 1) := dX4_advance_114_b.2.1
theorem dX4_advance_118 : decode cX4_advance 118 = .ok (.invokevirtual 53, 3) := dX4_advance_114_b.2.2.1
theorem dX4_advance_121 : decode cX4_advance 121 = .ok (.goto 37, 3) := dX4_advance_114_b.2.2.2.1
theorem dX4_advance_124 : decode cX4_advance 124 = .ok (.iload_n 2, 1) := dX4_advance_114_b.2.2.2.2.1
theorem dX4_advance_125 : decode cX4_advance 125 = .ok (.aload_n 0, 1) := dX4_advance_114_b.2.2.2.2.2
set_option maxRecDepth 20000 in
theorem dX4_advance_126_b : (decode cX4_advance 126 = .ok (.getfield 19, 3)) ∧ (decode cX4_advance 129 = .ok (.if_icmp .le 15, 3)) ∧ (decode cX4_advance 132 = .ok (.aload_n 0, 1)) ∧ (decode cX4_advance 133 = .ok (.iload_n 2, 1)) ∧ (decode cX4_advance 134 = .ok (.putfield 22, 3)) ∧ (decode cX4_advance 137 = .ok (.aload_n 0, 1)) := by decide +kernel
theorem dX4_advance_126 : decode cX4_advance 126 = .ok (.getfield 19, 3) := dX4_advance_126_b.1
theorem dX4_advance_129 : decode cX4_advance 129 = .ok (.if_icmp .le 15, 3) := dX4_advance_126_b.2.1
theorem dX4_advance_132 : decode cX4_advance 132 = .ok (.aload_n 0, 1) := dX4_advance_126_b.2.2.1
theorem dX4_advance_133 : decode cX4_advance 133 = .ok (.iload_n 2, 1) := dX4_advance_126_b.2.2.2.1
theorem dX4_advance_134 : decode cX4_advance 134 = .ok (.putfield 22, 3) := dX4_advance_126_b.2.2.2.2.1
theorem dX4_advance_137 : decode cX4_advance 137 = .ok (.aload_n 0, 1) := dX4_advance_126_b.2.2.2.2.2
set_option maxRecDepth 20000 in
theorem dX4_advance_138_b : (decode cX4_advance 138 = .ok (.invokevirtual 56, 3)) ∧ (decode cX4_advance 141 = .ok (.goto 17, 3)) ∧ (decode cX4_advance 144 = .ok (.aload_n 0, 1)) ∧ (decode cX4_advance 145 = .ok (.aload_n 0, 1)) ∧ (decode cX4_advance 146 = .ok (.getfield 19, 3)) ∧ (decode cX4_advance 149 = .ok (.iconst 1, 1)) := by decide +kernel
theorem dX4_advance_138 : decode cX4_advance 138 = .ok (.invokevirtual 56, 3) := dX4_advance_138_b.1
theorem dX4_advance_141 : decode cX4_advance 141 = .ok (.goto 17, 3) := dX4_advance_138_b.2.1
theorem dX4_advance_144 : decode cX4_advance 144 = .ok (.aload_n 0, 1) := dX4_advance_138_b.2.2.1
theorem dX4_advance_145 : decode cX4_advance 145 = .ok (.aload_n 0, 1) := dX4_advance_138_b.2.2.2.1
theorem dX4_advance_146 : decode cX4_advance 146 = .ok (.getfield 19, 3) := dX4_advance_138_b.2.2.2.2.1
theorem dX4_advance_149 : decode cX4_advance 149 = .ok (.iconst 1, 1) := dX4_advance_138_b.2.2.2.2.2
set_option maxRecDepth 20000 in
theorem dX4_advance_150_b : (decode cX4_advance 150 = .ok (.iadd, 1)) ∧ (decode cX4_advance 151 = .ok (.putfield 22, 3)) ∧ (decode cX4_advance 154 = .ok (.aload_n 0, 1)) ∧ (decode cX4_advance 155 = .ok (.invokevirtual 59, 3)) ∧ (decode cX4_advance 158 = .ok (.return_, 1)) := by decide +kernel
theorem dX4_advance_150 : decode cX4_advance 150 = .ok (.iadd, 1) := dX4_advance_150_b.1
theorem dX4_advance_151 : decode cX4_advance 151 = .ok (.putfield 22, 3) := dX4_advance_150_b.2.1
theorem dX4_advance_154 : decode cX4_advance 154 = .ok (.aload_n 0, 1) := dX4_advance_150_b.2.2.1
theorem dX4_advance_155 : decode cX4_advance 155 = .ok (.invokevirtual 59, 3) := dX4_advance_150_b.2.2.2.1
theorem dX4_advance_158 : decode cX4_advance 158 = .ok (.return_, 1) := dX4_advance_150_b.2.2.2.2
set_option maxRecDepth 20000 in
theorem dX4_stop_0_b : (decode cX4_stop 0 = .ok (.aload_n 0, 1)) ∧ (decode cX4_stop 1 = .ok (.iconst 0, 1)) ∧ (decode cX4_stop 2 = .ok (.putfield 25, 3)) ∧ (decode cX4_stop 5 = .ok (.aload_n 0, 1)) ∧ (decode cX4_stop 6 = .ok (.aload_n 0, 1)) ∧ (decode cX4_stop 7 = .ok (.getfield 15, 3)) := by decide +kernel
theorem dX4_stop_0 : decode cX4_stop 0 = .ok (.aload_n 0, 1) := dX4_stop_0_b.1
theorem dX4_stop_1 : decode cX4_stop 1 = .ok (.iconst 0, 1) := dX4_stop_0_b.2.1
theorem dX4_stop_2 : decode cX4_stop 2 = .ok (.putfield 25, 3) := dX4_stop_0_b.2.2.1
theorem dX4_stop_5 : decode cX4_stop 5 = .ok (.aload_n 0, 1) := dX4_stop_0_b.2.2.2.1
theorem dX4_stop_6 : decode cX4_stop 6 = .ok (.aload_n 0, 1) := dX4_stop_0_b.2.2.2.2.1
theorem dX4_stop_7 : decode cX4_stop 7 = .ok (.getfield 15, 3) := dX4_stop_0_b.2.2.2.2.2
set_option maxRecDepth 20000 in
theorem dX4_stop_10_b : (decode cX4_stop 10 = .ok (.putfield 19, 3)) ∧ (decode cX4_stop 13 = .ok (.aload_n 0, 1)) ∧ (decode cX4_stop 14 = .ok (.aload_n 0, 1)) ∧ (decode cX4_stop 15 = .ok (.getfield 15, 3)) ∧ (decode cX4_stop 18 = .ok (.putfield 22, 3)) ∧ (decode cX4_stop 21 = .ok (.aload_n 0, 1)) := by decide +kernel
theorem dX4_stop_10 : decode cX4_stop 10 = .ok (.putfield 19, 3) := dX4_stop_10_b.1
theorem dX4_stop_13 : decode cX4_stop 13 = .ok (.aload_n 0, 1) := dX4_stop_10_b.2.1
theorem dX4_stop_14 : decode cX4_stop 14 = .ok (.aload_n 0, 1) := dX4_stop_10_b.2.2.1
theorem dX4_stop_15 : decode cX4_stop 15 = .ok (.getfield 15, 3) := dX4_stop_10_b.2.2.2.1
theorem dX4_stop_18 : decode cX4_stop 18 = .ok (.putfield 22, 3) := dX4_stop_10_b.2.2.2.2.1
theorem dX4_stop_21 : decode cX4_stop 21 = .ok (.aload_n 0, 1) := dX4_stop_10_b.2.2.2.2.2
set_option maxRecDepth 20000 in
theorem dX4_stop_22_b : (decode cX4_stop 22 = .ok (.getstatic 28, 3)) ∧ (decode cX4_stop 25 = .ok (.putfield 34, 3)) ∧ (decode cX4_stop 28 = .ok (.aload_n 0, 1)) ∧ (decode cX4_stop 29 = .ok (.iconst 0, 1)) ∧ (decode cX4_stop 30 = .ok (.putfield 40, 3)) ∧ (decode cX4_stop 33 = .ok (.return_, 1)) := by decide +kernel
theorem dX4_stop_22 : decode cX4_stop 22 = .ok (.getstatic 28, 3) := dX4_stop_22_b.1
theorem dX4_stop_25 : decode cX4_stop 25 = .ok (.putfield 34, 3) := dX4_stop_22_b.2.1
theorem dX4_stop_28 : decode cX4_stop 28 = .ok (.aload_n 0, 1) := dX4_stop_22_b.2.2.1
theorem dX4_stop_29 : decode cX4_stop 29 = .ok (.iconst 0, 1) := dX4_stop_22_b.2.2.2.1
theorem dX4_stop_30 : decode cX4_stop 30 = .ok (.putfield 40, 3) := dX4_stop_22_b.2.2.2.2.1
theorem dX4_stop_33 : decode cX4_stop 33 = .ok (.return_, 1) := dX4_stop_22_b.2.2.2.2.2
set_option maxRecDepth 20000 in
theorem dX4_rowEnd_0_b : (decode cX4_rowEnd 0 = .ok (.aload_n 0, 1)) ∧ (decode cX4_rowEnd 1 = .ok (.getfield 19, 3)) ∧ (decode cX4_rowEnd 4 = .ok (.istore_n 3, 1)) ∧ (decode cX4_rowEnd 5 = .ok (.aload_n 0, 1)) ∧ (decode cX4_rowEnd 6 = .ok (.getfield 19, 3)) ∧ (decode cX4_rowEnd 9 = .ok (.istore 4, 2)) := by decide +kernel
theorem dX4_rowEnd_0 : decode cX4_rowEnd 0 = .ok (.aload_n 0, 1) := dX4_rowEnd_0_b.1
theorem dX4_rowEnd_1 : decode cX4_rowEnd 1 = .ok (.getfield 19, 3) := dX4_rowEnd_0_b.2.1
theorem dX4_rowEnd_4 : decode cX4_rowEnd 4 = .ok (.istore_n 3, 1) := dX4_rowEnd_0_b.2.2.1
theorem dX4_rowEnd_5 : decode cX4_rowEnd 5 = .ok (.aload_n 0, 1) := dX4_rowEnd_0_b.2.2.2.1
theorem dX4_rowEnd_6 : decode cX4_rowEnd 6 = .ok (.getfield 19, 3) := dX4_rowEnd_0_b.2.2.2.2.1
theorem dX4_rowEnd_9 : decode cX4_rowEnd 9 = .ok (.istore 4, 2) := dX4_rowEnd_0_b.2.2.2.2.2
set_option maxRecDepth 20000 in
theorem dX4_rowEnd_11_b : (decode cX4_rowEnd 11 = .ok (.iload 4, 2)) ∧ (decode cX4_rowEnd 13 = .ok (.aload_n 0, 1)) ∧ (decode cX4_rowEnd 14 = .ok (.getfield 15, 3)) ∧ (decode cX4_rowEnd 17 = .ok (.if_icmp .ge 36, 3)) ∧ (decode cX4_rowEnd 20 = .ok (.aload_n 0, 1)) ∧ (decode cX4_rowEnd 21 = .ok (.getfield 9, 3)) := by decide +kernel
theorem dX4_rowEnd_11 : decode cX4_rowEnd 11 = .ok (.iload 4, 2) := dX4_rowEnd_11_b.1
theorem dX4_rowEnd_13 : decode cX4_rowEnd 13 = .ok (.aload_n 0, 1) := dX4_rowEnd_11_b.2.1
theorem dX4_rowEnd_14 : decode cX4_rowEnd 14 = .ok (.getfield 15, 3) := dX4_rowEnd_11_b.2.2.1
theorem dX4_rowEnd_17 : decode cX4_rowEnd 17 = .ok (.if_icmp .ge 36, 3) := dX4_rowEnd_11_b.2.2.2.1
theorem dX4_rowEnd_20 : decode cX4_rowEnd 20 = .ok (.aload_n 0, 1) := dX4_rowEnd_11_b.2.2.2.2.1
theorem dX4_rowEnd_21 : decode cX4_rowEnd 21 = .ok (.getfield 9, 3) := dX4_rowEnd_11_b.2.2.2.2.2
set_option maxRecDepth 20000 in
theorem dX4_rowEnd_24_b : (decode cX4_rowEnd 24 = .ok (.iload 4, 2)) ∧ (decode cX4_rowEnd 26 = .ok (.baload, 1)) ∧ (decode cX4_rowEnd 27 = .ok (.iload_n 1, 1)) ∧ (decode cX4_rowEnd 28 = .ok (.if_icmp .lt 25, 3)) ∧ (decode cX4_rowEnd 31 = .ok (.aload_n 0, 1)) ∧ (decode cX4_rowEnd 32 = .ok (.getfield 9, 3)) := by decide +kernel
theorem dX4_rowEnd_24 : decode cX4_rowEnd 24 = .ok (.iload 4, 2) := dX4_rowEnd_24_b.1
theorem dX4_rowEnd_26 : decode cX4_rowEnd 26 = .ok (.baload, 1) := dX4_rowEnd_24_b.2.1
theorem dX4_rowEnd_27 : decode cX4_rowEnd 27 = .ok (.iload_n 1, 1) := dX4_rowEnd_24_b.2.2.1
theorem dX4_rowEnd_28 : decode cX4_rowEnd 28 = .ok (.if_icmp .lt 25, 3) := dX4_rowEnd_24_b.2.2.2.1
theorem dX4_rowEnd_31 : decode cX4_rowEnd 31 = .ok (.aload_n 0, 1) := dX4_rowEnd_24_b.2.2.2.2.1
theorem dX4_rowEnd_32 : decode cX4_rowEnd 32 = .ok (.getfield 9, 3) := dX4_rowEnd_24_b.2.2.2.2.2
set_option maxRecDepth 20000 in
theorem dX4_rowEnd_35_b : (decode cX4_rowEnd 35 = .ok (.iload 4, 2)) ∧ (decode cX4_rowEnd 37 = .ok (.baload, 1)) ∧ (decode cX4_rowEnd 38 = .ok (.iload_n 2, 1)) ∧ (decode cX4_rowEnd 39 = .ok (.if_icmp .gt 14, 3)) ∧ (decode cX4_rowEnd 42 = .ok (.iload 4, 2)) ∧ (decode cX4_rowEnd 44 = .ok (.iconst 1, 1)) := by decide +kernel
theorem dX4_rowEnd_35 : decode cX4_rowEnd 35 = .ok (.iload 4, 2) := dX4_rowEnd_35_b.1
theorem dX4_rowEnd_37 : decode cX4_rowEnd 37 = .ok (.baload, 1) := dX4_rowEnd_35_b.2.1
theorem dX4_rowEnd_38 : decode cX4_rowEnd 38 = .ok (.iload_n 2, 1) := dX4_rowEnd_35_b.2.2.1
theorem dX4_rowEnd_39 : decode cX4_rowEnd 39 = .ok (.if_icmp .gt 14, 3) := dX4_rowEnd_35_b.2.2.2.1
theorem dX4_rowEnd_42 : decode cX4_rowEnd 42 = .ok (.iload 4, 2) := dX4_rowEnd_35_b.2.2.2.2.1
theorem dX4_rowEnd_44 : decode cX4_rowEnd 44 = .ok (.iconst 1, 1) := dX4_rowEnd_35_b.2.2.2.2.2
set_option maxRecDepth 20000 in
theorem dX4_rowEnd_45_b : (decode cX4_rowEnd 45 = .ok (.iadd, 1)) ∧ (decode cX4_rowEnd 46 = .ok (.istore_n 3, 1)) ∧ (decode cX4_rowEnd 47 = .ok (.iinc 4 1, 3)) ∧ (decode cX4_rowEnd 50 = .ok (.goto (-39), 3)) ∧ (decode cX4_rowEnd 53 = .ok (.iload_n 3, 1)) ∧ (decode cX4_rowEnd 54 = .ok (.ireturn, 1)) := by decide +kernel
theorem dX4_rowEnd_45 : decode cX4_rowEnd 45 = .ok (.iadd, 1) := dX4_rowEnd_45_b.1
theorem dX4_rowEnd_46 : decode cX4_rowEnd 46 = .ok (.istore_n 3, 1) := dX4_rowEnd_45_b.2.1
theorem dX4_rowEnd_47 : decode cX4_rowEnd 47 = .ok (.iinc 4 1, 3) := dX4_rowEnd_45_b.2.2.1
theorem dX4_rowEnd_50 : decode cX4_rowEnd 50 = .ok (.goto (-39), 3) := dX4_rowEnd_45_b.2.2.2.1
theorem dX4_rowEnd_53 : decode cX4_rowEnd 53 = .ok (.iload_n 3, 1) := dX4_rowEnd_45_b.2.2.2.2.1
theorem dX4_rowEnd_54 : decode cX4_rowEnd 54 = .ok (.ireturn, 1) := dX4_rowEnd_45_b.2.2.2.2.2
set_option maxRecDepth 20000 in
theorem dX4_takeWord_0_b : (decode cX4_takeWord 0 = .ok (.aload_n 0, 1)) ∧ (decode cX4_takeWord 1 = .ok (.iconst 1, 1)) ∧ (decode cX4_takeWord 2 = .ok (.putfield 25, 3)) ∧ (decode cX4_takeWord 5 = .ok (.iconst 0, 1)) ∧ (decode cX4_takeWord 6 = .ok (.istore_n 1, 1)) ∧ (decode cX4_takeWord 7 = .ok (.iload_n 1, 1)) := by decide +kernel
theorem dX4_takeWord_0 : decode cX4_takeWord 0 = .ok (.aload_n 0, 1) := dX4_takeWord_0_b.1
theorem dX4_takeWord_1 : decode cX4_takeWord 1 = .ok (.iconst 1, 1) := dX4_takeWord_0_b.2.1
theorem dX4_takeWord_2 : decode cX4_takeWord 2 = .ok (.putfield 25, 3) := dX4_takeWord_0_b.2.2.1
theorem dX4_takeWord_5 : decode cX4_takeWord 5 = .ok (.iconst 0, 1) := dX4_takeWord_0_b.2.2.2.1
theorem dX4_takeWord_6 : decode cX4_takeWord 6 = .ok (.istore_n 1, 1) := dX4_takeWord_0_b.2.2.2.2.1
theorem dX4_takeWord_7 : decode cX4_takeWord 7 = .ok (.iload_n 1, 1) := dX4_takeWord_0_b.2.2.2.2.2
set_option maxRecDepth 20000 in
theorem dX4_takeWord_8_b : (decode cX4_takeWord 8 = .ok (.getstatic 62, 3)) ∧ (decode cX4_takeWord 11 = .ok (.arraylength, 1)) ∧ (decode cX4_takeWord 12 = .ok (.if_icmp .ge 109, 3)) ∧ (decode cX4_takeWord 15 = .ok (.getstatic 62, 3)) ∧ (decode cX4_takeWord 18 = .ok (.iload_n 1, 1)) ∧ (decode cX4_takeWord 19 = .ok (.aaload, 1)) := by decide +kernel
theorem dX4_takeWord_8 : decode cX4_takeWord 8 = .ok (.getstatic 62, 3) := dX4_takeWord_8_b.1
theorem dX4_takeWord_11 : decode cX4_takeWord 11 = .ok (.arraylength, 1) := dX4_takeWord_8_b.2.1
theorem dX4_takeWord_12 : decode cX4_takeWord 12 = .ok (.if_icmp .ge 109, 3) := dX4_takeWord_8_b.2.2.1
theorem dX4_takeWord_15 : decode cX4_takeWord 15 = .ok (.getstatic 62, 3) := dX4_takeWord_8_b.2.2.2.1
theorem dX4_takeWord_18 : decode cX4_takeWord 18 = .ok (.iload_n 1, 1) := dX4_takeWord_8_b.2.2.2.2.1
theorem dX4_takeWord_19 : decode cX4_takeWord 19 = .ok (.aaload, 1) := dX4_takeWord_8_b.2.2.2.2.2
set_option maxRecDepth 20000 in
theorem dX4_takeWord_20_b : (decode cX4_takeWord 20 = .ok (.getfield 66, 3)) ∧ (decode cX4_takeWord 23 = .ok (.astore_n 2, 1)) ∧ (decode cX4_takeWord 24 = .ok (.aload_n 2, 1)) ∧ (decode cX4_takeWord 25 = .ok (.invokevirtual 69, 3)) ∧ (decode cX4_takeWord 28 = .ok (.aload_n 0, 1)) ∧ (decode cX4_takeWord 29 = .ok (.getfield 22, 3)) := by decide +kernel
theorem dX4_takeWord_20 : decode cX4_takeWord 20 = .ok (.getfield 66, 3) := dX4_takeWord_20_b.1
theorem dX4_takeWord_23 : decode cX4_takeWord 23 = .ok (.astore_n 2, 1) := dX4_takeWord_20_b.2.1
theorem dX4_takeWord_24 : decode cX4_takeWord 24 = .ok (.aload_n 2, 1) := dX4_takeWord_20_b.2.2.1
theorem dX4_takeWord_25 : decode cX4_takeWord 25 = .ok (.invokevirtual 69, 3) := dX4_takeWord_20_b.2.2.2.1
theorem dX4_takeWord_28 : decode cX4_takeWord 28 = .ok (.aload_n 0, 1) := dX4_takeWord_20_b.2.2.2.2.1
theorem dX4_takeWord_29 : decode cX4_takeWord 29 = .ok (.getfield 22, 3) := dX4_takeWord_20_b.2.2.2.2.2
set_option maxRecDepth 20000 in
theorem dX4_takeWord_32_b : (decode cX4_takeWord 32 = .ok (.aload_n 0, 1)) ∧ (decode cX4_takeWord 33 = .ok (.getfield 19, 3)) ∧ (decode cX4_takeWord 36 = .ok (.isub, 1)) ∧ (decode cX4_takeWord 37 = .ok (.if_icmp .ne 7, 3)) ∧ (decode cX4_takeWord 40 = .ok (.iconst 1, 1)) ∧ (decode cX4_takeWord 41 = .ok (.goto 4, 3)) := by decide +kernel
theorem dX4_takeWord_32 : decode cX4_takeWord 32 = .ok (.aload_n 0, 1) := dX4_takeWord_32_b.1
theorem dX4_takeWord_33 : decode cX4_takeWord 33 = .ok (.getfield 19, 3) := dX4_takeWord_32_b.2.1
theorem dX4_takeWord_36 : decode cX4_takeWord 36 = .ok (.isub, 1) := dX4_takeWord_32_b.2.2.1
theorem dX4_takeWord_37 : decode cX4_takeWord 37 = .ok (.if_icmp .ne 7, 3) := dX4_takeWord_32_b.2.2.2.1
theorem dX4_takeWord_40 : decode cX4_takeWord 40 = .ok (.iconst 1, 1) := dX4_takeWord_32_b.2.2.2.2.1
theorem dX4_takeWord_41 : decode cX4_takeWord 41 = .ok (.goto 4, 3) := dX4_takeWord_32_b.2.2.2.2.2
set_option maxRecDepth 20000 in
theorem dX4_takeWord_44_b : (decode cX4_takeWord 44 = .ok (.iconst 0, 1)) ∧ (decode cX4_takeWord 45 = .ok (.istore_n 3, 1)) ∧ (decode cX4_takeWord 46 = .ok (.iconst 0, 1)) ∧ (decode cX4_takeWord 47 = .ok (.istore 4, 2)) ∧ (decode cX4_takeWord 49 = .ok (.iload_n 3, 1)) ∧ (decode cX4_takeWord 50 = .ok (.ifCond .eq 45, 3)) := by decide +kernel
theorem dX4_takeWord_44 : decode cX4_takeWord 44 = .ok (.iconst 0, 1) := dX4_takeWord_44_b.1
theorem dX4_takeWord_45 : decode cX4_takeWord 45 = .ok (.istore_n 3, 1) := dX4_takeWord_44_b.2.1
theorem dX4_takeWord_46 : decode cX4_takeWord 46 = .ok (.iconst 0, 1) := dX4_takeWord_44_b.2.2.1
theorem dX4_takeWord_47 : decode cX4_takeWord 47 = .ok (.istore 4, 2) := dX4_takeWord_44_b.2.2.2.1
theorem dX4_takeWord_49 : decode cX4_takeWord 49 = .ok (.iload_n 3, 1) := dX4_takeWord_44_b.2.2.2.2.1
theorem dX4_takeWord_50 : decode cX4_takeWord 50 = .ok (.ifCond .eq 45, 3) := dX4_takeWord_44_b.2.2.2.2.2
set_option maxRecDepth 20000 in
theorem dX4_takeWord_53_b : (decode cX4_takeWord 53 = .ok (.iload 4, 2)) ∧ (decode cX4_takeWord 55 = .ok (.aload_n 2, 1)) ∧ (decode cX4_takeWord 56 = .ok (.invokevirtual 69, 3)) ∧ (decode cX4_takeWord 59 = .ok (.if_icmp .ge 36, 3)) ∧ (decode cX4_takeWord 62 = .ok (.aload_n 0, 1)) ∧ (decode cX4_takeWord 63 = .ok (.getfield 9, 3)) := by decide +kernel
theorem dX4_takeWord_53 : decode cX4_takeWord 53 = .ok (.iload 4, 2) := dX4_takeWord_53_b.1
theorem dX4_takeWord_55 : decode cX4_takeWord 55 = .ok (.aload_n 2, 1) := dX4_takeWord_53_b.2.1
theorem dX4_takeWord_56 : decode cX4_takeWord 56 = .ok (.invokevirtual 69, 3) := dX4_takeWord_53_b.2.2.1
theorem dX4_takeWord_59 : decode cX4_takeWord 59 = .ok (.if_icmp .ge 36, 3) := dX4_takeWord_53_b.2.2.2.1
theorem dX4_takeWord_62 : decode cX4_takeWord 62 = .ok (.aload_n 0, 1) := dX4_takeWord_53_b.2.2.2.2.1
theorem dX4_takeWord_63 : decode cX4_takeWord 63 = .ok (.getfield 9, 3) := dX4_takeWord_53_b.2.2.2.2.2
set_option maxRecDepth 20000 in
theorem dX4_takeWord_66_b : (decode cX4_takeWord 66 = .ok (.aload_n 0, 1)) ∧ (decode cX4_takeWord 67 = .ok (.getfield 19, 3)) ∧ (decode cX4_takeWord 70 = .ok (.iload 4, 2)) ∧ (decode cX4_takeWord 72 = .ok (.iadd, 1)) ∧ (decode cX4_takeWord 73 = .ok (.baload, 1)) ∧ (decode cX4_takeWord 74 = .ok (.aload_n 2, 1)) := by decide +kernel
theorem dX4_takeWord_66 : decode cX4_takeWord 66 = .ok (.aload_n 0, 1) := dX4_takeWord_66_b.1
theorem dX4_takeWord_67 : decode cX4_takeWord 67 = .ok (.getfield 19, 3) := dX4_takeWord_66_b.2.1
theorem dX4_takeWord_70 : decode cX4_takeWord 70 = .ok (.iload 4, 2) := dX4_takeWord_66_b.2.2.1
theorem dX4_takeWord_72 : decode cX4_takeWord 72 = .ok (.iadd, 1) := dX4_takeWord_66_b.2.2.2.1
theorem dX4_takeWord_73 : decode cX4_takeWord 73 = .ok (.baload, 1) := dX4_takeWord_66_b.2.2.2.2.1
theorem dX4_takeWord_74 : decode cX4_takeWord 74 = .ok (.aload_n 2, 1) := dX4_takeWord_66_b.2.2.2.2.2
set_option maxRecDepth 20000 in
theorem dX4_takeWord_75_b : (decode cX4_takeWord 75 = .ok (.iload 4, 2)) ∧ (decode cX4_takeWord 77 = .ok (.invokevirtual 74, 3)) ∧ (decode cX4_takeWord 80 = .ok (.if_icmp .ne 7, 3)) ∧ (decode cX4_takeWord 83 = .ok (.iconst 1, 1)) ∧ (decode cX4_takeWord 84 = .ok (.goto 4, 3)) ∧ (decode cX4_takeWord 87 = .ok (.iconst 0, 1)) := by decide +kernel
theorem dX4_takeWord_75 : decode cX4_takeWord 75 = .ok (.iload 4, 2) := dX4_takeWord_75_b.1
theorem dX4_takeWord_77 : decode cX4_takeWord 77 = .ok (.invokevirtual 74, 3) := dX4_takeWord_75_b.2.1
theorem dX4_takeWord_80 : decode cX4_takeWord 80 = .ok (.if_icmp .ne 7, 3) := dX4_takeWord_75_b.2.2.1
theorem dX4_takeWord_83 : decode cX4_takeWord 83 = .ok (.iconst 1, 1) := dX4_takeWord_75_b.2.2.2.1
theorem dX4_takeWord_84 : decode cX4_takeWord 84 = .ok (.goto 4, 3) := dX4_takeWord_75_b.2.2.2.2.1
theorem dX4_takeWord_87 : decode cX4_takeWord 87 = .ok (.iconst 0, 1) := dX4_takeWord_75_b.2.2.2.2.2
set_option maxRecDepth 20000 in
theorem dX4_takeWord_88_b : (decode cX4_takeWord 88 = .ok (.istore_n 3, 1)) ∧ (decode cX4_takeWord 89 = .ok (.iinc 4 1, 3)) ∧ (decode cX4_takeWord 92 = .ok (.goto (-43), 3)) ∧ (decode cX4_takeWord 95 = .ok (.aload_n 0, 1)) ∧ (decode cX4_takeWord 96 = .ok (.iload_n 3, 1)) ∧ (decode cX4_takeWord 97 = .ok (.ifCond .eq 11, 3)) := by decide +kernel
theorem dX4_takeWord_88 : decode cX4_takeWord 88 = .ok (.istore_n 3, 1) := dX4_takeWord_88_b.1
theorem dX4_takeWord_89 : decode cX4_takeWord 89 = .ok (.iinc 4 1, 3) := dX4_takeWord_88_b.2.1
theorem dX4_takeWord_92 : decode cX4_takeWord 92 = .ok (.goto (-43), 3) := dX4_takeWord_88_b.2.2.1
theorem dX4_takeWord_95 : decode cX4_takeWord 95 = .ok (.aload_n 0, 1) := dX4_takeWord_88_b.2.2.2.1
theorem dX4_takeWord_96 : decode cX4_takeWord 96 = .ok (.iload_n 3, 1) := dX4_takeWord_88_b.2.2.2.2.1
theorem dX4_takeWord_97 : decode cX4_takeWord 97 = .ok (.ifCond .eq 11, 3) := dX4_takeWord_88_b.2.2.2.2.2
set_option maxRecDepth 20000 in
theorem dX4_takeWord_100_b : (decode cX4_takeWord 100 = .ok (.getstatic 62, 3)) ∧ (decode cX4_takeWord 103 = .ok (.iload_n 1, 1)) ∧ (decode cX4_takeWord 104 = .ok (.aaload, 1)) ∧ (decode cX4_takeWord 105 = .ok (.goto 7, 3)) ∧ (decode cX4_takeWord 108 = .ok (.aload_n 0, 1)) ∧ (decode cX4_takeWord 109 = .ok (.getfield 34, 3)) := by decide +kernel
theorem dX4_takeWord_100 : decode cX4_takeWord 100 = .ok (.getstatic 62, 3) := dX4_takeWord_100_b.1
theorem dX4_takeWord_103 : decode cX4_takeWord 103 = .ok (.iload_n 1, 1) := dX4_takeWord_100_b.2.1
theorem dX4_takeWord_104 : decode cX4_takeWord 104 = .ok (.aaload, 1) := dX4_takeWord_100_b.2.2.1
theorem dX4_takeWord_105 : decode cX4_takeWord 105 = .ok (.goto 7, 3) := dX4_takeWord_100_b.2.2.2.1
theorem dX4_takeWord_108 : decode cX4_takeWord 108 = .ok (.aload_n 0, 1) := dX4_takeWord_100_b.2.2.2.2.1
theorem dX4_takeWord_109 : decode cX4_takeWord 109 = .ok (.getfield 34, 3) := dX4_takeWord_100_b.2.2.2.2.2
set_option maxRecDepth 20000 in
theorem dX4_takeWord_112_b : (decode cX4_takeWord 112 = .ok (.putfield 34, 3)) ∧ (decode cX4_takeWord 115 = .ok (.iinc 1 1, 3)) ∧ (decode cX4_takeWord 118 = .ok (.goto (-111), 3)) ∧ (decode cX4_takeWord 121 = .ok (.return_, 1)) := by decide +kernel
theorem dX4_takeWord_112 : decode cX4_takeWord 112 = .ok (.putfield 34, 3) := dX4_takeWord_112_b.1
theorem dX4_takeWord_115 : decode cX4_takeWord 115 = .ok (.iinc 1 1, 3) := dX4_takeWord_112_b.2.1
theorem dX4_takeWord_118 : decode cX4_takeWord 118 = .ok (.goto (-111), 3) := dX4_takeWord_112_b.2.2.1
theorem dX4_takeWord_121 : decode cX4_takeWord 121 = .ok (.return_, 1) := dX4_takeWord_112_b.2.2.2
set_option maxRecDepth 20000 in
theorem dX4_takeNumber_0_b : (decode cX4_takeNumber 0 = .ok (.aload_n 0, 1)) ∧ (decode cX4_takeNumber 1 = .ok (.iconst 2, 1)) ∧ (decode cX4_takeNumber 2 = .ok (.putfield 25, 3)) ∧ (decode cX4_takeNumber 5 = .ok (.aload_n 0, 1)) ∧ (decode cX4_takeNumber 6 = .ok (.aload_n 0, 1)) ∧ (decode cX4_takeNumber 7 = .ok (.getfield 22, 3)) := by decide +kernel
theorem dX4_takeNumber_0 : decode cX4_takeNumber 0 = .ok (.aload_n 0, 1) := dX4_takeNumber_0_b.1
theorem dX4_takeNumber_1 : decode cX4_takeNumber 1 = .ok (.iconst 2, 1) := dX4_takeNumber_0_b.2.1
theorem dX4_takeNumber_2 : decode cX4_takeNumber 2 = .ok (.putfield 25, 3) := dX4_takeNumber_0_b.2.2.1
theorem dX4_takeNumber_5 : decode cX4_takeNumber 5 = .ok (.aload_n 0, 1) := dX4_takeNumber_0_b.2.2.2.1
theorem dX4_takeNumber_6 : decode cX4_takeNumber 6 = .ok (.aload_n 0, 1) := dX4_takeNumber_0_b.2.2.2.2.1
theorem dX4_takeNumber_7 : decode cX4_takeNumber 7 = .ok (.getfield 22, 3) := dX4_takeNumber_0_b.2.2.2.2.2
set_option maxRecDepth 20000 in
theorem dX4_takeNumber_10_b : (decode cX4_takeNumber 10 = .ok (.aload_n 0, 1)) ∧ (decode cX4_takeNumber 11 = .ok (.getfield 19, 3)) ∧ (decode cX4_takeNumber 14 = .ok (.isub, 1)) ∧ (decode cX4_takeNumber 15 = .ok (.iconst 4, 1)) ∧ (decode cX4_takeNumber 16 = .ok (.if_icmp .le 7, 3)) ∧ (decode cX4_takeNumber 19 = .ok (.iconst (-1), 1)) := by decide +kernel
theorem dX4_takeNumber_10 : decode cX4_takeNumber 10 = .ok (.aload_n 0, 1) := dX4_takeNumber_10_b.1
theorem dX4_takeNumber_11 : decode cX4_takeNumber 11 = .ok (.getfield 19, 3) := dX4_takeNumber_10_b.2.1
theorem dX4_takeNumber_14 : decode cX4_takeNumber 14 = .ok (.isub, 1) := dX4_takeNumber_10_b.2.2.1
theorem dX4_takeNumber_15 : decode cX4_takeNumber 15 = .ok (.iconst 4, 1) := dX4_takeNumber_10_b.2.2.2.1
theorem dX4_takeNumber_16 : decode cX4_takeNumber 16 = .ok (.if_icmp .le 7, 3) := dX4_takeNumber_10_b.2.2.2.2.1
theorem dX4_takeNumber_19 : decode cX4_takeNumber 19 = .ok (.iconst (-1), 1) := dX4_takeNumber_10_b.2.2.2.2.2
set_option maxRecDepth 20000 in
theorem dX4_takeNumber_20_b : (decode cX4_takeNumber 20 = .ok (.goto 4, 3)) ∧ (decode cX4_takeNumber 23 = .ok (.iconst 0, 1)) ∧ (decode cX4_takeNumber 24 = .ok (.putfield 37, 3)) ∧ (decode cX4_takeNumber 27 = .ok (.aload_n 0, 1)) ∧ (decode cX4_takeNumber 28 = .ok (.getfield 19, 3)) ∧ (decode cX4_takeNumber 31 = .ok (.istore_n 1, 1)) := by decide +kernel
theorem dX4_takeNumber_20 : decode cX4_takeNumber 20 = .ok (.goto 4, 3) := dX4_takeNumber_20_b.1
theorem dX4_takeNumber_23 : decode cX4_takeNumber 23 = .ok (.iconst 0, 1) := dX4_takeNumber_20_b.2.1
theorem dX4_takeNumber_24 : decode cX4_takeNumber 24 = .ok (.putfield 37, 3) := dX4_takeNumber_20_b.2.2.1
theorem dX4_takeNumber_27 : decode cX4_takeNumber 27 = .ok (.aload_n 0, 1) := dX4_takeNumber_20_b.2.2.2.1
theorem dX4_takeNumber_28 : decode cX4_takeNumber 28 = .ok (.getfield 19, 3) := dX4_takeNumber_20_b.2.2.2.2.1
theorem dX4_takeNumber_31 : decode cX4_takeNumber 31 = .ok (.istore_n 1, 1) := dX4_takeNumber_20_b.2.2.2.2.2
set_option maxRecDepth 20000 in
theorem dX4_takeNumber_32_b : (decode cX4_takeNumber 32 = .ok (.iload_n 1, 1)) ∧ (decode cX4_takeNumber 33 = .ok (.aload_n 0, 1)) ∧ (decode cX4_takeNumber 34 = .ok (.getfield 22, 3)) ∧ (decode cX4_takeNumber 37 = .ok (.if_icmp .ge 38, 3)) ∧ (decode cX4_takeNumber 40 = .ok (.aload_n 0, 1)) ∧ (decode cX4_takeNumber 41 = .ok (.getfield 37, 3)) := by decide +kernel
theorem dX4_takeNumber_32 : decode cX4_takeNumber 32 = .ok (.iload_n 1, 1) := dX4_takeNumber_32_b.1
theorem dX4_takeNumber_33 : decode cX4_takeNumber 33 = .ok (.aload_n 0, 1) := dX4_takeNumber_32_b.2.1
theorem dX4_takeNumber_34 : decode cX4_takeNumber 34 = .ok (.getfield 22, 3) := dX4_takeNumber_32_b.2.2.1
theorem dX4_takeNumber_37 : decode cX4_takeNumber 37 = .ok (.if_icmp .ge 38, 3) := dX4_takeNumber_32_b.2.2.2.1
theorem dX4_takeNumber_40 : decode cX4_takeNumber 40 = .ok (.aload_n 0, 1) := dX4_takeNumber_32_b.2.2.2.2.1
theorem dX4_takeNumber_41 : decode cX4_takeNumber 41 = .ok (.getfield 37, 3) := dX4_takeNumber_32_b.2.2.2.2.2
set_option maxRecDepth 20000 in
theorem dX4_takeNumber_44_b : (decode cX4_takeNumber 44 = .ok (.iconst (-1), 1)) ∧ (decode cX4_takeNumber 45 = .ok (.if_icmp .eq 30, 3)) ∧ (decode cX4_takeNumber 48 = .ok (.aload_n 0, 1)) ∧ (decode cX4_takeNumber 49 = .ok (.bipush 10, 2)) ∧ (decode cX4_takeNumber 51 = .ok (.aload_n 0, 1)) ∧ (decode cX4_takeNumber 52 = .ok (.getfield 37, 3)) := by decide +kernel
theorem dX4_takeNumber_44 : decode cX4_takeNumber 44 = .ok (.iconst (-1), 1) := dX4_takeNumber_44_b.1
theorem dX4_takeNumber_45 : decode cX4_takeNumber 45 = .ok (.if_icmp .eq 30, 3) := dX4_takeNumber_44_b.2.1
theorem dX4_takeNumber_48 : decode cX4_takeNumber 48 = .ok (.aload_n 0, 1) := dX4_takeNumber_44_b.2.2.1
theorem dX4_takeNumber_49 : decode cX4_takeNumber 49 = .ok (.bipush 10, 2) := dX4_takeNumber_44_b.2.2.2.1
theorem dX4_takeNumber_51 : decode cX4_takeNumber 51 = .ok (.aload_n 0, 1) := dX4_takeNumber_44_b.2.2.2.2.1
theorem dX4_takeNumber_52 : decode cX4_takeNumber 52 = .ok (.getfield 37, 3) := dX4_takeNumber_44_b.2.2.2.2.2
set_option maxRecDepth 20000 in
theorem dX4_takeNumber_55_b : (decode cX4_takeNumber 55 = .ok (.imul, 1)) ∧ (decode cX4_takeNumber 56 = .ok (.aload_n 0, 1)) ∧ (decode cX4_takeNumber 57 = .ok (.getfield 9, 3)) ∧ (decode cX4_takeNumber 60 = .ok (.iload_n 1, 1)) ∧ (decode cX4_takeNumber 61 = .ok (.baload, 1)) ∧ (decode cX4_takeNumber 62 = .ok (.iadd, 1)) := by decide +kernel
theorem dX4_takeNumber_55 : decode cX4_takeNumber 55 = .ok (.imul, 1) := dX4_takeNumber_55_b.1
theorem dX4_takeNumber_56 : decode cX4_takeNumber 56 = .ok (.aload_n 0, 1) := dX4_takeNumber_55_b.2.1
theorem dX4_takeNumber_57 : decode cX4_takeNumber 57 = .ok (.getfield 9, 3) := dX4_takeNumber_55_b.2.2.1
theorem dX4_takeNumber_60 : decode cX4_takeNumber 60 = .ok (.iload_n 1, 1) := dX4_takeNumber_55_b.2.2.2.1
theorem dX4_takeNumber_61 : decode cX4_takeNumber 61 = .ok (.baload, 1) := dX4_takeNumber_55_b.2.2.2.2.1
theorem dX4_takeNumber_62 : decode cX4_takeNumber 62 = .ok (.iadd, 1) := dX4_takeNumber_55_b.2.2.2.2.2
set_option maxRecDepth 20000 in
theorem dX4_takeNumber_63_b : (decode cX4_takeNumber 63 = .ok (.bipush 48, 2)) ∧ (decode cX4_takeNumber 65 = .ok (.isub, 1)) ∧ (decode cX4_takeNumber 66 = .ok (.putfield 37, 3)) ∧ (decode cX4_takeNumber 69 = .ok (.iinc 1 1, 3)) ∧ (decode cX4_takeNumber 72 = .ok (.goto (-40), 3)) ∧ (decode cX4_takeNumber 75 = .ok (.return_, 1)) := by decide +kernel
theorem dX4_takeNumber_63 : decode cX4_takeNumber 63 = .ok (.bipush 48, 2) := dX4_takeNumber_63_b.1
theorem dX4_takeNumber_65 : decode cX4_takeNumber 65 = .ok (.isub, 1) := dX4_takeNumber_63_b.2.1
theorem dX4_takeNumber_66 : decode cX4_takeNumber 66 = .ok (.putfield 37, 3) := dX4_takeNumber_63_b.2.2.1
theorem dX4_takeNumber_69 : decode cX4_takeNumber 69 = .ok (.iinc 1 1, 3) := dX4_takeNumber_63_b.2.2.2.1
theorem dX4_takeNumber_72 : decode cX4_takeNumber 72 = .ok (.goto (-40), 3) := dX4_takeNumber_63_b.2.2.2.2.1
theorem dX4_takeNumber_75 : decode cX4_takeNumber 75 = .ok (.return_, 1) := dX4_takeNumber_63_b.2.2.2.2.2
set_option maxRecDepth 20000 in
theorem dX4_takeSign_0_b : (decode cX4_takeSign 0 = .ok (.aload_n 0, 1)) ∧ (decode cX4_takeSign 1 = .ok (.getfield 9, 3)) ∧ (decode cX4_takeSign 4 = .ok (.aload_n 0, 1)) ∧ (decode cX4_takeSign 5 = .ok (.getfield 19, 3)) ∧ (decode cX4_takeSign 8 = .ok (.baload, 1)) ∧ (decode cX4_takeSign 9 = .ok (.tableswitch 124 40 61 #[103, 103, 103, 103, 124, 103, 124, 103, 124, 124, 124, 124, 124, 124, 124, 124, 124, 124, 124, 103, 103, 103], 103)) := by decide +kernel
theorem dX4_takeSign_0 : decode cX4_takeSign 0 = .ok (.aload_n 0, 1) := dX4_takeSign_0_b.1
theorem dX4_takeSign_1 : decode cX4_takeSign 1 = .ok (.getfield 9, 3) := dX4_takeSign_0_b.2.1
theorem dX4_takeSign_4 : decode cX4_takeSign 4 = .ok (.aload_n 0, 1) := dX4_takeSign_0_b.2.2.1
theorem dX4_takeSign_5 : decode cX4_takeSign 5 = .ok (.getfield 19, 3) := dX4_takeSign_0_b.2.2.2.1
theorem dX4_takeSign_8 : decode cX4_takeSign 8 = .ok (.baload, 1) := dX4_takeSign_0_b.2.2.2.2.1
theorem dX4_takeSign_9 : decode cX4_takeSign 9 = .ok (.tableswitch 124 40 61 #[103, 103, 103, 103, 124, 103, 124, 103, 124, 124, 124, 124, 124, 124, 124, 124, 124, 124, 124, 103, 103, 103], 103) := dX4_takeSign_0_b.2.2.2.2.2
set_option maxRecDepth 20000 in
theorem dX4_takeSign_112_b : (decode cX4_takeSign 112 = .ok (.aload_n 0, 1)) ∧ (decode cX4_takeSign 113 = .ok (.iconst 3, 1)) ∧ (decode cX4_takeSign 114 = .ok (.putfield 25, 3)) ∧ (decode cX4_takeSign 117 = .ok (.aload_n 0, 1)) ∧ (decode cX4_takeSign 118 = .ok (.aload_n 0, 1)) ∧ (decode cX4_takeSign 119 = .ok (.getfield 9, 3)) := by decide +kernel
theorem dX4_takeSign_112 : decode cX4_takeSign 112 = .ok (.aload_n 0, 1) := dX4_takeSign_112_b.1
theorem dX4_takeSign_113 : decode cX4_takeSign 113 = .ok (.iconst 3, 1) := dX4_takeSign_112_b.2.1
theorem dX4_takeSign_114 : decode cX4_takeSign 114 = .ok (.putfield 25, 3) := dX4_takeSign_112_b.2.2.1
theorem dX4_takeSign_117 : decode cX4_takeSign 117 = .ok (.aload_n 0, 1) := dX4_takeSign_112_b.2.2.2.1
theorem dX4_takeSign_118 : decode cX4_takeSign 118 = .ok (.aload_n 0, 1) := dX4_takeSign_112_b.2.2.2.2.1
theorem dX4_takeSign_119 : decode cX4_takeSign 119 = .ok (.getfield 9, 3) := dX4_takeSign_112_b.2.2.2.2.2
set_option maxRecDepth 20000 in
theorem dX4_takeSign_122_b : (decode cX4_takeSign 122 = .ok (.aload_n 0, 1)) ∧ (decode cX4_takeSign 123 = .ok (.getfield 19, 3)) ∧ (decode cX4_takeSign 126 = .ok (.baload, 1)) ∧ (decode cX4_takeSign 127 = .ok (.putfield 40, 3)) ∧ (decode cX4_takeSign 130 = .ok (.goto 8, 3)) ∧ (decode cX4_takeSign 133 = .ok (.aload_n 0, 1)) := by decide +kernel
theorem dX4_takeSign_122 : decode cX4_takeSign 122 = .ok (.aload_n 0, 1) := dX4_takeSign_122_b.1
theorem dX4_takeSign_123 : decode cX4_takeSign 123 = .ok (.getfield 19, 3) := dX4_takeSign_122_b.2.1
theorem dX4_takeSign_126 : decode cX4_takeSign 126 = .ok (.baload, 1) := dX4_takeSign_122_b.2.2.1
theorem dX4_takeSign_127 : decode cX4_takeSign 127 = .ok (.putfield 40, 3) := dX4_takeSign_122_b.2.2.2.1
theorem dX4_takeSign_130 : decode cX4_takeSign 130 = .ok (.goto 8, 3) := dX4_takeSign_122_b.2.2.2.2.1
theorem dX4_takeSign_133 : decode cX4_takeSign 133 = .ok (.aload_n 0, 1) := dX4_takeSign_122_b.2.2.2.2.2
set_option maxRecDepth 20000 in
theorem dX4_takeSign_134_b : (decode cX4_takeSign 134 = .ok (.iconst 4, 1)) ∧ (decode cX4_takeSign 135 = .ok (.putfield 25, 3)) ∧ (decode cX4_takeSign 138 = .ok (.return_, 1)) := by decide +kernel
theorem dX4_takeSign_134 : decode cX4_takeSign 134 = .ok (.iconst 4, 1) := dX4_takeSign_134_b.1
theorem dX4_takeSign_135 : decode cX4_takeSign 135 = .ok (.putfield 25, 3) := dX4_takeSign_134_b.2.1
theorem dX4_takeSign_138 : decode cX4_takeSign 138 = .ok (.return_, 1) := dX4_takeSign_134_b.2.2
set_option maxRecDepth 20000 in
theorem dX5_clear_0_b : (decode cX5_clear 0 = .ok (.aload_n 0, 1)) ∧ (decode cX5_clear 1 = .ok (.iconst 0, 1)) ∧ (decode cX5_clear 2 = .ok (.putfield 24, 3)) ∧ (decode cX5_clear 5 = .ok (.aload_n 0, 1)) ∧ (decode cX5_clear 6 = .ok (.iconst 0, 1)) ∧ (decode cX5_clear 7 = .ok (.putfield 28, 3)) := by decide +kernel
theorem dX5_clear_0 : decode cX5_clear 0 = .ok (.aload_n 0, 1) := dX5_clear_0_b.1
theorem dX5_clear_1 : decode cX5_clear 1 = .ok (.iconst 0, 1) := dX5_clear_0_b.2.1
theorem dX5_clear_2 : decode cX5_clear 2 = .ok (.putfield 24, 3) := dX5_clear_0_b.2.2.1
theorem dX5_clear_5 : decode cX5_clear 5 = .ok (.aload_n 0, 1) := dX5_clear_0_b.2.2.2.1
theorem dX5_clear_6 : decode cX5_clear 6 = .ok (.iconst 0, 1) := dX5_clear_0_b.2.2.2.2.1
theorem dX5_clear_7 : decode cX5_clear 7 = .ok (.putfield 28, 3) := dX5_clear_0_b.2.2.2.2.2
theorem dX5_clear_10 : decode cX5_clear 10 = .ok (.return_, 1) := by decide +kernel
set_option maxRecDepth 20000 in
theorem dX5_addNumber_0_b : (decode cX5_addNumber 0 = .ok (.aload_n 0, 1)) ∧ (decode cX5_addNumber 1 = .ok (.iload_n 1, 1)) ∧ (decode cX5_addNumber 2 = .ok (.invokevirtual 31, 3)) ∧ (decode cX5_addNumber 5 = .ok (.return_, 1)) := by decide +kernel
theorem dX5_addNumber_0 : decode cX5_addNumber 0 = .ok (.aload_n 0, 1) := dX5_addNumber_0_b.1
theorem dX5_addNumber_1 : decode cX5_addNumber 1 = .ok (.iload_n 1, 1) := dX5_addNumber_0_b.2.1
theorem dX5_addNumber_2 : decode cX5_addNumber 2 = .ok (.invokevirtual 31, 3) := dX5_addNumber_0_b.2.2.1
theorem dX5_addNumber_5 : decode cX5_addNumber 5 = .ok (.return_, 1) := dX5_addNumber_0_b.2.2.2
set_option maxRecDepth 20000 in
theorem dX5_addValue_0_b : (decode cX5_addValue 0 = .ok (.aload_n 0, 1)) ∧ (decode cX5_addValue 1 = .ok (.iconst (-1), 1)) ∧ (decode cX5_addValue 2 = .ok (.iload_n 1, 1)) ∧ (decode cX5_addValue 3 = .ok (.isub, 1)) ∧ (decode cX5_addValue 4 = .ok (.invokevirtual 31, 3)) ∧ (decode cX5_addValue 7 = .ok (.return_, 1)) := by decide +kernel
theorem dX5_addValue_0 : decode cX5_addValue 0 = .ok (.aload_n 0, 1) := dX5_addValue_0_b.1
theorem dX5_addValue_1 : decode cX5_addValue 1 = .ok (.iconst (-1), 1) := dX5_addValue_0_b.2.1
theorem dX5_addValue_2 : decode cX5_addValue 2 = .ok (.iload_n 1, 1) := dX5_addValue_0_b.2.2.1
theorem dX5_addValue_3 : decode cX5_addValue 3 = .ok (.isub, 1) := dX5_addValue_0_b.2.2.2.1
theorem dX5_addValue_4 : decode cX5_addValue 4 = .ok (.invokevirtual 31, 3) := dX5_addValue_0_b.2.2.2.2.1
theorem dX5_addValue_7 : decode cX5_addValue 7 = .ok (.return_, 1) := dX5_addValue_0_b.2.2.2.2.2
set_option maxRecDepth 20000 in
theorem dX5_addOperator_0_b : (decode cX5_addOperator 0 = .ok (.aload_n 0, 1)) ∧ (decode cX5_addOperator 1 = .ok (.iload_n 1, 1)) ∧ (decode cX5_addOperator 2 = .ok (.ineg, 1)) ∧ (decode cX5_addOperator 3 = .ok (.invokevirtual 31, 3)) ∧ (decode cX5_addOperator 6 = .ok (.return_, 1)) := by decide +kernel
theorem dX5_addOperator_0 : decode cX5_addOperator 0 = .ok (.aload_n 0, 1) := dX5_addOperator_0_b.1
theorem dX5_addOperator_1 : decode cX5_addOperator 1 = .ok (.iload_n 1, 1) := dX5_addOperator_0_b.2.1
theorem dX5_addOperator_2 : decode cX5_addOperator 2 = .ok (.ineg, 1) := dX5_addOperator_0_b.2.2.1
theorem dX5_addOperator_3 : decode cX5_addOperator 3 = .ok (.invokevirtual 31, 3) := dX5_addOperator_0_b.2.2.2.1
theorem dX5_addOperator_6 : decode cX5_addOperator 6 = .ok (.return_, 1) := dX5_addOperator_0_b.2.2.2.2
set_option maxRecDepth 20000 in
theorem dX5_add_0_b : (decode cX5_add 0 = .ok (.aload_n 0, 1)) ∧ (decode cX5_add 1 = .ok (.getfield 24, 3)) ∧ (decode cX5_add 4 = .ok (.aload_n 0, 1)) ∧ (decode cX5_add 5 = .ok (.getfield 9, 3)) ∧ (decode cX5_add 8 = .ok (.arraylength, 1)) ∧ (decode cX5_add 9 = .ok (.if_icmp .ge 23, 3)) := by decide +kernel
theorem dX5_add_0 : decode cX5_add 0 = .ok (.aload_n 0, 1) := dX5_add_0_b.1
theorem dX5_add_1 : decode cX5_add 1 = .ok (.getfield 24, 3) := dX5_add_0_b.2.1
theorem dX5_add_4 : decode cX5_add 4 = .ok (.aload_n 0, 1) := dX5_add_0_b.2.2.1
theorem dX5_add_5 : decode cX5_add 5 = .ok (.getfield 9, 3) := dX5_add_0_b.2.2.2.1
theorem dX5_add_8 : decode cX5_add 8 = .ok (.arraylength, 1) := dX5_add_0_b.2.2.2.2.1
theorem dX5_add_9 : decode cX5_add 9 = .ok (.if_icmp .ge 23, 3) := dX5_add_0_b.2.2.2.2.2
set_option maxRecDepth 20000 in
theorem dX5_add_12_b : (decode cX5_add 12 = .ok (.aload_n 0, 1)) ∧ (decode cX5_add 13 = .ok (.getfield 9, 3)) ∧ (decode cX5_add 16 = .ok (.aload_n 0, 1)) ∧ (decode cX5_add 17 = .ok (.getfield 24, 3)) ∧ (decode cX5_add 20 = .ok (.iload_n 1, 1)) ∧ (decode cX5_add 21 = .ok (.iastore, 1)) := by decide +kernel
theorem dX5_add_12 : decode cX5_add 12 = .ok (.aload_n 0, 1) := dX5_add_12_b.1
theorem dX5_add_13 : decode cX5_add 13 = .ok (.getfield 9, 3) := dX5_add_12_b.2.1
theorem dX5_add_16 : decode cX5_add 16 = .ok (.aload_n 0, 1) := dX5_add_12_b.2.2.1
theorem dX5_add_17 : decode cX5_add 17 = .ok (.getfield 24, 3) := dX5_add_12_b.2.2.2.1
theorem dX5_add_20 : decode cX5_add 20 = .ok (.iload_n 1, 1) := dX5_add_12_b.2.2.2.2.1
theorem dX5_add_21 : decode cX5_add 21 = .ok (.iastore, 1) := dX5_add_12_b.2.2.2.2.2
set_option maxRecDepth 20000 in
theorem dX5_add_22_b : (decode cX5_add 22 = .ok (.aload_n 0, 1)) ∧ (decode cX5_add 23 = .ok (.dup, 1)) ∧ (decode cX5_add 24 = .ok (.getfield 24, 3)) ∧ (decode cX5_add 27 = .ok (.iconst 1, 1)) ∧ (decode cX5_add 28 = .ok (.iadd, 1)) ∧ (decode cX5_add 29 = .ok (.putfield 24, 3)) := by decide +kernel
theorem dX5_add_22 : decode cX5_add 22 = .ok (.aload_n 0, 1) := dX5_add_22_b.1
theorem dX5_add_23 : decode cX5_add 23 = .ok (.dup, 1) := dX5_add_22_b.2.1
theorem dX5_add_24 : decode cX5_add 24 = .ok (.getfield 24, 3) := dX5_add_22_b.2.2.1
theorem dX5_add_27 : decode cX5_add 27 = .ok (.iconst 1, 1) := dX5_add_22_b.2.2.2.1
theorem dX5_add_28 : decode cX5_add 28 = .ok (.iadd, 1) := dX5_add_22_b.2.2.2.2.1
theorem dX5_add_29 : decode cX5_add 29 = .ok (.putfield 24, 3) := dX5_add_22_b.2.2.2.2.2
theorem dX5_add_32 : decode cX5_add 32 = .ok (.return_, 1) := by decide +kernel
set_option maxRecDepth 20000 in
theorem dX5_endRule_0_b : (decode cX5_endRule 0 = .ok (.aload_n 0, 1)) ∧ (decode cX5_endRule 1 = .ok (.getfield 28, 3)) ∧ (decode cX5_endRule 4 = .ok (.aload_n 0, 1)) ∧ (decode cX5_endRule 5 = .ok (.getfield 15, 3)) ∧ (decode cX5_endRule 8 = .ok (.arraylength, 1)) ∧ (decode cX5_endRule 9 = .ok (.if_icmp .ge 26, 3)) := by decide +kernel
theorem dX5_endRule_0 : decode cX5_endRule 0 = .ok (.aload_n 0, 1) := dX5_endRule_0_b.1
theorem dX5_endRule_1 : decode cX5_endRule 1 = .ok (.getfield 28, 3) := dX5_endRule_0_b.2.1
theorem dX5_endRule_4 : decode cX5_endRule 4 = .ok (.aload_n 0, 1) := dX5_endRule_0_b.2.2.1
theorem dX5_endRule_5 : decode cX5_endRule 5 = .ok (.getfield 15, 3) := dX5_endRule_0_b.2.2.2.1
theorem dX5_endRule_8 : decode cX5_endRule 8 = .ok (.arraylength, 1) := dX5_endRule_0_b.2.2.2.2.1
theorem dX5_endRule_9 : decode cX5_endRule 9 = .ok (.if_icmp .ge 26, 3) := dX5_endRule_0_b.2.2.2.2.2
set_option maxRecDepth 20000 in
theorem dX5_endRule_12_b : (decode cX5_endRule 12 = .ok (.aload_n 0, 1)) ∧ (decode cX5_endRule 13 = .ok (.getfield 15, 3)) ∧ (decode cX5_endRule 16 = .ok (.aload_n 0, 1)) ∧ (decode cX5_endRule 17 = .ok (.getfield 28, 3)) ∧ (decode cX5_endRule 20 = .ok (.aload_n 0, 1)) ∧ (decode cX5_endRule 21 = .ok (.getfield 24, 3)) := by decide +kernel
theorem dX5_endRule_12 : decode cX5_endRule 12 = .ok (.aload_n 0, 1) := dX5_endRule_12_b.1
theorem dX5_endRule_13 : decode cX5_endRule 13 = .ok (.getfield 15, 3) := dX5_endRule_12_b.2.1
theorem dX5_endRule_16 : decode cX5_endRule 16 = .ok (.aload_n 0, 1) := dX5_endRule_12_b.2.2.1
theorem dX5_endRule_17 : decode cX5_endRule 17 = .ok (.getfield 28, 3) := dX5_endRule_12_b.2.2.2.1
theorem dX5_endRule_20 : decode cX5_endRule 20 = .ok (.aload_n 0, 1) := dX5_endRule_12_b.2.2.2.2.1
theorem dX5_endRule_21 : decode cX5_endRule 21 = .ok (.getfield 24, 3) := dX5_endRule_12_b.2.2.2.2.2
set_option maxRecDepth 20000 in
theorem dX5_endRule_24_b : (decode cX5_endRule 24 = .ok (.iastore, 1)) ∧ (decode cX5_endRule 25 = .ok (.aload_n 0, 1)) ∧ (decode cX5_endRule 26 = .ok (.dup, 1)) ∧ (decode cX5_endRule 27 = .ok (.getfield 28, 3)) ∧ (decode cX5_endRule 30 = .ok (.iconst 1, 1)) ∧ (decode cX5_endRule 31 = .ok (.iadd, 1)) := by decide +kernel
theorem dX5_endRule_24 : decode cX5_endRule 24 = .ok (.iastore, 1) := dX5_endRule_24_b.1
theorem dX5_endRule_25 : decode cX5_endRule 25 = .ok (.aload_n 0, 1) := dX5_endRule_24_b.2.1
theorem dX5_endRule_26 : decode cX5_endRule 26 = .ok (.dup, 1) := dX5_endRule_24_b.2.2.1
theorem dX5_endRule_27 : decode cX5_endRule 27 = .ok (.getfield 28, 3) := dX5_endRule_24_b.2.2.2.1
theorem dX5_endRule_30 : decode cX5_endRule 30 = .ok (.iconst 1, 1) := dX5_endRule_24_b.2.2.2.2.1
theorem dX5_endRule_31 : decode cX5_endRule 31 = .ok (.iadd, 1) := dX5_endRule_24_b.2.2.2.2.2
set_option maxRecDepth 20000 in
theorem dX5_endRule_32_b : (decode cX5_endRule 32 = .ok (.putfield 28, 3)) ∧ (decode cX5_endRule 35 = .ok (.return_, 1)) := by decide +kernel
theorem dX5_endRule_32 : decode cX5_endRule 32 = .ok (.putfield 28, 3) := dX5_endRule_32_b.1
theorem dX5_endRule_35 : decode cX5_endRule 35 = .ok (.return_, 1) := dX5_endRule_32_b.2
set_option maxRecDepth 20000 in
theorem dX5_worth_0_b : (decode cX5_worth 0 = .ok (.iload_n 1, 1)) ∧ (decode cX5_worth 1 = .ok (.ifCond .ne 7, 3)) ∧ (decode cX5_worth 4 = .ok (.iconst 0, 1)) ∧ (decode cX5_worth 5 = .ok (.goto 11, 3)) ∧ (decode cX5_worth 8 = .ok (.aload_n 0, 1)) ∧ (decode cX5_worth 9 = .ok (.getfield 15, 3)) := by decide +kernel
theorem dX5_worth_0 : decode cX5_worth 0 = .ok (.iload_n 1, 1) := dX5_worth_0_b.1
theorem dX5_worth_1 : decode cX5_worth 1 = .ok (.ifCond .ne 7, 3) := dX5_worth_0_b.2.1
theorem dX5_worth_4 : decode cX5_worth 4 = .ok (.iconst 0, 1) := dX5_worth_0_b.2.2.1
theorem dX5_worth_5 : decode cX5_worth 5 = .ok (.goto 11, 3) := dX5_worth_0_b.2.2.2.1
theorem dX5_worth_8 : decode cX5_worth 8 = .ok (.aload_n 0, 1) := dX5_worth_0_b.2.2.2.2.1
theorem dX5_worth_9 : decode cX5_worth 9 = .ok (.getfield 15, 3) := dX5_worth_0_b.2.2.2.2.2
set_option maxRecDepth 20000 in
theorem dX5_worth_12_b : (decode cX5_worth 12 = .ok (.iload_n 1, 1)) ∧ (decode cX5_worth 13 = .ok (.iconst 1, 1)) ∧ (decode cX5_worth 14 = .ok (.isub, 1)) ∧ (decode cX5_worth 15 = .ok (.iaload, 1)) ∧ (decode cX5_worth 16 = .ok (.istore_n 3, 1)) ∧ (decode cX5_worth 17 = .ok (.iconst 0, 1)) := by decide +kernel
theorem dX5_worth_12 : decode cX5_worth 12 = .ok (.iload_n 1, 1) := dX5_worth_12_b.1
theorem dX5_worth_13 : decode cX5_worth 13 = .ok (.iconst 1, 1) := dX5_worth_12_b.2.1
theorem dX5_worth_14 : decode cX5_worth 14 = .ok (.isub, 1) := dX5_worth_12_b.2.2.1
theorem dX5_worth_15 : decode cX5_worth 15 = .ok (.iaload, 1) := dX5_worth_12_b.2.2.2.1
theorem dX5_worth_16 : decode cX5_worth 16 = .ok (.istore_n 3, 1) := dX5_worth_12_b.2.2.2.2.1
theorem dX5_worth_17 : decode cX5_worth 17 = .ok (.iconst 0, 1) := dX5_worth_12_b.2.2.2.2.2
set_option maxRecDepth 20000 in
theorem dX5_worth_18_b : (decode cX5_worth 18 = .ok (.istore 4, 2)) ∧ (decode cX5_worth 20 = .ok (.iload_n 3, 1)) ∧ (decode cX5_worth 21 = .ok (.istore 5, 2)) ∧ (decode cX5_worth 23 = .ok (.iload 5, 2)) ∧ (decode cX5_worth 25 = .ok (.aload_n 0, 1)) ∧ (decode cX5_worth 26 = .ok (.getfield 15, 3)) := by decide +kernel
theorem dX5_worth_18 : decode cX5_worth 18 = .ok (.istore 4, 2) := dX5_worth_18_b.1
theorem dX5_worth_20 : decode cX5_worth 20 = .ok (.iload_n 3, 1) := dX5_worth_18_b.2.1
theorem dX5_worth_21 : decode cX5_worth 21 = .ok (.istore 5, 2) := dX5_worth_18_b.2.2.1
theorem dX5_worth_23 : decode cX5_worth 23 = .ok (.iload 5, 2) := dX5_worth_18_b.2.2.2.1
theorem dX5_worth_25 : decode cX5_worth 25 = .ok (.aload_n 0, 1) := dX5_worth_18_b.2.2.2.2.1
theorem dX5_worth_26 : decode cX5_worth 26 = .ok (.getfield 15, 3) := dX5_worth_18_b.2.2.2.2.2
set_option maxRecDepth 20000 in
theorem dX5_worth_29_b : (decode cX5_worth 29 = .ok (.iload_n 1, 1)) ∧ (decode cX5_worth 30 = .ok (.iaload, 1)) ∧ (decode cX5_worth 31 = .ok (.if_icmp .ge 145, 3)) ∧ (decode cX5_worth 34 = .ok (.aload_n 0, 1)) ∧ (decode cX5_worth 35 = .ok (.getfield 9, 3)) ∧ (decode cX5_worth 38 = .ok (.iload 5, 2)) := by decide +kernel
theorem dX5_worth_29 : decode cX5_worth 29 = .ok (.iload_n 1, 1) := dX5_worth_29_b.1
theorem dX5_worth_30 : decode cX5_worth 30 = .ok (.iaload, 1) := dX5_worth_29_b.2.1
theorem dX5_worth_31 : decode cX5_worth 31 = .ok (.if_icmp .ge 145, 3) := dX5_worth_29_b.2.2.1
theorem dX5_worth_34 : decode cX5_worth 34 = .ok (.aload_n 0, 1) := dX5_worth_29_b.2.2.2.1
theorem dX5_worth_35 : decode cX5_worth 35 = .ok (.getfield 9, 3) := dX5_worth_29_b.2.2.2.2.1
theorem dX5_worth_38 : decode cX5_worth 38 = .ok (.iload 5, 2) := dX5_worth_29_b.2.2.2.2.2
set_option maxRecDepth 20000 in
theorem dX5_worth_40_b : (decode cX5_worth 40 = .ok (.iaload, 1)) ∧ (decode cX5_worth 41 = .ok (.istore 6, 2)) ∧ (decode cX5_worth 43 = .ok (.iload 6, 2)) ∧ (decode cX5_worth 45 = .ok (.bipush (-7), 2)) ∧ (decode cX5_worth 47 = .ok (.if_icmp .lt 42, 3)) ∧ (decode cX5_worth 50 = .ok (.iload 4, 2)) := by decide +kernel
theorem dX5_worth_40 : decode cX5_worth 40 = .ok (.iaload, 1) := dX5_worth_40_b.1
theorem dX5_worth_41 : decode cX5_worth 41 = .ok (.istore 6, 2) := dX5_worth_40_b.2.1
theorem dX5_worth_43 : decode cX5_worth 43 = .ok (.iload 6, 2) := dX5_worth_40_b.2.2.1
theorem dX5_worth_45 : decode cX5_worth 45 = .ok (.bipush (-7), 2) := dX5_worth_40_b.2.2.2.1
theorem dX5_worth_47 : decode cX5_worth 47 = .ok (.if_icmp .lt 42, 3) := dX5_worth_40_b.2.2.2.2.1
theorem dX5_worth_50 : decode cX5_worth 50 = .ok (.iload 4, 2) := dX5_worth_40_b.2.2.2.2.2
set_option maxRecDepth 20000 in
theorem dX5_worth_52_b : (decode cX5_worth 52 = .ok (.aload_n 0, 1)) ∧ (decode cX5_worth 53 = .ok (.getfield 18, 3)) ∧ (decode cX5_worth 56 = .ok (.arraylength, 1)) ∧ (decode cX5_worth 57 = .ok (.if_icmp .ge 113, 3)) ∧ (decode cX5_worth 60 = .ok (.aload_n 0, 1)) ∧ (decode cX5_worth 61 = .ok (.getfield 18, 3)) := by decide +kernel
theorem dX5_worth_52 : decode cX5_worth 52 = .ok (.aload_n 0, 1) := dX5_worth_52_b.1
theorem dX5_worth_53 : decode cX5_worth 53 = .ok (.getfield 18, 3) := dX5_worth_52_b.2.1
theorem dX5_worth_56 : decode cX5_worth 56 = .ok (.arraylength, 1) := dX5_worth_52_b.2.2.1
theorem dX5_worth_57 : decode cX5_worth 57 = .ok (.if_icmp .ge 113, 3) := dX5_worth_52_b.2.2.2.1
theorem dX5_worth_60 : decode cX5_worth 60 = .ok (.aload_n 0, 1) := dX5_worth_52_b.2.2.2.2.1
theorem dX5_worth_61 : decode cX5_worth 61 = .ok (.getfield 18, 3) := dX5_worth_52_b.2.2.2.2.2
set_option maxRecDepth 20000 in
theorem dX5_worth_64_b : (decode cX5_worth 64 = .ok (.iload 4, 2)) ∧ (decode cX5_worth 66 = .ok (.iload 6, 2)) ∧ (decode cX5_worth 68 = .ok (.ifCond .lt 8, 3)) ∧ (decode cX5_worth 71 = .ok (.iload 6, 2)) ∧ (decode cX5_worth 73 = .ok (.goto 9, 3)) ∧ (decode cX5_worth 76 = .ok (.aload_n 2, 1)) := by decide +kernel
theorem dX5_worth_64 : decode cX5_worth 64 = .ok (.iload 4, 2) := dX5_worth_64_b.1
theorem dX5_worth_66 : decode cX5_worth 66 = .ok (.iload 6, 2) := dX5_worth_64_b.2.1
theorem dX5_worth_68 : decode cX5_worth 68 = .ok (.ifCond .lt 8, 3) := dX5_worth_64_b.2.2.1
theorem dX5_worth_71 : decode cX5_worth 71 = .ok (.iload 6, 2) := dX5_worth_64_b.2.2.2.1
theorem dX5_worth_73 : decode cX5_worth 73 = .ok (.goto 9, 3) := dX5_worth_64_b.2.2.2.2.1
theorem dX5_worth_76 : decode cX5_worth 76 = .ok (.aload_n 2, 1) := dX5_worth_64_b.2.2.2.2.2
set_option maxRecDepth 20000 in
theorem dX5_worth_77_b : (decode cX5_worth 77 = .ok (.iconst (-1), 1)) ∧ (decode cX5_worth 78 = .ok (.iload 6, 2)) ∧ (decode cX5_worth 80 = .ok (.isub, 1)) ∧ (decode cX5_worth 81 = .ok (.iaload, 1)) ∧ (decode cX5_worth 82 = .ok (.iastore, 1)) ∧ (decode cX5_worth 83 = .ok (.iinc 4 1, 3)) := by decide +kernel
theorem dX5_worth_77 : decode cX5_worth 77 = .ok (.iconst (-1), 1) := dX5_worth_77_b.1
theorem dX5_worth_78 : decode cX5_worth 78 = .ok (.iload 6, 2) := dX5_worth_77_b.2.1
theorem dX5_worth_80 : decode cX5_worth 80 = .ok (.isub, 1) := dX5_worth_77_b.2.2.1
theorem dX5_worth_81 : decode cX5_worth 81 = .ok (.iaload, 1) := dX5_worth_77_b.2.2.2.1
theorem dX5_worth_82 : decode cX5_worth 82 = .ok (.iastore, 1) := dX5_worth_77_b.2.2.2.2.1
theorem dX5_worth_83 : decode cX5_worth 83 = .ok (.iinc 4 1, 3) := dX5_worth_77_b.2.2.2.2.2
set_option maxRecDepth 20000 in
theorem dX5_worth_86_b : (decode cX5_worth 86 = .ok (.goto 84, 3)) ∧ (decode cX5_worth 89 = .ok (.iload 6, 2)) ∧ (decode cX5_worth 91 = .ok (.bipush (-33), 2)) ∧ (decode cX5_worth 93 = .ok (.if_icmp .ne 37, 3)) ∧ (decode cX5_worth 96 = .ok (.iload 4, 2)) ∧ (decode cX5_worth 98 = .ok (.ifCond .le 72, 3)) := by decide +kernel
theorem dX5_worth_86 : decode cX5_worth 86 = .ok (.goto 84, 3) := dX5_worth_86_b.1
theorem dX5_worth_89 : decode cX5_worth 89 = .ok (.iload 6, 2) := dX5_worth_86_b.2.1
theorem dX5_worth_91 : decode cX5_worth 91 = .ok (.bipush (-33), 2) := dX5_worth_86_b.2.2.1
theorem dX5_worth_93 : decode cX5_worth 93 = .ok (.if_icmp .ne 37, 3) := dX5_worth_86_b.2.2.2.1
theorem dX5_worth_96 : decode cX5_worth 96 = .ok (.iload 4, 2) := dX5_worth_86_b.2.2.2.2.1
theorem dX5_worth_98 : decode cX5_worth 98 = .ok (.ifCond .le 72, 3) := dX5_worth_86_b.2.2.2.2.2
set_option maxRecDepth 20000 in
theorem dX5_worth_101_b : (decode cX5_worth 101 = .ok (.aload_n 0, 1)) ∧ (decode cX5_worth 102 = .ok (.getfield 18, 3)) ∧ (decode cX5_worth 105 = .ok (.iload 4, 2)) ∧ (decode cX5_worth 107 = .ok (.iconst 1, 1)) ∧ (decode cX5_worth 108 = .ok (.isub, 1)) ∧ (decode cX5_worth 109 = .ok (.aload_n 0, 1)) := by decide +kernel
theorem dX5_worth_101 : decode cX5_worth 101 = .ok (.aload_n 0, 1) := dX5_worth_101_b.1
theorem dX5_worth_102 : decode cX5_worth 102 = .ok (.getfield 18, 3) := dX5_worth_101_b.2.1
theorem dX5_worth_105 : decode cX5_worth 105 = .ok (.iload 4, 2) := dX5_worth_101_b.2.2.1
theorem dX5_worth_107 : decode cX5_worth 107 = .ok (.iconst 1, 1) := dX5_worth_101_b.2.2.2.1
theorem dX5_worth_108 : decode cX5_worth 108 = .ok (.isub, 1) := dX5_worth_101_b.2.2.2.2.1
theorem dX5_worth_109 : decode cX5_worth 109 = .ok (.aload_n 0, 1) := dX5_worth_101_b.2.2.2.2.2
set_option maxRecDepth 20000 in
theorem dX5_worth_110_b : (decode cX5_worth 110 = .ok (.getfield 18, 3)) ∧ (decode cX5_worth 113 = .ok (.iload 4, 2)) ∧ (decode cX5_worth 115 = .ok (.iconst 1, 1)) ∧ (decode cX5_worth 116 = .ok (.isub, 1)) ∧ (decode cX5_worth 117 = .ok (.iaload, 1)) ∧ (decode cX5_worth 118 = .ok (.ifCond .ne 7, 3)) := by decide +kernel
theorem dX5_worth_110 : decode cX5_worth 110 = .ok (.getfield 18, 3) := dX5_worth_110_b.1
theorem dX5_worth_113 : decode cX5_worth 113 = .ok (.iload 4, 2) := dX5_worth_110_b.2.1
theorem dX5_worth_115 : decode cX5_worth 115 = .ok (.iconst 1, 1) := dX5_worth_110_b.2.2.1
theorem dX5_worth_116 : decode cX5_worth 116 = .ok (.isub, 1) := dX5_worth_110_b.2.2.2.1
theorem dX5_worth_117 : decode cX5_worth 117 = .ok (.iaload, 1) := dX5_worth_110_b.2.2.2.2.1
theorem dX5_worth_118 : decode cX5_worth 118 = .ok (.ifCond .ne 7, 3) := dX5_worth_110_b.2.2.2.2.2
set_option maxRecDepth 20000 in
theorem dX5_worth_121_b : (decode cX5_worth 121 = .ok (.iconst 1, 1)) ∧ (decode cX5_worth 122 = .ok (.goto 4, 3)) ∧ (decode cX5_worth 125 = .ok (.iconst 0, 1)) ∧ (decode cX5_worth 126 = .ok (.iastore, 1)) ∧ (decode cX5_worth 127 = .ok (.goto 43, 3)) ∧ (decode cX5_worth 130 = .ok (.iload 4, 2)) := by decide +kernel
theorem dX5_worth_121 : decode cX5_worth 121 = .ok (.iconst 1, 1) := dX5_worth_121_b.1
theorem dX5_worth_122 : decode cX5_worth 122 = .ok (.goto 4, 3) := dX5_worth_121_b.2.1
theorem dX5_worth_125 : decode cX5_worth 125 = .ok (.iconst 0, 1) := dX5_worth_121_b.2.2.1
theorem dX5_worth_126 : decode cX5_worth 126 = .ok (.iastore, 1) := dX5_worth_121_b.2.2.2.1
theorem dX5_worth_127 : decode cX5_worth 127 = .ok (.goto 43, 3) := dX5_worth_121_b.2.2.2.2.1
theorem dX5_worth_130 : decode cX5_worth 130 = .ok (.iload 4, 2) := dX5_worth_121_b.2.2.2.2.2
set_option maxRecDepth 20000 in
theorem dX5_worth_132_b : (decode cX5_worth 132 = .ok (.iconst 1, 1)) ∧ (decode cX5_worth 133 = .ok (.if_icmp .le 37, 3)) ∧ (decode cX5_worth 136 = .ok (.iinc 4 (-1), 3)) ∧ (decode cX5_worth 139 = .ok (.aload_n 0, 1)) ∧ (decode cX5_worth 140 = .ok (.getfield 18, 3)) ∧ (decode cX5_worth 143 = .ok (.iload 4, 2)) := by decide +kernel
theorem dX5_worth_132 : decode cX5_worth 132 = .ok (.iconst 1, 1) := dX5_worth_132_b.1
theorem dX5_worth_133 : decode cX5_worth 133 = .ok (.if_icmp .le 37, 3) := dX5_worth_132_b.2.1
theorem dX5_worth_136 : decode cX5_worth 136 = .ok (.iinc 4 (-1), 3) := dX5_worth_132_b.2.2.1
theorem dX5_worth_139 : decode cX5_worth 139 = .ok (.aload_n 0, 1) := dX5_worth_132_b.2.2.2.1
theorem dX5_worth_140 : decode cX5_worth 140 = .ok (.getfield 18, 3) := dX5_worth_132_b.2.2.2.2.1
theorem dX5_worth_143 : decode cX5_worth 143 = .ok (.iload 4, 2) := dX5_worth_132_b.2.2.2.2.2
set_option maxRecDepth 20000 in
theorem dX5_worth_145_b : (decode cX5_worth 145 = .ok (.iconst 1, 1)) ∧ (decode cX5_worth 146 = .ok (.isub, 1)) ∧ (decode cX5_worth 147 = .ok (.iload 6, 2)) ∧ (decode cX5_worth 149 = .ok (.ineg, 1)) ∧ (decode cX5_worth 150 = .ok (.aload_n 0, 1)) ∧ (decode cX5_worth 151 = .ok (.getfield 18, 3)) := by decide +kernel
theorem dX5_worth_145 : decode cX5_worth 145 = .ok (.iconst 1, 1) := dX5_worth_145_b.1
theorem dX5_worth_146 : decode cX5_worth 146 = .ok (.isub, 1) := dX5_worth_145_b.2.1
theorem dX5_worth_147 : decode cX5_worth 147 = .ok (.iload 6, 2) := dX5_worth_145_b.2.2.1
theorem dX5_worth_149 : decode cX5_worth 149 = .ok (.ineg, 1) := dX5_worth_145_b.2.2.2.1
theorem dX5_worth_150 : decode cX5_worth 150 = .ok (.aload_n 0, 1) := dX5_worth_145_b.2.2.2.2.1
theorem dX5_worth_151 : decode cX5_worth 151 = .ok (.getfield 18, 3) := dX5_worth_145_b.2.2.2.2.2
set_option maxRecDepth 20000 in
theorem dX5_worth_154_b : (decode cX5_worth 154 = .ok (.iload 4, 2)) ∧ (decode cX5_worth 156 = .ok (.iconst 1, 1)) ∧ (decode cX5_worth 157 = .ok (.isub, 1)) ∧ (decode cX5_worth 158 = .ok (.iaload, 1)) ∧ (decode cX5_worth 159 = .ok (.aload_n 0, 1)) ∧ (decode cX5_worth 160 = .ok (.getfield 18, 3)) := by decide +kernel
theorem dX5_worth_154 : decode cX5_worth 154 = .ok (.iload 4, 2) := dX5_worth_154_b.1
theorem dX5_worth_156 : decode cX5_worth 156 = .ok (.iconst 1, 1) := dX5_worth_154_b.2.1
theorem dX5_worth_157 : decode cX5_worth 157 = .ok (.isub, 1) := dX5_worth_154_b.2.2.1
theorem dX5_worth_158 : decode cX5_worth 158 = .ok (.iaload, 1) := dX5_worth_154_b.2.2.2.1
theorem dX5_worth_159 : decode cX5_worth 159 = .ok (.aload_n 0, 1) := dX5_worth_154_b.2.2.2.2.1
theorem dX5_worth_160 : decode cX5_worth 160 = .ok (.getfield 18, 3) := dX5_worth_154_b.2.2.2.2.2
set_option maxRecDepth 20000 in
theorem dX5_worth_163_b : (decode cX5_worth 163 = .ok (.iload 4, 2)) ∧ (decode cX5_worth 165 = .ok (.iaload, 1)) ∧ (decode cX5_worth 166 = .ok (.invokestatic 35, 3)) ∧ (decode cX5_worth 169 = .ok (.iastore, 1)) ∧ (decode cX5_worth 170 = .ok (.iinc 5 1, 3)) ∧ (decode cX5_worth 173 = .ok (.goto (-150), 3)) := by decide +kernel
theorem dX5_worth_163 : decode cX5_worth 163 = .ok (.iload 4, 2) := dX5_worth_163_b.1
theorem dX5_worth_165 : decode cX5_worth 165 = .ok (.iaload, 1) := dX5_worth_163_b.2.1
theorem dX5_worth_166 : decode cX5_worth 166 = .ok (.invokestatic 35, 3) := dX5_worth_163_b.2.2.1
theorem dX5_worth_169 : decode cX5_worth 169 = .ok (.iastore, 1) := dX5_worth_163_b.2.2.2.1
theorem dX5_worth_170 : decode cX5_worth 170 = .ok (.iinc 5 1, 3) := dX5_worth_163_b.2.2.2.2.1
theorem dX5_worth_173 : decode cX5_worth 173 = .ok (.goto (-150), 3) := dX5_worth_163_b.2.2.2.2.2
set_option maxRecDepth 20000 in
theorem dX5_worth_176_b : (decode cX5_worth 176 = .ok (.iload 4, 2)) ∧ (decode cX5_worth 178 = .ok (.ifCond .le 15, 3)) ∧ (decode cX5_worth 181 = .ok (.aload_n 0, 1)) ∧ (decode cX5_worth 182 = .ok (.getfield 18, 3)) ∧ (decode cX5_worth 185 = .ok (.iload 4, 2)) ∧ (decode cX5_worth 187 = .ok (.iconst 1, 1)) := by decide +kernel
theorem dX5_worth_176 : decode cX5_worth 176 = .ok (.iload 4, 2) := dX5_worth_176_b.1
theorem dX5_worth_178 : decode cX5_worth 178 = .ok (.ifCond .le 15, 3) := dX5_worth_176_b.2.1
theorem dX5_worth_181 : decode cX5_worth 181 = .ok (.aload_n 0, 1) := dX5_worth_176_b.2.2.1
theorem dX5_worth_182 : decode cX5_worth 182 = .ok (.getfield 18, 3) := dX5_worth_176_b.2.2.2.1
theorem dX5_worth_185 : decode cX5_worth 185 = .ok (.iload 4, 2) := dX5_worth_176_b.2.2.2.2.1
theorem dX5_worth_187 : decode cX5_worth 187 = .ok (.iconst 1, 1) := dX5_worth_176_b.2.2.2.2.2
set_option maxRecDepth 20000 in
theorem dX5_worth_188_b : (decode cX5_worth 188 = .ok (.isub, 1)) ∧ (decode cX5_worth 189 = .ok (.iaload, 1)) ∧ (decode cX5_worth 190 = .ok (.goto 4, 3)) ∧ (decode cX5_worth 193 = .ok (.iconst 0, 1)) ∧ (decode cX5_worth 194 = .ok (.ireturn, 1)) := by decide +kernel
theorem dX5_worth_188 : decode cX5_worth 188 = .ok (.isub, 1) := dX5_worth_188_b.1
theorem dX5_worth_189 : decode cX5_worth 189 = .ok (.iaload, 1) := dX5_worth_188_b.2.1
theorem dX5_worth_190 : decode cX5_worth 190 = .ok (.goto 4, 3) := dX5_worth_188_b.2.2.1
theorem dX5_worth_193 : decode cX5_worth 193 = .ok (.iconst 0, 1) := dX5_worth_188_b.2.2.2.1
theorem dX5_worth_194 : decode cX5_worth 194 = .ok (.ireturn, 1) := dX5_worth_188_b.2.2.2.2
set_option maxRecDepth 20000 in
theorem dX5_joined_0_b : (decode cX5_joined 0 = .ok (.iload_n 0, 1)) ∧ (decode cX5_joined 1 = .ok (.tableswitch 171 38 61 #[157, 171, 171, 171, 119, 111, 171, 115, 171, 123, 171, 171, 171, 171, 171, 171, 171, 171, 171, 171, 171, 171, 135, 146], 111)) ∧ (decode cX5_joined 112 = .ok (.iload_n 1, 1)) ∧ (decode cX5_joined 113 = .ok (.iload_n 2, 1)) ∧ (decode cX5_joined 114 = .ok (.iadd, 1)) ∧ (decode cX5_joined 115 = .ok (.ireturn, 1)) := by decide +kernel
theorem dX5_joined_0 : decode cX5_joined 0 = .ok (.iload_n 0, 1) := dX5_joined_0_b.1
theorem dX5_joined_1 : decode cX5_joined 1 = .ok (.tableswitch 171 38 61 #[157, 171, 171, 171, 119, 111, 171, 115, 171, 123, 171, 171, 171, 171, 171, 171, 171, 171, 171, 171, 171, 171, 135, 146], 111) := dX5_joined_0_b.2.1
theorem dX5_joined_112 : decode cX5_joined 112 = .ok (.iload_n 1, 1) := dX5_joined_0_b.2.2.1
theorem dX5_joined_113 : decode cX5_joined 113 = .ok (.iload_n 2, 1) := dX5_joined_0_b.2.2.2.1
theorem dX5_joined_114 : decode cX5_joined 114 = .ok (.iadd, 1) := dX5_joined_0_b.2.2.2.2.1
theorem dX5_joined_115 : decode cX5_joined 115 = .ok (.ireturn, 1) := dX5_joined_0_b.2.2.2.2.2
set_option maxRecDepth 20000 in
theorem dX5_joined_116_b : (decode cX5_joined 116 = .ok (.iload_n 1, 1)) ∧ (decode cX5_joined 117 = .ok (.iload_n 2, 1)) ∧ (decode cX5_joined 118 = .ok (.isub, 1)) ∧ (decode cX5_joined 119 = .ok (.ireturn, 1)) ∧ (decode cX5_joined 120 = .ok (.iload_n 1, 1)) ∧ (decode cX5_joined 121 = .ok (.iload_n 2, 1)) := by decide +kernel
theorem dX5_joined_116 : decode cX5_joined 116 = .ok (.iload_n 1, 1) := dX5_joined_116_b.1
theorem dX5_joined_117 : decode cX5_joined 117 = .ok (.iload_n 2, 1) := dX5_joined_116_b.2.1
theorem dX5_joined_118 : decode cX5_joined 118 = .ok (.isub, 1) := dX5_joined_116_b.2.2.1
theorem dX5_joined_119 : decode cX5_joined 119 = .ok (.ireturn, 1) := dX5_joined_116_b.2.2.2.1
theorem dX5_joined_120 : decode cX5_joined 120 = .ok (.iload_n 1, 1) := dX5_joined_116_b.2.2.2.2.1
theorem dX5_joined_121 : decode cX5_joined 121 = .ok (.iload_n 2, 1) := dX5_joined_116_b.2.2.2.2.2
set_option maxRecDepth 20000 in
theorem dX5_joined_122_b : (decode cX5_joined 122 = .ok (.imul, 1)) ∧ (decode cX5_joined 123 = .ok (.ireturn, 1)) ∧ (decode cX5_joined 124 = .ok (.iload_n 2, 1)) ∧ (decode cX5_joined 125 = .ok (.ifCond .ne 7, 3)) ∧ (decode cX5_joined 128 = .ok (.iconst 0, 1)) ∧ (decode cX5_joined 129 = .ok (.goto 6, 3)) := by decide +kernel
theorem dX5_joined_122 : decode cX5_joined 122 = .ok (.imul, 1) := dX5_joined_122_b.1
theorem dX5_joined_123 : decode cX5_joined 123 = .ok (.ireturn, 1) := dX5_joined_122_b.2.1
theorem dX5_joined_124 : decode cX5_joined 124 = .ok (.iload_n 2, 1) := dX5_joined_122_b.2.2.1
theorem dX5_joined_125 : decode cX5_joined 125 = .ok (.ifCond .ne 7, 3) := dX5_joined_122_b.2.2.2.1
theorem dX5_joined_128 : decode cX5_joined 128 = .ok (.iconst 0, 1) := dX5_joined_122_b.2.2.2.2.1
theorem dX5_joined_129 : decode cX5_joined 129 = .ok (.goto 6, 3) := dX5_joined_122_b.2.2.2.2.2
set_option maxRecDepth 20000 in
theorem dX5_joined_132_b : (decode cX5_joined 132 = .ok (.iload_n 1, 1)) ∧ (decode cX5_joined 133 = .ok (.iload_n 2, 1)) ∧ (decode cX5_joined 134 = .ok (.idiv, 1)) ∧ (decode cX5_joined 135 = .ok (.ireturn, 1)) ∧ (decode cX5_joined 136 = .ok (.iload_n 1, 1)) ∧ (decode cX5_joined 137 = .ok (.iload_n 2, 1)) := by decide +kernel
theorem dX5_joined_132 : decode cX5_joined 132 = .ok (.iload_n 1, 1) := dX5_joined_132_b.1
theorem dX5_joined_133 : decode cX5_joined 133 = .ok (.iload_n 2, 1) := dX5_joined_132_b.2.1
theorem dX5_joined_134 : decode cX5_joined 134 = .ok (.idiv, 1) := dX5_joined_132_b.2.2.1
theorem dX5_joined_135 : decode cX5_joined 135 = .ok (.ireturn, 1) := dX5_joined_132_b.2.2.2.1
theorem dX5_joined_136 : decode cX5_joined 136 = .ok (.iload_n 1, 1) := dX5_joined_132_b.2.2.2.2.1
theorem dX5_joined_137 : decode cX5_joined 137 = .ok (.iload_n 2, 1) := dX5_joined_132_b.2.2.2.2.2
set_option maxRecDepth 20000 in
theorem dX5_joined_138_b : (decode cX5_joined 138 = .ok (.if_icmp .ge 7, 3)) ∧ (decode cX5_joined 141 = .ok (.iconst 1, 1)) ∧ (decode cX5_joined 142 = .ok (.goto 4, 3)) ∧ (decode cX5_joined 145 = .ok (.iconst 0, 1)) ∧ (decode cX5_joined 146 = .ok (.ireturn, 1)) ∧ (decode cX5_joined 147 = .ok (.iload_n 1, 1)) := by decide +kernel
theorem dX5_joined_138 : decode cX5_joined 138 = .ok (.if_icmp .ge 7, 3) := dX5_joined_138_b.1
theorem dX5_joined_141 : decode cX5_joined 141 = .ok (.iconst 1, 1) := dX5_joined_138_b.2.1
theorem dX5_joined_142 : decode cX5_joined 142 = .ok (.goto 4, 3) := dX5_joined_138_b.2.2.1
theorem dX5_joined_145 : decode cX5_joined 145 = .ok (.iconst 0, 1) := dX5_joined_138_b.2.2.2.1
theorem dX5_joined_146 : decode cX5_joined 146 = .ok (.ireturn, 1) := dX5_joined_138_b.2.2.2.2.1
theorem dX5_joined_147 : decode cX5_joined 147 = .ok (.iload_n 1, 1) := dX5_joined_138_b.2.2.2.2.2
set_option maxRecDepth 20000 in
theorem dX5_joined_148_b : (decode cX5_joined 148 = .ok (.iload_n 2, 1)) ∧ (decode cX5_joined 149 = .ok (.if_icmp .ne 7, 3)) ∧ (decode cX5_joined 152 = .ok (.iconst 1, 1)) ∧ (decode cX5_joined 153 = .ok (.goto 4, 3)) ∧ (decode cX5_joined 156 = .ok (.iconst 0, 1)) ∧ (decode cX5_joined 157 = .ok (.ireturn, 1)) := by decide +kernel
theorem dX5_joined_148 : decode cX5_joined 148 = .ok (.iload_n 2, 1) := dX5_joined_148_b.1
theorem dX5_joined_149 : decode cX5_joined 149 = .ok (.if_icmp .ne 7, 3) := dX5_joined_148_b.2.1
theorem dX5_joined_152 : decode cX5_joined 152 = .ok (.iconst 1, 1) := dX5_joined_148_b.2.2.1
theorem dX5_joined_153 : decode cX5_joined 153 = .ok (.goto 4, 3) := dX5_joined_148_b.2.2.2.1
theorem dX5_joined_156 : decode cX5_joined 156 = .ok (.iconst 0, 1) := dX5_joined_148_b.2.2.2.2.1
theorem dX5_joined_157 : decode cX5_joined 157 = .ok (.ireturn, 1) := dX5_joined_148_b.2.2.2.2.2
set_option maxRecDepth 20000 in
theorem dX5_joined_158_b : (decode cX5_joined 158 = .ok (.iload_n 1, 1)) ∧ (decode cX5_joined 159 = .ok (.ifCond .eq 11, 3)) ∧ (decode cX5_joined 162 = .ok (.iload_n 2, 1)) ∧ (decode cX5_joined 163 = .ok (.ifCond .eq 7, 3)) ∧ (decode cX5_joined 166 = .ok (.iconst 1, 1)) ∧ (decode cX5_joined 167 = .ok (.goto 4, 3)) := by decide +kernel
theorem dX5_joined_158 : decode cX5_joined 158 = .ok (.iload_n 1, 1) := dX5_joined_158_b.1
theorem dX5_joined_159 : decode cX5_joined 159 = .ok (.ifCond .eq 11, 3) := dX5_joined_158_b.2.1
theorem dX5_joined_162 : decode cX5_joined 162 = .ok (.iload_n 2, 1) := dX5_joined_158_b.2.2.1
theorem dX5_joined_163 : decode cX5_joined 163 = .ok (.ifCond .eq 7, 3) := dX5_joined_158_b.2.2.2.1
theorem dX5_joined_166 : decode cX5_joined 166 = .ok (.iconst 1, 1) := dX5_joined_158_b.2.2.2.2.1
theorem dX5_joined_167 : decode cX5_joined 167 = .ok (.goto 4, 3) := dX5_joined_158_b.2.2.2.2.2
set_option maxRecDepth 20000 in
theorem dX5_joined_170_b : (decode cX5_joined 170 = .ok (.iconst 0, 1)) ∧ (decode cX5_joined 171 = .ok (.ireturn, 1)) ∧ (decode cX5_joined 172 = .ok (.iload_n 1, 1)) ∧ (decode cX5_joined 173 = .ok (.ifCond .ne 7, 3)) ∧ (decode cX5_joined 176 = .ok (.iload_n 2, 1)) ∧ (decode cX5_joined 177 = .ok (.ifCond .eq 7, 3)) := by decide +kernel
theorem dX5_joined_170 : decode cX5_joined 170 = .ok (.iconst 0, 1) := dX5_joined_170_b.1
theorem dX5_joined_171 : decode cX5_joined 171 = .ok (.ireturn, 1) := dX5_joined_170_b.2.1
theorem dX5_joined_172 : decode cX5_joined 172 = .ok (.iload_n 1, 1) := dX5_joined_170_b.2.2.1
theorem dX5_joined_173 : decode cX5_joined 173 = .ok (.ifCond .ne 7, 3) := dX5_joined_170_b.2.2.2.1
theorem dX5_joined_176 : decode cX5_joined 176 = .ok (.iload_n 2, 1) := dX5_joined_170_b.2.2.2.2.1
theorem dX5_joined_177 : decode cX5_joined 177 = .ok (.ifCond .eq 7, 3) := dX5_joined_170_b.2.2.2.2.2
set_option maxRecDepth 20000 in
theorem dX5_joined_180_b : (decode cX5_joined 180 = .ok (.iconst 1, 1)) ∧ (decode cX5_joined 181 = .ok (.goto 4, 3)) ∧ (decode cX5_joined 184 = .ok (.iconst 0, 1)) ∧ (decode cX5_joined 185 = .ok (.ireturn, 1)) := by decide +kernel
theorem dX5_joined_180 : decode cX5_joined 180 = .ok (.iconst 1, 1) := dX5_joined_180_b.1
theorem dX5_joined_181 : decode cX5_joined 181 = .ok (.goto 4, 3) := dX5_joined_180_b.2.1
theorem dX5_joined_184 : decode cX5_joined 184 = .ok (.iconst 0, 1) := dX5_joined_180_b.2.2.1
theorem dX5_joined_185 : decode cX5_joined 185 = .ok (.ireturn, 1) := dX5_joined_180_b.2.2.2
set_option maxRecDepth 20000 in
theorem dX6_forget_0_b : (decode cX6_forget 0 = .ok (.aload_n 0, 1)) ∧ (decode cX6_forget 1 = .ok (.getfield 57, 3)) ∧ (decode cX6_forget 4 = .ok (.iconst 0, 1)) ∧ (decode cX6_forget 5 = .ok (.invokestatic 60, 3)) ∧ (decode cX6_forget 8 = .ok (.aload_n 0, 1)) ∧ (decode cX6_forget 9 = .ok (.iconst 0, 1)) := by decide +kernel
theorem dX6_forget_0 : decode cX6_forget 0 = .ok (.aload_n 0, 1) := dX6_forget_0_b.1
theorem dX6_forget_1 : decode cX6_forget 1 = .ok (.getfield 57, 3) := dX6_forget_0_b.2.1
theorem dX6_forget_4 : decode cX6_forget 4 = .ok (.iconst 0, 1) := dX6_forget_0_b.2.2.1
theorem dX6_forget_5 : decode cX6_forget 5 = .ok (.invokestatic 60, 3) := dX6_forget_0_b.2.2.2.1
theorem dX6_forget_8 : decode cX6_forget 8 = .ok (.aload_n 0, 1) := dX6_forget_0_b.2.2.2.2.1
theorem dX6_forget_9 : decode cX6_forget 9 = .ok (.iconst 0, 1) := dX6_forget_0_b.2.2.2.2.2
set_option maxRecDepth 20000 in
theorem dX6_forget_10_b : (decode cX6_forget 10 = .ok (.putfield 22, 3)) ∧ (decode cX6_forget 13 = .ok (.return_, 1)) := by decide +kernel
theorem dX6_forget_10 : decode cX6_forget 10 = .ok (.putfield 22, 3) := dX6_forget_10_b.1
theorem dX6_forget_13 : decode cX6_forget 13 = .ok (.return_, 1) := dX6_forget_10_b.2
set_option maxRecDepth 20000 in
theorem dX6_explore_0_b : (decode cX6_explore 0 = .ok (.aload_n 0, 1)) ∧ (decode cX6_explore 1 = .ok (.getfield 22, 3)) ∧ (decode cX6_explore 4 = .ok (.ifCond .le 34, 3)) ∧ (decode cX6_explore 7 = .ok (.aload_n 0, 1)) ∧ (decode cX6_explore 8 = .ok (.getfield 32, 3)) ∧ (decode cX6_explore 11 = .ok (.iconst 0, 1)) := by decide +kernel
theorem dX6_explore_0 : decode cX6_explore 0 = .ok (.aload_n 0, 1) := dX6_explore_0_b.1
theorem dX6_explore_1 : decode cX6_explore 1 = .ok (.getfield 22, 3) := dX6_explore_0_b.2.1
theorem dX6_explore_4 : decode cX6_explore 4 = .ok (.ifCond .le 34, 3) := dX6_explore_0_b.2.2.1
theorem dX6_explore_7 : decode cX6_explore 7 = .ok (.aload_n 0, 1) := dX6_explore_0_b.2.2.2.1
theorem dX6_explore_8 : decode cX6_explore 8 = .ok (.getfield 32, 3) := dX6_explore_0_b.2.2.2.2.1
theorem dX6_explore_11 : decode cX6_explore 11 = .ok (.iconst 0, 1) := dX6_explore_0_b.2.2.2.2.2
set_option maxRecDepth 20000 in
theorem dX6_explore_12_b : (decode cX6_explore 12 = .ok (.iaload, 1)) ∧ (decode cX6_explore 13 = .ok (.iload_n 2, 1)) ∧ (decode cX6_explore 14 = .ok (.if_icmp .ne 24, 3)) ∧ (decode cX6_explore 17 = .ok (.aload_n 0, 1)) ∧ (decode cX6_explore 18 = .ok (.getfield 15, 3)) ∧ (decode cX6_explore 21 = .ok (.iload_n 3, 1)) := by decide +kernel
theorem dX6_explore_12 : decode cX6_explore 12 = .ok (.iaload, 1) := dX6_explore_12_b.1
theorem dX6_explore_13 : decode cX6_explore 13 = .ok (.iload_n 2, 1) := dX6_explore_12_b.2.1
theorem dX6_explore_14 : decode cX6_explore 14 = .ok (.if_icmp .ne 24, 3) := dX6_explore_12_b.2.2.1
theorem dX6_explore_17 : decode cX6_explore 17 = .ok (.aload_n 0, 1) := dX6_explore_12_b.2.2.2.1
theorem dX6_explore_18 : decode cX6_explore 18 = .ok (.getfield 15, 3) := dX6_explore_12_b.2.2.2.2.1
theorem dX6_explore_21 : decode cX6_explore 21 = .ok (.iload_n 3, 1) := dX6_explore_12_b.2.2.2.2.2
set_option maxRecDepth 20000 in
theorem dX6_explore_22_b : (decode cX6_explore 22 = .ok (.if_icmp .ne 16, 3)) ∧ (decode cX6_explore 25 = .ok (.aload_n 0, 1)) ∧ (decode cX6_explore 26 = .ok (.getfield 19, 3)) ∧ (decode cX6_explore 29 = .ok (.ifCond .ne 7, 3)) ∧ (decode cX6_explore 32 = .ok (.iconst 1, 1)) ∧ (decode cX6_explore 33 = .ok (.goto 4, 3)) := by decide +kernel
theorem dX6_explore_22 : decode cX6_explore 22 = .ok (.if_icmp .ne 16, 3) := dX6_explore_22_b.1
theorem dX6_explore_25 : decode cX6_explore 25 = .ok (.aload_n 0, 1) := dX6_explore_22_b.2.1
theorem dX6_explore_26 : decode cX6_explore 26 = .ok (.getfield 19, 3) := dX6_explore_22_b.2.2.1
theorem dX6_explore_29 : decode cX6_explore 29 = .ok (.ifCond .ne 7, 3) := dX6_explore_22_b.2.2.2.1
theorem dX6_explore_32 : decode cX6_explore 32 = .ok (.iconst 1, 1) := dX6_explore_22_b.2.2.2.2.1
theorem dX6_explore_33 : decode cX6_explore 33 = .ok (.goto 4, 3) := dX6_explore_22_b.2.2.2.2.2
set_option maxRecDepth 20000 in
theorem dX6_explore_36_b : (decode cX6_explore 36 = .ok (.iconst 0, 1)) ∧ (decode cX6_explore 37 = .ok (.ireturn, 1)) ∧ (decode cX6_explore 38 = .ok (.aload_n 0, 1)) ∧ (decode cX6_explore 39 = .ok (.aload_n 1, 1)) ∧ (decode cX6_explore 40 = .ok (.putfield 9, 3)) ∧ (decode cX6_explore 43 = .ok (.aload_n 0, 1)) := by decide +kernel
theorem dX6_explore_36 : decode cX6_explore 36 = .ok (.iconst 0, 1) := dX6_explore_36_b.1
theorem dX6_explore_37 : decode cX6_explore 37 = .ok (.ireturn, 1) := dX6_explore_36_b.2.1
theorem dX6_explore_38 : decode cX6_explore 38 = .ok (.aload_n 0, 1) := dX6_explore_36_b.2.2.1
theorem dX6_explore_39 : decode cX6_explore 39 = .ok (.aload_n 1, 1) := dX6_explore_36_b.2.2.2.1
theorem dX6_explore_40 : decode cX6_explore 40 = .ok (.putfield 9, 3) := dX6_explore_36_b.2.2.2.2.1
theorem dX6_explore_43 : decode cX6_explore 43 = .ok (.aload_n 0, 1) := dX6_explore_36_b.2.2.2.2.2
set_option maxRecDepth 20000 in
theorem dX6_explore_44_b : (decode cX6_explore 44 = .ok (.iload_n 3, 1)) ∧ (decode cX6_explore 45 = .ok (.putfield 15, 3)) ∧ (decode cX6_explore 48 = .ok (.aload_n 0, 1)) ∧ (decode cX6_explore 49 = .ok (.iconst 0, 1)) ∧ (decode cX6_explore 50 = .ok (.putfield 19, 3)) ∧ (decode cX6_explore 53 = .ok (.aload_n 0, 1)) := by decide +kernel
theorem dX6_explore_44 : decode cX6_explore 44 = .ok (.iload_n 3, 1) := dX6_explore_44_b.1
theorem dX6_explore_45 : decode cX6_explore 45 = .ok (.putfield 15, 3) := dX6_explore_44_b.2.1
theorem dX6_explore_48 : decode cX6_explore 48 = .ok (.aload_n 0, 1) := dX6_explore_44_b.2.2.1
theorem dX6_explore_49 : decode cX6_explore 49 = .ok (.iconst 0, 1) := dX6_explore_44_b.2.2.2.1
theorem dX6_explore_50 : decode cX6_explore 50 = .ok (.putfield 19, 3) := dX6_explore_44_b.2.2.2.2.1
theorem dX6_explore_53 : decode cX6_explore 53 = .ok (.aload_n 0, 1) := dX6_explore_44_b.2.2.2.2.2
set_option maxRecDepth 20000 in
theorem dX6_explore_54_b : (decode cX6_explore 54 = .ok (.iconst 0, 1)) ∧ (decode cX6_explore 55 = .ok (.putfield 22, 3)) ∧ (decode cX6_explore 58 = .ok (.aload_n 0, 1)) ∧ (decode cX6_explore 59 = .ok (.iconst 0, 1)) := by decide +kernel
theorem dX6_explore_54 : decode cX6_explore 54 = .ok (.iconst 0, 1) := dX6_explore_54_b.1
theorem dX6_explore_55 : decode cX6_explore 55 = .ok (.putfield 22, 3) := dX6_explore_54_b.2.1
theorem dX6_explore_58 : decode cX6_explore 58 = .ok (.aload_n 0, 1) := dX6_explore_54_b.2.2.1
theorem dX6_explore_59 : decode cX6_explore 59 = .ok (.iconst 0, 1) := dX6_explore_54_b.2.2.2
