set_option maxRecDepth 20000 in
theorem dX10_byteAt_8_b : (decode cX10_byteAt 8 = .ok (.aload_n 0, 1)) ∧ (decode cX10_byteAt 9 = .ok (.getfield 80, 3)) ∧ (decode cX10_byteAt 12 = .ok (.iload_n 1, 1)) ∧ (decode cX10_byteAt 13 = .ok (.iaload, 1)) ∧ (decode cX10_byteAt 14 = .ok (.goto 4, 3)) ∧ (decode cX10_byteAt 17 = .ok (.iconst (-1), 1)) := by decide +kernel
theorem dX10_byteAt_8 : decode cX10_byteAt 8 = .ok (.aload_n 0, 1) := dX10_byteAt_8_b.1
theorem dX10_byteAt_9 : decode cX10_byteAt 9 = .ok (.getfield 80, 3) := dX10_byteAt_8_b.2.1
theorem dX10_byteAt_12 : decode cX10_byteAt 12 = .ok (.iload_n 1, 1) := dX10_byteAt_8_b.2.2.1
theorem dX10_byteAt_13 : decode cX10_byteAt 13 = .ok (.iaload, 1) := dX10_byteAt_8_b.2.2.2.1
theorem dX10_byteAt_14 : decode cX10_byteAt 14 = .ok (.goto 4, 3) := dX10_byteAt_8_b.2.2.2.2.1
theorem dX10_byteAt_17 : decode cX10_byteAt 17 = .ok (.iconst (-1), 1) := dX10_byteAt_8_b.2.2.2.2.2
theorem dX10_byteAt_18 : decode cX10_byteAt 18 = .ok (.ireturn, 1) := by decide +kernel
set_option maxRecDepth 20000 in
theorem dX10_isLetter_0_b : (decode cX10_isLetter 0 = .ok (.iload_n 0, 1)) ∧ (decode cX10_isLetter 1 = .ok (.bipush 97, 2)) ∧ (decode cX10_isLetter 3 = .ok (.if_icmp .lt 13, 3)) ∧ (decode cX10_isLetter 6 = .ok (.iload_n 0, 1)) ∧ (decode cX10_isLetter 7 = .ok (.bipush 122, 2)) ∧ (decode cX10_isLetter 9 = .ok (.if_icmp .gt 7, 3)) := by decide +kernel
theorem dX10_isLetter_0 : decode cX10_isLetter 0 = .ok (.iload_n 0, 1) := dX10_isLetter_0_b.1
theorem dX10_isLetter_1 : decode cX10_isLetter 1 = .ok (.bipush 97, 2) := dX10_isLetter_0_b.2.1
theorem dX10_isLetter_3 : decode cX10_isLetter 3 = .ok (.if_icmp .lt 13, 3) := dX10_isLetter_0_b.2.2.1
theorem dX10_isLetter_6 : decode cX10_isLetter 6 = .ok (.iload_n 0, 1) := dX10_isLetter_0_b.2.2.2.1
theorem dX10_isLetter_7 : decode cX10_isLetter 7 = .ok (.bipush 122, 2) := dX10_isLetter_0_b.2.2.2.2.1
theorem dX10_isLetter_9 : decode cX10_isLetter 9 = .ok (.if_icmp .gt 7, 3) := dX10_isLetter_0_b.2.2.2.2.2
set_option maxRecDepth 20000 in
theorem dX10_isLetter_12_b : (decode cX10_isLetter 12 = .ok (.iconst 1, 1)) ∧ (decode cX10_isLetter 13 = .ok (.goto 4, 3)) ∧ (decode cX10_isLetter 16 = .ok (.iconst 0, 1)) ∧ (decode cX10_isLetter 17 = .ok (.ireturn, 1)) := by decide +kernel
theorem dX10_isLetter_12 : decode cX10_isLetter 12 = .ok (.iconst 1, 1) := dX10_isLetter_12_b.1
theorem dX10_isLetter_13 : decode cX10_isLetter 13 = .ok (.goto 4, 3) := dX10_isLetter_12_b.2.1
theorem dX10_isLetter_16 : decode cX10_isLetter 16 = .ok (.iconst 0, 1) := dX10_isLetter_12_b.2.2.1
theorem dX10_isLetter_17 : decode cX10_isLetter 17 = .ok (.ireturn, 1) := dX10_isLetter_12_b.2.2.2
set_option maxRecDepth 20000 in
theorem dX10_isDigit_0_b : (decode cX10_isDigit 0 = .ok (.iload_n 0, 1)) ∧ (decode cX10_isDigit 1 = .ok (.bipush 48, 2)) ∧ (decode cX10_isDigit 3 = .ok (.if_icmp .lt 13, 3)) ∧ (decode cX10_isDigit 6 = .ok (.iload_n 0, 1)) ∧ (decode cX10_isDigit 7 = .ok (.bipush 57, 2)) ∧ (decode cX10_isDigit 9 = .ok (.if_icmp .gt 7, 3)) := by decide +kernel
theorem dX10_isDigit_0 : decode cX10_isDigit 0 = .ok (.iload_n 0, 1) := dX10_isDigit_0_b.1
theorem dX10_isDigit_1 : decode cX10_isDigit 1 = .ok (.bipush 48, 2) := dX10_isDigit_0_b.2.1
theorem dX10_isDigit_3 : decode cX10_isDigit 3 = .ok (.if_icmp .lt 13, 3) := dX10_isDigit_0_b.2.2.1
theorem dX10_isDigit_6 : decode cX10_isDigit 6 = .ok (.iload_n 0, 1) := dX10_isDigit_0_b.2.2.2.1
theorem dX10_isDigit_7 : decode cX10_isDigit 7 = .ok (.bipush 57, 2) := dX10_isDigit_0_b.2.2.2.2.1
theorem dX10_isDigit_9 : decode cX10_isDigit 9 = .ok (.if_icmp .gt 7, 3) := dX10_isDigit_0_b.2.2.2.2.2
set_option maxRecDepth 20000 in
theorem dX10_isDigit_12_b : (decode cX10_isDigit 12 = .ok (.iconst 1, 1)) ∧ (decode cX10_isDigit 13 = .ok (.goto 4, 3)) ∧ (decode cX10_isDigit 16 = .ok (.iconst 0, 1)) ∧ (decode cX10_isDigit 17 = .ok (.ireturn, 1)) := by decide +kernel
theorem dX10_isDigit_12 : decode cX10_isDigit 12 = .ok (.iconst 1, 1) := dX10_isDigit_12_b.1
theorem dX10_isDigit_13 : decode cX10_isDigit 13 = .ok (.goto 4, 3) := dX10_isDigit_12_b.2.1
theorem dX10_isDigit_16 : decode cX10_isDigit 16 = .ok (.iconst 0, 1) := dX10_isDigit_12_b.2.2.1
theorem dX10_isDigit_17 : decode cX10_isDigit 17 = .ok (.ireturn, 1) := dX10_isDigit_12_b.2.2.2
set_option maxRecDepth 20000 in
theorem dX10_isMark_0_b : (decode cX10_isMark 0 = .ok (.iload_n 0, 1)) ∧ (decode cX10_isMark 1 = .ok (.bipush 59, 2)) ∧ (decode cX10_isMark 3 = .ok (.if_icmp .eq 51, 3)) ∧ (decode cX10_isMark 6 = .ok (.iload_n 0, 1)) ∧ (decode cX10_isMark 7 = .ok (.bipush 40, 2)) ∧ (decode cX10_isMark 9 = .ok (.if_icmp .eq 45, 3)) := by decide +kernel
theorem dX10_isMark_0 : decode cX10_isMark 0 = .ok (.iload_n 0, 1) := dX10_isMark_0_b.1
theorem dX10_isMark_1 : decode cX10_isMark 1 = .ok (.bipush 59, 2) := dX10_isMark_0_b.2.1
theorem dX10_isMark_3 : decode cX10_isMark 3 = .ok (.if_icmp .eq 51, 3) := dX10_isMark_0_b.2.2.1
theorem dX10_isMark_6 : decode cX10_isMark 6 = .ok (.iload_n 0, 1) := dX10_isMark_0_b.2.2.2.1
theorem dX10_isMark_7 : decode cX10_isMark 7 = .ok (.bipush 40, 2) := dX10_isMark_0_b.2.2.2.2.1
theorem dX10_isMark_9 : decode cX10_isMark 9 = .ok (.if_icmp .eq 45, 3) := dX10_isMark_0_b.2.2.2.2.2
set_option maxRecDepth 20000 in
theorem dX10_isMark_12_b : (decode cX10_isMark 12 = .ok (.iload_n 0, 1)) ∧ (decode cX10_isMark 13 = .ok (.bipush 41, 2)) ∧ (decode cX10_isMark 15 = .ok (.if_icmp .eq 39, 3)) ∧ (decode cX10_isMark 18 = .ok (.iload_n 0, 1)) ∧ (decode cX10_isMark 19 = .ok (.bipush 43, 2)) ∧ (decode cX10_isMark 21 = .ok (.if_icmp .eq 33, 3)) := by decide +kernel
theorem dX10_isMark_12 : decode cX10_isMark 12 = .ok (.iload_n 0, 1) := dX10_isMark_12_b.1
theorem dX10_isMark_13 : decode cX10_isMark 13 = .ok (.bipush 41, 2) := dX10_isMark_12_b.2.1
theorem dX10_isMark_15 : decode cX10_isMark 15 = .ok (.if_icmp .eq 39, 3) := dX10_isMark_12_b.2.2.1
theorem dX10_isMark_18 : decode cX10_isMark 18 = .ok (.iload_n 0, 1) := dX10_isMark_12_b.2.2.2.1
theorem dX10_isMark_19 : decode cX10_isMark 19 = .ok (.bipush 43, 2) := dX10_isMark_12_b.2.2.2.2.1
theorem dX10_isMark_21 : decode cX10_isMark 21 = .ok (.if_icmp .eq 33, 3) := dX10_isMark_12_b.2.2.2.2.2
set_option maxRecDepth 20000 in
theorem dX10_isMark_24_b : (decode cX10_isMark 24 = .ok (.iload_n 0, 1)) ∧ (decode cX10_isMark 25 = .ok (.bipush 45, 2)) ∧ (decode cX10_isMark 27 = .ok (.if_icmp .eq 27, 3)) ∧ (decode cX10_isMark 30 = .ok (.iload_n 0, 1)) ∧ (decode cX10_isMark 31 = .ok (.bipush 42, 2)) ∧ (decode cX10_isMark 33 = .ok (.if_icmp .eq 21, 3)) := by decide +kernel
theorem dX10_isMark_24 : decode cX10_isMark 24 = .ok (.iload_n 0, 1) := dX10_isMark_24_b.1
theorem dX10_isMark_25 : decode cX10_isMark 25 = .ok (.bipush 45, 2) := dX10_isMark_24_b.2.1
theorem dX10_isMark_27 : decode cX10_isMark 27 = .ok (.if_icmp .eq 27, 3) := dX10_isMark_24_b.2.2.1
theorem dX10_isMark_30 : decode cX10_isMark 30 = .ok (.iload_n 0, 1) := dX10_isMark_24_b.2.2.2.1
theorem dX10_isMark_31 : decode cX10_isMark 31 = .ok (.bipush 42, 2) := dX10_isMark_24_b.2.2.2.2.1
theorem dX10_isMark_33 : decode cX10_isMark 33 = .ok (.if_icmp .eq 21, 3) := dX10_isMark_24_b.2.2.2.2.2
set_option maxRecDepth 20000 in
theorem dX10_isMark_36_b : (decode cX10_isMark 36 = .ok (.iload_n 0, 1)) ∧ (decode cX10_isMark 37 = .ok (.bipush 47, 2)) ∧ (decode cX10_isMark 39 = .ok (.if_icmp .eq 15, 3)) ∧ (decode cX10_isMark 42 = .ok (.iload_n 0, 1)) ∧ (decode cX10_isMark 43 = .ok (.bipush 60, 2)) ∧ (decode cX10_isMark 45 = .ok (.if_icmp .eq 9, 3)) := by decide +kernel
theorem dX10_isMark_36 : decode cX10_isMark 36 = .ok (.iload_n 0, 1) := dX10_isMark_36_b.1
theorem dX10_isMark_37 : decode cX10_isMark 37 = .ok (.bipush 47, 2) := dX10_isMark_36_b.2.1
theorem dX10_isMark_39 : decode cX10_isMark 39 = .ok (.if_icmp .eq 15, 3) := dX10_isMark_36_b.2.2.1
theorem dX10_isMark_42 : decode cX10_isMark 42 = .ok (.iload_n 0, 1) := dX10_isMark_36_b.2.2.2.1
theorem dX10_isMark_43 : decode cX10_isMark 43 = .ok (.bipush 60, 2) := dX10_isMark_36_b.2.2.2.2.1
theorem dX10_isMark_45 : decode cX10_isMark 45 = .ok (.if_icmp .eq 9, 3) := dX10_isMark_36_b.2.2.2.2.2
set_option maxRecDepth 20000 in
theorem dX10_isMark_48_b : (decode cX10_isMark 48 = .ok (.iload_n 0, 1)) ∧ (decode cX10_isMark 49 = .ok (.bipush 61, 2)) ∧ (decode cX10_isMark 51 = .ok (.if_icmp .ne 7, 3)) ∧ (decode cX10_isMark 54 = .ok (.iconst 1, 1)) ∧ (decode cX10_isMark 55 = .ok (.goto 4, 3)) ∧ (decode cX10_isMark 58 = .ok (.iconst 0, 1)) := by decide +kernel
theorem dX10_isMark_48 : decode cX10_isMark 48 = .ok (.iload_n 0, 1) := dX10_isMark_48_b.1
theorem dX10_isMark_49 : decode cX10_isMark 49 = .ok (.bipush 61, 2) := dX10_isMark_48_b.2.1
theorem dX10_isMark_51 : decode cX10_isMark 51 = .ok (.if_icmp .ne 7, 3) := dX10_isMark_48_b.2.2.1
theorem dX10_isMark_54 : decode cX10_isMark 54 = .ok (.iconst 1, 1) := dX10_isMark_48_b.2.2.2.1
theorem dX10_isMark_55 : decode cX10_isMark 55 = .ok (.goto 4, 3) := dX10_isMark_48_b.2.2.2.2.1
theorem dX10_isMark_58 : decode cX10_isMark 58 = .ok (.iconst 0, 1) := dX10_isMark_48_b.2.2.2.2.2
theorem dX10_isMark_59 : decode cX10_isMark 59 = .ok (.ireturn, 1) := by decide +kernel
set_option maxRecDepth 20000 in
theorem dX10_stepOn_0_b : (decode cX10_stepOn 0 = .ok (.aload_n 0, 1)) ∧ (decode cX10_stepOn 1 = .ok (.aload_n 0, 1)) ∧ (decode cX10_stepOn 2 = .ok (.getfield 187, 3)) ∧ (decode cX10_stepOn 5 = .ok (.invokevirtual 190, 3)) ∧ (decode cX10_stepOn 8 = .ok (.bipush 32, 2)) ∧ (decode cX10_stepOn 10 = .ok (.if_icmp .eq 16, 3)) := by decide +kernel
theorem dX10_stepOn_0 : decode cX10_stepOn 0 = .ok (.aload_n 0, 1) := dX10_stepOn_0_b.1
theorem dX10_stepOn_1 : decode cX10_stepOn 1 = .ok (.aload_n 0, 1) := dX10_stepOn_0_b.2.1
theorem dX10_stepOn_2 : decode cX10_stepOn 2 = .ok (.getfield 187, 3) := dX10_stepOn_0_b.2.2.1
theorem dX10_stepOn_5 : decode cX10_stepOn 5 = .ok (.invokevirtual 190, 3) := dX10_stepOn_0_b.2.2.2.1
theorem dX10_stepOn_8 : decode cX10_stepOn 8 = .ok (.bipush 32, 2) := dX10_stepOn_0_b.2.2.2.2.1
theorem dX10_stepOn_10 : decode cX10_stepOn 10 = .ok (.if_icmp .eq 16, 3) := dX10_stepOn_0_b.2.2.2.2.2
set_option maxRecDepth 20000 in
theorem dX10_stepOn_13_b : (decode cX10_stepOn 13 = .ok (.aload_n 0, 1)) ∧ (decode cX10_stepOn 14 = .ok (.aload_n 0, 1)) ∧ (decode cX10_stepOn 15 = .ok (.getfield 187, 3)) ∧ (decode cX10_stepOn 18 = .ok (.invokevirtual 190, 3)) ∧ (decode cX10_stepOn 21 = .ok (.bipush 10, 2)) ∧ (decode cX10_stepOn 23 = .ok (.if_icmp .ne 16, 3)) := by decide +kernel
theorem dX10_stepOn_13 : decode cX10_stepOn 13 = .ok (.aload_n 0, 1) := dX10_stepOn_13_b.1
theorem dX10_stepOn_14 : decode cX10_stepOn 14 = .ok (.aload_n 0, 1) := dX10_stepOn_13_b.2.1
theorem dX10_stepOn_15 : decode cX10_stepOn 15 = .ok (.getfield 187, 3) := dX10_stepOn_13_b.2.2.1
theorem dX10_stepOn_18 : decode cX10_stepOn 18 = .ok (.invokevirtual 190, 3) := dX10_stepOn_13_b.2.2.2.1
theorem dX10_stepOn_21 : decode cX10_stepOn 21 = .ok (.bipush 10, 2) := dX10_stepOn_13_b.2.2.2.2.1
theorem dX10_stepOn_23 : decode cX10_stepOn 23 = .ok (.if_icmp .ne 16, 3) := dX10_stepOn_13_b.2.2.2.2.2
set_option maxRecDepth 20000 in
theorem dX10_stepOn_26_b : (decode cX10_stepOn 26 = .ok (.aload_n 0, 1)) ∧ (decode cX10_stepOn 27 = .ok (.dup, 1)) ∧ (decode cX10_stepOn 28 = .ok (.getfield 187, 3)) ∧ (decode cX10_stepOn 31 = .ok (.iconst 1, 1)) ∧ (decode cX10_stepOn 32 = .ok (.iadd, 1)) ∧ (decode cX10_stepOn 33 = .ok (.putfield 187, 3)) := by decide +kernel
theorem dX10_stepOn_26 : decode cX10_stepOn 26 = .ok (.aload_n 0, 1) := dX10_stepOn_26_b.1
theorem dX10_stepOn_27 : decode cX10_stepOn 27 = .ok (.dup, 1) := dX10_stepOn_26_b.2.1
theorem dX10_stepOn_28 : decode cX10_stepOn 28 = .ok (.getfield 187, 3) := dX10_stepOn_26_b.2.2.1
theorem dX10_stepOn_31 : decode cX10_stepOn 31 = .ok (.iconst 1, 1) := dX10_stepOn_26_b.2.2.2.1
theorem dX10_stepOn_32 : decode cX10_stepOn 32 = .ok (.iadd, 1) := dX10_stepOn_26_b.2.2.2.2.1
theorem dX10_stepOn_33 : decode cX10_stepOn 33 = .ok (.putfield 187, 3) := dX10_stepOn_26_b.2.2.2.2.2
set_option maxRecDepth 20000 in
theorem dX10_stepOn_36_b : (decode cX10_stepOn 36 = .ok (.goto (-36), 3)) ∧ (decode cX10_stepOn 39 = .ok (.aload_n 0, 1)) ∧ (decode cX10_stepOn 40 = .ok (.aload_n 0, 1)) ∧ (decode cX10_stepOn 41 = .ok (.getfield 187, 3)) ∧ (decode cX10_stepOn 44 = .ok (.putfield 194, 3)) ∧ (decode cX10_stepOn 47 = .ok (.aload_n 0, 1)) := by decide +kernel
theorem dX10_stepOn_36 : decode cX10_stepOn 36 = .ok (.goto (-36), 3) := dX10_stepOn_36_b.1
theorem dX10_stepOn_39 : decode cX10_stepOn 39 = .ok (.aload_n 0, 1) := dX10_stepOn_36_b.2.1
theorem dX10_stepOn_40 : decode cX10_stepOn 40 = .ok (.aload_n 0, 1) := dX10_stepOn_36_b.2.2.1
theorem dX10_stepOn_41 : decode cX10_stepOn 41 = .ok (.getfield 187, 3) := dX10_stepOn_36_b.2.2.2.1
theorem dX10_stepOn_44 : decode cX10_stepOn 44 = .ok (.putfield 194, 3) := dX10_stepOn_36_b.2.2.2.2.1
theorem dX10_stepOn_47 : decode cX10_stepOn 47 = .ok (.aload_n 0, 1) := dX10_stepOn_36_b.2.2.2.2.2
set_option maxRecDepth 20000 in
theorem dX10_stepOn_48_b : (decode cX10_stepOn 48 = .ok (.aload_n 0, 1)) ∧ (decode cX10_stepOn 49 = .ok (.getfield 187, 3)) ∧ (decode cX10_stepOn 52 = .ok (.invokevirtual 190, 3)) ∧ (decode cX10_stepOn 55 = .ok (.istore_n 1, 1)) ∧ (decode cX10_stepOn 56 = .ok (.iload_n 1, 1)) ∧ (decode cX10_stepOn 57 = .ok (.iconst (-1), 1)) := by decide +kernel
theorem dX10_stepOn_48 : decode cX10_stepOn 48 = .ok (.aload_n 0, 1) := dX10_stepOn_48_b.1
theorem dX10_stepOn_49 : decode cX10_stepOn 49 = .ok (.getfield 187, 3) := dX10_stepOn_48_b.2.1
theorem dX10_stepOn_52 : decode cX10_stepOn 52 = .ok (.invokevirtual 190, 3) := dX10_stepOn_48_b.2.2.1
theorem dX10_stepOn_55 : decode cX10_stepOn 55 = .ok (.istore_n 1, 1) := dX10_stepOn_48_b.2.2.2.1
theorem dX10_stepOn_56 : decode cX10_stepOn 56 = .ok (.iload_n 1, 1) := dX10_stepOn_48_b.2.2.2.2.1
theorem dX10_stepOn_57 : decode cX10_stepOn 57 = .ok (.iconst (-1), 1) := dX10_stepOn_48_b.2.2.2.2.2
set_option maxRecDepth 20000 in
theorem dX10_stepOn_58_b : (decode cX10_stepOn 58 = .ok (.if_icmp .ne 11, 3)) ∧ (decode cX10_stepOn 61 = .ok (.aload_n 0, 1)) ∧ (decode cX10_stepOn 62 = .ok (.iconst 0, 1)) ∧ (decode cX10_stepOn 63 = .ok (.putfield 197, 3)) ∧ (decode cX10_stepOn 66 = .ok (.goto 146, 3)) ∧ (decode cX10_stepOn 69 = .ok (.iload_n 1, 1)) := by decide +kernel
theorem dX10_stepOn_58 : decode cX10_stepOn 58 = .ok (.if_icmp .ne 11, 3) := dX10_stepOn_58_b.1
theorem dX10_stepOn_61 : decode cX10_stepOn 61 = .ok (.aload_n 0, 1) := dX10_stepOn_58_b.2.1
theorem dX10_stepOn_62 : decode cX10_stepOn 62 = .ok (.iconst 0, 1) := dX10_stepOn_58_b.2.2.1
theorem dX10_stepOn_63 : decode cX10_stepOn 63 = .ok (.putfield 197, 3) := dX10_stepOn_58_b.2.2.2.1
theorem dX10_stepOn_66 : decode cX10_stepOn 66 = .ok (.goto 146, 3) := dX10_stepOn_58_b.2.2.2.2.1
theorem dX10_stepOn_69 : decode cX10_stepOn 69 = .ok (.iload_n 1, 1) := dX10_stepOn_58_b.2.2.2.2.2
set_option maxRecDepth 20000 in
theorem dX10_stepOn_70_b : (decode cX10_stepOn 70 = .ok (.invokestatic 200, 3)) ∧ (decode cX10_stepOn 73 = .ok (.ifCond .eq 38, 3)) ∧ (decode cX10_stepOn 76 = .ok (.aload_n 0, 1)) ∧ (decode cX10_stepOn 77 = .ok (.aload_n 0, 1)) ∧ (decode cX10_stepOn 78 = .ok (.getfield 187, 3)) ∧ (decode cX10_stepOn 81 = .ok (.invokevirtual 190, 3)) := by decide +kernel
theorem dX10_stepOn_70 : decode cX10_stepOn 70 = .ok (.invokestatic 200, 3) := dX10_stepOn_70_b.1
theorem dX10_stepOn_73 : decode cX10_stepOn 73 = .ok (.ifCond .eq 38, 3) := dX10_stepOn_70_b.2.1
theorem dX10_stepOn_76 : decode cX10_stepOn 76 = .ok (.aload_n 0, 1) := dX10_stepOn_70_b.2.2.1
theorem dX10_stepOn_77 : decode cX10_stepOn 77 = .ok (.aload_n 0, 1) := dX10_stepOn_70_b.2.2.2.1
theorem dX10_stepOn_78 : decode cX10_stepOn 78 = .ok (.getfield 187, 3) := dX10_stepOn_70_b.2.2.2.2.1
theorem dX10_stepOn_81 : decode cX10_stepOn 81 = .ok (.invokevirtual 190, 3) := dX10_stepOn_70_b.2.2.2.2.2
set_option maxRecDepth 20000 in
theorem dX10_stepOn_84_b : (decode cX10_stepOn 84 = .ok (.invokestatic 200, 3)) ∧ (decode cX10_stepOn 87 = .ok (.ifCond .eq 16, 3)) ∧ (decode cX10_stepOn 90 = .ok (.aload_n 0, 1)) ∧ (decode cX10_stepOn 91 = .ok (.dup, 1)) ∧ (decode cX10_stepOn 92 = .ok (.getfield 187, 3)) ∧ (decode cX10_stepOn 95 = .ok (.iconst 1, 1)) := by decide +kernel
theorem dX10_stepOn_84 : decode cX10_stepOn 84 = .ok (.invokestatic 200, 3) := dX10_stepOn_84_b.1
theorem dX10_stepOn_87 : decode cX10_stepOn 87 = .ok (.ifCond .eq 16, 3) := dX10_stepOn_84_b.2.1
theorem dX10_stepOn_90 : decode cX10_stepOn 90 = .ok (.aload_n 0, 1) := dX10_stepOn_84_b.2.2.1
theorem dX10_stepOn_91 : decode cX10_stepOn 91 = .ok (.dup, 1) := dX10_stepOn_84_b.2.2.2.1
theorem dX10_stepOn_92 : decode cX10_stepOn 92 = .ok (.getfield 187, 3) := dX10_stepOn_84_b.2.2.2.2.1
theorem dX10_stepOn_95 : decode cX10_stepOn 95 = .ok (.iconst 1, 1) := dX10_stepOn_84_b.2.2.2.2.2
set_option maxRecDepth 20000 in
theorem dX10_stepOn_96_b : (decode cX10_stepOn 96 = .ok (.iadd, 1)) ∧ (decode cX10_stepOn 97 = .ok (.putfield 187, 3)) ∧ (decode cX10_stepOn 100 = .ok (.goto (-24), 3)) ∧ (decode cX10_stepOn 103 = .ok (.aload_n 0, 1)) ∧ (decode cX10_stepOn 104 = .ok (.iconst 1, 1)) ∧ (decode cX10_stepOn 105 = .ok (.putfield 197, 3)) := by decide +kernel
theorem dX10_stepOn_96 : decode cX10_stepOn 96 = .ok (.iadd, 1) := dX10_stepOn_96_b.1
theorem dX10_stepOn_97 : decode cX10_stepOn 97 = .ok (.putfield 187, 3) := dX10_stepOn_96_b.2.1
theorem dX10_stepOn_100 : decode cX10_stepOn 100 = .ok (.goto (-24), 3) := dX10_stepOn_96_b.2.2.1
theorem dX10_stepOn_103 : decode cX10_stepOn 103 = .ok (.aload_n 0, 1) := dX10_stepOn_96_b.2.2.2.1
theorem dX10_stepOn_104 : decode cX10_stepOn 104 = .ok (.iconst 1, 1) := dX10_stepOn_96_b.2.2.2.2.1
theorem dX10_stepOn_105 : decode cX10_stepOn 105 = .ok (.putfield 197, 3) := dX10_stepOn_96_b.2.2.2.2.2
set_option maxRecDepth 20000 in
theorem dX10_stepOn_108_b : (decode cX10_stepOn 108 = .ok (.goto 104, 3)) ∧ (decode cX10_stepOn 111 = .ok (.iload_n 1, 1)) ∧ (decode cX10_stepOn 112 = .ok (.invokestatic 204, 3)) ∧ (decode cX10_stepOn 115 = .ok (.ifCond .eq 71, 3)) ∧ (decode cX10_stepOn 118 = .ok (.aload_n 0, 1)) ∧ (decode cX10_stepOn 119 = .ok (.iconst 0, 1)) := by decide +kernel
theorem dX10_stepOn_108 : decode cX10_stepOn 108 = .ok (.goto 104, 3) := dX10_stepOn_108_b.1
theorem dX10_stepOn_111 : decode cX10_stepOn 111 = .ok (.iload_n 1, 1) := dX10_stepOn_108_b.2.1
theorem dX10_stepOn_112 : decode cX10_stepOn 112 = .ok (.invokestatic 204, 3) := dX10_stepOn_108_b.2.2.1
theorem dX10_stepOn_115 : decode cX10_stepOn 115 = .ok (.ifCond .eq 71, 3) := dX10_stepOn_108_b.2.2.2.1
theorem dX10_stepOn_118 : decode cX10_stepOn 118 = .ok (.aload_n 0, 1) := dX10_stepOn_108_b.2.2.2.2.1
theorem dX10_stepOn_119 : decode cX10_stepOn 119 = .ok (.iconst 0, 1) := dX10_stepOn_108_b.2.2.2.2.2
set_option maxRecDepth 20000 in
theorem dX10_stepOn_120_b : (decode cX10_stepOn 120 = .ok (.putfield 207, 3)) ∧ (decode cX10_stepOn 123 = .ok (.aload_n 0, 1)) ∧ (decode cX10_stepOn 124 = .ok (.aload_n 0, 1)) ∧ (decode cX10_stepOn 125 = .ok (.getfield 187, 3)) ∧ (decode cX10_stepOn 128 = .ok (.invokevirtual 190, 3)) ∧ (decode cX10_stepOn 131 = .ok (.invokestatic 204, 3)) := by decide +kernel
theorem dX10_stepOn_120 : decode cX10_stepOn 120 = .ok (.putfield 207, 3) := dX10_stepOn_120_b.1
theorem dX10_stepOn_123 : decode cX10_stepOn 123 = .ok (.aload_n 0, 1) := dX10_stepOn_120_b.2.1
theorem dX10_stepOn_124 : decode cX10_stepOn 124 = .ok (.aload_n 0, 1) := dX10_stepOn_120_b.2.2.1
theorem dX10_stepOn_125 : decode cX10_stepOn 125 = .ok (.getfield 187, 3) := dX10_stepOn_120_b.2.2.2.1
theorem dX10_stepOn_128 : decode cX10_stepOn 128 = .ok (.invokevirtual 190, 3) := dX10_stepOn_120_b.2.2.2.2.1
theorem dX10_stepOn_131 : decode cX10_stepOn 131 = .ok (.invokestatic 204, 3) := dX10_stepOn_120_b.2.2.2.2.2
set_option maxRecDepth 20000 in
theorem dX10_stepOn_134_b : (decode cX10_stepOn 134 = .ok (.ifCond .eq 44, 3)) ∧ (decode cX10_stepOn 137 = .ok (.aload_n 0, 1)) ∧ (decode cX10_stepOn 138 = .ok (.ldc 210, 2)) ∧ (decode cX10_stepOn 140 = .ok (.bipush 10, 2)) ∧ (decode cX10_stepOn 142 = .ok (.aload_n 0, 1)) ∧ (decode cX10_stepOn 143 = .ok (.getfield 207, 3)) := by decide +kernel
theorem dX10_stepOn_134 : decode cX10_stepOn 134 = .ok (.ifCond .eq 44, 3) := dX10_stepOn_134_b.1
theorem dX10_stepOn_137 : decode cX10_stepOn 137 = .ok (.aload_n 0, 1) := dX10_stepOn_134_b.2.1
theorem dX10_stepOn_138 : decode cX10_stepOn 138 = .ok (.ldc 210, 2) := dX10_stepOn_134_b.2.2.1
theorem dX10_stepOn_140 : decode cX10_stepOn 140 = .ok (.bipush 10, 2) := dX10_stepOn_134_b.2.2.2.1
theorem dX10_stepOn_142 : decode cX10_stepOn 142 = .ok (.aload_n 0, 1) := dX10_stepOn_134_b.2.2.2.2.1
theorem dX10_stepOn_143 : decode cX10_stepOn 143 = .ok (.getfield 207, 3) := dX10_stepOn_134_b.2.2.2.2.2
set_option maxRecDepth 20000 in
theorem dX10_stepOn_146_b : (decode cX10_stepOn 146 = .ok (.imul, 1)) ∧ (decode cX10_stepOn 147 = .ok (.aload_n 0, 1)) ∧ (decode cX10_stepOn 148 = .ok (.aload_n 0, 1)) ∧ (decode cX10_stepOn 149 = .ok (.getfield 187, 3)) ∧ (decode cX10_stepOn 152 = .ok (.invokevirtual 190, 3)) ∧ (decode cX10_stepOn 155 = .ok (.iadd, 1)) := by decide +kernel
theorem dX10_stepOn_146 : decode cX10_stepOn 146 = .ok (.imul, 1) := dX10_stepOn_146_b.1
theorem dX10_stepOn_147 : decode cX10_stepOn 147 = .ok (.aload_n 0, 1) := dX10_stepOn_146_b.2.1
theorem dX10_stepOn_148 : decode cX10_stepOn 148 = .ok (.aload_n 0, 1) := dX10_stepOn_146_b.2.2.1
theorem dX10_stepOn_149 : decode cX10_stepOn 149 = .ok (.getfield 187, 3) := dX10_stepOn_146_b.2.2.2.1
theorem dX10_stepOn_152 : decode cX10_stepOn 152 = .ok (.invokevirtual 190, 3) := dX10_stepOn_146_b.2.2.2.2.1
theorem dX10_stepOn_155 : decode cX10_stepOn 155 = .ok (.iadd, 1) := dX10_stepOn_146_b.2.2.2.2.2
set_option maxRecDepth 20000 in
theorem dX10_stepOn_156_b : (decode cX10_stepOn 156 = .ok (.bipush 48, 2)) ∧ (decode cX10_stepOn 158 = .ok (.isub, 1)) ∧ (decode cX10_stepOn 159 = .ok (.invokestatic 211, 3)) ∧ (decode cX10_stepOn 162 = .ok (.putfield 207, 3)) ∧ (decode cX10_stepOn 165 = .ok (.aload_n 0, 1)) ∧ (decode cX10_stepOn 166 = .ok (.dup, 1)) := by decide +kernel
theorem dX10_stepOn_156 : decode cX10_stepOn 156 = .ok (.bipush 48, 2) := dX10_stepOn_156_b.1
theorem dX10_stepOn_158 : decode cX10_stepOn 158 = .ok (.isub, 1) := dX10_stepOn_156_b.2.1
theorem dX10_stepOn_159 : decode cX10_stepOn 159 = .ok (.invokestatic 211, 3) := dX10_stepOn_156_b.2.2.1
theorem dX10_stepOn_162 : decode cX10_stepOn 162 = .ok (.putfield 207, 3) := dX10_stepOn_156_b.2.2.2.1
theorem dX10_stepOn_165 : decode cX10_stepOn 165 = .ok (.aload_n 0, 1) := dX10_stepOn_156_b.2.2.2.2.1
theorem dX10_stepOn_166 : decode cX10_stepOn 166 = .ok (.dup, 1) := dX10_stepOn_156_b.2.2.2.2.2
set_option maxRecDepth 20000 in
theorem dX10_stepOn_167_b : (decode cX10_stepOn 167 = .ok (.getfield 187, 3)) ∧ (decode cX10_stepOn 170 = .ok (.iconst 1, 1)) ∧ (decode cX10_stepOn 171 = .ok (.iadd, 1)) ∧ (decode cX10_stepOn 172 = .ok (.putfield 187, 3)) ∧ (decode cX10_stepOn 175 = .ok (.goto (-52), 3)) ∧ (decode cX10_stepOn 178 = .ok (.aload_n 0, 1)) := by decide +kernel
theorem dX10_stepOn_167 : decode cX10_stepOn 167 = .ok (.getfield 187, 3) := dX10_stepOn_167_b.1
theorem dX10_stepOn_170 : decode cX10_stepOn 170 = .ok (.iconst 1, 1) := dX10_stepOn_167_b.2.1
theorem dX10_stepOn_171 : decode cX10_stepOn 171 = .ok (.iadd, 1) := dX10_stepOn_167_b.2.2.1
theorem dX10_stepOn_172 : decode cX10_stepOn 172 = .ok (.putfield 187, 3) := dX10_stepOn_167_b.2.2.2.1
theorem dX10_stepOn_175 : decode cX10_stepOn 175 = .ok (.goto (-52), 3) := dX10_stepOn_167_b.2.2.2.2.1
theorem dX10_stepOn_178 : decode cX10_stepOn 178 = .ok (.aload_n 0, 1) := dX10_stepOn_167_b.2.2.2.2.2
set_option maxRecDepth 20000 in
theorem dX10_stepOn_179_b : (decode cX10_stepOn 179 = .ok (.iconst 2, 1)) ∧ (decode cX10_stepOn 180 = .ok (.putfield 197, 3)) ∧ (decode cX10_stepOn 183 = .ok (.goto 29, 3)) ∧ (decode cX10_stepOn 186 = .ok (.aload_n 0, 1)) ∧ (decode cX10_stepOn 187 = .ok (.dup, 1)) ∧ (decode cX10_stepOn 188 = .ok (.getfield 187, 3)) := by decide +kernel
theorem dX10_stepOn_179 : decode cX10_stepOn 179 = .ok (.iconst 2, 1) := dX10_stepOn_179_b.1
theorem dX10_stepOn_180 : decode cX10_stepOn 180 = .ok (.putfield 197, 3) := dX10_stepOn_179_b.2.1
theorem dX10_stepOn_183 : decode cX10_stepOn 183 = .ok (.goto 29, 3) := dX10_stepOn_179_b.2.2.1
theorem dX10_stepOn_186 : decode cX10_stepOn 186 = .ok (.aload_n 0, 1) := dX10_stepOn_179_b.2.2.2.1
theorem dX10_stepOn_187 : decode cX10_stepOn 187 = .ok (.dup, 1) := dX10_stepOn_179_b.2.2.2.2.1
theorem dX10_stepOn_188 : decode cX10_stepOn 188 = .ok (.getfield 187, 3) := dX10_stepOn_179_b.2.2.2.2.2
set_option maxRecDepth 20000 in
theorem dX10_stepOn_191_b : (decode cX10_stepOn 191 = .ok (.iconst 1, 1)) ∧ (decode cX10_stepOn 192 = .ok (.iadd, 1)) ∧ (decode cX10_stepOn 193 = .ok (.putfield 187, 3)) ∧ (decode cX10_stepOn 196 = .ok (.aload_n 0, 1)) ∧ (decode cX10_stepOn 197 = .ok (.iload_n 1, 1)) ∧ (decode cX10_stepOn 198 = .ok (.invokestatic 217, 3)) := by decide +kernel
theorem dX10_stepOn_191 : decode cX10_stepOn 191 = .ok (.iconst 1, 1) := dX10_stepOn_191_b.1
theorem dX10_stepOn_192 : decode cX10_stepOn 192 = .ok (.iadd, 1) := dX10_stepOn_191_b.2.1
theorem dX10_stepOn_193 : decode cX10_stepOn 193 = .ok (.putfield 187, 3) := dX10_stepOn_191_b.2.2.1
theorem dX10_stepOn_196 : decode cX10_stepOn 196 = .ok (.aload_n 0, 1) := dX10_stepOn_191_b.2.2.2.1
theorem dX10_stepOn_197 : decode cX10_stepOn 197 = .ok (.iload_n 1, 1) := dX10_stepOn_191_b.2.2.2.2.1
theorem dX10_stepOn_198 : decode cX10_stepOn 198 = .ok (.invokestatic 217, 3) := dX10_stepOn_191_b.2.2.2.2.2
set_option maxRecDepth 20000 in
theorem dX10_stepOn_201_b : (decode cX10_stepOn 201 = .ok (.ifCond .eq 7, 3)) ∧ (decode cX10_stepOn 204 = .ok (.iconst 3, 1)) ∧ (decode cX10_stepOn 205 = .ok (.goto 4, 3)) ∧ (decode cX10_stepOn 208 = .ok (.iconst 4, 1)) ∧ (decode cX10_stepOn 209 = .ok (.putfield 197, 3)) ∧ (decode cX10_stepOn 212 = .ok (.aload_n 0, 1)) := by decide +kernel
theorem dX10_stepOn_201 : decode cX10_stepOn 201 = .ok (.ifCond .eq 7, 3) := dX10_stepOn_201_b.1
theorem dX10_stepOn_204 : decode cX10_stepOn 204 = .ok (.iconst 3, 1) := dX10_stepOn_201_b.2.1
theorem dX10_stepOn_205 : decode cX10_stepOn 205 = .ok (.goto 4, 3) := dX10_stepOn_201_b.2.2.1
theorem dX10_stepOn_208 : decode cX10_stepOn 208 = .ok (.iconst 4, 1) := dX10_stepOn_201_b.2.2.2.1
theorem dX10_stepOn_209 : decode cX10_stepOn 209 = .ok (.putfield 197, 3) := dX10_stepOn_201_b.2.2.2.2.1
theorem dX10_stepOn_212 : decode cX10_stepOn 212 = .ok (.aload_n 0, 1) := dX10_stepOn_201_b.2.2.2.2.2
set_option maxRecDepth 20000 in
theorem dX10_stepOn_213_b : (decode cX10_stepOn 213 = .ok (.aload_n 0, 1)) ∧ (decode cX10_stepOn 214 = .ok (.getfield 187, 3)) ∧ (decode cX10_stepOn 217 = .ok (.putfield 220, 3)) ∧ (decode cX10_stepOn 220 = .ok (.return_, 1)) := by decide +kernel
theorem dX10_stepOn_213 : decode cX10_stepOn 213 = .ok (.aload_n 0, 1) := dX10_stepOn_213_b.1
theorem dX10_stepOn_214 : decode cX10_stepOn 214 = .ok (.getfield 187, 3) := dX10_stepOn_213_b.2.1
theorem dX10_stepOn_217 : decode cX10_stepOn 217 = .ok (.putfield 220, 3) := dX10_stepOn_213_b.2.2.1
theorem dX10_stepOn_220 : decode cX10_stepOn 220 = .ok (.return_, 1) := dX10_stepOn_213_b.2.2.2
set_option maxRecDepth 20000 in
theorem dX10_wrong_0_b : (decode cX10_wrong 0 = .ok (.aload_n 0, 1)) ∧ (decode cX10_wrong 1 = .ok (.getfield 223, 3)) ∧ (decode cX10_wrong 4 = .ok (.ifCond .eq 4, 3)) ∧ (decode cX10_wrong 7 = .ok (.return_, 1)) ∧ (decode cX10_wrong 8 = .ok (.aload_n 0, 1)) ∧ (decode cX10_wrong 9 = .ok (.iload_n 1, 1)) := by decide +kernel
theorem dX10_wrong_0 : decode cX10_wrong 0 = .ok (.aload_n 0, 1) := dX10_wrong_0_b.1
theorem dX10_wrong_1 : decode cX10_wrong 1 = .ok (.getfield 223, 3) := dX10_wrong_0_b.2.1
theorem dX10_wrong_4 : decode cX10_wrong 4 = .ok (.ifCond .eq 4, 3) := dX10_wrong_0_b.2.2.1
theorem dX10_wrong_7 : decode cX10_wrong 7 = .ok (.return_, 1) := dX10_wrong_0_b.2.2.2.1
theorem dX10_wrong_8 : decode cX10_wrong 8 = .ok (.aload_n 0, 1) := dX10_wrong_0_b.2.2.2.2.1
theorem dX10_wrong_9 : decode cX10_wrong 9 = .ok (.iload_n 1, 1) := dX10_wrong_0_b.2.2.2.2.2
set_option maxRecDepth 20000 in
theorem dX10_wrong_10_b : (decode cX10_wrong 10 = .ok (.putfield 223, 3)) ∧ (decode cX10_wrong 13 = .ok (.aload_n 0, 1)) ∧ (decode cX10_wrong 14 = .ok (.aload_n 0, 1)) ∧ (decode cX10_wrong 15 = .ok (.getfield 194, 3)) ∧ (decode cX10_wrong 18 = .ok (.putfield 226, 3)) ∧ (decode cX10_wrong 21 = .ok (.return_, 1)) := by decide +kernel
theorem dX10_wrong_10 : decode cX10_wrong 10 = .ok (.putfield 223, 3) := dX10_wrong_10_b.1
theorem dX10_wrong_13 : decode cX10_wrong 13 = .ok (.aload_n 0, 1) := dX10_wrong_10_b.2.1
theorem dX10_wrong_14 : decode cX10_wrong 14 = .ok (.aload_n 0, 1) := dX10_wrong_10_b.2.2.1
theorem dX10_wrong_15 : decode cX10_wrong 15 = .ok (.getfield 194, 3) := dX10_wrong_10_b.2.2.2.1
theorem dX10_wrong_18 : decode cX10_wrong 18 = .ok (.putfield 226, 3) := dX10_wrong_10_b.2.2.2.2.1
theorem dX10_wrong_21 : decode cX10_wrong 21 = .ok (.return_, 1) := dX10_wrong_10_b.2.2.2.2.2
set_option maxRecDepth 20000 in
theorem dX10_is_0_b : (decode cX10_is 0 = .ok (.aload_n 0, 1)) ∧ (decode cX10_is 1 = .ok (.getfield 223, 3)) ∧ (decode cX10_is 4 = .ok (.ifCond .ne 31, 3)) ∧ (decode cX10_is 7 = .ok (.aload_n 0, 1)) ∧ (decode cX10_is 8 = .ok (.getfield 197, 3)) ∧ (decode cX10_is 11 = .ok (.iconst 1, 1)) := by decide +kernel
theorem dX10_is_0 : decode cX10_is 0 = .ok (.aload_n 0, 1) := dX10_is_0_b.1
theorem dX10_is_1 : decode cX10_is 1 = .ok (.getfield 223, 3) := dX10_is_0_b.2.1
theorem dX10_is_4 : decode cX10_is 4 = .ok (.ifCond .ne 31, 3) := dX10_is_0_b.2.2.1
theorem dX10_is_7 : decode cX10_is 7 = .ok (.aload_n 0, 1) := dX10_is_0_b.2.2.2.1
theorem dX10_is_8 : decode cX10_is 8 = .ok (.getfield 197, 3) := dX10_is_0_b.2.2.2.2.1
theorem dX10_is_11 : decode cX10_is 11 = .ok (.iconst 1, 1) := dX10_is_0_b.2.2.2.2.2
set_option maxRecDepth 20000 in
theorem dX10_is_12_b : (decode cX10_is 12 = .ok (.if_icmp .ne 23, 3)) ∧ (decode cX10_is 15 = .ok (.aload_n 1, 1)) ∧ (decode cX10_is 16 = .ok (.invokevirtual 229, 3)) ∧ (decode cX10_is 19 = .ok (.aload_n 0, 1)) ∧ (decode cX10_is 20 = .ok (.getfield 220, 3)) ∧ (decode cX10_is 23 = .ok (.aload_n 0, 1)) := by decide +kernel
theorem dX10_is_12 : decode cX10_is 12 = .ok (.if_icmp .ne 23, 3) := dX10_is_12_b.1
theorem dX10_is_15 : decode cX10_is 15 = .ok (.aload_n 1, 1) := dX10_is_12_b.2.1
theorem dX10_is_16 : decode cX10_is 16 = .ok (.invokevirtual 229, 3) := dX10_is_12_b.2.2.1
theorem dX10_is_19 : decode cX10_is 19 = .ok (.aload_n 0, 1) := dX10_is_12_b.2.2.2.1
theorem dX10_is_20 : decode cX10_is 20 = .ok (.getfield 220, 3) := dX10_is_12_b.2.2.2.2.1
theorem dX10_is_23 : decode cX10_is 23 = .ok (.aload_n 0, 1) := dX10_is_12_b.2.2.2.2.2
set_option maxRecDepth 20000 in
theorem dX10_is_24_b : (decode cX10_is 24 = .ok (.getfield 194, 3)) ∧ (decode cX10_is 27 = .ok (.isub, 1)) ∧ (decode cX10_is 28 = .ok (.if_icmp .ne 7, 3)) ∧ (decode cX10_is 31 = .ok (.iconst 1, 1)) ∧ (decode cX10_is 32 = .ok (.goto 4, 3)) ∧ (decode cX10_is 35 = .ok (.iconst 0, 1)) := by decide +kernel
theorem dX10_is_24 : decode cX10_is 24 = .ok (.getfield 194, 3) := dX10_is_24_b.1
theorem dX10_is_27 : decode cX10_is 27 = .ok (.isub, 1) := dX10_is_24_b.2.1
theorem dX10_is_28 : decode cX10_is 28 = .ok (.if_icmp .ne 7, 3) := dX10_is_24_b.2.2.1
theorem dX10_is_31 : decode cX10_is 31 = .ok (.iconst 1, 1) := dX10_is_24_b.2.2.2.1
theorem dX10_is_32 : decode cX10_is 32 = .ok (.goto 4, 3) := dX10_is_24_b.2.2.2.2.1
theorem dX10_is_35 : decode cX10_is 35 = .ok (.iconst 0, 1) := dX10_is_24_b.2.2.2.2.2
set_option maxRecDepth 20000 in
theorem dX10_is_36_b : (decode cX10_is 36 = .ok (.istore_n 2, 1)) ∧ (decode cX10_is 37 = .ok (.iconst 0, 1)) ∧ (decode cX10_is 38 = .ok (.istore_n 3, 1)) ∧ (decode cX10_is 39 = .ok (.iload_n 2, 1)) ∧ (decode cX10_is 40 = .ok (.ifCond .eq 42, 3)) ∧ (decode cX10_is 43 = .ok (.iload_n 3, 1)) := by decide +kernel
theorem dX10_is_36 : decode cX10_is 36 = .ok (.istore_n 2, 1) := dX10_is_36_b.1
theorem dX10_is_37 : decode cX10_is 37 = .ok (.iconst 0, 1) := dX10_is_36_b.2.1
theorem dX10_is_38 : decode cX10_is 38 = .ok (.istore_n 3, 1) := dX10_is_36_b.2.2.1
theorem dX10_is_39 : decode cX10_is 39 = .ok (.iload_n 2, 1) := dX10_is_36_b.2.2.2.1
theorem dX10_is_40 : decode cX10_is 40 = .ok (.ifCond .eq 42, 3) := dX10_is_36_b.2.2.2.2.1
theorem dX10_is_43 : decode cX10_is 43 = .ok (.iload_n 3, 1) := dX10_is_36_b.2.2.2.2.2
set_option maxRecDepth 20000 in
theorem dX10_is_44_b : (decode cX10_is 44 = .ok (.aload_n 1, 1)) ∧ (decode cX10_is 45 = .ok (.invokevirtual 229, 3)) ∧ (decode cX10_is 48 = .ok (.if_icmp .ge 34, 3)) ∧ (decode cX10_is 51 = .ok (.aload_n 1, 1)) ∧ (decode cX10_is 52 = .ok (.iload_n 3, 1)) ∧ (decode cX10_is 53 = .ok (.invokevirtual 233, 3)) := by decide +kernel
theorem dX10_is_44 : decode cX10_is 44 = .ok (.aload_n 1, 1) := dX10_is_44_b.1
theorem dX10_is_45 : decode cX10_is 45 = .ok (.invokevirtual 229, 3) := dX10_is_44_b.2.1
theorem dX10_is_48 : decode cX10_is 48 = .ok (.if_icmp .ge 34, 3) := dX10_is_44_b.2.2.1
theorem dX10_is_51 : decode cX10_is 51 = .ok (.aload_n 1, 1) := dX10_is_44_b.2.2.2.1
theorem dX10_is_52 : decode cX10_is 52 = .ok (.iload_n 3, 1) := dX10_is_44_b.2.2.2.2.1
theorem dX10_is_53 : decode cX10_is 53 = .ok (.invokevirtual 233, 3) := dX10_is_44_b.2.2.2.2.2
set_option maxRecDepth 20000 in
theorem dX10_is_56_b : (decode cX10_is 56 = .ok (.aload_n 0, 1)) ∧ (decode cX10_is 57 = .ok (.getfield 80, 3)) ∧ (decode cX10_is 60 = .ok (.aload_n 0, 1)) ∧ (decode cX10_is 61 = .ok (.getfield 194, 3)) ∧ (decode cX10_is 64 = .ok (.iload_n 3, 1)) ∧ (decode cX10_is 65 = .ok (.iadd, 1)) := by decide +kernel
theorem dX10_is_56 : decode cX10_is 56 = .ok (.aload_n 0, 1) := dX10_is_56_b.1
theorem dX10_is_57 : decode cX10_is 57 = .ok (.getfield 80, 3) := dX10_is_56_b.2.1
theorem dX10_is_60 : decode cX10_is 60 = .ok (.aload_n 0, 1) := dX10_is_56_b.2.2.1
theorem dX10_is_61 : decode cX10_is 61 = .ok (.getfield 194, 3) := dX10_is_56_b.2.2.2.1
theorem dX10_is_64 : decode cX10_is 64 = .ok (.iload_n 3, 1) := dX10_is_56_b.2.2.2.2.1
theorem dX10_is_65 : decode cX10_is 65 = .ok (.iadd, 1) := dX10_is_56_b.2.2.2.2.2
set_option maxRecDepth 20000 in
theorem dX10_is_66_b : (decode cX10_is 66 = .ok (.iaload, 1)) ∧ (decode cX10_is 67 = .ok (.if_icmp .ne 7, 3)) ∧ (decode cX10_is 70 = .ok (.iconst 1, 1)) ∧ (decode cX10_is 71 = .ok (.goto 4, 3)) ∧ (decode cX10_is 74 = .ok (.iconst 0, 1)) ∧ (decode cX10_is 75 = .ok (.istore_n 2, 1)) := by decide +kernel
theorem dX10_is_66 : decode cX10_is 66 = .ok (.iaload, 1) := dX10_is_66_b.1
theorem dX10_is_67 : decode cX10_is 67 = .ok (.if_icmp .ne 7, 3) := dX10_is_66_b.2.1
theorem dX10_is_70 : decode cX10_is 70 = .ok (.iconst 1, 1) := dX10_is_66_b.2.2.1
theorem dX10_is_71 : decode cX10_is 71 = .ok (.goto 4, 3) := dX10_is_66_b.2.2.2.1
theorem dX10_is_74 : decode cX10_is 74 = .ok (.iconst 0, 1) := dX10_is_66_b.2.2.2.2.1
theorem dX10_is_75 : decode cX10_is 75 = .ok (.istore_n 2, 1) := dX10_is_66_b.2.2.2.2.2
set_option maxRecDepth 20000 in
theorem dX10_is_76_b : (decode cX10_is 76 = .ok (.iinc 3 1, 3)) ∧ (decode cX10_is 79 = .ok (.goto (-40), 3)) ∧ (decode cX10_is 82 = .ok (.iload_n 2, 1)) ∧ (decode cX10_is 83 = .ok (.ireturn, 1)) := by decide +kernel
theorem dX10_is_76 : decode cX10_is 76 = .ok (.iinc 3 1, 3) := dX10_is_76_b.1
theorem dX10_is_79 : decode cX10_is 79 = .ok (.goto (-40), 3) := dX10_is_76_b.2.1
theorem dX10_is_82 : decode cX10_is 82 = .ok (.iload_n 2, 1) := dX10_is_76_b.2.2.1
theorem dX10_is_83 : decode cX10_is 83 = .ok (.ireturn, 1) := dX10_is_76_b.2.2.2
set_option maxRecDepth 20000 in
theorem dX10_isMarked_0_b : (decode cX10_isMarked 0 = .ok (.aload_n 0, 1)) ∧ (decode cX10_isMarked 1 = .ok (.getfield 223, 3)) ∧ (decode cX10_isMarked 4 = .ok (.ifCond .ne 28, 3)) ∧ (decode cX10_isMarked 7 = .ok (.aload_n 0, 1)) ∧ (decode cX10_isMarked 8 = .ok (.getfield 197, 3)) ∧ (decode cX10_isMarked 11 = .ok (.iconst 3, 1)) := by decide +kernel
theorem dX10_isMarked_0 : decode cX10_isMarked 0 = .ok (.aload_n 0, 1) := dX10_isMarked_0_b.1
theorem dX10_isMarked_1 : decode cX10_isMarked 1 = .ok (.getfield 223, 3) := dX10_isMarked_0_b.2.1
theorem dX10_isMarked_4 : decode cX10_isMarked 4 = .ok (.ifCond .ne 28, 3) := dX10_isMarked_0_b.2.2.1
theorem dX10_isMarked_7 : decode cX10_isMarked 7 = .ok (.aload_n 0, 1) := dX10_isMarked_0_b.2.2.2.1
theorem dX10_isMarked_8 : decode cX10_isMarked 8 = .ok (.getfield 197, 3) := dX10_isMarked_0_b.2.2.2.2.1
theorem dX10_isMarked_11 : decode cX10_isMarked 11 = .ok (.iconst 3, 1) := dX10_isMarked_0_b.2.2.2.2.2
set_option maxRecDepth 20000 in
theorem dX10_isMarked_12_b : (decode cX10_isMarked 12 = .ok (.if_icmp .ne 20, 3)) ∧ (decode cX10_isMarked 15 = .ok (.aload_n 0, 1)) ∧ (decode cX10_isMarked 16 = .ok (.getfield 80, 3)) ∧ (decode cX10_isMarked 19 = .ok (.aload_n 0, 1)) ∧ (decode cX10_isMarked 20 = .ok (.getfield 194, 3)) ∧ (decode cX10_isMarked 23 = .ok (.iaload, 1)) := by decide +kernel
theorem dX10_isMarked_12 : decode cX10_isMarked 12 = .ok (.if_icmp .ne 20, 3) := dX10_isMarked_12_b.1
theorem dX10_isMarked_15 : decode cX10_isMarked 15 = .ok (.aload_n 0, 1) := dX10_isMarked_12_b.2.1
theorem dX10_isMarked_16 : decode cX10_isMarked 16 = .ok (.getfield 80, 3) := dX10_isMarked_12_b.2.2.1
theorem dX10_isMarked_19 : decode cX10_isMarked 19 = .ok (.aload_n 0, 1) := dX10_isMarked_12_b.2.2.2.1
theorem dX10_isMarked_20 : decode cX10_isMarked 20 = .ok (.getfield 194, 3) := dX10_isMarked_12_b.2.2.2.2.1
theorem dX10_isMarked_23 : decode cX10_isMarked 23 = .ok (.iaload, 1) := dX10_isMarked_12_b.2.2.2.2.2
set_option maxRecDepth 20000 in
theorem dX10_isMarked_24_b : (decode cX10_isMarked 24 = .ok (.iload_n 1, 1)) ∧ (decode cX10_isMarked 25 = .ok (.if_icmp .ne 7, 3)) ∧ (decode cX10_isMarked 28 = .ok (.iconst 1, 1)) ∧ (decode cX10_isMarked 29 = .ok (.goto 4, 3)) ∧ (decode cX10_isMarked 32 = .ok (.iconst 0, 1)) ∧ (decode cX10_isMarked 33 = .ok (.ireturn, 1)) := by decide +kernel
theorem dX10_isMarked_24 : decode cX10_isMarked 24 = .ok (.iload_n 1, 1) := dX10_isMarked_24_b.1
theorem dX10_isMarked_25 : decode cX10_isMarked 25 = .ok (.if_icmp .ne 7, 3) := dX10_isMarked_24_b.2.1
theorem dX10_isMarked_28 : decode cX10_isMarked 28 = .ok (.iconst 1, 1) := dX10_isMarked_24_b.2.2.1
theorem dX10_isMarked_29 : decode cX10_isMarked 29 = .ok (.goto 4, 3) := dX10_isMarked_24_b.2.2.2.1
theorem dX10_isMarked_32 : decode cX10_isMarked 32 = .ok (.iconst 0, 1) := dX10_isMarked_24_b.2.2.2.2.1
theorem dX10_isMarked_33 : decode cX10_isMarked 33 = .ok (.ireturn, 1) := dX10_isMarked_24_b.2.2.2.2.2
set_option maxRecDepth 20000 in
theorem dX10_which_0_b : (decode cX10_which 0 = .ok (.iconst 0, 1)) ∧ (decode cX10_which 1 = .ok (.istore_n 2, 1)) ∧ (decode cX10_which 2 = .ok (.iload_n 2, 1)) ∧ (decode cX10_which 3 = .ok (.aload_n 1, 1)) ∧ (decode cX10_which 4 = .ok (.arraylength, 1)) ∧ (decode cX10_which 5 = .ok (.if_icmp .ge 21, 3)) := by decide +kernel
theorem dX10_which_0 : decode cX10_which 0 = .ok (.iconst 0, 1) := dX10_which_0_b.1
theorem dX10_which_1 : decode cX10_which 1 = .ok (.istore_n 2, 1) := dX10_which_0_b.2.1
theorem dX10_which_2 : decode cX10_which 2 = .ok (.iload_n 2, 1) := dX10_which_0_b.2.2.1
theorem dX10_which_3 : decode cX10_which 3 = .ok (.aload_n 1, 1) := dX10_which_0_b.2.2.2.1
theorem dX10_which_4 : decode cX10_which 4 = .ok (.arraylength, 1) := dX10_which_0_b.2.2.2.2.1
theorem dX10_which_5 : decode cX10_which 5 = .ok (.if_icmp .ge 21, 3) := dX10_which_0_b.2.2.2.2.2
set_option maxRecDepth 20000 in
theorem dX10_which_8_b : (decode cX10_which 8 = .ok (.aload_n 0, 1)) ∧ (decode cX10_which 9 = .ok (.aload_n 1, 1)) ∧ (decode cX10_which 10 = .ok (.iload_n 2, 1)) ∧ (decode cX10_which 11 = .ok (.aaload, 1)) ∧ (decode cX10_which 12 = .ok (.invokevirtual 237, 3)) ∧ (decode cX10_which 15 = .ok (.ifCond .eq 5, 3)) := by decide +kernel
theorem dX10_which_8 : decode cX10_which 8 = .ok (.aload_n 0, 1) := dX10_which_8_b.1
theorem dX10_which_9 : decode cX10_which 9 = .ok (.aload_n 1, 1) := dX10_which_8_b.2.1
theorem dX10_which_10 : decode cX10_which 10 = .ok (.iload_n 2, 1) := dX10_which_8_b.2.2.1
theorem dX10_which_11 : decode cX10_which 11 = .ok (.aaload, 1) := dX10_which_8_b.2.2.2.1
theorem dX10_which_12 : decode cX10_which 12 = .ok (.invokevirtual 237, 3) := dX10_which_8_b.2.2.2.2.1
theorem dX10_which_15 : decode cX10_which 15 = .ok (.ifCond .eq 5, 3) := dX10_which_8_b.2.2.2.2.2
set_option maxRecDepth 20000 in
theorem dX10_which_18_b : (decode cX10_which 18 = .ok (.iload_n 2, 1)) ∧ (decode cX10_which 19 = .ok (.ireturn, 1)) ∧ (decode cX10_which 20 = .ok (.iinc 2 1, 3)) ∧ (decode cX10_which 23 = .ok (.goto (-21), 3)) ∧ (decode cX10_which 26 = .ok (.iconst (-1), 1)) ∧ (decode cX10_which 27 = .ok (.ireturn, 1)) := by decide +kernel
theorem dX10_which_18 : decode cX10_which 18 = .ok (.iload_n 2, 1) := dX10_which_18_b.1
theorem dX10_which_19 : decode cX10_which 19 = .ok (.ireturn, 1) := dX10_which_18_b.2.1
theorem dX10_which_20 : decode cX10_which 20 = .ok (.iinc 2 1, 3) := dX10_which_18_b.2.2.1
theorem dX10_which_23 : decode cX10_which 23 = .ok (.goto (-21), 3) := dX10_which_18_b.2.2.2.1
theorem dX10_which_26 : decode cX10_which 26 = .ok (.iconst (-1), 1) := dX10_which_18_b.2.2.2.2.1
theorem dX10_which_27 : decode cX10_which 27 = .ok (.ireturn, 1) := dX10_which_18_b.2.2.2.2.2
set_option maxRecDepth 20000 in
theorem dX10_passes_0_b : (decode cX10_passes 0 = .ok (.aload_n 0, 1)) ∧ (decode cX10_passes 1 = .ok (.aload_n 1, 1)) ∧ (decode cX10_passes 2 = .ok (.invokevirtual 237, 3)) ∧ (decode cX10_passes 5 = .ok (.istore_n 2, 1)) ∧ (decode cX10_passes 6 = .ok (.iload_n 2, 1)) ∧ (decode cX10_passes 7 = .ok (.ifCond .eq 7, 3)) := by decide +kernel
theorem dX10_passes_0 : decode cX10_passes 0 = .ok (.aload_n 0, 1) := dX10_passes_0_b.1
theorem dX10_passes_1 : decode cX10_passes 1 = .ok (.aload_n 1, 1) := dX10_passes_0_b.2.1
theorem dX10_passes_2 : decode cX10_passes 2 = .ok (.invokevirtual 237, 3) := dX10_passes_0_b.2.2.1
theorem dX10_passes_5 : decode cX10_passes 5 = .ok (.istore_n 2, 1) := dX10_passes_0_b.2.2.2.1
theorem dX10_passes_6 : decode cX10_passes 6 = .ok (.iload_n 2, 1) := dX10_passes_0_b.2.2.2.2.1
theorem dX10_passes_7 : decode cX10_passes 7 = .ok (.ifCond .eq 7, 3) := dX10_passes_0_b.2.2.2.2.2
set_option maxRecDepth 20000 in
theorem dX10_passes_10_b : (decode cX10_passes 10 = .ok (.aload_n 0, 1)) ∧ (decode cX10_passes 11 = .ok (.invokevirtual 241, 3)) ∧ (decode cX10_passes 14 = .ok (.iload_n 2, 1)) ∧ (decode cX10_passes 15 = .ok (.ireturn, 1)) := by decide +kernel
theorem dX10_passes_10 : decode cX10_passes 10 = .ok (.aload_n 0, 1) := dX10_passes_10_b.1
theorem dX10_passes_11 : decode cX10_passes 11 = .ok (.invokevirtual 241, 3) := dX10_passes_10_b.2.1
theorem dX10_passes_14 : decode cX10_passes 14 = .ok (.iload_n 2, 1) := dX10_passes_10_b.2.2.1
theorem dX10_passes_15 : decode cX10_passes 15 = .ok (.ireturn, 1) := dX10_passes_10_b.2.2.2
set_option maxRecDepth 20000 in
theorem dX10_wordIs_0_b : (decode cX10_wordIs 0 = .ok (.aload_n 0, 1)) ∧ (decode cX10_wordIs 1 = .ok (.getfield 223, 3)) ∧ (decode cX10_wordIs 4 = .ok (.ifCond .ne 16, 3)) ∧ (decode cX10_wordIs 7 = .ok (.aload_n 0, 1)) ∧ (decode cX10_wordIs 8 = .ok (.aload_n 1, 1)) ∧ (decode cX10_wordIs 9 = .ok (.invokevirtual 237, 3)) := by decide +kernel
theorem dX10_wordIs_0 : decode cX10_wordIs 0 = .ok (.aload_n 0, 1) := dX10_wordIs_0_b.1
theorem dX10_wordIs_1 : decode cX10_wordIs 1 = .ok (.getfield 223, 3) := dX10_wordIs_0_b.2.1
theorem dX10_wordIs_4 : decode cX10_wordIs 4 = .ok (.ifCond .ne 16, 3) := dX10_wordIs_0_b.2.2.1
theorem dX10_wordIs_7 : decode cX10_wordIs 7 = .ok (.aload_n 0, 1) := dX10_wordIs_0_b.2.2.2.1
theorem dX10_wordIs_8 : decode cX10_wordIs 8 = .ok (.aload_n 1, 1) := dX10_wordIs_0_b.2.2.2.2.1
theorem dX10_wordIs_9 : decode cX10_wordIs 9 = .ok (.invokevirtual 237, 3) := dX10_wordIs_0_b.2.2.2.2.2
set_option maxRecDepth 20000 in
theorem dX10_wordIs_12_b : (decode cX10_wordIs 12 = .ok (.ifCond .ne 8, 3)) ∧ (decode cX10_wordIs 15 = .ok (.aload_n 0, 1)) ∧ (decode cX10_wordIs 16 = .ok (.iconst 1, 1)) ∧ (decode cX10_wordIs 17 = .ok (.invokevirtual 244, 3)) ∧ (decode cX10_wordIs 20 = .ok (.aload_n 0, 1)) ∧ (decode cX10_wordIs 21 = .ok (.getfield 223, 3)) := by decide +kernel
theorem dX10_wordIs_12 : decode cX10_wordIs 12 = .ok (.ifCond .ne 8, 3) := dX10_wordIs_12_b.1
theorem dX10_wordIs_15 : decode cX10_wordIs 15 = .ok (.aload_n 0, 1) := dX10_wordIs_12_b.2.1
theorem dX10_wordIs_16 : decode cX10_wordIs 16 = .ok (.iconst 1, 1) := dX10_wordIs_12_b.2.2.1
theorem dX10_wordIs_17 : decode cX10_wordIs 17 = .ok (.invokevirtual 244, 3) := dX10_wordIs_12_b.2.2.2.1
theorem dX10_wordIs_20 : decode cX10_wordIs 20 = .ok (.aload_n 0, 1) := dX10_wordIs_12_b.2.2.2.2.1
theorem dX10_wordIs_21 : decode cX10_wordIs 21 = .ok (.getfield 223, 3) := dX10_wordIs_12_b.2.2.2.2.2
set_option maxRecDepth 20000 in
theorem dX10_wordIs_24_b : (decode cX10_wordIs 24 = .ok (.ifCond .ne 7, 3)) ∧ (decode cX10_wordIs 27 = .ok (.aload_n 0, 1)) ∧ (decode cX10_wordIs 28 = .ok (.invokevirtual 241, 3)) ∧ (decode cX10_wordIs 31 = .ok (.return_, 1)) := by decide +kernel
theorem dX10_wordIs_24 : decode cX10_wordIs 24 = .ok (.ifCond .ne 7, 3) := dX10_wordIs_24_b.1
theorem dX10_wordIs_27 : decode cX10_wordIs 27 = .ok (.aload_n 0, 1) := dX10_wordIs_24_b.2.1
theorem dX10_wordIs_28 : decode cX10_wordIs 28 = .ok (.invokevirtual 241, 3) := dX10_wordIs_24_b.2.2.1
theorem dX10_wordIs_31 : decode cX10_wordIs 31 = .ok (.return_, 1) := dX10_wordIs_24_b.2.2.2
set_option maxRecDepth 20000 in
theorem dX10_mark_0_b : (decode cX10_mark 0 = .ok (.aload_n 0, 1)) ∧ (decode cX10_mark 1 = .ok (.getfield 223, 3)) ∧ (decode cX10_mark 4 = .ok (.ifCond .ne 16, 3)) ∧ (decode cX10_mark 7 = .ok (.aload_n 0, 1)) ∧ (decode cX10_mark 8 = .ok (.iload_n 1, 1)) ∧ (decode cX10_mark 9 = .ok (.invokevirtual 247, 3)) := by decide +kernel
theorem dX10_mark_0 : decode cX10_mark 0 = .ok (.aload_n 0, 1) := dX10_mark_0_b.1
theorem dX10_mark_1 : decode cX10_mark 1 = .ok (.getfield 223, 3) := dX10_mark_0_b.2.1
theorem dX10_mark_4 : decode cX10_mark 4 = .ok (.ifCond .ne 16, 3) := dX10_mark_0_b.2.2.1
theorem dX10_mark_7 : decode cX10_mark 7 = .ok (.aload_n 0, 1) := dX10_mark_0_b.2.2.2.1
theorem dX10_mark_8 : decode cX10_mark 8 = .ok (.iload_n 1, 1) := dX10_mark_0_b.2.2.2.2.1
theorem dX10_mark_9 : decode cX10_mark 9 = .ok (.invokevirtual 247, 3) := dX10_mark_0_b.2.2.2.2.2
set_option maxRecDepth 20000 in
theorem dX10_mark_12_b : (decode cX10_mark 12 = .ok (.ifCond .ne 8, 3)) ∧ (decode cX10_mark 15 = .ok (.aload_n 0, 1)) ∧ (decode cX10_mark 16 = .ok (.iconst 1, 1)) ∧ (decode cX10_mark 17 = .ok (.invokevirtual 244, 3)) ∧ (decode cX10_mark 20 = .ok (.aload_n 0, 1)) ∧ (decode cX10_mark 21 = .ok (.getfield 223, 3)) := by decide +kernel
theorem dX10_mark_12 : decode cX10_mark 12 = .ok (.ifCond .ne 8, 3) := dX10_mark_12_b.1
theorem dX10_mark_15 : decode cX10_mark 15 = .ok (.aload_n 0, 1) := dX10_mark_12_b.2.1
theorem dX10_mark_16 : decode cX10_mark 16 = .ok (.iconst 1, 1) := dX10_mark_12_b.2.2.1
theorem dX10_mark_17 : decode cX10_mark 17 = .ok (.invokevirtual 244, 3) := dX10_mark_12_b.2.2.2.1
theorem dX10_mark_20 : decode cX10_mark 20 = .ok (.aload_n 0, 1) := dX10_mark_12_b.2.2.2.2.1
theorem dX10_mark_21 : decode cX10_mark 21 = .ok (.getfield 223, 3) := dX10_mark_12_b.2.2.2.2.2
set_option maxRecDepth 20000 in
theorem dX10_mark_24_b : (decode cX10_mark 24 = .ok (.ifCond .ne 7, 3)) ∧ (decode cX10_mark 27 = .ok (.aload_n 0, 1)) ∧ (decode cX10_mark 28 = .ok (.invokevirtual 241, 3)) ∧ (decode cX10_mark 31 = .ok (.return_, 1)) := by decide +kernel
theorem dX10_mark_24 : decode cX10_mark 24 = .ok (.ifCond .ne 7, 3) := dX10_mark_24_b.1
theorem dX10_mark_27 : decode cX10_mark 27 = .ok (.aload_n 0, 1) := dX10_mark_24_b.2.1
theorem dX10_mark_28 : decode cX10_mark 28 = .ok (.invokevirtual 241, 3) := dX10_mark_24_b.2.2.1
theorem dX10_mark_31 : decode cX10_mark 31 = .ok (.return_, 1) := dX10_mark_24_b.2.2.2
set_option maxRecDepth 20000 in
theorem dX10_readNumber_0_b : (decode cX10_readNumber 0 = .ok (.aload_n 0, 1)) ∧ (decode cX10_readNumber 1 = .ok (.getfield 223, 3)) ∧ (decode cX10_readNumber 4 = .ok (.ifCond .eq 5, 3)) ∧ (decode cX10_readNumber 7 = .ok (.iconst 0, 1)) ∧ (decode cX10_readNumber 8 = .ok (.ireturn, 1)) ∧ (decode cX10_readNumber 9 = .ok (.aload_n 0, 1)) := by decide +kernel
theorem dX10_readNumber_0 : decode cX10_readNumber 0 = .ok (.aload_n 0, 1) := dX10_readNumber_0_b.1
theorem dX10_readNumber_1 : decode cX10_readNumber 1 = .ok (.getfield 223, 3) := dX10_readNumber_0_b.2.1
theorem dX10_readNumber_4 : decode cX10_readNumber 4 = .ok (.ifCond .eq 5, 3) := dX10_readNumber_0_b.2.2.1
theorem dX10_readNumber_7 : decode cX10_readNumber 7 = .ok (.iconst 0, 1) := dX10_readNumber_0_b.2.2.2.1
theorem dX10_readNumber_8 : decode cX10_readNumber 8 = .ok (.ireturn, 1) := dX10_readNumber_0_b.2.2.2.2.1
theorem dX10_readNumber_9 : decode cX10_readNumber 9 = .ok (.aload_n 0, 1) := dX10_readNumber_0_b.2.2.2.2.2
set_option maxRecDepth 20000 in
theorem dX10_readNumber_10_b : (decode cX10_readNumber 10 = .ok (.getfield 197, 3)) ∧ (decode cX10_readNumber 13 = .ok (.iconst 2, 1)) ∧ (decode cX10_readNumber 14 = .ok (.if_icmp .eq 11, 3)) ∧ (decode cX10_readNumber 17 = .ok (.aload_n 0, 1)) ∧ (decode cX10_readNumber 18 = .ok (.iconst 1, 1)) ∧ (decode cX10_readNumber 19 = .ok (.invokevirtual 244, 3)) := by decide +kernel
theorem dX10_readNumber_10 : decode cX10_readNumber 10 = .ok (.getfield 197, 3) := dX10_readNumber_10_b.1
theorem dX10_readNumber_13 : decode cX10_readNumber 13 = .ok (.iconst 2, 1) := dX10_readNumber_10_b.2.1
theorem dX10_readNumber_14 : decode cX10_readNumber 14 = .ok (.if_icmp .eq 11, 3) := dX10_readNumber_10_b.2.2.1
theorem dX10_readNumber_17 : decode cX10_readNumber 17 = .ok (.aload_n 0, 1) := dX10_readNumber_10_b.2.2.2.1
theorem dX10_readNumber_18 : decode cX10_readNumber 18 = .ok (.iconst 1, 1) := dX10_readNumber_10_b.2.2.2.2.1
theorem dX10_readNumber_19 : decode cX10_readNumber 19 = .ok (.invokevirtual 244, 3) := dX10_readNumber_10_b.2.2.2.2.2
set_option maxRecDepth 20000 in
theorem dX10_readNumber_22_b : (decode cX10_readNumber 22 = .ok (.goto 37, 3)) ∧ (decode cX10_readNumber 25 = .ok (.aload_n 0, 1)) ∧ (decode cX10_readNumber 26 = .ok (.getfield 220, 3)) ∧ (decode cX10_readNumber 29 = .ok (.aload_n 0, 1)) ∧ (decode cX10_readNumber 30 = .ok (.getfield 194, 3)) ∧ (decode cX10_readNumber 33 = .ok (.isub, 1)) := by decide +kernel
theorem dX10_readNumber_22 : decode cX10_readNumber 22 = .ok (.goto 37, 3) := dX10_readNumber_22_b.1
theorem dX10_readNumber_25 : decode cX10_readNumber 25 = .ok (.aload_n 0, 1) := dX10_readNumber_22_b.2.1
theorem dX10_readNumber_26 : decode cX10_readNumber 26 = .ok (.getfield 220, 3) := dX10_readNumber_22_b.2.2.1
theorem dX10_readNumber_29 : decode cX10_readNumber 29 = .ok (.aload_n 0, 1) := dX10_readNumber_22_b.2.2.2.1
theorem dX10_readNumber_30 : decode cX10_readNumber 30 = .ok (.getfield 194, 3) := dX10_readNumber_22_b.2.2.2.2.1
theorem dX10_readNumber_33 : decode cX10_readNumber 33 = .ok (.isub, 1) := dX10_readNumber_22_b.2.2.2.2.2
set_option maxRecDepth 20000 in
theorem dX10_readNumber_34_b : (decode cX10_readNumber 34 = .ok (.iconst 4, 1)) ∧ (decode cX10_readNumber 35 = .ok (.if_icmp .gt 19, 3)) ∧ (decode cX10_readNumber 38 = .ok (.aload_n 0, 1)) ∧ (decode cX10_readNumber 39 = .ok (.getfield 207, 3)) ∧ (decode cX10_readNumber 42 = .ok (.iload_n 1, 1)) ∧ (decode cX10_readNumber 43 = .ok (.if_icmp .lt 11, 3)) := by decide +kernel
theorem dX10_readNumber_34 : decode cX10_readNumber 34 = .ok (.iconst 4, 1) := dX10_readNumber_34_b.1
theorem dX10_readNumber_35 : decode cX10_readNumber 35 = .ok (.if_icmp .gt 19, 3) := dX10_readNumber_34_b.2.1
theorem dX10_readNumber_38 : decode cX10_readNumber 38 = .ok (.aload_n 0, 1) := dX10_readNumber_34_b.2.2.1
theorem dX10_readNumber_39 : decode cX10_readNumber 39 = .ok (.getfield 207, 3) := dX10_readNumber_34_b.2.2.2.1
theorem dX10_readNumber_42 : decode cX10_readNumber 42 = .ok (.iload_n 1, 1) := dX10_readNumber_34_b.2.2.2.2.1
theorem dX10_readNumber_43 : decode cX10_readNumber 43 = .ok (.if_icmp .lt 11, 3) := dX10_readNumber_34_b.2.2.2.2.2
set_option maxRecDepth 20000 in
theorem dX10_readNumber_46_b : (decode cX10_readNumber 46 = .ok (.aload_n 0, 1)) ∧ (decode cX10_readNumber 47 = .ok (.getfield 207, 3)) ∧ (decode cX10_readNumber 50 = .ok (.iload_n 2, 1)) ∧ (decode cX10_readNumber 51 = .ok (.if_icmp .le 8, 3)) ∧ (decode cX10_readNumber 54 = .ok (.aload_n 0, 1)) ∧ (decode cX10_readNumber 55 = .ok (.iconst 2, 1)) := by decide +kernel
theorem dX10_readNumber_46 : decode cX10_readNumber 46 = .ok (.aload_n 0, 1) := dX10_readNumber_46_b.1
theorem dX10_readNumber_47 : decode cX10_readNumber 47 = .ok (.getfield 207, 3) := dX10_readNumber_46_b.2.1
theorem dX10_readNumber_50 : decode cX10_readNumber 50 = .ok (.iload_n 2, 1) := dX10_readNumber_46_b.2.2.1
theorem dX10_readNumber_51 : decode cX10_readNumber 51 = .ok (.if_icmp .le 8, 3) := dX10_readNumber_46_b.2.2.2.1
theorem dX10_readNumber_54 : decode cX10_readNumber 54 = .ok (.aload_n 0, 1) := dX10_readNumber_46_b.2.2.2.2.1
theorem dX10_readNumber_55 : decode cX10_readNumber 55 = .ok (.iconst 2, 1) := dX10_readNumber_46_b.2.2.2.2.2
set_option maxRecDepth 20000 in
theorem dX10_readNumber_56_b : (decode cX10_readNumber 56 = .ok (.invokevirtual 244, 3)) ∧ (decode cX10_readNumber 59 = .ok (.aload_n 0, 1)) ∧ (decode cX10_readNumber 60 = .ok (.getfield 207, 3)) ∧ (decode cX10_readNumber 63 = .ok (.istore_n 3, 1)) ∧ (decode cX10_readNumber 64 = .ok (.aload_n 0, 1)) ∧ (decode cX10_readNumber 65 = .ok (.getfield 223, 3)) := by decide +kernel
theorem dX10_readNumber_56 : decode cX10_readNumber 56 = .ok (.invokevirtual 244, 3) := dX10_readNumber_56_b.1
theorem dX10_readNumber_59 : decode cX10_readNumber 59 = .ok (.aload_n 0, 1) := dX10_readNumber_56_b.2.1
theorem dX10_readNumber_60 : decode cX10_readNumber 60 = .ok (.getfield 207, 3) := dX10_readNumber_56_b.2.2.1
theorem dX10_readNumber_63 : decode cX10_readNumber 63 = .ok (.istore_n 3, 1) := dX10_readNumber_56_b.2.2.2.1
theorem dX10_readNumber_64 : decode cX10_readNumber 64 = .ok (.aload_n 0, 1) := dX10_readNumber_56_b.2.2.2.2.1
theorem dX10_readNumber_65 : decode cX10_readNumber 65 = .ok (.getfield 223, 3) := dX10_readNumber_56_b.2.2.2.2.2
set_option maxRecDepth 20000 in
theorem dX10_readNumber_68_b : (decode cX10_readNumber 68 = .ok (.ifCond .ne 7, 3)) ∧ (decode cX10_readNumber 71 = .ok (.aload_n 0, 1)) ∧ (decode cX10_readNumber 72 = .ok (.invokevirtual 241, 3)) ∧ (decode cX10_readNumber 75 = .ok (.iload_n 3, 1)) ∧ (decode cX10_readNumber 76 = .ok (.ireturn, 1)) := by decide +kernel
theorem dX10_readNumber_68 : decode cX10_readNumber 68 = .ok (.ifCond .ne 7, 3) := dX10_readNumber_68_b.1
theorem dX10_readNumber_71 : decode cX10_readNumber 71 = .ok (.aload_n 0, 1) := dX10_readNumber_68_b.2.1
theorem dX10_readNumber_72 : decode cX10_readNumber 72 = .ok (.invokevirtual 241, 3) := dX10_readNumber_68_b.2.2.1
theorem dX10_readNumber_75 : decode cX10_readNumber 75 = .ok (.iload_n 3, 1) := dX10_readNumber_68_b.2.2.2.1
theorem dX10_readNumber_76 : decode cX10_readNumber 76 = .ok (.ireturn, 1) := dX10_readNumber_68_b.2.2.2.2
set_option maxRecDepth 20000 in
theorem dX10_lay_0_b : (decode cX10_lay 0 = .ok (.aload_n 0, 1)) ∧ (decode cX10_lay 1 = .ok (.getfield 223, 3)) ∧ (decode cX10_lay 4 = .ok (.ifCond .eq 4, 3)) ∧ (decode cX10_lay 7 = .ok (.return_, 1)) ∧ (decode cX10_lay 8 = .ok (.aload_n 0, 1)) ∧ (decode cX10_lay 9 = .ok (.getfield 74, 3)) := by decide +kernel
theorem dX10_lay_0 : decode cX10_lay 0 = .ok (.aload_n 0, 1) := dX10_lay_0_b.1
theorem dX10_lay_1 : decode cX10_lay 1 = .ok (.getfield 223, 3) := dX10_lay_0_b.2.1
theorem dX10_lay_4 : decode cX10_lay 4 = .ok (.ifCond .eq 4, 3) := dX10_lay_0_b.2.2.1
theorem dX10_lay_7 : decode cX10_lay 7 = .ok (.return_, 1) := dX10_lay_0_b.2.2.2.1
theorem dX10_lay_8 : decode cX10_lay 8 = .ok (.aload_n 0, 1) := dX10_lay_0_b.2.2.2.2.1
theorem dX10_lay_9 : decode cX10_lay 9 = .ok (.getfield 74, 3) := dX10_lay_0_b.2.2.2.2.2
set_option maxRecDepth 20000 in
theorem dX10_lay_12_b : (decode cX10_lay 12 = .ok (.sipush 600, 3)) ∧ (decode cX10_lay 15 = .ok (.aload_n 0, 1)) ∧ (decode cX10_lay 16 = .ok (.getfield 250, 3)) ∧ (decode cX10_lay 19 = .ok (.iadd, 1)) ∧ (decode cX10_lay 20 = .ok (.iload_n 1, 1)) ∧ (decode cX10_lay 21 = .ok (.iastore, 1)) := by decide +kernel
theorem dX10_lay_12 : decode cX10_lay 12 = .ok (.sipush 600, 3) := dX10_lay_12_b.1
theorem dX10_lay_15 : decode cX10_lay 15 = .ok (.aload_n 0, 1) := dX10_lay_12_b.2.1
theorem dX10_lay_16 : decode cX10_lay 16 = .ok (.getfield 250, 3) := dX10_lay_12_b.2.2.1
theorem dX10_lay_19 : decode cX10_lay 19 = .ok (.iadd, 1) := dX10_lay_12_b.2.2.2.1
theorem dX10_lay_20 : decode cX10_lay 20 = .ok (.iload_n 1, 1) := dX10_lay_12_b.2.2.2.2.1
theorem dX10_lay_21 : decode cX10_lay 21 = .ok (.iastore, 1) := dX10_lay_12_b.2.2.2.2.2
set_option maxRecDepth 20000 in
theorem dX10_lay_22_b : (decode cX10_lay 22 = .ok (.aload_n 0, 1)) ∧ (decode cX10_lay 23 = .ok (.dup, 1)) ∧ (decode cX10_lay 24 = .ok (.getfield 250, 3)) ∧ (decode cX10_lay 27 = .ok (.iconst 1, 1)) ∧ (decode cX10_lay 28 = .ok (.iadd, 1)) ∧ (decode cX10_lay 29 = .ok (.putfield 250, 3)) := by decide +kernel
theorem dX10_lay_22 : decode cX10_lay 22 = .ok (.aload_n 0, 1) := dX10_lay_22_b.1
theorem dX10_lay_23 : decode cX10_lay 23 = .ok (.dup, 1) := dX10_lay_22_b.2.1
theorem dX10_lay_24 : decode cX10_lay 24 = .ok (.getfield 250, 3) := dX10_lay_22_b.2.2.1
theorem dX10_lay_27 : decode cX10_lay 27 = .ok (.iconst 1, 1) := dX10_lay_22_b.2.2.2.1
theorem dX10_lay_28 : decode cX10_lay 28 = .ok (.iadd, 1) := dX10_lay_22_b.2.2.2.2.1
theorem dX10_lay_29 : decode cX10_lay 29 = .ok (.putfield 250, 3) := dX10_lay_22_b.2.2.2.2.2
theorem dX10_lay_32 : decode cX10_lay 32 = .ok (.return_, 1) := by decide +kernel
set_option maxRecDepth 20000 in
theorem dX10_readPart_0_b : (decode cX10_readPart 0 = .ok (.aload_n 0, 1)) ∧ (decode cX10_readPart 1 = .ok (.getfield 223, 3)) ∧ (decode cX10_readPart 4 = .ok (.ifCond .eq 4, 3)) ∧ (decode cX10_readPart 7 = .ok (.return_, 1)) ∧ (decode cX10_readPart 8 = .ok (.aload_n 0, 1)) ∧ (decode cX10_readPart 9 = .ok (.getfield 197, 3)) := by decide +kernel
theorem dX10_readPart_0 : decode cX10_readPart 0 = .ok (.aload_n 0, 1) := dX10_readPart_0_b.1
theorem dX10_readPart_1 : decode cX10_readPart 1 = .ok (.getfield 223, 3) := dX10_readPart_0_b.2.1
theorem dX10_readPart_4 : decode cX10_readPart 4 = .ok (.ifCond .eq 4, 3) := dX10_readPart_0_b.2.2.1
theorem dX10_readPart_7 : decode cX10_readPart 7 = .ok (.return_, 1) := dX10_readPart_0_b.2.2.2.1
theorem dX10_readPart_8 : decode cX10_readPart 8 = .ok (.aload_n 0, 1) := dX10_readPart_0_b.2.2.2.2.1
theorem dX10_readPart_9 : decode cX10_readPart 9 = .ok (.getfield 197, 3) := dX10_readPart_0_b.2.2.2.2.2
set_option maxRecDepth 20000 in
theorem dX10_readPart_12_b : (decode cX10_readPart 12 = .ok (.iconst 2, 1)) ∧ (decode cX10_readPart 13 = .ok (.if_icmp .ne 16, 3)) ∧ (decode cX10_readPart 16 = .ok (.aload_n 0, 1)) ∧ (decode cX10_readPart 17 = .ok (.aload_n 0, 1)) ∧ (decode cX10_readPart 18 = .ok (.iconst 0, 1)) ∧ (decode cX10_readPart 19 = .ok (.sipush 9999, 3)) := by decide +kernel
theorem dX10_readPart_12 : decode cX10_readPart 12 = .ok (.iconst 2, 1) := dX10_readPart_12_b.1
theorem dX10_readPart_13 : decode cX10_readPart 13 = .ok (.if_icmp .ne 16, 3) := dX10_readPart_12_b.2.1
theorem dX10_readPart_16 : decode cX10_readPart 16 = .ok (.aload_n 0, 1) := dX10_readPart_12_b.2.2.1
theorem dX10_readPart_17 : decode cX10_readPart 17 = .ok (.aload_n 0, 1) := dX10_readPart_12_b.2.2.2.1
theorem dX10_readPart_18 : decode cX10_readPart 18 = .ok (.iconst 0, 1) := dX10_readPart_12_b.2.2.2.2.1
theorem dX10_readPart_19 : decode cX10_readPart 19 = .ok (.sipush 9999, 3) := dX10_readPart_12_b.2.2.2.2.2
set_option maxRecDepth 20000 in
theorem dX10_readPart_22_b : (decode cX10_readPart 22 = .ok (.invokevirtual 253, 3)) ∧ (decode cX10_readPart 25 = .ok (.invokevirtual 256, 3)) ∧ (decode cX10_readPart 28 = .ok (.return_, 1)) ∧ (decode cX10_readPart 29 = .ok (.aload_n 0, 1)) ∧ (decode cX10_readPart 30 = .ok (.getfield 197, 3)) ∧ (decode cX10_readPart 33 = .ok (.iconst 1, 1)) := by decide +kernel
theorem dX10_readPart_22 : decode cX10_readPart 22 = .ok (.invokevirtual 253, 3) := dX10_readPart_22_b.1
theorem dX10_readPart_25 : decode cX10_readPart 25 = .ok (.invokevirtual 256, 3) := dX10_readPart_22_b.2.1
theorem dX10_readPart_28 : decode cX10_readPart 28 = .ok (.return_, 1) := dX10_readPart_22_b.2.2.1
theorem dX10_readPart_29 : decode cX10_readPart 29 = .ok (.aload_n 0, 1) := dX10_readPart_22_b.2.2.2.1
theorem dX10_readPart_30 : decode cX10_readPart 30 = .ok (.getfield 197, 3) := dX10_readPart_22_b.2.2.2.2.1
theorem dX10_readPart_33 : decode cX10_readPart 33 = .ok (.iconst 1, 1) := dX10_readPart_22_b.2.2.2.2.2
set_option maxRecDepth 20000 in
theorem dX10_readPart_34_b : (decode cX10_readPart 34 = .ok (.if_icmp .ne 41, 3)) ∧ (decode cX10_readPart 37 = .ok (.aload_n 0, 1)) ∧ (decode cX10_readPart 38 = .ok (.aload_n 0, 1)) ∧ (decode cX10_readPart 39 = .ok (.getfield 51, 3)) ∧ (decode cX10_readPart 42 = .ok (.invokevirtual 259, 3)) ∧ (decode cX10_readPart 45 = .ok (.istore_n 2, 1)) := by decide +kernel
theorem dX10_readPart_34 : decode cX10_readPart 34 = .ok (.if_icmp .ne 41, 3) := dX10_readPart_34_b.1
theorem dX10_readPart_37 : decode cX10_readPart 37 = .ok (.aload_n 0, 1) := dX10_readPart_34_b.2.1
theorem dX10_readPart_38 : decode cX10_readPart 38 = .ok (.aload_n 0, 1) := dX10_readPart_34_b.2.2.1
theorem dX10_readPart_39 : decode cX10_readPart 39 = .ok (.getfield 51, 3) := dX10_readPart_34_b.2.2.2.1
theorem dX10_readPart_42 : decode cX10_readPart 42 = .ok (.invokevirtual 259, 3) := dX10_readPart_34_b.2.2.2.2.1
theorem dX10_readPart_45 : decode cX10_readPart 45 = .ok (.istore_n 2, 1) := dX10_readPart_34_b.2.2.2.2.2
set_option maxRecDepth 20000 in
theorem dX10_readPart_46_b : (decode cX10_readPart 46 = .ok (.iload_n 2, 1)) ∧ (decode cX10_readPart 47 = .ok (.iconst (-1), 1)) ∧ (decode cX10_readPart 48 = .ok (.if_icmp .ne 8, 3)) ∧ (decode cX10_readPart 51 = .ok (.aload_n 0, 1)) ∧ (decode cX10_readPart 52 = .ok (.iconst 3, 1)) ∧ (decode cX10_readPart 53 = .ok (.invokevirtual 244, 3)) := by decide +kernel
theorem dX10_readPart_46 : decode cX10_readPart 46 = .ok (.iload_n 2, 1) := dX10_readPart_46_b.1
theorem dX10_readPart_47 : decode cX10_readPart 47 = .ok (.iconst (-1), 1) := dX10_readPart_46_b.2.1
theorem dX10_readPart_48 : decode cX10_readPart 48 = .ok (.if_icmp .ne 8, 3) := dX10_readPart_46_b.2.2.1
theorem dX10_readPart_51 : decode cX10_readPart 51 = .ok (.aload_n 0, 1) := dX10_readPart_46_b.2.2.2.1
theorem dX10_readPart_52 : decode cX10_readPart 52 = .ok (.iconst 3, 1) := dX10_readPart_46_b.2.2.2.2.1
theorem dX10_readPart_53 : decode cX10_readPart 53 = .ok (.invokevirtual 244, 3) := dX10_readPart_46_b.2.2.2.2.2
set_option maxRecDepth 20000 in
theorem dX10_readPart_56_b : (decode cX10_readPart 56 = .ok (.aload_n 0, 1)) ∧ (decode cX10_readPart 57 = .ok (.iconst (-1), 1)) ∧ (decode cX10_readPart 58 = .ok (.iload_n 2, 1)) ∧ (decode cX10_readPart 59 = .ok (.isub, 1)) ∧ (decode cX10_readPart 60 = .ok (.invokevirtual 256, 3)) ∧ (decode cX10_readPart 63 = .ok (.aload_n 0, 1)) := by decide +kernel
theorem dX10_readPart_56 : decode cX10_readPart 56 = .ok (.aload_n 0, 1) := dX10_readPart_56_b.1
theorem dX10_readPart_57 : decode cX10_readPart 57 = .ok (.iconst (-1), 1) := dX10_readPart_56_b.2.1
theorem dX10_readPart_58 : decode cX10_readPart 58 = .ok (.iload_n 2, 1) := dX10_readPart_56_b.2.2.1
theorem dX10_readPart_59 : decode cX10_readPart 59 = .ok (.isub, 1) := dX10_readPart_56_b.2.2.2.1
theorem dX10_readPart_60 : decode cX10_readPart 60 = .ok (.invokevirtual 256, 3) := dX10_readPart_56_b.2.2.2.2.1
theorem dX10_readPart_63 : decode cX10_readPart 63 = .ok (.aload_n 0, 1) := dX10_readPart_56_b.2.2.2.2.2
set_option maxRecDepth 20000 in
theorem dX10_readPart_64_b : (decode cX10_readPart 64 = .ok (.getfield 223, 3)) ∧ (decode cX10_readPart 67 = .ok (.ifCond .ne 7, 3)) ∧ (decode cX10_readPart 70 = .ok (.aload_n 0, 1)) ∧ (decode cX10_readPart 71 = .ok (.invokevirtual 241, 3)) ∧ (decode cX10_readPart 74 = .ok (.return_, 1)) ∧ (decode cX10_readPart 75 = .ok (.aload_n 0, 1)) := by decide +kernel
theorem dX10_readPart_64 : decode cX10_readPart 64 = .ok (.getfield 223, 3) := dX10_readPart_64_b.1
theorem dX10_readPart_67 : decode cX10_readPart 67 = .ok (.ifCond .ne 7, 3) := dX10_readPart_64_b.2.1
theorem dX10_readPart_70 : decode cX10_readPart 70 = .ok (.aload_n 0, 1) := dX10_readPart_64_b.2.2.1
theorem dX10_readPart_71 : decode cX10_readPart 71 = .ok (.invokevirtual 241, 3) := dX10_readPart_64_b.2.2.2.1
theorem dX10_readPart_74 : decode cX10_readPart 74 = .ok (.return_, 1) := dX10_readPart_64_b.2.2.2.2.1
theorem dX10_readPart_75 : decode cX10_readPart 75 = .ok (.aload_n 0, 1) := dX10_readPart_64_b.2.2.2.2.2
set_option maxRecDepth 20000 in
theorem dX10_readPart_76_b : (decode cX10_readPart 76 = .ok (.bipush 40, 2)) ∧ (decode cX10_readPart 78 = .ok (.invokevirtual 263, 3)) ∧ (decode cX10_readPart 81 = .ok (.aload_n 0, 1)) ∧ (decode cX10_readPart 82 = .ok (.iload_n 1, 1)) ∧ (decode cX10_readPart 83 = .ok (.iconst 1, 1)) ∧ (decode cX10_readPart 84 = .ok (.iadd, 1)) := by decide +kernel
theorem dX10_readPart_76 : decode cX10_readPart 76 = .ok (.bipush 40, 2) := dX10_readPart_76_b.1
theorem dX10_readPart_78 : decode cX10_readPart 78 = .ok (.invokevirtual 263, 3) := dX10_readPart_76_b.2.1
theorem dX10_readPart_81 : decode cX10_readPart 81 = .ok (.aload_n 0, 1) := dX10_readPart_76_b.2.2.1
theorem dX10_readPart_82 : decode cX10_readPart 82 = .ok (.iload_n 1, 1) := dX10_readPart_76_b.2.2.2.1
theorem dX10_readPart_83 : decode cX10_readPart 83 = .ok (.iconst 1, 1) := dX10_readPart_76_b.2.2.2.2.1
theorem dX10_readPart_84 : decode cX10_readPart 84 = .ok (.iadd, 1) := dX10_readPart_76_b.2.2.2.2.2
set_option maxRecDepth 20000 in
theorem dX10_readPart_85_b : (decode cX10_readPart 85 = .ok (.invokevirtual 266, 3)) ∧ (decode cX10_readPart 88 = .ok (.aload_n 0, 1)) ∧ (decode cX10_readPart 89 = .ok (.bipush 41, 2)) ∧ (decode cX10_readPart 91 = .ok (.invokevirtual 263, 3)) ∧ (decode cX10_readPart 94 = .ok (.return_, 1)) := by decide +kernel
theorem dX10_readPart_85 : decode cX10_readPart 85 = .ok (.invokevirtual 266, 3) := dX10_readPart_85_b.1
theorem dX10_readPart_88 : decode cX10_readPart 88 = .ok (.aload_n 0, 1) := dX10_readPart_85_b.2.1
theorem dX10_readPart_89 : decode cX10_readPart 89 = .ok (.bipush 41, 2) := dX10_readPart_85_b.2.2.1
theorem dX10_readPart_91 : decode cX10_readPart 91 = .ok (.invokevirtual 263, 3) := dX10_readPart_85_b.2.2.2.1
theorem dX10_readPart_94 : decode cX10_readPart 94 = .ok (.return_, 1) := dX10_readPart_85_b.2.2.2.2
set_option maxRecDepth 20000 in
theorem dX10_readProduct_0_b : (decode cX10_readProduct 0 = .ok (.aload_n 0, 1)) ∧ (decode cX10_readProduct 1 = .ok (.iload_n 1, 1)) ∧ (decode cX10_readProduct 2 = .ok (.invokevirtual 269, 3)) ∧ (decode cX10_readProduct 5 = .ok (.aload_n 0, 1)) ∧ (decode cX10_readProduct 6 = .ok (.bipush 42, 2)) ∧ (decode cX10_readProduct 8 = .ok (.invokevirtual 247, 3)) := by decide +kernel
theorem dX10_readProduct_0 : decode cX10_readProduct 0 = .ok (.aload_n 0, 1) := dX10_readProduct_0_b.1
theorem dX10_readProduct_1 : decode cX10_readProduct 1 = .ok (.iload_n 1, 1) := dX10_readProduct_0_b.2.1
theorem dX10_readProduct_2 : decode cX10_readProduct 2 = .ok (.invokevirtual 269, 3) := dX10_readProduct_0_b.2.2.1
theorem dX10_readProduct_5 : decode cX10_readProduct 5 = .ok (.aload_n 0, 1) := dX10_readProduct_0_b.2.2.2.1
theorem dX10_readProduct_6 : decode cX10_readProduct 6 = .ok (.bipush 42, 2) := dX10_readProduct_0_b.2.2.2.2.1
theorem dX10_readProduct_8 : decode cX10_readProduct 8 = .ok (.invokevirtual 247, 3) := dX10_readProduct_0_b.2.2.2.2.2
set_option maxRecDepth 20000 in
theorem dX10_readProduct_11_b : (decode cX10_readProduct 11 = .ok (.ifCond .ne 12, 3)) ∧ (decode cX10_readProduct 14 = .ok (.aload_n 0, 1)) ∧ (decode cX10_readProduct 15 = .ok (.bipush 47, 2)) ∧ (decode cX10_readProduct 17 = .ok (.invokevirtual 247, 3)) ∧ (decode cX10_readProduct 20 = .ok (.ifCond .eq 37, 3)) ∧ (decode cX10_readProduct 23 = .ok (.aload_n 0, 1)) := by decide +kernel
theorem dX10_readProduct_11 : decode cX10_readProduct 11 = .ok (.ifCond .ne 12, 3) := dX10_readProduct_11_b.1
theorem dX10_readProduct_14 : decode cX10_readProduct 14 = .ok (.aload_n 0, 1) := dX10_readProduct_11_b.2.1
theorem dX10_readProduct_15 : decode cX10_readProduct 15 = .ok (.bipush 47, 2) := dX10_readProduct_11_b.2.2.1
theorem dX10_readProduct_17 : decode cX10_readProduct 17 = .ok (.invokevirtual 247, 3) := dX10_readProduct_11_b.2.2.2.1
theorem dX10_readProduct_20 : decode cX10_readProduct 20 = .ok (.ifCond .eq 37, 3) := dX10_readProduct_11_b.2.2.2.2.1
theorem dX10_readProduct_23 : decode cX10_readProduct 23 = .ok (.aload_n 0, 1) := dX10_readProduct_11_b.2.2.2.2.2
set_option maxRecDepth 20000 in
theorem dX10_readProduct_24_b : (decode cX10_readProduct 24 = .ok (.bipush 42, 2)) ∧ (decode cX10_readProduct 26 = .ok (.invokevirtual 247, 3)) ∧ (decode cX10_readProduct 29 = .ok (.ifCond .eq 8, 3)) ∧ (decode cX10_readProduct 32 = .ok (.bipush (-22), 2)) ∧ (decode cX10_readProduct 34 = .ok (.goto 5, 3)) ∧ (decode cX10_readProduct 37 = .ok (.bipush (-23), 2)) := by decide +kernel
theorem dX10_readProduct_24 : decode cX10_readProduct 24 = .ok (.bipush 42, 2) := dX10_readProduct_24_b.1
theorem dX10_readProduct_26 : decode cX10_readProduct 26 = .ok (.invokevirtual 247, 3) := dX10_readProduct_24_b.2.1
theorem dX10_readProduct_29 : decode cX10_readProduct 29 = .ok (.ifCond .eq 8, 3) := dX10_readProduct_24_b.2.2.1
theorem dX10_readProduct_32 : decode cX10_readProduct 32 = .ok (.bipush (-22), 2) := dX10_readProduct_24_b.2.2.2.1
theorem dX10_readProduct_34 : decode cX10_readProduct 34 = .ok (.goto 5, 3) := dX10_readProduct_24_b.2.2.2.2.1
theorem dX10_readProduct_37 : decode cX10_readProduct 37 = .ok (.bipush (-23), 2) := dX10_readProduct_24_b.2.2.2.2.2
set_option maxRecDepth 20000 in
theorem dX10_readProduct_39_b : (decode cX10_readProduct 39 = .ok (.istore_n 2, 1)) ∧ (decode cX10_readProduct 40 = .ok (.aload_n 0, 1)) ∧ (decode cX10_readProduct 41 = .ok (.invokevirtual 241, 3)) ∧ (decode cX10_readProduct 44 = .ok (.aload_n 0, 1)) ∧ (decode cX10_readProduct 45 = .ok (.iload_n 1, 1)) ∧ (decode cX10_readProduct 46 = .ok (.invokevirtual 269, 3)) := by decide +kernel
theorem dX10_readProduct_39 : decode cX10_readProduct 39 = .ok (.istore_n 2, 1) := dX10_readProduct_39_b.1
theorem dX10_readProduct_40 : decode cX10_readProduct 40 = .ok (.aload_n 0, 1) := dX10_readProduct_39_b.2.1
theorem dX10_readProduct_41 : decode cX10_readProduct 41 = .ok (.invokevirtual 241, 3) := dX10_readProduct_39_b.2.2.1
theorem dX10_readProduct_44 : decode cX10_readProduct 44 = .ok (.aload_n 0, 1) := dX10_readProduct_39_b.2.2.2.1
theorem dX10_readProduct_45 : decode cX10_readProduct 45 = .ok (.iload_n 1, 1) := dX10_readProduct_39_b.2.2.2.2.1
theorem dX10_readProduct_46 : decode cX10_readProduct 46 = .ok (.invokevirtual 269, 3) := dX10_readProduct_39_b.2.2.2.2.2
set_option maxRecDepth 20000 in
theorem dX10_readProduct_49_b : (decode cX10_readProduct 49 = .ok (.aload_n 0, 1)) ∧ (decode cX10_readProduct 50 = .ok (.iload_n 2, 1)) ∧ (decode cX10_readProduct 51 = .ok (.invokevirtual 256, 3)) ∧ (decode cX10_readProduct 54 = .ok (.goto (-49), 3)) ∧ (decode cX10_readProduct 57 = .ok (.return_, 1)) := by decide +kernel
theorem dX10_readProduct_49 : decode cX10_readProduct 49 = .ok (.aload_n 0, 1) := dX10_readProduct_49_b.1
theorem dX10_readProduct_50 : decode cX10_readProduct 50 = .ok (.iload_n 2, 1) := dX10_readProduct_49_b.2.1
theorem dX10_readProduct_51 : decode cX10_readProduct 51 = .ok (.invokevirtual 256, 3) := dX10_readProduct_49_b.2.2.1
theorem dX10_readProduct_54 : decode cX10_readProduct 54 = .ok (.goto (-49), 3) := dX10_readProduct_49_b.2.2.2.1
theorem dX10_readProduct_57 : decode cX10_readProduct 57 = .ok (.return_, 1) := dX10_readProduct_49_b.2.2.2.2
set_option maxRecDepth 20000 in
theorem dX10_readSum_0_b : (decode cX10_readSum 0 = .ok (.aload_n 0, 1)) ∧ (decode cX10_readSum 1 = .ok (.iload_n 1, 1)) ∧ (decode cX10_readSum 2 = .ok (.invokevirtual 272, 3)) ∧ (decode cX10_readSum 5 = .ok (.aload_n 0, 1)) ∧ (decode cX10_readSum 6 = .ok (.bipush 43, 2)) ∧ (decode cX10_readSum 8 = .ok (.invokevirtual 247, 3)) := by decide +kernel
theorem dX10_readSum_0 : decode cX10_readSum 0 = .ok (.aload_n 0, 1) := dX10_readSum_0_b.1
theorem dX10_readSum_1 : decode cX10_readSum 1 = .ok (.iload_n 1, 1) := dX10_readSum_0_b.2.1
theorem dX10_readSum_2 : decode cX10_readSum 2 = .ok (.invokevirtual 272, 3) := dX10_readSum_0_b.2.2.1
theorem dX10_readSum_5 : decode cX10_readSum 5 = .ok (.aload_n 0, 1) := dX10_readSum_0_b.2.2.2.1
theorem dX10_readSum_6 : decode cX10_readSum 6 = .ok (.bipush 43, 2) := dX10_readSum_0_b.2.2.2.2.1
theorem dX10_readSum_8 : decode cX10_readSum 8 = .ok (.invokevirtual 247, 3) := dX10_readSum_0_b.2.2.2.2.2
set_option maxRecDepth 20000 in
theorem dX10_readSum_11_b : (decode cX10_readSum 11 = .ok (.ifCond .ne 12, 3)) ∧ (decode cX10_readSum 14 = .ok (.aload_n 0, 1)) ∧ (decode cX10_readSum 15 = .ok (.bipush 45, 2)) ∧ (decode cX10_readSum 17 = .ok (.invokevirtual 247, 3)) ∧ (decode cX10_readSum 20 = .ok (.ifCond .eq 37, 3)) ∧ (decode cX10_readSum 23 = .ok (.aload_n 0, 1)) := by decide +kernel
theorem dX10_readSum_11 : decode cX10_readSum 11 = .ok (.ifCond .ne 12, 3) := dX10_readSum_11_b.1
theorem dX10_readSum_14 : decode cX10_readSum 14 = .ok (.aload_n 0, 1) := dX10_readSum_11_b.2.1
theorem dX10_readSum_15 : decode cX10_readSum 15 = .ok (.bipush 45, 2) := dX10_readSum_11_b.2.2.1
theorem dX10_readSum_17 : decode cX10_readSum 17 = .ok (.invokevirtual 247, 3) := dX10_readSum_11_b.2.2.2.1
theorem dX10_readSum_20 : decode cX10_readSum 20 = .ok (.ifCond .eq 37, 3) := dX10_readSum_11_b.2.2.2.2.1
theorem dX10_readSum_23 : decode cX10_readSum 23 = .ok (.aload_n 0, 1) := dX10_readSum_11_b.2.2.2.2.2
set_option maxRecDepth 20000 in
theorem dX10_readSum_24_b : (decode cX10_readSum 24 = .ok (.bipush 43, 2)) ∧ (decode cX10_readSum 26 = .ok (.invokevirtual 247, 3)) ∧ (decode cX10_readSum 29 = .ok (.ifCond .eq 8, 3)) ∧ (decode cX10_readSum 32 = .ok (.bipush (-20), 2)) ∧ (decode cX10_readSum 34 = .ok (.goto 5, 3)) ∧ (decode cX10_readSum 37 = .ok (.bipush (-21), 2)) := by decide +kernel
theorem dX10_readSum_24 : decode cX10_readSum 24 = .ok (.bipush 43, 2) := dX10_readSum_24_b.1
theorem dX10_readSum_26 : decode cX10_readSum 26 = .ok (.invokevirtual 247, 3) := dX10_readSum_24_b.2.1
theorem dX10_readSum_29 : decode cX10_readSum 29 = .ok (.ifCond .eq 8, 3) := dX10_readSum_24_b.2.2.1
theorem dX10_readSum_32 : decode cX10_readSum 32 = .ok (.bipush (-20), 2) := dX10_readSum_24_b.2.2.2.1
theorem dX10_readSum_34 : decode cX10_readSum 34 = .ok (.goto 5, 3) := dX10_readSum_24_b.2.2.2.2.1
theorem dX10_readSum_37 : decode cX10_readSum 37 = .ok (.bipush (-21), 2) := dX10_readSum_24_b.2.2.2.2.2
set_option maxRecDepth 20000 in
theorem dX10_readSum_39_b : (decode cX10_readSum 39 = .ok (.istore_n 2, 1)) ∧ (decode cX10_readSum 40 = .ok (.aload_n 0, 1)) ∧ (decode cX10_readSum 41 = .ok (.invokevirtual 241, 3)) ∧ (decode cX10_readSum 44 = .ok (.aload_n 0, 1)) ∧ (decode cX10_readSum 45 = .ok (.iload_n 1, 1)) ∧ (decode cX10_readSum 46 = .ok (.invokevirtual 272, 3)) := by decide +kernel
theorem dX10_readSum_39 : decode cX10_readSum 39 = .ok (.istore_n 2, 1) := dX10_readSum_39_b.1
theorem dX10_readSum_40 : decode cX10_readSum 40 = .ok (.aload_n 0, 1) := dX10_readSum_39_b.2.1
theorem dX10_readSum_41 : decode cX10_readSum 41 = .ok (.invokevirtual 241, 3) := dX10_readSum_39_b.2.2.1
theorem dX10_readSum_44 : decode cX10_readSum 44 = .ok (.aload_n 0, 1) := dX10_readSum_39_b.2.2.2.1
theorem dX10_readSum_45 : decode cX10_readSum 45 = .ok (.iload_n 1, 1) := dX10_readSum_39_b.2.2.2.2.1
theorem dX10_readSum_46 : decode cX10_readSum 46 = .ok (.invokevirtual 272, 3) := dX10_readSum_39_b.2.2.2.2.2
set_option maxRecDepth 20000 in
theorem dX10_readSum_49_b : (decode cX10_readSum 49 = .ok (.aload_n 0, 1)) ∧ (decode cX10_readSum 50 = .ok (.iload_n 2, 1)) ∧ (decode cX10_readSum 51 = .ok (.invokevirtual 256, 3)) ∧ (decode cX10_readSum 54 = .ok (.goto (-49), 3)) ∧ (decode cX10_readSum 57 = .ok (.return_, 1)) := by decide +kernel
theorem dX10_readSum_49 : decode cX10_readSum 49 = .ok (.aload_n 0, 1) := dX10_readSum_49_b.1
theorem dX10_readSum_50 : decode cX10_readSum 50 = .ok (.iload_n 2, 1) := dX10_readSum_49_b.2.1
theorem dX10_readSum_51 : decode cX10_readSum 51 = .ok (.invokevirtual 256, 3) := dX10_readSum_49_b.2.2.1
theorem dX10_readSum_54 : decode cX10_readSum 54 = .ok (.goto (-49), 3) := dX10_readSum_49_b.2.2.2.1
theorem dX10_readSum_57 : decode cX10_readSum 57 = .ok (.return_, 1) := dX10_readSum_49_b.2.2.2.2
set_option maxRecDepth 20000 in
theorem dX10_readNot_0_b : (decode cX10_readNot 0 = .ok (.iconst 0, 1)) ∧ (decode cX10_readNot 1 = .ok (.istore_n 2, 1)) ∧ (decode cX10_readNot 2 = .ok (.aload_n 0, 1)) ∧ (decode cX10_readNot 3 = .ok (.ldc_w 275, 3)) ∧ (decode cX10_readNot 6 = .ok (.invokevirtual 237, 3)) ∧ (decode cX10_readNot 9 = .ok (.ifCond .eq 31, 3)) := by decide +kernel
theorem dX10_readNot_0 : decode cX10_readNot 0 = .ok (.iconst 0, 1) := dX10_readNot_0_b.1
theorem dX10_readNot_1 : decode cX10_readNot 1 = .ok (.istore_n 2, 1) := dX10_readNot_0_b.2.1
theorem dX10_readNot_2 : decode cX10_readNot 2 = .ok (.aload_n 0, 1) := dX10_readNot_0_b.2.2.1
theorem dX10_readNot_3 : decode cX10_readNot 3 = .ok (.ldc_w 275, 3) := dX10_readNot_0_b.2.2.2.1
theorem dX10_readNot_6 : decode cX10_readNot 6 = .ok (.invokevirtual 237, 3) := dX10_readNot_0_b.2.2.2.2.1
theorem dX10_readNot_9 : decode cX10_readNot 9 = .ok (.ifCond .eq 31, 3) := dX10_readNot_0_b.2.2.2.2.2
set_option maxRecDepth 20000 in
theorem dX10_readNot_12_b : (decode cX10_readNot 12 = .ok (.iload_n 2, 1)) ∧ (decode cX10_readNot 13 = .ok (.bipush 6, 2)) ∧ (decode cX10_readNot 15 = .ok (.if_icmp .ne 8, 3)) ∧ (decode cX10_readNot 18 = .ok (.aload_n 0, 1)) ∧ (decode cX10_readNot 19 = .ok (.iconst 2, 1)) ∧ (decode cX10_readNot 20 = .ok (.invokevirtual 244, 3)) := by decide +kernel
theorem dX10_readNot_12 : decode cX10_readNot 12 = .ok (.iload_n 2, 1) := dX10_readNot_12_b.1
theorem dX10_readNot_13 : decode cX10_readNot 13 = .ok (.bipush 6, 2) := dX10_readNot_12_b.2.1
theorem dX10_readNot_15 : decode cX10_readNot 15 = .ok (.if_icmp .ne 8, 3) := dX10_readNot_12_b.2.2.1
theorem dX10_readNot_18 : decode cX10_readNot 18 = .ok (.aload_n 0, 1) := dX10_readNot_12_b.2.2.2.1
theorem dX10_readNot_19 : decode cX10_readNot 19 = .ok (.iconst 2, 1) := dX10_readNot_12_b.2.2.2.2.1
theorem dX10_readNot_20 : decode cX10_readNot 20 = .ok (.invokevirtual 244, 3) := dX10_readNot_12_b.2.2.2.2.2
set_option maxRecDepth 20000 in
theorem dX10_readNot_23_b : (decode cX10_readNot 23 = .ok (.iinc 2 1, 3)) ∧ (decode cX10_readNot 26 = .ok (.aload_n 0, 1)) ∧ (decode cX10_readNot 27 = .ok (.getfield 223, 3)) ∧ (decode cX10_readNot 30 = .ok (.ifCond .ne (-28), 3)) ∧ (decode cX10_readNot 33 = .ok (.aload_n 0, 1)) ∧ (decode cX10_readNot 34 = .ok (.invokevirtual 241, 3)) := by decide +kernel
theorem dX10_readNot_23 : decode cX10_readNot 23 = .ok (.iinc 2 1, 3) := dX10_readNot_23_b.1
theorem dX10_readNot_26 : decode cX10_readNot 26 = .ok (.aload_n 0, 1) := dX10_readNot_23_b.2.1
theorem dX10_readNot_27 : decode cX10_readNot 27 = .ok (.getfield 223, 3) := dX10_readNot_23_b.2.2.1
theorem dX10_readNot_30 : decode cX10_readNot 30 = .ok (.ifCond .ne (-28), 3) := dX10_readNot_23_b.2.2.2.1
theorem dX10_readNot_33 : decode cX10_readNot 33 = .ok (.aload_n 0, 1) := dX10_readNot_23_b.2.2.2.2.1
theorem dX10_readNot_34 : decode cX10_readNot 34 = .ok (.invokevirtual 241, 3) := dX10_readNot_23_b.2.2.2.2.2
set_option maxRecDepth 20000 in
theorem dX10_readNot_37_b : (decode cX10_readNot 37 = .ok (.goto (-35), 3)) ∧ (decode cX10_readNot 40 = .ok (.aload_n 0, 1)) ∧ (decode cX10_readNot 41 = .ok (.iload_n 1, 1)) ∧ (decode cX10_readNot 42 = .ok (.invokevirtual 277, 3)) ∧ (decode cX10_readNot 45 = .ok (.aload_n 0, 1)) ∧ (decode cX10_readNot 46 = .ok (.bipush 60, 2)) := by decide +kernel
theorem dX10_readNot_37 : decode cX10_readNot 37 = .ok (.goto (-35), 3) := dX10_readNot_37_b.1
theorem dX10_readNot_40 : decode cX10_readNot 40 = .ok (.aload_n 0, 1) := dX10_readNot_37_b.2.1
theorem dX10_readNot_41 : decode cX10_readNot 41 = .ok (.iload_n 1, 1) := dX10_readNot_37_b.2.2.1
theorem dX10_readNot_42 : decode cX10_readNot 42 = .ok (.invokevirtual 277, 3) := dX10_readNot_37_b.2.2.2.1
theorem dX10_readNot_45 : decode cX10_readNot 45 = .ok (.aload_n 0, 1) := dX10_readNot_37_b.2.2.2.2.1
theorem dX10_readNot_46 : decode cX10_readNot 46 = .ok (.bipush 60, 2) := dX10_readNot_37_b.2.2.2.2.2
set_option maxRecDepth 20000 in
theorem dX10_readNot_48_b : (decode cX10_readNot 48 = .ok (.invokevirtual 247, 3)) ∧ (decode cX10_readNot 51 = .ok (.ifCond .ne 12, 3)) ∧ (decode cX10_readNot 54 = .ok (.aload_n 0, 1)) ∧ (decode cX10_readNot 55 = .ok (.bipush 61, 2)) ∧ (decode cX10_readNot 57 = .ok (.invokevirtual 247, 3)) ∧ (decode cX10_readNot 60 = .ok (.ifCond .eq 34, 3)) := by decide +kernel
theorem dX10_readNot_48 : decode cX10_readNot 48 = .ok (.invokevirtual 247, 3) := dX10_readNot_48_b.1
theorem dX10_readNot_51 : decode cX10_readNot 51 = .ok (.ifCond .ne 12, 3) := dX10_readNot_48_b.2.1
theorem dX10_readNot_54 : decode cX10_readNot 54 = .ok (.aload_n 0, 1) := dX10_readNot_48_b.2.2.1
theorem dX10_readNot_55 : decode cX10_readNot 55 = .ok (.bipush 61, 2) := dX10_readNot_48_b.2.2.2.1
theorem dX10_readNot_57 : decode cX10_readNot 57 = .ok (.invokevirtual 247, 3) := dX10_readNot_48_b.2.2.2.2.1
theorem dX10_readNot_60 : decode cX10_readNot 60 = .ok (.ifCond .eq 34, 3) := dX10_readNot_48_b.2.2.2.2.2
set_option maxRecDepth 20000 in
theorem dX10_readNot_63_b : (decode cX10_readNot 63 = .ok (.aload_n 0, 1)) ∧ (decode cX10_readNot 64 = .ok (.bipush 60, 2)) ∧ (decode cX10_readNot 66 = .ok (.invokevirtual 247, 3)) ∧ (decode cX10_readNot 69 = .ok (.ifCond .eq 8, 3)) ∧ (decode cX10_readNot 72 = .ok (.bipush (-24), 2)) ∧ (decode cX10_readNot 74 = .ok (.goto 5, 3)) := by decide +kernel
theorem dX10_readNot_63 : decode cX10_readNot 63 = .ok (.aload_n 0, 1) := dX10_readNot_63_b.1
theorem dX10_readNot_64 : decode cX10_readNot 64 = .ok (.bipush 60, 2) := dX10_readNot_63_b.2.1
theorem dX10_readNot_66 : decode cX10_readNot 66 = .ok (.invokevirtual 247, 3) := dX10_readNot_63_b.2.2.1
theorem dX10_readNot_69 : decode cX10_readNot 69 = .ok (.ifCond .eq 8, 3) := dX10_readNot_63_b.2.2.2.1
theorem dX10_readNot_72 : decode cX10_readNot 72 = .ok (.bipush (-24), 2) := dX10_readNot_63_b.2.2.2.2.1
theorem dX10_readNot_74 : decode cX10_readNot 74 = .ok (.goto 5, 3) := dX10_readNot_63_b.2.2.2.2.2
set_option maxRecDepth 20000 in
theorem dX10_readNot_77_b : (decode cX10_readNot 77 = .ok (.bipush (-25), 2)) ∧ (decode cX10_readNot 79 = .ok (.istore_n 3, 1)) ∧ (decode cX10_readNot 80 = .ok (.aload_n 0, 1)) ∧ (decode cX10_readNot 81 = .ok (.invokevirtual 241, 3)) ∧ (decode cX10_readNot 84 = .ok (.aload_n 0, 1)) ∧ (decode cX10_readNot 85 = .ok (.iload_n 1, 1)) := by decide +kernel
theorem dX10_readNot_77 : decode cX10_readNot 77 = .ok (.bipush (-25), 2) := dX10_readNot_77_b.1
theorem dX10_readNot_79 : decode cX10_readNot 79 = .ok (.istore_n 3, 1) := dX10_readNot_77_b.2.1
theorem dX10_readNot_80 : decode cX10_readNot 80 = .ok (.aload_n 0, 1) := dX10_readNot_77_b.2.2.1
theorem dX10_readNot_81 : decode cX10_readNot 81 = .ok (.invokevirtual 241, 3) := dX10_readNot_77_b.2.2.2.1
theorem dX10_readNot_84 : decode cX10_readNot 84 = .ok (.aload_n 0, 1) := dX10_readNot_77_b.2.2.2.2.1
theorem dX10_readNot_85 : decode cX10_readNot 85 = .ok (.iload_n 1, 1) := dX10_readNot_77_b.2.2.2.2.2
set_option maxRecDepth 20000 in
theorem dX10_readNot_86_b : (decode cX10_readNot 86 = .ok (.invokevirtual 277, 3)) ∧ (decode cX10_readNot 89 = .ok (.aload_n 0, 1)) ∧ (decode cX10_readNot 90 = .ok (.iload_n 3, 1)) ∧ (decode cX10_readNot 91 = .ok (.invokevirtual 256, 3)) ∧ (decode cX10_readNot 94 = .ok (.iconst 0, 1)) ∧ (decode cX10_readNot 95 = .ok (.istore_n 3, 1)) := by decide +kernel
theorem dX10_readNot_86 : decode cX10_readNot 86 = .ok (.invokevirtual 277, 3) := dX10_readNot_86_b.1
theorem dX10_readNot_89 : decode cX10_readNot 89 = .ok (.aload_n 0, 1) := dX10_readNot_86_b.2.1
theorem dX10_readNot_90 : decode cX10_readNot 90 = .ok (.iload_n 3, 1) := dX10_readNot_86_b.2.2.1
theorem dX10_readNot_91 : decode cX10_readNot 91 = .ok (.invokevirtual 256, 3) := dX10_readNot_86_b.2.2.2.1
theorem dX10_readNot_94 : decode cX10_readNot 94 = .ok (.iconst 0, 1) := dX10_readNot_86_b.2.2.2.2.1
theorem dX10_readNot_95 : decode cX10_readNot 95 = .ok (.istore_n 3, 1) := dX10_readNot_86_b.2.2.2.2.2
set_option maxRecDepth 20000 in
theorem dX10_readNot_96_b : (decode cX10_readNot 96 = .ok (.iload_n 3, 1)) ∧ (decode cX10_readNot 97 = .ok (.iload_n 2, 1)) ∧ (decode cX10_readNot 98 = .ok (.if_icmp .ge 15, 3)) ∧ (decode cX10_readNot 101 = .ok (.aload_n 0, 1)) ∧ (decode cX10_readNot 102 = .ok (.bipush (-28), 2)) ∧ (decode cX10_readNot 104 = .ok (.invokevirtual 256, 3)) := by decide +kernel
theorem dX10_readNot_96 : decode cX10_readNot 96 = .ok (.iload_n 3, 1) := dX10_readNot_96_b.1
theorem dX10_readNot_97 : decode cX10_readNot 97 = .ok (.iload_n 2, 1) := dX10_readNot_96_b.2.1
theorem dX10_readNot_98 : decode cX10_readNot 98 = .ok (.if_icmp .ge 15, 3) := dX10_readNot_96_b.2.2.1
theorem dX10_readNot_101 : decode cX10_readNot 101 = .ok (.aload_n 0, 1) := dX10_readNot_96_b.2.2.2.1
theorem dX10_readNot_102 : decode cX10_readNot 102 = .ok (.bipush (-28), 2) := dX10_readNot_96_b.2.2.2.2.1
theorem dX10_readNot_104 : decode cX10_readNot 104 = .ok (.invokevirtual 256, 3) := dX10_readNot_96_b.2.2.2.2.2
set_option maxRecDepth 20000 in
theorem dX10_readNot_107_b : (decode cX10_readNot 107 = .ok (.iinc 3 1, 3)) ∧ (decode cX10_readNot 110 = .ok (.goto (-14), 3)) ∧ (decode cX10_readNot 113 = .ok (.return_, 1)) := by decide +kernel
theorem dX10_readNot_107 : decode cX10_readNot 107 = .ok (.iinc 3 1, 3) := dX10_readNot_107_b.1
theorem dX10_readNot_110 : decode cX10_readNot 110 = .ok (.goto (-14), 3) := dX10_readNot_107_b.2.1
theorem dX10_readNot_113 : decode cX10_readNot 113 = .ok (.return_, 1) := dX10_readNot_107_b.2.2
set_option maxRecDepth 20000 in
theorem dX10_readAnd_0_b : (decode cX10_readAnd 0 = .ok (.aload_n 0, 1)) ∧ (decode cX10_readAnd 1 = .ok (.iload_n 1, 1)) ∧ (decode cX10_readAnd 2 = .ok (.invokevirtual 280, 3)) ∧ (decode cX10_readAnd 5 = .ok (.aload_n 0, 1)) ∧ (decode cX10_readAnd 6 = .ok (.ldc_w 283, 3)) ∧ (decode cX10_readAnd 9 = .ok (.invokevirtual 237, 3)) := by decide +kernel
theorem dX10_readAnd_0 : decode cX10_readAnd 0 = .ok (.aload_n 0, 1) := dX10_readAnd_0_b.1
theorem dX10_readAnd_1 : decode cX10_readAnd 1 = .ok (.iload_n 1, 1) := dX10_readAnd_0_b.2.1
theorem dX10_readAnd_2 : decode cX10_readAnd 2 = .ok (.invokevirtual 280, 3) := dX10_readAnd_0_b.2.2.1
theorem dX10_readAnd_5 : decode cX10_readAnd 5 = .ok (.aload_n 0, 1) := dX10_readAnd_0_b.2.2.2.1
theorem dX10_readAnd_6 : decode cX10_readAnd 6 = .ok (.ldc_w 283, 3) := dX10_readAnd_0_b.2.2.2.2.1
theorem dX10_readAnd_9 : decode cX10_readAnd 9 = .ok (.invokevirtual 237, 3) := dX10_readAnd_0_b.2.2.2.2.2
set_option maxRecDepth 20000 in
theorem dX10_readAnd_12_b : (decode cX10_readAnd 12 = .ok (.ifCond .eq 21, 3)) ∧ (decode cX10_readAnd 15 = .ok (.aload_n 0, 1)) ∧ (decode cX10_readAnd 16 = .ok (.invokevirtual 241, 3)) ∧ (decode cX10_readAnd 19 = .ok (.aload_n 0, 1)) ∧ (decode cX10_readAnd 20 = .ok (.iload_n 1, 1)) ∧ (decode cX10_readAnd 21 = .ok (.invokevirtual 280, 3)) := by decide +kernel
theorem dX10_readAnd_12 : decode cX10_readAnd 12 = .ok (.ifCond .eq 21, 3) := dX10_readAnd_12_b.1
theorem dX10_readAnd_15 : decode cX10_readAnd 15 = .ok (.aload_n 0, 1) := dX10_readAnd_12_b.2.1
theorem dX10_readAnd_16 : decode cX10_readAnd 16 = .ok (.invokevirtual 241, 3) := dX10_readAnd_12_b.2.2.1
theorem dX10_readAnd_19 : decode cX10_readAnd 19 = .ok (.aload_n 0, 1) := dX10_readAnd_12_b.2.2.2.1
theorem dX10_readAnd_20 : decode cX10_readAnd 20 = .ok (.iload_n 1, 1) := dX10_readAnd_12_b.2.2.2.2.1
theorem dX10_readAnd_21 : decode cX10_readAnd 21 = .ok (.invokevirtual 280, 3) := dX10_readAnd_12_b.2.2.2.2.2
set_option maxRecDepth 20000 in
theorem dX10_readAnd_24_b : (decode cX10_readAnd 24 = .ok (.aload_n 0, 1)) ∧ (decode cX10_readAnd 25 = .ok (.bipush (-26), 2)) ∧ (decode cX10_readAnd 27 = .ok (.invokevirtual 256, 3)) ∧ (decode cX10_readAnd 30 = .ok (.goto (-25), 3)) ∧ (decode cX10_readAnd 33 = .ok (.return_, 1)) := by decide +kernel
theorem dX10_readAnd_24 : decode cX10_readAnd 24 = .ok (.aload_n 0, 1) := dX10_readAnd_24_b.1
theorem dX10_readAnd_25 : decode cX10_readAnd 25 = .ok (.bipush (-26), 2) := dX10_readAnd_24_b.2.1
theorem dX10_readAnd_27 : decode cX10_readAnd 27 = .ok (.invokevirtual 256, 3) := dX10_readAnd_24_b.2.2.1
theorem dX10_readAnd_30 : decode cX10_readAnd 30 = .ok (.goto (-25), 3) := dX10_readAnd_24_b.2.2.2.1
theorem dX10_readAnd_33 : decode cX10_readAnd 33 = .ok (.return_, 1) := dX10_readAnd_24_b.2.2.2.2
set_option maxRecDepth 20000 in
theorem dX10_readExpression_0_b : (decode cX10_readExpression 0 = .ok (.aload_n 0, 1)) ∧ (decode cX10_readExpression 1 = .ok (.getfield 223, 3)) ∧ (decode cX10_readExpression 4 = .ok (.ifCond .eq 4, 3)) ∧ (decode cX10_readExpression 7 = .ok (.return_, 1)) ∧ (decode cX10_readExpression 8 = .ok (.aload_n 0, 1)) ∧ (decode cX10_readExpression 9 = .ok (.getfield 197, 3)) := by decide +kernel
theorem dX10_readExpression_0 : decode cX10_readExpression 0 = .ok (.aload_n 0, 1) := dX10_readExpression_0_b.1
theorem dX10_readExpression_1 : decode cX10_readExpression 1 = .ok (.getfield 223, 3) := dX10_readExpression_0_b.2.1
theorem dX10_readExpression_4 : decode cX10_readExpression 4 = .ok (.ifCond .eq 4, 3) := dX10_readExpression_0_b.2.2.1
theorem dX10_readExpression_7 : decode cX10_readExpression 7 = .ok (.return_, 1) := dX10_readExpression_0_b.2.2.2.1
theorem dX10_readExpression_8 : decode cX10_readExpression 8 = .ok (.aload_n 0, 1) := dX10_readExpression_0_b.2.2.2.2.1
theorem dX10_readExpression_9 : decode cX10_readExpression 9 = .ok (.getfield 197, 3) := dX10_readExpression_0_b.2.2.2.2.2
set_option maxRecDepth 20000 in
theorem dX10_readExpression_12_b : (decode cX10_readExpression 12 = .ok (.iconst 2, 1)) ∧ (decode cX10_readExpression 13 = .ok (.if_icmp .eq 20, 3)) ∧ (decode cX10_readExpression 16 = .ok (.aload_n 0, 1)) ∧ (decode cX10_readExpression 17 = .ok (.getfield 197, 3)) ∧ (decode cX10_readExpression 20 = .ok (.iconst 1, 1)) ∧ (decode cX10_readExpression 21 = .ok (.if_icmp .eq 12, 3)) := by decide +kernel
theorem dX10_readExpression_12 : decode cX10_readExpression 12 = .ok (.iconst 2, 1) := dX10_readExpression_12_b.1
theorem dX10_readExpression_13 : decode cX10_readExpression 13 = .ok (.if_icmp .eq 20, 3) := dX10_readExpression_12_b.2.1
theorem dX10_readExpression_16 : decode cX10_readExpression 16 = .ok (.aload_n 0, 1) := dX10_readExpression_12_b.2.2.1
theorem dX10_readExpression_17 : decode cX10_readExpression 17 = .ok (.getfield 197, 3) := dX10_readExpression_12_b.2.2.2.1
theorem dX10_readExpression_20 : decode cX10_readExpression 20 = .ok (.iconst 1, 1) := dX10_readExpression_12_b.2.2.2.2.1
theorem dX10_readExpression_21 : decode cX10_readExpression 21 = .ok (.if_icmp .eq 12, 3) := dX10_readExpression_12_b.2.2.2.2.2
set_option maxRecDepth 20000 in
theorem dX10_readExpression_24_b : (decode cX10_readExpression 24 = .ok (.aload_n 0, 1)) ∧ (decode cX10_readExpression 25 = .ok (.bipush 40, 2)) ∧ (decode cX10_readExpression 27 = .ok (.invokevirtual 247, 3)) ∧ (decode cX10_readExpression 30 = .ok (.ifCond .eq 7, 3)) ∧ (decode cX10_readExpression 33 = .ok (.iconst 1, 1)) ∧ (decode cX10_readExpression 34 = .ok (.goto 4, 3)) := by decide +kernel
theorem dX10_readExpression_24 : decode cX10_readExpression 24 = .ok (.aload_n 0, 1) := dX10_readExpression_24_b.1
theorem dX10_readExpression_25 : decode cX10_readExpression 25 = .ok (.bipush 40, 2) := dX10_readExpression_24_b.2.1
theorem dX10_readExpression_27 : decode cX10_readExpression 27 = .ok (.invokevirtual 247, 3) := dX10_readExpression_24_b.2.2.1
theorem dX10_readExpression_30 : decode cX10_readExpression 30 = .ok (.ifCond .eq 7, 3) := dX10_readExpression_24_b.2.2.2.1
theorem dX10_readExpression_33 : decode cX10_readExpression 33 = .ok (.iconst 1, 1) := dX10_readExpression_24_b.2.2.2.2.1
theorem dX10_readExpression_34 : decode cX10_readExpression 34 = .ok (.goto 4, 3) := dX10_readExpression_24_b.2.2.2.2.2
set_option maxRecDepth 20000 in
theorem dX10_readExpression_37_b : (decode cX10_readExpression 37 = .ok (.iconst 0, 1)) ∧ (decode cX10_readExpression 38 = .ok (.istore_n 2, 1)) ∧ (decode cX10_readExpression 39 = .ok (.iload_n 2, 1)) ∧ (decode cX10_readExpression 40 = .ok (.ifCond .ne 11, 3)) ∧ (decode cX10_readExpression 43 = .ok (.aload_n 0, 1)) ∧ (decode cX10_readExpression 44 = .ok (.iconst 1, 1)) := by decide +kernel
theorem dX10_readExpression_37 : decode cX10_readExpression 37 = .ok (.iconst 0, 1) := dX10_readExpression_37_b.1
theorem dX10_readExpression_38 : decode cX10_readExpression 38 = .ok (.istore_n 2, 1) := dX10_readExpression_37_b.2.1
theorem dX10_readExpression_39 : decode cX10_readExpression 39 = .ok (.iload_n 2, 1) := dX10_readExpression_37_b.2.2.1
theorem dX10_readExpression_40 : decode cX10_readExpression 40 = .ok (.ifCond .ne 11, 3) := dX10_readExpression_37_b.2.2.2.1
theorem dX10_readExpression_43 : decode cX10_readExpression 43 = .ok (.aload_n 0, 1) := dX10_readExpression_37_b.2.2.2.2.1
theorem dX10_readExpression_44 : decode cX10_readExpression 44 = .ok (.iconst 1, 1) := dX10_readExpression_37_b.2.2.2.2.2
set_option maxRecDepth 20000 in
theorem dX10_readExpression_45_b : (decode cX10_readExpression 45 = .ok (.invokevirtual 244, 3)) ∧ (decode cX10_readExpression 48 = .ok (.goto 14, 3)) ∧ (decode cX10_readExpression 51 = .ok (.iload_n 1, 1)) ∧ (decode cX10_readExpression 52 = .ok (.bipush 6, 2)) ∧ (decode cX10_readExpression 54 = .ok (.if_icmp .ne 8, 3)) ∧ (decode cX10_readExpression 57 = .ok (.aload_n 0, 1)) := by decide +kernel
theorem dX10_readExpression_45 : decode cX10_readExpression 45 = .ok (.invokevirtual 244, 3) := dX10_readExpression_45_b.1
theorem dX10_readExpression_48 : decode cX10_readExpression 48 = .ok (.goto 14, 3) := dX10_readExpression_45_b.2.1
theorem dX10_readExpression_51 : decode cX10_readExpression 51 = .ok (.iload_n 1, 1) := dX10_readExpression_45_b.2.2.1
theorem dX10_readExpression_52 : decode cX10_readExpression 52 = .ok (.bipush 6, 2) := dX10_readExpression_45_b.2.2.2.1
theorem dX10_readExpression_54 : decode cX10_readExpression 54 = .ok (.if_icmp .ne 8, 3) := dX10_readExpression_45_b.2.2.2.2.1
theorem dX10_readExpression_57 : decode cX10_readExpression 57 = .ok (.aload_n 0, 1) := dX10_readExpression_45_b.2.2.2.2.2
set_option maxRecDepth 20000 in
theorem dX10_readExpression_58_b : (decode cX10_readExpression 58 = .ok (.iconst 2, 1)) ∧ (decode cX10_readExpression 59 = .ok (.invokevirtual 244, 3)) ∧ (decode cX10_readExpression 62 = .ok (.aload_n 0, 1)) ∧ (decode cX10_readExpression 63 = .ok (.iload_n 1, 1)) ∧ (decode cX10_readExpression 64 = .ok (.invokevirtual 285, 3)) ∧ (decode cX10_readExpression 67 = .ok (.aload_n 0, 1)) := by decide +kernel
theorem dX10_readExpression_58 : decode cX10_readExpression 58 = .ok (.iconst 2, 1) := dX10_readExpression_58_b.1
theorem dX10_readExpression_59 : decode cX10_readExpression 59 = .ok (.invokevirtual 244, 3) := dX10_readExpression_58_b.2.1
theorem dX10_readExpression_62 : decode cX10_readExpression 62 = .ok (.aload_n 0, 1) := dX10_readExpression_58_b.2.2.1
theorem dX10_readExpression_63 : decode cX10_readExpression 63 = .ok (.iload_n 1, 1) := dX10_readExpression_58_b.2.2.2.1
theorem dX10_readExpression_64 : decode cX10_readExpression 64 = .ok (.invokevirtual 285, 3) := dX10_readExpression_58_b.2.2.2.2.1
theorem dX10_readExpression_67 : decode cX10_readExpression 67 = .ok (.aload_n 0, 1) := dX10_readExpression_58_b.2.2.2.2.2
set_option maxRecDepth 20000 in
theorem dX10_readExpression_68_b : (decode cX10_readExpression 68 = .ok (.ldc_w 288, 3)) ∧ (decode cX10_readExpression 71 = .ok (.invokevirtual 237, 3)) ∧ (decode cX10_readExpression 74 = .ok (.ifCond .eq 21, 3)) ∧ (decode cX10_readExpression 77 = .ok (.aload_n 0, 1)) ∧ (decode cX10_readExpression 78 = .ok (.invokevirtual 241, 3)) ∧ (decode cX10_readExpression 81 = .ok (.aload_n 0, 1)) := by decide +kernel
theorem dX10_readExpression_68 : decode cX10_readExpression 68 = .ok (.ldc_w 288, 3) := dX10_readExpression_68_b.1
theorem dX10_readExpression_71 : decode cX10_readExpression 71 = .ok (.invokevirtual 237, 3) := dX10_readExpression_68_b.2.1
theorem dX10_readExpression_74 : decode cX10_readExpression 74 = .ok (.ifCond .eq 21, 3) := dX10_readExpression_68_b.2.2.1
theorem dX10_readExpression_77 : decode cX10_readExpression 77 = .ok (.aload_n 0, 1) := dX10_readExpression_68_b.2.2.2.1
theorem dX10_readExpression_78 : decode cX10_readExpression 78 = .ok (.invokevirtual 241, 3) := dX10_readExpression_68_b.2.2.2.2.1
theorem dX10_readExpression_81 : decode cX10_readExpression 81 = .ok (.aload_n 0, 1) := dX10_readExpression_68_b.2.2.2.2.2
set_option maxRecDepth 20000 in
theorem dX10_readExpression_82_b : (decode cX10_readExpression 82 = .ok (.iload_n 1, 1)) ∧ (decode cX10_readExpression 83 = .ok (.invokevirtual 285, 3)) ∧ (decode cX10_readExpression 86 = .ok (.aload_n 0, 1)) ∧ (decode cX10_readExpression 87 = .ok (.bipush (-27), 2)) ∧ (decode cX10_readExpression 89 = .ok (.invokevirtual 256, 3)) ∧ (decode cX10_readExpression 92 = .ok (.goto (-25), 3)) := by decide +kernel
theorem dX10_readExpression_82 : decode cX10_readExpression 82 = .ok (.iload_n 1, 1) := dX10_readExpression_82_b.1
theorem dX10_readExpression_83 : decode cX10_readExpression 83 = .ok (.invokevirtual 285, 3) := dX10_readExpression_82_b.2.1
theorem dX10_readExpression_86 : decode cX10_readExpression 86 = .ok (.aload_n 0, 1) := dX10_readExpression_82_b.2.2.1
theorem dX10_readExpression_87 : decode cX10_readExpression 87 = .ok (.bipush (-27), 2) := dX10_readExpression_82_b.2.2.2.1
theorem dX10_readExpression_89 : decode cX10_readExpression 89 = .ok (.invokevirtual 256, 3) := dX10_readExpression_82_b.2.2.2.2.1
theorem dX10_readExpression_92 : decode cX10_readExpression 92 = .ok (.goto (-25), 3) := dX10_readExpression_82_b.2.2.2.2.2
theorem dX10_readExpression_95 : decode cX10_readExpression 95 = .ok (.return_, 1) := by decide +kernel
set_option maxRecDepth 20000 in
theorem dX10_leastOf_0_b : (decode cX10_leastOf 0 = .ok (.iload_n 1, 1)) ∧ (decode cX10_leastOf 1 = .ok (.ifCond .eq 8, 3)) ∧ (decode cX10_leastOf 4 = .ok (.iload_n 1, 1)) ∧ (decode cX10_leastOf 5 = .ok (.iconst 2, 1)) ∧ (decode cX10_leastOf 6 = .ok (.if_icmp .ne 7, 3)) ∧ (decode cX10_leastOf 9 = .ok (.iconst 1, 1)) := by decide +kernel
theorem dX10_leastOf_0 : decode cX10_leastOf 0 = .ok (.iload_n 1, 1) := dX10_leastOf_0_b.1
theorem dX10_leastOf_1 : decode cX10_leastOf 1 = .ok (.ifCond .eq 8, 3) := dX10_leastOf_0_b.2.1
theorem dX10_leastOf_4 : decode cX10_leastOf 4 = .ok (.iload_n 1, 1) := dX10_leastOf_0_b.2.2.1
theorem dX10_leastOf_5 : decode cX10_leastOf 5 = .ok (.iconst 2, 1) := dX10_leastOf_0_b.2.2.2.1
theorem dX10_leastOf_6 : decode cX10_leastOf 6 = .ok (.if_icmp .ne 7, 3) := dX10_leastOf_0_b.2.2.2.2.1
theorem dX10_leastOf_9 : decode cX10_leastOf 9 = .ok (.iconst 1, 1) := dX10_leastOf_0_b.2.2.2.2.2
set_option maxRecDepth 20000 in
theorem dX10_leastOf_10_b : (decode cX10_leastOf 10 = .ok (.goto 4, 3)) ∧ (decode cX10_leastOf 13 = .ok (.iconst 0, 1)) ∧ (decode cX10_leastOf 14 = .ok (.ireturn, 1)) := by decide +kernel
theorem dX10_leastOf_10 : decode cX10_leastOf 10 = .ok (.goto 4, 3) := dX10_leastOf_10_b.1
theorem dX10_leastOf_13 : decode cX10_leastOf 13 = .ok (.iconst 0, 1) := dX10_leastOf_10_b.2.1
theorem dX10_leastOf_14 : decode cX10_leastOf 14 = .ok (.ireturn, 1) := dX10_leastOf_10_b.2.2
set_option maxRecDepth 20000 in
theorem dX10_topOf_0_b : (decode cX10_topOf 0 = .ok (.iload_n 1, 1)) ∧ (decode cX10_topOf 1 = .ok (.ifCond .ne 8, 3)) ∧ (decode cX10_topOf 4 = .ok (.bipush 11, 2)) ∧ (decode cX10_topOf 6 = .ok (.goto 41, 3)) ∧ (decode cX10_topOf 9 = .ok (.iload_n 1, 1)) ∧ (decode cX10_topOf 10 = .ok (.iconst 1, 1)) := by decide +kernel
theorem dX10_topOf_0 : decode cX10_topOf 0 = .ok (.iload_n 1, 1) := dX10_topOf_0_b.1
theorem dX10_topOf_1 : decode cX10_topOf 1 = .ok (.ifCond .ne 8, 3) := dX10_topOf_0_b.2.1
theorem dX10_topOf_4 : decode cX10_topOf 4 = .ok (.bipush 11, 2) := dX10_topOf_0_b.2.2.1
theorem dX10_topOf_6 : decode cX10_topOf 6 = .ok (.goto 41, 3) := dX10_topOf_0_b.2.2.2.1
theorem dX10_topOf_9 : decode cX10_topOf 9 = .ok (.iload_n 1, 1) := dX10_topOf_0_b.2.2.2.2.1
theorem dX10_topOf_10 : decode cX10_topOf 10 = .ok (.iconst 1, 1) := dX10_topOf_0_b.2.2.2.2.2
set_option maxRecDepth 20000 in
theorem dX10_topOf_11_b : (decode cX10_topOf 11 = .ok (.if_icmp .ne 13, 3)) ∧ (decode cX10_topOf 14 = .ok (.aload_n 0, 1)) ∧ (decode cX10_topOf 15 = .ok (.getfield 54, 3)) ∧ (decode cX10_topOf 18 = .ok (.bipush 7, 2)) ∧ (decode cX10_topOf 20 = .ok (.iaload, 1)) ∧ (decode cX10_topOf 21 = .ok (.goto 26, 3)) := by decide +kernel
theorem dX10_topOf_11 : decode cX10_topOf 11 = .ok (.if_icmp .ne 13, 3) := dX10_topOf_11_b.1
theorem dX10_topOf_14 : decode cX10_topOf 14 = .ok (.aload_n 0, 1) := dX10_topOf_11_b.2.1
theorem dX10_topOf_15 : decode cX10_topOf 15 = .ok (.getfield 54, 3) := dX10_topOf_11_b.2.2.1
theorem dX10_topOf_18 : decode cX10_topOf 18 = .ok (.bipush 7, 2) := dX10_topOf_11_b.2.2.2.1
theorem dX10_topOf_20 : decode cX10_topOf 20 = .ok (.iaload, 1) := dX10_topOf_11_b.2.2.2.2.1
theorem dX10_topOf_21 : decode cX10_topOf 21 = .ok (.goto 26, 3) := dX10_topOf_11_b.2.2.2.2.2
set_option maxRecDepth 20000 in
theorem dX10_topOf_24_b : (decode cX10_topOf 24 = .ok (.iload_n 1, 1)) ∧ (decode cX10_topOf 25 = .ok (.iconst 3, 1)) ∧ (decode cX10_topOf 26 = .ok (.if_icmp .ne 8, 3)) ∧ (decode cX10_topOf 29 = .ok (.bipush 9, 2)) ∧ (decode cX10_topOf 31 = .ok (.goto 16, 3)) ∧ (decode cX10_topOf 34 = .ok (.iload_n 1, 1)) := by decide +kernel
theorem dX10_topOf_24 : decode cX10_topOf 24 = .ok (.iload_n 1, 1) := dX10_topOf_24_b.1
theorem dX10_topOf_25 : decode cX10_topOf 25 = .ok (.iconst 3, 1) := dX10_topOf_24_b.2.1
theorem dX10_topOf_26 : decode cX10_topOf 26 = .ok (.if_icmp .ne 8, 3) := dX10_topOf_24_b.2.2.1
theorem dX10_topOf_29 : decode cX10_topOf 29 = .ok (.bipush 9, 2) := dX10_topOf_24_b.2.2.2.1
theorem dX10_topOf_31 : decode cX10_topOf 31 = .ok (.goto 16, 3) := dX10_topOf_24_b.2.2.2.2.1
theorem dX10_topOf_34 : decode cX10_topOf 34 = .ok (.iload_n 1, 1) := dX10_topOf_24_b.2.2.2.2.2
set_option maxRecDepth 20000 in
theorem dX10_topOf_35_b : (decode cX10_topOf 35 = .ok (.iconst 4, 1)) ∧ (decode cX10_topOf 36 = .ok (.if_icmp .ne 8, 3)) ∧ (decode cX10_topOf 39 = .ok (.bipush 99, 2)) ∧ (decode cX10_topOf 41 = .ok (.goto 6, 3)) ∧ (decode cX10_topOf 44 = .ok (.sipush 999, 3)) ∧ (decode cX10_topOf 47 = .ok (.ireturn, 1)) := by decide +kernel
theorem dX10_topOf_35 : decode cX10_topOf 35 = .ok (.iconst 4, 1) := dX10_topOf_35_b.1
theorem dX10_topOf_36 : decode cX10_topOf 36 = .ok (.if_icmp .ne 8, 3) := dX10_topOf_35_b.2.1
theorem dX10_topOf_39 : decode cX10_topOf 39 = .ok (.bipush 99, 2) := dX10_topOf_35_b.2.2.1
theorem dX10_topOf_41 : decode cX10_topOf 41 = .ok (.goto 6, 3) := dX10_topOf_35_b.2.2.2.1
theorem dX10_topOf_44 : decode cX10_topOf 44 = .ok (.sipush 999, 3) := dX10_topOf_35_b.2.2.2.2.1
theorem dX10_topOf_47 : decode cX10_topOf 47 = .ok (.ireturn, 1) := dX10_topOf_35_b.2.2.2.2.2
set_option maxRecDepth 20000 in
theorem dX10_readThing_0_b : (decode cX10_readThing 0 = .ok (.bipush 7, 2)) ∧ (decode cX10_readThing 2 = .ok (.aload_n 0, 1)) ∧ (decode cX10_readThing 3 = .ok (.getfield 290, 3)) ∧ (decode cX10_readThing 6 = .ok (.iadd, 1)) ∧ (decode cX10_readThing 7 = .ok (.istore_n 2, 1)) ∧ (decode cX10_readThing 8 = .ok (.aload_n 0, 1)) := by decide +kernel
theorem dX10_readThing_0 : decode cX10_readThing 0 = .ok (.bipush 7, 2) := dX10_readThing_0_b.1
theorem dX10_readThing_2 : decode cX10_readThing 2 = .ok (.aload_n 0, 1) := dX10_readThing_0_b.2.1
theorem dX10_readThing_3 : decode cX10_readThing 3 = .ok (.getfield 290, 3) := dX10_readThing_0_b.2.2.1
theorem dX10_readThing_6 : decode cX10_readThing 6 = .ok (.iadd, 1) := dX10_readThing_0_b.2.2.2.1
theorem dX10_readThing_7 : decode cX10_readThing 7 = .ok (.istore_n 2, 1) := dX10_readThing_0_b.2.2.2.2.1
theorem dX10_readThing_8 : decode cX10_readThing 8 = .ok (.aload_n 0, 1) := dX10_readThing_0_b.2.2.2.2.2
set_option maxRecDepth 20000 in
theorem dX10_readThing_9_b : (decode cX10_readThing 9 = .ok (.getfield 57, 3)) ∧ (decode cX10_readThing 12 = .ok (.iload_n 2, 1)) ∧ (decode cX10_readThing 13 = .ok (.iload_n 1, 1)) ∧ (decode cX10_readThing 14 = .ok (.iastore, 1)) ∧ (decode cX10_readThing 15 = .ok (.aload_n 0, 1)) ∧ (decode cX10_readThing 16 = .ok (.getfield 60, 3)) := by decide +kernel
theorem dX10_readThing_9 : decode cX10_readThing 9 = .ok (.getfield 57, 3) := dX10_readThing_9_b.1
theorem dX10_readThing_12 : decode cX10_readThing 12 = .ok (.iload_n 2, 1) := dX10_readThing_9_b.2.1
theorem dX10_readThing_13 : decode cX10_readThing 13 = .ok (.iload_n 1, 1) := dX10_readThing_9_b.2.2.1
theorem dX10_readThing_14 : decode cX10_readThing 14 = .ok (.iastore, 1) := dX10_readThing_9_b.2.2.2.1
theorem dX10_readThing_15 : decode cX10_readThing 15 = .ok (.aload_n 0, 1) := dX10_readThing_9_b.2.2.2.2.1
theorem dX10_readThing_16 : decode cX10_readThing 16 = .ok (.getfield 60, 3) := dX10_readThing_9_b.2.2.2.2.2
set_option maxRecDepth 20000 in
theorem dX10_readThing_19_b : (decode cX10_readThing 19 = .ok (.iload_n 2, 1)) ∧ (decode cX10_readThing 20 = .ok (.aload_n 0, 1)) ∧ (decode cX10_readThing 21 = .ok (.iconst 1, 1)) ∧ (decode cX10_readThing 22 = .ok (.bipush 99, 2)) ∧ (decode cX10_readThing 24 = .ok (.invokevirtual 253, 3)) ∧ (decode cX10_readThing 27 = .ok (.iastore, 1)) := by decide +kernel
theorem dX10_readThing_19 : decode cX10_readThing 19 = .ok (.iload_n 2, 1) := dX10_readThing_19_b.1
theorem dX10_readThing_20 : decode cX10_readThing 20 = .ok (.aload_n 0, 1) := dX10_readThing_19_b.2.1
theorem dX10_readThing_21 : decode cX10_readThing 21 = .ok (.iconst 1, 1) := dX10_readThing_19_b.2.2.1
theorem dX10_readThing_22 : decode cX10_readThing 22 = .ok (.bipush 99, 2) := dX10_readThing_19_b.2.2.2.1
theorem dX10_readThing_24 : decode cX10_readThing 24 = .ok (.invokevirtual 253, 3) := dX10_readThing_19_b.2.2.2.2.1
theorem dX10_readThing_27 : decode cX10_readThing 27 = .ok (.iastore, 1) := dX10_readThing_19_b.2.2.2.2.2
set_option maxRecDepth 20000 in
theorem dX10_readThing_28_b : (decode cX10_readThing 28 = .ok (.aload_n 0, 1)) ∧ (decode cX10_readThing 29 = .ok (.ldc_w 293, 3)) ∧ (decode cX10_readThing 32 = .ok (.invokevirtual 294, 3)) ∧ (decode cX10_readThing 35 = .ok (.aload_n 0, 1)) ∧ (decode cX10_readThing 36 = .ok (.getfield 62, 3)) ∧ (decode cX10_readThing 39 = .ok (.iload_n 2, 1)) := by decide +kernel
theorem dX10_readThing_28 : decode cX10_readThing 28 = .ok (.aload_n 0, 1) := dX10_readThing_28_b.1
theorem dX10_readThing_29 : decode cX10_readThing 29 = .ok (.ldc_w 293, 3) := dX10_readThing_28_b.2.1
theorem dX10_readThing_32 : decode cX10_readThing 32 = .ok (.invokevirtual 294, 3) := dX10_readThing_28_b.2.2.1
theorem dX10_readThing_35 : decode cX10_readThing 35 = .ok (.aload_n 0, 1) := dX10_readThing_28_b.2.2.2.1
theorem dX10_readThing_36 : decode cX10_readThing 36 = .ok (.getfield 62, 3) := dX10_readThing_28_b.2.2.2.2.1
theorem dX10_readThing_39 : decode cX10_readThing 39 = .ok (.iload_n 2, 1) := dX10_readThing_28_b.2.2.2.2.2
set_option maxRecDepth 20000 in
theorem dX10_readThing_40_b : (decode cX10_readThing 40 = .ok (.aload_n 0, 1)) ∧ (decode cX10_readThing 41 = .ok (.iconst 0, 1)) ∧ (decode cX10_readThing 42 = .ok (.aload_n 0, 1)) ∧ (decode cX10_readThing 43 = .ok (.getfield 54, 3)) ∧ (decode cX10_readThing 46 = .ok (.bipush 7, 2)) ∧ (decode cX10_readThing 48 = .ok (.iaload, 1)) := by decide +kernel
theorem dX10_readThing_40 : decode cX10_readThing 40 = .ok (.aload_n 0, 1) := dX10_readThing_40_b.1
theorem dX10_readThing_41 : decode cX10_readThing 41 = .ok (.iconst 0, 1) := dX10_readThing_40_b.2.1
theorem dX10_readThing_42 : decode cX10_readThing 42 = .ok (.aload_n 0, 1) := dX10_readThing_40_b.2.2.1
theorem dX10_readThing_43 : decode cX10_readThing 43 = .ok (.getfield 54, 3) := dX10_readThing_40_b.2.2.2.1
theorem dX10_readThing_46 : decode cX10_readThing 46 = .ok (.bipush 7, 2) := dX10_readThing_40_b.2.2.2.2.1
theorem dX10_readThing_48 : decode cX10_readThing 48 = .ok (.iaload, 1) := dX10_readThing_40_b.2.2.2.2.2
set_option maxRecDepth 20000 in
theorem dX10_readThing_49_b : (decode cX10_readThing 49 = .ok (.invokevirtual 253, 3)) ∧ (decode cX10_readThing 52 = .ok (.iastore, 1)) ∧ (decode cX10_readThing 53 = .ok (.aload_n 0, 1)) ∧ (decode cX10_readThing 54 = .ok (.getfield 65, 3)) ∧ (decode cX10_readThing 57 = .ok (.iload_n 2, 1)) ∧ (decode cX10_readThing 58 = .ok (.iconst (-1), 1)) := by decide +kernel
theorem dX10_readThing_49 : decode cX10_readThing 49 = .ok (.invokevirtual 253, 3) := dX10_readThing_49_b.1
theorem dX10_readThing_52 : decode cX10_readThing 52 = .ok (.iastore, 1) := dX10_readThing_49_b.2.1
theorem dX10_readThing_53 : decode cX10_readThing 53 = .ok (.aload_n 0, 1) := dX10_readThing_49_b.2.2.1
theorem dX10_readThing_54 : decode cX10_readThing 54 = .ok (.getfield 65, 3) := dX10_readThing_49_b.2.2.2.1
theorem dX10_readThing_57 : decode cX10_readThing 57 = .ok (.iload_n 2, 1) := dX10_readThing_49_b.2.2.2.2.1
theorem dX10_readThing_58 : decode cX10_readThing 58 = .ok (.iconst (-1), 1) := dX10_readThing_49_b.2.2.2.2.2
set_option maxRecDepth 20000 in
theorem dX10_readThing_59_b : (decode cX10_readThing 59 = .ok (.iastore, 1)) ∧ (decode cX10_readThing 60 = .ok (.iload_n 1, 1)) ∧ (decode cX10_readThing 61 = .ok (.iconst 2, 1)) ∧ (decode cX10_readThing 62 = .ok (.if_icmp .eq 31, 3)) ∧ (decode cX10_readThing 65 = .ok (.aload_n 0, 1)) ∧ (decode cX10_readThing 66 = .ok (.ldc_w 298, 3)) := by decide +kernel
theorem dX10_readThing_59 : decode cX10_readThing 59 = .ok (.iastore, 1) := dX10_readThing_59_b.1
theorem dX10_readThing_60 : decode cX10_readThing 60 = .ok (.iload_n 1, 1) := dX10_readThing_59_b.2.1
theorem dX10_readThing_61 : decode cX10_readThing 61 = .ok (.iconst 2, 1) := dX10_readThing_59_b.2.2.1
theorem dX10_readThing_62 : decode cX10_readThing 62 = .ok (.if_icmp .eq 31, 3) := dX10_readThing_59_b.2.2.2.1
theorem dX10_readThing_65 : decode cX10_readThing 65 = .ok (.aload_n 0, 1) := dX10_readThing_59_b.2.2.2.2.1
theorem dX10_readThing_66 : decode cX10_readThing 66 = .ok (.ldc_w 298, 3) := dX10_readThing_59_b.2.2.2.2.2
set_option maxRecDepth 20000 in
theorem dX10_readThing_69_b : (decode cX10_readThing 69 = .ok (.invokevirtual 300, 3)) ∧ (decode cX10_readThing 72 = .ok (.ifCond .eq 21, 3)) ∧ (decode cX10_readThing 75 = .ok (.aload_n 0, 1)) ∧ (decode cX10_readThing 76 = .ok (.getfield 65, 3)) ∧ (decode cX10_readThing 79 = .ok (.iload_n 2, 1)) ∧ (decode cX10_readThing 80 = .ok (.aload_n 0, 1)) := by decide +kernel
theorem dX10_readThing_69 : decode cX10_readThing 69 = .ok (.invokevirtual 300, 3) := dX10_readThing_69_b.1
theorem dX10_readThing_72 : decode cX10_readThing 72 = .ok (.ifCond .eq 21, 3) := dX10_readThing_69_b.2.1
theorem dX10_readThing_75 : decode cX10_readThing 75 = .ok (.aload_n 0, 1) := dX10_readThing_69_b.2.2.1
theorem dX10_readThing_76 : decode cX10_readThing 76 = .ok (.getfield 65, 3) := dX10_readThing_69_b.2.2.2.1
theorem dX10_readThing_79 : decode cX10_readThing 79 = .ok (.iload_n 2, 1) := dX10_readThing_69_b.2.2.2.2.1
theorem dX10_readThing_80 : decode cX10_readThing 80 = .ok (.aload_n 0, 1) := dX10_readThing_69_b.2.2.2.2.2
set_option maxRecDepth 20000 in
theorem dX10_readThing_81_b : (decode cX10_readThing 81 = .ok (.iconst 0, 1)) ∧ (decode cX10_readThing 82 = .ok (.aload_n 0, 1)) ∧ (decode cX10_readThing 83 = .ok (.getfield 54, 3)) ∧ (decode cX10_readThing 86 = .ok (.bipush 7, 2)) ∧ (decode cX10_readThing 88 = .ok (.iaload, 1)) ∧ (decode cX10_readThing 89 = .ok (.invokevirtual 253, 3)) := by decide +kernel
theorem dX10_readThing_81 : decode cX10_readThing 81 = .ok (.iconst 0, 1) := dX10_readThing_81_b.1
theorem dX10_readThing_82 : decode cX10_readThing 82 = .ok (.aload_n 0, 1) := dX10_readThing_81_b.2.1
theorem dX10_readThing_83 : decode cX10_readThing 83 = .ok (.getfield 54, 3) := dX10_readThing_81_b.2.2.1
theorem dX10_readThing_86 : decode cX10_readThing 86 = .ok (.bipush 7, 2) := dX10_readThing_81_b.2.2.2.1
theorem dX10_readThing_88 : decode cX10_readThing 88 = .ok (.iaload, 1) := dX10_readThing_81_b.2.2.2.2.1
theorem dX10_readThing_89 : decode cX10_readThing 89 = .ok (.invokevirtual 253, 3) := dX10_readThing_81_b.2.2.2.2.2
set_option maxRecDepth 20000 in
theorem dX10_readThing_92_b : (decode cX10_readThing 92 = .ok (.iastore, 1)) ∧ (decode cX10_readThing 93 = .ok (.aload_n 0, 1)) ∧ (decode cX10_readThing 94 = .ok (.dup, 1)) ∧ (decode cX10_readThing 95 = .ok (.getfield 290, 3)) ∧ (decode cX10_readThing 98 = .ok (.iconst 1, 1)) ∧ (decode cX10_readThing 99 = .ok (.iadd, 1)) := by decide +kernel
theorem dX10_readThing_92 : decode cX10_readThing 92 = .ok (.iastore, 1) := dX10_readThing_92_b.1
theorem dX10_readThing_93 : decode cX10_readThing 93 = .ok (.aload_n 0, 1) := dX10_readThing_92_b.2.1
theorem dX10_readThing_94 : decode cX10_readThing 94 = .ok (.dup, 1) := dX10_readThing_92_b.2.2.1
theorem dX10_readThing_95 : decode cX10_readThing 95 = .ok (.getfield 290, 3) := dX10_readThing_92_b.2.2.2.1
theorem dX10_readThing_98 : decode cX10_readThing 98 = .ok (.iconst 1, 1) := dX10_readThing_92_b.2.2.2.2.1
theorem dX10_readThing_99 : decode cX10_readThing 99 = .ok (.iadd, 1) := dX10_readThing_92_b.2.2.2.2.2
set_option maxRecDepth 20000 in
theorem dX10_readThing_100_b : (decode cX10_readThing 100 = .ok (.putfield 290, 3)) ∧ (decode cX10_readThing 103 = .ok (.return_, 1)) := by decide +kernel
theorem dX10_readThing_100 : decode cX10_readThing 100 = .ok (.putfield 290, 3) := dX10_readThing_100_b.1
theorem dX10_readThing_103 : decode cX10_readThing 103 = .ok (.return_, 1) := dX10_readThing_100_b.2
set_option maxRecDepth 20000 in
theorem dX10_readClause_0_b : (decode cX10_readClause 0 = .ok (.aload_n 0, 1)) ∧ (decode cX10_readClause 1 = .ok (.aload_n 0, 1)) ∧ (decode cX10_readClause 2 = .ok (.getfield 33, 3)) ∧ (decode cX10_readClause 5 = .ok (.invokevirtual 259, 3)) ∧ (decode cX10_readClause 8 = .ok (.istore_n 2, 1)) ∧ (decode cX10_readClause 9 = .ok (.iload_n 2, 1)) := by decide +kernel
theorem dX10_readClause_0 : decode cX10_readClause 0 = .ok (.aload_n 0, 1) := dX10_readClause_0_b.1
theorem dX10_readClause_1 : decode cX10_readClause 1 = .ok (.aload_n 0, 1) := dX10_readClause_0_b.2.1
theorem dX10_readClause_2 : decode cX10_readClause 2 = .ok (.getfield 33, 3) := dX10_readClause_0_b.2.2.1
theorem dX10_readClause_5 : decode cX10_readClause 5 = .ok (.invokevirtual 259, 3) := dX10_readClause_0_b.2.2.2.1
theorem dX10_readClause_8 : decode cX10_readClause 8 = .ok (.istore_n 2, 1) := dX10_readClause_0_b.2.2.2.2.1
theorem dX10_readClause_9 : decode cX10_readClause 9 = .ok (.iload_n 2, 1) := dX10_readClause_0_b.2.2.2.2.2
set_option maxRecDepth 20000 in
theorem dX10_readClause_10_b : (decode cX10_readClause 10 = .ok (.iconst (-1), 1)) ∧ (decode cX10_readClause 11 = .ok (.if_icmp .ne 11, 3)) ∧ (decode cX10_readClause 14 = .ok (.aload_n 0, 1)) ∧ (decode cX10_readClause 15 = .ok (.iconst 1, 1)) ∧ (decode cX10_readClause 16 = .ok (.invokevirtual 244, 3)) ∧ (decode cX10_readClause 19 = .ok (.goto 81, 3)) := by decide +kernel
theorem dX10_readClause_10 : decode cX10_readClause 10 = .ok (.iconst (-1), 1) := dX10_readClause_10_b.1
theorem dX10_readClause_11 : decode cX10_readClause 11 = .ok (.if_icmp .ne 11, 3) := dX10_readClause_10_b.2.1
theorem dX10_readClause_14 : decode cX10_readClause 14 = .ok (.aload_n 0, 1) := dX10_readClause_10_b.2.2.1
theorem dX10_readClause_15 : decode cX10_readClause 15 = .ok (.iconst 1, 1) := dX10_readClause_10_b.2.2.2.1
theorem dX10_readClause_16 : decode cX10_readClause 16 = .ok (.invokevirtual 244, 3) := dX10_readClause_10_b.2.2.2.2.1
theorem dX10_readClause_19 : decode cX10_readClause 19 = .ok (.goto 81, 3) := dX10_readClause_10_b.2.2.2.2.2
set_option maxRecDepth 20000 in
theorem dX10_readClause_22_b : (decode cX10_readClause 22 = .ok (.iload_n 2, 1)) ∧ (decode cX10_readClause 23 = .ok (.ifCond .ne 15, 3)) ∧ (decode cX10_readClause 26 = .ok (.iload_n 1, 1)) ∧ (decode cX10_readClause 27 = .ok (.ifCond .eq 11, 3)) ∧ (decode cX10_readClause 30 = .ok (.aload_n 0, 1)) ∧ (decode cX10_readClause 31 = .ok (.iconst 4, 1)) := by decide +kernel
theorem dX10_readClause_22 : decode cX10_readClause 22 = .ok (.iload_n 2, 1) := dX10_readClause_22_b.1
theorem dX10_readClause_23 : decode cX10_readClause 23 = .ok (.ifCond .ne 15, 3) := dX10_readClause_22_b.2.1
theorem dX10_readClause_26 : decode cX10_readClause 26 = .ok (.iload_n 1, 1) := dX10_readClause_22_b.2.2.1
theorem dX10_readClause_27 : decode cX10_readClause 27 = .ok (.ifCond .eq 11, 3) := dX10_readClause_22_b.2.2.2.1
theorem dX10_readClause_30 : decode cX10_readClause 30 = .ok (.aload_n 0, 1) := dX10_readClause_22_b.2.2.2.2.1
theorem dX10_readClause_31 : decode cX10_readClause 31 = .ok (.iconst 4, 1) := dX10_readClause_22_b.2.2.2.2.2
set_option maxRecDepth 20000 in
theorem dX10_readClause_32_b : (decode cX10_readClause 32 = .ok (.invokevirtual 244, 3)) ∧ (decode cX10_readClause 35 = .ok (.goto 65, 3)) ∧ (decode cX10_readClause 38 = .ok (.iload_n 2, 1)) ∧ (decode cX10_readClause 39 = .ok (.bipush 7, 2)) ∧ (decode cX10_readClause 41 = .ok (.if_icmp .ge 20, 3)) ∧ (decode cX10_readClause 44 = .ok (.iload_n 1, 1)) := by decide +kernel
theorem dX10_readClause_32 : decode cX10_readClause 32 = .ok (.invokevirtual 244, 3) := dX10_readClause_32_b.1
theorem dX10_readClause_35 : decode cX10_readClause 35 = .ok (.goto 65, 3) := dX10_readClause_32_b.2.1
theorem dX10_readClause_38 : decode cX10_readClause 38 = .ok (.iload_n 2, 1) := dX10_readClause_32_b.2.2.1
theorem dX10_readClause_39 : decode cX10_readClause 39 = .ok (.bipush 7, 2) := dX10_readClause_32_b.2.2.2.1
theorem dX10_readClause_41 : decode cX10_readClause 41 = .ok (.if_icmp .ge 20, 3) := dX10_readClause_32_b.2.2.2.2.1
theorem dX10_readClause_44 : decode cX10_readClause 44 = .ok (.iload_n 1, 1) := dX10_readClause_32_b.2.2.2.2.2
set_option maxRecDepth 20000 in
theorem dX10_readClause_45_b : (decode cX10_readClause 45 = .ok (.iload_n 2, 1)) ∧ (decode cX10_readClause 46 = .ok (.ishr, 1)) ∧ (decode cX10_readClause 47 = .ok (.iconst 1, 1)) ∧ (decode cX10_readClause 48 = .ok (.iand, 1)) ∧ (decode cX10_readClause 49 = .ok (.iconst 1, 1)) ∧ (decode cX10_readClause 50 = .ok (.if_icmp .ne 11, 3)) := by decide +kernel
theorem dX10_readClause_45 : decode cX10_readClause 45 = .ok (.iload_n 2, 1) := dX10_readClause_45_b.1
theorem dX10_readClause_46 : decode cX10_readClause 46 = .ok (.ishr, 1) := dX10_readClause_45_b.2.1
theorem dX10_readClause_47 : decode cX10_readClause 47 = .ok (.iconst 1, 1) := dX10_readClause_45_b.2.2.1
theorem dX10_readClause_48 : decode cX10_readClause 48 = .ok (.iand, 1) := dX10_readClause_45_b.2.2.2.1
theorem dX10_readClause_49 : decode cX10_readClause 49 = .ok (.iconst 1, 1) := dX10_readClause_45_b.2.2.2.2.1
theorem dX10_readClause_50 : decode cX10_readClause 50 = .ok (.if_icmp .ne 11, 3) := dX10_readClause_45_b.2.2.2.2.2
set_option maxRecDepth 20000 in
theorem dX10_readClause_53_b : (decode cX10_readClause 53 = .ok (.aload_n 0, 1)) ∧ (decode cX10_readClause 54 = .ok (.iconst 5, 1)) ∧ (decode cX10_readClause 55 = .ok (.invokevirtual 244, 3)) ∧ (decode cX10_readClause 58 = .ok (.goto 42, 3)) ∧ (decode cX10_readClause 61 = .ok (.iload_n 2, 1)) ∧ (decode cX10_readClause 62 = .ok (.bipush 7, 2)) := by decide +kernel
theorem dX10_readClause_53 : decode cX10_readClause 53 = .ok (.aload_n 0, 1) := dX10_readClause_53_b.1
theorem dX10_readClause_54 : decode cX10_readClause 54 = .ok (.iconst 5, 1) := dX10_readClause_53_b.2.1
theorem dX10_readClause_55 : decode cX10_readClause 55 = .ok (.invokevirtual 244, 3) := dX10_readClause_53_b.2.2.1
theorem dX10_readClause_58 : decode cX10_readClause 58 = .ok (.goto 42, 3) := dX10_readClause_53_b.2.2.2.1
theorem dX10_readClause_61 : decode cX10_readClause 61 = .ok (.iload_n 2, 1) := dX10_readClause_53_b.2.2.2.2.1
theorem dX10_readClause_62 : decode cX10_readClause 62 = .ok (.bipush 7, 2) := dX10_readClause_53_b.2.2.2.2.2
set_option maxRecDepth 20000 in
theorem dX10_readClause_64_b : (decode cX10_readClause 64 = .ok (.bipush 10, 2)) ∧ (decode cX10_readClause 66 = .ok (.invokestatic 177, 3)) ∧ (decode cX10_readClause 69 = .ok (.ifCond .eq 12, 3)) ∧ (decode cX10_readClause 72 = .ok (.aload_n 0, 1)) ∧ (decode cX10_readClause 73 = .ok (.getfield 290, 3)) ∧ (decode cX10_readClause 76 = .ok (.bipush 7, 2)) := by decide +kernel
theorem dX10_readClause_64 : decode cX10_readClause 64 = .ok (.bipush 10, 2) := dX10_readClause_64_b.1
theorem dX10_readClause_66 : decode cX10_readClause 66 = .ok (.invokestatic 177, 3) := dX10_readClause_64_b.2.1
theorem dX10_readClause_69 : decode cX10_readClause 69 = .ok (.ifCond .eq 12, 3) := dX10_readClause_64_b.2.2.1
theorem dX10_readClause_72 : decode cX10_readClause 72 = .ok (.aload_n 0, 1) := dX10_readClause_64_b.2.2.2.1
theorem dX10_readClause_73 : decode cX10_readClause 73 = .ok (.getfield 290, 3) := dX10_readClause_64_b.2.2.2.2.1
theorem dX10_readClause_76 : decode cX10_readClause 76 = .ok (.bipush 7, 2) := dX10_readClause_64_b.2.2.2.2.2
set_option maxRecDepth 20000 in
theorem dX10_readClause_78_b : (decode cX10_readClause 78 = .ok (.if_icmp .eq 17, 3)) ∧ (decode cX10_readClause 81 = .ok (.iload_n 2, 1)) ∧ (decode cX10_readClause 82 = .ok (.bipush 11, 2)) ∧ (decode cX10_readClause 84 = .ok (.if_icmp .ne 16, 3)) ∧ (decode cX10_readClause 87 = .ok (.aload_n 0, 1)) ∧ (decode cX10_readClause 88 = .ok (.getfield 303, 3)) := by decide +kernel
theorem dX10_readClause_78 : decode cX10_readClause 78 = .ok (.if_icmp .eq 17, 3) := dX10_readClause_78_b.1
theorem dX10_readClause_81 : decode cX10_readClause 81 = .ok (.iload_n 2, 1) := dX10_readClause_78_b.2.1
theorem dX10_readClause_82 : decode cX10_readClause 82 = .ok (.bipush 11, 2) := dX10_readClause_78_b.2.2.1
theorem dX10_readClause_84 : decode cX10_readClause 84 = .ok (.if_icmp .ne 16, 3) := dX10_readClause_78_b.2.2.2.1
theorem dX10_readClause_87 : decode cX10_readClause 87 = .ok (.aload_n 0, 1) := dX10_readClause_78_b.2.2.2.2.1
theorem dX10_readClause_88 : decode cX10_readClause 88 = .ok (.getfield 303, 3) := dX10_readClause_78_b.2.2.2.2.2
set_option maxRecDepth 20000 in
theorem dX10_readClause_91_b : (decode cX10_readClause 91 = .ok (.iconst 4, 1)) ∧ (decode cX10_readClause 92 = .ok (.if_icmp .ne 8, 3)) ∧ (decode cX10_readClause 95 = .ok (.aload_n 0, 1)) ∧ (decode cX10_readClause 96 = .ok (.iconst 2, 1)) ∧ (decode cX10_readClause 97 = .ok (.invokevirtual 244, 3)) ∧ (decode cX10_readClause 100 = .ok (.aload_n 0, 1)) := by decide +kernel
theorem dX10_readClause_91 : decode cX10_readClause 91 = .ok (.iconst 4, 1) := dX10_readClause_91_b.1
theorem dX10_readClause_92 : decode cX10_readClause 92 = .ok (.if_icmp .ne 8, 3) := dX10_readClause_91_b.2.1
theorem dX10_readClause_95 : decode cX10_readClause 95 = .ok (.aload_n 0, 1) := dX10_readClause_91_b.2.2.1
theorem dX10_readClause_96 : decode cX10_readClause 96 = .ok (.iconst 2, 1) := dX10_readClause_91_b.2.2.2.1
theorem dX10_readClause_97 : decode cX10_readClause 97 = .ok (.invokevirtual 244, 3) := dX10_readClause_91_b.2.2.2.2.1
theorem dX10_readClause_100 : decode cX10_readClause 100 = .ok (.aload_n 0, 1) := dX10_readClause_91_b.2.2.2.2.2
set_option maxRecDepth 20000 in
theorem dX10_readClause_101_b : (decode cX10_readClause 101 = .ok (.getfield 223, 3)) ∧ (decode cX10_readClause 104 = .ok (.ifCond .eq 5, 3)) ∧ (decode cX10_readClause 107 = .ok (.iload_n 1, 1)) ∧ (decode cX10_readClause 108 = .ok (.ireturn, 1)) ∧ (decode cX10_readClause 109 = .ok (.aload_n 0, 1)) ∧ (decode cX10_readClause 110 = .ok (.invokevirtual 241, 3)) := by decide +kernel
theorem dX10_readClause_101 : decode cX10_readClause 101 = .ok (.getfield 223, 3) := dX10_readClause_101_b.1
theorem dX10_readClause_104 : decode cX10_readClause 104 = .ok (.ifCond .eq 5, 3) := dX10_readClause_101_b.2.1
theorem dX10_readClause_107 : decode cX10_readClause 107 = .ok (.iload_n 1, 1) := dX10_readClause_101_b.2.2.1
theorem dX10_readClause_108 : decode cX10_readClause 108 = .ok (.ireturn, 1) := dX10_readClause_101_b.2.2.2.1
theorem dX10_readClause_109 : decode cX10_readClause 109 = .ok (.aload_n 0, 1) := dX10_readClause_101_b.2.2.2.2.1
theorem dX10_readClause_110 : decode cX10_readClause 110 = .ok (.invokevirtual 241, 3) := dX10_readClause_101_b.2.2.2.2.2
set_option maxRecDepth 20000 in
theorem dX10_readClause_113_b : (decode cX10_readClause 113 = .ok (.iload_n 2, 1)) ∧ (decode cX10_readClause 114 = .ok (.bipush 7, 2)) ∧ (decode cX10_readClause 116 = .ok (.if_icmp .ge 29, 3)) ∧ (decode cX10_readClause 119 = .ok (.aload_n 0, 1)) ∧ (decode cX10_readClause 120 = .ok (.getfield 54, 3)) ∧ (decode cX10_readClause 123 = .ok (.bipush 7, 2)) := by decide +kernel
theorem dX10_readClause_113 : decode cX10_readClause 113 = .ok (.iload_n 2, 1) := dX10_readClause_113_b.1
theorem dX10_readClause_114 : decode cX10_readClause 114 = .ok (.bipush 7, 2) := dX10_readClause_113_b.2.1
theorem dX10_readClause_116 : decode cX10_readClause 116 = .ok (.if_icmp .ge 29, 3) := dX10_readClause_113_b.2.2.1
theorem dX10_readClause_119 : decode cX10_readClause 119 = .ok (.aload_n 0, 1) := dX10_readClause_113_b.2.2.2.1
theorem dX10_readClause_120 : decode cX10_readClause 120 = .ok (.getfield 54, 3) := dX10_readClause_113_b.2.2.2.2.1
theorem dX10_readClause_123 : decode cX10_readClause 123 = .ok (.bipush 7, 2) := dX10_readClause_113_b.2.2.2.2.2
set_option maxRecDepth 20000 in
theorem dX10_readClause_125_b : (decode cX10_readClause 125 = .ok (.iload_n 2, 1)) ∧ (decode cX10_readClause 126 = .ok (.iadd, 1)) ∧ (decode cX10_readClause 127 = .ok (.aload_n 0, 1)) ∧ (decode cX10_readClause 128 = .ok (.aload_n 0, 1)) ∧ (decode cX10_readClause 129 = .ok (.iload_n 2, 1)) ∧ (decode cX10_readClause 130 = .ok (.invokevirtual 306, 3)) := by decide +kernel
theorem dX10_readClause_125 : decode cX10_readClause 125 = .ok (.iload_n 2, 1) := dX10_readClause_125_b.1
theorem dX10_readClause_126 : decode cX10_readClause 126 = .ok (.iadd, 1) := dX10_readClause_125_b.2.1
theorem dX10_readClause_127 : decode cX10_readClause 127 = .ok (.aload_n 0, 1) := dX10_readClause_125_b.2.2.1
theorem dX10_readClause_128 : decode cX10_readClause 128 = .ok (.aload_n 0, 1) := dX10_readClause_125_b.2.2.2.1
theorem dX10_readClause_129 : decode cX10_readClause 129 = .ok (.iload_n 2, 1) := dX10_readClause_125_b.2.2.2.2.1
theorem dX10_readClause_130 : decode cX10_readClause 130 = .ok (.invokevirtual 306, 3) := dX10_readClause_125_b.2.2.2.2.2
set_option maxRecDepth 20000 in
theorem dX10_readClause_133_b : (decode cX10_readClause 133 = .ok (.aload_n 0, 1)) ∧ (decode cX10_readClause 134 = .ok (.iload_n 2, 1)) ∧ (decode cX10_readClause 135 = .ok (.invokevirtual 309, 3)) ∧ (decode cX10_readClause 138 = .ok (.invokevirtual 253, 3)) ∧ (decode cX10_readClause 141 = .ok (.iastore, 1)) ∧ (decode cX10_readClause 142 = .ok (.goto 65, 3)) := by decide +kernel
theorem dX10_readClause_133 : decode cX10_readClause 133 = .ok (.aload_n 0, 1) := dX10_readClause_133_b.1
theorem dX10_readClause_134 : decode cX10_readClause 134 = .ok (.iload_n 2, 1) := dX10_readClause_133_b.2.1
theorem dX10_readClause_135 : decode cX10_readClause 135 = .ok (.invokevirtual 309, 3) := dX10_readClause_133_b.2.2.1
theorem dX10_readClause_138 : decode cX10_readClause 138 = .ok (.invokevirtual 253, 3) := dX10_readClause_133_b.2.2.2.1
theorem dX10_readClause_141 : decode cX10_readClause 141 = .ok (.iastore, 1) := dX10_readClause_133_b.2.2.2.2.1
theorem dX10_readClause_142 : decode cX10_readClause 142 = .ok (.goto 65, 3) := dX10_readClause_133_b.2.2.2.2.2
set_option maxRecDepth 20000 in
theorem dX10_readClause_145_b : (decode cX10_readClause 145 = .ok (.iload_n 2, 1)) ∧ (decode cX10_readClause 146 = .ok (.bipush 11, 2)) ∧ (decode cX10_readClause 148 = .ok (.if_icmp .ge 14, 3)) ∧ (decode cX10_readClause 151 = .ok (.aload_n 0, 1)) ∧ (decode cX10_readClause 152 = .ok (.iload_n 2, 1)) ∧ (decode cX10_readClause 153 = .ok (.bipush 7, 2)) := by decide +kernel
theorem dX10_readClause_145 : decode cX10_readClause 145 = .ok (.iload_n 2, 1) := dX10_readClause_145_b.1
theorem dX10_readClause_146 : decode cX10_readClause 146 = .ok (.bipush 11, 2) := dX10_readClause_145_b.2.1
theorem dX10_readClause_148 : decode cX10_readClause 148 = .ok (.if_icmp .ge 14, 3) := dX10_readClause_145_b.2.2.1
theorem dX10_readClause_151 : decode cX10_readClause 151 = .ok (.aload_n 0, 1) := dX10_readClause_145_b.2.2.2.1
theorem dX10_readClause_152 : decode cX10_readClause 152 = .ok (.iload_n 2, 1) := dX10_readClause_145_b.2.2.2.2.1
theorem dX10_readClause_153 : decode cX10_readClause 153 = .ok (.bipush 7, 2) := dX10_readClause_145_b.2.2.2.2.2
set_option maxRecDepth 20000 in
theorem dX10_readClause_155_b : (decode cX10_readClause 155 = .ok (.isub, 1)) ∧ (decode cX10_readClause 156 = .ok (.invokevirtual 312, 3)) ∧ (decode cX10_readClause 159 = .ok (.goto 48, 3)) ∧ (decode cX10_readClause 162 = .ok (.aload_n 0, 1)) ∧ (decode cX10_readClause 163 = .ok (.getfield 68, 3)) ∧ (decode cX10_readClause 166 = .ok (.iconst 4, 1)) := by decide +kernel
theorem dX10_readClause_155 : decode cX10_readClause 155 = .ok (.isub, 1) := dX10_readClause_155_b.1
theorem dX10_readClause_156 : decode cX10_readClause 156 = .ok (.invokevirtual 312, 3) := dX10_readClause_155_b.2.1
theorem dX10_readClause_159 : decode cX10_readClause 159 = .ok (.goto 48, 3) := dX10_readClause_155_b.2.2.1
theorem dX10_readClause_162 : decode cX10_readClause 162 = .ok (.aload_n 0, 1) := dX10_readClause_155_b.2.2.2.1
theorem dX10_readClause_163 : decode cX10_readClause 163 = .ok (.getfield 68, 3) := dX10_readClause_155_b.2.2.2.2.1
theorem dX10_readClause_166 : decode cX10_readClause 166 = .ok (.iconst 4, 1) := dX10_readClause_155_b.2.2.2.2.2
set_option maxRecDepth 20000 in
theorem dX10_readClause_167_b : (decode cX10_readClause 167 = .ok (.aload_n 0, 1)) ∧ (decode cX10_readClause 168 = .ok (.getfield 303, 3)) ∧ (decode cX10_readClause 171 = .ok (.iadd, 1)) ∧ (decode cX10_readClause 172 = .ok (.aload_n 0, 1)) ∧ (decode cX10_readClause 173 = .ok (.getfield 250, 3)) ∧ (decode cX10_readClause 176 = .ok (.iastore, 1)) := by decide +kernel
theorem dX10_readClause_167 : decode cX10_readClause 167 = .ok (.aload_n 0, 1) := dX10_readClause_167_b.1
theorem dX10_readClause_168 : decode cX10_readClause 168 = .ok (.getfield 303, 3) := dX10_readClause_167_b.2.1
theorem dX10_readClause_171 : decode cX10_readClause 171 = .ok (.iadd, 1) := dX10_readClause_167_b.2.2.1
theorem dX10_readClause_172 : decode cX10_readClause 172 = .ok (.aload_n 0, 1) := dX10_readClause_167_b.2.2.2.1
theorem dX10_readClause_173 : decode cX10_readClause 173 = .ok (.getfield 250, 3) := dX10_readClause_167_b.2.2.2.2.1
theorem dX10_readClause_176 : decode cX10_readClause 176 = .ok (.iastore, 1) := dX10_readClause_167_b.2.2.2.2.2
set_option maxRecDepth 20000 in
theorem dX10_readClause_177_b : (decode cX10_readClause 177 = .ok (.aload_n 0, 1)) ∧ (decode cX10_readClause 178 = .ok (.iconst 0, 1)) ∧ (decode cX10_readClause 179 = .ok (.invokevirtual 266, 3)) ∧ (decode cX10_readClause 182 = .ok (.aload_n 0, 1)) ∧ (decode cX10_readClause 183 = .ok (.getfield 71, 3)) ∧ (decode cX10_readClause 186 = .ok (.iconst 4, 1)) := by decide +kernel
theorem dX10_readClause_177 : decode cX10_readClause 177 = .ok (.aload_n 0, 1) := dX10_readClause_177_b.1
theorem dX10_readClause_178 : decode cX10_readClause 178 = .ok (.iconst 0, 1) := dX10_readClause_177_b.2.1
theorem dX10_readClause_179 : decode cX10_readClause 179 = .ok (.invokevirtual 266, 3) := dX10_readClause_177_b.2.2.1
theorem dX10_readClause_182 : decode cX10_readClause 182 = .ok (.aload_n 0, 1) := dX10_readClause_177_b.2.2.2.1
theorem dX10_readClause_183 : decode cX10_readClause 183 = .ok (.getfield 71, 3) := dX10_readClause_177_b.2.2.2.2.1
theorem dX10_readClause_186 : decode cX10_readClause 186 = .ok (.iconst 4, 1) := dX10_readClause_177_b.2.2.2.2.2
set_option maxRecDepth 20000 in
theorem dX10_readClause_187_b : (decode cX10_readClause 187 = .ok (.aload_n 0, 1)) ∧ (decode cX10_readClause 188 = .ok (.getfield 303, 3)) ∧ (decode cX10_readClause 191 = .ok (.iadd, 1)) ∧ (decode cX10_readClause 192 = .ok (.aload_n 0, 1)) ∧ (decode cX10_readClause 193 = .ok (.getfield 250, 3)) ∧ (decode cX10_readClause 196 = .ok (.iastore, 1)) := by decide +kernel
theorem dX10_readClause_187 : decode cX10_readClause 187 = .ok (.aload_n 0, 1) := dX10_readClause_187_b.1
theorem dX10_readClause_188 : decode cX10_readClause 188 = .ok (.getfield 303, 3) := dX10_readClause_187_b.2.1
theorem dX10_readClause_191 : decode cX10_readClause 191 = .ok (.iadd, 1) := dX10_readClause_187_b.2.2.1
theorem dX10_readClause_192 : decode cX10_readClause 192 = .ok (.aload_n 0, 1) := dX10_readClause_187_b.2.2.2.1
theorem dX10_readClause_193 : decode cX10_readClause 193 = .ok (.getfield 250, 3) := dX10_readClause_187_b.2.2.2.2.1
theorem dX10_readClause_196 : decode cX10_readClause 196 = .ok (.iastore, 1) := dX10_readClause_187_b.2.2.2.2.2
set_option maxRecDepth 20000 in
theorem dX10_readClause_197_b : (decode cX10_readClause 197 = .ok (.aload_n 0, 1)) ∧ (decode cX10_readClause 198 = .ok (.dup, 1)) ∧ (decode cX10_readClause 199 = .ok (.getfield 303, 3)) ∧ (decode cX10_readClause 202 = .ok (.iconst 1, 1)) ∧ (decode cX10_readClause 203 = .ok (.iadd, 1)) ∧ (decode cX10_readClause 204 = .ok (.putfield 303, 3)) := by decide +kernel
theorem dX10_readClause_197 : decode cX10_readClause 197 = .ok (.aload_n 0, 1) := dX10_readClause_197_b.1
theorem dX10_readClause_198 : decode cX10_readClause 198 = .ok (.dup, 1) := dX10_readClause_197_b.2.1
theorem dX10_readClause_199 : decode cX10_readClause 199 = .ok (.getfield 303, 3) := dX10_readClause_197_b.2.2.1
theorem dX10_readClause_202 : decode cX10_readClause 202 = .ok (.iconst 1, 1) := dX10_readClause_197_b.2.2.2.1
theorem dX10_readClause_203 : decode cX10_readClause 203 = .ok (.iadd, 1) := dX10_readClause_197_b.2.2.2.2.1
theorem dX10_readClause_204 : decode cX10_readClause 204 = .ok (.putfield 303, 3) := dX10_readClause_197_b.2.2.2.2.2
set_option maxRecDepth 20000 in
theorem dX10_readClause_207_b : (decode cX10_readClause 207 = .ok (.aload_n 0, 1)) ∧ (decode cX10_readClause 208 = .ok (.bipush 59, 2)) ∧ (decode cX10_readClause 210 = .ok (.invokevirtual 263, 3)) ∧ (decode cX10_readClause 213 = .ok (.iload_n 1, 1)) ∧ (decode cX10_readClause 214 = .ok (.iconst 1, 1)) ∧ (decode cX10_readClause 215 = .ok (.iload_n 2, 1)) := by decide +kernel
theorem dX10_readClause_207 : decode cX10_readClause 207 = .ok (.aload_n 0, 1) := dX10_readClause_207_b.1
theorem dX10_readClause_208 : decode cX10_readClause 208 = .ok (.bipush 59, 2) := dX10_readClause_207_b.2.1
theorem dX10_readClause_210 : decode cX10_readClause 210 = .ok (.invokevirtual 263, 3) := dX10_readClause_207_b.2.2.1
theorem dX10_readClause_213 : decode cX10_readClause 213 = .ok (.iload_n 1, 1) := dX10_readClause_207_b.2.2.2.1
theorem dX10_readClause_214 : decode cX10_readClause 214 = .ok (.iconst 1, 1) := dX10_readClause_207_b.2.2.2.2.1
theorem dX10_readClause_215 : decode cX10_readClause 215 = .ok (.iload_n 2, 1) := dX10_readClause_207_b.2.2.2.2.2
set_option maxRecDepth 20000 in
theorem dX10_readClause_216_b : (decode cX10_readClause 216 = .ok (.ishl, 1)) ∧ (decode cX10_readClause 217 = .ok (.ior, 1)) ∧ (decode cX10_readClause 218 = .ok (.ireturn, 1)) := by decide +kernel
theorem dX10_readClause_216 : decode cX10_readClause 216 = .ok (.ishl, 1) := dX10_readClause_216_b.1
theorem dX10_readClause_217 : decode cX10_readClause 217 = .ok (.ior, 1) := dX10_readClause_216_b.2.1
theorem dX10_readClause_218 : decode cX10_readClause 218 = .ok (.ireturn, 1) := dX10_readClause_216_b.2.2
set_option maxRecDepth 20000 in
theorem dX10_town_0_b : (decode cX10_town 0 = .ok (.aload_n 0, 1)) ∧ (decode cX10_town 1 = .ok (.iconst 0, 1)) ∧ (decode cX10_town 2 = .ok (.putfield 171, 3)) ∧ (decode cX10_town 5 = .ok (.iload_n 1, 1)) ∧ (decode cX10_town 6 = .ok (.ifCond .lt 11, 3)) ∧ (decode cX10_town 9 = .ok (.iload_n 1, 1)) := by decide +kernel
theorem dX10_town_0 : decode cX10_town 0 = .ok (.aload_n 0, 1) := dX10_town_0_b.1
theorem dX10_town_1 : decode cX10_town 1 = .ok (.iconst 0, 1) := dX10_town_0_b.2.1
theorem dX10_town_2 : decode cX10_town 2 = .ok (.putfield 171, 3) := dX10_town_0_b.2.2.1
theorem dX10_town_5 : decode cX10_town 5 = .ok (.iload_n 1, 1) := dX10_town_0_b.2.2.2.1
theorem dX10_town_6 : decode cX10_town 6 = .ok (.ifCond .lt 11, 3) := dX10_town_0_b.2.2.2.2.1
theorem dX10_town_9 : decode cX10_town 9 = .ok (.iload_n 1, 1) := dX10_town_0_b.2.2.2.2.2
set_option maxRecDepth 20000 in
theorem dX10_town_10_b : (decode cX10_town 10 = .ok (.aload_n 0, 1)) ∧ (decode cX10_town 11 = .ok (.getfield 181, 3)) ∧ (decode cX10_town 14 = .ok (.if_icmp .le 9, 3)) ∧ (decode cX10_town 17 = .ok (.aload_n 0, 1)) ∧ (decode cX10_town 18 = .ok (.iconst 1, 1)) ∧ (decode cX10_town 19 = .ok (.invokevirtual 315, 3)) := by decide +kernel
theorem dX10_town_10 : decode cX10_town 10 = .ok (.aload_n 0, 1) := dX10_town_10_b.1
theorem dX10_town_11 : decode cX10_town 11 = .ok (.getfield 181, 3) := dX10_town_10_b.2.1
theorem dX10_town_14 : decode cX10_town 14 = .ok (.if_icmp .le 9, 3) := dX10_town_10_b.2.2.1
theorem dX10_town_17 : decode cX10_town 17 = .ok (.aload_n 0, 1) := dX10_town_10_b.2.2.2.1
theorem dX10_town_18 : decode cX10_town 18 = .ok (.iconst 1, 1) := dX10_town_10_b.2.2.2.2.1
theorem dX10_town_19 : decode cX10_town 19 = .ok (.invokevirtual 315, 3) := dX10_town_10_b.2.2.2.2.2
set_option maxRecDepth 20000 in
theorem dX10_town_22_b : (decode cX10_town 22 = .ok (.ireturn, 1)) ∧ (decode cX10_town 23 = .ok (.aload_n 0, 1)) ∧ (decode cX10_town 24 = .ok (.iconst 0, 1)) ∧ (decode cX10_town 25 = .ok (.putfield 181, 3)) ∧ (decode cX10_town 28 = .ok (.aload_n 0, 1)) ∧ (decode cX10_town 29 = .ok (.iload_n 1, 1)) := by decide +kernel
theorem dX10_town_22 : decode cX10_town 22 = .ok (.ireturn, 1) := dX10_town_22_b.1
theorem dX10_town_23 : decode cX10_town 23 = .ok (.aload_n 0, 1) := dX10_town_22_b.2.1
theorem dX10_town_24 : decode cX10_town 24 = .ok (.iconst 0, 1) := dX10_town_22_b.2.2.1
theorem dX10_town_25 : decode cX10_town 25 = .ok (.putfield 181, 3) := dX10_town_22_b.2.2.2.1
theorem dX10_town_28 : decode cX10_town 28 = .ok (.aload_n 0, 1) := dX10_town_22_b.2.2.2.2.1
theorem dX10_town_29 : decode cX10_town 29 = .ok (.iload_n 1, 1) := dX10_town_22_b.2.2.2.2.2
set_option maxRecDepth 20000 in
theorem dX10_town_30_b : (decode cX10_town 30 = .ok (.putfield 184, 3)) ∧ (decode cX10_town 33 = .ok (.aload_n 0, 1)) ∧ (decode cX10_town 34 = .ok (.iconst 0, 1)) ∧ (decode cX10_town 35 = .ok (.putfield 187, 3)) ∧ (decode cX10_town 38 = .ok (.aload_n 0, 1)) ∧ (decode cX10_town 39 = .ok (.iconst 0, 1)) := by decide +kernel
theorem dX10_town_30 : decode cX10_town 30 = .ok (.putfield 184, 3) := dX10_town_30_b.1
theorem dX10_town_33 : decode cX10_town 33 = .ok (.aload_n 0, 1) := dX10_town_30_b.2.1
theorem dX10_town_34 : decode cX10_town 34 = .ok (.iconst 0, 1) := dX10_town_30_b.2.2.1
theorem dX10_town_35 : decode cX10_town 35 = .ok (.putfield 187, 3) := dX10_town_30_b.2.2.2.1
theorem dX10_town_38 : decode cX10_town 38 = .ok (.aload_n 0, 1) := dX10_town_30_b.2.2.2.2.1
theorem dX10_town_39 : decode cX10_town 39 = .ok (.iconst 0, 1) := dX10_town_30_b.2.2.2.2.2
set_option maxRecDepth 20000 in
theorem dX10_town_40_b : (decode cX10_town 40 = .ok (.putfield 223, 3)) ∧ (decode cX10_town 43 = .ok (.aload_n 0, 1)) ∧ (decode cX10_town 44 = .ok (.iconst (-1), 1)) ∧ (decode cX10_town 45 = .ok (.putfield 83, 3)) ∧ (decode cX10_town 48 = .ok (.aload_n 0, 1)) ∧ (decode cX10_town 49 = .ok (.iconst 0, 1)) := by decide +kernel
theorem dX10_town_40 : decode cX10_town 40 = .ok (.putfield 223, 3) := dX10_town_40_b.1
theorem dX10_town_43 : decode cX10_town 43 = .ok (.aload_n 0, 1) := dX10_town_40_b.2.1
theorem dX10_town_44 : decode cX10_town 44 = .ok (.iconst (-1), 1) := dX10_town_40_b.2.2.1
theorem dX10_town_45 : decode cX10_town 45 = .ok (.putfield 83, 3) := dX10_town_40_b.2.2.2.1
theorem dX10_town_48 : decode cX10_town 48 = .ok (.aload_n 0, 1) := dX10_town_40_b.2.2.2.2.1
theorem dX10_town_49 : decode cX10_town 49 = .ok (.iconst 0, 1) := dX10_town_40_b.2.2.2.2.2
set_option maxRecDepth 20000 in
theorem dX10_town_50_b : (decode cX10_town 50 = .ok (.putfield 250, 3)) ∧ (decode cX10_town 53 = .ok (.aload_n 0, 1)) ∧ (decode cX10_town 54 = .ok (.iconst 0, 1)) ∧ (decode cX10_town 55 = .ok (.putfield 290, 3)) ∧ (decode cX10_town 58 = .ok (.aload_n 0, 1)) ∧ (decode cX10_town 59 = .ok (.iconst 0, 1)) := by decide +kernel
theorem dX10_town_50 : decode cX10_town 50 = .ok (.putfield 250, 3) := dX10_town_50_b.1
theorem dX10_town_53 : decode cX10_town 53 = .ok (.aload_n 0, 1) := dX10_town_50_b.2.1
theorem dX10_town_54 : decode cX10_town 54 = .ok (.iconst 0, 1) := dX10_town_50_b.2.2.1
theorem dX10_town_55 : decode cX10_town 55 = .ok (.putfield 290, 3) := dX10_town_50_b.2.2.2.1
theorem dX10_town_58 : decode cX10_town 58 = .ok (.aload_n 0, 1) := dX10_town_50_b.2.2.2.2.1
theorem dX10_town_59 : decode cX10_town 59 = .ok (.iconst 0, 1) := dX10_town_50_b.2.2.2.2.2
set_option maxRecDepth 20000 in
theorem dX10_town_60_b : (decode cX10_town 60 = .ok (.putfield 303, 3)) ∧ (decode cX10_town 63 = .ok (.aload_n 0, 1)) ∧ (decode cX10_town 64 = .ok (.bipush 7, 2)) ∧ (decode cX10_town 66 = .ok (.invokevirtual 167, 3)) ∧ (decode cX10_town 69 = .ok (.aload_n 0, 1)) ∧ (decode cX10_town 70 = .ok (.invokevirtual 241, 3)) := by decide +kernel
theorem dX10_town_60 : decode cX10_town 60 = .ok (.putfield 303, 3) := dX10_town_60_b.1
theorem dX10_town_63 : decode cX10_town 63 = .ok (.aload_n 0, 1) := dX10_town_60_b.2.1
theorem dX10_town_64 : decode cX10_town 64 = .ok (.bipush 7, 2) := dX10_town_60_b.2.2.1
theorem dX10_town_66 : decode cX10_town 66 = .ok (.invokevirtual 167, 3) := dX10_town_60_b.2.2.2.1
theorem dX10_town_69 : decode cX10_town 69 = .ok (.aload_n 0, 1) := dX10_town_60_b.2.2.2.2.1
theorem dX10_town_70 : decode cX10_town 70 = .ok (.invokevirtual 241, 3) := dX10_town_60_b.2.2.2.2.2
set_option maxRecDepth 20000 in
theorem dX10_town_73_b : (decode cX10_town 73 = .ok (.iconst 0, 1)) ∧ (decode cX10_town 74 = .ok (.istore_n 2, 1)) ∧ (decode cX10_town 75 = .ok (.aload_n 0, 1)) ∧ (decode cX10_town 76 = .ok (.getfield 223, 3)) ∧ (decode cX10_town 79 = .ok (.ifCond .ne 19, 3)) ∧ (decode cX10_town 82 = .ok (.aload_n 0, 1)) := by decide +kernel
theorem dX10_town_73 : decode cX10_town 73 = .ok (.iconst 0, 1) := dX10_town_73_b.1
theorem dX10_town_74 : decode cX10_town 74 = .ok (.istore_n 2, 1) := dX10_town_73_b.2.1
theorem dX10_town_75 : decode cX10_town 75 = .ok (.aload_n 0, 1) := dX10_town_73_b.2.2.1
theorem dX10_town_76 : decode cX10_town 76 = .ok (.getfield 223, 3) := dX10_town_73_b.2.2.2.1
theorem dX10_town_79 : decode cX10_town 79 = .ok (.ifCond .ne 19, 3) := dX10_town_73_b.2.2.2.2.1
theorem dX10_town_82 : decode cX10_town 82 = .ok (.aload_n 0, 1) := dX10_town_73_b.2.2.2.2.2
set_option maxRecDepth 20000 in
theorem dX10_town_83_b : (decode cX10_town 83 = .ok (.getfield 197, 3)) ∧ (decode cX10_town 86 = .ok (.ifCond .eq 12, 3)) ∧ (decode cX10_town 89 = .ok (.aload_n 0, 1)) ∧ (decode cX10_town 90 = .ok (.iload_n 2, 1)) ∧ (decode cX10_town 91 = .ok (.invokevirtual 318, 3)) ∧ (decode cX10_town 94 = .ok (.istore_n 2, 1)) := by decide +kernel
theorem dX10_town_83 : decode cX10_town 83 = .ok (.getfield 197, 3) := dX10_town_83_b.1
theorem dX10_town_86 : decode cX10_town 86 = .ok (.ifCond .eq 12, 3) := dX10_town_83_b.2.1
theorem dX10_town_89 : decode cX10_town 89 = .ok (.aload_n 0, 1) := dX10_town_83_b.2.2.1
theorem dX10_town_90 : decode cX10_town 90 = .ok (.iload_n 2, 1) := dX10_town_83_b.2.2.2.1
theorem dX10_town_91 : decode cX10_town 91 = .ok (.invokevirtual 318, 3) := dX10_town_83_b.2.2.2.2.1
theorem dX10_town_94 : decode cX10_town 94 = .ok (.istore_n 2, 1) := dX10_town_83_b.2.2.2.2.2
set_option maxRecDepth 20000 in
theorem dX10_town_95_b : (decode cX10_town 95 = .ok (.goto (-20), 3)) ∧ (decode cX10_town 98 = .ok (.aload_n 0, 1)) ∧ (decode cX10_town 99 = .ok (.getfield 223, 3)) ∧ (decode cX10_town 102 = .ok (.ifCond .eq 26, 3)) ∧ (decode cX10_town 105 = .ok (.aload_n 0, 1)) ∧ (decode cX10_town 106 = .ok (.aload_n 0, 1)) := by decide +kernel
theorem dX10_town_95 : decode cX10_town 95 = .ok (.goto (-20), 3) := dX10_town_95_b.1
theorem dX10_town_98 : decode cX10_town 98 = .ok (.aload_n 0, 1) := dX10_town_95_b.2.1
theorem dX10_town_99 : decode cX10_town 99 = .ok (.getfield 223, 3) := dX10_town_95_b.2.2.1
theorem dX10_town_102 : decode cX10_town 102 = .ok (.ifCond .eq 26, 3) := dX10_town_95_b.2.2.2.1
theorem dX10_town_105 : decode cX10_town 105 = .ok (.aload_n 0, 1) := dX10_town_95_b.2.2.2.2.1
theorem dX10_town_106 : decode cX10_town 106 = .ok (.aload_n 0, 1) := dX10_town_95_b.2.2.2.2.2
set_option maxRecDepth 20000 in
theorem dX10_town_107_b : (decode cX10_town 107 = .ok (.getfield 226, 3)) ∧ (decode cX10_town 110 = .ok (.putfield 83, 3)) ∧ (decode cX10_town 113 = .ok (.aload_n 0, 1)) ∧ (decode cX10_town 114 = .ok (.getfield 77, 3)) ∧ (decode cX10_town 117 = .ok (.iconst 0, 1)) ∧ (decode cX10_town 118 = .ok (.dup2, 1)) := by decide +kernel
theorem dX10_town_107 : decode cX10_town 107 = .ok (.getfield 226, 3) := dX10_town_107_b.1
theorem dX10_town_110 : decode cX10_town 110 = .ok (.putfield 83, 3) := dX10_town_107_b.2.1
theorem dX10_town_113 : decode cX10_town 113 = .ok (.aload_n 0, 1) := dX10_town_107_b.2.2.1
theorem dX10_town_114 : decode cX10_town 114 = .ok (.getfield 77, 3) := dX10_town_107_b.2.2.2.1
theorem dX10_town_117 : decode cX10_town 117 = .ok (.iconst 0, 1) := dX10_town_107_b.2.2.2.2.1
theorem dX10_town_118 : decode cX10_town 118 = .ok (.dup2, 1) := dX10_town_107_b.2.2.2.2.2
set_option maxRecDepth 20000 in
theorem dX10_town_119_b : (decode cX10_town 119 = .ok (.iaload, 1)) ∧ (decode cX10_town 120 = .ok (.iconst 1, 1)) ∧ (decode cX10_town 121 = .ok (.iadd, 1)) ∧ (decode cX10_town 122 = .ok (.iastore, 1)) ∧ (decode cX10_town 123 = .ok (.aload_n 0, 1)) ∧ (decode cX10_town 124 = .ok (.getfield 223, 3)) := by decide +kernel
theorem dX10_town_119 : decode cX10_town 119 = .ok (.iaload, 1) := dX10_town_119_b.1
theorem dX10_town_120 : decode cX10_town 120 = .ok (.iconst 1, 1) := dX10_town_119_b.2.1
theorem dX10_town_121 : decode cX10_town 121 = .ok (.iadd, 1) := dX10_town_119_b.2.2.1
theorem dX10_town_122 : decode cX10_town 122 = .ok (.iastore, 1) := dX10_town_119_b.2.2.2.1
theorem dX10_town_123 : decode cX10_town 123 = .ok (.aload_n 0, 1) := dX10_town_119_b.2.2.2.2.1
theorem dX10_town_124 : decode cX10_town 124 = .ok (.getfield 223, 3) := dX10_town_119_b.2.2.2.2.2
set_option maxRecDepth 20000 in
theorem dX10_town_127_b : (decode cX10_town 127 = .ok (.ireturn, 1)) ∧ (decode cX10_town 128 = .ok (.aload_n 0, 1)) ∧ (decode cX10_town 129 = .ok (.invokevirtual 321, 3)) ∧ (decode cX10_town 132 = .ok (.iconst 0, 1)) ∧ (decode cX10_town 133 = .ok (.ireturn, 1)) := by decide +kernel
theorem dX10_town_127 : decode cX10_town 127 = .ok (.ireturn, 1) := dX10_town_127_b.1
theorem dX10_town_128 : decode cX10_town 128 = .ok (.aload_n 0, 1) := dX10_town_127_b.2.1
theorem dX10_town_129 : decode cX10_town 129 = .ok (.invokevirtual 321, 3) := dX10_town_127_b.2.2.1
theorem dX10_town_132 : decode cX10_town 132 = .ok (.iconst 0, 1) := dX10_town_127_b.2.2.2.1
theorem dX10_town_133 : decode cX10_town 133 = .ok (.ireturn, 1) := dX10_town_127_b.2.2.2.2
set_option maxRecDepth 20000 in
theorem dX10_take_0_b : (decode cX10_take 0 = .ok (.iconst 0, 1)) ∧ (decode cX10_take 1 = .ok (.istore_n 1, 1)) ∧ (decode cX10_take 2 = .ok (.iload_n 1, 1)) ∧ (decode cX10_take 3 = .ok (.bipush 7, 2)) ∧ (decode cX10_take 5 = .ok (.if_icmp .ge 24, 3)) ∧ (decode cX10_take 8 = .ok (.aload_n 0, 1)) := by decide +kernel
theorem dX10_take_0 : decode cX10_take 0 = .ok (.iconst 0, 1) := dX10_take_0_b.1
theorem dX10_take_1 : decode cX10_take 1 = .ok (.istore_n 1, 1) := dX10_take_0_b.2.1
theorem dX10_take_2 : decode cX10_take 2 = .ok (.iload_n 1, 1) := dX10_take_0_b.2.2.1
theorem dX10_take_3 : decode cX10_take 3 = .ok (.bipush 7, 2) := dX10_take_0_b.2.2.2.1
theorem dX10_take_5 : decode cX10_take 5 = .ok (.if_icmp .ge 24, 3) := dX10_take_0_b.2.2.2.2.1
theorem dX10_take_8 : decode cX10_take 8 = .ok (.aload_n 0, 1) := dX10_take_0_b.2.2.2.2.2
set_option maxRecDepth 20000 in
theorem dX10_take_9_b : (decode cX10_take 9 = .ok (.getfield 54, 3)) ∧ (decode cX10_take 12 = .ok (.iload_n 1, 1)) ∧ (decode cX10_take 13 = .ok (.aload_n 0, 1)) ∧ (decode cX10_take 14 = .ok (.getfield 54, 3)) ∧ (decode cX10_take 17 = .ok (.bipush 7, 2)) ∧ (decode cX10_take 19 = .ok (.iload_n 1, 1)) := by decide +kernel
theorem dX10_take_9 : decode cX10_take 9 = .ok (.getfield 54, 3) := dX10_take_9_b.1
theorem dX10_take_12 : decode cX10_take 12 = .ok (.iload_n 1, 1) := dX10_take_9_b.2.1
theorem dX10_take_13 : decode cX10_take 13 = .ok (.aload_n 0, 1) := dX10_take_9_b.2.2.1
theorem dX10_take_14 : decode cX10_take 14 = .ok (.getfield 54, 3) := dX10_take_9_b.2.2.2.1
theorem dX10_take_17 : decode cX10_take 17 = .ok (.bipush 7, 2) := dX10_take_9_b.2.2.2.2.1
theorem dX10_take_19 : decode cX10_take 19 = .ok (.iload_n 1, 1) := dX10_take_9_b.2.2.2.2.2
set_option maxRecDepth 20000 in
theorem dX10_take_20_b : (decode cX10_take 20 = .ok (.iadd, 1)) ∧ (decode cX10_take 21 = .ok (.iaload, 1)) ∧ (decode cX10_take 22 = .ok (.iastore, 1)) ∧ (decode cX10_take 23 = .ok (.iinc 1 1, 3)) ∧ (decode cX10_take 26 = .ok (.goto (-24), 3)) ∧ (decode cX10_take 29 = .ok (.aload_n 0, 1)) := by decide +kernel
theorem dX10_take_20 : decode cX10_take 20 = .ok (.iadd, 1) := dX10_take_20_b.1
theorem dX10_take_21 : decode cX10_take 21 = .ok (.iaload, 1) := dX10_take_20_b.2.1
theorem dX10_take_22 : decode cX10_take 22 = .ok (.iastore, 1) := dX10_take_20_b.2.2.1
theorem dX10_take_23 : decode cX10_take 23 = .ok (.iinc 1 1, 3) := dX10_take_20_b.2.2.2.1
theorem dX10_take_26 : decode cX10_take 26 = .ok (.goto (-24), 3) := dX10_take_20_b.2.2.2.2.1
theorem dX10_take_29 : decode cX10_take 29 = .ok (.aload_n 0, 1) := dX10_take_20_b.2.2.2.2.2
set_option maxRecDepth 20000 in
theorem dX10_take_30_b : (decode cX10_take 30 = .ok (.aload_n 0, 1)) ∧ (decode cX10_take 31 = .ok (.getfield 290, 3)) ∧ (decode cX10_take 34 = .ok (.putfield 174, 3)) ∧ (decode cX10_take 37 = .ok (.aload_n 0, 1)) ∧ (decode cX10_take 38 = .ok (.aload_n 0, 1)) ∧ (decode cX10_take 39 = .ok (.getfield 303, 3)) := by decide +kernel
theorem dX10_take_30 : decode cX10_take 30 = .ok (.aload_n 0, 1) := dX10_take_30_b.1
theorem dX10_take_31 : decode cX10_take 31 = .ok (.getfield 290, 3) := dX10_take_30_b.2.1
theorem dX10_take_34 : decode cX10_take 34 = .ok (.putfield 174, 3) := dX10_take_30_b.2.2.1
theorem dX10_take_37 : decode cX10_take 37 = .ok (.aload_n 0, 1) := dX10_take_30_b.2.2.2.1
theorem dX10_take_38 : decode cX10_take 38 = .ok (.aload_n 0, 1) := dX10_take_30_b.2.2.2.2.1
theorem dX10_take_39 : decode cX10_take 39 = .ok (.getfield 303, 3) := dX10_take_30_b.2.2.2.2.2
set_option maxRecDepth 20000 in
theorem dX10_take_42_b : (decode cX10_take 42 = .ok (.putfield 324, 3)) ∧ (decode cX10_take 45 = .ok (.iconst 0, 1)) ∧ (decode cX10_take 46 = .ok (.istore_n 1, 1)) ∧ (decode cX10_take 47 = .ok (.iload_n 1, 1)) ∧ (decode cX10_take 48 = .ok (.bipush 7, 2)) ∧ (decode cX10_take 50 = .ok (.if_icmp .ge 69, 3)) := by decide +kernel
theorem dX10_take_42 : decode cX10_take 42 = .ok (.putfield 324, 3) := dX10_take_42_b.1
theorem dX10_take_45 : decode cX10_take 45 = .ok (.iconst 0, 1) := dX10_take_42_b.2.1
theorem dX10_take_46 : decode cX10_take 46 = .ok (.istore_n 1, 1) := dX10_take_42_b.2.2.1
theorem dX10_take_47 : decode cX10_take 47 = .ok (.iload_n 1, 1) := dX10_take_42_b.2.2.2.1
theorem dX10_take_48 : decode cX10_take 48 = .ok (.bipush 7, 2) := dX10_take_42_b.2.2.2.2.1
theorem dX10_take_50 : decode cX10_take 50 = .ok (.if_icmp .ge 69, 3) := dX10_take_42_b.2.2.2.2.2
set_option maxRecDepth 20000 in
theorem dX10_take_53_b : (decode cX10_take 53 = .ok (.aload_n 0, 1)) ∧ (decode cX10_take 54 = .ok (.getfield 57, 3)) ∧ (decode cX10_take 57 = .ok (.iload_n 1, 1)) ∧ (decode cX10_take 58 = .ok (.aload_n 0, 1)) ∧ (decode cX10_take 59 = .ok (.getfield 57, 3)) ∧ (decode cX10_take 62 = .ok (.bipush 7, 2)) := by decide +kernel
theorem dX10_take_53 : decode cX10_take 53 = .ok (.aload_n 0, 1) := dX10_take_53_b.1
theorem dX10_take_54 : decode cX10_take 54 = .ok (.getfield 57, 3) := dX10_take_53_b.2.1
theorem dX10_take_57 : decode cX10_take 57 = .ok (.iload_n 1, 1) := dX10_take_53_b.2.2.1
theorem dX10_take_58 : decode cX10_take 58 = .ok (.aload_n 0, 1) := dX10_take_53_b.2.2.2.1
theorem dX10_take_59 : decode cX10_take 59 = .ok (.getfield 57, 3) := dX10_take_53_b.2.2.2.2.1
theorem dX10_take_62 : decode cX10_take 62 = .ok (.bipush 7, 2) := dX10_take_53_b.2.2.2.2.2
set_option maxRecDepth 20000 in
theorem dX10_take_64_b : (decode cX10_take 64 = .ok (.iload_n 1, 1)) ∧ (decode cX10_take 65 = .ok (.iadd, 1)) ∧ (decode cX10_take 66 = .ok (.iaload, 1)) ∧ (decode cX10_take 67 = .ok (.iastore, 1)) ∧ (decode cX10_take 68 = .ok (.aload_n 0, 1)) ∧ (decode cX10_take 69 = .ok (.getfield 60, 3)) := by decide +kernel
theorem dX10_take_64 : decode cX10_take 64 = .ok (.iload_n 1, 1) := dX10_take_64_b.1
theorem dX10_take_65 : decode cX10_take 65 = .ok (.iadd, 1) := dX10_take_64_b.2.1
theorem dX10_take_66 : decode cX10_take 66 = .ok (.iaload, 1) := dX10_take_64_b.2.2.1
theorem dX10_take_67 : decode cX10_take 67 = .ok (.iastore, 1) := dX10_take_64_b.2.2.2.1
theorem dX10_take_68 : decode cX10_take 68 = .ok (.aload_n 0, 1) := dX10_take_64_b.2.2.2.2.1
theorem dX10_take_69 : decode cX10_take 69 = .ok (.getfield 60, 3) := dX10_take_64_b.2.2.2.2.2
set_option maxRecDepth 20000 in
theorem dX10_take_72_b : (decode cX10_take 72 = .ok (.iload_n 1, 1)) ∧ (decode cX10_take 73 = .ok (.aload_n 0, 1)) ∧ (decode cX10_take 74 = .ok (.getfield 60, 3)) ∧ (decode cX10_take 77 = .ok (.bipush 7, 2)) ∧ (decode cX10_take 79 = .ok (.iload_n 1, 1)) ∧ (decode cX10_take 80 = .ok (.iadd, 1)) := by decide +kernel
theorem dX10_take_72 : decode cX10_take 72 = .ok (.iload_n 1, 1) := dX10_take_72_b.1
theorem dX10_take_73 : decode cX10_take 73 = .ok (.aload_n 0, 1) := dX10_take_72_b.2.1
theorem dX10_take_74 : decode cX10_take 74 = .ok (.getfield 60, 3) := dX10_take_72_b.2.2.1
theorem dX10_take_77 : decode cX10_take 77 = .ok (.bipush 7, 2) := dX10_take_72_b.2.2.2.1
theorem dX10_take_79 : decode cX10_take 79 = .ok (.iload_n 1, 1) := dX10_take_72_b.2.2.2.2.1
theorem dX10_take_80 : decode cX10_take 80 = .ok (.iadd, 1) := dX10_take_72_b.2.2.2.2.2
set_option maxRecDepth 20000 in
theorem dX10_take_81_b : (decode cX10_take 81 = .ok (.iaload, 1)) ∧ (decode cX10_take 82 = .ok (.iastore, 1)) ∧ (decode cX10_take 83 = .ok (.aload_n 0, 1)) ∧ (decode cX10_take 84 = .ok (.getfield 62, 3)) ∧ (decode cX10_take 87 = .ok (.iload_n 1, 1)) ∧ (decode cX10_take 88 = .ok (.aload_n 0, 1)) := by decide +kernel
theorem dX10_take_81 : decode cX10_take 81 = .ok (.iaload, 1) := dX10_take_81_b.1
theorem dX10_take_82 : decode cX10_take 82 = .ok (.iastore, 1) := dX10_take_81_b.2.1
theorem dX10_take_83 : decode cX10_take 83 = .ok (.aload_n 0, 1) := dX10_take_81_b.2.2.1
theorem dX10_take_84 : decode cX10_take 84 = .ok (.getfield 62, 3) := dX10_take_81_b.2.2.2.1
theorem dX10_take_87 : decode cX10_take 87 = .ok (.iload_n 1, 1) := dX10_take_81_b.2.2.2.2.1
theorem dX10_take_88 : decode cX10_take 88 = .ok (.aload_n 0, 1) := dX10_take_81_b.2.2.2.2.2
set_option maxRecDepth 20000 in
theorem dX10_take_89_b : (decode cX10_take 89 = .ok (.getfield 62, 3)) ∧ (decode cX10_take 92 = .ok (.bipush 7, 2)) ∧ (decode cX10_take 94 = .ok (.iload_n 1, 1)) ∧ (decode cX10_take 95 = .ok (.iadd, 1)) ∧ (decode cX10_take 96 = .ok (.iaload, 1)) ∧ (decode cX10_take 97 = .ok (.iastore, 1)) := by decide +kernel
theorem dX10_take_89 : decode cX10_take 89 = .ok (.getfield 62, 3) := dX10_take_89_b.1
theorem dX10_take_92 : decode cX10_take 92 = .ok (.bipush 7, 2) := dX10_take_89_b.2.1
theorem dX10_take_94 : decode cX10_take 94 = .ok (.iload_n 1, 1) := dX10_take_89_b.2.2.1
theorem dX10_take_95 : decode cX10_take 95 = .ok (.iadd, 1) := dX10_take_89_b.2.2.2.1
theorem dX10_take_96 : decode cX10_take 96 = .ok (.iaload, 1) := dX10_take_89_b.2.2.2.2.1
theorem dX10_take_97 : decode cX10_take 97 = .ok (.iastore, 1) := dX10_take_89_b.2.2.2.2.2
set_option maxRecDepth 20000 in
theorem dX10_take_98_b : (decode cX10_take 98 = .ok (.aload_n 0, 1)) ∧ (decode cX10_take 99 = .ok (.getfield 65, 3)) ∧ (decode cX10_take 102 = .ok (.iload_n 1, 1)) ∧ (decode cX10_take 103 = .ok (.aload_n 0, 1)) ∧ (decode cX10_take 104 = .ok (.getfield 65, 3)) ∧ (decode cX10_take 107 = .ok (.bipush 7, 2)) := by decide +kernel
theorem dX10_take_98 : decode cX10_take 98 = .ok (.aload_n 0, 1) := dX10_take_98_b.1
theorem dX10_take_99 : decode cX10_take 99 = .ok (.getfield 65, 3) := dX10_take_98_b.2.1
theorem dX10_take_102 : decode cX10_take 102 = .ok (.iload_n 1, 1) := dX10_take_98_b.2.2.1
theorem dX10_take_103 : decode cX10_take 103 = .ok (.aload_n 0, 1) := dX10_take_98_b.2.2.2.1
theorem dX10_take_104 : decode cX10_take 104 = .ok (.getfield 65, 3) := dX10_take_98_b.2.2.2.2.1
theorem dX10_take_107 : decode cX10_take 107 = .ok (.bipush 7, 2) := dX10_take_98_b.2.2.2.2.2
set_option maxRecDepth 20000 in
theorem dX10_take_109_b : (decode cX10_take 109 = .ok (.iload_n 1, 1)) ∧ (decode cX10_take 110 = .ok (.iadd, 1)) ∧ (decode cX10_take 111 = .ok (.iaload, 1)) ∧ (decode cX10_take 112 = .ok (.iastore, 1)) ∧ (decode cX10_take 113 = .ok (.iinc 1 1, 3)) ∧ (decode cX10_take 116 = .ok (.goto (-69), 3)) := by decide +kernel
theorem dX10_take_109 : decode cX10_take 109 = .ok (.iload_n 1, 1) := dX10_take_109_b.1
theorem dX10_take_110 : decode cX10_take 110 = .ok (.iadd, 1) := dX10_take_109_b.2.1
theorem dX10_take_111 : decode cX10_take 111 = .ok (.iaload, 1) := dX10_take_109_b.2.2.1
theorem dX10_take_112 : decode cX10_take 112 = .ok (.iastore, 1) := dX10_take_109_b.2.2.2.1
theorem dX10_take_113 : decode cX10_take 113 = .ok (.iinc 1 1, 3) := dX10_take_109_b.2.2.2.2.1
theorem dX10_take_116 : decode cX10_take 116 = .ok (.goto (-69), 3) := dX10_take_109_b.2.2.2.2.2
set_option maxRecDepth 20000 in
theorem dX10_take_119_b : (decode cX10_take 119 = .ok (.iconst 0, 1)) ∧ (decode cX10_take 120 = .ok (.istore_n 1, 1)) ∧ (decode cX10_take 121 = .ok (.iload_n 1, 1)) ∧ (decode cX10_take 122 = .ok (.iconst 4, 1)) ∧ (decode cX10_take 123 = .ok (.if_icmp .ge 37, 3)) ∧ (decode cX10_take 126 = .ok (.aload_n 0, 1)) := by decide +kernel
theorem dX10_take_119 : decode cX10_take 119 = .ok (.iconst 0, 1) := dX10_take_119_b.1
theorem dX10_take_120 : decode cX10_take 120 = .ok (.istore_n 1, 1) := dX10_take_119_b.2.1
theorem dX10_take_121 : decode cX10_take 121 = .ok (.iload_n 1, 1) := dX10_take_119_b.2.2.1
theorem dX10_take_122 : decode cX10_take 122 = .ok (.iconst 4, 1) := dX10_take_119_b.2.2.2.1
theorem dX10_take_123 : decode cX10_take 123 = .ok (.if_icmp .ge 37, 3) := dX10_take_119_b.2.2.2.2.1
theorem dX10_take_126 : decode cX10_take 126 = .ok (.aload_n 0, 1) := dX10_take_119_b.2.2.2.2.2
set_option maxRecDepth 20000 in
theorem dX10_take_127_b : (decode cX10_take 127 = .ok (.getfield 68, 3)) ∧ (decode cX10_take 130 = .ok (.iload_n 1, 1)) ∧ (decode cX10_take 131 = .ok (.aload_n 0, 1)) ∧ (decode cX10_take 132 = .ok (.getfield 68, 3)) ∧ (decode cX10_take 135 = .ok (.iconst 4, 1)) ∧ (decode cX10_take 136 = .ok (.iload_n 1, 1)) := by decide +kernel
theorem dX10_take_127 : decode cX10_take 127 = .ok (.getfield 68, 3) := dX10_take_127_b.1
theorem dX10_take_130 : decode cX10_take 130 = .ok (.iload_n 1, 1) := dX10_take_127_b.2.1
theorem dX10_take_131 : decode cX10_take 131 = .ok (.aload_n 0, 1) := dX10_take_127_b.2.2.1
theorem dX10_take_132 : decode cX10_take 132 = .ok (.getfield 68, 3) := dX10_take_127_b.2.2.2.1
theorem dX10_take_135 : decode cX10_take 135 = .ok (.iconst 4, 1) := dX10_take_127_b.2.2.2.2.1
theorem dX10_take_136 : decode cX10_take 136 = .ok (.iload_n 1, 1) := dX10_take_127_b.2.2.2.2.2
set_option maxRecDepth 20000 in
theorem dX10_take_137_b : (decode cX10_take 137 = .ok (.iadd, 1)) ∧ (decode cX10_take 138 = .ok (.iaload, 1)) ∧ (decode cX10_take 139 = .ok (.iastore, 1)) ∧ (decode cX10_take 140 = .ok (.aload_n 0, 1)) ∧ (decode cX10_take 141 = .ok (.getfield 71, 3)) ∧ (decode cX10_take 144 = .ok (.iload_n 1, 1)) := by decide +kernel
theorem dX10_take_137 : decode cX10_take 137 = .ok (.iadd, 1) := dX10_take_137_b.1
theorem dX10_take_138 : decode cX10_take 138 = .ok (.iaload, 1) := dX10_take_137_b.2.1
theorem dX10_take_139 : decode cX10_take 139 = .ok (.iastore, 1) := dX10_take_137_b.2.2.1
theorem dX10_take_140 : decode cX10_take 140 = .ok (.aload_n 0, 1) := dX10_take_137_b.2.2.2.1
theorem dX10_take_141 : decode cX10_take 141 = .ok (.getfield 71, 3) := dX10_take_137_b.2.2.2.2.1
theorem dX10_take_144 : decode cX10_take 144 = .ok (.iload_n 1, 1) := dX10_take_137_b.2.2.2.2.2
set_option maxRecDepth 20000 in
theorem dX10_take_145_b : (decode cX10_take 145 = .ok (.aload_n 0, 1)) ∧ (decode cX10_take 146 = .ok (.getfield 71, 3)) ∧ (decode cX10_take 149 = .ok (.iconst 4, 1)) ∧ (decode cX10_take 150 = .ok (.iload_n 1, 1)) ∧ (decode cX10_take 151 = .ok (.iadd, 1)) ∧ (decode cX10_take 152 = .ok (.iaload, 1)) := by decide +kernel
theorem dX10_take_145 : decode cX10_take 145 = .ok (.aload_n 0, 1) := dX10_take_145_b.1
theorem dX10_take_146 : decode cX10_take 146 = .ok (.getfield 71, 3) := dX10_take_145_b.2.1
theorem dX10_take_149 : decode cX10_take 149 = .ok (.iconst 4, 1) := dX10_take_145_b.2.2.1
theorem dX10_take_150 : decode cX10_take 150 = .ok (.iload_n 1, 1) := dX10_take_145_b.2.2.2.1
theorem dX10_take_151 : decode cX10_take 151 = .ok (.iadd, 1) := dX10_take_145_b.2.2.2.2.1
theorem dX10_take_152 : decode cX10_take 152 = .ok (.iaload, 1) := dX10_take_145_b.2.2.2.2.2
set_option maxRecDepth 20000 in
theorem dX10_take_153_b : (decode cX10_take 153 = .ok (.iastore, 1)) ∧ (decode cX10_take 154 = .ok (.iinc 1 1, 3)) ∧ (decode cX10_take 157 = .ok (.goto (-36), 3)) ∧ (decode cX10_take 160 = .ok (.iconst 0, 1)) ∧ (decode cX10_take 161 = .ok (.istore_n 1, 1)) ∧ (decode cX10_take 162 = .ok (.iload_n 1, 1)) := by decide +kernel
theorem dX10_take_153 : decode cX10_take 153 = .ok (.iastore, 1) := dX10_take_153_b.1
theorem dX10_take_154 : decode cX10_take 154 = .ok (.iinc 1 1, 3) := dX10_take_153_b.2.1
theorem dX10_take_157 : decode cX10_take 157 = .ok (.goto (-36), 3) := dX10_take_153_b.2.2.1
theorem dX10_take_160 : decode cX10_take 160 = .ok (.iconst 0, 1) := dX10_take_153_b.2.2.2.1
theorem dX10_take_161 : decode cX10_take 161 = .ok (.istore_n 1, 1) := dX10_take_153_b.2.2.2.2.1
theorem dX10_take_162 : decode cX10_take 162 = .ok (.iload_n 1, 1) := dX10_take_153_b.2.2.2.2.2
set_option maxRecDepth 20000 in
theorem dX10_take_163_b : (decode cX10_take 163 = .ok (.aload_n 0, 1)) ∧ (decode cX10_take 164 = .ok (.getfield 250, 3)) ∧ (decode cX10_take 167 = .ok (.if_icmp .ge 25, 3)) := by decide +kernel
theorem dX10_take_163 : decode cX10_take 163 = .ok (.aload_n 0, 1) := dX10_take_163_b.1
theorem dX10_take_164 : decode cX10_take 164 = .ok (.getfield 250, 3) := dX10_take_163_b.2.1
theorem dX10_take_167 : decode cX10_take 167 = .ok (.if_icmp .ge 25, 3) := dX10_take_163_b.2.2
