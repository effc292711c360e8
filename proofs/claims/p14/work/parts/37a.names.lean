set_option maxRecDepth 20000 in
theorem dX1_begin_0_b : (decode cX1_begin 0 = .ok (.aload_n 0, 1)) ∧ (decode cX1_begin 1 = .ok (.iload_n 1, 1)) ∧ (decode cX1_begin 2 = .ok (.putfield 33, 3)) ∧ (decode cX1_begin 5 = .ok (.aload_n 0, 1)) ∧ (decode cX1_begin 6 = .ok (.iconst 0, 1)) ∧ (decode cX1_begin 7 = .ok (.putfield 37, 3)) := by decide +kernel
theorem dX1_begin_0 : decode cX1_begin 0 = .ok (.aload_n 0, 1) := dX1_begin_0_b.1
theorem dX1_begin_1 : decode cX1_begin 1 = .ok (.iload_n 1, 1) := dX1_begin_0_b.2.1
theorem dX1_begin_2 : decode cX1_begin 2 = .ok (.putfield 33, 3) := dX1_begin_0_b.2.2.1
theorem dX1_begin_5 : decode cX1_begin 5 = .ok (.aload_n 0, 1) := dX1_begin_0_b.2.2.2.1
theorem dX1_begin_6 : decode cX1_begin 6 = .ok (.iconst 0, 1) := dX1_begin_0_b.2.2.2.2.1
theorem dX1_begin_7 : decode cX1_begin 7 = .ok (.putfield 37, 3) := dX1_begin_0_b.2.2.2.2.2
set_option maxRecDepth 20000 in
theorem dX1_begin_10_b : (decode cX1_begin 10 = .ok (.aload_n 0, 1)) ∧ (decode cX1_begin 11 = .ok (.iconst 0, 1)) ∧ (decode cX1_begin 12 = .ok (.putfield 40, 3)) ∧ (decode cX1_begin 15 = .ok (.aload_n 0, 1)) ∧ (decode cX1_begin 16 = .ok (.iconst 0, 1)) ∧ (decode cX1_begin 17 = .ok (.putfield 43, 3)) := by decide +kernel
theorem dX1_begin_10 : decode cX1_begin 10 = .ok (.aload_n 0, 1) := dX1_begin_10_b.1
theorem dX1_begin_11 : decode cX1_begin 11 = .ok (.iconst 0, 1) := dX1_begin_10_b.2.1
theorem dX1_begin_12 : decode cX1_begin 12 = .ok (.putfield 40, 3) := dX1_begin_10_b.2.2.1
theorem dX1_begin_15 : decode cX1_begin 15 = .ok (.aload_n 0, 1) := dX1_begin_10_b.2.2.2.1
theorem dX1_begin_16 : decode cX1_begin 16 = .ok (.iconst 0, 1) := dX1_begin_10_b.2.2.2.2.1
theorem dX1_begin_17 : decode cX1_begin 17 = .ok (.putfield 43, 3) := dX1_begin_10_b.2.2.2.2.2
set_option maxRecDepth 20000 in
theorem dX1_begin_20_b : (decode cX1_begin 20 = .ok (.aload_n 0, 1)) ∧ (decode cX1_begin 21 = .ok (.iconst 0, 1)) ∧ (decode cX1_begin 22 = .ok (.putfield 46, 3)) ∧ (decode cX1_begin 25 = .ok (.return_, 1)) := by decide +kernel
theorem dX1_begin_20 : decode cX1_begin 20 = .ok (.aload_n 0, 1) := dX1_begin_20_b.1
theorem dX1_begin_21 : decode cX1_begin 21 = .ok (.iconst 0, 1) := dX1_begin_20_b.2.1
theorem dX1_begin_22 : decode cX1_begin 22 = .ok (.putfield 46, 3) := dX1_begin_20_b.2.2.1
theorem dX1_begin_25 : decode cX1_begin 25 = .ok (.return_, 1) := dX1_begin_20_b.2.2.2
set_option maxRecDepth 20000 in
theorem dX1_note_0_b : (decode cX1_note 0 = .ok (.aload_n 0, 1)) ∧ (decode cX1_note 1 = .ok (.getfield 37, 3)) ∧ (decode cX1_note 4 = .ok (.bipush 60, 2)) ∧ (decode cX1_note 6 = .ok (.if_icmp .lt 4, 3)) ∧ (decode cX1_note 9 = .ok (.return_, 1)) ∧ (decode cX1_note 10 = .ok (.aload_n 0, 1)) := by decide +kernel
theorem dX1_note_0 : decode cX1_note 0 = .ok (.aload_n 0, 1) := dX1_note_0_b.1
theorem dX1_note_1 : decode cX1_note 1 = .ok (.getfield 37, 3) := dX1_note_0_b.2.1
theorem dX1_note_4 : decode cX1_note 4 = .ok (.bipush 60, 2) := dX1_note_0_b.2.2.1
theorem dX1_note_6 : decode cX1_note 6 = .ok (.if_icmp .lt 4, 3) := dX1_note_0_b.2.2.2.1
theorem dX1_note_9 : decode cX1_note 9 = .ok (.return_, 1) := dX1_note_0_b.2.2.2.2.1
theorem dX1_note_10 : decode cX1_note 10 = .ok (.aload_n 0, 1) := dX1_note_0_b.2.2.2.2.2
set_option maxRecDepth 20000 in
theorem dX1_note_11_b : (decode cX1_note 11 = .ok (.getfield 9, 3)) ∧ (decode cX1_note 14 = .ok (.aload_n 0, 1)) ∧ (decode cX1_note 15 = .ok (.getfield 37, 3)) ∧ (decode cX1_note 18 = .ok (.iload_n 1, 1)) ∧ (decode cX1_note 19 = .ok (.iastore, 1)) ∧ (decode cX1_note 20 = .ok (.aload_n 0, 1)) := by decide +kernel
theorem dX1_note_11 : decode cX1_note 11 = .ok (.getfield 9, 3) := dX1_note_11_b.1
theorem dX1_note_14 : decode cX1_note 14 = .ok (.aload_n 0, 1) := dX1_note_11_b.2.1
theorem dX1_note_15 : decode cX1_note 15 = .ok (.getfield 37, 3) := dX1_note_11_b.2.2.1
theorem dX1_note_18 : decode cX1_note 18 = .ok (.iload_n 1, 1) := dX1_note_11_b.2.2.2.1
theorem dX1_note_19 : decode cX1_note 19 = .ok (.iastore, 1) := dX1_note_11_b.2.2.2.2.1
theorem dX1_note_20 : decode cX1_note 20 = .ok (.aload_n 0, 1) := dX1_note_11_b.2.2.2.2.2
set_option maxRecDepth 20000 in
theorem dX1_note_21_b : (decode cX1_note 21 = .ok (.getfield 15, 3)) ∧ (decode cX1_note 24 = .ok (.aload_n 0, 1)) ∧ (decode cX1_note 25 = .ok (.getfield 37, 3)) ∧ (decode cX1_note 28 = .ok (.iload_n 2, 1)) ∧ (decode cX1_note 29 = .ok (.iastore, 1)) ∧ (decode cX1_note 30 = .ok (.aload_n 0, 1)) := by decide +kernel
theorem dX1_note_21 : decode cX1_note 21 = .ok (.getfield 15, 3) := dX1_note_21_b.1
theorem dX1_note_24 : decode cX1_note 24 = .ok (.aload_n 0, 1) := dX1_note_21_b.2.1
theorem dX1_note_25 : decode cX1_note 25 = .ok (.getfield 37, 3) := dX1_note_21_b.2.2.1
theorem dX1_note_28 : decode cX1_note 28 = .ok (.iload_n 2, 1) := dX1_note_21_b.2.2.2.1
theorem dX1_note_29 : decode cX1_note 29 = .ok (.iastore, 1) := dX1_note_21_b.2.2.2.2.1
theorem dX1_note_30 : decode cX1_note 30 = .ok (.aload_n 0, 1) := dX1_note_21_b.2.2.2.2.2
set_option maxRecDepth 20000 in
theorem dX1_note_31_b : (decode cX1_note 31 = .ok (.getfield 18, 3)) ∧ (decode cX1_note 34 = .ok (.aload_n 0, 1)) ∧ (decode cX1_note 35 = .ok (.getfield 37, 3)) ∧ (decode cX1_note 38 = .ok (.iload_n 3, 1)) ∧ (decode cX1_note 39 = .ok (.iastore, 1)) ∧ (decode cX1_note 40 = .ok (.aload_n 0, 1)) := by decide +kernel
theorem dX1_note_31 : decode cX1_note 31 = .ok (.getfield 18, 3) := dX1_note_31_b.1
theorem dX1_note_34 : decode cX1_note 34 = .ok (.aload_n 0, 1) := dX1_note_31_b.2.1
theorem dX1_note_35 : decode cX1_note 35 = .ok (.getfield 37, 3) := dX1_note_31_b.2.2.1
theorem dX1_note_38 : decode cX1_note 38 = .ok (.iload_n 3, 1) := dX1_note_31_b.2.2.2.1
theorem dX1_note_39 : decode cX1_note 39 = .ok (.iastore, 1) := dX1_note_31_b.2.2.2.2.1
theorem dX1_note_40 : decode cX1_note 40 = .ok (.aload_n 0, 1) := dX1_note_31_b.2.2.2.2.2
set_option maxRecDepth 20000 in
theorem dX1_note_41_b : (decode cX1_note 41 = .ok (.getfield 21, 3)) ∧ (decode cX1_note 44 = .ok (.aload_n 0, 1)) ∧ (decode cX1_note 45 = .ok (.getfield 37, 3)) ∧ (decode cX1_note 48 = .ok (.aload_n 0, 1)) ∧ (decode cX1_note 49 = .ok (.getfield 33, 3)) ∧ (decode cX1_note 52 = .ok (.iastore, 1)) := by decide +kernel
theorem dX1_note_41 : decode cX1_note 41 = .ok (.getfield 21, 3) := dX1_note_41_b.1
theorem dX1_note_44 : decode cX1_note 44 = .ok (.aload_n 0, 1) := dX1_note_41_b.2.1
theorem dX1_note_45 : decode cX1_note 45 = .ok (.getfield 37, 3) := dX1_note_41_b.2.2.1
theorem dX1_note_48 : decode cX1_note 48 = .ok (.aload_n 0, 1) := dX1_note_41_b.2.2.2.1
theorem dX1_note_49 : decode cX1_note 49 = .ok (.getfield 33, 3) := dX1_note_41_b.2.2.2.2.1
theorem dX1_note_52 : decode cX1_note 52 = .ok (.iastore, 1) := dX1_note_41_b.2.2.2.2.2
set_option maxRecDepth 20000 in
theorem dX1_note_53_b : (decode cX1_note 53 = .ok (.aload_n 0, 1)) ∧ (decode cX1_note 54 = .ok (.getfield 24, 3)) ∧ (decode cX1_note 57 = .ok (.aload_n 0, 1)) ∧ (decode cX1_note 58 = .ok (.getfield 37, 3)) ∧ (decode cX1_note 61 = .ok (.iload 4, 2)) ∧ (decode cX1_note 63 = .ok (.iastore, 1)) := by decide +kernel
theorem dX1_note_53 : decode cX1_note 53 = .ok (.aload_n 0, 1) := dX1_note_53_b.1
theorem dX1_note_54 : decode cX1_note 54 = .ok (.getfield 24, 3) := dX1_note_53_b.2.1
theorem dX1_note_57 : decode cX1_note 57 = .ok (.aload_n 0, 1) := dX1_note_53_b.2.2.1
theorem dX1_note_58 : decode cX1_note 58 = .ok (.getfield 37, 3) := dX1_note_53_b.2.2.2.1
theorem dX1_note_61 : decode cX1_note 61 = .ok (.iload 4, 2) := dX1_note_53_b.2.2.2.2.1
theorem dX1_note_63 : decode cX1_note 63 = .ok (.iastore, 1) := dX1_note_53_b.2.2.2.2.2
set_option maxRecDepth 20000 in
theorem dX1_note_64_b : (decode cX1_note 64 = .ok (.aload_n 0, 1)) ∧ (decode cX1_note 65 = .ok (.dup, 1)) ∧ (decode cX1_note 66 = .ok (.getfield 37, 3)) ∧ (decode cX1_note 69 = .ok (.iconst 1, 1)) ∧ (decode cX1_note 70 = .ok (.iadd, 1)) ∧ (decode cX1_note 71 = .ok (.putfield 37, 3)) := by decide +kernel
theorem dX1_note_64 : decode cX1_note 64 = .ok (.aload_n 0, 1) := dX1_note_64_b.1
theorem dX1_note_65 : decode cX1_note 65 = .ok (.dup, 1) := dX1_note_64_b.2.1
theorem dX1_note_66 : decode cX1_note 66 = .ok (.getfield 37, 3) := dX1_note_64_b.2.2.1
theorem dX1_note_69 : decode cX1_note 69 = .ok (.iconst 1, 1) := dX1_note_64_b.2.2.2.1
theorem dX1_note_70 : decode cX1_note 70 = .ok (.iadd, 1) := dX1_note_64_b.2.2.2.2.1
theorem dX1_note_71 : decode cX1_note 71 = .ok (.putfield 37, 3) := dX1_note_64_b.2.2.2.2.2
set_option maxRecDepth 20000 in
theorem dX1_note_74_b : (decode cX1_note 74 = .ok (.aload_n 0, 1)) ∧ (decode cX1_note 75 = .ok (.dup, 1)) ∧ (decode cX1_note 76 = .ok (.getfield 40, 3)) ∧ (decode cX1_note 79 = .ok (.iload_n 1, 1)) ∧ (decode cX1_note 80 = .ok (.iconst 2, 1)) ∧ (decode cX1_note 81 = .ok (.if_icmp .ne 7, 3)) := by decide +kernel
theorem dX1_note_74 : decode cX1_note 74 = .ok (.aload_n 0, 1) := dX1_note_74_b.1
theorem dX1_note_75 : decode cX1_note 75 = .ok (.dup, 1) := dX1_note_74_b.2.1
theorem dX1_note_76 : decode cX1_note 76 = .ok (.getfield 40, 3) := dX1_note_74_b.2.2.1
theorem dX1_note_79 : decode cX1_note 79 = .ok (.iload_n 1, 1) := dX1_note_74_b.2.2.2.1
theorem dX1_note_80 : decode cX1_note 80 = .ok (.iconst 2, 1) := dX1_note_74_b.2.2.2.2.1
theorem dX1_note_81 : decode cX1_note 81 = .ok (.if_icmp .ne 7, 3) := dX1_note_74_b.2.2.2.2.2
set_option maxRecDepth 20000 in
theorem dX1_note_84_b : (decode cX1_note 84 = .ok (.iconst 1, 1)) ∧ (decode cX1_note 85 = .ok (.goto 4, 3)) ∧ (decode cX1_note 88 = .ok (.iconst 0, 1)) ∧ (decode cX1_note 89 = .ok (.iadd, 1)) ∧ (decode cX1_note 90 = .ok (.putfield 40, 3)) ∧ (decode cX1_note 93 = .ok (.aload_n 0, 1)) := by decide +kernel
theorem dX1_note_84 : decode cX1_note 84 = .ok (.iconst 1, 1) := dX1_note_84_b.1
theorem dX1_note_85 : decode cX1_note 85 = .ok (.goto 4, 3) := dX1_note_84_b.2.1
theorem dX1_note_88 : decode cX1_note 88 = .ok (.iconst 0, 1) := dX1_note_84_b.2.2.1
theorem dX1_note_89 : decode cX1_note 89 = .ok (.iadd, 1) := dX1_note_84_b.2.2.2.1
theorem dX1_note_90 : decode cX1_note 90 = .ok (.putfield 40, 3) := dX1_note_84_b.2.2.2.2.1
theorem dX1_note_93 : decode cX1_note 93 = .ok (.aload_n 0, 1) := dX1_note_84_b.2.2.2.2.2
set_option maxRecDepth 20000 in
theorem dX1_note_94_b : (decode cX1_note 94 = .ok (.dup, 1)) ∧ (decode cX1_note 95 = .ok (.getfield 43, 3)) ∧ (decode cX1_note 98 = .ok (.iload 4, 2)) ∧ (decode cX1_note 100 = .ok (.iadd, 1)) ∧ (decode cX1_note 101 = .ok (.putfield 43, 3)) ∧ (decode cX1_note 104 = .ok (.aload_n 0, 1)) := by decide +kernel
theorem dX1_note_94 : decode cX1_note 94 = .ok (.dup, 1) := dX1_note_94_b.1
theorem dX1_note_95 : decode cX1_note 95 = .ok (.getfield 43, 3) := dX1_note_94_b.2.1
theorem dX1_note_98 : decode cX1_note 98 = .ok (.iload 4, 2) := dX1_note_94_b.2.2.1
theorem dX1_note_100 : decode cX1_note 100 = .ok (.iadd, 1) := dX1_note_94_b.2.2.2.1
theorem dX1_note_101 : decode cX1_note 101 = .ok (.putfield 43, 3) := dX1_note_94_b.2.2.2.2.1
theorem dX1_note_104 : decode cX1_note 104 = .ok (.aload_n 0, 1) := dX1_note_94_b.2.2.2.2.2
set_option maxRecDepth 20000 in
theorem dX1_note_105_b : (decode cX1_note 105 = .ok (.iload 5, 2)) ∧ (decode cX1_note 107 = .ok (.putfield 33, 3)) ∧ (decode cX1_note 110 = .ok (.return_, 1)) := by decide +kernel
theorem dX1_note_105 : decode cX1_note 105 = .ok (.iload 5, 2) := dX1_note_105_b.1
theorem dX1_note_107 : decode cX1_note 107 = .ok (.putfield 33, 3) := dX1_note_105_b.2.1
theorem dX1_note_110 : decode cX1_note 110 = .ok (.return_, 1) := dX1_note_105_b.2.2
set_option maxRecDepth 20000 in
theorem dX1_takeBack_0_b : (decode cX1_takeBack 0 = .ok (.aload_n 0, 1)) ∧ (decode cX1_takeBack 1 = .ok (.getfield 37, 3)) ∧ (decode cX1_takeBack 4 = .ok (.ifCond .gt 4, 3)) ∧ (decode cX1_takeBack 7 = .ok (.return_, 1)) ∧ (decode cX1_takeBack 8 = .ok (.aload_n 0, 1)) ∧ (decode cX1_takeBack 9 = .ok (.dup, 1)) := by decide +kernel
theorem dX1_takeBack_0 : decode cX1_takeBack 0 = .ok (.aload_n 0, 1) := dX1_takeBack_0_b.1
theorem dX1_takeBack_1 : decode cX1_takeBack 1 = .ok (.getfield 37, 3) := dX1_takeBack_0_b.2.1
theorem dX1_takeBack_4 : decode cX1_takeBack 4 = .ok (.ifCond .gt 4, 3) := dX1_takeBack_0_b.2.2.1
theorem dX1_takeBack_7 : decode cX1_takeBack 7 = .ok (.return_, 1) := dX1_takeBack_0_b.2.2.2.1
theorem dX1_takeBack_8 : decode cX1_takeBack 8 = .ok (.aload_n 0, 1) := dX1_takeBack_0_b.2.2.2.2.1
theorem dX1_takeBack_9 : decode cX1_takeBack 9 = .ok (.dup, 1) := dX1_takeBack_0_b.2.2.2.2.2
set_option maxRecDepth 20000 in
theorem dX1_takeBack_10_b : (decode cX1_takeBack 10 = .ok (.getfield 37, 3)) ∧ (decode cX1_takeBack 13 = .ok (.iconst 1, 1)) ∧ (decode cX1_takeBack 14 = .ok (.isub, 1)) ∧ (decode cX1_takeBack 15 = .ok (.putfield 37, 3)) ∧ (decode cX1_takeBack 18 = .ok (.aload_n 0, 1)) ∧ (decode cX1_takeBack 19 = .ok (.dup, 1)) := by decide +kernel
theorem dX1_takeBack_10 : decode cX1_takeBack 10 = .ok (.getfield 37, 3) := dX1_takeBack_10_b.1
theorem dX1_takeBack_13 : decode cX1_takeBack 13 = .ok (.iconst 1, 1) := dX1_takeBack_10_b.2.1
theorem dX1_takeBack_14 : decode cX1_takeBack 14 = .ok (.isub, 1) := dX1_takeBack_10_b.2.2.1
theorem dX1_takeBack_15 : decode cX1_takeBack 15 = .ok (.putfield 37, 3) := dX1_takeBack_10_b.2.2.2.1
theorem dX1_takeBack_18 : decode cX1_takeBack 18 = .ok (.aload_n 0, 1) := dX1_takeBack_10_b.2.2.2.2.1
theorem dX1_takeBack_19 : decode cX1_takeBack 19 = .ok (.dup, 1) := dX1_takeBack_10_b.2.2.2.2.2
set_option maxRecDepth 20000 in
theorem dX1_takeBack_20_b : (decode cX1_takeBack 20 = .ok (.getfield 40, 3)) ∧ (decode cX1_takeBack 23 = .ok (.aload_n 0, 1)) ∧ (decode cX1_takeBack 24 = .ok (.getfield 9, 3)) ∧ (decode cX1_takeBack 27 = .ok (.aload_n 0, 1)) ∧ (decode cX1_takeBack 28 = .ok (.getfield 37, 3)) ∧ (decode cX1_takeBack 31 = .ok (.iaload, 1)) := by decide +kernel
theorem dX1_takeBack_20 : decode cX1_takeBack 20 = .ok (.getfield 40, 3) := dX1_takeBack_20_b.1
theorem dX1_takeBack_23 : decode cX1_takeBack 23 = .ok (.aload_n 0, 1) := dX1_takeBack_20_b.2.1
theorem dX1_takeBack_24 : decode cX1_takeBack 24 = .ok (.getfield 9, 3) := dX1_takeBack_20_b.2.2.1
theorem dX1_takeBack_27 : decode cX1_takeBack 27 = .ok (.aload_n 0, 1) := dX1_takeBack_20_b.2.2.2.1
theorem dX1_takeBack_28 : decode cX1_takeBack 28 = .ok (.getfield 37, 3) := dX1_takeBack_20_b.2.2.2.2.1
theorem dX1_takeBack_31 : decode cX1_takeBack 31 = .ok (.iaload, 1) := dX1_takeBack_20_b.2.2.2.2.2
set_option maxRecDepth 20000 in
theorem dX1_takeBack_32_b : (decode cX1_takeBack 32 = .ok (.iconst 2, 1)) ∧ (decode cX1_takeBack 33 = .ok (.if_icmp .ne 7, 3)) ∧ (decode cX1_takeBack 36 = .ok (.iconst 1, 1)) ∧ (decode cX1_takeBack 37 = .ok (.goto 4, 3)) ∧ (decode cX1_takeBack 40 = .ok (.iconst 0, 1)) ∧ (decode cX1_takeBack 41 = .ok (.isub, 1)) := by decide +kernel
theorem dX1_takeBack_32 : decode cX1_takeBack 32 = .ok (.iconst 2, 1) := dX1_takeBack_32_b.1
theorem dX1_takeBack_33 : decode cX1_takeBack 33 = .ok (.if_icmp .ne 7, 3) := dX1_takeBack_32_b.2.1
theorem dX1_takeBack_36 : decode cX1_takeBack 36 = .ok (.iconst 1, 1) := dX1_takeBack_32_b.2.2.1
theorem dX1_takeBack_37 : decode cX1_takeBack 37 = .ok (.goto 4, 3) := dX1_takeBack_32_b.2.2.2.1
theorem dX1_takeBack_40 : decode cX1_takeBack 40 = .ok (.iconst 0, 1) := dX1_takeBack_32_b.2.2.2.2.1
theorem dX1_takeBack_41 : decode cX1_takeBack 41 = .ok (.isub, 1) := dX1_takeBack_32_b.2.2.2.2.2
set_option maxRecDepth 20000 in
theorem dX1_takeBack_42_b : (decode cX1_takeBack 42 = .ok (.putfield 40, 3)) ∧ (decode cX1_takeBack 45 = .ok (.aload_n 0, 1)) ∧ (decode cX1_takeBack 46 = .ok (.dup, 1)) ∧ (decode cX1_takeBack 47 = .ok (.getfield 43, 3)) ∧ (decode cX1_takeBack 50 = .ok (.aload_n 0, 1)) ∧ (decode cX1_takeBack 51 = .ok (.getfield 24, 3)) := by decide +kernel
theorem dX1_takeBack_42 : decode cX1_takeBack 42 = .ok (.putfield 40, 3) := dX1_takeBack_42_b.1
theorem dX1_takeBack_45 : decode cX1_takeBack 45 = .ok (.aload_n 0, 1) := dX1_takeBack_42_b.2.1
theorem dX1_takeBack_46 : decode cX1_takeBack 46 = .ok (.dup, 1) := dX1_takeBack_42_b.2.2.1
theorem dX1_takeBack_47 : decode cX1_takeBack 47 = .ok (.getfield 43, 3) := dX1_takeBack_42_b.2.2.2.1
theorem dX1_takeBack_50 : decode cX1_takeBack 50 = .ok (.aload_n 0, 1) := dX1_takeBack_42_b.2.2.2.2.1
theorem dX1_takeBack_51 : decode cX1_takeBack 51 = .ok (.getfield 24, 3) := dX1_takeBack_42_b.2.2.2.2.2
set_option maxRecDepth 20000 in
theorem dX1_takeBack_54_b : (decode cX1_takeBack 54 = .ok (.aload_n 0, 1)) ∧ (decode cX1_takeBack 55 = .ok (.getfield 37, 3)) ∧ (decode cX1_takeBack 58 = .ok (.iaload, 1)) ∧ (decode cX1_takeBack 59 = .ok (.isub, 1)) ∧ (decode cX1_takeBack 60 = .ok (.putfield 43, 3)) ∧ (decode cX1_takeBack 63 = .ok (.aload_n 0, 1)) := by decide +kernel
theorem dX1_takeBack_54 : decode cX1_takeBack 54 = .ok (.aload_n 0, 1) := dX1_takeBack_54_b.1
theorem dX1_takeBack_55 : decode cX1_takeBack 55 = .ok (.getfield 37, 3) := dX1_takeBack_54_b.2.1
theorem dX1_takeBack_58 : decode cX1_takeBack 58 = .ok (.iaload, 1) := dX1_takeBack_54_b.2.2.1
theorem dX1_takeBack_59 : decode cX1_takeBack 59 = .ok (.isub, 1) := dX1_takeBack_54_b.2.2.2.1
theorem dX1_takeBack_60 : decode cX1_takeBack 60 = .ok (.putfield 43, 3) := dX1_takeBack_54_b.2.2.2.2.1
theorem dX1_takeBack_63 : decode cX1_takeBack 63 = .ok (.aload_n 0, 1) := dX1_takeBack_54_b.2.2.2.2.2
set_option maxRecDepth 20000 in
theorem dX1_takeBack_64_b : (decode cX1_takeBack 64 = .ok (.aload_n 0, 1)) ∧ (decode cX1_takeBack 65 = .ok (.getfield 21, 3)) ∧ (decode cX1_takeBack 68 = .ok (.aload_n 0, 1)) ∧ (decode cX1_takeBack 69 = .ok (.getfield 37, 3)) ∧ (decode cX1_takeBack 72 = .ok (.iaload, 1)) ∧ (decode cX1_takeBack 73 = .ok (.putfield 33, 3)) := by decide +kernel
theorem dX1_takeBack_64 : decode cX1_takeBack 64 = .ok (.aload_n 0, 1) := dX1_takeBack_64_b.1
theorem dX1_takeBack_65 : decode cX1_takeBack 65 = .ok (.getfield 21, 3) := dX1_takeBack_64_b.2.1
theorem dX1_takeBack_68 : decode cX1_takeBack 68 = .ok (.aload_n 0, 1) := dX1_takeBack_64_b.2.2.1
theorem dX1_takeBack_69 : decode cX1_takeBack 69 = .ok (.getfield 37, 3) := dX1_takeBack_64_b.2.2.2.1
theorem dX1_takeBack_72 : decode cX1_takeBack 72 = .ok (.iaload, 1) := dX1_takeBack_64_b.2.2.2.2.1
theorem dX1_takeBack_73 : decode cX1_takeBack 73 = .ok (.putfield 33, 3) := dX1_takeBack_64_b.2.2.2.2.2
theorem dX1_takeBack_76 : decode cX1_takeBack 76 = .ok (.return_, 1) := by decide +kernel
set_option maxRecDepth 20000 in
theorem dX1_copy_0_b : (decode cX1_copy 0 = .ok (.aload_n 0, 1)) ∧ (decode cX1_copy 1 = .ok (.aload_n 1, 1)) ∧ (decode cX1_copy 2 = .ok (.getfield 33, 3)) ∧ (decode cX1_copy 5 = .ok (.putfield 33, 3)) ∧ (decode cX1_copy 8 = .ok (.aload_n 0, 1)) ∧ (decode cX1_copy 9 = .ok (.aload_n 1, 1)) := by decide +kernel
theorem dX1_copy_0 : decode cX1_copy 0 = .ok (.aload_n 0, 1) := dX1_copy_0_b.1
theorem dX1_copy_1 : decode cX1_copy 1 = .ok (.aload_n 1, 1) := dX1_copy_0_b.2.1
theorem dX1_copy_2 : decode cX1_copy 2 = .ok (.getfield 33, 3) := dX1_copy_0_b.2.2.1
theorem dX1_copy_5 : decode cX1_copy 5 = .ok (.putfield 33, 3) := dX1_copy_0_b.2.2.2.1
theorem dX1_copy_8 : decode cX1_copy 8 = .ok (.aload_n 0, 1) := dX1_copy_0_b.2.2.2.2.1
theorem dX1_copy_9 : decode cX1_copy 9 = .ok (.aload_n 1, 1) := dX1_copy_0_b.2.2.2.2.2
set_option maxRecDepth 20000 in
theorem dX1_copy_10_b : (decode cX1_copy 10 = .ok (.getfield 37, 3)) ∧ (decode cX1_copy 13 = .ok (.putfield 37, 3)) ∧ (decode cX1_copy 16 = .ok (.aload_n 0, 1)) ∧ (decode cX1_copy 17 = .ok (.aload_n 1, 1)) ∧ (decode cX1_copy 18 = .ok (.getfield 40, 3)) ∧ (decode cX1_copy 21 = .ok (.putfield 40, 3)) := by decide +kernel
theorem dX1_copy_10 : decode cX1_copy 10 = .ok (.getfield 37, 3) := dX1_copy_10_b.1
theorem dX1_copy_13 : decode cX1_copy 13 = .ok (.putfield 37, 3) := dX1_copy_10_b.2.1
theorem dX1_copy_16 : decode cX1_copy 16 = .ok (.aload_n 0, 1) := dX1_copy_10_b.2.2.1
theorem dX1_copy_17 : decode cX1_copy 17 = .ok (.aload_n 1, 1) := dX1_copy_10_b.2.2.2.1
theorem dX1_copy_18 : decode cX1_copy 18 = .ok (.getfield 40, 3) := dX1_copy_10_b.2.2.2.2.1
theorem dX1_copy_21 : decode cX1_copy 21 = .ok (.putfield 40, 3) := dX1_copy_10_b.2.2.2.2.2
set_option maxRecDepth 20000 in
theorem dX1_copy_24_b : (decode cX1_copy 24 = .ok (.aload_n 0, 1)) ∧ (decode cX1_copy 25 = .ok (.aload_n 1, 1)) ∧ (decode cX1_copy 26 = .ok (.getfield 43, 3)) ∧ (decode cX1_copy 29 = .ok (.putfield 43, 3)) ∧ (decode cX1_copy 32 = .ok (.aload_n 0, 1)) ∧ (decode cX1_copy 33 = .ok (.aload_n 1, 1)) := by decide +kernel
theorem dX1_copy_24 : decode cX1_copy 24 = .ok (.aload_n 0, 1) := dX1_copy_24_b.1
theorem dX1_copy_25 : decode cX1_copy 25 = .ok (.aload_n 1, 1) := dX1_copy_24_b.2.1
theorem dX1_copy_26 : decode cX1_copy 26 = .ok (.getfield 43, 3) := dX1_copy_24_b.2.2.1
theorem dX1_copy_29 : decode cX1_copy 29 = .ok (.putfield 43, 3) := dX1_copy_24_b.2.2.2.1
theorem dX1_copy_32 : decode cX1_copy 32 = .ok (.aload_n 0, 1) := dX1_copy_24_b.2.2.2.2.1
theorem dX1_copy_33 : decode cX1_copy 33 = .ok (.aload_n 1, 1) := dX1_copy_24_b.2.2.2.2.2
set_option maxRecDepth 20000 in
theorem dX1_copy_34_b : (decode cX1_copy 34 = .ok (.getfield 46, 3)) ∧ (decode cX1_copy 37 = .ok (.putfield 46, 3)) ∧ (decode cX1_copy 40 = .ok (.aload_n 1, 1)) ∧ (decode cX1_copy 41 = .ok (.getfield 9, 3)) ∧ (decode cX1_copy 44 = .ok (.iconst 0, 1)) ∧ (decode cX1_copy 45 = .ok (.aload_n 0, 1)) := by decide +kernel
theorem dX1_copy_34 : decode cX1_copy 34 = .ok (.getfield 46, 3) := dX1_copy_34_b.1
theorem dX1_copy_37 : decode cX1_copy 37 = .ok (.putfield 46, 3) := dX1_copy_34_b.2.1
theorem dX1_copy_40 : decode cX1_copy 40 = .ok (.aload_n 1, 1) := dX1_copy_34_b.2.2.1
theorem dX1_copy_41 : decode cX1_copy 41 = .ok (.getfield 9, 3) := dX1_copy_34_b.2.2.2.1
theorem dX1_copy_44 : decode cX1_copy 44 = .ok (.iconst 0, 1) := dX1_copy_34_b.2.2.2.2.1
theorem dX1_copy_45 : decode cX1_copy 45 = .ok (.aload_n 0, 1) := dX1_copy_34_b.2.2.2.2.2
set_option maxRecDepth 20000 in
theorem dX1_copy_46_b : (decode cX1_copy 46 = .ok (.getfield 9, 3)) ∧ (decode cX1_copy 49 = .ok (.iconst 0, 1)) ∧ (decode cX1_copy 50 = .ok (.bipush 60, 2)) ∧ (decode cX1_copy 52 = .ok (.invokestatic 49, 3)) ∧ (decode cX1_copy 55 = .ok (.aload_n 1, 1)) ∧ (decode cX1_copy 56 = .ok (.getfield 15, 3)) := by decide +kernel
theorem dX1_copy_46 : decode cX1_copy 46 = .ok (.getfield 9, 3) := dX1_copy_46_b.1
theorem dX1_copy_49 : decode cX1_copy 49 = .ok (.iconst 0, 1) := dX1_copy_46_b.2.1
theorem dX1_copy_50 : decode cX1_copy 50 = .ok (.bipush 60, 2) := dX1_copy_46_b.2.2.1
theorem dX1_copy_52 : decode cX1_copy 52 = .ok (.invokestatic 49, 3) := dX1_copy_46_b.2.2.2.1
theorem dX1_copy_55 : decode cX1_copy 55 = .ok (.aload_n 1, 1) := dX1_copy_46_b.2.2.2.2.1
theorem dX1_copy_56 : decode cX1_copy 56 = .ok (.getfield 15, 3) := dX1_copy_46_b.2.2.2.2.2
set_option maxRecDepth 20000 in
theorem dX1_copy_59_b : (decode cX1_copy 59 = .ok (.iconst 0, 1)) ∧ (decode cX1_copy 60 = .ok (.aload_n 0, 1)) ∧ (decode cX1_copy 61 = .ok (.getfield 15, 3)) ∧ (decode cX1_copy 64 = .ok (.iconst 0, 1)) ∧ (decode cX1_copy 65 = .ok (.bipush 60, 2)) ∧ (decode cX1_copy 67 = .ok (.invokestatic 49, 3)) := by decide +kernel
theorem dX1_copy_59 : decode cX1_copy 59 = .ok (.iconst 0, 1) := dX1_copy_59_b.1
theorem dX1_copy_60 : decode cX1_copy 60 = .ok (.aload_n 0, 1) := dX1_copy_59_b.2.1
theorem dX1_copy_61 : decode cX1_copy 61 = .ok (.getfield 15, 3) := dX1_copy_59_b.2.2.1
theorem dX1_copy_64 : decode cX1_copy 64 = .ok (.iconst 0, 1) := dX1_copy_59_b.2.2.2.1
theorem dX1_copy_65 : decode cX1_copy 65 = .ok (.bipush 60, 2) := dX1_copy_59_b.2.2.2.2.1
theorem dX1_copy_67 : decode cX1_copy 67 = .ok (.invokestatic 49, 3) := dX1_copy_59_b.2.2.2.2.2
set_option maxRecDepth 20000 in
theorem dX1_copy_70_b : (decode cX1_copy 70 = .ok (.aload_n 1, 1)) ∧ (decode cX1_copy 71 = .ok (.getfield 18, 3)) ∧ (decode cX1_copy 74 = .ok (.iconst 0, 1)) ∧ (decode cX1_copy 75 = .ok (.aload_n 0, 1)) ∧ (decode cX1_copy 76 = .ok (.getfield 18, 3)) ∧ (decode cX1_copy 79 = .ok (.iconst 0, 1)) := by decide +kernel
theorem dX1_copy_70 : decode cX1_copy 70 = .ok (.aload_n 1, 1) := dX1_copy_70_b.1
theorem dX1_copy_71 : decode cX1_copy 71 = .ok (.getfield 18, 3) := dX1_copy_70_b.2.1
theorem dX1_copy_74 : decode cX1_copy 74 = .ok (.iconst 0, 1) := dX1_copy_70_b.2.2.1
theorem dX1_copy_75 : decode cX1_copy 75 = .ok (.aload_n 0, 1) := dX1_copy_70_b.2.2.2.1
theorem dX1_copy_76 : decode cX1_copy 76 = .ok (.getfield 18, 3) := dX1_copy_70_b.2.2.2.2.1
theorem dX1_copy_79 : decode cX1_copy 79 = .ok (.iconst 0, 1) := dX1_copy_70_b.2.2.2.2.2
set_option maxRecDepth 20000 in
theorem dX1_copy_80_b : (decode cX1_copy 80 = .ok (.bipush 60, 2)) ∧ (decode cX1_copy 82 = .ok (.invokestatic 49, 3)) ∧ (decode cX1_copy 85 = .ok (.aload_n 1, 1)) ∧ (decode cX1_copy 86 = .ok (.getfield 21, 3)) ∧ (decode cX1_copy 89 = .ok (.iconst 0, 1)) ∧ (decode cX1_copy 90 = .ok (.aload_n 0, 1)) := by decide +kernel
theorem dX1_copy_80 : decode cX1_copy 80 = .ok (.bipush 60, 2) := dX1_copy_80_b.1
theorem dX1_copy_82 : decode cX1_copy 82 = .ok (.invokestatic 49, 3) := dX1_copy_80_b.2.1
theorem dX1_copy_85 : decode cX1_copy 85 = .ok (.aload_n 1, 1) := dX1_copy_80_b.2.2.1
theorem dX1_copy_86 : decode cX1_copy 86 = .ok (.getfield 21, 3) := dX1_copy_80_b.2.2.2.1
theorem dX1_copy_89 : decode cX1_copy 89 = .ok (.iconst 0, 1) := dX1_copy_80_b.2.2.2.2.1
theorem dX1_copy_90 : decode cX1_copy 90 = .ok (.aload_n 0, 1) := dX1_copy_80_b.2.2.2.2.2
set_option maxRecDepth 20000 in
theorem dX1_copy_91_b : (decode cX1_copy 91 = .ok (.getfield 21, 3)) ∧ (decode cX1_copy 94 = .ok (.iconst 0, 1)) ∧ (decode cX1_copy 95 = .ok (.bipush 60, 2)) ∧ (decode cX1_copy 97 = .ok (.invokestatic 49, 3)) ∧ (decode cX1_copy 100 = .ok (.aload_n 1, 1)) ∧ (decode cX1_copy 101 = .ok (.getfield 24, 3)) := by decide +kernel
theorem dX1_copy_91 : decode cX1_copy 91 = .ok (.getfield 21, 3) := dX1_copy_91_b.1
theorem dX1_copy_94 : decode cX1_copy 94 = .ok (.iconst 0, 1) := dX1_copy_91_b.2.1
theorem dX1_copy_95 : decode cX1_copy 95 = .ok (.bipush 60, 2) := dX1_copy_91_b.2.2.1
theorem dX1_copy_97 : decode cX1_copy 97 = .ok (.invokestatic 49, 3) := dX1_copy_91_b.2.2.2.1
theorem dX1_copy_100 : decode cX1_copy 100 = .ok (.aload_n 1, 1) := dX1_copy_91_b.2.2.2.2.1
theorem dX1_copy_101 : decode cX1_copy 101 = .ok (.getfield 24, 3) := dX1_copy_91_b.2.2.2.2.2
set_option maxRecDepth 20000 in
theorem dX1_copy_104_b : (decode cX1_copy 104 = .ok (.iconst 0, 1)) ∧ (decode cX1_copy 105 = .ok (.aload_n 0, 1)) ∧ (decode cX1_copy 106 = .ok (.getfield 24, 3)) ∧ (decode cX1_copy 109 = .ok (.iconst 0, 1)) ∧ (decode cX1_copy 110 = .ok (.bipush 60, 2)) ∧ (decode cX1_copy 112 = .ok (.invokestatic 49, 3)) := by decide +kernel
theorem dX1_copy_104 : decode cX1_copy 104 = .ok (.iconst 0, 1) := dX1_copy_104_b.1
theorem dX1_copy_105 : decode cX1_copy 105 = .ok (.aload_n 0, 1) := dX1_copy_104_b.2.1
theorem dX1_copy_106 : decode cX1_copy 106 = .ok (.getfield 24, 3) := dX1_copy_104_b.2.2.1
theorem dX1_copy_109 : decode cX1_copy 109 = .ok (.iconst 0, 1) := dX1_copy_104_b.2.2.2.1
theorem dX1_copy_110 : decode cX1_copy 110 = .ok (.bipush 60, 2) := dX1_copy_104_b.2.2.2.2.1
theorem dX1_copy_112 : decode cX1_copy 112 = .ok (.invokestatic 49, 3) := dX1_copy_104_b.2.2.2.2.2
set_option maxRecDepth 20000 in
theorem dX1_copy_115_b : (decode cX1_copy 115 = .ok (.aload_n 1, 1)) ∧ (decode cX1_copy 116 = .ok (.getfield 27, 3)) ∧ (decode cX1_copy 119 = .ok (.iconst 0, 1)) ∧ (decode cX1_copy 120 = .ok (.aload_n 0, 1)) ∧ (decode cX1_copy 121 = .ok (.getfield 27, 3)) ∧ (decode cX1_copy 124 = .ok (.iconst 0, 1)) := by decide +kernel
theorem dX1_copy_115 : decode cX1_copy 115 = .ok (.aload_n 1, 1) := dX1_copy_115_b.1
theorem dX1_copy_116 : decode cX1_copy 116 = .ok (.getfield 27, 3) := dX1_copy_115_b.2.1
theorem dX1_copy_119 : decode cX1_copy 119 = .ok (.iconst 0, 1) := dX1_copy_115_b.2.2.1
theorem dX1_copy_120 : decode cX1_copy 120 = .ok (.aload_n 0, 1) := dX1_copy_115_b.2.2.2.1
theorem dX1_copy_121 : decode cX1_copy 121 = .ok (.getfield 27, 3) := dX1_copy_115_b.2.2.2.2.1
theorem dX1_copy_124 : decode cX1_copy 124 = .ok (.iconst 0, 1) := dX1_copy_115_b.2.2.2.2.2
set_option maxRecDepth 20000 in
theorem dX1_copy_125_b : (decode cX1_copy 125 = .ok (.bipush 6, 2)) ∧ (decode cX1_copy 127 = .ok (.invokestatic 49, 3)) ∧ (decode cX1_copy 130 = .ok (.aload_n 1, 1)) ∧ (decode cX1_copy 131 = .ok (.getfield 30, 3)) ∧ (decode cX1_copy 134 = .ok (.iconst 0, 1)) ∧ (decode cX1_copy 135 = .ok (.aload_n 0, 1)) := by decide +kernel
theorem dX1_copy_125 : decode cX1_copy 125 = .ok (.bipush 6, 2) := dX1_copy_125_b.1
theorem dX1_copy_127 : decode cX1_copy 127 = .ok (.invokestatic 49, 3) := dX1_copy_125_b.2.1
theorem dX1_copy_130 : decode cX1_copy 130 = .ok (.aload_n 1, 1) := dX1_copy_125_b.2.2.1
theorem dX1_copy_131 : decode cX1_copy 131 = .ok (.getfield 30, 3) := dX1_copy_125_b.2.2.2.1
theorem dX1_copy_134 : decode cX1_copy 134 = .ok (.iconst 0, 1) := dX1_copy_125_b.2.2.2.2.1
theorem dX1_copy_135 : decode cX1_copy 135 = .ok (.aload_n 0, 1) := dX1_copy_125_b.2.2.2.2.2
set_option maxRecDepth 20000 in
theorem dX1_copy_136_b : (decode cX1_copy 136 = .ok (.getfield 30, 3)) ∧ (decode cX1_copy 139 = .ok (.iconst 0, 1)) ∧ (decode cX1_copy 140 = .ok (.aload_n 0, 1)) ∧ (decode cX1_copy 141 = .ok (.getfield 30, 3)) ∧ (decode cX1_copy 144 = .ok (.arraylength, 1)) ∧ (decode cX1_copy 145 = .ok (.invokestatic 49, 3)) := by decide +kernel
theorem dX1_copy_136 : decode cX1_copy 136 = .ok (.getfield 30, 3) := dX1_copy_136_b.1
theorem dX1_copy_139 : decode cX1_copy 139 = .ok (.iconst 0, 1) := dX1_copy_136_b.2.1
theorem dX1_copy_140 : decode cX1_copy 140 = .ok (.aload_n 0, 1) := dX1_copy_136_b.2.2.1
theorem dX1_copy_141 : decode cX1_copy 141 = .ok (.getfield 30, 3) := dX1_copy_136_b.2.2.2.1
theorem dX1_copy_144 : decode cX1_copy 144 = .ok (.arraylength, 1) := dX1_copy_136_b.2.2.2.2.1
theorem dX1_copy_145 : decode cX1_copy 145 = .ok (.invokestatic 49, 3) := dX1_copy_136_b.2.2.2.2.2
theorem dX1_copy_148 : decode cX1_copy 148 = .ok (.return_, 1) := by decide +kernel
set_option maxRecDepth 20000 in
theorem dX2_read_0_b : (decode cX2_read 0 = .ok (.aload_n 0, 1)) ∧ (decode cX2_read 1 = .ok (.aload_n 3, 1)) ∧ (decode cX2_read 2 = .ok (.putfield 18, 3)) ∧ (decode cX2_read 5 = .ok (.aload_n 0, 1)) ∧ (decode cX2_read 6 = .ok (.getfield 18, 3)) ∧ (decode cX2_read 9 = .ok (.invokevirtual 32, 3)) := by decide +kernel
theorem dX2_read_0 : decode cX2_read 0 = .ok (.aload_n 0, 1) := dX2_read_0_b.1
theorem dX2_read_1 : decode cX2_read 1 = .ok (.aload_n 3, 1) := dX2_read_0_b.2.1
theorem dX2_read_2 : decode cX2_read 2 = .ok (.putfield 18, 3) := dX2_read_0_b.2.2.1
theorem dX2_read_5 : decode cX2_read 5 = .ok (.aload_n 0, 1) := dX2_read_0_b.2.2.2.1
theorem dX2_read_6 : decode cX2_read 6 = .ok (.getfield 18, 3) := dX2_read_0_b.2.2.2.2.1
theorem dX2_read_9 : decode cX2_read 9 = .ok (.invokevirtual 32, 3) := dX2_read_0_b.2.2.2.2.2
set_option maxRecDepth 20000 in
theorem dX2_read_12_b : (decode cX2_read 12 = .ok (.aload_n 0, 1)) ∧ (decode cX2_read 13 = .ok (.iconst 0, 1)) ∧ (decode cX2_read 14 = .ok (.putfield 22, 3)) ∧ (decode cX2_read 17 = .ok (.aload_n 0, 1)) ∧ (decode cX2_read 18 = .ok (.iconst 0, 1)) ∧ (decode cX2_read 19 = .ok (.putfield 26, 3)) := by decide +kernel
theorem dX2_read_12 : decode cX2_read 12 = .ok (.aload_n 0, 1) := dX2_read_12_b.1
theorem dX2_read_13 : decode cX2_read 13 = .ok (.iconst 0, 1) := dX2_read_12_b.2.1
theorem dX2_read_14 : decode cX2_read 14 = .ok (.putfield 22, 3) := dX2_read_12_b.2.2.1
theorem dX2_read_17 : decode cX2_read 17 = .ok (.aload_n 0, 1) := dX2_read_12_b.2.2.2.1
theorem dX2_read_18 : decode cX2_read 18 = .ok (.iconst 0, 1) := dX2_read_12_b.2.2.2.2.1
theorem dX2_read_19 : decode cX2_read 19 = .ok (.putfield 26, 3) := dX2_read_12_b.2.2.2.2.2
set_option maxRecDepth 20000 in
theorem dX2_read_22_b : (decode cX2_read 22 = .ok (.aload_n 0, 1)) ∧ (decode cX2_read 23 = .ok (.iconst (-1), 1)) ∧ (decode cX2_read 24 = .ok (.putfield 29, 3)) ∧ (decode cX2_read 27 = .ok (.aload_n 0, 1)) ∧ (decode cX2_read 28 = .ok (.getfield 12, 3)) ∧ (decode cX2_read 31 = .ok (.aload_n 1, 1)) := by decide +kernel
theorem dX2_read_22 : decode cX2_read 22 = .ok (.aload_n 0, 1) := dX2_read_22_b.1
theorem dX2_read_23 : decode cX2_read 23 = .ok (.iconst (-1), 1) := dX2_read_22_b.2.1
theorem dX2_read_24 : decode cX2_read 24 = .ok (.putfield 29, 3) := dX2_read_22_b.2.2.1
theorem dX2_read_27 : decode cX2_read 27 = .ok (.aload_n 0, 1) := dX2_read_22_b.2.2.2.1
theorem dX2_read_28 : decode cX2_read 28 = .ok (.getfield 12, 3) := dX2_read_22_b.2.2.2.2.1
theorem dX2_read_31 : decode cX2_read 31 = .ok (.aload_n 1, 1) := dX2_read_22_b.2.2.2.2.2
set_option maxRecDepth 20000 in
theorem dX2_read_32_b : (decode cX2_read 32 = .ok (.iload_n 2, 1)) ∧ (decode cX2_read 33 = .ok (.invokevirtual 37, 3)) ∧ (decode cX2_read 36 = .ok (.iconst 0, 1)) ∧ (decode cX2_read 37 = .ok (.istore 4, 2)) ∧ (decode cX2_read 39 = .ok (.iload 4, 2)) ∧ (decode cX2_read 41 = .ok (.sipush 600, 3)) := by decide +kernel
theorem dX2_read_32 : decode cX2_read 32 = .ok (.iload_n 2, 1) := dX2_read_32_b.1
theorem dX2_read_33 : decode cX2_read 33 = .ok (.invokevirtual 37, 3) := dX2_read_32_b.2.1
theorem dX2_read_36 : decode cX2_read 36 = .ok (.iconst 0, 1) := dX2_read_32_b.2.2.1
theorem dX2_read_37 : decode cX2_read 37 = .ok (.istore 4, 2) := dX2_read_32_b.2.2.2.1
theorem dX2_read_39 : decode cX2_read 39 = .ok (.iload 4, 2) := dX2_read_32_b.2.2.2.2.1
theorem dX2_read_41 : decode cX2_read 41 = .ok (.sipush 600, 3) := dX2_read_32_b.2.2.2.2.2
set_option maxRecDepth 20000 in
theorem dX2_read_44_b : (decode cX2_read 44 = .ok (.if_icmp .ge 33, 3)) ∧ (decode cX2_read 47 = .ok (.aload_n 0, 1)) ∧ (decode cX2_read 48 = .ok (.getfield 12, 3)) ∧ (decode cX2_read 51 = .ok (.getfield 41, 3)) ∧ (decode cX2_read 54 = .ok (.ifCond .eq 23, 3)) ∧ (decode cX2_read 57 = .ok (.aload_n 0, 1)) := by decide +kernel
theorem dX2_read_44 : decode cX2_read 44 = .ok (.if_icmp .ge 33, 3) := dX2_read_44_b.1
theorem dX2_read_47 : decode cX2_read 47 = .ok (.aload_n 0, 1) := dX2_read_44_b.2.1
theorem dX2_read_48 : decode cX2_read 48 = .ok (.getfield 12, 3) := dX2_read_44_b.2.2.1
theorem dX2_read_51 : decode cX2_read 51 = .ok (.getfield 41, 3) := dX2_read_44_b.2.2.2.1
theorem dX2_read_54 : decode cX2_read 54 = .ok (.ifCond .eq 23, 3) := dX2_read_44_b.2.2.2.2.1
theorem dX2_read_57 : decode cX2_read 57 = .ok (.aload_n 0, 1) := dX2_read_44_b.2.2.2.2.2
set_option maxRecDepth 20000 in
theorem dX2_read_58_b : (decode cX2_read 58 = .ok (.iload 4, 2)) ∧ (decode cX2_read 60 = .ok (.ifCond .ne 7, 3)) ∧ (decode cX2_read 63 = .ok (.iconst 1, 1)) ∧ (decode cX2_read 64 = .ok (.goto 4, 3)) ∧ (decode cX2_read 67 = .ok (.iconst 0, 1)) ∧ (decode cX2_read 68 = .ok (.invokevirtual 44, 3)) := by decide +kernel
theorem dX2_read_58 : decode cX2_read 58 = .ok (.iload 4, 2) := dX2_read_58_b.1
theorem dX2_read_60 : decode cX2_read 60 = .ok (.ifCond .ne 7, 3) := dX2_read_58_b.2.1
theorem dX2_read_63 : decode cX2_read 63 = .ok (.iconst 1, 1) := dX2_read_58_b.2.2.1
theorem dX2_read_64 : decode cX2_read 64 = .ok (.goto 4, 3) := dX2_read_58_b.2.2.2.1
theorem dX2_read_67 : decode cX2_read 67 = .ok (.iconst 0, 1) := dX2_read_58_b.2.2.2.2.1
theorem dX2_read_68 : decode cX2_read 68 = .ok (.invokevirtual 44, 3) := dX2_read_58_b.2.2.2.2.2
set_option maxRecDepth 20000 in
theorem dX2_read_71_b : (decode cX2_read 71 = .ok (.iinc 4 1, 3)) ∧ (decode cX2_read 74 = .ok (.goto (-35), 3)) ∧ (decode cX2_read 77 = .ok (.aload_n 0, 1)) ∧ (decode cX2_read 78 = .ok (.getfield 26, 3)) ∧ (decode cX2_read 81 = .ok (.ireturn, 1)) := by decide +kernel
theorem dX2_read_71 : decode cX2_read 71 = .ok (.iinc 4 1, 3) := dX2_read_71_b.1
theorem dX2_read_74 : decode cX2_read 74 = .ok (.goto (-35), 3) := dX2_read_71_b.2.1
theorem dX2_read_77 : decode cX2_read 77 = .ok (.aload_n 0, 1) := dX2_read_71_b.2.2.1
theorem dX2_read_78 : decode cX2_read 78 = .ok (.getfield 26, 3) := dX2_read_71_b.2.2.2.1
theorem dX2_read_81 : decode cX2_read 81 = .ok (.ireturn, 1) := dX2_read_71_b.2.2.2.2
set_option maxRecDepth 20000 in
theorem dX2_fail_0_b : (decode cX2_fail 0 = .ok (.aload_n 0, 1)) ∧ (decode cX2_fail 1 = .ok (.getfield 26, 3)) ∧ (decode cX2_fail 4 = .ok (.ifCond .ne 26, 3)) ∧ (decode cX2_fail 7 = .ok (.aload_n 0, 1)) ∧ (decode cX2_fail 8 = .ok (.iload_n 1, 1)) ∧ (decode cX2_fail 9 = .ok (.putfield 26, 3)) := by decide +kernel
theorem dX2_fail_0 : decode cX2_fail 0 = .ok (.aload_n 0, 1) := dX2_fail_0_b.1
theorem dX2_fail_1 : decode cX2_fail 1 = .ok (.getfield 26, 3) := dX2_fail_0_b.2.1
theorem dX2_fail_4 : decode cX2_fail 4 = .ok (.ifCond .ne 26, 3) := dX2_fail_0_b.2.2.1
theorem dX2_fail_7 : decode cX2_fail 7 = .ok (.aload_n 0, 1) := dX2_fail_0_b.2.2.2.1
theorem dX2_fail_8 : decode cX2_fail 8 = .ok (.iload_n 1, 1) := dX2_fail_0_b.2.2.2.2.1
theorem dX2_fail_9 : decode cX2_fail 9 = .ok (.putfield 26, 3) := dX2_fail_0_b.2.2.2.2.2
set_option maxRecDepth 20000 in
theorem dX2_fail_12_b : (decode cX2_fail 12 = .ok (.aload_n 0, 1)) ∧ (decode cX2_fail 13 = .ok (.aload_n 0, 1)) ∧ (decode cX2_fail 14 = .ok (.getfield 12, 3)) ∧ (decode cX2_fail 17 = .ok (.getfield 48, 3)) ∧ (decode cX2_fail 20 = .ok (.putfield 29, 3)) ∧ (decode cX2_fail 23 = .ok (.aload_n 0, 1)) := by decide +kernel
theorem dX2_fail_12 : decode cX2_fail 12 = .ok (.aload_n 0, 1) := dX2_fail_12_b.1
theorem dX2_fail_13 : decode cX2_fail 13 = .ok (.aload_n 0, 1) := dX2_fail_12_b.2.1
theorem dX2_fail_14 : decode cX2_fail 14 = .ok (.getfield 12, 3) := dX2_fail_12_b.2.2.1
theorem dX2_fail_17 : decode cX2_fail 17 = .ok (.getfield 48, 3) := dX2_fail_12_b.2.2.2.1
theorem dX2_fail_20 : decode cX2_fail 20 = .ok (.putfield 29, 3) := dX2_fail_12_b.2.2.2.2.1
theorem dX2_fail_23 : decode cX2_fail 23 = .ok (.aload_n 0, 1) := dX2_fail_12_b.2.2.2.2.2
set_option maxRecDepth 20000 in
theorem dX2_fail_24_b : (decode cX2_fail 24 = .ok (.getfield 12, 3)) ∧ (decode cX2_fail 27 = .ok (.invokevirtual 51, 3)) ∧ (decode cX2_fail 30 = .ok (.return_, 1)) := by decide +kernel
theorem dX2_fail_24 : decode cX2_fail 24 = .ok (.getfield 12, 3) := dX2_fail_24_b.1
theorem dX2_fail_27 : decode cX2_fail 27 = .ok (.invokevirtual 51, 3) := dX2_fail_24_b.2.1
theorem dX2_fail_30 : decode cX2_fail 30 = .ok (.return_, 1) := dX2_fail_24_b.2.2
set_option maxRecDepth 20000 in
theorem dX2_clause_0_b : (decode cX2_clause 0 = .ok (.getstatic 54, 3)) ∧ (decode cX2_clause 3 = .ok (.aload_n 0, 1)) ∧ (decode cX2_clause 4 = .ok (.getfield 12, 3)) ∧ (decode cX2_clause 7 = .ok (.getfield 60, 3)) ∧ (decode cX2_clause 10 = .ok (.invokevirtual 64, 3)) ∧ (decode cX2_clause 13 = .ok (.iaload, 1)) := by decide +kernel
theorem dX2_clause_0 : decode cX2_clause 0 = .ok (.getstatic 54, 3) := dX2_clause_0_b.1
theorem dX2_clause_3 : decode cX2_clause 3 = .ok (.aload_n 0, 1) := dX2_clause_0_b.2.1
theorem dX2_clause_4 : decode cX2_clause 4 = .ok (.getfield 12, 3) := dX2_clause_0_b.2.2.1
theorem dX2_clause_7 : decode cX2_clause 7 = .ok (.getfield 60, 3) := dX2_clause_0_b.2.2.2.1
theorem dX2_clause_10 : decode cX2_clause 10 = .ok (.invokevirtual 64, 3) := dX2_clause_0_b.2.2.2.2.1
theorem dX2_clause_13 : decode cX2_clause 13 = .ok (.iaload, 1) := dX2_clause_0_b.2.2.2.2.2
set_option maxRecDepth 20000 in
theorem dX2_clause_14_b : (decode cX2_clause 14 = .ok (.tableswitch 228 1 12 #[62, 70, 93, 112, 130, 149, 169, 189, 197, 205, 213, 221], 62)) ∧ (decode cX2_clause 76 = .ok (.aload_n 0, 1)) ∧ (decode cX2_clause 77 = .ok (.iload_n 1, 1)) ∧ (decode cX2_clause 78 = .ok (.invokevirtual 70, 3)) ∧ (decode cX2_clause 81 = .ok (.goto 166, 3)) ∧ (decode cX2_clause 84 = .ok (.aload_n 0, 1)) := by decide +kernel
theorem dX2_clause_14 : decode cX2_clause 14 = .ok (.tableswitch 228 1 12 #[62, 70, 93, 112, 130, 149, 169, 189, 197, 205, 213, 221], 62) := dX2_clause_14_b.1
theorem dX2_clause_76 : decode cX2_clause 76 = .ok (.aload_n 0, 1) := dX2_clause_14_b.2.1
theorem dX2_clause_77 : decode cX2_clause 77 = .ok (.iload_n 1, 1) := dX2_clause_14_b.2.2.1
theorem dX2_clause_78 : decode cX2_clause 78 = .ok (.invokevirtual 70, 3) := dX2_clause_14_b.2.2.2.1
theorem dX2_clause_81 : decode cX2_clause 81 = .ok (.goto 166, 3) := dX2_clause_14_b.2.2.2.2.1
theorem dX2_clause_84 : decode cX2_clause 84 = .ok (.aload_n 0, 1) := dX2_clause_14_b.2.2.2.2.2
set_option maxRecDepth 20000 in
theorem dX2_clause_85_b : (decode cX2_clause 85 = .ok (.getfield 18, 3)) ∧ (decode cX2_clause 88 = .ok (.aload_n 0, 1)) ∧ (decode cX2_clause 89 = .ok (.iconst 1, 1)) ∧ (decode cX2_clause 90 = .ok (.iconst 0, 1)) ∧ (decode cX2_clause 91 = .ok (.aload_n 0, 1)) ∧ (decode cX2_clause 92 = .ok (.getfield 18, 3)) := by decide +kernel
theorem dX2_clause_85 : decode cX2_clause 85 = .ok (.getfield 18, 3) := dX2_clause_85_b.1
theorem dX2_clause_88 : decode cX2_clause 88 = .ok (.aload_n 0, 1) := dX2_clause_85_b.2.1
theorem dX2_clause_89 : decode cX2_clause 89 = .ok (.iconst 1, 1) := dX2_clause_85_b.2.2.1
theorem dX2_clause_90 : decode cX2_clause 90 = .ok (.iconst 0, 1) := dX2_clause_85_b.2.2.2.1
theorem dX2_clause_91 : decode cX2_clause 91 = .ok (.aload_n 0, 1) := dX2_clause_85_b.2.2.2.2.1
theorem dX2_clause_92 : decode cX2_clause 92 = .ok (.getfield 18, 3) := dX2_clause_85_b.2.2.2.2.2
set_option maxRecDepth 20000 in
theorem dX2_clause_95_b : (decode cX2_clause 95 = .ok (.getfield 73, 3)) ∧ (decode cX2_clause 98 = .ok (.invokevirtual 76, 3)) ∧ (decode cX2_clause 101 = .ok (.putfield 80, 3)) ∧ (decode cX2_clause 104 = .ok (.goto 143, 3)) ∧ (decode cX2_clause 107 = .ok (.aload_n 0, 1)) ∧ (decode cX2_clause 108 = .ok (.getfield 18, 3)) := by decide +kernel
theorem dX2_clause_95 : decode cX2_clause 95 = .ok (.getfield 73, 3) := dX2_clause_95_b.1
theorem dX2_clause_98 : decode cX2_clause 98 = .ok (.invokevirtual 76, 3) := dX2_clause_95_b.2.1
theorem dX2_clause_101 : decode cX2_clause 101 = .ok (.putfield 80, 3) := dX2_clause_95_b.2.2.1
theorem dX2_clause_104 : decode cX2_clause 104 = .ok (.goto 143, 3) := dX2_clause_95_b.2.2.2.1
theorem dX2_clause_107 : decode cX2_clause 107 = .ok (.aload_n 0, 1) := dX2_clause_95_b.2.2.2.2.1
theorem dX2_clause_108 : decode cX2_clause 108 = .ok (.getfield 18, 3) := dX2_clause_95_b.2.2.2.2.2
set_option maxRecDepth 20000 in
theorem dX2_clause_111_b : (decode cX2_clause 111 = .ok (.aload_n 0, 1)) ∧ (decode cX2_clause 112 = .ok (.iconst 2, 1)) ∧ (decode cX2_clause 113 = .ok (.iconst 1, 1)) ∧ (decode cX2_clause 114 = .ok (.sipush 999, 3)) ∧ (decode cX2_clause 117 = .ok (.invokevirtual 76, 3)) ∧ (decode cX2_clause 120 = .ok (.putfield 81, 3)) := by decide +kernel
theorem dX2_clause_111 : decode cX2_clause 111 = .ok (.aload_n 0, 1) := dX2_clause_111_b.1
theorem dX2_clause_112 : decode cX2_clause 112 = .ok (.iconst 2, 1) := dX2_clause_111_b.2.1
theorem dX2_clause_113 : decode cX2_clause 113 = .ok (.iconst 1, 1) := dX2_clause_111_b.2.2.1
theorem dX2_clause_114 : decode cX2_clause 114 = .ok (.sipush 999, 3) := dX2_clause_111_b.2.2.2.1
theorem dX2_clause_117 : decode cX2_clause 117 = .ok (.invokevirtual 76, 3) := dX2_clause_111_b.2.2.2.2.1
theorem dX2_clause_120 : decode cX2_clause 120 = .ok (.putfield 81, 3) := dX2_clause_111_b.2.2.2.2.2
set_option maxRecDepth 20000 in
theorem dX2_clause_123_b : (decode cX2_clause 123 = .ok (.goto 124, 3)) ∧ (decode cX2_clause 126 = .ok (.aload_n 0, 1)) ∧ (decode cX2_clause 127 = .ok (.getfield 18, 3)) ∧ (decode cX2_clause 130 = .ok (.aload_n 0, 1)) ∧ (decode cX2_clause 131 = .ok (.iconst 4, 1)) ∧ (decode cX2_clause 132 = .ok (.iconst 0, 1)) := by decide +kernel
theorem dX2_clause_123 : decode cX2_clause 123 = .ok (.goto 124, 3) := dX2_clause_123_b.1
theorem dX2_clause_126 : decode cX2_clause 126 = .ok (.aload_n 0, 1) := dX2_clause_123_b.2.1
theorem dX2_clause_127 : decode cX2_clause 127 = .ok (.getfield 18, 3) := dX2_clause_123_b.2.2.1
theorem dX2_clause_130 : decode cX2_clause 130 = .ok (.aload_n 0, 1) := dX2_clause_123_b.2.2.2.1
theorem dX2_clause_131 : decode cX2_clause 131 = .ok (.iconst 4, 1) := dX2_clause_123_b.2.2.2.2.1
theorem dX2_clause_132 : decode cX2_clause 132 = .ok (.iconst 0, 1) := dX2_clause_123_b.2.2.2.2.2
set_option maxRecDepth 20000 in
theorem dX2_clause_133_b : (decode cX2_clause 133 = .ok (.bipush 9, 2)) ∧ (decode cX2_clause 135 = .ok (.invokevirtual 76, 3)) ∧ (decode cX2_clause 138 = .ok (.putfield 84, 3)) ∧ (decode cX2_clause 141 = .ok (.goto 106, 3)) ∧ (decode cX2_clause 144 = .ok (.aload_n 0, 1)) ∧ (decode cX2_clause 145 = .ok (.getfield 18, 3)) := by decide +kernel
theorem dX2_clause_133 : decode cX2_clause 133 = .ok (.bipush 9, 2) := dX2_clause_133_b.1
theorem dX2_clause_135 : decode cX2_clause 135 = .ok (.invokevirtual 76, 3) := dX2_clause_133_b.2.1
theorem dX2_clause_138 : decode cX2_clause 138 = .ok (.putfield 84, 3) := dX2_clause_133_b.2.2.1
theorem dX2_clause_141 : decode cX2_clause 141 = .ok (.goto 106, 3) := dX2_clause_133_b.2.2.2.1
theorem dX2_clause_144 : decode cX2_clause 144 = .ok (.aload_n 0, 1) := dX2_clause_133_b.2.2.2.2.1
theorem dX2_clause_145 : decode cX2_clause 145 = .ok (.getfield 18, 3) := dX2_clause_133_b.2.2.2.2.2
set_option maxRecDepth 20000 in
theorem dX2_clause_148_b : (decode cX2_clause 148 = .ok (.aload_n 0, 1)) ∧ (decode cX2_clause 149 = .ok (.bipush 8, 2)) ∧ (decode cX2_clause 151 = .ok (.iconst 0, 1)) ∧ (decode cX2_clause 152 = .ok (.bipush 99, 2)) ∧ (decode cX2_clause 154 = .ok (.invokevirtual 76, 3)) ∧ (decode cX2_clause 157 = .ok (.putfield 87, 3)) := by decide +kernel
theorem dX2_clause_148 : decode cX2_clause 148 = .ok (.aload_n 0, 1) := dX2_clause_148_b.1
theorem dX2_clause_149 : decode cX2_clause 149 = .ok (.bipush 8, 2) := dX2_clause_148_b.2.1
theorem dX2_clause_151 : decode cX2_clause 151 = .ok (.iconst 0, 1) := dX2_clause_148_b.2.2.1
theorem dX2_clause_152 : decode cX2_clause 152 = .ok (.bipush 99, 2) := dX2_clause_148_b.2.2.2.1
theorem dX2_clause_154 : decode cX2_clause 154 = .ok (.invokevirtual 76, 3) := dX2_clause_148_b.2.2.2.2.1
theorem dX2_clause_157 : decode cX2_clause 157 = .ok (.putfield 87, 3) := dX2_clause_148_b.2.2.2.2.2
set_option maxRecDepth 20000 in
theorem dX2_clause_160_b : (decode cX2_clause 160 = .ok (.goto 87, 3)) ∧ (decode cX2_clause 163 = .ok (.aload_n 0, 1)) ∧ (decode cX2_clause 164 = .ok (.getfield 18, 3)) ∧ (decode cX2_clause 167 = .ok (.aload_n 0, 1)) ∧ (decode cX2_clause 168 = .ok (.bipush 16, 2)) ∧ (decode cX2_clause 170 = .ok (.iconst 0, 1)) := by decide +kernel
theorem dX2_clause_160 : decode cX2_clause 160 = .ok (.goto 87, 3) := dX2_clause_160_b.1
theorem dX2_clause_163 : decode cX2_clause 163 = .ok (.aload_n 0, 1) := dX2_clause_160_b.2.1
theorem dX2_clause_164 : decode cX2_clause 164 = .ok (.getfield 18, 3) := dX2_clause_160_b.2.2.1
theorem dX2_clause_167 : decode cX2_clause 167 = .ok (.aload_n 0, 1) := dX2_clause_160_b.2.2.2.1
theorem dX2_clause_168 : decode cX2_clause 168 = .ok (.bipush 16, 2) := dX2_clause_160_b.2.2.2.2.1
theorem dX2_clause_170 : decode cX2_clause 170 = .ok (.iconst 0, 1) := dX2_clause_160_b.2.2.2.2.2
set_option maxRecDepth 20000 in
theorem dX2_clause_171_b : (decode cX2_clause 171 = .ok (.sipush 999, 3)) ∧ (decode cX2_clause 174 = .ok (.invokevirtual 76, 3)) ∧ (decode cX2_clause 177 = .ok (.putfield 90, 3)) ∧ (decode cX2_clause 180 = .ok (.goto 67, 3)) ∧ (decode cX2_clause 183 = .ok (.aload_n 0, 1)) ∧ (decode cX2_clause 184 = .ok (.getfield 18, 3)) := by decide +kernel
theorem dX2_clause_171 : decode cX2_clause 171 = .ok (.sipush 999, 3) := dX2_clause_171_b.1
theorem dX2_clause_174 : decode cX2_clause 174 = .ok (.invokevirtual 76, 3) := dX2_clause_171_b.2.1
theorem dX2_clause_177 : decode cX2_clause 177 = .ok (.putfield 90, 3) := dX2_clause_171_b.2.2.1
theorem dX2_clause_180 : decode cX2_clause 180 = .ok (.goto 67, 3) := dX2_clause_171_b.2.2.2.1
theorem dX2_clause_183 : decode cX2_clause 183 = .ok (.aload_n 0, 1) := dX2_clause_171_b.2.2.2.2.1
theorem dX2_clause_184 : decode cX2_clause 184 = .ok (.getfield 18, 3) := dX2_clause_171_b.2.2.2.2.2
set_option maxRecDepth 20000 in
theorem dX2_clause_187_b : (decode cX2_clause 187 = .ok (.aload_n 0, 1)) ∧ (decode cX2_clause 188 = .ok (.bipush 32, 2)) ∧ (decode cX2_clause 190 = .ok (.iconst 0, 1)) ∧ (decode cX2_clause 191 = .ok (.sipush 999, 3)) ∧ (decode cX2_clause 194 = .ok (.invokevirtual 76, 3)) ∧ (decode cX2_clause 197 = .ok (.putfield 93, 3)) := by decide +kernel
theorem dX2_clause_187 : decode cX2_clause 187 = .ok (.aload_n 0, 1) := dX2_clause_187_b.1
theorem dX2_clause_188 : decode cX2_clause 188 = .ok (.bipush 32, 2) := dX2_clause_187_b.2.1
theorem dX2_clause_190 : decode cX2_clause 190 = .ok (.iconst 0, 1) := dX2_clause_187_b.2.2.1
theorem dX2_clause_191 : decode cX2_clause 191 = .ok (.sipush 999, 3) := dX2_clause_187_b.2.2.2.1
theorem dX2_clause_194 : decode cX2_clause 194 = .ok (.invokevirtual 76, 3) := dX2_clause_187_b.2.2.2.2.1
theorem dX2_clause_197 : decode cX2_clause 197 = .ok (.putfield 93, 3) := dX2_clause_187_b.2.2.2.2.2
set_option maxRecDepth 20000 in
theorem dX2_clause_200_b : (decode cX2_clause 200 = .ok (.goto 47, 3)) ∧ (decode cX2_clause 203 = .ok (.aload_n 0, 1)) ∧ (decode cX2_clause 204 = .ok (.iconst 0, 1)) ∧ (decode cX2_clause 205 = .ok (.invokevirtual 96, 3)) ∧ (decode cX2_clause 208 = .ok (.goto 39, 3)) ∧ (decode cX2_clause 211 = .ok (.aload_n 0, 1)) := by decide +kernel
theorem dX2_clause_200 : decode cX2_clause 200 = .ok (.goto 47, 3) := dX2_clause_200_b.1
theorem dX2_clause_203 : decode cX2_clause 203 = .ok (.aload_n 0, 1) := dX2_clause_200_b.2.1
theorem dX2_clause_204 : decode cX2_clause 204 = .ok (.iconst 0, 1) := dX2_clause_200_b.2.2.1
theorem dX2_clause_205 : decode cX2_clause 205 = .ok (.invokevirtual 96, 3) := dX2_clause_200_b.2.2.2.1
theorem dX2_clause_208 : decode cX2_clause 208 = .ok (.goto 39, 3) := dX2_clause_200_b.2.2.2.2.1
theorem dX2_clause_211 : decode cX2_clause 211 = .ok (.aload_n 0, 1) := dX2_clause_200_b.2.2.2.2.2
set_option maxRecDepth 20000 in
theorem dX2_clause_212_b : (decode cX2_clause 212 = .ok (.iconst 1, 1)) ∧ (decode cX2_clause 213 = .ok (.invokevirtual 96, 3)) ∧ (decode cX2_clause 216 = .ok (.goto 31, 3)) ∧ (decode cX2_clause 219 = .ok (.aload_n 0, 1)) ∧ (decode cX2_clause 220 = .ok (.iconst 2, 1)) ∧ (decode cX2_clause 221 = .ok (.invokevirtual 96, 3)) := by decide +kernel
theorem dX2_clause_212 : decode cX2_clause 212 = .ok (.iconst 1, 1) := dX2_clause_212_b.1
theorem dX2_clause_213 : decode cX2_clause 213 = .ok (.invokevirtual 96, 3) := dX2_clause_212_b.2.1
theorem dX2_clause_216 : decode cX2_clause 216 = .ok (.goto 31, 3) := dX2_clause_212_b.2.2.1
theorem dX2_clause_219 : decode cX2_clause 219 = .ok (.aload_n 0, 1) := dX2_clause_212_b.2.2.2.1
theorem dX2_clause_220 : decode cX2_clause 220 = .ok (.iconst 2, 1) := dX2_clause_212_b.2.2.2.2.1
theorem dX2_clause_221 : decode cX2_clause 221 = .ok (.invokevirtual 96, 3) := dX2_clause_212_b.2.2.2.2.2
set_option maxRecDepth 20000 in
theorem dX2_clause_224_b : (decode cX2_clause 224 = .ok (.goto 23, 3)) ∧ (decode cX2_clause 227 = .ok (.aload_n 0, 1)) ∧ (decode cX2_clause 228 = .ok (.iconst 3, 1)) ∧ (decode cX2_clause 229 = .ok (.invokevirtual 96, 3)) ∧ (decode cX2_clause 232 = .ok (.goto 15, 3)) ∧ (decode cX2_clause 235 = .ok (.aload_n 0, 1)) := by decide +kernel
theorem dX2_clause_224 : decode cX2_clause 224 = .ok (.goto 23, 3) := dX2_clause_224_b.1
theorem dX2_clause_227 : decode cX2_clause 227 = .ok (.aload_n 0, 1) := dX2_clause_224_b.2.1
theorem dX2_clause_228 : decode cX2_clause 228 = .ok (.iconst 3, 1) := dX2_clause_224_b.2.2.1
theorem dX2_clause_229 : decode cX2_clause 229 = .ok (.invokevirtual 96, 3) := dX2_clause_224_b.2.2.2.1
theorem dX2_clause_232 : decode cX2_clause 232 = .ok (.goto 15, 3) := dX2_clause_224_b.2.2.2.2.1
theorem dX2_clause_235 : decode cX2_clause 235 = .ok (.aload_n 0, 1) := dX2_clause_224_b.2.2.2.2.2
set_option maxRecDepth 20000 in
theorem dX2_clause_236_b : (decode cX2_clause 236 = .ok (.invokevirtual 100, 3)) ∧ (decode cX2_clause 239 = .ok (.goto 8, 3)) ∧ (decode cX2_clause 242 = .ok (.aload_n 0, 1)) ∧ (decode cX2_clause 243 = .ok (.iconst 1, 1)) ∧ (decode cX2_clause 244 = .ok (.invokevirtual 103, 3)) ∧ (decode cX2_clause 247 = .ok (.aload_n 0, 1)) := by decide +kernel
theorem dX2_clause_236 : decode cX2_clause 236 = .ok (.invokevirtual 100, 3) := dX2_clause_236_b.1
theorem dX2_clause_239 : decode cX2_clause 239 = .ok (.goto 8, 3) := dX2_clause_236_b.2.1
theorem dX2_clause_242 : decode cX2_clause 242 = .ok (.aload_n 0, 1) := dX2_clause_236_b.2.2.1
theorem dX2_clause_243 : decode cX2_clause 243 = .ok (.iconst 1, 1) := dX2_clause_236_b.2.2.2.1
theorem dX2_clause_244 : decode cX2_clause 244 = .ok (.invokevirtual 103, 3) := dX2_clause_236_b.2.2.2.2.1
theorem dX2_clause_247 : decode cX2_clause 247 = .ok (.aload_n 0, 1) := dX2_clause_236_b.2.2.2.2.2
set_option maxRecDepth 20000 in
theorem dX2_clause_248_b : (decode cX2_clause 248 = .ok (.bipush 59, 2)) ∧ (decode cX2_clause 250 = .ok (.invokevirtual 106, 3)) ∧ (decode cX2_clause 253 = .ok (.return_, 1)) := by decide +kernel
theorem dX2_clause_248 : decode cX2_clause 248 = .ok (.bipush 59, 2) := dX2_clause_248_b.1
theorem dX2_clause_250 : decode cX2_clause 250 = .ok (.invokevirtual 106, 3) := dX2_clause_248_b.2.1
theorem dX2_clause_253 : decode cX2_clause 253 = .ok (.return_, 1) := dX2_clause_248_b.2.2
set_option maxRecDepth 20000 in
theorem dX2_readBottom_0_b : (decode cX2_readBottom 0 = .ok (.iload_n 1, 1)) ∧ (decode cX2_readBottom 1 = .ok (.ifCond .ne 8, 3)) ∧ (decode cX2_readBottom 4 = .ok (.aload_n 0, 1)) ∧ (decode cX2_readBottom 5 = .ok (.iconst 4, 1)) ∧ (decode cX2_readBottom 6 = .ok (.invokevirtual 103, 3)) ∧ (decode cX2_readBottom 9 = .ok (.aload_n 0, 1)) := by decide +kernel
theorem dX2_readBottom_0 : decode cX2_readBottom 0 = .ok (.iload_n 1, 1) := dX2_readBottom_0_b.1
theorem dX2_readBottom_1 : decode cX2_readBottom 1 = .ok (.ifCond .ne 8, 3) := dX2_readBottom_0_b.2.1
theorem dX2_readBottom_4 : decode cX2_readBottom 4 = .ok (.aload_n 0, 1) := dX2_readBottom_0_b.2.2.1
theorem dX2_readBottom_5 : decode cX2_readBottom 5 = .ok (.iconst 4, 1) := dX2_readBottom_0_b.2.2.2.1
theorem dX2_readBottom_6 : decode cX2_readBottom 6 = .ok (.invokevirtual 103, 3) := dX2_readBottom_0_b.2.2.2.2.1
theorem dX2_readBottom_9 : decode cX2_readBottom 9 = .ok (.aload_n 0, 1) := dX2_readBottom_0_b.2.2.2.2.2
set_option maxRecDepth 20000 in
theorem dX2_readBottom_10_b : (decode cX2_readBottom 10 = .ok (.getfield 12, 3)) ∧ (decode cX2_readBottom 13 = .ok (.invokevirtual 109, 3)) ∧ (decode cX2_readBottom 16 = .ok (.aload_n 0, 1)) ∧ (decode cX2_readBottom 17 = .ok (.getfield 18, 3)) ∧ (decode cX2_readBottom 20 = .ok (.aload_n 0, 1)) ∧ (decode cX2_readBottom 21 = .ok (.iconst 1, 1)) := by decide +kernel
theorem dX2_readBottom_10 : decode cX2_readBottom 10 = .ok (.getfield 12, 3) := dX2_readBottom_10_b.1
theorem dX2_readBottom_13 : decode cX2_readBottom 13 = .ok (.invokevirtual 109, 3) := dX2_readBottom_10_b.2.1
theorem dX2_readBottom_16 : decode cX2_readBottom 16 = .ok (.aload_n 0, 1) := dX2_readBottom_10_b.2.2.1
theorem dX2_readBottom_17 : decode cX2_readBottom 17 = .ok (.getfield 18, 3) := dX2_readBottom_10_b.2.2.2.1
theorem dX2_readBottom_20 : decode cX2_readBottom 20 = .ok (.aload_n 0, 1) := dX2_readBottom_10_b.2.2.2.2.1
theorem dX2_readBottom_21 : decode cX2_readBottom 21 = .ok (.iconst 1, 1) := dX2_readBottom_10_b.2.2.2.2.2
set_option maxRecDepth 20000 in
theorem dX2_readBottom_22_b : (decode cX2_readBottom 22 = .ok (.bipush 11, 2)) ∧ (decode cX2_readBottom 24 = .ok (.invokevirtual 112, 3)) ∧ (decode cX2_readBottom 27 = .ok (.putfield 73, 3)) ∧ (decode cX2_readBottom 30 = .ok (.return_, 1)) := by decide +kernel
theorem dX2_readBottom_22 : decode cX2_readBottom 22 = .ok (.bipush 11, 2) := dX2_readBottom_22_b.1
theorem dX2_readBottom_24 : decode cX2_readBottom 24 = .ok (.invokevirtual 112, 3) := dX2_readBottom_22_b.2.1
theorem dX2_readBottom_27 : decode cX2_readBottom 27 = .ok (.putfield 73, 3) := dX2_readBottom_22_b.2.2.1
theorem dX2_readBottom_30 : decode cX2_readBottom 30 = .ok (.return_, 1) := dX2_readBottom_22_b.2.2.2
set_option maxRecDepth 20000 in
theorem dX2_setting_0_b : (decode cX2_setting 0 = .ok (.aload_n 0, 1)) ∧ (decode cX2_setting 1 = .ok (.getfield 22, 3)) ∧ (decode cX2_setting 4 = .ok (.iload_n 1, 1)) ∧ (decode cX2_setting 5 = .ok (.iand, 1)) ∧ (decode cX2_setting 6 = .ok (.ifCond .eq 8, 3)) ∧ (decode cX2_setting 9 = .ok (.aload_n 0, 1)) := by decide +kernel
theorem dX2_setting_0 : decode cX2_setting 0 = .ok (.aload_n 0, 1) := dX2_setting_0_b.1
theorem dX2_setting_1 : decode cX2_setting 1 = .ok (.getfield 22, 3) := dX2_setting_0_b.2.1
theorem dX2_setting_4 : decode cX2_setting 4 = .ok (.iload_n 1, 1) := dX2_setting_0_b.2.2.1
theorem dX2_setting_5 : decode cX2_setting 5 = .ok (.iand, 1) := dX2_setting_0_b.2.2.2.1
theorem dX2_setting_6 : decode cX2_setting 6 = .ok (.ifCond .eq 8, 3) := dX2_setting_0_b.2.2.2.2.1
theorem dX2_setting_9 : decode cX2_setting 9 = .ok (.aload_n 0, 1) := dX2_setting_0_b.2.2.2.2.2
set_option maxRecDepth 20000 in
theorem dX2_setting_10_b : (decode cX2_setting 10 = .ok (.iconst 5, 1)) ∧ (decode cX2_setting 11 = .ok (.invokevirtual 103, 3)) ∧ (decode cX2_setting 14 = .ok (.aload_n 0, 1)) ∧ (decode cX2_setting 15 = .ok (.dup, 1)) ∧ (decode cX2_setting 16 = .ok (.getfield 22, 3)) ∧ (decode cX2_setting 19 = .ok (.iload_n 1, 1)) := by decide +kernel
theorem dX2_setting_10 : decode cX2_setting 10 = .ok (.iconst 5, 1) := dX2_setting_10_b.1
theorem dX2_setting_11 : decode cX2_setting 11 = .ok (.invokevirtual 103, 3) := dX2_setting_10_b.2.1
theorem dX2_setting_14 : decode cX2_setting 14 = .ok (.aload_n 0, 1) := dX2_setting_10_b.2.2.1
theorem dX2_setting_15 : decode cX2_setting 15 = .ok (.dup, 1) := dX2_setting_10_b.2.2.2.1
theorem dX2_setting_16 : decode cX2_setting 16 = .ok (.getfield 22, 3) := dX2_setting_10_b.2.2.2.2.1
theorem dX2_setting_19 : decode cX2_setting 19 = .ok (.iload_n 1, 1) := dX2_setting_10_b.2.2.2.2.2
set_option maxRecDepth 20000 in
theorem dX2_setting_20_b : (decode cX2_setting 20 = .ok (.ior, 1)) ∧ (decode cX2_setting 21 = .ok (.putfield 22, 3)) ∧ (decode cX2_setting 24 = .ok (.aload_n 0, 1)) ∧ (decode cX2_setting 25 = .ok (.getfield 12, 3)) ∧ (decode cX2_setting 28 = .ok (.invokevirtual 109, 3)) ∧ (decode cX2_setting 31 = .ok (.aload_n 0, 1)) := by decide +kernel
theorem dX2_setting_20 : decode cX2_setting 20 = .ok (.ior, 1) := dX2_setting_20_b.1
theorem dX2_setting_21 : decode cX2_setting 21 = .ok (.putfield 22, 3) := dX2_setting_20_b.2.1
theorem dX2_setting_24 : decode cX2_setting 24 = .ok (.aload_n 0, 1) := dX2_setting_20_b.2.2.1
theorem dX2_setting_25 : decode cX2_setting 25 = .ok (.getfield 12, 3) := dX2_setting_20_b.2.2.2.1
theorem dX2_setting_28 : decode cX2_setting 28 = .ok (.invokevirtual 109, 3) := dX2_setting_20_b.2.2.2.2.1
theorem dX2_setting_31 : decode cX2_setting 31 = .ok (.aload_n 0, 1) := dX2_setting_20_b.2.2.2.2.2
set_option maxRecDepth 20000 in
theorem dX2_setting_32_b : (decode cX2_setting 32 = .ok (.iload_n 2, 1)) ∧ (decode cX2_setting 33 = .ok (.iload_n 3, 1)) ∧ (decode cX2_setting 34 = .ok (.invokevirtual 112, 3)) ∧ (decode cX2_setting 37 = .ok (.ireturn, 1)) := by decide +kernel
theorem dX2_setting_32 : decode cX2_setting 32 = .ok (.iload_n 2, 1) := dX2_setting_32_b.1
theorem dX2_setting_33 : decode cX2_setting 33 = .ok (.iload_n 3, 1) := dX2_setting_32_b.2.1
theorem dX2_setting_34 : decode cX2_setting 34 = .ok (.invokevirtual 112, 3) := dX2_setting_32_b.2.2.1
theorem dX2_setting_37 : decode cX2_setting 37 = .ok (.ireturn, 1) := dX2_setting_32_b.2.2.2
set_option maxRecDepth 20000 in
theorem dX2_readThing_0_b : (decode cX2_readThing 0 = .ok (.aload_n 0, 1)) ∧ (decode cX2_readThing 1 = .ok (.getfield 18, 3)) ∧ (decode cX2_readThing 4 = .ok (.getfield 116, 3)) ∧ (decode cX2_readThing 7 = .ok (.istore_n 2, 1)) ∧ (decode cX2_readThing 8 = .ok (.iload_n 2, 1)) ∧ (decode cX2_readThing 9 = .ok (.bipush 7, 2)) := by decide +kernel
theorem dX2_readThing_0 : decode cX2_readThing 0 = .ok (.aload_n 0, 1) := dX2_readThing_0_b.1
theorem dX2_readThing_1 : decode cX2_readThing 1 = .ok (.getfield 18, 3) := dX2_readThing_0_b.2.1
theorem dX2_readThing_4 : decode cX2_readThing 4 = .ok (.getfield 116, 3) := dX2_readThing_0_b.2.2.1
theorem dX2_readThing_7 : decode cX2_readThing 7 = .ok (.istore_n 2, 1) := dX2_readThing_0_b.2.2.2.1
theorem dX2_readThing_8 : decode cX2_readThing 8 = .ok (.iload_n 2, 1) := dX2_readThing_0_b.2.2.2.2.1
theorem dX2_readThing_9 : decode cX2_readThing 9 = .ok (.bipush 7, 2) := dX2_readThing_0_b.2.2.2.2.2
set_option maxRecDepth 20000 in
theorem dX2_readThing_11_b : (decode cX2_readThing 11 = .ok (.if_icmp .lt 9, 3)) ∧ (decode cX2_readThing 14 = .ok (.aload_n 0, 1)) ∧ (decode cX2_readThing 15 = .ok (.iconst 2, 1)) ∧ (decode cX2_readThing 16 = .ok (.invokevirtual 103, 3)) ∧ (decode cX2_readThing 19 = .ok (.return_, 1)) ∧ (decode cX2_readThing 20 = .ok (.aload_n 0, 1)) := by decide +kernel
theorem dX2_readThing_11 : decode cX2_readThing 11 = .ok (.if_icmp .lt 9, 3) := dX2_readThing_11_b.1
theorem dX2_readThing_14 : decode cX2_readThing 14 = .ok (.aload_n 0, 1) := dX2_readThing_11_b.2.1
theorem dX2_readThing_15 : decode cX2_readThing 15 = .ok (.iconst 2, 1) := dX2_readThing_11_b.2.2.1
theorem dX2_readThing_16 : decode cX2_readThing 16 = .ok (.invokevirtual 103, 3) := dX2_readThing_11_b.2.2.2.1
theorem dX2_readThing_19 : decode cX2_readThing 19 = .ok (.return_, 1) := dX2_readThing_11_b.2.2.2.2.1
theorem dX2_readThing_20 : decode cX2_readThing 20 = .ok (.aload_n 0, 1) := dX2_readThing_11_b.2.2.2.2.2
set_option maxRecDepth 20000 in
theorem dX2_readThing_21_b : (decode cX2_readThing 21 = .ok (.getfield 18, 3)) ∧ (decode cX2_readThing 24 = .ok (.dup, 1)) ∧ (decode cX2_readThing 25 = .ok (.getfield 116, 3)) ∧ (decode cX2_readThing 28 = .ok (.iconst 1, 1)) ∧ (decode cX2_readThing 29 = .ok (.iadd, 1)) ∧ (decode cX2_readThing 30 = .ok (.putfield 116, 3)) := by decide +kernel
theorem dX2_readThing_21 : decode cX2_readThing 21 = .ok (.getfield 18, 3) := dX2_readThing_21_b.1
theorem dX2_readThing_24 : decode cX2_readThing 24 = .ok (.dup, 1) := dX2_readThing_21_b.2.1
theorem dX2_readThing_25 : decode cX2_readThing 25 = .ok (.getfield 116, 3) := dX2_readThing_21_b.2.2.1
theorem dX2_readThing_28 : decode cX2_readThing 28 = .ok (.iconst 1, 1) := dX2_readThing_21_b.2.2.2.1
theorem dX2_readThing_29 : decode cX2_readThing 29 = .ok (.iadd, 1) := dX2_readThing_21_b.2.2.2.2.1
theorem dX2_readThing_30 : decode cX2_readThing 30 = .ok (.putfield 116, 3) := dX2_readThing_21_b.2.2.2.2.2
set_option maxRecDepth 20000 in
theorem dX2_readThing_33_b : (decode cX2_readThing 33 = .ok (.aload_n 0, 1)) ∧ (decode cX2_readThing 34 = .ok (.getfield 18, 3)) ∧ (decode cX2_readThing 37 = .ok (.getfield 119, 3)) ∧ (decode cX2_readThing 40 = .ok (.iload_n 2, 1)) ∧ (decode cX2_readThing 41 = .ok (.iload_n 1, 1)) ∧ (decode cX2_readThing 42 = .ok (.iastore, 1)) := by decide +kernel
theorem dX2_readThing_33 : decode cX2_readThing 33 = .ok (.aload_n 0, 1) := dX2_readThing_33_b.1
theorem dX2_readThing_34 : decode cX2_readThing 34 = .ok (.getfield 18, 3) := dX2_readThing_33_b.2.1
theorem dX2_readThing_37 : decode cX2_readThing 37 = .ok (.getfield 119, 3) := dX2_readThing_33_b.2.2.1
theorem dX2_readThing_40 : decode cX2_readThing 40 = .ok (.iload_n 2, 1) := dX2_readThing_33_b.2.2.2.1
theorem dX2_readThing_41 : decode cX2_readThing 41 = .ok (.iload_n 1, 1) := dX2_readThing_33_b.2.2.2.2.1
theorem dX2_readThing_42 : decode cX2_readThing 42 = .ok (.iastore, 1) := dX2_readThing_33_b.2.2.2.2.2
set_option maxRecDepth 20000 in
theorem dX2_readThing_43_b : (decode cX2_readThing 43 = .ok (.aload_n 0, 1)) ∧ (decode cX2_readThing 44 = .ok (.getfield 12, 3)) ∧ (decode cX2_readThing 47 = .ok (.invokevirtual 109, 3)) ∧ (decode cX2_readThing 50 = .ok (.aload_n 0, 1)) ∧ (decode cX2_readThing 51 = .ok (.getfield 18, 3)) ∧ (decode cX2_readThing 54 = .ok (.getfield 121, 3)) := by decide +kernel
theorem dX2_readThing_43 : decode cX2_readThing 43 = .ok (.aload_n 0, 1) := dX2_readThing_43_b.1
theorem dX2_readThing_44 : decode cX2_readThing 44 = .ok (.getfield 12, 3) := dX2_readThing_43_b.2.1
theorem dX2_readThing_47 : decode cX2_readThing 47 = .ok (.invokevirtual 109, 3) := dX2_readThing_43_b.2.2.1
theorem dX2_readThing_50 : decode cX2_readThing 50 = .ok (.aload_n 0, 1) := dX2_readThing_43_b.2.2.2.1
theorem dX2_readThing_51 : decode cX2_readThing 51 = .ok (.getfield 18, 3) := dX2_readThing_43_b.2.2.2.2.1
theorem dX2_readThing_54 : decode cX2_readThing 54 = .ok (.getfield 121, 3) := dX2_readThing_43_b.2.2.2.2.2
set_option maxRecDepth 20000 in
theorem dX2_readThing_57_b : (decode cX2_readThing 57 = .ok (.iload_n 2, 1)) ∧ (decode cX2_readThing 58 = .ok (.aload_n 0, 1)) ∧ (decode cX2_readThing 59 = .ok (.iconst 1, 1)) ∧ (decode cX2_readThing 60 = .ok (.bipush 99, 2)) ∧ (decode cX2_readThing 62 = .ok (.invokevirtual 112, 3)) ∧ (decode cX2_readThing 65 = .ok (.iastore, 1)) := by decide +kernel
theorem dX2_readThing_57 : decode cX2_readThing 57 = .ok (.iload_n 2, 1) := dX2_readThing_57_b.1
theorem dX2_readThing_58 : decode cX2_readThing 58 = .ok (.aload_n 0, 1) := dX2_readThing_57_b.2.1
theorem dX2_readThing_59 : decode cX2_readThing 59 = .ok (.iconst 1, 1) := dX2_readThing_57_b.2.2.1
theorem dX2_readThing_60 : decode cX2_readThing 60 = .ok (.bipush 99, 2) := dX2_readThing_57_b.2.2.2.1
theorem dX2_readThing_62 : decode cX2_readThing 62 = .ok (.invokevirtual 112, 3) := dX2_readThing_57_b.2.2.2.2.1
theorem dX2_readThing_65 : decode cX2_readThing 65 = .ok (.iastore, 1) := dX2_readThing_57_b.2.2.2.2.2
set_option maxRecDepth 20000 in
theorem dX2_readThing_66_b : (decode cX2_readThing 66 = .ok (.aload_n 0, 1)) ∧ (decode cX2_readThing 67 = .ok (.getstatic 124, 3)) ∧ (decode cX2_readThing 70 = .ok (.invokevirtual 127, 3)) ∧ (decode cX2_readThing 73 = .ok (.aload_n 0, 1)) ∧ (decode cX2_readThing 74 = .ok (.getfield 18, 3)) ∧ (decode cX2_readThing 77 = .ok (.getfield 131, 3)) := by decide +kernel
theorem dX2_readThing_66 : decode cX2_readThing 66 = .ok (.aload_n 0, 1) := dX2_readThing_66_b.1
theorem dX2_readThing_67 : decode cX2_readThing 67 = .ok (.getstatic 124, 3) := dX2_readThing_66_b.2.1
theorem dX2_readThing_70 : decode cX2_readThing 70 = .ok (.invokevirtual 127, 3) := dX2_readThing_66_b.2.2.1
theorem dX2_readThing_73 : decode cX2_readThing 73 = .ok (.aload_n 0, 1) := dX2_readThing_66_b.2.2.2.1
theorem dX2_readThing_74 : decode cX2_readThing 74 = .ok (.getfield 18, 3) := dX2_readThing_66_b.2.2.2.2.1
theorem dX2_readThing_77 : decode cX2_readThing 77 = .ok (.getfield 131, 3) := dX2_readThing_66_b.2.2.2.2.2
set_option maxRecDepth 20000 in
theorem dX2_readThing_80_b : (decode cX2_readThing 80 = .ok (.iload_n 2, 1)) ∧ (decode cX2_readThing 81 = .ok (.aload_n 0, 1)) ∧ (decode cX2_readThing 82 = .ok (.iconst 0, 1)) ∧ (decode cX2_readThing 83 = .ok (.aload_n 0, 1)) ∧ (decode cX2_readThing 84 = .ok (.getfield 18, 3)) ∧ (decode cX2_readThing 87 = .ok (.getfield 73, 3)) := by decide +kernel
theorem dX2_readThing_80 : decode cX2_readThing 80 = .ok (.iload_n 2, 1) := dX2_readThing_80_b.1
theorem dX2_readThing_81 : decode cX2_readThing 81 = .ok (.aload_n 0, 1) := dX2_readThing_80_b.2.1
theorem dX2_readThing_82 : decode cX2_readThing 82 = .ok (.iconst 0, 1) := dX2_readThing_80_b.2.2.1
theorem dX2_readThing_83 : decode cX2_readThing 83 = .ok (.aload_n 0, 1) := dX2_readThing_80_b.2.2.2.1
theorem dX2_readThing_84 : decode cX2_readThing 84 = .ok (.getfield 18, 3) := dX2_readThing_80_b.2.2.2.2.1
theorem dX2_readThing_87 : decode cX2_readThing 87 = .ok (.getfield 73, 3) := dX2_readThing_80_b.2.2.2.2.2
set_option maxRecDepth 20000 in
theorem dX2_readThing_90_b : (decode cX2_readThing 90 = .ok (.invokevirtual 112, 3)) ∧ (decode cX2_readThing 93 = .ok (.iastore, 1)) ∧ (decode cX2_readThing 94 = .ok (.aload_n 0, 1)) ∧ (decode cX2_readThing 95 = .ok (.getfield 18, 3)) ∧ (decode cX2_readThing 98 = .ok (.getfield 134, 3)) ∧ (decode cX2_readThing 101 = .ok (.iload_n 2, 1)) := by decide +kernel
theorem dX2_readThing_90 : decode cX2_readThing 90 = .ok (.invokevirtual 112, 3) := dX2_readThing_90_b.1
theorem dX2_readThing_93 : decode cX2_readThing 93 = .ok (.iastore, 1) := dX2_readThing_90_b.2.1
theorem dX2_readThing_94 : decode cX2_readThing 94 = .ok (.aload_n 0, 1) := dX2_readThing_90_b.2.2.1
theorem dX2_readThing_95 : decode cX2_readThing 95 = .ok (.getfield 18, 3) := dX2_readThing_90_b.2.2.2.1
theorem dX2_readThing_98 : decode cX2_readThing 98 = .ok (.getfield 134, 3) := dX2_readThing_90_b.2.2.2.2.1
theorem dX2_readThing_101 : decode cX2_readThing 101 = .ok (.iload_n 2, 1) := dX2_readThing_90_b.2.2.2.2.2
set_option maxRecDepth 20000 in
theorem dX2_readThing_102_b : (decode cX2_readThing 102 = .ok (.iconst (-1), 1)) ∧ (decode cX2_readThing 103 = .ok (.iastore, 1)) ∧ (decode cX2_readThing 104 = .ok (.iload_n 1, 1)) ∧ (decode cX2_readThing 105 = .ok (.iconst 2, 1)) ∧ (decode cX2_readThing 106 = .ok (.if_icmp .eq 44, 3)) ∧ (decode cX2_readThing 109 = .ok (.aload_n 0, 1)) := by decide +kernel
theorem dX2_readThing_102 : decode cX2_readThing 102 = .ok (.iconst (-1), 1) := dX2_readThing_102_b.1
theorem dX2_readThing_103 : decode cX2_readThing 103 = .ok (.iastore, 1) := dX2_readThing_102_b.2.1
theorem dX2_readThing_104 : decode cX2_readThing 104 = .ok (.iload_n 1, 1) := dX2_readThing_102_b.2.2.1
theorem dX2_readThing_105 : decode cX2_readThing 105 = .ok (.iconst 2, 1) := dX2_readThing_102_b.2.2.2.1
theorem dX2_readThing_106 : decode cX2_readThing 106 = .ok (.if_icmp .eq 44, 3) := dX2_readThing_102_b.2.2.2.2.1
theorem dX2_readThing_109 : decode cX2_readThing 109 = .ok (.aload_n 0, 1) := dX2_readThing_102_b.2.2.2.2.2
set_option maxRecDepth 20000 in
theorem dX2_readThing_110_b : (decode cX2_readThing 110 = .ok (.getfield 12, 3)) ∧ (decode cX2_readThing 113 = .ok (.getfield 60, 3)) ∧ (decode cX2_readThing 116 = .ok (.getstatic 137, 3)) ∧ (decode cX2_readThing 119 = .ok (.if_acmp .ne 31, 3)) ∧ (decode cX2_readThing 122 = .ok (.aload_n 0, 1)) ∧ (decode cX2_readThing 123 = .ok (.getfield 12, 3)) := by decide +kernel
theorem dX2_readThing_110 : decode cX2_readThing 110 = .ok (.getfield 12, 3) := dX2_readThing_110_b.1
theorem dX2_readThing_113 : decode cX2_readThing 113 = .ok (.getfield 60, 3) := dX2_readThing_110_b.2.1
theorem dX2_readThing_116 : decode cX2_readThing 116 = .ok (.getstatic 137, 3) := dX2_readThing_110_b.2.2.1
theorem dX2_readThing_119 : decode cX2_readThing 119 = .ok (.if_acmp .ne 31, 3) := dX2_readThing_110_b.2.2.2.1
theorem dX2_readThing_122 : decode cX2_readThing 122 = .ok (.aload_n 0, 1) := dX2_readThing_110_b.2.2.2.2.1
theorem dX2_readThing_123 : decode cX2_readThing 123 = .ok (.getfield 12, 3) := dX2_readThing_110_b.2.2.2.2.2
set_option maxRecDepth 20000 in
theorem dX2_readThing_126_b : (decode cX2_readThing 126 = .ok (.invokevirtual 109, 3)) ∧ (decode cX2_readThing 129 = .ok (.aload_n 0, 1)) ∧ (decode cX2_readThing 130 = .ok (.getfield 18, 3)) ∧ (decode cX2_readThing 133 = .ok (.getfield 134, 3)) ∧ (decode cX2_readThing 136 = .ok (.iload_n 2, 1)) ∧ (decode cX2_readThing 137 = .ok (.aload_n 0, 1)) := by decide +kernel
theorem dX2_readThing_126 : decode cX2_readThing 126 = .ok (.invokevirtual 109, 3) := dX2_readThing_126_b.1
theorem dX2_readThing_129 : decode cX2_readThing 129 = .ok (.aload_n 0, 1) := dX2_readThing_126_b.2.1
theorem dX2_readThing_130 : decode cX2_readThing 130 = .ok (.getfield 18, 3) := dX2_readThing_126_b.2.2.1
theorem dX2_readThing_133 : decode cX2_readThing 133 = .ok (.getfield 134, 3) := dX2_readThing_126_b.2.2.2.1
theorem dX2_readThing_136 : decode cX2_readThing 136 = .ok (.iload_n 2, 1) := dX2_readThing_126_b.2.2.2.2.1
theorem dX2_readThing_137 : decode cX2_readThing 137 = .ok (.aload_n 0, 1) := dX2_readThing_126_b.2.2.2.2.2
set_option maxRecDepth 20000 in
theorem dX2_readThing_138_b : (decode cX2_readThing 138 = .ok (.iconst 0, 1)) ∧ (decode cX2_readThing 139 = .ok (.aload_n 0, 1)) ∧ (decode cX2_readThing 140 = .ok (.getfield 18, 3)) ∧ (decode cX2_readThing 143 = .ok (.getfield 73, 3)) ∧ (decode cX2_readThing 146 = .ok (.invokevirtual 112, 3)) ∧ (decode cX2_readThing 149 = .ok (.iastore, 1)) := by decide +kernel
theorem dX2_readThing_138 : decode cX2_readThing 138 = .ok (.iconst 0, 1) := dX2_readThing_138_b.1
theorem dX2_readThing_139 : decode cX2_readThing 139 = .ok (.aload_n 0, 1) := dX2_readThing_138_b.2.1
theorem dX2_readThing_140 : decode cX2_readThing 140 = .ok (.getfield 18, 3) := dX2_readThing_138_b.2.2.1
theorem dX2_readThing_143 : decode cX2_readThing 143 = .ok (.getfield 73, 3) := dX2_readThing_138_b.2.2.2.1
theorem dX2_readThing_146 : decode cX2_readThing 146 = .ok (.invokevirtual 112, 3) := dX2_readThing_138_b.2.2.2.2.1
theorem dX2_readThing_149 : decode cX2_readThing 149 = .ok (.iastore, 1) := dX2_readThing_138_b.2.2.2.2.2
theorem dX2_readThing_150 : decode cX2_readThing 150 = .ok (.return_, 1) := by decide +kernel
set_option maxRecDepth 20000 in
theorem dX2_readRule_0_b : (decode cX2_readRule 0 = .ok (.aload_n 0, 1)) ∧ (decode cX2_readRule 1 = .ok (.getfield 18, 3)) ∧ (decode cX2_readRule 4 = .ok (.getfield 140, 3)) ∧ (decode cX2_readRule 7 = .ok (.getfield 144, 3)) ∧ (decode cX2_readRule 10 = .ok (.iconst 4, 1)) ∧ (decode cX2_readRule 11 = .ok (.if_icmp .lt 8, 3)) := by decide +kernel
theorem dX2_readRule_0 : decode cX2_readRule 0 = .ok (.aload_n 0, 1) := dX2_readRule_0_b.1
theorem dX2_readRule_1 : decode cX2_readRule 1 = .ok (.getfield 18, 3) := dX2_readRule_0_b.2.1
theorem dX2_readRule_4 : decode cX2_readRule 4 = .ok (.getfield 140, 3) := dX2_readRule_0_b.2.2.1
theorem dX2_readRule_7 : decode cX2_readRule 7 = .ok (.getfield 144, 3) := dX2_readRule_0_b.2.2.2.1
theorem dX2_readRule_10 : decode cX2_readRule 10 = .ok (.iconst 4, 1) := dX2_readRule_0_b.2.2.2.2.1
theorem dX2_readRule_11 : decode cX2_readRule 11 = .ok (.if_icmp .lt 8, 3) := dX2_readRule_0_b.2.2.2.2.2
set_option maxRecDepth 20000 in
theorem dX2_readRule_14_b : (decode cX2_readRule 14 = .ok (.aload_n 0, 1)) ∧ (decode cX2_readRule 15 = .ok (.iconst 2, 1)) ∧ (decode cX2_readRule 16 = .ok (.invokevirtual 103, 3)) ∧ (decode cX2_readRule 19 = .ok (.aload_n 0, 1)) ∧ (decode cX2_readRule 20 = .ok (.getfield 12, 3)) ∧ (decode cX2_readRule 23 = .ok (.invokevirtual 109, 3)) := by decide +kernel
theorem dX2_readRule_14 : decode cX2_readRule 14 = .ok (.aload_n 0, 1) := dX2_readRule_14_b.1
theorem dX2_readRule_15 : decode cX2_readRule 15 = .ok (.iconst 2, 1) := dX2_readRule_14_b.2.1
theorem dX2_readRule_16 : decode cX2_readRule 16 = .ok (.invokevirtual 103, 3) := dX2_readRule_14_b.2.2.1
theorem dX2_readRule_19 : decode cX2_readRule 19 = .ok (.aload_n 0, 1) := dX2_readRule_14_b.2.2.2.1
theorem dX2_readRule_20 : decode cX2_readRule 20 = .ok (.getfield 12, 3) := dX2_readRule_14_b.2.2.2.2.1
theorem dX2_readRule_23 : decode cX2_readRule 23 = .ok (.invokevirtual 109, 3) := dX2_readRule_14_b.2.2.2.2.2
set_option maxRecDepth 20000 in
theorem dX2_readRule_26_b : (decode cX2_readRule 26 = .ok (.aload_n 0, 1)) ∧ (decode cX2_readRule 27 = .ok (.iconst 0, 1)) ∧ (decode cX2_readRule 28 = .ok (.invokevirtual 149, 3)) ∧ (decode cX2_readRule 31 = .ok (.aload_n 0, 1)) ∧ (decode cX2_readRule 32 = .ok (.getfield 18, 3)) ∧ (decode cX2_readRule 35 = .ok (.getfield 140, 3)) := by decide +kernel
theorem dX2_readRule_26 : decode cX2_readRule 26 = .ok (.aload_n 0, 1) := dX2_readRule_26_b.1
theorem dX2_readRule_27 : decode cX2_readRule 27 = .ok (.iconst 0, 1) := dX2_readRule_26_b.2.1
theorem dX2_readRule_28 : decode cX2_readRule 28 = .ok (.invokevirtual 149, 3) := dX2_readRule_26_b.2.2.1
theorem dX2_readRule_31 : decode cX2_readRule 31 = .ok (.aload_n 0, 1) := dX2_readRule_26_b.2.2.2.1
theorem dX2_readRule_32 : decode cX2_readRule 32 = .ok (.getfield 18, 3) := dX2_readRule_26_b.2.2.2.2.1
theorem dX2_readRule_35 : decode cX2_readRule 35 = .ok (.getfield 140, 3) := dX2_readRule_26_b.2.2.2.2.2
set_option maxRecDepth 20000 in
theorem dX2_readRule_38_b : (decode cX2_readRule 38 = .ok (.invokevirtual 152, 3)) ∧ (decode cX2_readRule 41 = .ok (.return_, 1)) := by decide +kernel
theorem dX2_readRule_38 : decode cX2_readRule 38 = .ok (.invokevirtual 152, 3) := dX2_readRule_38_b.1
theorem dX2_readRule_41 : decode cX2_readRule 41 = .ok (.return_, 1) := dX2_readRule_38_b.2
set_option maxRecDepth 20000 in
theorem dX2_expression_0_b : (decode cX2_expression 0 = .ok (.iload_n 1, 1)) ∧ (decode cX2_expression 1 = .ok (.bipush 6, 2)) ∧ (decode cX2_expression 3 = .ok (.if_icmp .ge 10, 3)) ∧ (decode cX2_expression 6 = .ok (.aload_n 0, 1)) ∧ (decode cX2_expression 7 = .ok (.iconst 0, 1)) ∧ (decode cX2_expression 8 = .ok (.iload_n 1, 1)) := by decide +kernel
theorem dX2_expression_0 : decode cX2_expression 0 = .ok (.iload_n 1, 1) := dX2_expression_0_b.1
theorem dX2_expression_1 : decode cX2_expression 1 = .ok (.bipush 6, 2) := dX2_expression_0_b.2.1
theorem dX2_expression_3 : decode cX2_expression 3 = .ok (.if_icmp .ge 10, 3) := dX2_expression_0_b.2.2.1
theorem dX2_expression_6 : decode cX2_expression 6 = .ok (.aload_n 0, 1) := dX2_expression_0_b.2.2.2.1
theorem dX2_expression_7 : decode cX2_expression 7 = .ok (.iconst 0, 1) := dX2_expression_0_b.2.2.2.2.1
theorem dX2_expression_8 : decode cX2_expression 8 = .ok (.iload_n 1, 1) := dX2_expression_0_b.2.2.2.2.2
set_option maxRecDepth 20000 in
theorem dX2_expression_9_b : (decode cX2_expression 9 = .ok (.invokevirtual 155, 3)) ∧ (decode cX2_expression 12 = .ok (.return_, 1)) ∧ (decode cX2_expression 13 = .ok (.aload_n 0, 1)) ∧ (decode cX2_expression 14 = .ok (.getfield 12, 3)) ∧ (decode cX2_expression 17 = .ok (.getfield 41, 3)) ∧ (decode cX2_expression 20 = .ok (.iconst 2, 1)) := by decide +kernel
theorem dX2_expression_9 : decode cX2_expression 9 = .ok (.invokevirtual 155, 3) := dX2_expression_9_b.1
theorem dX2_expression_12 : decode cX2_expression 12 = .ok (.return_, 1) := dX2_expression_9_b.2.1
theorem dX2_expression_13 : decode cX2_expression 13 = .ok (.aload_n 0, 1) := dX2_expression_9_b.2.2.1
theorem dX2_expression_14 : decode cX2_expression 14 = .ok (.getfield 12, 3) := dX2_expression_9_b.2.2.2.1
theorem dX2_expression_17 : decode cX2_expression 17 = .ok (.getfield 41, 3) := dX2_expression_9_b.2.2.2.2.1
theorem dX2_expression_20 : decode cX2_expression 20 = .ok (.iconst 2, 1) := dX2_expression_9_b.2.2.2.2.2
set_option maxRecDepth 20000 in
theorem dX2_expression_21_b : (decode cX2_expression 21 = .ok (.if_icmp .eq 26, 3)) ∧ (decode cX2_expression 24 = .ok (.aload_n 0, 1)) ∧ (decode cX2_expression 25 = .ok (.getfield 12, 3)) ∧ (decode cX2_expression 28 = .ok (.getfield 41, 3)) ∧ (decode cX2_expression 31 = .ok (.iconst 1, 1)) ∧ (decode cX2_expression 32 = .ok (.if_icmp .eq 15, 3)) := by decide +kernel
theorem dX2_expression_21 : decode cX2_expression 21 = .ok (.if_icmp .eq 26, 3) := dX2_expression_21_b.1
theorem dX2_expression_24 : decode cX2_expression 24 = .ok (.aload_n 0, 1) := dX2_expression_21_b.2.1
theorem dX2_expression_25 : decode cX2_expression 25 = .ok (.getfield 12, 3) := dX2_expression_21_b.2.2.1
theorem dX2_expression_28 : decode cX2_expression 28 = .ok (.getfield 41, 3) := dX2_expression_21_b.2.2.2.1
theorem dX2_expression_31 : decode cX2_expression 31 = .ok (.iconst 1, 1) := dX2_expression_21_b.2.2.2.2.1
theorem dX2_expression_32 : decode cX2_expression 32 = .ok (.if_icmp .eq 15, 3) := dX2_expression_21_b.2.2.2.2.2
set_option maxRecDepth 20000 in
theorem dX2_expression_35_b : (decode cX2_expression 35 = .ok (.aload_n 0, 1)) ∧ (decode cX2_expression 36 = .ok (.getfield 12, 3)) ∧ (decode cX2_expression 39 = .ok (.getfield 159, 3)) ∧ (decode cX2_expression 42 = .ok (.bipush 40, 2)) ∧ (decode cX2_expression 44 = .ok (.if_icmp .ne 7, 3)) ∧ (decode cX2_expression 47 = .ok (.iconst 1, 1)) := by decide +kernel
theorem dX2_expression_35 : decode cX2_expression 35 = .ok (.aload_n 0, 1) := dX2_expression_35_b.1
theorem dX2_expression_36 : decode cX2_expression 36 = .ok (.getfield 12, 3) := dX2_expression_35_b.2.1
theorem dX2_expression_39 : decode cX2_expression 39 = .ok (.getfield 159, 3) := dX2_expression_35_b.2.2.1
theorem dX2_expression_42 : decode cX2_expression 42 = .ok (.bipush 40, 2) := dX2_expression_35_b.2.2.2.1
theorem dX2_expression_44 : decode cX2_expression 44 = .ok (.if_icmp .ne 7, 3) := dX2_expression_35_b.2.2.2.2.1
theorem dX2_expression_47 : decode cX2_expression 47 = .ok (.iconst 1, 1) := dX2_expression_35_b.2.2.2.2.2
set_option maxRecDepth 20000 in
theorem dX2_expression_48_b : (decode cX2_expression 48 = .ok (.goto 4, 3)) ∧ (decode cX2_expression 51 = .ok (.iconst 0, 1)) ∧ (decode cX2_expression 52 = .ok (.istore_n 2, 1)) ∧ (decode cX2_expression 53 = .ok (.aload_n 0, 1)) ∧ (decode cX2_expression 54 = .ok (.iload_n 2, 1)) ∧ (decode cX2_expression 55 = .ok (.ifCond .eq 7, 3)) := by decide +kernel
theorem dX2_expression_48 : decode cX2_expression 48 = .ok (.goto 4, 3) := dX2_expression_48_b.1
theorem dX2_expression_51 : decode cX2_expression 51 = .ok (.iconst 0, 1) := dX2_expression_48_b.2.1
theorem dX2_expression_52 : decode cX2_expression 52 = .ok (.istore_n 2, 1) := dX2_expression_48_b.2.2.1
theorem dX2_expression_53 : decode cX2_expression 53 = .ok (.aload_n 0, 1) := dX2_expression_48_b.2.2.2.1
theorem dX2_expression_54 : decode cX2_expression 54 = .ok (.iload_n 2, 1) := dX2_expression_48_b.2.2.2.2.1
theorem dX2_expression_55 : decode cX2_expression 55 = .ok (.ifCond .eq 7, 3) := dX2_expression_48_b.2.2.2.2.2
set_option maxRecDepth 20000 in
theorem dX2_expression_58_b : (decode cX2_expression 58 = .ok (.iconst 2, 1)) ∧ (decode cX2_expression 59 = .ok (.goto 4, 3)) ∧ (decode cX2_expression 62 = .ok (.iconst 1, 1)) ∧ (decode cX2_expression 63 = .ok (.invokevirtual 103, 3)) ∧ (decode cX2_expression 66 = .ok (.return_, 1)) := by decide +kernel
theorem dX2_expression_58 : decode cX2_expression 58 = .ok (.iconst 2, 1) := dX2_expression_58_b.1
theorem dX2_expression_59 : decode cX2_expression 59 = .ok (.goto 4, 3) := dX2_expression_58_b.2.1
theorem dX2_expression_62 : decode cX2_expression 62 = .ok (.iconst 1, 1) := dX2_expression_58_b.2.2.1
theorem dX2_expression_63 : decode cX2_expression 63 = .ok (.invokevirtual 103, 3) := dX2_expression_58_b.2.2.2.1
theorem dX2_expression_66 : decode cX2_expression 66 = .ok (.return_, 1) := dX2_expression_58_b.2.2.2.2
set_option maxRecDepth 20000 in
theorem dX2_ranked_0_b : (decode cX2_ranked 0 = .ok (.iload_n 1, 1)) ∧ (decode cX2_ranked 1 = .ok (.iconst 4, 1)) ∧ (decode cX2_ranked 2 = .ok (.if_icmp .le 9, 3)) ∧ (decode cX2_ranked 5 = .ok (.aload_n 0, 1)) ∧ (decode cX2_ranked 6 = .ok (.iload_n 2, 1)) ∧ (decode cX2_ranked 7 = .ok (.invokevirtual 162, 3)) := by decide +kernel
theorem dX2_ranked_0 : decode cX2_ranked 0 = .ok (.iload_n 1, 1) := dX2_ranked_0_b.1
theorem dX2_ranked_1 : decode cX2_ranked 1 = .ok (.iconst 4, 1) := dX2_ranked_0_b.2.1
theorem dX2_ranked_2 : decode cX2_ranked 2 = .ok (.if_icmp .le 9, 3) := dX2_ranked_0_b.2.2.1
theorem dX2_ranked_5 : decode cX2_ranked 5 = .ok (.aload_n 0, 1) := dX2_ranked_0_b.2.2.2.1
theorem dX2_ranked_6 : decode cX2_ranked 6 = .ok (.iload_n 2, 1) := dX2_ranked_0_b.2.2.2.2.1
theorem dX2_ranked_7 : decode cX2_ranked 7 = .ok (.invokevirtual 162, 3) := dX2_ranked_0_b.2.2.2.2.2
set_option maxRecDepth 20000 in
theorem dX2_ranked_10_b : (decode cX2_ranked 10 = .ok (.return_, 1)) ∧ (decode cX2_ranked 11 = .ok (.iload_n 1, 1)) ∧ (decode cX2_ranked 12 = .ok (.iconst 2, 1)) ∧ (decode cX2_ranked 13 = .ok (.if_icmp .ne 10, 3)) ∧ (decode cX2_ranked 16 = .ok (.aload_n 0, 1)) ∧ (decode cX2_ranked 17 = .ok (.invokevirtual 165, 3)) := by decide +kernel
theorem dX2_ranked_10 : decode cX2_ranked 10 = .ok (.return_, 1) := dX2_ranked_10_b.1
theorem dX2_ranked_11 : decode cX2_ranked 11 = .ok (.iload_n 1, 1) := dX2_ranked_10_b.2.1
theorem dX2_ranked_12 : decode cX2_ranked 12 = .ok (.iconst 2, 1) := dX2_ranked_10_b.2.2.1
theorem dX2_ranked_13 : decode cX2_ranked 13 = .ok (.if_icmp .ne 10, 3) := dX2_ranked_10_b.2.2.2.1
theorem dX2_ranked_16 : decode cX2_ranked 16 = .ok (.aload_n 0, 1) := dX2_ranked_10_b.2.2.2.2.1
theorem dX2_ranked_17 : decode cX2_ranked 17 = .ok (.invokevirtual 165, 3) := dX2_ranked_10_b.2.2.2.2.2
set_option maxRecDepth 20000 in
theorem dX2_ranked_20_b : (decode cX2_ranked 20 = .ok (.goto 4, 3)) ∧ (decode cX2_ranked 23 = .ok (.iconst 0, 1)) ∧ (decode cX2_ranked 24 = .ok (.istore_n 3, 1)) ∧ (decode cX2_ranked 25 = .ok (.aload_n 0, 1)) ∧ (decode cX2_ranked 26 = .ok (.iload_n 1, 1)) ∧ (decode cX2_ranked 27 = .ok (.iconst 1, 1)) := by decide +kernel
theorem dX2_ranked_20 : decode cX2_ranked 20 = .ok (.goto 4, 3) := dX2_ranked_20_b.1
theorem dX2_ranked_23 : decode cX2_ranked 23 = .ok (.iconst 0, 1) := dX2_ranked_20_b.2.1
theorem dX2_ranked_24 : decode cX2_ranked 24 = .ok (.istore_n 3, 1) := dX2_ranked_20_b.2.2.1
theorem dX2_ranked_25 : decode cX2_ranked 25 = .ok (.aload_n 0, 1) := dX2_ranked_20_b.2.2.2.1
theorem dX2_ranked_26 : decode cX2_ranked 26 = .ok (.iload_n 1, 1) := dX2_ranked_20_b.2.2.2.2.1
theorem dX2_ranked_27 : decode cX2_ranked 27 = .ok (.iconst 1, 1) := dX2_ranked_20_b.2.2.2.2.2
set_option maxRecDepth 20000 in
theorem dX2_ranked_28_b : (decode cX2_ranked 28 = .ok (.iadd, 1)) ∧ (decode cX2_ranked 29 = .ok (.iload_n 2, 1)) ∧ (decode cX2_ranked 30 = .ok (.invokevirtual 155, 3)) ∧ (decode cX2_ranked 33 = .ok (.iload_n 1, 1)) ∧ (decode cX2_ranked 34 = .ok (.iconst 2, 1)) ∧ (decode cX2_ranked 35 = .ok (.if_icmp .ne 7, 3)) := by decide +kernel
theorem dX2_ranked_28 : decode cX2_ranked 28 = .ok (.iadd, 1) := dX2_ranked_28_b.1
theorem dX2_ranked_29 : decode cX2_ranked 29 = .ok (.iload_n 2, 1) := dX2_ranked_28_b.2.1
theorem dX2_ranked_30 : decode cX2_ranked 30 = .ok (.invokevirtual 155, 3) := dX2_ranked_28_b.2.2.1
theorem dX2_ranked_33 : decode cX2_ranked 33 = .ok (.iload_n 1, 1) := dX2_ranked_28_b.2.2.2.1
theorem dX2_ranked_34 : decode cX2_ranked 34 = .ok (.iconst 2, 1) := dX2_ranked_28_b.2.2.2.2.1
theorem dX2_ranked_35 : decode cX2_ranked 35 = .ok (.if_icmp .ne 7, 3) := dX2_ranked_28_b.2.2.2.2.2
set_option maxRecDepth 20000 in
theorem dX2_ranked_38_b : (decode cX2_ranked 38 = .ok (.iconst 1, 1)) ∧ (decode cX2_ranked 39 = .ok (.goto 6, 3)) ∧ (decode cX2_ranked 42 = .ok (.sipush 600, 3)) ∧ (decode cX2_ranked 45 = .ok (.istore 4, 2)) ∧ (decode cX2_ranked 47 = .ok (.iconst 0, 1)) ∧ (decode cX2_ranked 48 = .ok (.istore 5, 2)) := by decide +kernel
theorem dX2_ranked_38 : decode cX2_ranked 38 = .ok (.iconst 1, 1) := dX2_ranked_38_b.1
theorem dX2_ranked_39 : decode cX2_ranked 39 = .ok (.goto 6, 3) := dX2_ranked_38_b.2.1
theorem dX2_ranked_42 : decode cX2_ranked 42 = .ok (.sipush 600, 3) := dX2_ranked_38_b.2.2.1
theorem dX2_ranked_45 : decode cX2_ranked 45 = .ok (.istore 4, 2) := dX2_ranked_38_b.2.2.2.1
theorem dX2_ranked_47 : decode cX2_ranked 47 = .ok (.iconst 0, 1) := dX2_ranked_38_b.2.2.2.2.1
theorem dX2_ranked_48 : decode cX2_ranked 48 = .ok (.istore 5, 2) := dX2_ranked_38_b.2.2.2.2.2
set_option maxRecDepth 20000 in
theorem dX2_ranked_50_b : (decode cX2_ranked 50 = .ok (.iload 5, 2)) ∧ (decode cX2_ranked 52 = .ok (.iload 4, 2)) ∧ (decode cX2_ranked 54 = .ok (.if_icmp .ge 51, 3)) ∧ (decode cX2_ranked 57 = .ok (.aload_n 0, 1)) ∧ (decode cX2_ranked 58 = .ok (.iload_n 1, 1)) ∧ (decode cX2_ranked 59 = .ok (.invokevirtual 168, 3)) := by decide +kernel
theorem dX2_ranked_50 : decode cX2_ranked 50 = .ok (.iload 5, 2) := dX2_ranked_50_b.1
theorem dX2_ranked_52 : decode cX2_ranked 52 = .ok (.iload 4, 2) := dX2_ranked_50_b.2.1
theorem dX2_ranked_54 : decode cX2_ranked 54 = .ok (.if_icmp .ge 51, 3) := dX2_ranked_50_b.2.2.1
theorem dX2_ranked_57 : decode cX2_ranked 57 = .ok (.aload_n 0, 1) := dX2_ranked_50_b.2.2.2.1
theorem dX2_ranked_58 : decode cX2_ranked 58 = .ok (.iload_n 1, 1) := dX2_ranked_50_b.2.2.2.2.1
theorem dX2_ranked_59 : decode cX2_ranked 59 = .ok (.invokevirtual 168, 3) := dX2_ranked_50_b.2.2.2.2.2
set_option maxRecDepth 20000 in
theorem dX2_ranked_62_b : (decode cX2_ranked 62 = .ok (.ifCond .eq 43, 3)) ∧ (decode cX2_ranked 65 = .ok (.aload_n 0, 1)) ∧ (decode cX2_ranked 66 = .ok (.iload_n 1, 1)) ∧ (decode cX2_ranked 67 = .ok (.invokevirtual 168, 3)) ∧ (decode cX2_ranked 70 = .ok (.istore 6, 2)) ∧ (decode cX2_ranked 72 = .ok (.aload_n 0, 1)) := by decide +kernel
theorem dX2_ranked_62 : decode cX2_ranked 62 = .ok (.ifCond .eq 43, 3) := dX2_ranked_62_b.1
theorem dX2_ranked_65 : decode cX2_ranked 65 = .ok (.aload_n 0, 1) := dX2_ranked_62_b.2.1
theorem dX2_ranked_66 : decode cX2_ranked 66 = .ok (.iload_n 1, 1) := dX2_ranked_62_b.2.2.1
theorem dX2_ranked_67 : decode cX2_ranked 67 = .ok (.invokevirtual 168, 3) := dX2_ranked_62_b.2.2.2.1
theorem dX2_ranked_70 : decode cX2_ranked 70 = .ok (.istore 6, 2) := dX2_ranked_62_b.2.2.2.2.1
theorem dX2_ranked_72 : decode cX2_ranked 72 = .ok (.aload_n 0, 1) := dX2_ranked_62_b.2.2.2.2.2
set_option maxRecDepth 20000 in
theorem dX2_ranked_73_b : (decode cX2_ranked 73 = .ok (.getfield 12, 3)) ∧ (decode cX2_ranked 76 = .ok (.invokevirtual 109, 3)) ∧ (decode cX2_ranked 79 = .ok (.aload_n 0, 1)) ∧ (decode cX2_ranked 80 = .ok (.iload_n 1, 1)) ∧ (decode cX2_ranked 81 = .ok (.iconst 1, 1)) ∧ (decode cX2_ranked 82 = .ok (.iadd, 1)) := by decide +kernel
theorem dX2_ranked_73 : decode cX2_ranked 73 = .ok (.getfield 12, 3) := dX2_ranked_73_b.1
theorem dX2_ranked_76 : decode cX2_ranked 76 = .ok (.invokevirtual 109, 3) := dX2_ranked_73_b.2.1
theorem dX2_ranked_79 : decode cX2_ranked 79 = .ok (.aload_n 0, 1) := dX2_ranked_73_b.2.2.1
theorem dX2_ranked_80 : decode cX2_ranked 80 = .ok (.iload_n 1, 1) := dX2_ranked_73_b.2.2.2.1
theorem dX2_ranked_81 : decode cX2_ranked 81 = .ok (.iconst 1, 1) := dX2_ranked_73_b.2.2.2.2.1
theorem dX2_ranked_82 : decode cX2_ranked 82 = .ok (.iadd, 1) := dX2_ranked_73_b.2.2.2.2.2
set_option maxRecDepth 20000 in
theorem dX2_ranked_83_b : (decode cX2_ranked 83 = .ok (.iload_n 2, 1)) ∧ (decode cX2_ranked 84 = .ok (.invokevirtual 155, 3)) ∧ (decode cX2_ranked 87 = .ok (.aload_n 0, 1)) ∧ (decode cX2_ranked 88 = .ok (.getfield 18, 3)) ∧ (decode cX2_ranked 91 = .ok (.getfield 140, 3)) ∧ (decode cX2_ranked 94 = .ok (.iload 6, 2)) := by decide +kernel
theorem dX2_ranked_83 : decode cX2_ranked 83 = .ok (.iload_n 2, 1) := dX2_ranked_83_b.1
theorem dX2_ranked_84 : decode cX2_ranked 84 = .ok (.invokevirtual 155, 3) := dX2_ranked_83_b.2.1
theorem dX2_ranked_87 : decode cX2_ranked 87 = .ok (.aload_n 0, 1) := dX2_ranked_83_b.2.2.1
theorem dX2_ranked_88 : decode cX2_ranked 88 = .ok (.getfield 18, 3) := dX2_ranked_83_b.2.2.2.1
theorem dX2_ranked_91 : decode cX2_ranked 91 = .ok (.getfield 140, 3) := dX2_ranked_83_b.2.2.2.2.1
theorem dX2_ranked_94 : decode cX2_ranked 94 = .ok (.iload 6, 2) := dX2_ranked_83_b.2.2.2.2.2
set_option maxRecDepth 20000 in
theorem dX2_ranked_96_b : (decode cX2_ranked 96 = .ok (.invokevirtual 172, 3)) ∧ (decode cX2_ranked 99 = .ok (.iinc 5 1, 3)) ∧ (decode cX2_ranked 102 = .ok (.goto (-52), 3)) ∧ (decode cX2_ranked 105 = .ok (.iconst 0, 1)) ∧ (decode cX2_ranked 106 = .ok (.istore 5, 2)) ∧ (decode cX2_ranked 108 = .ok (.iload 5, 2)) := by decide +kernel
theorem dX2_ranked_96 : decode cX2_ranked 96 = .ok (.invokevirtual 172, 3) := dX2_ranked_96_b.1
theorem dX2_ranked_99 : decode cX2_ranked 99 = .ok (.iinc 5 1, 3) := dX2_ranked_96_b.2.1
theorem dX2_ranked_102 : decode cX2_ranked 102 = .ok (.goto (-52), 3) := dX2_ranked_96_b.2.2.1
theorem dX2_ranked_105 : decode cX2_ranked 105 = .ok (.iconst 0, 1) := dX2_ranked_96_b.2.2.2.1
theorem dX2_ranked_106 : decode cX2_ranked 106 = .ok (.istore 5, 2) := dX2_ranked_96_b.2.2.2.2.1
theorem dX2_ranked_108 : decode cX2_ranked 108 = .ok (.iload 5, 2) := dX2_ranked_96_b.2.2.2.2.2
set_option maxRecDepth 20000 in
theorem dX2_ranked_110_b : (decode cX2_ranked 110 = .ok (.iload_n 3, 1)) ∧ (decode cX2_ranked 111 = .ok (.if_icmp .ge 21, 3)) ∧ (decode cX2_ranked 114 = .ok (.aload_n 0, 1)) ∧ (decode cX2_ranked 115 = .ok (.getfield 18, 3)) ∧ (decode cX2_ranked 118 = .ok (.getfield 140, 3)) ∧ (decode cX2_ranked 121 = .ok (.bipush 33, 2)) := by decide +kernel
theorem dX2_ranked_110 : decode cX2_ranked 110 = .ok (.iload_n 3, 1) := dX2_ranked_110_b.1
theorem dX2_ranked_111 : decode cX2_ranked 111 = .ok (.if_icmp .ge 21, 3) := dX2_ranked_110_b.2.1
theorem dX2_ranked_114 : decode cX2_ranked 114 = .ok (.aload_n 0, 1) := dX2_ranked_110_b.2.2.1
theorem dX2_ranked_115 : decode cX2_ranked 115 = .ok (.getfield 18, 3) := dX2_ranked_110_b.2.2.2.1
theorem dX2_ranked_118 : decode cX2_ranked 118 = .ok (.getfield 140, 3) := dX2_ranked_110_b.2.2.2.2.1
theorem dX2_ranked_121 : decode cX2_ranked 121 = .ok (.bipush 33, 2) := dX2_ranked_110_b.2.2.2.2.2
set_option maxRecDepth 20000 in
theorem dX2_ranked_123_b : (decode cX2_ranked 123 = .ok (.invokevirtual 172, 3)) ∧ (decode cX2_ranked 126 = .ok (.iinc 5 1, 3)) ∧ (decode cX2_ranked 129 = .ok (.goto (-21), 3)) ∧ (decode cX2_ranked 132 = .ok (.return_, 1)) := by decide +kernel
theorem dX2_ranked_123 : decode cX2_ranked 123 = .ok (.invokevirtual 172, 3) := dX2_ranked_123_b.1
theorem dX2_ranked_126 : decode cX2_ranked 126 = .ok (.iinc 5 1, 3) := dX2_ranked_123_b.2.1
theorem dX2_ranked_129 : decode cX2_ranked 129 = .ok (.goto (-21), 3) := dX2_ranked_123_b.2.2.1
theorem dX2_ranked_132 : decode cX2_ranked 132 = .ok (.return_, 1) := dX2_ranked_123_b.2.2.2
set_option maxRecDepth 20000 in
theorem dX2_skipNots_0_b : (decode cX2_skipNots 0 = .ok (.iconst 0, 1)) ∧ (decode cX2_skipNots 1 = .ok (.istore_n 1, 1)) ∧ (decode cX2_skipNots 2 = .ok (.iconst 0, 1)) ∧ (decode cX2_skipNots 3 = .ok (.istore_n 2, 1)) ∧ (decode cX2_skipNots 4 = .ok (.iload_n 2, 1)) ∧ (decode cX2_skipNots 5 = .ok (.bipush 6, 2)) := by decide +kernel
theorem dX2_skipNots_0 : decode cX2_skipNots 0 = .ok (.iconst 0, 1) := dX2_skipNots_0_b.1
theorem dX2_skipNots_1 : decode cX2_skipNots 1 = .ok (.istore_n 1, 1) := dX2_skipNots_0_b.2.1
theorem dX2_skipNots_2 : decode cX2_skipNots 2 = .ok (.iconst 0, 1) := dX2_skipNots_0_b.2.2.1
theorem dX2_skipNots_3 : decode cX2_skipNots 3 = .ok (.istore_n 2, 1) := dX2_skipNots_0_b.2.2.2.1
theorem dX2_skipNots_4 : decode cX2_skipNots 4 = .ok (.iload_n 2, 1) := dX2_skipNots_0_b.2.2.2.2.1
theorem dX2_skipNots_5 : decode cX2_skipNots 5 = .ok (.bipush 6, 2) := dX2_skipNots_0_b.2.2.2.2.2
set_option maxRecDepth 20000 in
theorem dX2_skipNots_7_b : (decode cX2_skipNots 7 = .ok (.if_icmp .gt 43, 3)) ∧ (decode cX2_skipNots 10 = .ok (.aload_n 0, 1)) ∧ (decode cX2_skipNots 11 = .ok (.getfield 12, 3)) ∧ (decode cX2_skipNots 14 = .ok (.getfield 60, 3)) ∧ (decode cX2_skipNots 17 = .ok (.getstatic 175, 3)) ∧ (decode cX2_skipNots 20 = .ok (.if_acmp .ne 30, 3)) := by decide +kernel
theorem dX2_skipNots_7 : decode cX2_skipNots 7 = .ok (.if_icmp .gt 43, 3) := dX2_skipNots_7_b.1
theorem dX2_skipNots_10 : decode cX2_skipNots 10 = .ok (.aload_n 0, 1) := dX2_skipNots_7_b.2.1
theorem dX2_skipNots_11 : decode cX2_skipNots 11 = .ok (.getfield 12, 3) := dX2_skipNots_7_b.2.2.1
theorem dX2_skipNots_14 : decode cX2_skipNots 14 = .ok (.getfield 60, 3) := dX2_skipNots_7_b.2.2.2.1
theorem dX2_skipNots_17 : decode cX2_skipNots 17 = .ok (.getstatic 175, 3) := dX2_skipNots_7_b.2.2.2.2.1
theorem dX2_skipNots_20 : decode cX2_skipNots 20 = .ok (.if_acmp .ne 30, 3) := dX2_skipNots_7_b.2.2.2.2.2
set_option maxRecDepth 20000 in
theorem dX2_skipNots_23_b : (decode cX2_skipNots 23 = .ok (.iload_n 2, 1)) ∧ (decode cX2_skipNots 24 = .ok (.bipush 6, 2)) ∧ (decode cX2_skipNots 26 = .ok (.if_icmp .ne 8, 3)) ∧ (decode cX2_skipNots 29 = .ok (.aload_n 0, 1)) ∧ (decode cX2_skipNots 30 = .ok (.iconst 2, 1)) ∧ (decode cX2_skipNots 31 = .ok (.invokevirtual 103, 3)) := by decide +kernel
theorem dX2_skipNots_23 : decode cX2_skipNots 23 = .ok (.iload_n 2, 1) := dX2_skipNots_23_b.1
theorem dX2_skipNots_24 : decode cX2_skipNots 24 = .ok (.bipush 6, 2) := dX2_skipNots_23_b.2.1
theorem dX2_skipNots_26 : decode cX2_skipNots 26 = .ok (.if_icmp .ne 8, 3) := dX2_skipNots_23_b.2.2.1
theorem dX2_skipNots_29 : decode cX2_skipNots 29 = .ok (.aload_n 0, 1) := dX2_skipNots_23_b.2.2.2.1
theorem dX2_skipNots_30 : decode cX2_skipNots 30 = .ok (.iconst 2, 1) := dX2_skipNots_23_b.2.2.2.2.1
theorem dX2_skipNots_31 : decode cX2_skipNots 31 = .ok (.invokevirtual 103, 3) := dX2_skipNots_23_b.2.2.2.2.2
set_option maxRecDepth 20000 in
theorem dX2_skipNots_34_b : (decode cX2_skipNots 34 = .ok (.aload_n 0, 1)) ∧ (decode cX2_skipNots 35 = .ok (.getfield 12, 3)) ∧ (decode cX2_skipNots 38 = .ok (.invokevirtual 109, 3)) ∧ (decode cX2_skipNots 41 = .ok (.iinc 1 1, 3)) ∧ (decode cX2_skipNots 44 = .ok (.iinc 2 1, 3)) ∧ (decode cX2_skipNots 47 = .ok (.goto (-43), 3)) := by decide +kernel
theorem dX2_skipNots_34 : decode cX2_skipNots 34 = .ok (.aload_n 0, 1) := dX2_skipNots_34_b.1
theorem dX2_skipNots_35 : decode cX2_skipNots 35 = .ok (.getfield 12, 3) := dX2_skipNots_34_b.2.1
theorem dX2_skipNots_38 : decode cX2_skipNots 38 = .ok (.invokevirtual 109, 3) := dX2_skipNots_34_b.2.2.1
theorem dX2_skipNots_41 : decode cX2_skipNots 41 = .ok (.iinc 1 1, 3) := dX2_skipNots_34_b.2.2.2.1
theorem dX2_skipNots_44 : decode cX2_skipNots 44 = .ok (.iinc 2 1, 3) := dX2_skipNots_34_b.2.2.2.2.1
theorem dX2_skipNots_47 : decode cX2_skipNots 47 = .ok (.goto (-43), 3) := dX2_skipNots_34_b.2.2.2.2.2
set_option maxRecDepth 20000 in
theorem dX2_skipNots_50_b : (decode cX2_skipNots 50 = .ok (.iload_n 1, 1)) ∧ (decode cX2_skipNots 51 = .ok (.ireturn, 1)) := by decide +kernel
theorem dX2_skipNots_50 : decode cX2_skipNots 50 = .ok (.iload_n 1, 1) := dX2_skipNots_50_b.1
theorem dX2_skipNots_51 : decode cX2_skipNots 51 = .ok (.ireturn, 1) := dX2_skipNots_50_b.2
set_option maxRecDepth 20000 in
theorem dX2_operator_0_b : (decode cX2_operator 0 = .ok (.aload_n 0, 1)) ∧ (decode cX2_operator 1 = .ok (.getfield 12, 3)) ∧ (decode cX2_operator 4 = .ok (.getfield 159, 3)) ∧ (decode cX2_operator 7 = .ok (.istore_n 2, 1)) ∧ (decode cX2_operator 8 = .ok (.iload_n 1, 1)) ∧ (decode cX2_operator 9 = .ok (.tableswitch 107 0 3 #[31, 51, 71, 89], 31)) := by decide +kernel
theorem dX2_operator_0 : decode cX2_operator 0 = .ok (.aload_n 0, 1) := dX2_operator_0_b.1
theorem dX2_operator_1 : decode cX2_operator 1 = .ok (.getfield 12, 3) := dX2_operator_0_b.2.1
theorem dX2_operator_4 : decode cX2_operator 4 = .ok (.getfield 159, 3) := dX2_operator_0_b.2.2.1
theorem dX2_operator_7 : decode cX2_operator 7 = .ok (.istore_n 2, 1) := dX2_operator_0_b.2.2.2.1
theorem dX2_operator_8 : decode cX2_operator 8 = .ok (.iload_n 1, 1) := dX2_operator_0_b.2.2.2.2.1
theorem dX2_operator_9 : decode cX2_operator 9 = .ok (.tableswitch 107 0 3 #[31, 51, 71, 89], 31) := dX2_operator_0_b.2.2.2.2.2
set_option maxRecDepth 20000 in
theorem dX2_operator_40_b : (decode cX2_operator 40 = .ok (.aload_n 0, 1)) ∧ (decode cX2_operator 41 = .ok (.getfield 12, 3)) ∧ (decode cX2_operator 44 = .ok (.getfield 60, 3)) ∧ (decode cX2_operator 47 = .ok (.getstatic 178, 3)) ∧ (decode cX2_operator 50 = .ok (.if_acmp .ne 8, 3)) ∧ (decode cX2_operator 53 = .ok (.bipush 124, 2)) := by decide +kernel
theorem dX2_operator_40 : decode cX2_operator 40 = .ok (.aload_n 0, 1) := dX2_operator_40_b.1
theorem dX2_operator_41 : decode cX2_operator 41 = .ok (.getfield 12, 3) := dX2_operator_40_b.2.1
theorem dX2_operator_44 : decode cX2_operator 44 = .ok (.getfield 60, 3) := dX2_operator_40_b.2.2.1
theorem dX2_operator_47 : decode cX2_operator 47 = .ok (.getstatic 178, 3) := dX2_operator_40_b.2.2.2.1
theorem dX2_operator_50 : decode cX2_operator 50 = .ok (.if_acmp .ne 8, 3) := dX2_operator_40_b.2.2.2.2.1
theorem dX2_operator_53 : decode cX2_operator 53 = .ok (.bipush 124, 2) := dX2_operator_40_b.2.2.2.2.2
set_option maxRecDepth 20000 in
theorem dX2_operator_55_b : (decode cX2_operator 55 = .ok (.goto 4, 3)) ∧ (decode cX2_operator 58 = .ok (.iconst 0, 1)) ∧ (decode cX2_operator 59 = .ok (.ireturn, 1)) ∧ (decode cX2_operator 60 = .ok (.aload_n 0, 1)) ∧ (decode cX2_operator 61 = .ok (.getfield 12, 3)) ∧ (decode cX2_operator 64 = .ok (.getfield 60, 3)) := by decide +kernel
theorem dX2_operator_55 : decode cX2_operator 55 = .ok (.goto 4, 3) := dX2_operator_55_b.1
theorem dX2_operator_58 : decode cX2_operator 58 = .ok (.iconst 0, 1) := dX2_operator_55_b.2.1
theorem dX2_operator_59 : decode cX2_operator 59 = .ok (.ireturn, 1) := dX2_operator_55_b.2.2.1
theorem dX2_operator_60 : decode cX2_operator 60 = .ok (.aload_n 0, 1) := dX2_operator_55_b.2.2.2.1
theorem dX2_operator_61 : decode cX2_operator 61 = .ok (.getfield 12, 3) := dX2_operator_55_b.2.2.2.2.1
theorem dX2_operator_64 : decode cX2_operator 64 = .ok (.getfield 60, 3) := dX2_operator_55_b.2.2.2.2.2
set_option maxRecDepth 20000 in
theorem dX2_operator_67_b : (decode cX2_operator 67 = .ok (.getstatic 181, 3)) ∧ (decode cX2_operator 70 = .ok (.if_acmp .ne 8, 3)) ∧ (decode cX2_operator 73 = .ok (.bipush 38, 2)) ∧ (decode cX2_operator 75 = .ok (.goto 4, 3)) ∧ (decode cX2_operator 78 = .ok (.iconst 0, 1)) ∧ (decode cX2_operator 79 = .ok (.ireturn, 1)) := by decide +kernel
theorem dX2_operator_67 : decode cX2_operator 67 = .ok (.getstatic 181, 3) := dX2_operator_67_b.1
theorem dX2_operator_70 : decode cX2_operator 70 = .ok (.if_acmp .ne 8, 3) := dX2_operator_67_b.2.1
theorem dX2_operator_73 : decode cX2_operator 73 = .ok (.bipush 38, 2) := dX2_operator_67_b.2.2.1
theorem dX2_operator_75 : decode cX2_operator 75 = .ok (.goto 4, 3) := dX2_operator_67_b.2.2.2.1
theorem dX2_operator_78 : decode cX2_operator 78 = .ok (.iconst 0, 1) := dX2_operator_67_b.2.2.2.2.1
theorem dX2_operator_79 : decode cX2_operator 79 = .ok (.ireturn, 1) := dX2_operator_67_b.2.2.2.2.2
set_option maxRecDepth 20000 in
theorem dX2_operator_80_b : (decode cX2_operator 80 = .ok (.iload_n 2, 1)) ∧ (decode cX2_operator 81 = .ok (.bipush 60, 2)) ∧ (decode cX2_operator 83 = .ok (.if_icmp .eq 9, 3)) ∧ (decode cX2_operator 86 = .ok (.iload_n 2, 1)) ∧ (decode cX2_operator 87 = .ok (.bipush 61, 2)) ∧ (decode cX2_operator 89 = .ok (.if_icmp .ne 7, 3)) := by decide +kernel
theorem dX2_operator_80 : decode cX2_operator 80 = .ok (.iload_n 2, 1) := dX2_operator_80_b.1
theorem dX2_operator_81 : decode cX2_operator 81 = .ok (.bipush 60, 2) := dX2_operator_80_b.2.1
theorem dX2_operator_83 : decode cX2_operator 83 = .ok (.if_icmp .eq 9, 3) := dX2_operator_80_b.2.2.1
theorem dX2_operator_86 : decode cX2_operator 86 = .ok (.iload_n 2, 1) := dX2_operator_80_b.2.2.2.1
theorem dX2_operator_87 : decode cX2_operator 87 = .ok (.bipush 61, 2) := dX2_operator_80_b.2.2.2.2.1
theorem dX2_operator_89 : decode cX2_operator 89 = .ok (.if_icmp .ne 7, 3) := dX2_operator_80_b.2.2.2.2.2
set_option maxRecDepth 20000 in
theorem dX2_operator_92_b : (decode cX2_operator 92 = .ok (.iload_n 2, 1)) ∧ (decode cX2_operator 93 = .ok (.goto 4, 3)) ∧ (decode cX2_operator 96 = .ok (.iconst 0, 1)) ∧ (decode cX2_operator 97 = .ok (.ireturn, 1)) ∧ (decode cX2_operator 98 = .ok (.iload_n 2, 1)) ∧ (decode cX2_operator 99 = .ok (.bipush 43, 2)) := by decide +kernel
theorem dX2_operator_92 : decode cX2_operator 92 = .ok (.iload_n 2, 1) := dX2_operator_92_b.1
theorem dX2_operator_93 : decode cX2_operator 93 = .ok (.goto 4, 3) := dX2_operator_92_b.2.1
theorem dX2_operator_96 : decode cX2_operator 96 = .ok (.iconst 0, 1) := dX2_operator_92_b.2.2.1
theorem dX2_operator_97 : decode cX2_operator 97 = .ok (.ireturn, 1) := dX2_operator_92_b.2.2.2.1
theorem dX2_operator_98 : decode cX2_operator 98 = .ok (.iload_n 2, 1) := dX2_operator_92_b.2.2.2.2.1
theorem dX2_operator_99 : decode cX2_operator 99 = .ok (.bipush 43, 2) := dX2_operator_92_b.2.2.2.2.2
set_option maxRecDepth 20000 in
theorem dX2_operator_101_b : (decode cX2_operator 101 = .ok (.if_icmp .eq 9, 3)) ∧ (decode cX2_operator 104 = .ok (.iload_n 2, 1)) ∧ (decode cX2_operator 105 = .ok (.bipush 45, 2)) ∧ (decode cX2_operator 107 = .ok (.if_icmp .ne 7, 3)) ∧ (decode cX2_operator 110 = .ok (.iload_n 2, 1)) ∧ (decode cX2_operator 111 = .ok (.goto 4, 3)) := by decide +kernel
theorem dX2_operator_101 : decode cX2_operator 101 = .ok (.if_icmp .eq 9, 3) := dX2_operator_101_b.1
theorem dX2_operator_104 : decode cX2_operator 104 = .ok (.iload_n 2, 1) := dX2_operator_101_b.2.1
theorem dX2_operator_105 : decode cX2_operator 105 = .ok (.bipush 45, 2) := dX2_operator_101_b.2.2.1
theorem dX2_operator_107 : decode cX2_operator 107 = .ok (.if_icmp .ne 7, 3) := dX2_operator_101_b.2.2.2.1
theorem dX2_operator_110 : decode cX2_operator 110 = .ok (.iload_n 2, 1) := dX2_operator_101_b.2.2.2.2.1
theorem dX2_operator_111 : decode cX2_operator 111 = .ok (.goto 4, 3) := dX2_operator_101_b.2.2.2.2.2
set_option maxRecDepth 20000 in
theorem dX2_operator_114_b : (decode cX2_operator 114 = .ok (.iconst 0, 1)) ∧ (decode cX2_operator 115 = .ok (.ireturn, 1)) ∧ (decode cX2_operator 116 = .ok (.iload_n 2, 1)) ∧ (decode cX2_operator 117 = .ok (.bipush 42, 2)) ∧ (decode cX2_operator 119 = .ok (.if_icmp .eq 9, 3)) ∧ (decode cX2_operator 122 = .ok (.iload_n 2, 1)) := by decide +kernel
theorem dX2_operator_114 : decode cX2_operator 114 = .ok (.iconst 0, 1) := dX2_operator_114_b.1
theorem dX2_operator_115 : decode cX2_operator 115 = .ok (.ireturn, 1) := dX2_operator_114_b.2.1
theorem dX2_operator_116 : decode cX2_operator 116 = .ok (.iload_n 2, 1) := dX2_operator_114_b.2.2.1
theorem dX2_operator_117 : decode cX2_operator 117 = .ok (.bipush 42, 2) := dX2_operator_114_b.2.2.2.1
theorem dX2_operator_119 : decode cX2_operator 119 = .ok (.if_icmp .eq 9, 3) := dX2_operator_114_b.2.2.2.2.1
theorem dX2_operator_122 : decode cX2_operator 122 = .ok (.iload_n 2, 1) := dX2_operator_114_b.2.2.2.2.2
set_option maxRecDepth 20000 in
theorem dX2_operator_123_b : (decode cX2_operator 123 = .ok (.bipush 47, 2)) ∧ (decode cX2_operator 125 = .ok (.if_icmp .ne 7, 3)) ∧ (decode cX2_operator 128 = .ok (.iload_n 2, 1)) ∧ (decode cX2_operator 129 = .ok (.goto 4, 3)) ∧ (decode cX2_operator 132 = .ok (.iconst 0, 1)) ∧ (decode cX2_operator 133 = .ok (.ireturn, 1)) := by decide +kernel
theorem dX2_operator_123 : decode cX2_operator 123 = .ok (.bipush 47, 2) := dX2_operator_123_b.1
theorem dX2_operator_125 : decode cX2_operator 125 = .ok (.if_icmp .ne 7, 3) := dX2_operator_123_b.2.1
theorem dX2_operator_128 : decode cX2_operator 128 = .ok (.iload_n 2, 1) := dX2_operator_123_b.2.2.1
theorem dX2_operator_129 : decode cX2_operator 129 = .ok (.goto 4, 3) := dX2_operator_123_b.2.2.2.1
theorem dX2_operator_132 : decode cX2_operator 132 = .ok (.iconst 0, 1) := dX2_operator_123_b.2.2.2.2.1
theorem dX2_operator_133 : decode cX2_operator 133 = .ok (.ireturn, 1) := dX2_operator_123_b.2.2.2.2.2
set_option maxRecDepth 20000 in
theorem dX2_part_0_b : (decode cX2_part 0 = .ok (.aload_n 0, 1)) ∧ (decode cX2_part 1 = .ok (.getfield 12, 3)) ∧ (decode cX2_part 4 = .ok (.getfield 41, 3)) ∧ (decode cX2_part 7 = .ok (.iconst 2, 1)) ∧ (decode cX2_part 8 = .ok (.if_icmp .ne 24, 3)) ∧ (decode cX2_part 11 = .ok (.aload_n 0, 1)) := by decide +kernel
theorem dX2_part_0 : decode cX2_part 0 = .ok (.aload_n 0, 1) := dX2_part_0_b.1
theorem dX2_part_1 : decode cX2_part 1 = .ok (.getfield 12, 3) := dX2_part_0_b.2.1
theorem dX2_part_4 : decode cX2_part 4 = .ok (.getfield 41, 3) := dX2_part_0_b.2.2.1
theorem dX2_part_7 : decode cX2_part 7 = .ok (.iconst 2, 1) := dX2_part_0_b.2.2.2.1
theorem dX2_part_8 : decode cX2_part 8 = .ok (.if_icmp .ne 24, 3) := dX2_part_0_b.2.2.2.2.1
theorem dX2_part_11 : decode cX2_part 11 = .ok (.aload_n 0, 1) := dX2_part_0_b.2.2.2.2.2
set_option maxRecDepth 20000 in
theorem dX2_part_12_b : (decode cX2_part 12 = .ok (.getfield 18, 3)) ∧ (decode cX2_part 15 = .ok (.getfield 140, 3)) ∧ (decode cX2_part 18 = .ok (.aload_n 0, 1)) ∧ (decode cX2_part 19 = .ok (.iconst 0, 1)) ∧ (decode cX2_part 20 = .ok (.sipush 9999, 3)) ∧ (decode cX2_part 23 = .ok (.invokevirtual 112, 3)) := by decide +kernel
theorem dX2_part_12 : decode cX2_part 12 = .ok (.getfield 18, 3) := dX2_part_12_b.1
theorem dX2_part_15 : decode cX2_part 15 = .ok (.getfield 140, 3) := dX2_part_12_b.2.1
theorem dX2_part_18 : decode cX2_part 18 = .ok (.aload_n 0, 1) := dX2_part_12_b.2.2.1
theorem dX2_part_19 : decode cX2_part 19 = .ok (.iconst 0, 1) := dX2_part_12_b.2.2.2.1
theorem dX2_part_20 : decode cX2_part 20 = .ok (.sipush 9999, 3) := dX2_part_12_b.2.2.2.2.1
theorem dX2_part_23 : decode cX2_part 23 = .ok (.invokevirtual 112, 3) := dX2_part_12_b.2.2.2.2.2
set_option maxRecDepth 20000 in
theorem dX2_part_26_b : (decode cX2_part 26 = .ok (.invokevirtual 184, 3)) ∧ (decode cX2_part 29 = .ok (.goto 102, 3)) ∧ (decode cX2_part 32 = .ok (.aload_n 0, 1)) ∧ (decode cX2_part 33 = .ok (.getfield 12, 3)) ∧ (decode cX2_part 36 = .ok (.getfield 60, 3)) ∧ (decode cX2_part 39 = .ok (.getfield 187, 3)) := by decide +kernel
theorem dX2_part_26 : decode cX2_part 26 = .ok (.invokevirtual 184, 3) := dX2_part_26_b.1
theorem dX2_part_29 : decode cX2_part 29 = .ok (.goto 102, 3) := dX2_part_26_b.2.1
theorem dX2_part_32 : decode cX2_part 32 = .ok (.aload_n 0, 1) := dX2_part_26_b.2.2.1
theorem dX2_part_33 : decode cX2_part 33 = .ok (.getfield 12, 3) := dX2_part_26_b.2.2.2.1
theorem dX2_part_36 : decode cX2_part 36 = .ok (.getfield 60, 3) := dX2_part_26_b.2.2.2.2.1
theorem dX2_part_39 : decode cX2_part 39 = .ok (.getfield 187, 3) := dX2_part_26_b.2.2.2.2.2
set_option maxRecDepth 20000 in
theorem dX2_part_42_b : (decode cX2_part 42 = .ok (.iconst (-1), 1)) ∧ (decode cX2_part 43 = .ok (.if_icmp .eq 33, 3)) ∧ (decode cX2_part 46 = .ok (.aload_n 0, 1)) ∧ (decode cX2_part 47 = .ok (.getfield 18, 3)) ∧ (decode cX2_part 50 = .ok (.getfield 140, 3)) ∧ (decode cX2_part 53 = .ok (.aload_n 0, 1)) := by decide +kernel
theorem dX2_part_42 : decode cX2_part 42 = .ok (.iconst (-1), 1) := dX2_part_42_b.1
theorem dX2_part_43 : decode cX2_part 43 = .ok (.if_icmp .eq 33, 3) := dX2_part_42_b.2.1
theorem dX2_part_46 : decode cX2_part 46 = .ok (.aload_n 0, 1) := dX2_part_42_b.2.2.1
theorem dX2_part_47 : decode cX2_part 47 = .ok (.getfield 18, 3) := dX2_part_42_b.2.2.2.1
theorem dX2_part_50 : decode cX2_part 50 = .ok (.getfield 140, 3) := dX2_part_42_b.2.2.2.2.1
theorem dX2_part_53 : decode cX2_part 53 = .ok (.aload_n 0, 1) := dX2_part_42_b.2.2.2.2.2
set_option maxRecDepth 20000 in
theorem dX2_part_54_b : (decode cX2_part 54 = .ok (.getfield 12, 3)) ∧ (decode cX2_part 57 = .ok (.getfield 60, 3)) ∧ (decode cX2_part 60 = .ok (.getfield 187, 3)) ∧ (decode cX2_part 63 = .ok (.invokevirtual 190, 3)) ∧ (decode cX2_part 66 = .ok (.aload_n 0, 1)) ∧ (decode cX2_part 67 = .ok (.getfield 12, 3)) := by decide +kernel
theorem dX2_part_54 : decode cX2_part 54 = .ok (.getfield 12, 3) := dX2_part_54_b.1
theorem dX2_part_57 : decode cX2_part 57 = .ok (.getfield 60, 3) := dX2_part_54_b.2.1
theorem dX2_part_60 : decode cX2_part 60 = .ok (.getfield 187, 3) := dX2_part_54_b.2.2.1
theorem dX2_part_63 : decode cX2_part 63 = .ok (.invokevirtual 190, 3) := dX2_part_54_b.2.2.2.1
theorem dX2_part_66 : decode cX2_part 66 = .ok (.aload_n 0, 1) := dX2_part_54_b.2.2.2.2.1
theorem dX2_part_67 : decode cX2_part 67 = .ok (.getfield 12, 3) := dX2_part_54_b.2.2.2.2.2
set_option maxRecDepth 20000 in
theorem dX2_part_70_b : (decode cX2_part 70 = .ok (.invokevirtual 109, 3)) ∧ (decode cX2_part 73 = .ok (.goto 58, 3)) ∧ (decode cX2_part 76 = .ok (.aload_n 0, 1)) ∧ (decode cX2_part 77 = .ok (.getfield 12, 3)) ∧ (decode cX2_part 80 = .ok (.getfield 159, 3)) ∧ (decode cX2_part 83 = .ok (.bipush 40, 2)) := by decide +kernel
theorem dX2_part_70 : decode cX2_part 70 = .ok (.invokevirtual 109, 3) := dX2_part_70_b.1
theorem dX2_part_73 : decode cX2_part 73 = .ok (.goto 58, 3) := dX2_part_70_b.2.1
theorem dX2_part_76 : decode cX2_part 76 = .ok (.aload_n 0, 1) := dX2_part_70_b.2.2.1
theorem dX2_part_77 : decode cX2_part 77 = .ok (.getfield 12, 3) := dX2_part_70_b.2.2.2.1
theorem dX2_part_80 : decode cX2_part 80 = .ok (.getfield 159, 3) := dX2_part_70_b.2.2.2.2.1
theorem dX2_part_83 : decode cX2_part 83 = .ok (.bipush 40, 2) := dX2_part_70_b.2.2.2.2.2
set_option maxRecDepth 20000 in
theorem dX2_part_85_b : (decode cX2_part 85 = .ok (.if_icmp .ne 26, 3)) ∧ (decode cX2_part 88 = .ok (.aload_n 0, 1)) ∧ (decode cX2_part 89 = .ok (.getfield 12, 3)) ∧ (decode cX2_part 92 = .ok (.invokevirtual 109, 3)) ∧ (decode cX2_part 95 = .ok (.aload_n 0, 1)) ∧ (decode cX2_part 96 = .ok (.iload_n 1, 1)) := by decide +kernel
theorem dX2_part_85 : decode cX2_part 85 = .ok (.if_icmp .ne 26, 3) := dX2_part_85_b.1
theorem dX2_part_88 : decode cX2_part 88 = .ok (.aload_n 0, 1) := dX2_part_85_b.2.1
theorem dX2_part_89 : decode cX2_part 89 = .ok (.getfield 12, 3) := dX2_part_85_b.2.2.1
theorem dX2_part_92 : decode cX2_part 92 = .ok (.invokevirtual 109, 3) := dX2_part_85_b.2.2.2.1
theorem dX2_part_95 : decode cX2_part 95 = .ok (.aload_n 0, 1) := dX2_part_85_b.2.2.2.2.1
theorem dX2_part_96 : decode cX2_part 96 = .ok (.iload_n 1, 1) := dX2_part_85_b.2.2.2.2.2
set_option maxRecDepth 20000 in
theorem dX2_part_97_b : (decode cX2_part 97 = .ok (.iconst 1, 1)) ∧ (decode cX2_part 98 = .ok (.iadd, 1)) ∧ (decode cX2_part 99 = .ok (.invokevirtual 149, 3)) ∧ (decode cX2_part 102 = .ok (.aload_n 0, 1)) ∧ (decode cX2_part 103 = .ok (.bipush 41, 2)) ∧ (decode cX2_part 105 = .ok (.invokevirtual 106, 3)) := by decide +kernel
theorem dX2_part_97 : decode cX2_part 97 = .ok (.iconst 1, 1) := dX2_part_97_b.1
theorem dX2_part_98 : decode cX2_part 98 = .ok (.iadd, 1) := dX2_part_97_b.2.1
theorem dX2_part_99 : decode cX2_part 99 = .ok (.invokevirtual 149, 3) := dX2_part_97_b.2.2.1
theorem dX2_part_102 : decode cX2_part 102 = .ok (.aload_n 0, 1) := dX2_part_97_b.2.2.2.1
theorem dX2_part_103 : decode cX2_part 103 = .ok (.bipush 41, 2) := dX2_part_97_b.2.2.2.2.1
theorem dX2_part_105 : decode cX2_part 105 = .ok (.invokevirtual 106, 3) := dX2_part_97_b.2.2.2.2.2
set_option maxRecDepth 20000 in
theorem dX2_part_108_b : (decode cX2_part 108 = .ok (.goto 23, 3)) ∧ (decode cX2_part 111 = .ok (.aload_n 0, 1)) ∧ (decode cX2_part 112 = .ok (.aload_n 0, 1)) ∧ (decode cX2_part 113 = .ok (.getfield 12, 3)) ∧ (decode cX2_part 116 = .ok (.getfield 41, 3)) ∧ (decode cX2_part 119 = .ok (.iconst 1, 1)) := by decide +kernel
theorem dX2_part_108 : decode cX2_part 108 = .ok (.goto 23, 3) := dX2_part_108_b.1
theorem dX2_part_111 : decode cX2_part 111 = .ok (.aload_n 0, 1) := dX2_part_108_b.2.1
theorem dX2_part_112 : decode cX2_part 112 = .ok (.aload_n 0, 1) := dX2_part_108_b.2.2.1
theorem dX2_part_113 : decode cX2_part 113 = .ok (.getfield 12, 3) := dX2_part_108_b.2.2.2.1
theorem dX2_part_116 : decode cX2_part 116 = .ok (.getfield 41, 3) := dX2_part_108_b.2.2.2.2.1
theorem dX2_part_119 : decode cX2_part 119 = .ok (.iconst 1, 1) := dX2_part_108_b.2.2.2.2.2
set_option maxRecDepth 20000 in
theorem dX2_part_120_b : (decode cX2_part 120 = .ok (.if_icmp .ne 7, 3)) ∧ (decode cX2_part 123 = .ok (.iconst 3, 1)) ∧ (decode cX2_part 124 = .ok (.goto 4, 3)) ∧ (decode cX2_part 127 = .ok (.iconst 1, 1)) ∧ (decode cX2_part 128 = .ok (.invokevirtual 103, 3)) ∧ (decode cX2_part 131 = .ok (.return_, 1)) := by decide +kernel
theorem dX2_part_120 : decode cX2_part 120 = .ok (.if_icmp .ne 7, 3) := dX2_part_120_b.1
theorem dX2_part_123 : decode cX2_part 123 = .ok (.iconst 3, 1) := dX2_part_120_b.2.1
theorem dX2_part_124 : decode cX2_part 124 = .ok (.goto 4, 3) := dX2_part_120_b.2.2.1
theorem dX2_part_127 : decode cX2_part 127 = .ok (.iconst 1, 1) := dX2_part_120_b.2.2.2.1
theorem dX2_part_128 : decode cX2_part 128 = .ok (.invokevirtual 103, 3) := dX2_part_120_b.2.2.2.2.1
theorem dX2_part_131 : decode cX2_part 131 = .ok (.return_, 1) := dX2_part_120_b.2.2.2.2.2
set_option maxRecDepth 20000 in
theorem dX2_readNumber_0_b : (decode cX2_readNumber 0 = .ok (.aload_n 0, 1)) ∧ (decode cX2_readNumber 1 = .ok (.getfield 12, 3)) ∧ (decode cX2_readNumber 4 = .ok (.getfield 41, 3)) ∧ (decode cX2_readNumber 7 = .ok (.iconst 2, 1)) ∧ (decode cX2_readNumber 8 = .ok (.if_icmp .eq 10, 3)) ∧ (decode cX2_readNumber 11 = .ok (.aload_n 0, 1)) := by decide +kernel
theorem dX2_readNumber_0 : decode cX2_readNumber 0 = .ok (.aload_n 0, 1) := dX2_readNumber_0_b.1
theorem dX2_readNumber_1 : decode cX2_readNumber 1 = .ok (.getfield 12, 3) := dX2_readNumber_0_b.2.1
theorem dX2_readNumber_4 : decode cX2_readNumber 4 = .ok (.getfield 41, 3) := dX2_readNumber_0_b.2.2.1
theorem dX2_readNumber_7 : decode cX2_readNumber 7 = .ok (.iconst 2, 1) := dX2_readNumber_0_b.2.2.2.1
theorem dX2_readNumber_8 : decode cX2_readNumber 8 = .ok (.if_icmp .eq 10, 3) := dX2_readNumber_0_b.2.2.2.2.1
theorem dX2_readNumber_11 : decode cX2_readNumber 11 = .ok (.aload_n 0, 1) := dX2_readNumber_0_b.2.2.2.2.2
set_option maxRecDepth 20000 in
theorem dX2_readNumber_12_b : (decode cX2_readNumber 12 = .ok (.iconst 1, 1)) ∧ (decode cX2_readNumber 13 = .ok (.invokevirtual 103, 3)) ∧ (decode cX2_readNumber 16 = .ok (.iload_n 1, 1)) ∧ (decode cX2_readNumber 17 = .ok (.ireturn, 1)) ∧ (decode cX2_readNumber 18 = .ok (.aload_n 0, 1)) ∧ (decode cX2_readNumber 19 = .ok (.getfield 12, 3)) := by decide +kernel
theorem dX2_readNumber_12 : decode cX2_readNumber 12 = .ok (.iconst 1, 1) := dX2_readNumber_12_b.1
theorem dX2_readNumber_13 : decode cX2_readNumber 13 = .ok (.invokevirtual 103, 3) := dX2_readNumber_12_b.2.1
theorem dX2_readNumber_16 : decode cX2_readNumber 16 = .ok (.iload_n 1, 1) := dX2_readNumber_12_b.2.2.1
theorem dX2_readNumber_17 : decode cX2_readNumber 17 = .ok (.ireturn, 1) := dX2_readNumber_12_b.2.2.2.1
theorem dX2_readNumber_18 : decode cX2_readNumber 18 = .ok (.aload_n 0, 1) := dX2_readNumber_12_b.2.2.2.2.1
theorem dX2_readNumber_19 : decode cX2_readNumber 19 = .ok (.getfield 12, 3) := dX2_readNumber_12_b.2.2.2.2.2
set_option maxRecDepth 20000 in
theorem dX2_readNumber_22_b : (decode cX2_readNumber 22 = .ok (.getfield 193, 3)) ∧ (decode cX2_readNumber 25 = .ok (.istore_n 3, 1)) ∧ (decode cX2_readNumber 26 = .ok (.iload_n 3, 1)) ∧ (decode cX2_readNumber 27 = .ok (.iload_n 1, 1)) ∧ (decode cX2_readNumber 28 = .ok (.if_icmp .lt 8, 3)) ∧ (decode cX2_readNumber 31 = .ok (.iload_n 3, 1)) := by decide +kernel
theorem dX2_readNumber_22 : decode cX2_readNumber 22 = .ok (.getfield 193, 3) := dX2_readNumber_22_b.1
theorem dX2_readNumber_25 : decode cX2_readNumber 25 = .ok (.istore_n 3, 1) := dX2_readNumber_22_b.2.1
theorem dX2_readNumber_26 : decode cX2_readNumber 26 = .ok (.iload_n 3, 1) := dX2_readNumber_22_b.2.2.1
theorem dX2_readNumber_27 : decode cX2_readNumber 27 = .ok (.iload_n 1, 1) := dX2_readNumber_22_b.2.2.2.1
theorem dX2_readNumber_28 : decode cX2_readNumber 28 = .ok (.if_icmp .lt 8, 3) := dX2_readNumber_22_b.2.2.2.2.1
theorem dX2_readNumber_31 : decode cX2_readNumber 31 = .ok (.iload_n 3, 1) := dX2_readNumber_22_b.2.2.2.2.2
set_option maxRecDepth 20000 in
theorem dX2_readNumber_32_b : (decode cX2_readNumber 32 = .ok (.iload_n 2, 1)) ∧ (decode cX2_readNumber 33 = .ok (.if_icmp .le 10, 3)) ∧ (decode cX2_readNumber 36 = .ok (.aload_n 0, 1)) ∧ (decode cX2_readNumber 37 = .ok (.iconst 2, 1)) ∧ (decode cX2_readNumber 38 = .ok (.invokevirtual 103, 3)) ∧ (decode cX2_readNumber 41 = .ok (.iload_n 1, 1)) := by decide +kernel
theorem dX2_readNumber_32 : decode cX2_readNumber 32 = .ok (.iload_n 2, 1) := dX2_readNumber_32_b.1
theorem dX2_readNumber_33 : decode cX2_readNumber 33 = .ok (.if_icmp .le 10, 3) := dX2_readNumber_32_b.2.1
theorem dX2_readNumber_36 : decode cX2_readNumber 36 = .ok (.aload_n 0, 1) := dX2_readNumber_32_b.2.2.1
theorem dX2_readNumber_37 : decode cX2_readNumber 37 = .ok (.iconst 2, 1) := dX2_readNumber_32_b.2.2.2.1
theorem dX2_readNumber_38 : decode cX2_readNumber 38 = .ok (.invokevirtual 103, 3) := dX2_readNumber_32_b.2.2.2.2.1
theorem dX2_readNumber_41 : decode cX2_readNumber 41 = .ok (.iload_n 1, 1) := dX2_readNumber_32_b.2.2.2.2.2
set_option maxRecDepth 20000 in
theorem dX2_readNumber_42_b : (decode cX2_readNumber 42 = .ok (.ireturn, 1)) ∧ (decode cX2_readNumber 43 = .ok (.aload_n 0, 1)) ∧ (decode cX2_readNumber 44 = .ok (.getfield 12, 3)) ∧ (decode cX2_readNumber 47 = .ok (.invokevirtual 109, 3)) ∧ (decode cX2_readNumber 50 = .ok (.iload_n 3, 1)) ∧ (decode cX2_readNumber 51 = .ok (.ireturn, 1)) := by decide +kernel
theorem dX2_readNumber_42 : decode cX2_readNumber 42 = .ok (.ireturn, 1) := dX2_readNumber_42_b.1
theorem dX2_readNumber_43 : decode cX2_readNumber 43 = .ok (.aload_n 0, 1) := dX2_readNumber_42_b.2.1
theorem dX2_readNumber_44 : decode cX2_readNumber 44 = .ok (.getfield 12, 3) := dX2_readNumber_42_b.2.2.1
theorem dX2_readNumber_47 : decode cX2_readNumber 47 = .ok (.invokevirtual 109, 3) := dX2_readNumber_42_b.2.2.2.1
theorem dX2_readNumber_50 : decode cX2_readNumber 50 = .ok (.iload_n 3, 1) := dX2_readNumber_42_b.2.2.2.2.1
theorem dX2_readNumber_51 : decode cX2_readNumber 51 = .ok (.ireturn, 1) := dX2_readNumber_42_b.2.2.2.2.2
set_option maxRecDepth 20000 in
theorem dX2_skipWord_0_b : (decode cX2_skipWord 0 = .ok (.aload_n 0, 1)) ∧ (decode cX2_skipWord 1 = .ok (.getfield 12, 3)) ∧ (decode cX2_skipWord 4 = .ok (.getfield 60, 3)) ∧ (decode cX2_skipWord 7 = .ok (.aload_n 1, 1)) ∧ (decode cX2_skipWord 8 = .ok (.if_acmp .ne 13, 3)) ∧ (decode cX2_skipWord 11 = .ok (.aload_n 0, 1)) := by decide +kernel
theorem dX2_skipWord_0 : decode cX2_skipWord 0 = .ok (.aload_n 0, 1) := dX2_skipWord_0_b.1
theorem dX2_skipWord_1 : decode cX2_skipWord 1 = .ok (.getfield 12, 3) := dX2_skipWord_0_b.2.1
theorem dX2_skipWord_4 : decode cX2_skipWord 4 = .ok (.getfield 60, 3) := dX2_skipWord_0_b.2.2.1
theorem dX2_skipWord_7 : decode cX2_skipWord 7 = .ok (.aload_n 1, 1) := dX2_skipWord_0_b.2.2.2.1
theorem dX2_skipWord_8 : decode cX2_skipWord 8 = .ok (.if_acmp .ne 13, 3) := dX2_skipWord_0_b.2.2.2.2.1
theorem dX2_skipWord_11 : decode cX2_skipWord 11 = .ok (.aload_n 0, 1) := dX2_skipWord_0_b.2.2.2.2.2
set_option maxRecDepth 20000 in
theorem dX2_skipWord_12_b : (decode cX2_skipWord 12 = .ok (.getfield 12, 3)) ∧ (decode cX2_skipWord 15 = .ok (.invokevirtual 109, 3)) ∧ (decode cX2_skipWord 18 = .ok (.goto 8, 3)) ∧ (decode cX2_skipWord 21 = .ok (.aload_n 0, 1)) ∧ (decode cX2_skipWord 22 = .ok (.iconst 1, 1)) ∧ (decode cX2_skipWord 23 = .ok (.invokevirtual 103, 3)) := by decide +kernel
theorem dX2_skipWord_12 : decode cX2_skipWord 12 = .ok (.getfield 12, 3) := dX2_skipWord_12_b.1
theorem dX2_skipWord_15 : decode cX2_skipWord 15 = .ok (.invokevirtual 109, 3) := dX2_skipWord_12_b.2.1
theorem dX2_skipWord_18 : decode cX2_skipWord 18 = .ok (.goto 8, 3) := dX2_skipWord_12_b.2.2.1
theorem dX2_skipWord_21 : decode cX2_skipWord 21 = .ok (.aload_n 0, 1) := dX2_skipWord_12_b.2.2.2.1
theorem dX2_skipWord_22 : decode cX2_skipWord 22 = .ok (.iconst 1, 1) := dX2_skipWord_12_b.2.2.2.2.1
theorem dX2_skipWord_23 : decode cX2_skipWord 23 = .ok (.invokevirtual 103, 3) := dX2_skipWord_12_b.2.2.2.2.2
theorem dX2_skipWord_26 : decode cX2_skipWord 26 = .ok (.return_, 1) := by decide +kernel
set_option maxRecDepth 20000 in
theorem dX2_skipSign_0_b : (decode cX2_skipSign 0 = .ok (.aload_n 0, 1)) ∧ (decode cX2_skipSign 1 = .ok (.getfield 12, 3)) ∧ (decode cX2_skipSign 4 = .ok (.getfield 159, 3)) ∧ (decode cX2_skipSign 7 = .ok (.iload_n 1, 1)) ∧ (decode cX2_skipSign 8 = .ok (.if_icmp .ne 13, 3)) ∧ (decode cX2_skipSign 11 = .ok (.aload_n 0, 1)) := by decide +kernel
theorem dX2_skipSign_0 : decode cX2_skipSign 0 = .ok (.aload_n 0, 1) := dX2_skipSign_0_b.1
theorem dX2_skipSign_1 : decode cX2_skipSign 1 = .ok (.getfield 12, 3) := dX2_skipSign_0_b.2.1
theorem dX2_skipSign_4 : decode cX2_skipSign 4 = .ok (.getfield 159, 3) := dX2_skipSign_0_b.2.2.1
theorem dX2_skipSign_7 : decode cX2_skipSign 7 = .ok (.iload_n 1, 1) := dX2_skipSign_0_b.2.2.2.1
theorem dX2_skipSign_8 : decode cX2_skipSign 8 = .ok (.if_icmp .ne 13, 3) := dX2_skipSign_0_b.2.2.2.2.1
theorem dX2_skipSign_11 : decode cX2_skipSign 11 = .ok (.aload_n 0, 1) := dX2_skipSign_0_b.2.2.2.2.2
set_option maxRecDepth 20000 in
theorem dX2_skipSign_12_b : (decode cX2_skipSign 12 = .ok (.getfield 12, 3)) ∧ (decode cX2_skipSign 15 = .ok (.invokevirtual 109, 3)) ∧ (decode cX2_skipSign 18 = .ok (.goto 8, 3)) ∧ (decode cX2_skipSign 21 = .ok (.aload_n 0, 1)) ∧ (decode cX2_skipSign 22 = .ok (.iconst 1, 1)) ∧ (decode cX2_skipSign 23 = .ok (.invokevirtual 103, 3)) := by decide +kernel
theorem dX2_skipSign_12 : decode cX2_skipSign 12 = .ok (.getfield 12, 3) := dX2_skipSign_12_b.1
theorem dX2_skipSign_15 : decode cX2_skipSign 15 = .ok (.invokevirtual 109, 3) := dX2_skipSign_12_b.2.1
theorem dX2_skipSign_18 : decode cX2_skipSign 18 = .ok (.goto 8, 3) := dX2_skipSign_12_b.2.2.1
theorem dX2_skipSign_21 : decode cX2_skipSign 21 = .ok (.aload_n 0, 1) := dX2_skipSign_12_b.2.2.2.1
theorem dX2_skipSign_22 : decode cX2_skipSign 22 = .ok (.iconst 1, 1) := dX2_skipSign_12_b.2.2.2.2.1
theorem dX2_skipSign_23 : decode cX2_skipSign 23 = .ok (.invokevirtual 103, 3) := dX2_skipSign_12_b.2.2.2.2.2
theorem dX2_skipSign_26 : decode cX2_skipSign 26 = .ok (.return_, 1) := by decide +kernel
set_option maxRecDepth 20000 in
theorem dX3_clear_0_b : (decode cX3_clear 0 = .ok (.aload_n 0, 1)) ∧ (decode cX3_clear 1 = .ok (.iconst 1, 1)) ∧ (decode cX3_clear 2 = .ok (.putfield 37, 3)) ∧ (decode cX3_clear 5 = .ok (.aload_n 0, 1)) ∧ (decode cX3_clear 6 = .ok (.iconst 0, 1)) ∧ (decode cX3_clear 7 = .ok (.putfield 41, 3)) := by decide +kernel
theorem dX3_clear_0 : decode cX3_clear 0 = .ok (.aload_n 0, 1) := dX3_clear_0_b.1
theorem dX3_clear_1 : decode cX3_clear 1 = .ok (.iconst 1, 1) := dX3_clear_0_b.2.1
theorem dX3_clear_2 : decode cX3_clear 2 = .ok (.putfield 37, 3) := dX3_clear_0_b.2.2.1
theorem dX3_clear_5 : decode cX3_clear 5 = .ok (.aload_n 0, 1) := dX3_clear_0_b.2.2.2.1
theorem dX3_clear_6 : decode cX3_clear 6 = .ok (.iconst 0, 1) := dX3_clear_0_b.2.2.2.2.1
theorem dX3_clear_7 : decode cX3_clear 7 = .ok (.putfield 41, 3) := dX3_clear_0_b.2.2.2.2.2
set_option maxRecDepth 20000 in
theorem dX3_clear_10_b : (decode cX3_clear 10 = .ok (.aload_n 0, 1)) ∧ (decode cX3_clear 11 = .ok (.bipush 99, 2)) ∧ (decode cX3_clear 13 = .ok (.putfield 44, 3)) ∧ (decode cX3_clear 16 = .ok (.aload_n 0, 1)) ∧ (decode cX3_clear 17 = .ok (.iconst 0, 1)) ∧ (decode cX3_clear 18 = .ok (.putfield 47, 3)) := by decide +kernel
theorem dX3_clear_10 : decode cX3_clear 10 = .ok (.aload_n 0, 1) := dX3_clear_10_b.1
theorem dX3_clear_11 : decode cX3_clear 11 = .ok (.bipush 99, 2) := dX3_clear_10_b.2.1
theorem dX3_clear_13 : decode cX3_clear 13 = .ok (.putfield 44, 3) := dX3_clear_10_b.2.2.1
theorem dX3_clear_16 : decode cX3_clear 16 = .ok (.aload_n 0, 1) := dX3_clear_10_b.2.2.2.1
theorem dX3_clear_17 : decode cX3_clear 17 = .ok (.iconst 0, 1) := dX3_clear_10_b.2.2.2.2.1
theorem dX3_clear_18 : decode cX3_clear 18 = .ok (.putfield 47, 3) := dX3_clear_10_b.2.2.2.2.2
set_option maxRecDepth 20000 in
theorem dX3_clear_21_b : (decode cX3_clear 21 = .ok (.aload_n 0, 1)) ∧ (decode cX3_clear 22 = .ok (.iconst 1, 1)) ∧ (decode cX3_clear 23 = .ok (.putfield 50, 3)) ∧ (decode cX3_clear 26 = .ok (.aload_n 0, 1)) ∧ (decode cX3_clear 27 = .ok (.bipush 20, 2)) ∧ (decode cX3_clear 29 = .ok (.putfield 53, 3)) := by decide +kernel
theorem dX3_clear_21 : decode cX3_clear 21 = .ok (.aload_n 0, 1) := dX3_clear_21_b.1
theorem dX3_clear_22 : decode cX3_clear 22 = .ok (.iconst 1, 1) := dX3_clear_21_b.2.1
theorem dX3_clear_23 : decode cX3_clear 23 = .ok (.putfield 50, 3) := dX3_clear_21_b.2.2.1
theorem dX3_clear_26 : decode cX3_clear 26 = .ok (.aload_n 0, 1) := dX3_clear_21_b.2.2.2.1
theorem dX3_clear_27 : decode cX3_clear 27 = .ok (.bipush 20, 2) := dX3_clear_21_b.2.2.2.2.1
theorem dX3_clear_29 : decode cX3_clear 29 = .ok (.putfield 53, 3) := dX3_clear_21_b.2.2.2.2.2
set_option maxRecDepth 20000 in
theorem dX3_clear_32_b : (decode cX3_clear 32 = .ok (.aload_n 0, 1)) ∧ (decode cX3_clear 33 = .ok (.iconst 0, 1)) ∧ (decode cX3_clear 34 = .ok (.putfield 56, 3)) ∧ (decode cX3_clear 37 = .ok (.aload_n 0, 1)) ∧ (decode cX3_clear 38 = .ok (.iconst 0, 1)) ∧ (decode cX3_clear 39 = .ok (.putfield 59, 3)) := by decide +kernel
theorem dX3_clear_32 : decode cX3_clear 32 = .ok (.aload_n 0, 1) := dX3_clear_32_b.1
theorem dX3_clear_33 : decode cX3_clear 33 = .ok (.iconst 0, 1) := dX3_clear_32_b.2.1
theorem dX3_clear_34 : decode cX3_clear 34 = .ok (.putfield 56, 3) := dX3_clear_32_b.2.2.1
theorem dX3_clear_37 : decode cX3_clear 37 = .ok (.aload_n 0, 1) := dX3_clear_32_b.2.2.2.1
theorem dX3_clear_38 : decode cX3_clear 38 = .ok (.iconst 0, 1) := dX3_clear_32_b.2.2.2.2.1
theorem dX3_clear_39 : decode cX3_clear 39 = .ok (.putfield 59, 3) := dX3_clear_32_b.2.2.2.2.2
set_option maxRecDepth 20000 in
theorem dX3_clear_42_b : (decode cX3_clear 42 = .ok (.aload_n 0, 1)) ∧ (decode cX3_clear 43 = .ok (.getfield 27, 3)) ∧ (decode cX3_clear 46 = .ok (.invokevirtual 62, 3)) ∧ (decode cX3_clear 49 = .ok (.return_, 1)) := by decide +kernel
theorem dX3_clear_42 : decode cX3_clear 42 = .ok (.aload_n 0, 1) := dX3_clear_42_b.1
theorem dX3_clear_43 : decode cX3_clear 43 = .ok (.getfield 27, 3) := dX3_clear_42_b.2.1
theorem dX3_clear_46 : decode cX3_clear 46 = .ok (.invokevirtual 62, 3) := dX3_clear_42_b.2.2.1
theorem dX3_clear_49 : decode cX3_clear 49 = .ok (.return_, 1) := dX3_clear_42_b.2.2.2
set_option maxRecDepth 20000 in
theorem dX3_has_0_b : (decode cX3_has 0 = .ok (.iload_n 1, 1)) ∧ (decode cX3_has 1 = .ok (.ifCond .lt 15, 3)) ∧ (decode cX3_has 4 = .ok (.iload_n 1, 1)) ∧ (decode cX3_has 5 = .ok (.aload_n 0, 1)) ∧ (decode cX3_has 6 = .ok (.getfield 59, 3)) ∧ (decode cX3_has 9 = .ok (.if_icmp .ge 7, 3)) := by decide +kernel
theorem dX3_has_0 : decode cX3_has 0 = .ok (.iload_n 1, 1) := dX3_has_0_b.1
theorem dX3_has_1 : decode cX3_has 1 = .ok (.ifCond .lt 15, 3) := dX3_has_0_b.2.1
theorem dX3_has_4 : decode cX3_has 4 = .ok (.iload_n 1, 1) := dX3_has_0_b.2.2.1
theorem dX3_has_5 : decode cX3_has 5 = .ok (.aload_n 0, 1) := dX3_has_0_b.2.2.2.1
theorem dX3_has_6 : decode cX3_has 6 = .ok (.getfield 59, 3) := dX3_has_0_b.2.2.2.2.1
theorem dX3_has_9 : decode cX3_has 9 = .ok (.if_icmp .ge 7, 3) := dX3_has_0_b.2.2.2.2.2
set_option maxRecDepth 20000 in
theorem dX3_has_12_b : (decode cX3_has 12 = .ok (.iconst 1, 1)) ∧ (decode cX3_has 13 = .ok (.goto 4, 3)) ∧ (decode cX3_has 16 = .ok (.iconst 0, 1)) ∧ (decode cX3_has 17 = .ok (.ireturn, 1)) := by decide +kernel
theorem dX3_has_12 : decode cX3_has 12 = .ok (.iconst 1, 1) := dX3_has_12_b.1
theorem dX3_has_13 : decode cX3_has 13 = .ok (.goto 4, 3) := dX3_has_12_b.2.1
theorem dX3_has_16 : decode cX3_has 16 = .ok (.iconst 0, 1) := dX3_has_12_b.2.2.1
theorem dX3_has_17 : decode cX3_has 17 = .ok (.ireturn, 1) := dX3_has_12_b.2.2.2
set_option maxRecDepth 20000 in
theorem dX3_hasDepth_0_b : (decode cX3_hasDepth 0 = .ok (.iload_n 1, 1)) ∧ (decode cX3_hasDepth 1 = .ok (.ifCond .lt 15, 3)) ∧ (decode cX3_hasDepth 4 = .ok (.iload_n 1, 1)) ∧ (decode cX3_hasDepth 5 = .ok (.aload_n 0, 1)) ∧ (decode cX3_hasDepth 6 = .ok (.getfield 37, 3)) ∧ (decode cX3_hasDepth 9 = .ok (.if_icmp .gt 7, 3)) := by decide +kernel
theorem dX3_hasDepth_0 : decode cX3_hasDepth 0 = .ok (.iload_n 1, 1) := dX3_hasDepth_0_b.1
theorem dX3_hasDepth_1 : decode cX3_hasDepth 1 = .ok (.ifCond .lt 15, 3) := dX3_hasDepth_0_b.2.1
theorem dX3_hasDepth_4 : decode cX3_hasDepth 4 = .ok (.iload_n 1, 1) := dX3_hasDepth_0_b.2.2.1
theorem dX3_hasDepth_5 : decode cX3_hasDepth 5 = .ok (.aload_n 0, 1) := dX3_hasDepth_0_b.2.2.2.1
theorem dX3_hasDepth_6 : decode cX3_hasDepth 6 = .ok (.getfield 37, 3) := dX3_hasDepth_0_b.2.2.2.2.1
theorem dX3_hasDepth_9 : decode cX3_hasDepth 9 = .ok (.if_icmp .gt 7, 3) := dX3_hasDepth_0_b.2.2.2.2.2
set_option maxRecDepth 20000 in
theorem dX3_hasDepth_12_b : (decode cX3_hasDepth 12 = .ok (.iconst 1, 1)) ∧ (decode cX3_hasDepth 13 = .ok (.goto 4, 3)) ∧ (decode cX3_hasDepth 16 = .ok (.iconst 0, 1)) ∧ (decode cX3_hasDepth 17 = .ok (.ireturn, 1)) := by decide +kernel
theorem dX3_hasDepth_12 : decode cX3_hasDepth 12 = .ok (.iconst 1, 1) := dX3_hasDepth_12_b.1
theorem dX3_hasDepth_13 : decode cX3_hasDepth 13 = .ok (.goto 4, 3) := dX3_hasDepth_12_b.2.1
theorem dX3_hasDepth_16 : decode cX3_hasDepth 16 = .ok (.iconst 0, 1) := dX3_hasDepth_12_b.2.2.1
theorem dX3_hasDepth_17 : decode cX3_hasDepth 17 = .ok (.ireturn, 1) := dX3_hasDepth_12_b.2.2.2
set_option maxRecDepth 20000 in
theorem dX3_firstState_0_b : (decode cX3_firstState 0 = .ok (.ldc 65, 2)) ∧ (decode cX3_firstState 2 = .ok (.aload_n 0, 1)) ∧ (decode cX3_firstState 3 = .ok (.getfield 41, 3)) ∧ (decode cX3_firstState 6 = .ok (.invokestatic 66, 3)) ∧ (decode cX3_firstState 9 = .ok (.istore_n 1, 1)) ∧ (decode cX3_firstState 10 = .ok (.iconst 0, 1)) := by decide +kernel
theorem dX3_firstState_0 : decode cX3_firstState 0 = .ok (.ldc 65, 2) := dX3_firstState_0_b.1
theorem dX3_firstState_2 : decode cX3_firstState 2 = .ok (.aload_n 0, 1) := dX3_firstState_0_b.2.1
theorem dX3_firstState_3 : decode cX3_firstState 3 = .ok (.getfield 41, 3) := dX3_firstState_0_b.2.2.1
theorem dX3_firstState_6 : decode cX3_firstState 6 = .ok (.invokestatic 66, 3) := dX3_firstState_0_b.2.2.2.1
theorem dX3_firstState_9 : decode cX3_firstState 9 = .ok (.istore_n 1, 1) := dX3_firstState_0_b.2.2.2.2.1
theorem dX3_firstState_10 : decode cX3_firstState 10 = .ok (.iconst 0, 1) := dX3_firstState_0_b.2.2.2.2.2
set_option maxRecDepth 20000 in
theorem dX3_firstState_11_b : (decode cX3_firstState 11 = .ok (.istore_n 2, 1)) ∧ (decode cX3_firstState 12 = .ok (.iload_n 2, 1)) ∧ (decode cX3_firstState 13 = .ok (.aload_n 0, 1)) ∧ (decode cX3_firstState 14 = .ok (.getfield 59, 3)) ∧ (decode cX3_firstState 17 = .ok (.if_icmp .ge 21, 3)) ∧ (decode cX3_firstState 20 = .ok (.iload_n 1, 1)) := by decide +kernel
theorem dX3_firstState_11 : decode cX3_firstState 11 = .ok (.istore_n 2, 1) := dX3_firstState_11_b.1
theorem dX3_firstState_12 : decode cX3_firstState 12 = .ok (.iload_n 2, 1) := dX3_firstState_11_b.2.1
theorem dX3_firstState_13 : decode cX3_firstState 13 = .ok (.aload_n 0, 1) := dX3_firstState_11_b.2.2.1
theorem dX3_firstState_14 : decode cX3_firstState 14 = .ok (.getfield 59, 3) := dX3_firstState_11_b.2.2.2.1
theorem dX3_firstState_17 : decode cX3_firstState 17 = .ok (.if_icmp .ge 21, 3) := dX3_firstState_11_b.2.2.2.2.1
theorem dX3_firstState_20 : decode cX3_firstState 20 = .ok (.iload_n 1, 1) := dX3_firstState_11_b.2.2.2.2.2
set_option maxRecDepth 20000 in
theorem dX3_firstState_21_b : (decode cX3_firstState 21 = .ok (.iload_n 2, 1)) ∧ (decode cX3_firstState 22 = .ok (.aload_n 0, 1)) ∧ (decode cX3_firstState 23 = .ok (.getfield 18, 3)) ∧ (decode cX3_firstState 26 = .ok (.iload_n 2, 1)) ∧ (decode cX3_firstState 27 = .ok (.iaload, 1)) ∧ (decode cX3_firstState 28 = .ok (.invokestatic 70, 3)) := by decide +kernel
theorem dX3_firstState_21 : decode cX3_firstState 21 = .ok (.iload_n 2, 1) := dX3_firstState_21_b.1
theorem dX3_firstState_22 : decode cX3_firstState 22 = .ok (.aload_n 0, 1) := dX3_firstState_21_b.2.1
theorem dX3_firstState_23 : decode cX3_firstState 23 = .ok (.getfield 18, 3) := dX3_firstState_21_b.2.2.1
theorem dX3_firstState_26 : decode cX3_firstState 26 = .ok (.iload_n 2, 1) := dX3_firstState_21_b.2.2.2.1
theorem dX3_firstState_27 : decode cX3_firstState 27 = .ok (.iaload, 1) := dX3_firstState_21_b.2.2.2.2.1
theorem dX3_firstState_28 : decode cX3_firstState 28 = .ok (.invokestatic 70, 3) := dX3_firstState_21_b.2.2.2.2.2
set_option maxRecDepth 20000 in
theorem dX3_firstState_31_b : (decode cX3_firstState 31 = .ok (.istore_n 1, 1)) ∧ (decode cX3_firstState 32 = .ok (.iinc 2 1, 3)) ∧ (decode cX3_firstState 35 = .ok (.goto (-23), 3)) ∧ (decode cX3_firstState 38 = .ok (.iload_n 1, 1)) ∧ (decode cX3_firstState 39 = .ok (.ireturn, 1)) := by decide +kernel
theorem dX3_firstState_31 : decode cX3_firstState 31 = .ok (.istore_n 1, 1) := dX3_firstState_31_b.1
theorem dX3_firstState_32 : decode cX3_firstState 32 = .ok (.iinc 2 1, 3) := dX3_firstState_31_b.2.1
theorem dX3_firstState_35 : decode cX3_firstState 35 = .ok (.goto (-23), 3) := dX3_firstState_31_b.2.2.1
theorem dX3_firstState_38 : decode cX3_firstState 38 = .ok (.iload_n 1, 1) := dX3_firstState_31_b.2.2.2.1
theorem dX3_firstState_39 : decode cX3_firstState 39 = .ok (.ireturn, 1) := dX3_firstState_31_b.2.2.2.2
set_option maxRecDepth 20000 in
theorem dX3_stones_0_b : (decode cX3_stones 0 = .ok (.iconst 0, 1)) ∧ (decode cX3_stones 1 = .ok (.istore_n 1, 1)) ∧ (decode cX3_stones 2 = .ok (.iconst 0, 1)) ∧ (decode cX3_stones 3 = .ok (.istore_n 2, 1)) ∧ (decode cX3_stones 4 = .ok (.iload_n 2, 1)) ∧ (decode cX3_stones 5 = .ok (.aload_n 0, 1)) := by decide +kernel
theorem dX3_stones_0 : decode cX3_stones 0 = .ok (.iconst 0, 1) := dX3_stones_0_b.1
theorem dX3_stones_1 : decode cX3_stones 1 = .ok (.istore_n 1, 1) := dX3_stones_0_b.2.1
theorem dX3_stones_2 : decode cX3_stones 2 = .ok (.iconst 0, 1) := dX3_stones_0_b.2.2.1
theorem dX3_stones_3 : decode cX3_stones 3 = .ok (.istore_n 2, 1) := dX3_stones_0_b.2.2.2.1
theorem dX3_stones_4 : decode cX3_stones 4 = .ok (.iload_n 2, 1) := dX3_stones_0_b.2.2.2.2.1
theorem dX3_stones_5 : decode cX3_stones 5 = .ok (.aload_n 0, 1) := dX3_stones_0_b.2.2.2.2.2
set_option maxRecDepth 20000 in
theorem dX3_stones_6_b : (decode cX3_stones 6 = .ok (.getfield 59, 3)) ∧ (decode cX3_stones 9 = .ok (.if_icmp .ge 27, 3)) ∧ (decode cX3_stones 12 = .ok (.iload_n 1, 1)) ∧ (decode cX3_stones 13 = .ok (.aload_n 0, 1)) ∧ (decode cX3_stones 14 = .ok (.getfield 9, 3)) ∧ (decode cX3_stones 17 = .ok (.iload_n 2, 1)) := by decide +kernel
theorem dX3_stones_6 : decode cX3_stones 6 = .ok (.getfield 59, 3) := dX3_stones_6_b.1
theorem dX3_stones_9 : decode cX3_stones 9 = .ok (.if_icmp .ge 27, 3) := dX3_stones_6_b.2.1
theorem dX3_stones_12 : decode cX3_stones 12 = .ok (.iload_n 1, 1) := dX3_stones_6_b.2.2.1
theorem dX3_stones_13 : decode cX3_stones 13 = .ok (.aload_n 0, 1) := dX3_stones_6_b.2.2.2.1
theorem dX3_stones_14 : decode cX3_stones 14 = .ok (.getfield 9, 3) := dX3_stones_6_b.2.2.2.2.1
theorem dX3_stones_17 : decode cX3_stones 17 = .ok (.iload_n 2, 1) := dX3_stones_6_b.2.2.2.2.2
set_option maxRecDepth 20000 in
theorem dX3_stones_18_b : (decode cX3_stones 18 = .ok (.iaload, 1)) ∧ (decode cX3_stones 19 = .ok (.iconst 2, 1)) ∧ (decode cX3_stones 20 = .ok (.if_icmp .ne 7, 3)) ∧ (decode cX3_stones 23 = .ok (.iconst 1, 1)) ∧ (decode cX3_stones 24 = .ok (.goto 4, 3)) ∧ (decode cX3_stones 27 = .ok (.iconst 0, 1)) := by decide +kernel
theorem dX3_stones_18 : decode cX3_stones 18 = .ok (.iaload, 1) := dX3_stones_18_b.1
theorem dX3_stones_19 : decode cX3_stones 19 = .ok (.iconst 2, 1) := dX3_stones_18_b.2.1
theorem dX3_stones_20 : decode cX3_stones 20 = .ok (.if_icmp .ne 7, 3) := dX3_stones_18_b.2.2.1
theorem dX3_stones_23 : decode cX3_stones 23 = .ok (.iconst 1, 1) := dX3_stones_18_b.2.2.2.1
theorem dX3_stones_24 : decode cX3_stones 24 = .ok (.goto 4, 3) := dX3_stones_18_b.2.2.2.2.1
theorem dX3_stones_27 : decode cX3_stones 27 = .ok (.iconst 0, 1) := dX3_stones_18_b.2.2.2.2.2
set_option maxRecDepth 20000 in
theorem dX3_stones_28_b : (decode cX3_stones 28 = .ok (.iadd, 1)) ∧ (decode cX3_stones 29 = .ok (.istore_n 1, 1)) ∧ (decode cX3_stones 30 = .ok (.iinc 2 1, 3)) ∧ (decode cX3_stones 33 = .ok (.goto (-29), 3)) ∧ (decode cX3_stones 36 = .ok (.iload_n 1, 1)) ∧ (decode cX3_stones 37 = .ok (.ireturn, 1)) := by decide +kernel
theorem dX3_stones_28 : decode cX3_stones 28 = .ok (.iadd, 1) := dX3_stones_28_b.1
theorem dX3_stones_29 : decode cX3_stones 29 = .ok (.istore_n 1, 1) := dX3_stones_28_b.2.1
theorem dX3_stones_30 : decode cX3_stones 30 = .ok (.iinc 2 1, 3) := dX3_stones_28_b.2.2.1
theorem dX3_stones_33 : decode cX3_stones 33 = .ok (.goto (-29), 3) := dX3_stones_28_b.2.2.2.1
theorem dX3_stones_36 : decode cX3_stones 36 = .ok (.iload_n 1, 1) := dX3_stones_28_b.2.2.2.2.1
theorem dX3_stones_37 : decode cX3_stones 37 = .ok (.ireturn, 1) := dX3_stones_28_b.2.2.2.2.2
set_option maxRecDepth 20000 in
theorem dX3_firstStones_0_b : (decode cX3_firstStones 0 = .ok (.iconst 0, 1)) ∧ (decode cX3_firstStones 1 = .ok (.istore_n 2, 1)) ∧ (decode cX3_firstStones 2 = .ok (.iconst 0, 1)) ∧ (decode cX3_firstStones 3 = .ok (.istore_n 3, 1)) ∧ (decode cX3_firstStones 4 = .ok (.iconst 0, 1)) ∧ (decode cX3_firstStones 5 = .ok (.istore 4, 2)) := by decide +kernel
theorem dX3_firstStones_0 : decode cX3_firstStones 0 = .ok (.iconst 0, 1) := dX3_firstStones_0_b.1
theorem dX3_firstStones_1 : decode cX3_firstStones 1 = .ok (.istore_n 2, 1) := dX3_firstStones_0_b.2.1
theorem dX3_firstStones_2 : decode cX3_firstStones 2 = .ok (.iconst 0, 1) := dX3_firstStones_0_b.2.2.1
theorem dX3_firstStones_3 : decode cX3_firstStones 3 = .ok (.istore_n 3, 1) := dX3_firstStones_0_b.2.2.2.1
theorem dX3_firstStones_4 : decode cX3_firstStones 4 = .ok (.iconst 0, 1) := dX3_firstStones_0_b.2.2.2.2.1
theorem dX3_firstStones_5 : decode cX3_firstStones 5 = .ok (.istore 4, 2) := dX3_firstStones_0_b.2.2.2.2.2
set_option maxRecDepth 20000 in
theorem dX3_firstStones_7_b : (decode cX3_firstStones 7 = .ok (.iload 4, 2)) ∧ (decode cX3_firstStones 9 = .ok (.aload_n 0, 1)) ∧ (decode cX3_firstStones 10 = .ok (.getfield 59, 3)) ∧ (decode cX3_firstStones 13 = .ok (.if_icmp .ge 35, 3)) ∧ (decode cX3_firstStones 16 = .ok (.iload_n 3, 1)) ∧ (decode cX3_firstStones 17 = .ok (.iload_n 1, 1)) := by decide +kernel
theorem dX3_firstStones_7 : decode cX3_firstStones 7 = .ok (.iload 4, 2) := dX3_firstStones_7_b.1
theorem dX3_firstStones_9 : decode cX3_firstStones 9 = .ok (.aload_n 0, 1) := dX3_firstStones_7_b.2.1
theorem dX3_firstStones_10 : decode cX3_firstStones 10 = .ok (.getfield 59, 3) := dX3_firstStones_7_b.2.2.1
theorem dX3_firstStones_13 : decode cX3_firstStones 13 = .ok (.if_icmp .ge 35, 3) := dX3_firstStones_7_b.2.2.2.1
theorem dX3_firstStones_16 : decode cX3_firstStones 16 = .ok (.iload_n 3, 1) := dX3_firstStones_7_b.2.2.2.2.1
theorem dX3_firstStones_17 : decode cX3_firstStones 17 = .ok (.iload_n 1, 1) := dX3_firstStones_7_b.2.2.2.2.2
set_option maxRecDepth 20000 in
theorem dX3_firstStones_18_b : (decode cX3_firstStones 18 = .ok (.if_icmp .ge 30, 3)) ∧ (decode cX3_firstStones 21 = .ok (.aload_n 0, 1)) ∧ (decode cX3_firstStones 22 = .ok (.getfield 9, 3)) ∧ (decode cX3_firstStones 25 = .ok (.iload 4, 2)) ∧ (decode cX3_firstStones 27 = .ok (.iaload, 1)) ∧ (decode cX3_firstStones 28 = .ok (.iconst 2, 1)) := by decide +kernel
theorem dX3_firstStones_18 : decode cX3_firstStones 18 = .ok (.if_icmp .ge 30, 3) := dX3_firstStones_18_b.1
theorem dX3_firstStones_21 : decode cX3_firstStones 21 = .ok (.aload_n 0, 1) := dX3_firstStones_18_b.2.1
theorem dX3_firstStones_22 : decode cX3_firstStones 22 = .ok (.getfield 9, 3) := dX3_firstStones_18_b.2.2.1
theorem dX3_firstStones_25 : decode cX3_firstStones 25 = .ok (.iload 4, 2) := dX3_firstStones_18_b.2.2.2.1
theorem dX3_firstStones_27 : decode cX3_firstStones 27 = .ok (.iaload, 1) := dX3_firstStones_18_b.2.2.2.2.1
theorem dX3_firstStones_28 : decode cX3_firstStones 28 = .ok (.iconst 2, 1) := dX3_firstStones_18_b.2.2.2.2.2
set_option maxRecDepth 20000 in
theorem dX3_firstStones_29_b : (decode cX3_firstStones 29 = .ok (.if_icmp .ne 13, 3)) ∧ (decode cX3_firstStones 32 = .ok (.iload_n 2, 1)) ∧ (decode cX3_firstStones 33 = .ok (.iconst 1, 1)) ∧ (decode cX3_firstStones 34 = .ok (.iload 4, 2)) ∧ (decode cX3_firstStones 36 = .ok (.ishl, 1)) ∧ (decode cX3_firstStones 37 = .ok (.ior, 1)) := by decide +kernel
theorem dX3_firstStones_29 : decode cX3_firstStones 29 = .ok (.if_icmp .ne 13, 3) := dX3_firstStones_29_b.1
theorem dX3_firstStones_32 : decode cX3_firstStones 32 = .ok (.iload_n 2, 1) := dX3_firstStones_29_b.2.1
theorem dX3_firstStones_33 : decode cX3_firstStones 33 = .ok (.iconst 1, 1) := dX3_firstStones_29_b.2.2.1
theorem dX3_firstStones_34 : decode cX3_firstStones 34 = .ok (.iload 4, 2) := dX3_firstStones_29_b.2.2.2.1
theorem dX3_firstStones_36 : decode cX3_firstStones 36 = .ok (.ishl, 1) := dX3_firstStones_29_b.2.2.2.2.1
theorem dX3_firstStones_37 : decode cX3_firstStones 37 = .ok (.ior, 1) := dX3_firstStones_29_b.2.2.2.2.2
set_option maxRecDepth 20000 in
theorem dX3_firstStones_38_b : (decode cX3_firstStones 38 = .ok (.istore_n 2, 1)) ∧ (decode cX3_firstStones 39 = .ok (.iinc 3 1, 3)) ∧ (decode cX3_firstStones 42 = .ok (.iinc 4 1, 3)) ∧ (decode cX3_firstStones 45 = .ok (.goto (-38), 3)) ∧ (decode cX3_firstStones 48 = .ok (.iload_n 2, 1)) ∧ (decode cX3_firstStones 49 = .ok (.ireturn, 1)) := by decide +kernel
theorem dX3_firstStones_38 : decode cX3_firstStones 38 = .ok (.istore_n 2, 1) := dX3_firstStones_38_b.1
theorem dX3_firstStones_39 : decode cX3_firstStones 39 = .ok (.iinc 3 1, 3) := dX3_firstStones_38_b.2.1
theorem dX3_firstStones_42 : decode cX3_firstStones 42 = .ok (.iinc 4 1, 3) := dX3_firstStones_38_b.2.2.1
theorem dX3_firstStones_45 : decode cX3_firstStones 45 = .ok (.goto (-38), 3) := dX3_firstStones_38_b.2.2.2.1
theorem dX3_firstStones_48 : decode cX3_firstStones 48 = .ok (.iload_n 2, 1) := dX3_firstStones_38_b.2.2.2.2.1
theorem dX3_firstStones_49 : decode cX3_firstStones 49 = .ok (.ireturn, 1) := dX3_firstStones_38_b.2.2.2.2.2
set_option maxRecDepth 20000 in
theorem dX3_thingsWithAims_0_b : (decode cX3_thingsWithAims 0 = .ok (.iconst 0, 1)) ∧ (decode cX3_thingsWithAims 1 = .ok (.istore_n 1, 1)) ∧ (decode cX3_thingsWithAims 2 = .ok (.iconst 0, 1)) ∧ (decode cX3_thingsWithAims 3 = .ok (.istore_n 2, 1)) ∧ (decode cX3_thingsWithAims 4 = .ok (.iload_n 2, 1)) ∧ (decode cX3_thingsWithAims 5 = .ok (.aload_n 0, 1)) := by decide +kernel
theorem dX3_thingsWithAims_0 : decode cX3_thingsWithAims 0 = .ok (.iconst 0, 1) := dX3_thingsWithAims_0_b.1
theorem dX3_thingsWithAims_1 : decode cX3_thingsWithAims 1 = .ok (.istore_n 1, 1) := dX3_thingsWithAims_0_b.2.1
theorem dX3_thingsWithAims_2 : decode cX3_thingsWithAims 2 = .ok (.iconst 0, 1) := dX3_thingsWithAims_0_b.2.2.1
theorem dX3_thingsWithAims_3 : decode cX3_thingsWithAims 3 = .ok (.istore_n 2, 1) := dX3_thingsWithAims_0_b.2.2.2.1
theorem dX3_thingsWithAims_4 : decode cX3_thingsWithAims 4 = .ok (.iload_n 2, 1) := dX3_thingsWithAims_0_b.2.2.2.2.1
theorem dX3_thingsWithAims_5 : decode cX3_thingsWithAims 5 = .ok (.aload_n 0, 1) := dX3_thingsWithAims_0_b.2.2.2.2.2
set_option maxRecDepth 20000 in
theorem dX3_thingsWithAims_6_b : (decode cX3_thingsWithAims 6 = .ok (.getfield 59, 3)) ∧ (decode cX3_thingsWithAims 9 = .ok (.if_icmp .ge 29, 3)) ∧ (decode cX3_thingsWithAims 12 = .ok (.iload_n 1, 1)) ∧ (decode cX3_thingsWithAims 13 = .ok (.aload_n 0, 1)) ∧ (decode cX3_thingsWithAims 14 = .ok (.getfield 21, 3)) ∧ (decode cX3_thingsWithAims 17 = .ok (.iload_n 2, 1)) := by decide +kernel
theorem dX3_thingsWithAims_6 : decode cX3_thingsWithAims 6 = .ok (.getfield 59, 3) := dX3_thingsWithAims_6_b.1
theorem dX3_thingsWithAims_9 : decode cX3_thingsWithAims 9 = .ok (.if_icmp .ge 29, 3) := dX3_thingsWithAims_6_b.2.1
theorem dX3_thingsWithAims_12 : decode cX3_thingsWithAims 12 = .ok (.iload_n 1, 1) := dX3_thingsWithAims_6_b.2.2.1
theorem dX3_thingsWithAims_13 : decode cX3_thingsWithAims 13 = .ok (.aload_n 0, 1) := dX3_thingsWithAims_6_b.2.2.2.1
theorem dX3_thingsWithAims_14 : decode cX3_thingsWithAims 14 = .ok (.getfield 21, 3) := dX3_thingsWithAims_6_b.2.2.2.2.1
theorem dX3_thingsWithAims_17 : decode cX3_thingsWithAims 17 = .ok (.iload_n 2, 1) := dX3_thingsWithAims_6_b.2.2.2.2.2
set_option maxRecDepth 20000 in
theorem dX3_thingsWithAims_18_b : (decode cX3_thingsWithAims 18 = .ok (.iaload, 1)) ∧ (decode cX3_thingsWithAims 19 = .ok (.iconst (-1), 1)) ∧ (decode cX3_thingsWithAims 20 = .ok (.if_icmp .ne 7, 3)) ∧ (decode cX3_thingsWithAims 23 = .ok (.iconst 0, 1)) ∧ (decode cX3_thingsWithAims 24 = .ok (.goto 6, 3)) ∧ (decode cX3_thingsWithAims 27 = .ok (.iconst 1, 1)) := by decide +kernel
theorem dX3_thingsWithAims_18 : decode cX3_thingsWithAims 18 = .ok (.iaload, 1) := dX3_thingsWithAims_18_b.1
theorem dX3_thingsWithAims_19 : decode cX3_thingsWithAims 19 = .ok (.iconst (-1), 1) := dX3_thingsWithAims_18_b.2.1
theorem dX3_thingsWithAims_20 : decode cX3_thingsWithAims 20 = .ok (.if_icmp .ne 7, 3) := dX3_thingsWithAims_18_b.2.2.1
theorem dX3_thingsWithAims_23 : decode cX3_thingsWithAims 23 = .ok (.iconst 0, 1) := dX3_thingsWithAims_18_b.2.2.2.1
theorem dX3_thingsWithAims_24 : decode cX3_thingsWithAims 24 = .ok (.goto 6, 3) := dX3_thingsWithAims_18_b.2.2.2.2.1
theorem dX3_thingsWithAims_27 : decode cX3_thingsWithAims 27 = .ok (.iconst 1, 1) := dX3_thingsWithAims_18_b.2.2.2.2.2
set_option maxRecDepth 20000 in
theorem dX3_thingsWithAims_28_b : (decode cX3_thingsWithAims 28 = .ok (.iload_n 2, 1)) ∧ (decode cX3_thingsWithAims 29 = .ok (.ishl, 1)) ∧ (decode cX3_thingsWithAims 30 = .ok (.ior, 1)) ∧ (decode cX3_thingsWithAims 31 = .ok (.istore_n 1, 1)) ∧ (decode cX3_thingsWithAims 32 = .ok (.iinc 2 1, 3)) ∧ (decode cX3_thingsWithAims 35 = .ok (.goto (-31), 3)) := by decide +kernel
theorem dX3_thingsWithAims_28 : decode cX3_thingsWithAims 28 = .ok (.iload_n 2, 1) := dX3_thingsWithAims_28_b.1
theorem dX3_thingsWithAims_29 : decode cX3_thingsWithAims 29 = .ok (.ishl, 1) := dX3_thingsWithAims_28_b.2.1
theorem dX3_thingsWithAims_30 : decode cX3_thingsWithAims 30 = .ok (.ior, 1) := dX3_thingsWithAims_28_b.2.2.1
theorem dX3_thingsWithAims_31 : decode cX3_thingsWithAims 31 = .ok (.istore_n 1, 1) := dX3_thingsWithAims_28_b.2.2.2.1
theorem dX3_thingsWithAims_32 : decode cX3_thingsWithAims 32 = .ok (.iinc 2 1, 3) := dX3_thingsWithAims_28_b.2.2.2.2.1
theorem dX3_thingsWithAims_35 : decode cX3_thingsWithAims 35 = .ok (.goto (-31), 3) := dX3_thingsWithAims_28_b.2.2.2.2.2
set_option maxRecDepth 20000 in
theorem dX3_thingsWithAims_38_b : (decode cX3_thingsWithAims 38 = .ok (.iload_n 1, 1)) ∧ (decode cX3_thingsWithAims 39 = .ok (.ireturn, 1)) := by decide +kernel
theorem dX3_thingsWithAims_38 : decode cX3_thingsWithAims 38 = .ok (.iload_n 1, 1) := dX3_thingsWithAims_38_b.1
theorem dX3_thingsWithAims_39 : decode cX3_thingsWithAims 39 = .ok (.ireturn, 1) := dX3_thingsWithAims_38_b.2
set_option maxRecDepth 20000 in
theorem dX3_bucketDepth_0_b : (decode cX3_bucketDepth 0 = .ok (.iload_n 2, 1)) ∧ (decode cX3_bucketDepth 1 = .ok (.ifCond .ne 10, 3)) ∧ (decode cX3_bucketDepth 4 = .ok (.iload_n 1, 1)) ∧ (decode cX3_bucketDepth 5 = .ok (.invokestatic 74, 3)) ∧ (decode cX3_bucketDepth 8 = .ok (.goto 12, 3)) ∧ (decode cX3_bucketDepth 11 = .ok (.aload_n 0, 1)) := by decide +kernel
theorem dX3_bucketDepth_0 : decode cX3_bucketDepth 0 = .ok (.iload_n 2, 1) := dX3_bucketDepth_0_b.1
theorem dX3_bucketDepth_1 : decode cX3_bucketDepth 1 = .ok (.ifCond .ne 10, 3) := dX3_bucketDepth_0_b.2.1
theorem dX3_bucketDepth_4 : decode cX3_bucketDepth 4 = .ok (.iload_n 1, 1) := dX3_bucketDepth_0_b.2.2.1
theorem dX3_bucketDepth_5 : decode cX3_bucketDepth 5 = .ok (.invokestatic 74, 3) := dX3_bucketDepth_0_b.2.2.2.1
theorem dX3_bucketDepth_8 : decode cX3_bucketDepth 8 = .ok (.goto 12, 3) := dX3_bucketDepth_0_b.2.2.2.2.1
theorem dX3_bucketDepth_11 : decode cX3_bucketDepth 11 = .ok (.aload_n 0, 1) := dX3_bucketDepth_0_b.2.2.2.2.2
set_option maxRecDepth 20000 in
theorem dX3_bucketDepth_12_b : (decode cX3_bucketDepth 12 = .ok (.getfield 37, 3)) ∧ (decode cX3_bucketDepth 15 = .ok (.iload_n 1, 1)) ∧ (decode cX3_bucketDepth 16 = .ok (.invokestatic 74, 3)) ∧ (decode cX3_bucketDepth 19 = .ok (.isub, 1)) ∧ (decode cX3_bucketDepth 20 = .ok (.ireturn, 1)) := by decide +kernel
theorem dX3_bucketDepth_12 : decode cX3_bucketDepth 12 = .ok (.getfield 37, 3) := dX3_bucketDepth_12_b.1
theorem dX3_bucketDepth_15 : decode cX3_bucketDepth 15 = .ok (.iload_n 1, 1) := dX3_bucketDepth_12_b.2.1
theorem dX3_bucketDepth_16 : decode cX3_bucketDepth 16 = .ok (.invokestatic 74, 3) := dX3_bucketDepth_12_b.2.2.1
theorem dX3_bucketDepth_19 : decode cX3_bucketDepth 19 = .ok (.isub, 1) := dX3_bucketDepth_12_b.2.2.2.1
theorem dX3_bucketDepth_20 : decode cX3_bucketDepth 20 = .ok (.ireturn, 1) := dX3_bucketDepth_12_b.2.2.2.2
set_option maxRecDepth 20000 in
theorem dX3_thingDepth_0_b : (decode cX3_thingDepth 0 = .ok (.iload_n 1, 1)) ∧ (decode cX3_thingDepth 1 = .ok (.iload_n 2, 1)) ∧ (decode cX3_thingDepth 2 = .ok (.invokestatic 78, 3)) ∧ (decode cX3_thingDepth 5 = .ok (.istore_n 3, 1)) ∧ (decode cX3_thingDepth 6 = .ok (.iload_n 3, 1)) ∧ (decode cX3_thingDepth 7 = .ok (.bipush 12, 2)) := by decide +kernel
theorem dX3_thingDepth_0 : decode cX3_thingDepth 0 = .ok (.iload_n 1, 1) := dX3_thingDepth_0_b.1
theorem dX3_thingDepth_1 : decode cX3_thingDepth 1 = .ok (.iload_n 2, 1) := dX3_thingDepth_0_b.2.1
theorem dX3_thingDepth_2 : decode cX3_thingDepth 2 = .ok (.invokestatic 78, 3) := dX3_thingDepth_0_b.2.2.1
theorem dX3_thingDepth_5 : decode cX3_thingDepth 5 = .ok (.istore_n 3, 1) := dX3_thingDepth_0_b.2.2.2.1
theorem dX3_thingDepth_6 : decode cX3_thingDepth 6 = .ok (.iload_n 3, 1) := dX3_thingDepth_0_b.2.2.2.2.1
theorem dX3_thingDepth_7 : decode cX3_thingDepth 7 = .ok (.bipush 12, 2) := dX3_thingDepth_0_b.2.2.2.2.2
set_option maxRecDepth 20000 in
theorem dX3_thingDepth_9_b : (decode cX3_thingDepth 9 = .ok (.if_icmp .ge 5, 3)) ∧ (decode cX3_thingDepth 12 = .ok (.iload_n 3, 1)) ∧ (decode cX3_thingDepth 13 = .ok (.ireturn, 1)) ∧ (decode cX3_thingDepth 14 = .ok (.iload_n 3, 1)) ∧ (decode cX3_thingDepth 15 = .ok (.bipush 14, 2)) ∧ (decode cX3_thingDepth 17 = .ok (.if_icmp .ge 15, 3)) := by decide +kernel
theorem dX3_thingDepth_9 : decode cX3_thingDepth 9 = .ok (.if_icmp .ge 5, 3) := dX3_thingDepth_9_b.1
theorem dX3_thingDepth_12 : decode cX3_thingDepth 12 = .ok (.iload_n 3, 1) := dX3_thingDepth_9_b.2.1
theorem dX3_thingDepth_13 : decode cX3_thingDepth 13 = .ok (.ireturn, 1) := dX3_thingDepth_9_b.2.2.1
theorem dX3_thingDepth_14 : decode cX3_thingDepth 14 = .ok (.iload_n 3, 1) := dX3_thingDepth_9_b.2.2.2.1
theorem dX3_thingDepth_15 : decode cX3_thingDepth 15 = .ok (.bipush 14, 2) := dX3_thingDepth_9_b.2.2.2.2.1
theorem dX3_thingDepth_17 : decode cX3_thingDepth 17 = .ok (.if_icmp .ge 15, 3) := dX3_thingDepth_9_b.2.2.2.2.2
set_option maxRecDepth 20000 in
theorem dX3_thingDepth_20_b : (decode cX3_thingDepth 20 = .ok (.aload_n 0, 1)) ∧ (decode cX3_thingDepth 21 = .ok (.iload_n 1, 1)) ∧ (decode cX3_thingDepth 22 = .ok (.iload_n 3, 1)) ∧ (decode cX3_thingDepth 23 = .ok (.bipush 12, 2)) ∧ (decode cX3_thingDepth 25 = .ok (.isub, 1)) ∧ (decode cX3_thingDepth 26 = .ok (.invokevirtual 81, 3)) := by decide +kernel
theorem dX3_thingDepth_20 : decode cX3_thingDepth 20 = .ok (.aload_n 0, 1) := dX3_thingDepth_20_b.1
theorem dX3_thingDepth_21 : decode cX3_thingDepth 21 = .ok (.iload_n 1, 1) := dX3_thingDepth_20_b.2.1
theorem dX3_thingDepth_22 : decode cX3_thingDepth 22 = .ok (.iload_n 3, 1) := dX3_thingDepth_20_b.2.2.1
theorem dX3_thingDepth_23 : decode cX3_thingDepth 23 = .ok (.bipush 12, 2) := dX3_thingDepth_20_b.2.2.2.1
theorem dX3_thingDepth_25 : decode cX3_thingDepth 25 = .ok (.isub, 1) := dX3_thingDepth_20_b.2.2.2.2.1
theorem dX3_thingDepth_26 : decode cX3_thingDepth 26 = .ok (.invokevirtual 81, 3) := dX3_thingDepth_20_b.2.2.2.2.2
set_option maxRecDepth 20000 in
theorem dX3_thingDepth_29_b : (decode cX3_thingDepth 29 = .ok (.goto 4, 3)) ∧ (decode cX3_thingDepth 32 = .ok (.iconst (-1), 1)) ∧ (decode cX3_thingDepth 33 = .ok (.ireturn, 1)) := by decide +kernel
theorem dX3_thingDepth_29 : decode cX3_thingDepth 29 = .ok (.goto 4, 3) := dX3_thingDepth_29_b.1
theorem dX3_thingDepth_32 : decode cX3_thingDepth 32 = .ok (.iconst (-1), 1) := dX3_thingDepth_29_b.2.1
theorem dX3_thingDepth_33 : decode cX3_thingDepth 33 = .ok (.ireturn, 1) := dX3_thingDepth_29_b.2.2
set_option maxRecDepth 20000 in
theorem dX3_weightIn_0_b : (decode cX3_weightIn 0 = .ok (.iconst 0, 1)) ∧ (decode cX3_weightIn 1 = .ok (.istore_n 3, 1)) ∧ (decode cX3_weightIn 2 = .ok (.iconst 0, 1)) ∧ (decode cX3_weightIn 3 = .ok (.istore 4, 2)) ∧ (decode cX3_weightIn 5 = .ok (.iload 4, 2)) ∧ (decode cX3_weightIn 7 = .ok (.aload_n 0, 1)) := by decide +kernel
theorem dX3_weightIn_0 : decode cX3_weightIn 0 = .ok (.iconst 0, 1) := dX3_weightIn_0_b.1
theorem dX3_weightIn_1 : decode cX3_weightIn 1 = .ok (.istore_n 3, 1) := dX3_weightIn_0_b.2.1
theorem dX3_weightIn_2 : decode cX3_weightIn 2 = .ok (.iconst 0, 1) := dX3_weightIn_0_b.2.2.1
theorem dX3_weightIn_3 : decode cX3_weightIn 3 = .ok (.istore 4, 2) := dX3_weightIn_0_b.2.2.2.1
theorem dX3_weightIn_5 : decode cX3_weightIn 5 = .ok (.iload 4, 2) := dX3_weightIn_0_b.2.2.2.2.1
theorem dX3_weightIn_7 : decode cX3_weightIn 7 = .ok (.aload_n 0, 1) := dX3_weightIn_0_b.2.2.2.2.2
set_option maxRecDepth 20000 in
theorem dX3_weightIn_8_b : (decode cX3_weightIn 8 = .ok (.getfield 59, 3)) ∧ (decode cX3_weightIn 11 = .ok (.if_icmp .ge 36, 3)) ∧ (decode cX3_weightIn 14 = .ok (.iload_n 3, 1)) ∧ (decode cX3_weightIn 15 = .ok (.iload_n 1, 1)) ∧ (decode cX3_weightIn 16 = .ok (.iload 4, 2)) ∧ (decode cX3_weightIn 18 = .ok (.invokestatic 78, 3)) := by decide +kernel
theorem dX3_weightIn_8 : decode cX3_weightIn 8 = .ok (.getfield 59, 3) := dX3_weightIn_8_b.1
theorem dX3_weightIn_11 : decode cX3_weightIn 11 = .ok (.if_icmp .ge 36, 3) := dX3_weightIn_8_b.2.1
theorem dX3_weightIn_14 : decode cX3_weightIn 14 = .ok (.iload_n 3, 1) := dX3_weightIn_8_b.2.2.1
theorem dX3_weightIn_15 : decode cX3_weightIn 15 = .ok (.iload_n 1, 1) := dX3_weightIn_8_b.2.2.2.1
theorem dX3_weightIn_16 : decode cX3_weightIn 16 = .ok (.iload 4, 2) := dX3_weightIn_8_b.2.2.2.2.1
theorem dX3_weightIn_18 : decode cX3_weightIn 18 = .ok (.invokestatic 78, 3) := dX3_weightIn_8_b.2.2.2.2.2
set_option maxRecDepth 20000 in
theorem dX3_weightIn_21_b : (decode cX3_weightIn 21 = .ok (.bipush 12, 2)) ∧ (decode cX3_weightIn 23 = .ok (.iload_n 2, 1)) ∧ (decode cX3_weightIn 24 = .ok (.iadd, 1)) ∧ (decode cX3_weightIn 25 = .ok (.if_icmp .ne 13, 3)) ∧ (decode cX3_weightIn 28 = .ok (.aload_n 0, 1)) ∧ (decode cX3_weightIn 29 = .ok (.getfield 15, 3)) := by decide +kernel
theorem dX3_weightIn_21 : decode cX3_weightIn 21 = .ok (.bipush 12, 2) := dX3_weightIn_21_b.1
theorem dX3_weightIn_23 : decode cX3_weightIn 23 = .ok (.iload_n 2, 1) := dX3_weightIn_21_b.2.1
theorem dX3_weightIn_24 : decode cX3_weightIn 24 = .ok (.iadd, 1) := dX3_weightIn_21_b.2.2.1
theorem dX3_weightIn_25 : decode cX3_weightIn 25 = .ok (.if_icmp .ne 13, 3) := dX3_weightIn_21_b.2.2.2.1
theorem dX3_weightIn_28 : decode cX3_weightIn 28 = .ok (.aload_n 0, 1) := dX3_weightIn_21_b.2.2.2.2.1
theorem dX3_weightIn_29 : decode cX3_weightIn 29 = .ok (.getfield 15, 3) := dX3_weightIn_21_b.2.2.2.2.2
set_option maxRecDepth 20000 in
theorem dX3_weightIn_32_b : (decode cX3_weightIn 32 = .ok (.iload 4, 2)) ∧ (decode cX3_weightIn 34 = .ok (.iaload, 1)) ∧ (decode cX3_weightIn 35 = .ok (.goto 4, 3)) ∧ (decode cX3_weightIn 38 = .ok (.iconst 0, 1)) ∧ (decode cX3_weightIn 39 = .ok (.iadd, 1)) ∧ (decode cX3_weightIn 40 = .ok (.istore_n 3, 1)) := by decide +kernel
theorem dX3_weightIn_32 : decode cX3_weightIn 32 = .ok (.iload 4, 2) := dX3_weightIn_32_b.1
theorem dX3_weightIn_34 : decode cX3_weightIn 34 = .ok (.iaload, 1) := dX3_weightIn_32_b.2.1
theorem dX3_weightIn_35 : decode cX3_weightIn 35 = .ok (.goto 4, 3) := dX3_weightIn_32_b.2.2.1
theorem dX3_weightIn_38 : decode cX3_weightIn 38 = .ok (.iconst 0, 1) := dX3_weightIn_32_b.2.2.2.1
theorem dX3_weightIn_39 : decode cX3_weightIn 39 = .ok (.iadd, 1) := dX3_weightIn_32_b.2.2.2.2.1
theorem dX3_weightIn_40 : decode cX3_weightIn 40 = .ok (.istore_n 3, 1) := dX3_weightIn_32_b.2.2.2.2.2
set_option maxRecDepth 20000 in
theorem dX3_weightIn_41_b : (decode cX3_weightIn 41 = .ok (.iinc 4 1, 3)) ∧ (decode cX3_weightIn 44 = .ok (.goto (-39), 3)) ∧ (decode cX3_weightIn 47 = .ok (.iload_n 3, 1)) ∧ (decode cX3_weightIn 48 = .ok (.ireturn, 1)) := by decide +kernel
theorem dX3_weightIn_41 : decode cX3_weightIn 41 = .ok (.iinc 4 1, 3) := dX3_weightIn_41_b.1
theorem dX3_weightIn_44 : decode cX3_weightIn 44 = .ok (.goto (-39), 3) := dX3_weightIn_41_b.2.1
theorem dX3_weightIn_47 : decode cX3_weightIn 47 = .ok (.iload_n 3, 1) := dX3_weightIn_41_b.2.2.1
theorem dX3_weightIn_48 : decode cX3_weightIn 48 = .ok (.ireturn, 1) := dX3_weightIn_41_b.2.2.2
theorem dX3_isServed_0 : decode cX3_isServed 0 = .ok (.iload_n 1, 1) := by decide +kernel
