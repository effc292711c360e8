set_option maxRecDepth 20000 in
theorem dX10_unload_39_b : (decode cX10_unload 39 = .ok (.iconst 2, 1)) ∧ (decode cX10_unload 40 = .ok (.invokevirtual 412, 3)) ∧ (decode cX10_unload 43 = .ok (.ireturn, 1)) ∧ (decode cX10_unload 44 = .ok (.aload_n 0, 1)) ∧ (decode cX10_unload 45 = .ok (.getfield 330, 3)) ∧ (decode cX10_unload 48 = .ok (.bipush 60, 2)) := by decide +kernel
theorem dX10_unload_39 : decode cX10_unload 39 = .ok (.iconst 2, 1) := dX10_unload_39_b.1
theorem dX10_unload_40 : decode cX10_unload 40 = .ok (.invokevirtual 412, 3) := dX10_unload_39_b.2.1
theorem dX10_unload_43 : decode cX10_unload 43 = .ok (.ireturn, 1) := dX10_unload_39_b.2.2.1
theorem dX10_unload_44 : decode cX10_unload 44 = .ok (.aload_n 0, 1) := dX10_unload_39_b.2.2.2.1
theorem dX10_unload_45 : decode cX10_unload 45 = .ok (.getfield 330, 3) := dX10_unload_39_b.2.2.2.2.1
theorem dX10_unload_48 : decode cX10_unload 48 = .ok (.bipush 60, 2) := dX10_unload_39_b.2.2.2.2.2
set_option maxRecDepth 20000 in
theorem dX10_unload_50_b : (decode cX10_unload 50 = .ok (.if_icmp .ne 10, 3)) ∧ (decode cX10_unload 53 = .ok (.aload_n 0, 1)) ∧ (decode cX10_unload 54 = .ok (.bipush 8, 2)) ∧ (decode cX10_unload 56 = .ok (.invokevirtual 412, 3)) ∧ (decode cX10_unload 59 = .ok (.ireturn, 1)) ∧ (decode cX10_unload 60 = .ok (.aload_n 0, 1)) := by decide +kernel
theorem dX10_unload_50 : decode cX10_unload 50 = .ok (.if_icmp .ne 10, 3) := dX10_unload_50_b.1
theorem dX10_unload_53 : decode cX10_unload 53 = .ok (.aload_n 0, 1) := dX10_unload_50_b.2.1
theorem dX10_unload_54 : decode cX10_unload 54 = .ok (.bipush 8, 2) := dX10_unload_50_b.2.2.1
theorem dX10_unload_56 : decode cX10_unload 56 = .ok (.invokevirtual 412, 3) := dX10_unload_50_b.2.2.2.1
theorem dX10_unload_59 : decode cX10_unload 59 = .ok (.ireturn, 1) := dX10_unload_50_b.2.2.2.2.1
theorem dX10_unload_60 : decode cX10_unload 60 = .ok (.aload_n 0, 1) := dX10_unload_50_b.2.2.2.2.2
set_option maxRecDepth 20000 in
theorem dX10_unload_61_b : (decode cX10_unload 61 = .ok (.iconst 1, 1)) ∧ (decode cX10_unload 62 = .ok (.iload_n 1, 1)) ∧ (decode cX10_unload 63 = .ok (.iconst 0, 1)) ∧ (decode cX10_unload 64 = .ok (.iload_n 2, 1)) ∧ (decode cX10_unload 65 = .ok (.iconst 0, 1)) ∧ (decode cX10_unload 66 = .ok (.invokevirtual 415, 3)) := by decide +kernel
theorem dX10_unload_61 : decode cX10_unload 61 = .ok (.iconst 1, 1) := dX10_unload_61_b.1
theorem dX10_unload_62 : decode cX10_unload 62 = .ok (.iload_n 1, 1) := dX10_unload_61_b.2.1
theorem dX10_unload_63 : decode cX10_unload 63 = .ok (.iconst 0, 1) := dX10_unload_61_b.2.2.1
theorem dX10_unload_64 : decode cX10_unload 64 = .ok (.iload_n 2, 1) := dX10_unload_61_b.2.2.2.1
theorem dX10_unload_65 : decode cX10_unload 65 = .ok (.iconst 0, 1) := dX10_unload_61_b.2.2.2.2.1
theorem dX10_unload_66 : decode cX10_unload 66 = .ok (.invokevirtual 415, 3) := dX10_unload_61_b.2.2.2.2.2
set_option maxRecDepth 20000 in
theorem dX10_unload_69_b : (decode cX10_unload 69 = .ok (.aload_n 0, 1)) ∧ (decode cX10_unload 70 = .ok (.getfield 87, 3)) ∧ (decode cX10_unload 73 = .ok (.iload_n 1, 1)) ∧ (decode cX10_unload 74 = .ok (.aload_n 0, 1)) ∧ (decode cX10_unload 75 = .ok (.iload_n 1, 1)) ∧ (decode cX10_unload 76 = .ok (.aload_n 0, 1)) := by decide +kernel
theorem dX10_unload_69 : decode cX10_unload 69 = .ok (.aload_n 0, 1) := dX10_unload_69_b.1
theorem dX10_unload_70 : decode cX10_unload 70 = .ok (.getfield 87, 3) := dX10_unload_69_b.2.1
theorem dX10_unload_73 : decode cX10_unload 73 = .ok (.iload_n 1, 1) := dX10_unload_69_b.2.2.1
theorem dX10_unload_74 : decode cX10_unload 74 = .ok (.aload_n 0, 1) := dX10_unload_69_b.2.2.2.1
theorem dX10_unload_75 : decode cX10_unload 75 = .ok (.iload_n 1, 1) := dX10_unload_69_b.2.2.2.2.1
theorem dX10_unload_76 : decode cX10_unload 76 = .ok (.aload_n 0, 1) := dX10_unload_69_b.2.2.2.2.2
set_option maxRecDepth 20000 in
theorem dX10_unload_77_b : (decode cX10_unload 77 = .ok (.iload_n 2, 1)) ∧ (decode cX10_unload 78 = .ok (.bipush 12, 2)) ∧ (decode cX10_unload 80 = .ok (.isub, 1)) ∧ (decode cX10_unload 81 = .ok (.aload_n 0, 1)) ∧ (decode cX10_unload 82 = .ok (.getfield 327, 3)) ∧ (decode cX10_unload 85 = .ok (.invokevirtual 352, 3)) := by decide +kernel
theorem dX10_unload_77 : decode cX10_unload 77 = .ok (.iload_n 2, 1) := dX10_unload_77_b.1
theorem dX10_unload_78 : decode cX10_unload 78 = .ok (.bipush 12, 2) := dX10_unload_77_b.2.1
theorem dX10_unload_80 : decode cX10_unload 80 = .ok (.isub, 1) := dX10_unload_77_b.2.2.1
theorem dX10_unload_81 : decode cX10_unload 81 = .ok (.aload_n 0, 1) := dX10_unload_77_b.2.2.2.1
theorem dX10_unload_82 : decode cX10_unload 82 = .ok (.getfield 327, 3) := dX10_unload_77_b.2.2.2.2.1
theorem dX10_unload_85 : decode cX10_unload 85 = .ok (.invokevirtual 352, 3) := dX10_unload_77_b.2.2.2.2.2
set_option maxRecDepth 20000 in
theorem dX10_unload_88_b : (decode cX10_unload 88 = .ok (.invokevirtual 419, 3)) ∧ (decode cX10_unload 91 = .ok (.iastore, 1)) ∧ (decode cX10_unload 92 = .ok (.iconst 0, 1)) ∧ (decode cX10_unload 93 = .ok (.ireturn, 1)) := by decide +kernel
theorem dX10_unload_88 : decode cX10_unload 88 = .ok (.invokevirtual 419, 3) := dX10_unload_88_b.1
theorem dX10_unload_91 : decode cX10_unload 91 = .ok (.iastore, 1) := dX10_unload_88_b.2.1
theorem dX10_unload_92 : decode cX10_unload 92 = .ok (.iconst 0, 1) := dX10_unload_88_b.2.2.1
theorem dX10_unload_93 : decode cX10_unload 93 = .ok (.ireturn, 1) := dX10_unload_88_b.2.2.2
set_option maxRecDepth 20000 in
theorem dX10_ride_0_b : (decode cX10_ride 0 = .ok (.aload_n 0, 1)) ∧ (decode cX10_ride 1 = .ok (.iconst 0, 1)) ∧ (decode cX10_ride 2 = .ok (.putfield 171, 3)) ∧ (decode cX10_ride 5 = .ok (.aload_n 0, 1)) ∧ (decode cX10_ride 6 = .ok (.iload_n 1, 1)) ∧ (decode cX10_ride 7 = .ok (.iload_n 2, 1)) := by decide +kernel
theorem dX10_ride_0 : decode cX10_ride 0 = .ok (.aload_n 0, 1) := dX10_ride_0_b.1
theorem dX10_ride_1 : decode cX10_ride 1 = .ok (.iconst 0, 1) := dX10_ride_0_b.2.1
theorem dX10_ride_2 : decode cX10_ride 2 = .ok (.putfield 171, 3) := dX10_ride_0_b.2.2.1
theorem dX10_ride_5 : decode cX10_ride 5 = .ok (.aload_n 0, 1) := dX10_ride_0_b.2.2.2.1
theorem dX10_ride_6 : decode cX10_ride 6 = .ok (.iload_n 1, 1) := dX10_ride_0_b.2.2.2.2.1
theorem dX10_ride_7 : decode cX10_ride 7 = .ok (.iload_n 2, 1) := dX10_ride_0_b.2.2.2.2.2
set_option maxRecDepth 20000 in
theorem dX10_ride_8_b : (decode cX10_ride 8 = .ok (.invokevirtual 422, 3)) ∧ (decode cX10_ride 11 = .ok (.istore_n 3, 1)) ∧ (decode cX10_ride 12 = .ok (.iload_n 3, 1)) ∧ (decode cX10_ride 13 = .ok (.ifCond .eq 9, 3)) ∧ (decode cX10_ride 16 = .ok (.aload_n 0, 1)) ∧ (decode cX10_ride 17 = .ok (.iload_n 3, 1)) := by decide +kernel
theorem dX10_ride_8 : decode cX10_ride 8 = .ok (.invokevirtual 422, 3) := dX10_ride_8_b.1
theorem dX10_ride_11 : decode cX10_ride 11 = .ok (.istore_n 3, 1) := dX10_ride_8_b.2.1
theorem dX10_ride_12 : decode cX10_ride 12 = .ok (.iload_n 3, 1) := dX10_ride_8_b.2.2.1
theorem dX10_ride_13 : decode cX10_ride 13 = .ok (.ifCond .eq 9, 3) := dX10_ride_8_b.2.2.2.1
theorem dX10_ride_16 : decode cX10_ride 16 = .ok (.aload_n 0, 1) := dX10_ride_8_b.2.2.2.2.1
theorem dX10_ride_17 : decode cX10_ride 17 = .ok (.iload_n 3, 1) := dX10_ride_8_b.2.2.2.2.2
set_option maxRecDepth 20000 in
theorem dX10_ride_18_b : (decode cX10_ride 18 = .ok (.invokevirtual 412, 3)) ∧ (decode cX10_ride 21 = .ok (.ireturn, 1)) ∧ (decode cX10_ride 22 = .ok (.aload_n 0, 1)) ∧ (decode cX10_ride 23 = .ok (.iconst 2, 1)) ∧ (decode cX10_ride 24 = .ok (.iload_n 1, 1)) ∧ (decode cX10_ride 25 = .ok (.iload_n 2, 1)) := by decide +kernel
theorem dX10_ride_18 : decode cX10_ride 18 = .ok (.invokevirtual 412, 3) := dX10_ride_18_b.1
theorem dX10_ride_21 : decode cX10_ride 21 = .ok (.ireturn, 1) := dX10_ride_18_b.2.1
theorem dX10_ride_22 : decode cX10_ride 22 = .ok (.aload_n 0, 1) := dX10_ride_18_b.2.2.1
theorem dX10_ride_23 : decode cX10_ride 23 = .ok (.iconst 2, 1) := dX10_ride_18_b.2.2.2.1
theorem dX10_ride_24 : decode cX10_ride 24 = .ok (.iload_n 1, 1) := dX10_ride_18_b.2.2.2.2.1
theorem dX10_ride_25 : decode cX10_ride 25 = .ok (.iload_n 2, 1) := dX10_ride_18_b.2.2.2.2.2
set_option maxRecDepth 20000 in
theorem dX10_ride_26_b : (decode cX10_ride 26 = .ok (.aload_n 0, 1)) ∧ (decode cX10_ride 27 = .ok (.getfield 327, 3)) ∧ (decode cX10_ride 30 = .ok (.iload_n 2, 1)) ∧ (decode cX10_ride 31 = .ok (.iconst 2, 1)) ∧ (decode cX10_ride 32 = .ok (.if_icmp .ne 10, 3)) ∧ (decode cX10_ride 35 = .ok (.aload_n 0, 1)) := by decide +kernel
theorem dX10_ride_26 : decode cX10_ride 26 = .ok (.aload_n 0, 1) := dX10_ride_26_b.1
theorem dX10_ride_27 : decode cX10_ride 27 = .ok (.getfield 327, 3) := dX10_ride_26_b.2.1
theorem dX10_ride_30 : decode cX10_ride 30 = .ok (.iload_n 2, 1) := dX10_ride_26_b.2.2.1
theorem dX10_ride_31 : decode cX10_ride 31 = .ok (.iconst 2, 1) := dX10_ride_26_b.2.2.2.1
theorem dX10_ride_32 : decode cX10_ride 32 = .ok (.if_icmp .ne 10, 3) := dX10_ride_26_b.2.2.2.2.1
theorem dX10_ride_35 : decode cX10_ride 35 = .ok (.aload_n 0, 1) := dX10_ride_26_b.2.2.2.2.2
set_option maxRecDepth 20000 in
theorem dX10_ride_36_b : (decode cX10_ride 36 = .ok (.getfield 391, 3)) ∧ (decode cX10_ride 39 = .ok (.goto 4, 3)) ∧ (decode cX10_ride 42 = .ok (.iconst 0, 1)) ∧ (decode cX10_ride 43 = .ok (.invokevirtual 415, 3)) ∧ (decode cX10_ride 46 = .ok (.aload_n 0, 1)) ∧ (decode cX10_ride 47 = .ok (.iload_n 1, 1)) := by decide +kernel
theorem dX10_ride_36 : decode cX10_ride 36 = .ok (.getfield 391, 3) := dX10_ride_36_b.1
theorem dX10_ride_39 : decode cX10_ride 39 = .ok (.goto 4, 3) := dX10_ride_36_b.2.1
theorem dX10_ride_42 : decode cX10_ride 42 = .ok (.iconst 0, 1) := dX10_ride_36_b.2.2.1
theorem dX10_ride_43 : decode cX10_ride 43 = .ok (.invokevirtual 415, 3) := dX10_ride_36_b.2.2.2.1
theorem dX10_ride_46 : decode cX10_ride 46 = .ok (.aload_n 0, 1) := dX10_ride_36_b.2.2.2.2.1
theorem dX10_ride_47 : decode cX10_ride 47 = .ok (.iload_n 1, 1) := dX10_ride_36_b.2.2.2.2.2
set_option maxRecDepth 20000 in
theorem dX10_ride_48_b : (decode cX10_ride 48 = .ok (.putfield 327, 3)) ∧ (decode cX10_ride 51 = .ok (.iconst 0, 1)) ∧ (decode cX10_ride 52 = .ok (.ireturn, 1)) := by decide +kernel
theorem dX10_ride_48 : decode cX10_ride 48 = .ok (.putfield 327, 3) := dX10_ride_48_b.1
theorem dX10_ride_51 : decode cX10_ride 51 = .ok (.iconst 0, 1) := dX10_ride_48_b.2.1
theorem dX10_ride_52 : decode cX10_ride 52 = .ok (.ireturn, 1) := dX10_ride_48_b.2.2
set_option maxRecDepth 20000 in
theorem dX10_winding_0_b : (decode cX10_winding 0 = .ok (.aload_n 0, 1)) ∧ (decode cX10_winding 1 = .ok (.iconst 0, 1)) ∧ (decode cX10_winding 2 = .ok (.putfield 171, 3)) ∧ (decode cX10_winding 5 = .ok (.iload_n 1, 1)) ∧ (decode cX10_winding 6 = .ok (.iconst 0, 1)) ∧ (decode cX10_winding 7 = .ok (.aload_n 0, 1)) := by decide +kernel
theorem dX10_winding_0 : decode cX10_winding 0 = .ok (.aload_n 0, 1) := dX10_winding_0_b.1
theorem dX10_winding_1 : decode cX10_winding 1 = .ok (.iconst 0, 1) := dX10_winding_0_b.2.1
theorem dX10_winding_2 : decode cX10_winding 2 = .ok (.putfield 171, 3) := dX10_winding_0_b.2.2.1
theorem dX10_winding_5 : decode cX10_winding 5 = .ok (.iload_n 1, 1) := dX10_winding_0_b.2.2.2.1
theorem dX10_winding_6 : decode cX10_winding 6 = .ok (.iconst 0, 1) := dX10_winding_0_b.2.2.2.2.1
theorem dX10_winding_7 : decode cX10_winding 7 = .ok (.aload_n 0, 1) := dX10_winding_0_b.2.2.2.2.2
set_option maxRecDepth 20000 in
theorem dX10_winding_8_b : (decode cX10_winding 8 = .ok (.invokevirtual 346, 3)) ∧ (decode cX10_winding 11 = .ok (.invokestatic 177, 3)) ∧ (decode cX10_winding 14 = .ok (.ifCond .eq 11, 3)) ∧ (decode cX10_winding 17 = .ok (.iload_n 1, 1)) ∧ (decode cX10_winding 18 = .ok (.aload_n 0, 1)) ∧ (decode cX10_winding 19 = .ok (.getfield 327, 3)) := by decide +kernel
theorem dX10_winding_8 : decode cX10_winding 8 = .ok (.invokevirtual 346, 3) := dX10_winding_8_b.1
theorem dX10_winding_11 : decode cX10_winding 11 = .ok (.invokestatic 177, 3) := dX10_winding_8_b.2.1
theorem dX10_winding_14 : decode cX10_winding 14 = .ok (.ifCond .eq 11, 3) := dX10_winding_8_b.2.2.1
theorem dX10_winding_17 : decode cX10_winding 17 = .ok (.iload_n 1, 1) := dX10_winding_8_b.2.2.2.1
theorem dX10_winding_18 : decode cX10_winding 18 = .ok (.aload_n 0, 1) := dX10_winding_8_b.2.2.2.2.1
theorem dX10_winding_19 : decode cX10_winding 19 = .ok (.getfield 327, 3) := dX10_winding_8_b.2.2.2.2.2
set_option maxRecDepth 20000 in
theorem dX10_winding_22_b : (decode cX10_winding 22 = .ok (.if_icmp .ne 5, 3)) ∧ (decode cX10_winding 25 = .ok (.iconst (-1), 1)) ∧ (decode cX10_winding 26 = .ok (.ireturn, 1)) ∧ (decode cX10_winding 27 = .ok (.aload_n 0, 1)) ∧ (decode cX10_winding 28 = .ok (.aload_n 0, 1)) ∧ (decode cX10_winding 29 = .ok (.getfield 87, 3)) := by decide +kernel
theorem dX10_winding_22 : decode cX10_winding 22 = .ok (.if_icmp .ne 5, 3) := dX10_winding_22_b.1
theorem dX10_winding_25 : decode cX10_winding 25 = .ok (.iconst (-1), 1) := dX10_winding_22_b.2.1
theorem dX10_winding_26 : decode cX10_winding 26 = .ok (.ireturn, 1) := dX10_winding_22_b.2.2.1
theorem dX10_winding_27 : decode cX10_winding 27 = .ok (.aload_n 0, 1) := dX10_winding_22_b.2.2.2.1
theorem dX10_winding_28 : decode cX10_winding 28 = .ok (.aload_n 0, 1) := dX10_winding_22_b.2.2.2.2.1
theorem dX10_winding_29 : decode cX10_winding 29 = .ok (.getfield 87, 3) := dX10_winding_22_b.2.2.2.2.2
set_option maxRecDepth 20000 in
theorem dX10_winding_32_b : (decode cX10_winding 32 = .ok (.aload_n 0, 1)) ∧ (decode cX10_winding 33 = .ok (.getfield 327, 3)) ∧ (decode cX10_winding 36 = .ok (.iload_n 1, 1)) ∧ (decode cX10_winding 37 = .ok (.invokevirtual 405, 3)) ∧ (decode cX10_winding 40 = .ok (.aload_n 0, 1)) ∧ (decode cX10_winding 41 = .ok (.getfield 391, 3)) := by decide +kernel
theorem dX10_winding_32 : decode cX10_winding 32 = .ok (.aload_n 0, 1) := dX10_winding_32_b.1
theorem dX10_winding_33 : decode cX10_winding 33 = .ok (.getfield 327, 3) := dX10_winding_32_b.2.1
theorem dX10_winding_36 : decode cX10_winding 36 = .ok (.iload_n 1, 1) := dX10_winding_32_b.2.2.1
theorem dX10_winding_37 : decode cX10_winding 37 = .ok (.invokevirtual 405, 3) := dX10_winding_32_b.2.2.2.1
theorem dX10_winding_40 : decode cX10_winding 40 = .ok (.aload_n 0, 1) := dX10_winding_32_b.2.2.2.2.1
theorem dX10_winding_41 : decode cX10_winding 41 = .ok (.getfield 391, 3) := dX10_winding_32_b.2.2.2.2.2
theorem dX10_winding_44 : decode cX10_winding 44 = .ok (.ireturn, 1) := by decide +kernel
set_option maxRecDepth 20000 in
theorem dX10_may_0_b : (decode cX10_may 0 = .ok (.aload_n 0, 1)) ∧ (decode cX10_may 1 = .ok (.iconst 0, 1)) ∧ (decode cX10_may 2 = .ok (.putfield 171, 3)) ∧ (decode cX10_may 5 = .ok (.iload_n 1, 1)) ∧ (decode cX10_may 6 = .ok (.iconst 0, 1)) ∧ (decode cX10_may 7 = .ok (.aload_n 0, 1)) := by decide +kernel
theorem dX10_may_0 : decode cX10_may 0 = .ok (.aload_n 0, 1) := dX10_may_0_b.1
theorem dX10_may_1 : decode cX10_may 1 = .ok (.iconst 0, 1) := dX10_may_0_b.2.1
theorem dX10_may_2 : decode cX10_may 2 = .ok (.putfield 171, 3) := dX10_may_0_b.2.2.1
theorem dX10_may_5 : decode cX10_may 5 = .ok (.iload_n 1, 1) := dX10_may_0_b.2.2.2.1
theorem dX10_may_6 : decode cX10_may 6 = .ok (.iconst 0, 1) := dX10_may_0_b.2.2.2.2.1
theorem dX10_may_7 : decode cX10_may 7 = .ok (.aload_n 0, 1) := dX10_may_0_b.2.2.2.2.2
set_option maxRecDepth 20000 in
theorem dX10_may_8_b : (decode cX10_may 8 = .ok (.invokevirtual 346, 3)) ∧ (decode cX10_may 11 = .ok (.invokestatic 177, 3)) ∧ (decode cX10_may 14 = .ok (.ifCond .eq 37, 3)) ∧ (decode cX10_may 17 = .ok (.iload_n 1, 1)) ∧ (decode cX10_may 18 = .ok (.aload_n 0, 1)) ∧ (decode cX10_may 19 = .ok (.getfield 327, 3)) := by decide +kernel
theorem dX10_may_8 : decode cX10_may 8 = .ok (.invokevirtual 346, 3) := dX10_may_8_b.1
theorem dX10_may_11 : decode cX10_may 11 = .ok (.invokestatic 177, 3) := dX10_may_8_b.2.1
theorem dX10_may_14 : decode cX10_may 14 = .ok (.ifCond .eq 37, 3) := dX10_may_8_b.2.2.1
theorem dX10_may_17 : decode cX10_may 17 = .ok (.iload_n 1, 1) := dX10_may_8_b.2.2.2.1
theorem dX10_may_18 : decode cX10_may 18 = .ok (.aload_n 0, 1) := dX10_may_8_b.2.2.2.2.1
theorem dX10_may_19 : decode cX10_may 19 = .ok (.getfield 327, 3) := dX10_may_8_b.2.2.2.2.2
set_option maxRecDepth 20000 in
theorem dX10_may_22_b : (decode cX10_may 22 = .ok (.if_icmp .eq 29, 3)) ∧ (decode cX10_may 25 = .ok (.aload_n 0, 1)) ∧ (decode cX10_may 26 = .ok (.aload_n 0, 1)) ∧ (decode cX10_may 27 = .ok (.getfield 87, 3)) ∧ (decode cX10_may 30 = .ok (.invokevirtual 397, 3)) ∧ (decode cX10_may 33 = .ok (.ifCond .eq 18, 3)) := by decide +kernel
theorem dX10_may_22 : decode cX10_may 22 = .ok (.if_icmp .eq 29, 3) := dX10_may_22_b.1
theorem dX10_may_25 : decode cX10_may 25 = .ok (.aload_n 0, 1) := dX10_may_22_b.2.1
theorem dX10_may_26 : decode cX10_may 26 = .ok (.aload_n 0, 1) := dX10_may_22_b.2.2.1
theorem dX10_may_27 : decode cX10_may 27 = .ok (.getfield 87, 3) := dX10_may_22_b.2.2.2.1
theorem dX10_may_30 : decode cX10_may 30 = .ok (.invokevirtual 397, 3) := dX10_may_22_b.2.2.2.2.1
theorem dX10_may_33 : decode cX10_may 33 = .ok (.ifCond .eq 18, 3) := dX10_may_22_b.2.2.2.2.2
set_option maxRecDepth 20000 in
theorem dX10_may_36_b : (decode cX10_may 36 = .ok (.aload_n 0, 1)) ∧ (decode cX10_may 37 = .ok (.aload_n 0, 1)) ∧ (decode cX10_may 38 = .ok (.getfield 87, 3)) ∧ (decode cX10_may 41 = .ok (.aload_n 0, 1)) ∧ (decode cX10_may 42 = .ok (.getfield 327, 3)) ∧ (decode cX10_may 45 = .ok (.invokevirtual 401, 3)) := by decide +kernel
theorem dX10_may_36 : decode cX10_may 36 = .ok (.aload_n 0, 1) := dX10_may_36_b.1
theorem dX10_may_37 : decode cX10_may 37 = .ok (.aload_n 0, 1) := dX10_may_36_b.2.1
theorem dX10_may_38 : decode cX10_may 38 = .ok (.getfield 87, 3) := dX10_may_36_b.2.2.1
theorem dX10_may_41 : decode cX10_may 41 = .ok (.aload_n 0, 1) := dX10_may_36_b.2.2.2.1
theorem dX10_may_42 : decode cX10_may 42 = .ok (.getfield 327, 3) := dX10_may_36_b.2.2.2.2.1
theorem dX10_may_45 : decode cX10_may 45 = .ok (.invokevirtual 401, 3) := dX10_may_36_b.2.2.2.2.2
set_option maxRecDepth 20000 in
theorem dX10_may_48_b : (decode cX10_may 48 = .ok (.ifCond .ne 5, 3)) ∧ (decode cX10_may 51 = .ok (.iconst 0, 1)) ∧ (decode cX10_may 52 = .ok (.ireturn, 1)) ∧ (decode cX10_may 53 = .ok (.aload_n 0, 1)) ∧ (decode cX10_may 54 = .ok (.aload_n 0, 1)) ∧ (decode cX10_may 55 = .ok (.getfield 87, 3)) := by decide +kernel
theorem dX10_may_48 : decode cX10_may 48 = .ok (.ifCond .ne 5, 3) := dX10_may_48_b.1
theorem dX10_may_51 : decode cX10_may 51 = .ok (.iconst 0, 1) := dX10_may_48_b.2.1
theorem dX10_may_52 : decode cX10_may 52 = .ok (.ireturn, 1) := dX10_may_48_b.2.2.1
theorem dX10_may_53 : decode cX10_may 53 = .ok (.aload_n 0, 1) := dX10_may_48_b.2.2.2.1
theorem dX10_may_54 : decode cX10_may 54 = .ok (.aload_n 0, 1) := dX10_may_48_b.2.2.2.2.1
theorem dX10_may_55 : decode cX10_may 55 = .ok (.getfield 87, 3) := dX10_may_48_b.2.2.2.2.2
set_option maxRecDepth 20000 in
theorem dX10_may_58_b : (decode cX10_may 58 = .ok (.aload_n 0, 1)) ∧ (decode cX10_may 59 = .ok (.getfield 327, 3)) ∧ (decode cX10_may 62 = .ok (.iload_n 1, 1)) ∧ (decode cX10_may 63 = .ok (.invokevirtual 405, 3)) ∧ (decode cX10_may 66 = .ok (.iconst 0, 1)) ∧ (decode cX10_may 67 = .ok (.istore_n 2, 1)) := by decide +kernel
theorem dX10_may_58 : decode cX10_may 58 = .ok (.aload_n 0, 1) := dX10_may_58_b.1
theorem dX10_may_59 : decode cX10_may 59 = .ok (.getfield 327, 3) := dX10_may_58_b.2.1
theorem dX10_may_62 : decode cX10_may 62 = .ok (.iload_n 1, 1) := dX10_may_58_b.2.2.1
theorem dX10_may_63 : decode cX10_may 63 = .ok (.invokevirtual 405, 3) := dX10_may_58_b.2.2.2.1
theorem dX10_may_66 : decode cX10_may 66 = .ok (.iconst 0, 1) := dX10_may_58_b.2.2.2.2.1
theorem dX10_may_67 : decode cX10_may 67 = .ok (.istore_n 2, 1) := dX10_may_58_b.2.2.2.2.2
set_option maxRecDepth 20000 in
theorem dX10_may_68_b : (decode cX10_may 68 = .ok (.iconst 0, 1)) ∧ (decode cX10_may 69 = .ok (.istore_n 3, 1)) ∧ (decode cX10_may 70 = .ok (.iload_n 3, 1)) ∧ (decode cX10_may 71 = .ok (.iconst 2, 1)) ∧ (decode cX10_may 72 = .ok (.if_icmp .gt 27, 3)) ∧ (decode cX10_may 75 = .ok (.iload_n 2, 1)) := by decide +kernel
theorem dX10_may_68 : decode cX10_may 68 = .ok (.iconst 0, 1) := dX10_may_68_b.1
theorem dX10_may_69 : decode cX10_may 69 = .ok (.istore_n 3, 1) := dX10_may_68_b.2.1
theorem dX10_may_70 : decode cX10_may 70 = .ok (.iload_n 3, 1) := dX10_may_68_b.2.2.1
theorem dX10_may_71 : decode cX10_may 71 = .ok (.iconst 2, 1) := dX10_may_68_b.2.2.2.1
theorem dX10_may_72 : decode cX10_may 72 = .ok (.if_icmp .gt 27, 3) := dX10_may_68_b.2.2.2.2.1
theorem dX10_may_75 : decode cX10_may 75 = .ok (.iload_n 2, 1) := dX10_may_68_b.2.2.2.2.2
set_option maxRecDepth 20000 in
theorem dX10_may_76_b : (decode cX10_may 76 = .ok (.aload_n 0, 1)) ∧ (decode cX10_may 77 = .ok (.iload_n 3, 1)) ∧ (decode cX10_may 78 = .ok (.invokevirtual 409, 3)) ∧ (decode cX10_may 81 = .ok (.ifCond .ne 9, 3)) ∧ (decode cX10_may 84 = .ok (.iconst 1, 1)) ∧ (decode cX10_may 85 = .ok (.iload_n 3, 1)) := by decide +kernel
theorem dX10_may_76 : decode cX10_may 76 = .ok (.aload_n 0, 1) := dX10_may_76_b.1
theorem dX10_may_77 : decode cX10_may 77 = .ok (.iload_n 3, 1) := dX10_may_76_b.2.1
theorem dX10_may_78 : decode cX10_may 78 = .ok (.invokevirtual 409, 3) := dX10_may_76_b.2.2.1
theorem dX10_may_81 : decode cX10_may 81 = .ok (.ifCond .ne 9, 3) := dX10_may_76_b.2.2.2.1
theorem dX10_may_84 : decode cX10_may 84 = .ok (.iconst 1, 1) := dX10_may_76_b.2.2.2.2.1
theorem dX10_may_85 : decode cX10_may 85 = .ok (.iload_n 3, 1) := dX10_may_76_b.2.2.2.2.2
set_option maxRecDepth 20000 in
theorem dX10_may_86_b : (decode cX10_may 86 = .ok (.ishl, 1)) ∧ (decode cX10_may 87 = .ok (.goto 4, 3)) ∧ (decode cX10_may 90 = .ok (.iconst 0, 1)) ∧ (decode cX10_may 91 = .ok (.ior, 1)) ∧ (decode cX10_may 92 = .ok (.istore_n 2, 1)) ∧ (decode cX10_may 93 = .ok (.iinc 3 1, 3)) := by decide +kernel
theorem dX10_may_86 : decode cX10_may 86 = .ok (.ishl, 1) := dX10_may_86_b.1
theorem dX10_may_87 : decode cX10_may 87 = .ok (.goto 4, 3) := dX10_may_86_b.2.1
theorem dX10_may_90 : decode cX10_may 90 = .ok (.iconst 0, 1) := dX10_may_86_b.2.2.1
theorem dX10_may_91 : decode cX10_may 91 = .ok (.ior, 1) := dX10_may_86_b.2.2.2.1
theorem dX10_may_92 : decode cX10_may 92 = .ok (.istore_n 2, 1) := dX10_may_86_b.2.2.2.2.1
theorem dX10_may_93 : decode cX10_may 93 = .ok (.iinc 3 1, 3) := dX10_may_86_b.2.2.2.2.2
set_option maxRecDepth 20000 in
theorem dX10_may_96_b : (decode cX10_may 96 = .ok (.goto (-26), 3)) ∧ (decode cX10_may 99 = .ok (.iload_n 2, 1)) ∧ (decode cX10_may 100 = .ok (.ireturn, 1)) := by decide +kernel
theorem dX10_may_96 : decode cX10_may 96 = .ok (.goto (-26), 3) := dX10_may_96_b.1
theorem dX10_may_99 : decode cX10_may 99 = .ok (.iload_n 2, 1) := dX10_may_96_b.2.1
theorem dX10_may_100 : decode cX10_may 100 = .ok (.ireturn, 1) := dX10_may_96_b.2.2
set_option maxRecDepth 20000 in
theorem dX10_undo_0_b : (decode cX10_undo 0 = .ok (.aload_n 0, 1)) ∧ (decode cX10_undo 1 = .ok (.iconst 0, 1)) ∧ (decode cX10_undo 2 = .ok (.putfield 171, 3)) ∧ (decode cX10_undo 5 = .ok (.aload_n 0, 1)) ∧ (decode cX10_undo 6 = .ok (.getfield 330, 3)) ∧ (decode cX10_undo 9 = .ok (.ifCond .ne 5, 3)) := by decide +kernel
theorem dX10_undo_0 : decode cX10_undo 0 = .ok (.aload_n 0, 1) := dX10_undo_0_b.1
theorem dX10_undo_1 : decode cX10_undo 1 = .ok (.iconst 0, 1) := dX10_undo_0_b.2.1
theorem dX10_undo_2 : decode cX10_undo 2 = .ok (.putfield 171, 3) := dX10_undo_0_b.2.2.1
theorem dX10_undo_5 : decode cX10_undo 5 = .ok (.aload_n 0, 1) := dX10_undo_0_b.2.2.2.1
theorem dX10_undo_6 : decode cX10_undo 6 = .ok (.getfield 330, 3) := dX10_undo_0_b.2.2.2.2.1
theorem dX10_undo_9 : decode cX10_undo 9 = .ok (.ifCond .ne 5, 3) := dX10_undo_0_b.2.2.2.2.2
set_option maxRecDepth 20000 in
theorem dX10_undo_12_b : (decode cX10_undo 12 = .ok (.iconst (-1), 1)) ∧ (decode cX10_undo 13 = .ok (.ireturn, 1)) ∧ (decode cX10_undo 14 = .ok (.aload_n 0, 1)) ∧ (decode cX10_undo 15 = .ok (.dup, 1)) ∧ (decode cX10_undo 16 = .ok (.getfield 330, 3)) ∧ (decode cX10_undo 19 = .ok (.iconst 1, 1)) := by decide +kernel
theorem dX10_undo_12 : decode cX10_undo 12 = .ok (.iconst (-1), 1) := dX10_undo_12_b.1
theorem dX10_undo_13 : decode cX10_undo 13 = .ok (.ireturn, 1) := dX10_undo_12_b.2.1
theorem dX10_undo_14 : decode cX10_undo 14 = .ok (.aload_n 0, 1) := dX10_undo_12_b.2.2.1
theorem dX10_undo_15 : decode cX10_undo 15 = .ok (.dup, 1) := dX10_undo_12_b.2.2.2.1
theorem dX10_undo_16 : decode cX10_undo 16 = .ok (.getfield 330, 3) := dX10_undo_12_b.2.2.2.2.1
theorem dX10_undo_19 : decode cX10_undo 19 = .ok (.iconst 1, 1) := dX10_undo_12_b.2.2.2.2.2
set_option maxRecDepth 20000 in
theorem dX10_undo_20_b : (decode cX10_undo 20 = .ok (.isub, 1)) ∧ (decode cX10_undo 21 = .ok (.putfield 330, 3)) ∧ (decode cX10_undo 24 = .ok (.aload_n 0, 1)) ∧ (decode cX10_undo 25 = .ok (.dup, 1)) ∧ (decode cX10_undo 26 = .ok (.getfield 333, 3)) ∧ (decode cX10_undo 29 = .ok (.aload_n 0, 1)) := by decide +kernel
theorem dX10_undo_20 : decode cX10_undo 20 = .ok (.isub, 1) := dX10_undo_20_b.1
theorem dX10_undo_21 : decode cX10_undo 21 = .ok (.putfield 330, 3) := dX10_undo_20_b.2.1
theorem dX10_undo_24 : decode cX10_undo 24 = .ok (.aload_n 0, 1) := dX10_undo_20_b.2.2.1
theorem dX10_undo_25 : decode cX10_undo 25 = .ok (.dup, 1) := dX10_undo_20_b.2.2.2.1
theorem dX10_undo_26 : decode cX10_undo 26 = .ok (.getfield 333, 3) := dX10_undo_20_b.2.2.2.2.1
theorem dX10_undo_29 : decode cX10_undo 29 = .ok (.aload_n 0, 1) := dX10_undo_20_b.2.2.2.2.2
set_option maxRecDepth 20000 in
theorem dX10_undo_30_b : (decode cX10_undo 30 = .ok (.getfield 105, 3)) ∧ (decode cX10_undo 33 = .ok (.aload_n 0, 1)) ∧ (decode cX10_undo 34 = .ok (.getfield 330, 3)) ∧ (decode cX10_undo 37 = .ok (.iaload, 1)) ∧ (decode cX10_undo 38 = .ok (.isub, 1)) ∧ (decode cX10_undo 39 = .ok (.putfield 333, 3)) := by decide +kernel
theorem dX10_undo_30 : decode cX10_undo 30 = .ok (.getfield 105, 3) := dX10_undo_30_b.1
theorem dX10_undo_33 : decode cX10_undo 33 = .ok (.aload_n 0, 1) := dX10_undo_30_b.2.1
theorem dX10_undo_34 : decode cX10_undo 34 = .ok (.getfield 330, 3) := dX10_undo_30_b.2.2.1
theorem dX10_undo_37 : decode cX10_undo 37 = .ok (.iaload, 1) := dX10_undo_30_b.2.2.2.1
theorem dX10_undo_38 : decode cX10_undo 38 = .ok (.isub, 1) := dX10_undo_30_b.2.2.2.2.1
theorem dX10_undo_39 : decode cX10_undo 39 = .ok (.putfield 333, 3) := dX10_undo_30_b.2.2.2.2.2
set_option maxRecDepth 20000 in
theorem dX10_undo_42_b : (decode cX10_undo 42 = .ok (.aload_n 0, 1)) ∧ (decode cX10_undo 43 = .ok (.getfield 93, 3)) ∧ (decode cX10_undo 46 = .ok (.aload_n 0, 1)) ∧ (decode cX10_undo 47 = .ok (.getfield 330, 3)) ∧ (decode cX10_undo 50 = .ok (.iaload, 1)) ∧ (decode cX10_undo 51 = .ok (.iconst 2, 1)) := by decide +kernel
theorem dX10_undo_42 : decode cX10_undo 42 = .ok (.aload_n 0, 1) := dX10_undo_42_b.1
theorem dX10_undo_43 : decode cX10_undo 43 = .ok (.getfield 93, 3) := dX10_undo_42_b.2.1
theorem dX10_undo_46 : decode cX10_undo 46 = .ok (.aload_n 0, 1) := dX10_undo_42_b.2.2.1
theorem dX10_undo_47 : decode cX10_undo 47 = .ok (.getfield 330, 3) := dX10_undo_42_b.2.2.2.1
theorem dX10_undo_50 : decode cX10_undo 50 = .ok (.iaload, 1) := dX10_undo_42_b.2.2.2.2.1
theorem dX10_undo_51 : decode cX10_undo 51 = .ok (.iconst 2, 1) := dX10_undo_42_b.2.2.2.2.2
set_option maxRecDepth 20000 in
theorem dX10_undo_52_b : (decode cX10_undo 52 = .ok (.if_icmp .ne 19, 3)) ∧ (decode cX10_undo 55 = .ok (.aload_n 0, 1)) ∧ (decode cX10_undo 56 = .ok (.aload_n 0, 1)) ∧ (decode cX10_undo 57 = .ok (.getfield 102, 3)) ∧ (decode cX10_undo 60 = .ok (.aload_n 0, 1)) ∧ (decode cX10_undo 61 = .ok (.getfield 330, 3)) := by decide +kernel
theorem dX10_undo_52 : decode cX10_undo 52 = .ok (.if_icmp .ne 19, 3) := dX10_undo_52_b.1
theorem dX10_undo_55 : decode cX10_undo 55 = .ok (.aload_n 0, 1) := dX10_undo_52_b.2.1
theorem dX10_undo_56 : decode cX10_undo 56 = .ok (.aload_n 0, 1) := dX10_undo_52_b.2.2.1
theorem dX10_undo_57 : decode cX10_undo 57 = .ok (.getfield 102, 3) := dX10_undo_52_b.2.2.2.1
theorem dX10_undo_60 : decode cX10_undo 60 = .ok (.aload_n 0, 1) := dX10_undo_52_b.2.2.2.2.1
theorem dX10_undo_61 : decode cX10_undo 61 = .ok (.getfield 330, 3) := dX10_undo_52_b.2.2.2.2.2
set_option maxRecDepth 20000 in
theorem dX10_undo_64_b : (decode cX10_undo 64 = .ok (.iaload, 1)) ∧ (decode cX10_undo 65 = .ok (.putfield 327, 3)) ∧ (decode cX10_undo 68 = .ok (.goto 26, 3)) ∧ (decode cX10_undo 71 = .ok (.aload_n 0, 1)) ∧ (decode cX10_undo 72 = .ok (.getfield 87, 3)) ∧ (decode cX10_undo 75 = .ok (.aload_n 0, 1)) := by decide +kernel
theorem dX10_undo_64 : decode cX10_undo 64 = .ok (.iaload, 1) := dX10_undo_64_b.1
theorem dX10_undo_65 : decode cX10_undo 65 = .ok (.putfield 327, 3) := dX10_undo_64_b.2.1
theorem dX10_undo_68 : decode cX10_undo 68 = .ok (.goto 26, 3) := dX10_undo_64_b.2.2.1
theorem dX10_undo_71 : decode cX10_undo 71 = .ok (.aload_n 0, 1) := dX10_undo_64_b.2.2.2.1
theorem dX10_undo_72 : decode cX10_undo 72 = .ok (.getfield 87, 3) := dX10_undo_64_b.2.2.2.2.1
theorem dX10_undo_75 : decode cX10_undo 75 = .ok (.aload_n 0, 1) := dX10_undo_64_b.2.2.2.2.2
set_option maxRecDepth 20000 in
theorem dX10_undo_76_b : (decode cX10_undo 76 = .ok (.getfield 96, 3)) ∧ (decode cX10_undo 79 = .ok (.aload_n 0, 1)) ∧ (decode cX10_undo 80 = .ok (.getfield 330, 3)) ∧ (decode cX10_undo 83 = .ok (.iaload, 1)) ∧ (decode cX10_undo 84 = .ok (.aload_n 0, 1)) ∧ (decode cX10_undo 85 = .ok (.getfield 102, 3)) := by decide +kernel
theorem dX10_undo_76 : decode cX10_undo 76 = .ok (.getfield 96, 3) := dX10_undo_76_b.1
theorem dX10_undo_79 : decode cX10_undo 79 = .ok (.aload_n 0, 1) := dX10_undo_76_b.2.1
theorem dX10_undo_80 : decode cX10_undo 80 = .ok (.getfield 330, 3) := dX10_undo_76_b.2.2.1
theorem dX10_undo_83 : decode cX10_undo 83 = .ok (.iaload, 1) := dX10_undo_76_b.2.2.2.1
theorem dX10_undo_84 : decode cX10_undo 84 = .ok (.aload_n 0, 1) := dX10_undo_76_b.2.2.2.2.1
theorem dX10_undo_85 : decode cX10_undo 85 = .ok (.getfield 102, 3) := dX10_undo_76_b.2.2.2.2.2
set_option maxRecDepth 20000 in
theorem dX10_undo_88_b : (decode cX10_undo 88 = .ok (.aload_n 0, 1)) ∧ (decode cX10_undo 89 = .ok (.getfield 330, 3)) ∧ (decode cX10_undo 92 = .ok (.iaload, 1)) ∧ (decode cX10_undo 93 = .ok (.iastore, 1)) ∧ (decode cX10_undo 94 = .ok (.aload_n 0, 1)) ∧ (decode cX10_undo 95 = .ok (.getfield 330, 3)) := by decide +kernel
theorem dX10_undo_88 : decode cX10_undo 88 = .ok (.aload_n 0, 1) := dX10_undo_88_b.1
theorem dX10_undo_89 : decode cX10_undo 89 = .ok (.getfield 330, 3) := dX10_undo_88_b.2.1
theorem dX10_undo_92 : decode cX10_undo 92 = .ok (.iaload, 1) := dX10_undo_88_b.2.2.1
theorem dX10_undo_93 : decode cX10_undo 93 = .ok (.iastore, 1) := dX10_undo_88_b.2.2.2.1
theorem dX10_undo_94 : decode cX10_undo 94 = .ok (.aload_n 0, 1) := dX10_undo_88_b.2.2.2.2.1
theorem dX10_undo_95 : decode cX10_undo 95 = .ok (.getfield 330, 3) := dX10_undo_88_b.2.2.2.2.2
theorem dX10_undo_98 : decode cX10_undo 98 = .ok (.ireturn, 1) := by decide +kernel
set_option maxRecDepth 20000 in
theorem dX10_moved_0_b : (decode cX10_moved 0 = .ok (.aload_n 0, 1)) ∧ (decode cX10_moved 1 = .ok (.iconst 0, 1)) ∧ (decode cX10_moved 2 = .ok (.putfield 171, 3)) ∧ (decode cX10_moved 5 = .ok (.iload_n 1, 1)) ∧ (decode cX10_moved 6 = .ok (.iconst 0, 1)) ∧ (decode cX10_moved 7 = .ok (.aload_n 0, 1)) := by decide +kernel
theorem dX10_moved_0 : decode cX10_moved 0 = .ok (.aload_n 0, 1) := dX10_moved_0_b.1
theorem dX10_moved_1 : decode cX10_moved 1 = .ok (.iconst 0, 1) := dX10_moved_0_b.2.1
theorem dX10_moved_2 : decode cX10_moved 2 = .ok (.putfield 171, 3) := dX10_moved_0_b.2.2.1
theorem dX10_moved_5 : decode cX10_moved 5 = .ok (.iload_n 1, 1) := dX10_moved_0_b.2.2.2.1
theorem dX10_moved_6 : decode cX10_moved 6 = .ok (.iconst 0, 1) := dX10_moved_0_b.2.2.2.2.1
theorem dX10_moved_7 : decode cX10_moved 7 = .ok (.aload_n 0, 1) := dX10_moved_0_b.2.2.2.2.2
set_option maxRecDepth 20000 in
theorem dX10_moved_8_b : (decode cX10_moved 8 = .ok (.getfield 330, 3)) ∧ (decode cX10_moved 11 = .ok (.iconst 1, 1)) ∧ (decode cX10_moved 12 = .ok (.isub, 1)) ∧ (decode cX10_moved 13 = .ok (.invokestatic 177, 3)) ∧ (decode cX10_moved 16 = .ok (.ifCond .ne 9, 3)) ∧ (decode cX10_moved 19 = .ok (.aload_n 0, 1)) := by decide +kernel
theorem dX10_moved_8 : decode cX10_moved 8 = .ok (.getfield 330, 3) := dX10_moved_8_b.1
theorem dX10_moved_11 : decode cX10_moved 11 = .ok (.iconst 1, 1) := dX10_moved_8_b.2.1
theorem dX10_moved_12 : decode cX10_moved 12 = .ok (.isub, 1) := dX10_moved_8_b.2.2.1
theorem dX10_moved_13 : decode cX10_moved 13 = .ok (.invokestatic 177, 3) := dX10_moved_8_b.2.2.2.1
theorem dX10_moved_16 : decode cX10_moved 16 = .ok (.ifCond .ne 9, 3) := dX10_moved_8_b.2.2.2.2.1
theorem dX10_moved_19 : decode cX10_moved 19 = .ok (.aload_n 0, 1) := dX10_moved_8_b.2.2.2.2.2
set_option maxRecDepth 20000 in
theorem dX10_moved_20_b : (decode cX10_moved 20 = .ok (.iconst 1, 1)) ∧ (decode cX10_moved 21 = .ok (.invokevirtual 315, 3)) ∧ (decode cX10_moved 24 = .ok (.ireturn, 1)) ∧ (decode cX10_moved 25 = .ok (.iload_n 2, 1)) ∧ (decode cX10_moved 26 = .ok (.ifCond .ne 12, 3)) ∧ (decode cX10_moved 29 = .ok (.aload_n 0, 1)) := by decide +kernel
theorem dX10_moved_20 : decode cX10_moved 20 = .ok (.iconst 1, 1) := dX10_moved_20_b.1
theorem dX10_moved_21 : decode cX10_moved 21 = .ok (.invokevirtual 315, 3) := dX10_moved_20_b.2.1
theorem dX10_moved_24 : decode cX10_moved 24 = .ok (.ireturn, 1) := dX10_moved_20_b.2.2.1
theorem dX10_moved_25 : decode cX10_moved 25 = .ok (.iload_n 2, 1) := dX10_moved_20_b.2.2.2.1
theorem dX10_moved_26 : decode cX10_moved 26 = .ok (.ifCond .ne 12, 3) := dX10_moved_20_b.2.2.2.2.1
theorem dX10_moved_29 : decode cX10_moved 29 = .ok (.aload_n 0, 1) := dX10_moved_20_b.2.2.2.2.2
set_option maxRecDepth 20000 in
theorem dX10_moved_30_b : (decode cX10_moved 30 = .ok (.getfield 93, 3)) ∧ (decode cX10_moved 33 = .ok (.iload_n 1, 1)) ∧ (decode cX10_moved 34 = .ok (.iaload, 1)) ∧ (decode cX10_moved 35 = .ok (.goto 36, 3)) ∧ (decode cX10_moved 38 = .ok (.iload_n 2, 1)) ∧ (decode cX10_moved 39 = .ok (.iconst 1, 1)) := by decide +kernel
theorem dX10_moved_30 : decode cX10_moved 30 = .ok (.getfield 93, 3) := dX10_moved_30_b.1
theorem dX10_moved_33 : decode cX10_moved 33 = .ok (.iload_n 1, 1) := dX10_moved_30_b.2.1
theorem dX10_moved_34 : decode cX10_moved 34 = .ok (.iaload, 1) := dX10_moved_30_b.2.2.1
theorem dX10_moved_35 : decode cX10_moved 35 = .ok (.goto 36, 3) := dX10_moved_30_b.2.2.2.1
theorem dX10_moved_38 : decode cX10_moved 38 = .ok (.iload_n 2, 1) := dX10_moved_30_b.2.2.2.2.1
theorem dX10_moved_39 : decode cX10_moved 39 = .ok (.iconst 1, 1) := dX10_moved_30_b.2.2.2.2.2
set_option maxRecDepth 20000 in
theorem dX10_moved_40_b : (decode cX10_moved 40 = .ok (.if_icmp .ne 12, 3)) ∧ (decode cX10_moved 43 = .ok (.aload_n 0, 1)) ∧ (decode cX10_moved 44 = .ok (.getfield 96, 3)) ∧ (decode cX10_moved 47 = .ok (.iload_n 1, 1)) ∧ (decode cX10_moved 48 = .ok (.iaload, 1)) ∧ (decode cX10_moved 49 = .ok (.goto 22, 3)) := by decide +kernel
theorem dX10_moved_40 : decode cX10_moved 40 = .ok (.if_icmp .ne 12, 3) := dX10_moved_40_b.1
theorem dX10_moved_43 : decode cX10_moved 43 = .ok (.aload_n 0, 1) := dX10_moved_40_b.2.1
theorem dX10_moved_44 : decode cX10_moved 44 = .ok (.getfield 96, 3) := dX10_moved_40_b.2.2.1
theorem dX10_moved_47 : decode cX10_moved 47 = .ok (.iload_n 1, 1) := dX10_moved_40_b.2.2.2.1
theorem dX10_moved_48 : decode cX10_moved 48 = .ok (.iaload, 1) := dX10_moved_40_b.2.2.2.2.1
theorem dX10_moved_49 : decode cX10_moved 49 = .ok (.goto 22, 3) := dX10_moved_40_b.2.2.2.2.2
set_option maxRecDepth 20000 in
theorem dX10_moved_52_b : (decode cX10_moved 52 = .ok (.iload_n 2, 1)) ∧ (decode cX10_moved 53 = .ok (.iconst 2, 1)) ∧ (decode cX10_moved 54 = .ok (.if_icmp .ne 12, 3)) ∧ (decode cX10_moved 57 = .ok (.aload_n 0, 1)) ∧ (decode cX10_moved 58 = .ok (.getfield 99, 3)) ∧ (decode cX10_moved 61 = .ok (.iload_n 1, 1)) := by decide +kernel
theorem dX10_moved_52 : decode cX10_moved 52 = .ok (.iload_n 2, 1) := dX10_moved_52_b.1
theorem dX10_moved_53 : decode cX10_moved 53 = .ok (.iconst 2, 1) := dX10_moved_52_b.2.1
theorem dX10_moved_54 : decode cX10_moved 54 = .ok (.if_icmp .ne 12, 3) := dX10_moved_52_b.2.2.1
theorem dX10_moved_57 : decode cX10_moved 57 = .ok (.aload_n 0, 1) := dX10_moved_52_b.2.2.2.1
theorem dX10_moved_58 : decode cX10_moved 58 = .ok (.getfield 99, 3) := dX10_moved_52_b.2.2.2.2.1
theorem dX10_moved_61 : decode cX10_moved 61 = .ok (.iload_n 1, 1) := dX10_moved_52_b.2.2.2.2.2
set_option maxRecDepth 20000 in
theorem dX10_moved_62_b : (decode cX10_moved 62 = .ok (.iaload, 1)) ∧ (decode cX10_moved 63 = .ok (.goto 8, 3)) ∧ (decode cX10_moved 66 = .ok (.aload_n 0, 1)) ∧ (decode cX10_moved 67 = .ok (.iconst 1, 1)) ∧ (decode cX10_moved 68 = .ok (.invokevirtual 315, 3)) ∧ (decode cX10_moved 71 = .ok (.ireturn, 1)) := by decide +kernel
theorem dX10_moved_62 : decode cX10_moved 62 = .ok (.iaload, 1) := dX10_moved_62_b.1
theorem dX10_moved_63 : decode cX10_moved 63 = .ok (.goto 8, 3) := dX10_moved_62_b.2.1
theorem dX10_moved_66 : decode cX10_moved 66 = .ok (.aload_n 0, 1) := dX10_moved_62_b.2.2.1
theorem dX10_moved_67 : decode cX10_moved 67 = .ok (.iconst 1, 1) := dX10_moved_62_b.2.2.2.1
theorem dX10_moved_68 : decode cX10_moved 68 = .ok (.invokevirtual 315, 3) := dX10_moved_62_b.2.2.2.2.1
theorem dX10_moved_71 : decode cX10_moved 71 = .ok (.ireturn, 1) := dX10_moved_62_b.2.2.2.2.2
set_option maxRecDepth 20000 in
theorem dX10_back_0_b : (decode cX10_back 0 = .ok (.aload_n 0, 1)) ∧ (decode cX10_back 1 = .ok (.iconst 0, 1)) ∧ (decode cX10_back 2 = .ok (.putfield 171, 3)) ∧ (decode cX10_back 5 = .ok (.iconst 0, 1)) ∧ (decode cX10_back 6 = .ok (.istore_n 1, 1)) ∧ (decode cX10_back 7 = .ok (.iload_n 1, 1)) := by decide +kernel
theorem dX10_back_0 : decode cX10_back 0 = .ok (.aload_n 0, 1) := dX10_back_0_b.1
theorem dX10_back_1 : decode cX10_back 1 = .ok (.iconst 0, 1) := dX10_back_0_b.2.1
theorem dX10_back_2 : decode cX10_back 2 = .ok (.putfield 171, 3) := dX10_back_0_b.2.2.1
theorem dX10_back_5 : decode cX10_back 5 = .ok (.iconst 0, 1) := dX10_back_0_b.2.2.2.1
theorem dX10_back_6 : decode cX10_back 6 = .ok (.istore_n 1, 1) := dX10_back_0_b.2.2.2.2.1
theorem dX10_back_7 : decode cX10_back 7 = .ok (.iload_n 1, 1) := dX10_back_0_b.2.2.2.2.2
set_option maxRecDepth 20000 in
theorem dX10_back_8_b : (decode cX10_back 8 = .ok (.bipush 7, 2)) ∧ (decode cX10_back 10 = .ok (.if_icmp .ge 21, 3)) ∧ (decode cX10_back 13 = .ok (.aload_n 0, 1)) ∧ (decode cX10_back 14 = .ok (.getfield 114, 3)) ∧ (decode cX10_back 17 = .ok (.iload_n 1, 1)) ∧ (decode cX10_back 18 = .ok (.aload_n 0, 1)) := by decide +kernel
theorem dX10_back_8 : decode cX10_back 8 = .ok (.bipush 7, 2) := dX10_back_8_b.1
theorem dX10_back_10 : decode cX10_back 10 = .ok (.if_icmp .ge 21, 3) := dX10_back_8_b.2.1
theorem dX10_back_13 : decode cX10_back 13 = .ok (.aload_n 0, 1) := dX10_back_8_b.2.2.1
theorem dX10_back_14 : decode cX10_back 14 = .ok (.getfield 114, 3) := dX10_back_8_b.2.2.2.1
theorem dX10_back_17 : decode cX10_back 17 = .ok (.iload_n 1, 1) := dX10_back_8_b.2.2.2.2.1
theorem dX10_back_18 : decode cX10_back 18 = .ok (.aload_n 0, 1) := dX10_back_8_b.2.2.2.2.2
set_option maxRecDepth 20000 in
theorem dX10_back_19_b : (decode cX10_back 19 = .ok (.getfield 87, 3)) ∧ (decode cX10_back 22 = .ok (.iload_n 1, 1)) ∧ (decode cX10_back 23 = .ok (.iaload, 1)) ∧ (decode cX10_back 24 = .ok (.iastore, 1)) ∧ (decode cX10_back 25 = .ok (.iinc 1 1, 3)) ∧ (decode cX10_back 28 = .ok (.goto (-21), 3)) := by decide +kernel
theorem dX10_back_19 : decode cX10_back 19 = .ok (.getfield 87, 3) := dX10_back_19_b.1
theorem dX10_back_22 : decode cX10_back 22 = .ok (.iload_n 1, 1) := dX10_back_19_b.2.1
theorem dX10_back_23 : decode cX10_back 23 = .ok (.iaload, 1) := dX10_back_19_b.2.2.1
theorem dX10_back_24 : decode cX10_back 24 = .ok (.iastore, 1) := dX10_back_19_b.2.2.2.1
theorem dX10_back_25 : decode cX10_back 25 = .ok (.iinc 1 1, 3) := dX10_back_19_b.2.2.2.2.1
theorem dX10_back_28 : decode cX10_back 28 = .ok (.goto (-21), 3) := dX10_back_19_b.2.2.2.2.2
set_option maxRecDepth 20000 in
theorem dX10_back_31_b : (decode cX10_back 31 = .ok (.iconst 0, 1)) ∧ (decode cX10_back 32 = .ok (.istore_n 1, 1)) ∧ (decode cX10_back 33 = .ok (.aload_n 0, 1)) ∧ (decode cX10_back 34 = .ok (.getfield 330, 3)) ∧ (decode cX10_back 37 = .ok (.iconst 1, 1)) ∧ (decode cX10_back 38 = .ok (.isub, 1)) := by decide +kernel
theorem dX10_back_31 : decode cX10_back 31 = .ok (.iconst 0, 1) := dX10_back_31_b.1
theorem dX10_back_32 : decode cX10_back 32 = .ok (.istore_n 1, 1) := dX10_back_31_b.2.1
theorem dX10_back_33 : decode cX10_back 33 = .ok (.aload_n 0, 1) := dX10_back_31_b.2.2.1
theorem dX10_back_34 : decode cX10_back 34 = .ok (.getfield 330, 3) := dX10_back_31_b.2.2.2.1
theorem dX10_back_37 : decode cX10_back 37 = .ok (.iconst 1, 1) := dX10_back_31_b.2.2.2.2.1
theorem dX10_back_38 : decode cX10_back 38 = .ok (.isub, 1) := dX10_back_31_b.2.2.2.2.2
set_option maxRecDepth 20000 in
theorem dX10_back_39_b : (decode cX10_back 39 = .ok (.istore_n 2, 1)) ∧ (decode cX10_back 40 = .ok (.iload_n 2, 1)) ∧ (decode cX10_back 41 = .ok (.ifCond .lt 100, 3)) ∧ (decode cX10_back 44 = .ok (.aload_n 0, 1)) ∧ (decode cX10_back 45 = .ok (.getfield 93, 3)) ∧ (decode cX10_back 48 = .ok (.iload_n 2, 1)) := by decide +kernel
theorem dX10_back_39 : decode cX10_back 39 = .ok (.istore_n 2, 1) := dX10_back_39_b.1
theorem dX10_back_40 : decode cX10_back 40 = .ok (.iload_n 2, 1) := dX10_back_39_b.2.1
theorem dX10_back_41 : decode cX10_back 41 = .ok (.ifCond .lt 100, 3) := dX10_back_39_b.2.2.1
theorem dX10_back_44 : decode cX10_back 44 = .ok (.aload_n 0, 1) := dX10_back_39_b.2.2.2.1
theorem dX10_back_45 : decode cX10_back 45 = .ok (.getfield 93, 3) := dX10_back_39_b.2.2.2.2.1
theorem dX10_back_48 : decode cX10_back 48 = .ok (.iload_n 2, 1) := dX10_back_39_b.2.2.2.2.2
set_option maxRecDepth 20000 in
theorem dX10_back_49_b : (decode cX10_back 49 = .ok (.iaload, 1)) ∧ (decode cX10_back 50 = .ok (.iconst 2, 1)) ∧ (decode cX10_back 51 = .ok (.if_icmp .eq 23, 3)) ∧ (decode cX10_back 54 = .ok (.aload_n 0, 1)) ∧ (decode cX10_back 55 = .ok (.getfield 114, 3)) ∧ (decode cX10_back 58 = .ok (.aload_n 0, 1)) := by decide +kernel
theorem dX10_back_49 : decode cX10_back 49 = .ok (.iaload, 1) := dX10_back_49_b.1
theorem dX10_back_50 : decode cX10_back 50 = .ok (.iconst 2, 1) := dX10_back_49_b.2.1
theorem dX10_back_51 : decode cX10_back 51 = .ok (.if_icmp .eq 23, 3) := dX10_back_49_b.2.2.1
theorem dX10_back_54 : decode cX10_back 54 = .ok (.aload_n 0, 1) := dX10_back_49_b.2.2.2.1
theorem dX10_back_55 : decode cX10_back 55 = .ok (.getfield 114, 3) := dX10_back_49_b.2.2.2.2.1
theorem dX10_back_58 : decode cX10_back 58 = .ok (.aload_n 0, 1) := dX10_back_49_b.2.2.2.2.2
set_option maxRecDepth 20000 in
theorem dX10_back_59_b : (decode cX10_back 59 = .ok (.getfield 96, 3)) ∧ (decode cX10_back 62 = .ok (.iload_n 2, 1)) ∧ (decode cX10_back 63 = .ok (.iaload, 1)) ∧ (decode cX10_back 64 = .ok (.aload_n 0, 1)) ∧ (decode cX10_back 65 = .ok (.getfield 102, 3)) ∧ (decode cX10_back 68 = .ok (.iload_n 2, 1)) := by decide +kernel
theorem dX10_back_59 : decode cX10_back 59 = .ok (.getfield 96, 3) := dX10_back_59_b.1
theorem dX10_back_62 : decode cX10_back 62 = .ok (.iload_n 2, 1) := dX10_back_59_b.2.1
theorem dX10_back_63 : decode cX10_back 63 = .ok (.iaload, 1) := dX10_back_59_b.2.2.1
theorem dX10_back_64 : decode cX10_back 64 = .ok (.aload_n 0, 1) := dX10_back_59_b.2.2.2.1
theorem dX10_back_65 : decode cX10_back 65 = .ok (.getfield 102, 3) := dX10_back_59_b.2.2.2.2.1
theorem dX10_back_68 : decode cX10_back 68 = .ok (.iload_n 2, 1) := dX10_back_59_b.2.2.2.2.2
set_option maxRecDepth 20000 in
theorem dX10_back_69_b : (decode cX10_back 69 = .ok (.iaload, 1)) ∧ (decode cX10_back 70 = .ok (.iastore, 1)) ∧ (decode cX10_back 71 = .ok (.goto 64, 3)) ∧ (decode cX10_back 74 = .ok (.aload_n 0, 1)) ∧ (decode cX10_back 75 = .ok (.aload_n 0, 1)) ∧ (decode cX10_back 76 = .ok (.getfield 114, 3)) := by decide +kernel
theorem dX10_back_69 : decode cX10_back 69 = .ok (.iaload, 1) := dX10_back_69_b.1
theorem dX10_back_70 : decode cX10_back 70 = .ok (.iastore, 1) := dX10_back_69_b.2.1
theorem dX10_back_71 : decode cX10_back 71 = .ok (.goto 64, 3) := dX10_back_69_b.2.2.1
theorem dX10_back_74 : decode cX10_back 74 = .ok (.aload_n 0, 1) := dX10_back_69_b.2.2.2.1
theorem dX10_back_75 : decode cX10_back 75 = .ok (.aload_n 0, 1) := dX10_back_69_b.2.2.2.2.1
theorem dX10_back_76 : decode cX10_back 76 = .ok (.getfield 114, 3) := dX10_back_69_b.2.2.2.2.2
set_option maxRecDepth 20000 in
theorem dX10_back_79_b : (decode cX10_back 79 = .ok (.aload_n 0, 1)) ∧ (decode cX10_back 80 = .ok (.getfield 96, 3)) ∧ (decode cX10_back 83 = .ok (.iload_n 2, 1)) ∧ (decode cX10_back 84 = .ok (.iaload, 1)) ∧ (decode cX10_back 85 = .ok (.aload_n 0, 1)) ∧ (decode cX10_back 86 = .ok (.getfield 102, 3)) := by decide +kernel
theorem dX10_back_79 : decode cX10_back 79 = .ok (.aload_n 0, 1) := dX10_back_79_b.1
theorem dX10_back_80 : decode cX10_back 80 = .ok (.getfield 96, 3) := dX10_back_79_b.2.1
theorem dX10_back_83 : decode cX10_back 83 = .ok (.iload_n 2, 1) := dX10_back_79_b.2.2.1
theorem dX10_back_84 : decode cX10_back 84 = .ok (.iaload, 1) := dX10_back_79_b.2.2.2.1
theorem dX10_back_85 : decode cX10_back 85 = .ok (.aload_n 0, 1) := dX10_back_79_b.2.2.2.2.1
theorem dX10_back_86 : decode cX10_back 86 = .ok (.getfield 102, 3) := dX10_back_79_b.2.2.2.2.2
set_option maxRecDepth 20000 in
theorem dX10_back_89_b : (decode cX10_back 89 = .ok (.iload_n 2, 1)) ∧ (decode cX10_back 90 = .ok (.iaload, 1)) ∧ (decode cX10_back 91 = .ok (.invokevirtual 405, 3)) ∧ (decode cX10_back 94 = .ok (.aload_n 0, 1)) ∧ (decode cX10_back 95 = .ok (.aload_n 0, 1)) ∧ (decode cX10_back 96 = .ok (.getfield 114, 3)) := by decide +kernel
theorem dX10_back_89 : decode cX10_back 89 = .ok (.iload_n 2, 1) := dX10_back_89_b.1
theorem dX10_back_90 : decode cX10_back 90 = .ok (.iaload, 1) := dX10_back_89_b.2.1
theorem dX10_back_91 : decode cX10_back 91 = .ok (.invokevirtual 405, 3) := dX10_back_89_b.2.2.1
theorem dX10_back_94 : decode cX10_back 94 = .ok (.aload_n 0, 1) := dX10_back_89_b.2.2.2.1
theorem dX10_back_95 : decode cX10_back 95 = .ok (.aload_n 0, 1) := dX10_back_89_b.2.2.2.2.1
theorem dX10_back_96 : decode cX10_back 96 = .ok (.getfield 114, 3) := dX10_back_89_b.2.2.2.2.2
set_option maxRecDepth 20000 in
theorem dX10_back_99_b : (decode cX10_back 99 = .ok (.invokevirtual 397, 3)) ∧ (decode cX10_back 102 = .ok (.ifCond .eq 28, 3)) ∧ (decode cX10_back 105 = .ok (.aload_n 0, 1)) ∧ (decode cX10_back 106 = .ok (.aload_n 0, 1)) ∧ (decode cX10_back 107 = .ok (.getfield 114, 3)) ∧ (decode cX10_back 110 = .ok (.aload_n 0, 1)) := by decide +kernel
theorem dX10_back_99 : decode cX10_back 99 = .ok (.invokevirtual 397, 3) := dX10_back_99_b.1
theorem dX10_back_102 : decode cX10_back 102 = .ok (.ifCond .eq 28, 3) := dX10_back_99_b.2.1
theorem dX10_back_105 : decode cX10_back 105 = .ok (.aload_n 0, 1) := dX10_back_99_b.2.2.1
theorem dX10_back_106 : decode cX10_back 106 = .ok (.aload_n 0, 1) := dX10_back_99_b.2.2.2.1
theorem dX10_back_107 : decode cX10_back 107 = .ok (.getfield 114, 3) := dX10_back_99_b.2.2.2.2.1
theorem dX10_back_110 : decode cX10_back 110 = .ok (.aload_n 0, 1) := dX10_back_99_b.2.2.2.2.2
set_option maxRecDepth 20000 in
theorem dX10_back_111_b : (decode cX10_back 111 = .ok (.getfield 96, 3)) ∧ (decode cX10_back 114 = .ok (.iload_n 2, 1)) ∧ (decode cX10_back 115 = .ok (.iaload, 1)) ∧ (decode cX10_back 116 = .ok (.invokevirtual 401, 3)) ∧ (decode cX10_back 119 = .ok (.ifCond .eq 11, 3)) ∧ (decode cX10_back 122 = .ok (.aload_n 0, 1)) := by decide +kernel
theorem dX10_back_111 : decode cX10_back 111 = .ok (.getfield 96, 3) := dX10_back_111_b.1
theorem dX10_back_114 : decode cX10_back 114 = .ok (.iload_n 2, 1) := dX10_back_111_b.2.1
theorem dX10_back_115 : decode cX10_back 115 = .ok (.iaload, 1) := dX10_back_111_b.2.2.1
theorem dX10_back_116 : decode cX10_back 116 = .ok (.invokevirtual 401, 3) := dX10_back_111_b.2.2.2.1
theorem dX10_back_119 : decode cX10_back 119 = .ok (.ifCond .eq 11, 3) := dX10_back_111_b.2.2.2.2.1
theorem dX10_back_122 : decode cX10_back 122 = .ok (.aload_n 0, 1) := dX10_back_111_b.2.2.2.2.2
set_option maxRecDepth 20000 in
theorem dX10_back_123_b : (decode cX10_back 123 = .ok (.iconst 1, 1)) ∧ (decode cX10_back 124 = .ok (.invokevirtual 409, 3)) ∧ (decode cX10_back 127 = .ok (.ifCond .eq 5, 3)) ∧ (decode cX10_back 130 = .ok (.iload_n 1, 1)) ∧ (decode cX10_back 131 = .ok (.ireturn, 1)) ∧ (decode cX10_back 132 = .ok (.iinc 1 1, 3)) := by decide +kernel
theorem dX10_back_123 : decode cX10_back 123 = .ok (.iconst 1, 1) := dX10_back_123_b.1
theorem dX10_back_124 : decode cX10_back 124 = .ok (.invokevirtual 409, 3) := dX10_back_123_b.2.1
theorem dX10_back_127 : decode cX10_back 127 = .ok (.ifCond .eq 5, 3) := dX10_back_123_b.2.2.1
theorem dX10_back_130 : decode cX10_back 130 = .ok (.iload_n 1, 1) := dX10_back_123_b.2.2.2.1
theorem dX10_back_131 : decode cX10_back 131 = .ok (.ireturn, 1) := dX10_back_123_b.2.2.2.2.1
theorem dX10_back_132 : decode cX10_back 132 = .ok (.iinc 1 1, 3) := dX10_back_123_b.2.2.2.2.2
set_option maxRecDepth 20000 in
theorem dX10_back_135_b : (decode cX10_back 135 = .ok (.iinc 2 (-1), 3)) ∧ (decode cX10_back 138 = .ok (.goto (-98), 3)) ∧ (decode cX10_back 141 = .ok (.iload_n 1, 1)) ∧ (decode cX10_back 142 = .ok (.ireturn, 1)) := by decide +kernel
theorem dX10_back_135 : decode cX10_back 135 = .ok (.iinc 2 (-1), 3) := dX10_back_135_b.1
theorem dX10_back_138 : decode cX10_back 138 = .ok (.goto (-98), 3) := dX10_back_135_b.2.1
theorem dX10_back_141 : decode cX10_back 141 = .ok (.iload_n 1, 1) := dX10_back_135_b.2.2.1
theorem dX10_back_142 : decode cX10_back 142 = .ok (.ireturn, 1) := dX10_back_135_b.2.2.2
set_option maxRecDepth 20000 in
theorem dX10_pack_0_b : (decode cX10_pack 0 = .ok (.iload_n 1, 1)) ∧ (decode cX10_pack 1 = .ok (.i2l, 1)) ∧ (decode cX10_pack 2 = .ok (.lstore_n 2, 1)) ∧ (decode cX10_pack 3 = .ok (.iconst 0, 1)) ∧ (decode cX10_pack 4 = .ok (.istore 4, 2)) ∧ (decode cX10_pack 6 = .ok (.iload 4, 2)) := by decide +kernel
theorem dX10_pack_0 : decode cX10_pack 0 = .ok (.iload_n 1, 1) := dX10_pack_0_b.1
theorem dX10_pack_1 : decode cX10_pack 1 = .ok (.i2l, 1) := dX10_pack_0_b.2.1
theorem dX10_pack_2 : decode cX10_pack 2 = .ok (.lstore_n 2, 1) := dX10_pack_0_b.2.2.1
theorem dX10_pack_3 : decode cX10_pack 3 = .ok (.iconst 0, 1) := dX10_pack_0_b.2.2.2.1
theorem dX10_pack_4 : decode cX10_pack 4 = .ok (.istore 4, 2) := dX10_pack_0_b.2.2.2.2.1
theorem dX10_pack_6 : decode cX10_pack 6 = .ok (.iload 4, 2) := dX10_pack_0_b.2.2.2.2.2
set_option maxRecDepth 20000 in
theorem dX10_pack_8_b : (decode cX10_pack 8 = .ok (.bipush 7, 2)) ∧ (decode cX10_pack 10 = .ok (.if_icmp .ge 21, 3)) ∧ (decode cX10_pack 13 = .ok (.ldc2_w 425, 3)) ∧ (decode cX10_pack 16 = .ok (.lload_n 2, 1)) ∧ (decode cX10_pack 17 = .ok (.lmul, 1)) ∧ (decode cX10_pack 18 = .ok (.aload_n 0, 1)) := by decide +kernel
theorem dX10_pack_8 : decode cX10_pack 8 = .ok (.bipush 7, 2) := dX10_pack_8_b.1
theorem dX10_pack_10 : decode cX10_pack 10 = .ok (.if_icmp .ge 21, 3) := dX10_pack_8_b.2.1
theorem dX10_pack_13 : decode cX10_pack 13 = .ok (.ldc2_w 425, 3) := dX10_pack_8_b.2.2.1
theorem dX10_pack_16 : decode cX10_pack 16 = .ok (.lload_n 2, 1) := dX10_pack_8_b.2.2.2.1
theorem dX10_pack_17 : decode cX10_pack 17 = .ok (.lmul, 1) := dX10_pack_8_b.2.2.2.2.1
theorem dX10_pack_18 : decode cX10_pack 18 = .ok (.aload_n 0, 1) := dX10_pack_8_b.2.2.2.2.2
set_option maxRecDepth 20000 in
theorem dX10_pack_19_b : (decode cX10_pack 19 = .ok (.iload 4, 2)) ∧ (decode cX10_pack 21 = .ok (.iaload, 1)) ∧ (decode cX10_pack 22 = .ok (.i2l, 1)) ∧ (decode cX10_pack 23 = .ok (.ladd, 1)) ∧ (decode cX10_pack 24 = .ok (.lstore_n 2, 1)) ∧ (decode cX10_pack 25 = .ok (.iinc 4 1, 3)) := by decide +kernel
theorem dX10_pack_19 : decode cX10_pack 19 = .ok (.iload 4, 2) := dX10_pack_19_b.1
theorem dX10_pack_21 : decode cX10_pack 21 = .ok (.iaload, 1) := dX10_pack_19_b.2.1
theorem dX10_pack_22 : decode cX10_pack 22 = .ok (.i2l, 1) := dX10_pack_19_b.2.2.1
theorem dX10_pack_23 : decode cX10_pack 23 = .ok (.ladd, 1) := dX10_pack_19_b.2.2.2.1
theorem dX10_pack_24 : decode cX10_pack 24 = .ok (.lstore_n 2, 1) := dX10_pack_19_b.2.2.2.2.1
theorem dX10_pack_25 : decode cX10_pack 25 = .ok (.iinc 4 1, 3) := dX10_pack_19_b.2.2.2.2.2
set_option maxRecDepth 20000 in
theorem dX10_pack_28_b : (decode cX10_pack 28 = .ok (.goto (-22), 3)) ∧ (decode cX10_pack 31 = .ok (.lload_n 2, 1)) ∧ (decode cX10_pack 32 = .ok (.lreturn, 1)) := by decide +kernel
theorem dX10_pack_28 : decode cX10_pack 28 = .ok (.goto (-22), 3) := dX10_pack_28_b.1
theorem dX10_pack_31 : decode cX10_pack 31 = .ok (.lload_n 2, 1) := dX10_pack_28_b.2.1
theorem dX10_pack_32 : decode cX10_pack 32 = .ok (.lreturn, 1) := dX10_pack_28_b.2.2
set_option maxRecDepth 20000 in
theorem dX10_unpack_0_b : (decode cX10_unpack 0 = .ok (.lload_n 1, 1)) ∧ (decode cX10_unpack 1 = .ok (.lstore_n 3, 1)) ∧ (decode cX10_unpack 2 = .ok (.bipush 6, 2)) ∧ (decode cX10_unpack 4 = .ok (.istore 5, 2)) ∧ (decode cX10_unpack 6 = .ok (.iload 5, 2)) ∧ (decode cX10_unpack 8 = .ok (.ifCond .lt 28, 3)) := by decide +kernel
theorem dX10_unpack_0 : decode cX10_unpack 0 = .ok (.lload_n 1, 1) := dX10_unpack_0_b.1
theorem dX10_unpack_1 : decode cX10_unpack 1 = .ok (.lstore_n 3, 1) := dX10_unpack_0_b.2.1
theorem dX10_unpack_2 : decode cX10_unpack 2 = .ok (.bipush 6, 2) := dX10_unpack_0_b.2.2.1
theorem dX10_unpack_4 : decode cX10_unpack 4 = .ok (.istore 5, 2) := dX10_unpack_0_b.2.2.2.1
theorem dX10_unpack_6 : decode cX10_unpack 6 = .ok (.iload 5, 2) := dX10_unpack_0_b.2.2.2.2.1
theorem dX10_unpack_8 : decode cX10_unpack 8 = .ok (.ifCond .lt 28, 3) := dX10_unpack_0_b.2.2.2.2.2
set_option maxRecDepth 20000 in
theorem dX10_unpack_11_b : (decode cX10_unpack 11 = .ok (.aload_n 0, 1)) ∧ (decode cX10_unpack 12 = .ok (.getfield 134, 3)) ∧ (decode cX10_unpack 15 = .ok (.iload 5, 2)) ∧ (decode cX10_unpack 17 = .ok (.lload_n 3, 1)) ∧ (decode cX10_unpack 18 = .ok (.ldc2_w 425, 3)) ∧ (decode cX10_unpack 21 = .ok (.lrem, 1)) := by decide +kernel
theorem dX10_unpack_11 : decode cX10_unpack 11 = .ok (.aload_n 0, 1) := dX10_unpack_11_b.1
theorem dX10_unpack_12 : decode cX10_unpack 12 = .ok (.getfield 134, 3) := dX10_unpack_11_b.2.1
theorem dX10_unpack_15 : decode cX10_unpack 15 = .ok (.iload 5, 2) := dX10_unpack_11_b.2.2.1
theorem dX10_unpack_17 : decode cX10_unpack 17 = .ok (.lload_n 3, 1) := dX10_unpack_11_b.2.2.2.1
theorem dX10_unpack_18 : decode cX10_unpack 18 = .ok (.ldc2_w 425, 3) := dX10_unpack_11_b.2.2.2.2.1
theorem dX10_unpack_21 : decode cX10_unpack 21 = .ok (.lrem, 1) := dX10_unpack_11_b.2.2.2.2.2
set_option maxRecDepth 20000 in
theorem dX10_unpack_22_b : (decode cX10_unpack 22 = .ok (.l2i, 1)) ∧ (decode cX10_unpack 23 = .ok (.iastore, 1)) ∧ (decode cX10_unpack 24 = .ok (.lload_n 3, 1)) ∧ (decode cX10_unpack 25 = .ok (.ldc2_w 425, 3)) ∧ (decode cX10_unpack 28 = .ok (.ldiv, 1)) ∧ (decode cX10_unpack 29 = .ok (.lstore_n 3, 1)) := by decide +kernel
theorem dX10_unpack_22 : decode cX10_unpack 22 = .ok (.l2i, 1) := dX10_unpack_22_b.1
theorem dX10_unpack_23 : decode cX10_unpack 23 = .ok (.iastore, 1) := dX10_unpack_22_b.2.1
theorem dX10_unpack_24 : decode cX10_unpack 24 = .ok (.lload_n 3, 1) := dX10_unpack_22_b.2.2.1
theorem dX10_unpack_25 : decode cX10_unpack 25 = .ok (.ldc2_w 425, 3) := dX10_unpack_22_b.2.2.2.1
theorem dX10_unpack_28 : decode cX10_unpack 28 = .ok (.ldiv, 1) := dX10_unpack_22_b.2.2.2.2.1
theorem dX10_unpack_29 : decode cX10_unpack 29 = .ok (.lstore_n 3, 1) := dX10_unpack_22_b.2.2.2.2.2
set_option maxRecDepth 20000 in
theorem dX10_unpack_30_b : (decode cX10_unpack 30 = .ok (.iinc 5 (-1), 3)) ∧ (decode cX10_unpack 33 = .ok (.goto (-27), 3)) ∧ (decode cX10_unpack 36 = .ok (.aload_n 0, 1)) ∧ (decode cX10_unpack 37 = .ok (.lload_n 3, 1)) ∧ (decode cX10_unpack 38 = .ok (.l2i, 1)) ∧ (decode cX10_unpack 39 = .ok (.putfield 427, 3)) := by decide +kernel
theorem dX10_unpack_30 : decode cX10_unpack 30 = .ok (.iinc 5 (-1), 3) := dX10_unpack_30_b.1
theorem dX10_unpack_33 : decode cX10_unpack 33 = .ok (.goto (-27), 3) := dX10_unpack_30_b.2.1
theorem dX10_unpack_36 : decode cX10_unpack 36 = .ok (.aload_n 0, 1) := dX10_unpack_30_b.2.2.1
theorem dX10_unpack_37 : decode cX10_unpack 37 = .ok (.lload_n 3, 1) := dX10_unpack_30_b.2.2.2.1
theorem dX10_unpack_38 : decode cX10_unpack 38 = .ok (.l2i, 1) := dX10_unpack_30_b.2.2.2.2.1
theorem dX10_unpack_39 : decode cX10_unpack 39 = .ok (.putfield 427, 3) := dX10_unpack_30_b.2.2.2.2.2
theorem dX10_unpack_42 : decode cX10_unpack 42 = .ok (.return_, 1) := by decide +kernel
set_option maxRecDepth 20000 in
theorem dX10_foldOf_0_b : (decode cX10_foldOf 0 = .ok (.lload_n 0, 1)) ∧ (decode cX10_foldOf 1 = .ok (.ldc2_w 430, 3)) ∧ (decode cX10_foldOf 4 = .ok (.lmul, 1)) ∧ (decode cX10_foldOf 5 = .ok (.lstore_n 2, 1)) ∧ (decode cX10_foldOf 6 = .ok (.lload_n 2, 1)) ∧ (decode cX10_foldOf 7 = .ok (.bipush 51, 2)) := by decide +kernel
theorem dX10_foldOf_0 : decode cX10_foldOf 0 = .ok (.lload_n 0, 1) := dX10_foldOf_0_b.1
theorem dX10_foldOf_1 : decode cX10_foldOf 1 = .ok (.ldc2_w 430, 3) := dX10_foldOf_0_b.2.1
theorem dX10_foldOf_4 : decode cX10_foldOf 4 = .ok (.lmul, 1) := dX10_foldOf_0_b.2.2.1
theorem dX10_foldOf_5 : decode cX10_foldOf 5 = .ok (.lstore_n 2, 1) := dX10_foldOf_0_b.2.2.2.1
theorem dX10_foldOf_6 : decode cX10_foldOf 6 = .ok (.lload_n 2, 1) := dX10_foldOf_0_b.2.2.2.2.1
theorem dX10_foldOf_7 : decode cX10_foldOf 7 = .ok (.bipush 51, 2) := dX10_foldOf_0_b.2.2.2.2.2
set_option maxRecDepth 20000 in
theorem dX10_foldOf_9_b : (decode cX10_foldOf 9 = .ok (.lushr, 1)) ∧ (decode cX10_foldOf 10 = .ok (.l2i, 1)) ∧ (decode cX10_foldOf 11 = .ok (.ireturn, 1)) := by decide +kernel
theorem dX10_foldOf_9 : decode cX10_foldOf 9 = .ok (.lushr, 1) := dX10_foldOf_9_b.1
theorem dX10_foldOf_10 : decode cX10_foldOf 10 = .ok (.l2i, 1) := dX10_foldOf_9_b.2.1
theorem dX10_foldOf_11 : decode cX10_foldOf 11 = .ok (.ireturn, 1) := dX10_foldOf_9_b.2.2
set_option maxRecDepth 20000 in
theorem dX10_come_0_b : (decode cX10_come 0 = .ok (.lload_n 1, 1)) ∧ (decode cX10_come 1 = .ok (.invokestatic 432, 3)) ∧ (decode cX10_come 4 = .ok (.istore 4, 2)) ∧ (decode cX10_come 6 = .ok (.aload_n 0, 1)) ∧ (decode cX10_come 7 = .ok (.getfield 127, 3)) ∧ (decode cX10_come 10 = .ok (.iload 4, 2)) := by decide +kernel
theorem dX10_come_0 : decode cX10_come 0 = .ok (.lload_n 1, 1) := dX10_come_0_b.1
theorem dX10_come_1 : decode cX10_come 1 = .ok (.invokestatic 432, 3) := dX10_come_0_b.2.1
theorem dX10_come_4 : decode cX10_come 4 = .ok (.istore 4, 2) := dX10_come_0_b.2.2.1
theorem dX10_come_6 : decode cX10_come 6 = .ok (.aload_n 0, 1) := dX10_come_0_b.2.2.2.1
theorem dX10_come_7 : decode cX10_come 7 = .ok (.getfield 127, 3) := dX10_come_0_b.2.2.2.2.1
theorem dX10_come_10 : decode cX10_come 10 = .ok (.iload 4, 2) := dX10_come_0_b.2.2.2.2.2
set_option maxRecDepth 20000 in
theorem dX10_come_12_b : (decode cX10_come 12 = .ok (.iaload, 1)) ∧ (decode cX10_come 13 = .ok (.istore 5, 2)) ∧ (decode cX10_come 15 = .ok (.iload 5, 2)) ∧ (decode cX10_come 17 = .ok (.iconst (-1), 1)) ∧ (decode cX10_come 18 = .ok (.if_icmp .eq 49, 3)) ∧ (decode cX10_come 21 = .ok (.aload_n 0, 1)) := by decide +kernel
theorem dX10_come_12 : decode cX10_come 12 = .ok (.iaload, 1) := dX10_come_12_b.1
theorem dX10_come_13 : decode cX10_come 13 = .ok (.istore 5, 2) := dX10_come_12_b.2.1
theorem dX10_come_15 : decode cX10_come 15 = .ok (.iload 5, 2) := dX10_come_12_b.2.2.1
theorem dX10_come_17 : decode cX10_come 17 = .ok (.iconst (-1), 1) := dX10_come_12_b.2.2.2.1
theorem dX10_come_18 : decode cX10_come 18 = .ok (.if_icmp .eq 49, 3) := dX10_come_12_b.2.2.2.2.1
theorem dX10_come_21 : decode cX10_come 21 = .ok (.aload_n 0, 1) := dX10_come_12_b.2.2.2.2.2
set_option maxRecDepth 20000 in
theorem dX10_come_22_b : (decode cX10_come 22 = .ok (.getfield 117, 3)) ∧ (decode cX10_come 25 = .ok (.iload 5, 2)) ∧ (decode cX10_come 27 = .ok (.laload, 1)) ∧ (decode cX10_come 28 = .ok (.lload_n 1, 1)) ∧ (decode cX10_come 29 = .ok (.lcmp, 1)) ∧ (decode cX10_come 30 = .ok (.ifCond .eq 6, 3)) := by decide +kernel
theorem dX10_come_22 : decode cX10_come 22 = .ok (.getfield 117, 3) := dX10_come_22_b.1
theorem dX10_come_25 : decode cX10_come 25 = .ok (.iload 5, 2) := dX10_come_22_b.2.1
theorem dX10_come_27 : decode cX10_come 27 = .ok (.laload, 1) := dX10_come_22_b.2.2.1
theorem dX10_come_28 : decode cX10_come 28 = .ok (.lload_n 1, 1) := dX10_come_22_b.2.2.2.1
theorem dX10_come_29 : decode cX10_come 29 = .ok (.lcmp, 1) := dX10_come_22_b.2.2.2.2.1
theorem dX10_come_30 : decode cX10_come 30 = .ok (.ifCond .eq 6, 3) := dX10_come_22_b.2.2.2.2.2
set_option maxRecDepth 20000 in
theorem dX10_come_33_b : (decode cX10_come 33 = .ok (.goto 22, 3)) ∧ (decode cX10_come 36 = .ok (.aload_n 0, 1)) ∧ (decode cX10_come 37 = .ok (.getfield 121, 3)) ∧ (decode cX10_come 40 = .ok (.iload 5, 2)) ∧ (decode cX10_come 42 = .ok (.aload_n 0, 1)) ∧ (decode cX10_come 43 = .ok (.getfield 121, 3)) := by decide +kernel
theorem dX10_come_33 : decode cX10_come 33 = .ok (.goto 22, 3) := dX10_come_33_b.1
theorem dX10_come_36 : decode cX10_come 36 = .ok (.aload_n 0, 1) := dX10_come_33_b.2.1
theorem dX10_come_37 : decode cX10_come 37 = .ok (.getfield 121, 3) := dX10_come_33_b.2.2.1
theorem dX10_come_40 : decode cX10_come 40 = .ok (.iload 5, 2) := dX10_come_33_b.2.2.2.1
theorem dX10_come_42 : decode cX10_come 42 = .ok (.aload_n 0, 1) := dX10_come_33_b.2.2.2.2.1
theorem dX10_come_43 : decode cX10_come 43 = .ok (.getfield 121, 3) := dX10_come_33_b.2.2.2.2.2
set_option maxRecDepth 20000 in
theorem dX10_come_46_b : (decode cX10_come 46 = .ok (.iload 5, 2)) ∧ (decode cX10_come 48 = .ok (.iaload, 1)) ∧ (decode cX10_come 49 = .ok (.iload_n 3, 1)) ∧ (decode cX10_come 50 = .ok (.invokestatic 211, 3)) ∧ (decode cX10_come 53 = .ok (.iastore, 1)) ∧ (decode cX10_come 54 = .ok (.return_, 1)) := by decide +kernel
theorem dX10_come_46 : decode cX10_come 46 = .ok (.iload 5, 2) := dX10_come_46_b.1
theorem dX10_come_48 : decode cX10_come 48 = .ok (.iaload, 1) := dX10_come_46_b.2.1
theorem dX10_come_49 : decode cX10_come 49 = .ok (.iload_n 3, 1) := dX10_come_46_b.2.2.1
theorem dX10_come_50 : decode cX10_come 50 = .ok (.invokestatic 211, 3) := dX10_come_46_b.2.2.2.1
theorem dX10_come_53 : decode cX10_come 53 = .ok (.iastore, 1) := dX10_come_46_b.2.2.2.2.1
theorem dX10_come_54 : decode cX10_come 54 = .ok (.return_, 1) := dX10_come_46_b.2.2.2.2.2
set_option maxRecDepth 20000 in
theorem dX10_come_55_b : (decode cX10_come 55 = .ok (.aload_n 0, 1)) ∧ (decode cX10_come 56 = .ok (.getfield 124, 3)) ∧ (decode cX10_come 59 = .ok (.iload 5, 2)) ∧ (decode cX10_come 61 = .ok (.iaload, 1)) ∧ (decode cX10_come 62 = .ok (.istore 5, 2)) ∧ (decode cX10_come 64 = .ok (.goto (-49), 3)) := by decide +kernel
theorem dX10_come_55 : decode cX10_come 55 = .ok (.aload_n 0, 1) := dX10_come_55_b.1
theorem dX10_come_56 : decode cX10_come 56 = .ok (.getfield 124, 3) := dX10_come_55_b.2.1
theorem dX10_come_59 : decode cX10_come 59 = .ok (.iload 5, 2) := dX10_come_55_b.2.2.1
theorem dX10_come_61 : decode cX10_come 61 = .ok (.iaload, 1) := dX10_come_55_b.2.2.2.1
theorem dX10_come_62 : decode cX10_come 62 = .ok (.istore 5, 2) := dX10_come_55_b.2.2.2.2.1
theorem dX10_come_64 : decode cX10_come 64 = .ok (.goto (-49), 3) := dX10_come_55_b.2.2.2.2.2
set_option maxRecDepth 20000 in
theorem dX10_come_67_b : (decode cX10_come 67 = .ok (.aload_n 0, 1)) ∧ (decode cX10_come 68 = .ok (.getfield 436, 3)) ∧ (decode cX10_come 71 = .ok (.sipush 1500, 3)) ∧ (decode cX10_come 74 = .ok (.if_icmp .ne 9, 3)) ∧ (decode cX10_come 77 = .ok (.aload_n 0, 1)) ∧ (decode cX10_come 78 = .ok (.iconst 1, 1)) := by decide +kernel
theorem dX10_come_67 : decode cX10_come 67 = .ok (.aload_n 0, 1) := dX10_come_67_b.1
theorem dX10_come_68 : decode cX10_come 68 = .ok (.getfield 436, 3) := dX10_come_67_b.2.1
theorem dX10_come_71 : decode cX10_come 71 = .ok (.sipush 1500, 3) := dX10_come_67_b.2.2.1
theorem dX10_come_74 : decode cX10_come 74 = .ok (.if_icmp .ne 9, 3) := dX10_come_67_b.2.2.2.1
theorem dX10_come_77 : decode cX10_come 77 = .ok (.aload_n 0, 1) := dX10_come_67_b.2.2.2.2.1
theorem dX10_come_78 : decode cX10_come 78 = .ok (.iconst 1, 1) := dX10_come_67_b.2.2.2.2.2
set_option maxRecDepth 20000 in
theorem dX10_come_79_b : (decode cX10_come 79 = .ok (.putfield 439, 3)) ∧ (decode cX10_come 82 = .ok (.return_, 1)) ∧ (decode cX10_come 83 = .ok (.aload_n 0, 1)) ∧ (decode cX10_come 84 = .ok (.getfield 117, 3)) ∧ (decode cX10_come 87 = .ok (.aload_n 0, 1)) ∧ (decode cX10_come 88 = .ok (.getfield 436, 3)) := by decide +kernel
theorem dX10_come_79 : decode cX10_come 79 = .ok (.putfield 439, 3) := dX10_come_79_b.1
theorem dX10_come_82 : decode cX10_come 82 = .ok (.return_, 1) := dX10_come_79_b.2.1
theorem dX10_come_83 : decode cX10_come 83 = .ok (.aload_n 0, 1) := dX10_come_79_b.2.2.1
theorem dX10_come_84 : decode cX10_come 84 = .ok (.getfield 117, 3) := dX10_come_79_b.2.2.2.1
theorem dX10_come_87 : decode cX10_come 87 = .ok (.aload_n 0, 1) := dX10_come_79_b.2.2.2.2.1
theorem dX10_come_88 : decode cX10_come 88 = .ok (.getfield 436, 3) := dX10_come_79_b.2.2.2.2.2
set_option maxRecDepth 20000 in
theorem dX10_come_91_b : (decode cX10_come 91 = .ok (.lload_n 1, 1)) ∧ (decode cX10_come 92 = .ok (.lastore, 1)) ∧ (decode cX10_come 93 = .ok (.aload_n 0, 1)) ∧ (decode cX10_come 94 = .ok (.getfield 121, 3)) ∧ (decode cX10_come 97 = .ok (.aload_n 0, 1)) ∧ (decode cX10_come 98 = .ok (.getfield 436, 3)) := by decide +kernel
theorem dX10_come_91 : decode cX10_come 91 = .ok (.lload_n 1, 1) := dX10_come_91_b.1
theorem dX10_come_92 : decode cX10_come 92 = .ok (.lastore, 1) := dX10_come_91_b.2.1
theorem dX10_come_93 : decode cX10_come 93 = .ok (.aload_n 0, 1) := dX10_come_91_b.2.2.1
theorem dX10_come_94 : decode cX10_come 94 = .ok (.getfield 121, 3) := dX10_come_91_b.2.2.2.1
theorem dX10_come_97 : decode cX10_come 97 = .ok (.aload_n 0, 1) := dX10_come_91_b.2.2.2.2.1
theorem dX10_come_98 : decode cX10_come 98 = .ok (.getfield 436, 3) := dX10_come_91_b.2.2.2.2.2
set_option maxRecDepth 20000 in
theorem dX10_come_101_b : (decode cX10_come 101 = .ok (.iload_n 3, 1)) ∧ (decode cX10_come 102 = .ok (.iastore, 1)) ∧ (decode cX10_come 103 = .ok (.aload_n 0, 1)) ∧ (decode cX10_come 104 = .ok (.getfield 130, 3)) ∧ (decode cX10_come 107 = .ok (.aload_n 0, 1)) ∧ (decode cX10_come 108 = .ok (.getfield 436, 3)) := by decide +kernel
theorem dX10_come_101 : decode cX10_come 101 = .ok (.iload_n 3, 1) := dX10_come_101_b.1
theorem dX10_come_102 : decode cX10_come 102 = .ok (.iastore, 1) := dX10_come_101_b.2.1
theorem dX10_come_103 : decode cX10_come 103 = .ok (.aload_n 0, 1) := dX10_come_101_b.2.2.1
theorem dX10_come_104 : decode cX10_come 104 = .ok (.getfield 130, 3) := dX10_come_101_b.2.2.2.1
theorem dX10_come_107 : decode cX10_come 107 = .ok (.aload_n 0, 1) := dX10_come_101_b.2.2.2.2.1
theorem dX10_come_108 : decode cX10_come 108 = .ok (.getfield 436, 3) := dX10_come_101_b.2.2.2.2.2
set_option maxRecDepth 20000 in
theorem dX10_come_111_b : (decode cX10_come 111 = .ok (.iconst 0, 1)) ∧ (decode cX10_come 112 = .ok (.bastore, 1)) ∧ (decode cX10_come 113 = .ok (.aload_n 0, 1)) ∧ (decode cX10_come 114 = .ok (.getfield 124, 3)) ∧ (decode cX10_come 117 = .ok (.aload_n 0, 1)) ∧ (decode cX10_come 118 = .ok (.getfield 436, 3)) := by decide +kernel
theorem dX10_come_111 : decode cX10_come 111 = .ok (.iconst 0, 1) := dX10_come_111_b.1
theorem dX10_come_112 : decode cX10_come 112 = .ok (.bastore, 1) := dX10_come_111_b.2.1
theorem dX10_come_113 : decode cX10_come 113 = .ok (.aload_n 0, 1) := dX10_come_111_b.2.2.1
theorem dX10_come_114 : decode cX10_come 114 = .ok (.getfield 124, 3) := dX10_come_111_b.2.2.2.1
theorem dX10_come_117 : decode cX10_come 117 = .ok (.aload_n 0, 1) := dX10_come_111_b.2.2.2.2.1
theorem dX10_come_118 : decode cX10_come 118 = .ok (.getfield 436, 3) := dX10_come_111_b.2.2.2.2.2
set_option maxRecDepth 20000 in
theorem dX10_come_121_b : (decode cX10_come 121 = .ok (.aload_n 0, 1)) ∧ (decode cX10_come 122 = .ok (.getfield 127, 3)) ∧ (decode cX10_come 125 = .ok (.iload 4, 2)) ∧ (decode cX10_come 127 = .ok (.iaload, 1)) ∧ (decode cX10_come 128 = .ok (.iastore, 1)) ∧ (decode cX10_come 129 = .ok (.aload_n 0, 1)) := by decide +kernel
theorem dX10_come_121 : decode cX10_come 121 = .ok (.aload_n 0, 1) := dX10_come_121_b.1
theorem dX10_come_122 : decode cX10_come 122 = .ok (.getfield 127, 3) := dX10_come_121_b.2.1
theorem dX10_come_125 : decode cX10_come 125 = .ok (.iload 4, 2) := dX10_come_121_b.2.2.1
theorem dX10_come_127 : decode cX10_come 127 = .ok (.iaload, 1) := dX10_come_121_b.2.2.2.1
theorem dX10_come_128 : decode cX10_come 128 = .ok (.iastore, 1) := dX10_come_121_b.2.2.2.2.1
theorem dX10_come_129 : decode cX10_come 129 = .ok (.aload_n 0, 1) := dX10_come_121_b.2.2.2.2.2
set_option maxRecDepth 20000 in
theorem dX10_come_130_b : (decode cX10_come 130 = .ok (.getfield 127, 3)) ∧ (decode cX10_come 133 = .ok (.iload 4, 2)) ∧ (decode cX10_come 135 = .ok (.aload_n 0, 1)) ∧ (decode cX10_come 136 = .ok (.getfield 436, 3)) ∧ (decode cX10_come 139 = .ok (.iastore, 1)) ∧ (decode cX10_come 140 = .ok (.aload_n 0, 1)) := by decide +kernel
theorem dX10_come_130 : decode cX10_come 130 = .ok (.getfield 127, 3) := dX10_come_130_b.1
theorem dX10_come_133 : decode cX10_come 133 = .ok (.iload 4, 2) := dX10_come_130_b.2.1
theorem dX10_come_135 : decode cX10_come 135 = .ok (.aload_n 0, 1) := dX10_come_130_b.2.2.1
theorem dX10_come_136 : decode cX10_come 136 = .ok (.getfield 436, 3) := dX10_come_130_b.2.2.2.1
theorem dX10_come_139 : decode cX10_come 139 = .ok (.iastore, 1) := dX10_come_130_b.2.2.2.2.1
theorem dX10_come_140 : decode cX10_come 140 = .ok (.aload_n 0, 1) := dX10_come_130_b.2.2.2.2.2
set_option maxRecDepth 20000 in
theorem dX10_come_141_b : (decode cX10_come 141 = .ok (.dup, 1)) ∧ (decode cX10_come 142 = .ok (.getfield 436, 3)) ∧ (decode cX10_come 145 = .ok (.iconst 1, 1)) ∧ (decode cX10_come 146 = .ok (.iadd, 1)) ∧ (decode cX10_come 147 = .ok (.putfield 436, 3)) ∧ (decode cX10_come 150 = .ok (.return_, 1)) := by decide +kernel
theorem dX10_come_141 : decode cX10_come 141 = .ok (.dup, 1) := dX10_come_141_b.1
theorem dX10_come_142 : decode cX10_come 142 = .ok (.getfield 436, 3) := dX10_come_141_b.2.1
theorem dX10_come_145 : decode cX10_come 145 = .ok (.iconst 1, 1) := dX10_come_141_b.2.2.1
theorem dX10_come_146 : decode cX10_come 146 = .ok (.iadd, 1) := dX10_come_141_b.2.2.2.1
theorem dX10_come_147 : decode cX10_come 147 = .ok (.putfield 436, 3) := dX10_come_141_b.2.2.2.2.1
theorem dX10_come_150 : decode cX10_come 150 = .ok (.return_, 1) := dX10_come_141_b.2.2.2.2.2
set_option maxRecDepth 20000 in
theorem dX10_arrange_0_b : (decode cX10_arrange 0 = .ok (.aload_n 0, 1)) ∧ (decode cX10_arrange 1 = .ok (.getfield 439, 3)) ∧ (decode cX10_arrange 4 = .ok (.ifCond .eq 4, 3)) ∧ (decode cX10_arrange 7 = .ok (.return_, 1)) ∧ (decode cX10_arrange 8 = .ok (.iload_n 1, 1)) ∧ (decode cX10_arrange 9 = .ok (.aload_n 0, 1)) := by decide +kernel
theorem dX10_arrange_0 : decode cX10_arrange 0 = .ok (.aload_n 0, 1) := dX10_arrange_0_b.1
theorem dX10_arrange_1 : decode cX10_arrange 1 = .ok (.getfield 439, 3) := dX10_arrange_0_b.2.1
theorem dX10_arrange_4 : decode cX10_arrange 4 = .ok (.ifCond .eq 4, 3) := dX10_arrange_0_b.2.2.1
theorem dX10_arrange_7 : decode cX10_arrange 7 = .ok (.return_, 1) := dX10_arrange_0_b.2.2.2.1
theorem dX10_arrange_8 : decode cX10_arrange 8 = .ok (.iload_n 1, 1) := dX10_arrange_0_b.2.2.2.2.1
theorem dX10_arrange_9 : decode cX10_arrange 9 = .ok (.aload_n 0, 1) := dX10_arrange_0_b.2.2.2.2.2
set_option maxRecDepth 20000 in
theorem dX10_arrange_10_b : (decode cX10_arrange 10 = .ok (.getfield 174, 3)) ∧ (decode cX10_arrange 13 = .ok (.if_icmp .ne 8, 3)) ∧ (decode cX10_arrange 16 = .ok (.aload_n 0, 1)) ∧ (decode cX10_arrange 17 = .ok (.invokevirtual 442, 3)) ∧ (decode cX10_arrange 20 = .ok (.return_, 1)) ∧ (decode cX10_arrange 21 = .ok (.aload_n 0, 1)) := by decide +kernel
theorem dX10_arrange_10 : decode cX10_arrange 10 = .ok (.getfield 174, 3) := dX10_arrange_10_b.1
theorem dX10_arrange_13 : decode cX10_arrange 13 = .ok (.if_icmp .ne 8, 3) := dX10_arrange_10_b.2.1
theorem dX10_arrange_16 : decode cX10_arrange 16 = .ok (.aload_n 0, 1) := dX10_arrange_10_b.2.2.1
theorem dX10_arrange_17 : decode cX10_arrange 17 = .ok (.invokevirtual 442, 3) := dX10_arrange_10_b.2.2.2.1
theorem dX10_arrange_20 : decode cX10_arrange 20 = .ok (.return_, 1) := dX10_arrange_10_b.2.2.2.2.1
theorem dX10_arrange_21 : decode cX10_arrange 21 = .ok (.aload_n 0, 1) := dX10_arrange_10_b.2.2.2.2.2
set_option maxRecDepth 20000 in
theorem dX10_arrange_22_b : (decode cX10_arrange 22 = .ok (.getfield 134, 3)) ∧ (decode cX10_arrange 25 = .ok (.iload_n 1, 1)) ∧ (decode cX10_arrange 26 = .ok (.iaload, 1)) ∧ (decode cX10_arrange 27 = .ok (.istore_n 2, 1)) ∧ (decode cX10_arrange 28 = .ok (.aload_n 0, 1)) ∧ (decode cX10_arrange 29 = .ok (.getfield 137, 3)) := by decide +kernel
theorem dX10_arrange_22 : decode cX10_arrange 22 = .ok (.getfield 134, 3) := dX10_arrange_22_b.1
theorem dX10_arrange_25 : decode cX10_arrange 25 = .ok (.iload_n 1, 1) := dX10_arrange_22_b.2.1
theorem dX10_arrange_26 : decode cX10_arrange 26 = .ok (.iaload, 1) := dX10_arrange_22_b.2.2.1
theorem dX10_arrange_27 : decode cX10_arrange 27 = .ok (.istore_n 2, 1) := dX10_arrange_22_b.2.2.2.1
theorem dX10_arrange_28 : decode cX10_arrange 28 = .ok (.aload_n 0, 1) := dX10_arrange_22_b.2.2.2.2.1
theorem dX10_arrange_29 : decode cX10_arrange 29 = .ok (.getfield 137, 3) := dX10_arrange_22_b.2.2.2.2.2
set_option maxRecDepth 20000 in
theorem dX10_arrange_32_b : (decode cX10_arrange 32 = .ok (.iload_n 1, 1)) ∧ (decode cX10_arrange 33 = .ok (.iload_n 2, 1)) ∧ (decode cX10_arrange 34 = .ok (.iastore, 1)) ∧ (decode cX10_arrange 35 = .ok (.aload_n 0, 1)) ∧ (decode cX10_arrange 36 = .ok (.iload_n 1, 1)) ∧ (decode cX10_arrange 37 = .ok (.iconst 1, 1)) := by decide +kernel
theorem dX10_arrange_32 : decode cX10_arrange 32 = .ok (.iload_n 1, 1) := dX10_arrange_32_b.1
theorem dX10_arrange_33 : decode cX10_arrange 33 = .ok (.iload_n 2, 1) := dX10_arrange_32_b.2.1
theorem dX10_arrange_34 : decode cX10_arrange 34 = .ok (.iastore, 1) := dX10_arrange_32_b.2.2.1
theorem dX10_arrange_35 : decode cX10_arrange 35 = .ok (.aload_n 0, 1) := dX10_arrange_32_b.2.2.2.1
theorem dX10_arrange_36 : decode cX10_arrange 36 = .ok (.iload_n 1, 1) := dX10_arrange_32_b.2.2.2.2.1
theorem dX10_arrange_37 : decode cX10_arrange 37 = .ok (.iconst 1, 1) := dX10_arrange_32_b.2.2.2.2.2
set_option maxRecDepth 20000 in
theorem dX10_arrange_38_b : (decode cX10_arrange 38 = .ok (.iadd, 1)) ∧ (decode cX10_arrange 39 = .ok (.invokevirtual 445, 3)) ∧ (decode cX10_arrange 42 = .ok (.aload_n 0, 1)) ∧ (decode cX10_arrange 43 = .ok (.getfield 427, 3)) ∧ (decode cX10_arrange 46 = .ok (.istore_n 3, 1)) ∧ (decode cX10_arrange 47 = .ok (.aload_n 0, 1)) := by decide +kernel
theorem dX10_arrange_38 : decode cX10_arrange 38 = .ok (.iadd, 1) := dX10_arrange_38_b.1
theorem dX10_arrange_39 : decode cX10_arrange 39 = .ok (.invokevirtual 445, 3) := dX10_arrange_38_b.2.1
theorem dX10_arrange_42 : decode cX10_arrange 42 = .ok (.aload_n 0, 1) := dX10_arrange_38_b.2.2.1
theorem dX10_arrange_43 : decode cX10_arrange 43 = .ok (.getfield 427, 3) := dX10_arrange_38_b.2.2.2.1
theorem dX10_arrange_46 : decode cX10_arrange 46 = .ok (.istore_n 3, 1) := dX10_arrange_38_b.2.2.2.2.1
theorem dX10_arrange_47 : decode cX10_arrange 47 = .ok (.aload_n 0, 1) := dX10_arrange_38_b.2.2.2.2.2
set_option maxRecDepth 20000 in
theorem dX10_arrange_48_b : (decode cX10_arrange 48 = .ok (.invokevirtual 346, 3)) ∧ (decode cX10_arrange 51 = .ok (.aload_n 0, 1)) ∧ (decode cX10_arrange 52 = .ok (.getfield 427, 3)) ∧ (decode cX10_arrange 55 = .ok (.isub, 1)) ∧ (decode cX10_arrange 56 = .ok (.istore 4, 2)) ∧ (decode cX10_arrange 58 = .ok (.iload_n 2, 1)) := by decide +kernel
theorem dX10_arrange_48 : decode cX10_arrange 48 = .ok (.invokevirtual 346, 3) := dX10_arrange_48_b.1
theorem dX10_arrange_51 : decode cX10_arrange 51 = .ok (.aload_n 0, 1) := dX10_arrange_48_b.2.1
theorem dX10_arrange_52 : decode cX10_arrange 52 = .ok (.getfield 427, 3) := dX10_arrange_48_b.2.2.1
theorem dX10_arrange_55 : decode cX10_arrange 55 = .ok (.isub, 1) := dX10_arrange_48_b.2.2.2.1
theorem dX10_arrange_56 : decode cX10_arrange 56 = .ok (.istore 4, 2) := dX10_arrange_48_b.2.2.2.2.1
theorem dX10_arrange_58 : decode cX10_arrange 58 = .ok (.iload_n 2, 1) := dX10_arrange_48_b.2.2.2.2.2
set_option maxRecDepth 20000 in
theorem dX10_arrange_59_b : (decode cX10_arrange 59 = .ok (.bipush 12, 2)) ∧ (decode cX10_arrange 61 = .ok (.if_icmp .eq 9, 3)) ∧ (decode cX10_arrange 64 = .ok (.iload_n 2, 1)) ∧ (decode cX10_arrange 65 = .ok (.bipush 13, 2)) ∧ (decode cX10_arrange 67 = .ok (.if_icmp .ne 7, 3)) ∧ (decode cX10_arrange 70 = .ok (.iconst 1, 1)) := by decide +kernel
theorem dX10_arrange_59 : decode cX10_arrange 59 = .ok (.bipush 12, 2) := dX10_arrange_59_b.1
theorem dX10_arrange_61 : decode cX10_arrange 61 = .ok (.if_icmp .eq 9, 3) := dX10_arrange_59_b.2.1
theorem dX10_arrange_64 : decode cX10_arrange 64 = .ok (.iload_n 2, 1) := dX10_arrange_59_b.2.2.1
theorem dX10_arrange_65 : decode cX10_arrange 65 = .ok (.bipush 13, 2) := dX10_arrange_59_b.2.2.2.1
theorem dX10_arrange_67 : decode cX10_arrange 67 = .ok (.if_icmp .ne 7, 3) := dX10_arrange_59_b.2.2.2.2.1
theorem dX10_arrange_70 : decode cX10_arrange 70 = .ok (.iconst 1, 1) := dX10_arrange_59_b.2.2.2.2.2
set_option maxRecDepth 20000 in
theorem dX10_arrange_71_b : (decode cX10_arrange 71 = .ok (.goto 4, 3)) ∧ (decode cX10_arrange 74 = .ok (.iconst 0, 1)) ∧ (decode cX10_arrange 75 = .ok (.istore 5, 2)) ∧ (decode cX10_arrange 77 = .ok (.iload 5, 2)) ∧ (decode cX10_arrange 79 = .ok (.ifCond .eq 83, 3)) ∧ (decode cX10_arrange 82 = .ok (.iload_n 2, 1)) := by decide +kernel
theorem dX10_arrange_71 : decode cX10_arrange 71 = .ok (.goto 4, 3) := dX10_arrange_71_b.1
theorem dX10_arrange_74 : decode cX10_arrange 74 = .ok (.iconst 0, 1) := dX10_arrange_71_b.2.1
theorem dX10_arrange_75 : decode cX10_arrange 75 = .ok (.istore 5, 2) := dX10_arrange_71_b.2.2.1
theorem dX10_arrange_77 : decode cX10_arrange 77 = .ok (.iload 5, 2) := dX10_arrange_71_b.2.2.2.1
theorem dX10_arrange_79 : decode cX10_arrange 79 = .ok (.ifCond .eq 83, 3) := dX10_arrange_71_b.2.2.2.2.1
theorem dX10_arrange_82 : decode cX10_arrange 82 = .ok (.iload_n 2, 1) := dX10_arrange_71_b.2.2.2.2.2
set_option maxRecDepth 20000 in
theorem dX10_arrange_83_b : (decode cX10_arrange 83 = .ok (.bipush 12, 2)) ∧ (decode cX10_arrange 85 = .ok (.if_icmp .ne 7, 3)) ∧ (decode cX10_arrange 88 = .ok (.iload_n 3, 1)) ∧ (decode cX10_arrange 89 = .ok (.goto 5, 3)) ∧ (decode cX10_arrange 92 = .ok (.iload 4, 2)) ∧ (decode cX10_arrange 94 = .ok (.istore 6, 2)) := by decide +kernel
theorem dX10_arrange_83 : decode cX10_arrange 83 = .ok (.bipush 12, 2) := dX10_arrange_83_b.1
theorem dX10_arrange_85 : decode cX10_arrange 85 = .ok (.if_icmp .ne 7, 3) := dX10_arrange_83_b.2.1
theorem dX10_arrange_88 : decode cX10_arrange 88 = .ok (.iload_n 3, 1) := dX10_arrange_83_b.2.2.1
theorem dX10_arrange_89 : decode cX10_arrange 89 = .ok (.goto 5, 3) := dX10_arrange_83_b.2.2.2.1
theorem dX10_arrange_92 : decode cX10_arrange 92 = .ok (.iload 4, 2) := dX10_arrange_83_b.2.2.2.2.1
theorem dX10_arrange_94 : decode cX10_arrange 94 = .ok (.istore 6, 2) := dX10_arrange_83_b.2.2.2.2.2
set_option maxRecDepth 20000 in
theorem dX10_arrange_96_b : (decode cX10_arrange 96 = .ok (.aload_n 0, 1)) ∧ (decode cX10_arrange 97 = .ok (.getfield 137, 3)) ∧ (decode cX10_arrange 100 = .ok (.iload_n 1, 1)) ∧ (decode cX10_arrange 101 = .ok (.aload_n 0, 1)) ∧ (decode cX10_arrange 102 = .ok (.iload_n 1, 1)) ∧ (decode cX10_arrange 103 = .ok (.iload 6, 2)) := by decide +kernel
theorem dX10_arrange_96 : decode cX10_arrange 96 = .ok (.aload_n 0, 1) := dX10_arrange_96_b.1
theorem dX10_arrange_97 : decode cX10_arrange 97 = .ok (.getfield 137, 3) := dX10_arrange_96_b.2.1
theorem dX10_arrange_100 : decode cX10_arrange 100 = .ok (.iload_n 1, 1) := dX10_arrange_96_b.2.2.1
theorem dX10_arrange_101 : decode cX10_arrange 101 = .ok (.aload_n 0, 1) := dX10_arrange_96_b.2.2.2.1
theorem dX10_arrange_102 : decode cX10_arrange 102 = .ok (.iload_n 1, 1) := dX10_arrange_96_b.2.2.2.2.1
theorem dX10_arrange_103 : decode cX10_arrange 103 = .ok (.iload 6, 2) := dX10_arrange_96_b.2.2.2.2.2
set_option maxRecDepth 20000 in
theorem dX10_arrange_105_b : (decode cX10_arrange 105 = .ok (.invokevirtual 419, 3)) ∧ (decode cX10_arrange 108 = .ok (.iastore, 1)) ∧ (decode cX10_arrange 109 = .ok (.aload_n 0, 1)) ∧ (decode cX10_arrange 110 = .ok (.iload_n 1, 1)) ∧ (decode cX10_arrange 111 = .ok (.iconst 1, 1)) ∧ (decode cX10_arrange 112 = .ok (.iadd, 1)) := by decide +kernel
theorem dX10_arrange_105 : decode cX10_arrange 105 = .ok (.invokevirtual 419, 3) := dX10_arrange_105_b.1
theorem dX10_arrange_108 : decode cX10_arrange 108 = .ok (.iastore, 1) := dX10_arrange_105_b.2.1
theorem dX10_arrange_109 : decode cX10_arrange 109 = .ok (.aload_n 0, 1) := dX10_arrange_105_b.2.2.1
theorem dX10_arrange_110 : decode cX10_arrange 110 = .ok (.iload_n 1, 1) := dX10_arrange_105_b.2.2.2.1
theorem dX10_arrange_111 : decode cX10_arrange 111 = .ok (.iconst 1, 1) := dX10_arrange_105_b.2.2.2.2.1
theorem dX10_arrange_112 : decode cX10_arrange 112 = .ok (.iadd, 1) := dX10_arrange_105_b.2.2.2.2.2
set_option maxRecDepth 20000 in
theorem dX10_arrange_113_b : (decode cX10_arrange 113 = .ok (.invokevirtual 445, 3)) ∧ (decode cX10_arrange 116 = .ok (.iload_n 3, 1)) ∧ (decode cX10_arrange 117 = .ok (.iload 4, 2)) ∧ (decode cX10_arrange 119 = .ok (.if_icmp .ne 40, 3)) ∧ (decode cX10_arrange 122 = .ok (.aload_n 0, 1)) ∧ (decode cX10_arrange 123 = .ok (.getfield 65, 3)) := by decide +kernel
theorem dX10_arrange_113 : decode cX10_arrange 113 = .ok (.invokevirtual 445, 3) := dX10_arrange_113_b.1
theorem dX10_arrange_116 : decode cX10_arrange 116 = .ok (.iload_n 3, 1) := dX10_arrange_113_b.2.1
theorem dX10_arrange_117 : decode cX10_arrange 117 = .ok (.iload 4, 2) := dX10_arrange_113_b.2.2.1
theorem dX10_arrange_119 : decode cX10_arrange 119 = .ok (.if_icmp .ne 40, 3) := dX10_arrange_113_b.2.2.2.1
theorem dX10_arrange_122 : decode cX10_arrange 122 = .ok (.aload_n 0, 1) := dX10_arrange_113_b.2.2.2.2.1
theorem dX10_arrange_123 : decode cX10_arrange 123 = .ok (.getfield 65, 3) := dX10_arrange_113_b.2.2.2.2.2
set_option maxRecDepth 20000 in
theorem dX10_arrange_126_b : (decode cX10_arrange 126 = .ok (.iload_n 1, 1)) ∧ (decode cX10_arrange 127 = .ok (.iaload, 1)) ∧ (decode cX10_arrange 128 = .ok (.iload 6, 2)) ∧ (decode cX10_arrange 130 = .ok (.if_icmp .eq 29, 3)) ∧ (decode cX10_arrange 133 = .ok (.aload_n 0, 1)) ∧ (decode cX10_arrange 134 = .ok (.getfield 137, 3)) := by decide +kernel
theorem dX10_arrange_126 : decode cX10_arrange 126 = .ok (.iload_n 1, 1) := dX10_arrange_126_b.1
theorem dX10_arrange_127 : decode cX10_arrange 127 = .ok (.iaload, 1) := dX10_arrange_126_b.2.1
theorem dX10_arrange_128 : decode cX10_arrange 128 = .ok (.iload 6, 2) := dX10_arrange_126_b.2.2.1
theorem dX10_arrange_130 : decode cX10_arrange 130 = .ok (.if_icmp .eq 29, 3) := dX10_arrange_126_b.2.2.2.1
theorem dX10_arrange_133 : decode cX10_arrange 133 = .ok (.aload_n 0, 1) := dX10_arrange_126_b.2.2.2.2.1
theorem dX10_arrange_134 : decode cX10_arrange 134 = .ok (.getfield 137, 3) := dX10_arrange_126_b.2.2.2.2.2
set_option maxRecDepth 20000 in
theorem dX10_arrange_137_b : (decode cX10_arrange 137 = .ok (.iload_n 1, 1)) ∧ (decode cX10_arrange 138 = .ok (.iload_n 2, 1)) ∧ (decode cX10_arrange 139 = .ok (.bipush 12, 2)) ∧ (decode cX10_arrange 141 = .ok (.if_icmp .ne 8, 3)) ∧ (decode cX10_arrange 144 = .ok (.bipush 13, 2)) ∧ (decode cX10_arrange 146 = .ok (.goto 5, 3)) := by decide +kernel
theorem dX10_arrange_137 : decode cX10_arrange 137 = .ok (.iload_n 1, 1) := dX10_arrange_137_b.1
theorem dX10_arrange_138 : decode cX10_arrange 138 = .ok (.iload_n 2, 1) := dX10_arrange_137_b.2.1
theorem dX10_arrange_139 : decode cX10_arrange 139 = .ok (.bipush 12, 2) := dX10_arrange_137_b.2.2.1
theorem dX10_arrange_141 : decode cX10_arrange 141 = .ok (.if_icmp .ne 8, 3) := dX10_arrange_137_b.2.2.2.1
theorem dX10_arrange_144 : decode cX10_arrange 144 = .ok (.bipush 13, 2) := dX10_arrange_137_b.2.2.2.2.1
theorem dX10_arrange_146 : decode cX10_arrange 146 = .ok (.goto 5, 3) := dX10_arrange_137_b.2.2.2.2.2
set_option maxRecDepth 20000 in
theorem dX10_arrange_149_b : (decode cX10_arrange 149 = .ok (.bipush 12, 2)) ∧ (decode cX10_arrange 151 = .ok (.iastore, 1)) ∧ (decode cX10_arrange 152 = .ok (.aload_n 0, 1)) ∧ (decode cX10_arrange 153 = .ok (.iload_n 1, 1)) ∧ (decode cX10_arrange 154 = .ok (.iconst 1, 1)) ∧ (decode cX10_arrange 155 = .ok (.iadd, 1)) := by decide +kernel
theorem dX10_arrange_149 : decode cX10_arrange 149 = .ok (.bipush 12, 2) := dX10_arrange_149_b.1
theorem dX10_arrange_151 : decode cX10_arrange 151 = .ok (.iastore, 1) := dX10_arrange_149_b.2.1
theorem dX10_arrange_152 : decode cX10_arrange 152 = .ok (.aload_n 0, 1) := dX10_arrange_149_b.2.2.1
theorem dX10_arrange_153 : decode cX10_arrange 153 = .ok (.iload_n 1, 1) := dX10_arrange_149_b.2.2.2.1
theorem dX10_arrange_154 : decode cX10_arrange 154 = .ok (.iconst 1, 1) := dX10_arrange_149_b.2.2.2.2.1
theorem dX10_arrange_155 : decode cX10_arrange 155 = .ok (.iadd, 1) := dX10_arrange_149_b.2.2.2.2.2
set_option maxRecDepth 20000 in
theorem dX10_arrange_156_b : (decode cX10_arrange 156 = .ok (.invokevirtual 445, 3)) ∧ (decode cX10_arrange 159 = .ok (.goto 59, 3)) ∧ (decode cX10_arrange 162 = .ok (.iload_n 2, 1)) ∧ (decode cX10_arrange 163 = .ok (.bipush 12, 2)) ∧ (decode cX10_arrange 165 = .ok (.if_icmp .ge 53, 3)) ∧ (decode cX10_arrange 168 = .ok (.aload_n 0, 1)) := by decide +kernel
theorem dX10_arrange_156 : decode cX10_arrange 156 = .ok (.invokevirtual 445, 3) := dX10_arrange_156_b.1
theorem dX10_arrange_159 : decode cX10_arrange 159 = .ok (.goto 59, 3) := dX10_arrange_156_b.2.1
theorem dX10_arrange_162 : decode cX10_arrange 162 = .ok (.iload_n 2, 1) := dX10_arrange_156_b.2.2.1
theorem dX10_arrange_163 : decode cX10_arrange 163 = .ok (.bipush 12, 2) := dX10_arrange_156_b.2.2.2.1
theorem dX10_arrange_165 : decode cX10_arrange 165 = .ok (.if_icmp .ge 53, 3) := dX10_arrange_156_b.2.2.2.2.1
theorem dX10_arrange_168 : decode cX10_arrange 168 = .ok (.aload_n 0, 1) := dX10_arrange_156_b.2.2.2.2.2
set_option maxRecDepth 20000 in
theorem dX10_arrange_169_b : (decode cX10_arrange 169 = .ok (.iload_n 1, 1)) ∧ (decode cX10_arrange 170 = .ok (.iload_n 2, 1)) ∧ (decode cX10_arrange 171 = .ok (.invokevirtual 355, 3)) ∧ (decode cX10_arrange 174 = .ok (.ifCond .ne 44, 3)) ∧ (decode cX10_arrange 177 = .ok (.iload_n 2, 1)) ∧ (decode cX10_arrange 178 = .ok (.iload_n 3, 1)) := by decide +kernel
theorem dX10_arrange_169 : decode cX10_arrange 169 = .ok (.iload_n 1, 1) := dX10_arrange_169_b.1
theorem dX10_arrange_170 : decode cX10_arrange 170 = .ok (.iload_n 2, 1) := dX10_arrange_169_b.2.1
theorem dX10_arrange_171 : decode cX10_arrange 171 = .ok (.invokevirtual 355, 3) := dX10_arrange_169_b.2.2.1
theorem dX10_arrange_174 : decode cX10_arrange 174 = .ok (.ifCond .ne 44, 3) := dX10_arrange_169_b.2.2.2.1
theorem dX10_arrange_177 : decode cX10_arrange 177 = .ok (.iload_n 2, 1) := dX10_arrange_169_b.2.2.2.2.1
theorem dX10_arrange_178 : decode cX10_arrange 178 = .ok (.iload_n 3, 1) := dX10_arrange_169_b.2.2.2.2.2
set_option maxRecDepth 20000 in
theorem dX10_arrange_179_b : (decode cX10_arrange 179 = .ok (.if_icmp .ne 18, 3)) ∧ (decode cX10_arrange 182 = .ok (.aload_n 0, 1)) ∧ (decode cX10_arrange 183 = .ok (.getfield 137, 3)) ∧ (decode cX10_arrange 186 = .ok (.iload_n 1, 1)) ∧ (decode cX10_arrange 187 = .ok (.bipush 12, 2)) ∧ (decode cX10_arrange 189 = .ok (.iastore, 1)) := by decide +kernel
theorem dX10_arrange_179 : decode cX10_arrange 179 = .ok (.if_icmp .ne 18, 3) := dX10_arrange_179_b.1
theorem dX10_arrange_182 : decode cX10_arrange 182 = .ok (.aload_n 0, 1) := dX10_arrange_179_b.2.1
theorem dX10_arrange_183 : decode cX10_arrange 183 = .ok (.getfield 137, 3) := dX10_arrange_179_b.2.2.1
theorem dX10_arrange_186 : decode cX10_arrange 186 = .ok (.iload_n 1, 1) := dX10_arrange_179_b.2.2.2.1
theorem dX10_arrange_187 : decode cX10_arrange 187 = .ok (.bipush 12, 2) := dX10_arrange_179_b.2.2.2.2.1
theorem dX10_arrange_189 : decode cX10_arrange 189 = .ok (.iastore, 1) := dX10_arrange_179_b.2.2.2.2.2
set_option maxRecDepth 20000 in
theorem dX10_arrange_190_b : (decode cX10_arrange 190 = .ok (.aload_n 0, 1)) ∧ (decode cX10_arrange 191 = .ok (.iload_n 1, 1)) ∧ (decode cX10_arrange 192 = .ok (.iconst 1, 1)) ∧ (decode cX10_arrange 193 = .ok (.iadd, 1)) ∧ (decode cX10_arrange 194 = .ok (.invokevirtual 445, 3)) ∧ (decode cX10_arrange 197 = .ok (.iload_n 2, 1)) := by decide +kernel
theorem dX10_arrange_190 : decode cX10_arrange 190 = .ok (.aload_n 0, 1) := dX10_arrange_190_b.1
theorem dX10_arrange_191 : decode cX10_arrange 191 = .ok (.iload_n 1, 1) := dX10_arrange_190_b.2.1
theorem dX10_arrange_192 : decode cX10_arrange 192 = .ok (.iconst 1, 1) := dX10_arrange_190_b.2.2.1
theorem dX10_arrange_193 : decode cX10_arrange 193 = .ok (.iadd, 1) := dX10_arrange_190_b.2.2.2.1
theorem dX10_arrange_194 : decode cX10_arrange 194 = .ok (.invokevirtual 445, 3) := dX10_arrange_190_b.2.2.2.2.1
theorem dX10_arrange_197 : decode cX10_arrange 197 = .ok (.iload_n 2, 1) := dX10_arrange_190_b.2.2.2.2.2
set_option maxRecDepth 20000 in
theorem dX10_arrange_198_b : (decode cX10_arrange 198 = .ok (.iload 4, 2)) ∧ (decode cX10_arrange 200 = .ok (.if_icmp .ne 18, 3)) ∧ (decode cX10_arrange 203 = .ok (.aload_n 0, 1)) ∧ (decode cX10_arrange 204 = .ok (.getfield 137, 3)) ∧ (decode cX10_arrange 207 = .ok (.iload_n 1, 1)) ∧ (decode cX10_arrange 208 = .ok (.bipush 13, 2)) := by decide +kernel
theorem dX10_arrange_198 : decode cX10_arrange 198 = .ok (.iload 4, 2) := dX10_arrange_198_b.1
theorem dX10_arrange_200 : decode cX10_arrange 200 = .ok (.if_icmp .ne 18, 3) := dX10_arrange_198_b.2.1
theorem dX10_arrange_203 : decode cX10_arrange 203 = .ok (.aload_n 0, 1) := dX10_arrange_198_b.2.2.1
theorem dX10_arrange_204 : decode cX10_arrange 204 = .ok (.getfield 137, 3) := dX10_arrange_198_b.2.2.2.1
theorem dX10_arrange_207 : decode cX10_arrange 207 = .ok (.iload_n 1, 1) := dX10_arrange_198_b.2.2.2.2.1
theorem dX10_arrange_208 : decode cX10_arrange 208 = .ok (.bipush 13, 2) := dX10_arrange_198_b.2.2.2.2.2
set_option maxRecDepth 20000 in
theorem dX10_arrange_210_b : (decode cX10_arrange 210 = .ok (.iastore, 1)) ∧ (decode cX10_arrange 211 = .ok (.aload_n 0, 1)) ∧ (decode cX10_arrange 212 = .ok (.iload_n 1, 1)) ∧ (decode cX10_arrange 213 = .ok (.iconst 1, 1)) ∧ (decode cX10_arrange 214 = .ok (.iadd, 1)) ∧ (decode cX10_arrange 215 = .ok (.invokevirtual 445, 3)) := by decide +kernel
theorem dX10_arrange_210 : decode cX10_arrange 210 = .ok (.iastore, 1) := dX10_arrange_210_b.1
theorem dX10_arrange_211 : decode cX10_arrange 211 = .ok (.aload_n 0, 1) := dX10_arrange_210_b.2.1
theorem dX10_arrange_212 : decode cX10_arrange 212 = .ok (.iload_n 1, 1) := dX10_arrange_210_b.2.2.1
theorem dX10_arrange_213 : decode cX10_arrange 213 = .ok (.iconst 1, 1) := dX10_arrange_210_b.2.2.2.1
theorem dX10_arrange_214 : decode cX10_arrange 214 = .ok (.iadd, 1) := dX10_arrange_210_b.2.2.2.2.1
theorem dX10_arrange_215 : decode cX10_arrange 215 = .ok (.invokevirtual 445, 3) := dX10_arrange_210_b.2.2.2.2.2
theorem dX10_arrange_218 : decode cX10_arrange 218 = .ok (.return_, 1) := by decide +kernel
set_option maxRecDepth 20000 in
theorem dX10_rideOn_0_b : (decode cX10_rideOn 0 = .ok (.aload_n 0, 1)) ∧ (decode cX10_rideOn 1 = .ok (.aload_n 0, 1)) ∧ (decode cX10_rideOn 2 = .ok (.getfield 137, 3)) ∧ (decode cX10_rideOn 5 = .ok (.invokevirtual 397, 3)) ∧ (decode cX10_rideOn 8 = .ok (.ifCond .eq 18, 3)) ∧ (decode cX10_rideOn 11 = .ok (.aload_n 0, 1)) := by decide +kernel
theorem dX10_rideOn_0 : decode cX10_rideOn 0 = .ok (.aload_n 0, 1) := dX10_rideOn_0_b.1
theorem dX10_rideOn_1 : decode cX10_rideOn 1 = .ok (.aload_n 0, 1) := dX10_rideOn_0_b.2.1
theorem dX10_rideOn_2 : decode cX10_rideOn 2 = .ok (.getfield 137, 3) := dX10_rideOn_0_b.2.2.1
theorem dX10_rideOn_5 : decode cX10_rideOn 5 = .ok (.invokevirtual 397, 3) := dX10_rideOn_0_b.2.2.2.1
theorem dX10_rideOn_8 : decode cX10_rideOn 8 = .ok (.ifCond .eq 18, 3) := dX10_rideOn_0_b.2.2.2.2.1
theorem dX10_rideOn_11 : decode cX10_rideOn 11 = .ok (.aload_n 0, 1) := dX10_rideOn_0_b.2.2.2.2.2
set_option maxRecDepth 20000 in
theorem dX10_rideOn_12_b : (decode cX10_rideOn 12 = .ok (.aload_n 0, 1)) ∧ (decode cX10_rideOn 13 = .ok (.getfield 137, 3)) ∧ (decode cX10_rideOn 16 = .ok (.aload_n 0, 1)) ∧ (decode cX10_rideOn 17 = .ok (.getfield 427, 3)) ∧ (decode cX10_rideOn 20 = .ok (.invokevirtual 401, 3)) ∧ (decode cX10_rideOn 23 = .ok (.ifCond .ne 4, 3)) := by decide +kernel
theorem dX10_rideOn_12 : decode cX10_rideOn 12 = .ok (.aload_n 0, 1) := dX10_rideOn_12_b.1
theorem dX10_rideOn_13 : decode cX10_rideOn 13 = .ok (.getfield 137, 3) := dX10_rideOn_12_b.2.1
theorem dX10_rideOn_16 : decode cX10_rideOn 16 = .ok (.aload_n 0, 1) := dX10_rideOn_12_b.2.2.1
theorem dX10_rideOn_17 : decode cX10_rideOn 17 = .ok (.getfield 427, 3) := dX10_rideOn_12_b.2.2.2.1
theorem dX10_rideOn_20 : decode cX10_rideOn 20 = .ok (.invokevirtual 401, 3) := dX10_rideOn_12_b.2.2.2.2.1
theorem dX10_rideOn_23 : decode cX10_rideOn 23 = .ok (.ifCond .ne 4, 3) := dX10_rideOn_12_b.2.2.2.2.2
set_option maxRecDepth 20000 in
theorem dX10_rideOn_26_b : (decode cX10_rideOn 26 = .ok (.return_, 1)) ∧ (decode cX10_rideOn 27 = .ok (.iconst 0, 1)) ∧ (decode cX10_rideOn 28 = .ok (.istore_n 1, 1)) ∧ (decode cX10_rideOn 29 = .ok (.iload_n 1, 1)) ∧ (decode cX10_rideOn 30 = .ok (.aload_n 0, 1)) ∧ (decode cX10_rideOn 31 = .ok (.invokevirtual 346, 3)) := by decide +kernel
theorem dX10_rideOn_26 : decode cX10_rideOn 26 = .ok (.return_, 1) := dX10_rideOn_26_b.1
theorem dX10_rideOn_27 : decode cX10_rideOn 27 = .ok (.iconst 0, 1) := dX10_rideOn_26_b.2.1
theorem dX10_rideOn_28 : decode cX10_rideOn 28 = .ok (.istore_n 1, 1) := dX10_rideOn_26_b.2.2.1
theorem dX10_rideOn_29 : decode cX10_rideOn 29 = .ok (.iload_n 1, 1) := dX10_rideOn_26_b.2.2.2.1
theorem dX10_rideOn_30 : decode cX10_rideOn 30 = .ok (.aload_n 0, 1) := dX10_rideOn_26_b.2.2.2.2.1
theorem dX10_rideOn_31 : decode cX10_rideOn 31 = .ok (.invokevirtual 346, 3) := dX10_rideOn_26_b.2.2.2.2.2
set_option maxRecDepth 20000 in
theorem dX10_rideOn_34_b : (decode cX10_rideOn 34 = .ok (.if_icmp .gt 80, 3)) ∧ (decode cX10_rideOn 37 = .ok (.iload_n 1, 1)) ∧ (decode cX10_rideOn 38 = .ok (.aload_n 0, 1)) ∧ (decode cX10_rideOn 39 = .ok (.getfield 427, 3)) ∧ (decode cX10_rideOn 42 = .ok (.if_icmp .ne 6, 3)) ∧ (decode cX10_rideOn 45 = .ok (.goto 63, 3)) := by decide +kernel
theorem dX10_rideOn_34 : decode cX10_rideOn 34 = .ok (.if_icmp .gt 80, 3) := dX10_rideOn_34_b.1
theorem dX10_rideOn_37 : decode cX10_rideOn 37 = .ok (.iload_n 1, 1) := dX10_rideOn_34_b.2.1
theorem dX10_rideOn_38 : decode cX10_rideOn 38 = .ok (.aload_n 0, 1) := dX10_rideOn_34_b.2.2.1
theorem dX10_rideOn_39 : decode cX10_rideOn 39 = .ok (.getfield 427, 3) := dX10_rideOn_34_b.2.2.2.1
theorem dX10_rideOn_42 : decode cX10_rideOn 42 = .ok (.if_icmp .ne 6, 3) := dX10_rideOn_34_b.2.2.2.2.1
theorem dX10_rideOn_45 : decode cX10_rideOn 45 = .ok (.goto 63, 3) := dX10_rideOn_34_b.2.2.2.2.2
set_option maxRecDepth 20000 in
theorem dX10_rideOn_48_b : (decode cX10_rideOn 48 = .ok (.aload_n 0, 1)) ∧ (decode cX10_rideOn 49 = .ok (.aload_n 0, 1)) ∧ (decode cX10_rideOn 50 = .ok (.getfield 137, 3)) ∧ (decode cX10_rideOn 53 = .ok (.aload_n 0, 1)) ∧ (decode cX10_rideOn 54 = .ok (.getfield 427, 3)) ∧ (decode cX10_rideOn 57 = .ok (.iload_n 1, 1)) := by decide +kernel
theorem dX10_rideOn_48 : decode cX10_rideOn 48 = .ok (.aload_n 0, 1) := dX10_rideOn_48_b.1
theorem dX10_rideOn_49 : decode cX10_rideOn 49 = .ok (.aload_n 0, 1) := dX10_rideOn_48_b.2.1
theorem dX10_rideOn_50 : decode cX10_rideOn 50 = .ok (.getfield 137, 3) := dX10_rideOn_48_b.2.2.1
theorem dX10_rideOn_53 : decode cX10_rideOn 53 = .ok (.aload_n 0, 1) := dX10_rideOn_48_b.2.2.2.1
theorem dX10_rideOn_54 : decode cX10_rideOn 54 = .ok (.getfield 427, 3) := dX10_rideOn_48_b.2.2.2.2.1
theorem dX10_rideOn_57 : decode cX10_rideOn 57 = .ok (.iload_n 1, 1) := dX10_rideOn_48_b.2.2.2.2.2
set_option maxRecDepth 20000 in
theorem dX10_rideOn_58_b : (decode cX10_rideOn 58 = .ok (.invokevirtual 405, 3)) ∧ (decode cX10_rideOn 61 = .ok (.aload_n 0, 1)) ∧ (decode cX10_rideOn 62 = .ok (.getfield 448, 3)) ∧ (decode cX10_rideOn 65 = .ok (.ifCond .ne 11, 3)) ∧ (decode cX10_rideOn 68 = .ok (.aload_n 0, 1)) ∧ (decode cX10_rideOn 69 = .ok (.iconst 1, 1)) := by decide +kernel
theorem dX10_rideOn_58 : decode cX10_rideOn 58 = .ok (.invokevirtual 405, 3) := dX10_rideOn_58_b.1
theorem dX10_rideOn_61 : decode cX10_rideOn 61 = .ok (.aload_n 0, 1) := dX10_rideOn_58_b.2.1
theorem dX10_rideOn_62 : decode cX10_rideOn 62 = .ok (.getfield 448, 3) := dX10_rideOn_58_b.2.2.1
theorem dX10_rideOn_65 : decode cX10_rideOn 65 = .ok (.ifCond .ne 11, 3) := dX10_rideOn_58_b.2.2.2.1
theorem dX10_rideOn_68 : decode cX10_rideOn 68 = .ok (.aload_n 0, 1) := dX10_rideOn_58_b.2.2.2.2.1
theorem dX10_rideOn_69 : decode cX10_rideOn 69 = .ok (.iconst 1, 1) := dX10_rideOn_58_b.2.2.2.2.2
set_option maxRecDepth 20000 in
theorem dX10_rideOn_70_b : (decode cX10_rideOn 70 = .ok (.invokevirtual 409, 3)) ∧ (decode cX10_rideOn 73 = .ok (.ifCond .ne 35, 3)) ∧ (decode cX10_rideOn 76 = .ok (.aload_n 0, 1)) ∧ (decode cX10_rideOn 77 = .ok (.aload_n 0, 1)) ∧ (decode cX10_rideOn 78 = .ok (.getfield 137, 3)) ∧ (decode cX10_rideOn 81 = .ok (.iload_n 1, 1)) := by decide +kernel
theorem dX10_rideOn_70 : decode cX10_rideOn 70 = .ok (.invokevirtual 409, 3) := dX10_rideOn_70_b.1
theorem dX10_rideOn_73 : decode cX10_rideOn 73 = .ok (.ifCond .ne 35, 3) := dX10_rideOn_70_b.2.1
theorem dX10_rideOn_76 : decode cX10_rideOn 76 = .ok (.aload_n 0, 1) := dX10_rideOn_70_b.2.2.1
theorem dX10_rideOn_77 : decode cX10_rideOn 77 = .ok (.aload_n 0, 1) := dX10_rideOn_70_b.2.2.2.1
theorem dX10_rideOn_78 : decode cX10_rideOn 78 = .ok (.getfield 137, 3) := dX10_rideOn_70_b.2.2.2.2.1
theorem dX10_rideOn_81 : decode cX10_rideOn 81 = .ok (.iload_n 1, 1) := dX10_rideOn_70_b.2.2.2.2.2
set_option maxRecDepth 20000 in
theorem dX10_rideOn_82_b : (decode cX10_rideOn 82 = .ok (.invokestatic 451, 3)) ∧ (decode cX10_rideOn 85 = .ok (.aload_n 0, 1)) ∧ (decode cX10_rideOn 86 = .ok (.getfield 455, 3)) ∧ (decode cX10_rideOn 89 = .ok (.aload_n 0, 1)) ∧ (decode cX10_rideOn 90 = .ok (.getfield 448, 3)) ∧ (decode cX10_rideOn 93 = .ok (.ifCond .eq 10, 3)) := by decide +kernel
theorem dX10_rideOn_82 : decode cX10_rideOn 82 = .ok (.invokestatic 451, 3) := dX10_rideOn_82_b.1
theorem dX10_rideOn_85 : decode cX10_rideOn 85 = .ok (.aload_n 0, 1) := dX10_rideOn_82_b.2.1
theorem dX10_rideOn_86 : decode cX10_rideOn 86 = .ok (.getfield 455, 3) := dX10_rideOn_82_b.2.2.1
theorem dX10_rideOn_89 : decode cX10_rideOn 89 = .ok (.aload_n 0, 1) := dX10_rideOn_82_b.2.2.2.1
theorem dX10_rideOn_90 : decode cX10_rideOn 90 = .ok (.getfield 448, 3) := dX10_rideOn_82_b.2.2.2.2.1
theorem dX10_rideOn_93 : decode cX10_rideOn 93 = .ok (.ifCond .eq 10, 3) := dX10_rideOn_82_b.2.2.2.2.2
set_option maxRecDepth 20000 in
theorem dX10_rideOn_96_b : (decode cX10_rideOn 96 = .ok (.aload_n 0, 1)) ∧ (decode cX10_rideOn 97 = .ok (.getfield 391, 3)) ∧ (decode cX10_rideOn 100 = .ok (.goto 4, 3)) ∧ (decode cX10_rideOn 103 = .ok (.iconst 1, 1)) ∧ (decode cX10_rideOn 104 = .ok (.iadd, 1)) ∧ (decode cX10_rideOn 105 = .ok (.invokevirtual 458, 3)) := by decide +kernel
theorem dX10_rideOn_96 : decode cX10_rideOn 96 = .ok (.aload_n 0, 1) := dX10_rideOn_96_b.1
theorem dX10_rideOn_97 : decode cX10_rideOn 97 = .ok (.getfield 391, 3) := dX10_rideOn_96_b.2.1
theorem dX10_rideOn_100 : decode cX10_rideOn 100 = .ok (.goto 4, 3) := dX10_rideOn_96_b.2.2.1
theorem dX10_rideOn_103 : decode cX10_rideOn 103 = .ok (.iconst 1, 1) := dX10_rideOn_96_b.2.2.2.1
theorem dX10_rideOn_104 : decode cX10_rideOn 104 = .ok (.iadd, 1) := dX10_rideOn_96_b.2.2.2.2.1
theorem dX10_rideOn_105 : decode cX10_rideOn 105 = .ok (.invokevirtual 458, 3) := dX10_rideOn_96_b.2.2.2.2.2
set_option maxRecDepth 20000 in
theorem dX10_rideOn_108_b : (decode cX10_rideOn 108 = .ok (.iinc 1 1, 3)) ∧ (decode cX10_rideOn 111 = .ok (.goto (-82), 3)) ∧ (decode cX10_rideOn 114 = .ok (.return_, 1)) := by decide +kernel
theorem dX10_rideOn_108 : decode cX10_rideOn 108 = .ok (.iinc 1 1, 3) := dX10_rideOn_108_b.1
theorem dX10_rideOn_111 : decode cX10_rideOn 111 = .ok (.goto (-82), 3) := dX10_rideOn_108_b.2.1
theorem dX10_rideOn_114 : decode cX10_rideOn 114 = .ok (.return_, 1) := dX10_rideOn_108_b.2.2
set_option maxRecDepth 20000 in
theorem dX10_nearest_0_b : (decode cX10_nearest 0 = .ok (.iconst (-1), 1)) ∧ (decode cX10_nearest 1 = .ok (.istore_n 1, 1)) ∧ (decode cX10_nearest 2 = .ok (.iconst 0, 1)) ∧ (decode cX10_nearest 3 = .ok (.istore_n 2, 1)) ∧ (decode cX10_nearest 4 = .ok (.iload_n 2, 1)) ∧ (decode cX10_nearest 5 = .ok (.aload_n 0, 1)) := by decide +kernel
theorem dX10_nearest_0 : decode cX10_nearest 0 = .ok (.iconst (-1), 1) := dX10_nearest_0_b.1
theorem dX10_nearest_1 : decode cX10_nearest 1 = .ok (.istore_n 1, 1) := dX10_nearest_0_b.2.1
theorem dX10_nearest_2 : decode cX10_nearest 2 = .ok (.iconst 0, 1) := dX10_nearest_0_b.2.2.1
theorem dX10_nearest_3 : decode cX10_nearest 3 = .ok (.istore_n 2, 1) := dX10_nearest_0_b.2.2.2.1
theorem dX10_nearest_4 : decode cX10_nearest 4 = .ok (.iload_n 2, 1) := dX10_nearest_0_b.2.2.2.2.1
theorem dX10_nearest_5 : decode cX10_nearest 5 = .ok (.aload_n 0, 1) := dX10_nearest_0_b.2.2.2.2.2
set_option maxRecDepth 20000 in
theorem dX10_nearest_6_b : (decode cX10_nearest 6 = .ok (.getfield 436, 3)) ∧ (decode cX10_nearest 9 = .ok (.if_icmp .ge 40, 3)) ∧ (decode cX10_nearest 12 = .ok (.aload_n 0, 1)) ∧ (decode cX10_nearest 13 = .ok (.getfield 130, 3)) ∧ (decode cX10_nearest 16 = .ok (.iload_n 2, 1)) ∧ (decode cX10_nearest 17 = .ok (.baload, 1)) := by decide +kernel
theorem dX10_nearest_6 : decode cX10_nearest 6 = .ok (.getfield 436, 3) := dX10_nearest_6_b.1
theorem dX10_nearest_9 : decode cX10_nearest 9 = .ok (.if_icmp .ge 40, 3) := dX10_nearest_6_b.2.1
theorem dX10_nearest_12 : decode cX10_nearest 12 = .ok (.aload_n 0, 1) := dX10_nearest_6_b.2.2.1
theorem dX10_nearest_13 : decode cX10_nearest 13 = .ok (.getfield 130, 3) := dX10_nearest_6_b.2.2.2.1
theorem dX10_nearest_16 : decode cX10_nearest 16 = .ok (.iload_n 2, 1) := dX10_nearest_6_b.2.2.2.2.1
theorem dX10_nearest_17 : decode cX10_nearest 17 = .ok (.baload, 1) := dX10_nearest_6_b.2.2.2.2.2
set_option maxRecDepth 20000 in
theorem dX10_nearest_18_b : (decode cX10_nearest 18 = .ok (.ifCond .ne 25, 3)) ∧ (decode cX10_nearest 21 = .ok (.iload_n 1, 1)) ∧ (decode cX10_nearest 22 = .ok (.iconst (-1), 1)) ∧ (decode cX10_nearest 23 = .ok (.if_icmp .eq 18, 3)) ∧ (decode cX10_nearest 26 = .ok (.aload_n 0, 1)) ∧ (decode cX10_nearest 27 = .ok (.getfield 121, 3)) := by decide +kernel
theorem dX10_nearest_18 : decode cX10_nearest 18 = .ok (.ifCond .ne 25, 3) := dX10_nearest_18_b.1
theorem dX10_nearest_21 : decode cX10_nearest 21 = .ok (.iload_n 1, 1) := dX10_nearest_18_b.2.1
theorem dX10_nearest_22 : decode cX10_nearest 22 = .ok (.iconst (-1), 1) := dX10_nearest_18_b.2.2.1
theorem dX10_nearest_23 : decode cX10_nearest 23 = .ok (.if_icmp .eq 18, 3) := dX10_nearest_18_b.2.2.2.1
theorem dX10_nearest_26 : decode cX10_nearest 26 = .ok (.aload_n 0, 1) := dX10_nearest_18_b.2.2.2.2.1
theorem dX10_nearest_27 : decode cX10_nearest 27 = .ok (.getfield 121, 3) := dX10_nearest_18_b.2.2.2.2.2
set_option maxRecDepth 20000 in
theorem dX10_nearest_30_b : (decode cX10_nearest 30 = .ok (.iload_n 2, 1)) ∧ (decode cX10_nearest 31 = .ok (.iaload, 1)) ∧ (decode cX10_nearest 32 = .ok (.aload_n 0, 1)) ∧ (decode cX10_nearest 33 = .ok (.getfield 121, 3)) ∧ (decode cX10_nearest 36 = .ok (.iload_n 1, 1)) ∧ (decode cX10_nearest 37 = .ok (.iaload, 1)) := by decide +kernel
theorem dX10_nearest_30 : decode cX10_nearest 30 = .ok (.iload_n 2, 1) := dX10_nearest_30_b.1
theorem dX10_nearest_31 : decode cX10_nearest 31 = .ok (.iaload, 1) := dX10_nearest_30_b.2.1
theorem dX10_nearest_32 : decode cX10_nearest 32 = .ok (.aload_n 0, 1) := dX10_nearest_30_b.2.2.1
theorem dX10_nearest_33 : decode cX10_nearest 33 = .ok (.getfield 121, 3) := dX10_nearest_30_b.2.2.2.1
theorem dX10_nearest_36 : decode cX10_nearest 36 = .ok (.iload_n 1, 1) := dX10_nearest_30_b.2.2.2.2.1
theorem dX10_nearest_37 : decode cX10_nearest 37 = .ok (.iaload, 1) := dX10_nearest_30_b.2.2.2.2.2
set_option maxRecDepth 20000 in
theorem dX10_nearest_38_b : (decode cX10_nearest 38 = .ok (.if_icmp .ge 5, 3)) ∧ (decode cX10_nearest 41 = .ok (.iload_n 2, 1)) ∧ (decode cX10_nearest 42 = .ok (.istore_n 1, 1)) ∧ (decode cX10_nearest 43 = .ok (.iinc 2 1, 3)) ∧ (decode cX10_nearest 46 = .ok (.goto (-42), 3)) ∧ (decode cX10_nearest 49 = .ok (.iload_n 1, 1)) := by decide +kernel
theorem dX10_nearest_38 : decode cX10_nearest 38 = .ok (.if_icmp .ge 5, 3) := dX10_nearest_38_b.1
theorem dX10_nearest_41 : decode cX10_nearest 41 = .ok (.iload_n 2, 1) := dX10_nearest_38_b.2.1
theorem dX10_nearest_42 : decode cX10_nearest 42 = .ok (.istore_n 1, 1) := dX10_nearest_38_b.2.2.1
theorem dX10_nearest_43 : decode cX10_nearest 43 = .ok (.iinc 2 1, 3) := dX10_nearest_38_b.2.2.2.1
theorem dX10_nearest_46 : decode cX10_nearest 46 = .ok (.goto (-42), 3) := dX10_nearest_38_b.2.2.2.2.1
theorem dX10_nearest_49 : decode cX10_nearest 49 = .ok (.iload_n 1, 1) := dX10_nearest_38_b.2.2.2.2.2
theorem dX10_nearest_50 : decode cX10_nearest 50 = .ok (.ireturn, 1) := by decide +kernel
set_option maxRecDepth 20000 in
theorem dX10_seek_0_b : (decode cX10_seek 0 = .ok (.iconst 0, 1)) ∧ (decode cX10_seek 1 = .ok (.istore 4, 2)) ∧ (decode cX10_seek 3 = .ok (.iload 4, 2)) ∧ (decode cX10_seek 5 = .ok (.sipush 8192, 3)) ∧ (decode cX10_seek 8 = .ok (.if_icmp .ge 17, 3)) ∧ (decode cX10_seek 11 = .ok (.aload_n 0, 1)) := by decide +kernel
theorem dX10_seek_0 : decode cX10_seek 0 = .ok (.iconst 0, 1) := dX10_seek_0_b.1
theorem dX10_seek_1 : decode cX10_seek 1 = .ok (.istore 4, 2) := dX10_seek_0_b.2.1
theorem dX10_seek_3 : decode cX10_seek 3 = .ok (.iload 4, 2) := dX10_seek_0_b.2.2.1
theorem dX10_seek_5 : decode cX10_seek 5 = .ok (.sipush 8192, 3) := dX10_seek_0_b.2.2.2.1
theorem dX10_seek_8 : decode cX10_seek 8 = .ok (.if_icmp .ge 17, 3) := dX10_seek_0_b.2.2.2.2.1
theorem dX10_seek_11 : decode cX10_seek 11 = .ok (.aload_n 0, 1) := dX10_seek_0_b.2.2.2.2.2
set_option maxRecDepth 20000 in
theorem dX10_seek_12_b : (decode cX10_seek 12 = .ok (.getfield 127, 3)) ∧ (decode cX10_seek 15 = .ok (.iload 4, 2)) ∧ (decode cX10_seek 17 = .ok (.iconst (-1), 1)) ∧ (decode cX10_seek 18 = .ok (.iastore, 1)) ∧ (decode cX10_seek 19 = .ok (.iinc 4 1, 3)) ∧ (decode cX10_seek 22 = .ok (.goto (-19), 3)) := by decide +kernel
theorem dX10_seek_12 : decode cX10_seek 12 = .ok (.getfield 127, 3) := dX10_seek_12_b.1
theorem dX10_seek_15 : decode cX10_seek 15 = .ok (.iload 4, 2) := dX10_seek_12_b.2.1
theorem dX10_seek_17 : decode cX10_seek 17 = .ok (.iconst (-1), 1) := dX10_seek_12_b.2.2.1
theorem dX10_seek_18 : decode cX10_seek 18 = .ok (.iastore, 1) := dX10_seek_12_b.2.2.2.1
theorem dX10_seek_19 : decode cX10_seek 19 = .ok (.iinc 4 1, 3) := dX10_seek_12_b.2.2.2.2.1
theorem dX10_seek_22 : decode cX10_seek 22 = .ok (.goto (-19), 3) := dX10_seek_12_b.2.2.2.2.2
set_option maxRecDepth 20000 in
theorem dX10_seek_25_b : (decode cX10_seek 25 = .ok (.aload_n 0, 1)) ∧ (decode cX10_seek 26 = .ok (.iconst 0, 1)) ∧ (decode cX10_seek 27 = .ok (.putfield 436, 3)) ∧ (decode cX10_seek 30 = .ok (.aload_n 0, 1)) ∧ (decode cX10_seek 31 = .ok (.iconst 0, 1)) ∧ (decode cX10_seek 32 = .ok (.putfield 439, 3)) := by decide +kernel
theorem dX10_seek_25 : decode cX10_seek 25 = .ok (.aload_n 0, 1) := dX10_seek_25_b.1
theorem dX10_seek_26 : decode cX10_seek 26 = .ok (.iconst 0, 1) := dX10_seek_25_b.2.1
theorem dX10_seek_27 : decode cX10_seek 27 = .ok (.putfield 436, 3) := dX10_seek_25_b.2.2.1
theorem dX10_seek_30 : decode cX10_seek 30 = .ok (.aload_n 0, 1) := dX10_seek_25_b.2.2.2.1
theorem dX10_seek_31 : decode cX10_seek 31 = .ok (.iconst 0, 1) := dX10_seek_25_b.2.2.2.2.1
theorem dX10_seek_32 : decode cX10_seek 32 = .ok (.putfield 439, 3) := dX10_seek_25_b.2.2.2.2.2
set_option maxRecDepth 20000 in
theorem dX10_seek_35_b : (decode cX10_seek 35 = .ok (.aload_n 0, 1)) ∧ (decode cX10_seek 36 = .ok (.iload_n 3, 1)) ∧ (decode cX10_seek 37 = .ok (.putfield 448, 3)) ∧ (decode cX10_seek 40 = .ok (.iconst 0, 1)) ∧ (decode cX10_seek 41 = .ok (.istore 4, 2)) ∧ (decode cX10_seek 43 = .ok (.iload 4, 2)) := by decide +kernel
theorem dX10_seek_35 : decode cX10_seek 35 = .ok (.aload_n 0, 1) := dX10_seek_35_b.1
theorem dX10_seek_36 : decode cX10_seek 36 = .ok (.iload_n 3, 1) := dX10_seek_35_b.2.1
theorem dX10_seek_37 : decode cX10_seek 37 = .ok (.putfield 448, 3) := dX10_seek_35_b.2.2.1
theorem dX10_seek_40 : decode cX10_seek 40 = .ok (.iconst 0, 1) := dX10_seek_35_b.2.2.2.1
theorem dX10_seek_41 : decode cX10_seek 41 = .ok (.istore 4, 2) := dX10_seek_35_b.2.2.2.2.1
theorem dX10_seek_43 : decode cX10_seek 43 = .ok (.iload 4, 2) := dX10_seek_35_b.2.2.2.2.2
set_option maxRecDepth 20000 in
theorem dX10_seek_45_b : (decode cX10_seek 45 = .ok (.bipush 7, 2)) ∧ (decode cX10_seek 47 = .ok (.if_icmp .ge 20, 3)) ∧ (decode cX10_seek 50 = .ok (.aload_n 0, 1)) ∧ (decode cX10_seek 51 = .ok (.getfield 137, 3)) ∧ (decode cX10_seek 54 = .ok (.iload 4, 2)) ∧ (decode cX10_seek 56 = .ok (.aload_n 1, 1)) := by decide +kernel
theorem dX10_seek_45 : decode cX10_seek 45 = .ok (.bipush 7, 2) := dX10_seek_45_b.1
theorem dX10_seek_47 : decode cX10_seek 47 = .ok (.if_icmp .ge 20, 3) := dX10_seek_45_b.2.1
theorem dX10_seek_50 : decode cX10_seek 50 = .ok (.aload_n 0, 1) := dX10_seek_45_b.2.2.1
theorem dX10_seek_51 : decode cX10_seek 51 = .ok (.getfield 137, 3) := dX10_seek_45_b.2.2.2.1
theorem dX10_seek_54 : decode cX10_seek 54 = .ok (.iload 4, 2) := dX10_seek_45_b.2.2.2.2.1
theorem dX10_seek_56 : decode cX10_seek 56 = .ok (.aload_n 1, 1) := dX10_seek_45_b.2.2.2.2.2
set_option maxRecDepth 20000 in
theorem dX10_seek_57_b : (decode cX10_seek 57 = .ok (.iload 4, 2)) ∧ (decode cX10_seek 59 = .ok (.iaload, 1)) ∧ (decode cX10_seek 60 = .ok (.iastore, 1)) ∧ (decode cX10_seek 61 = .ok (.iinc 4 1, 3)) ∧ (decode cX10_seek 64 = .ok (.goto (-21), 3)) ∧ (decode cX10_seek 67 = .ok (.aload_n 0, 1)) := by decide +kernel
theorem dX10_seek_57 : decode cX10_seek 57 = .ok (.iload 4, 2) := dX10_seek_57_b.1
theorem dX10_seek_59 : decode cX10_seek 59 = .ok (.iaload, 1) := dX10_seek_57_b.2.1
theorem dX10_seek_60 : decode cX10_seek 60 = .ok (.iastore, 1) := dX10_seek_57_b.2.2.1
theorem dX10_seek_61 : decode cX10_seek 61 = .ok (.iinc 4 1, 3) := dX10_seek_57_b.2.2.2.1
theorem dX10_seek_64 : decode cX10_seek 64 = .ok (.goto (-21), 3) := dX10_seek_57_b.2.2.2.2.1
theorem dX10_seek_67 : decode cX10_seek 67 = .ok (.aload_n 0, 1) := dX10_seek_57_b.2.2.2.2.2
set_option maxRecDepth 20000 in
theorem dX10_seek_68_b : (decode cX10_seek 68 = .ok (.aload_n 0, 1)) ∧ (decode cX10_seek 69 = .ok (.getfield 137, 3)) ∧ (decode cX10_seek 72 = .ok (.iload_n 2, 1)) ∧ (decode cX10_seek 73 = .ok (.invokestatic 451, 3)) ∧ (decode cX10_seek 76 = .ok (.iconst 0, 1)) ∧ (decode cX10_seek 77 = .ok (.invokevirtual 458, 3)) := by decide +kernel
theorem dX10_seek_68 : decode cX10_seek 68 = .ok (.aload_n 0, 1) := dX10_seek_68_b.1
theorem dX10_seek_69 : decode cX10_seek 69 = .ok (.getfield 137, 3) := dX10_seek_68_b.2.1
theorem dX10_seek_72 : decode cX10_seek 72 = .ok (.iload_n 2, 1) := dX10_seek_68_b.2.2.1
theorem dX10_seek_73 : decode cX10_seek 73 = .ok (.invokestatic 451, 3) := dX10_seek_68_b.2.2.2.1
theorem dX10_seek_76 : decode cX10_seek 76 = .ok (.iconst 0, 1) := dX10_seek_68_b.2.2.2.2.1
theorem dX10_seek_77 : decode cX10_seek 77 = .ok (.invokevirtual 458, 3) := dX10_seek_68_b.2.2.2.2.2
set_option maxRecDepth 20000 in
theorem dX10_seek_80_b : (decode cX10_seek 80 = .ok (.aload_n 0, 1)) ∧ (decode cX10_seek 81 = .ok (.invokevirtual 462, 3)) ∧ (decode cX10_seek 84 = .ok (.istore 4, 2)) ∧ (decode cX10_seek 86 = .ok (.iload 4, 2)) ∧ (decode cX10_seek 88 = .ok (.iconst (-1), 1)) ∧ (decode cX10_seek 89 = .ok (.if_icmp .eq 84, 3)) := by decide +kernel
theorem dX10_seek_80 : decode cX10_seek 80 = .ok (.aload_n 0, 1) := dX10_seek_80_b.1
theorem dX10_seek_81 : decode cX10_seek 81 = .ok (.invokevirtual 462, 3) := dX10_seek_80_b.2.1
theorem dX10_seek_84 : decode cX10_seek 84 = .ok (.istore 4, 2) := dX10_seek_80_b.2.2.1
theorem dX10_seek_86 : decode cX10_seek 86 = .ok (.iload 4, 2) := dX10_seek_80_b.2.2.2.1
theorem dX10_seek_88 : decode cX10_seek 88 = .ok (.iconst (-1), 1) := dX10_seek_80_b.2.2.2.2.1
theorem dX10_seek_89 : decode cX10_seek 89 = .ok (.if_icmp .eq 84, 3) := dX10_seek_80_b.2.2.2.2.2
set_option maxRecDepth 20000 in
theorem dX10_seek_92_b : (decode cX10_seek 92 = .ok (.aload_n 0, 1)) ∧ (decode cX10_seek 93 = .ok (.getfield 439, 3)) ∧ (decode cX10_seek 96 = .ok (.ifCond .ne 77, 3)) ∧ (decode cX10_seek 99 = .ok (.aload_n 0, 1)) ∧ (decode cX10_seek 100 = .ok (.getfield 130, 3)) ∧ (decode cX10_seek 103 = .ok (.iload 4, 2)) := by decide +kernel
theorem dX10_seek_92 : decode cX10_seek 92 = .ok (.aload_n 0, 1) := dX10_seek_92_b.1
theorem dX10_seek_93 : decode cX10_seek 93 = .ok (.getfield 439, 3) := dX10_seek_92_b.2.1
theorem dX10_seek_96 : decode cX10_seek 96 = .ok (.ifCond .ne 77, 3) := dX10_seek_92_b.2.2.1
theorem dX10_seek_99 : decode cX10_seek 99 = .ok (.aload_n 0, 1) := dX10_seek_92_b.2.2.2.1
theorem dX10_seek_100 : decode cX10_seek 100 = .ok (.getfield 130, 3) := dX10_seek_92_b.2.2.2.2.1
theorem dX10_seek_103 : decode cX10_seek 103 = .ok (.iload 4, 2) := dX10_seek_92_b.2.2.2.2.2
set_option maxRecDepth 20000 in
theorem dX10_seek_105_b : (decode cX10_seek 105 = .ok (.iconst 1, 1)) ∧ (decode cX10_seek 106 = .ok (.bastore, 1)) ∧ (decode cX10_seek 107 = .ok (.aload_n 0, 1)) ∧ (decode cX10_seek 108 = .ok (.aload_n 0, 1)) ∧ (decode cX10_seek 109 = .ok (.getfield 117, 3)) ∧ (decode cX10_seek 112 = .ok (.iload 4, 2)) := by decide +kernel
theorem dX10_seek_105 : decode cX10_seek 105 = .ok (.iconst 1, 1) := dX10_seek_105_b.1
theorem dX10_seek_106 : decode cX10_seek 106 = .ok (.bastore, 1) := dX10_seek_105_b.2.1
theorem dX10_seek_107 : decode cX10_seek 107 = .ok (.aload_n 0, 1) := dX10_seek_105_b.2.2.1
theorem dX10_seek_108 : decode cX10_seek 108 = .ok (.aload_n 0, 1) := dX10_seek_105_b.2.2.2.1
theorem dX10_seek_109 : decode cX10_seek 109 = .ok (.getfield 117, 3) := dX10_seek_105_b.2.2.2.2.1
theorem dX10_seek_112 : decode cX10_seek 112 = .ok (.iload 4, 2) := dX10_seek_105_b.2.2.2.2.2
set_option maxRecDepth 20000 in
theorem dX10_seek_114_b : (decode cX10_seek 114 = .ok (.laload, 1)) ∧ (decode cX10_seek 115 = .ok (.invokevirtual 465, 3)) ∧ (decode cX10_seek 118 = .ok (.aload_n 0, 1)) ∧ (decode cX10_seek 119 = .ok (.aload_n 0, 1)) ∧ (decode cX10_seek 120 = .ok (.getfield 121, 3)) ∧ (decode cX10_seek 123 = .ok (.iload 4, 2)) := by decide +kernel
theorem dX10_seek_114 : decode cX10_seek 114 = .ok (.laload, 1) := dX10_seek_114_b.1
theorem dX10_seek_115 : decode cX10_seek 115 = .ok (.invokevirtual 465, 3) := dX10_seek_114_b.2.1
theorem dX10_seek_118 : decode cX10_seek 118 = .ok (.aload_n 0, 1) := dX10_seek_114_b.2.2.1
theorem dX10_seek_119 : decode cX10_seek 119 = .ok (.aload_n 0, 1) := dX10_seek_114_b.2.2.2.1
theorem dX10_seek_120 : decode cX10_seek 120 = .ok (.getfield 121, 3) := dX10_seek_114_b.2.2.2.2.1
theorem dX10_seek_123 : decode cX10_seek 123 = .ok (.iload 4, 2) := dX10_seek_114_b.2.2.2.2.2
set_option maxRecDepth 20000 in
theorem dX10_seek_125_b : (decode cX10_seek 125 = .ok (.iaload, 1)) ∧ (decode cX10_seek 126 = .ok (.putfield 455, 3)) ∧ (decode cX10_seek 129 = .ok (.iconst 0, 1)) ∧ (decode cX10_seek 130 = .ok (.istore 5, 2)) ∧ (decode cX10_seek 132 = .ok (.iload 5, 2)) ∧ (decode cX10_seek 134 = .ok (.bipush 7, 2)) := by decide +kernel
theorem dX10_seek_125 : decode cX10_seek 125 = .ok (.iaload, 1) := dX10_seek_125_b.1
theorem dX10_seek_126 : decode cX10_seek 126 = .ok (.putfield 455, 3) := dX10_seek_125_b.2.1
theorem dX10_seek_129 : decode cX10_seek 129 = .ok (.iconst 0, 1) := dX10_seek_125_b.2.2.1
theorem dX10_seek_130 : decode cX10_seek 130 = .ok (.istore 5, 2) := dX10_seek_125_b.2.2.2.1
theorem dX10_seek_132 : decode cX10_seek 132 = .ok (.iload 5, 2) := dX10_seek_125_b.2.2.2.2.1
theorem dX10_seek_134 : decode cX10_seek 134 = .ok (.bipush 7, 2) := dX10_seek_125_b.2.2.2.2.2
set_option maxRecDepth 20000 in
theorem dX10_seek_136_b : (decode cX10_seek 136 = .ok (.if_icmp .ge 23, 3)) ∧ (decode cX10_seek 139 = .ok (.aload_n 0, 1)) ∧ (decode cX10_seek 140 = .ok (.getfield 137, 3)) ∧ (decode cX10_seek 143 = .ok (.iload 5, 2)) ∧ (decode cX10_seek 145 = .ok (.aload_n 0, 1)) ∧ (decode cX10_seek 146 = .ok (.getfield 134, 3)) := by decide +kernel
theorem dX10_seek_136 : decode cX10_seek 136 = .ok (.if_icmp .ge 23, 3) := dX10_seek_136_b.1
theorem dX10_seek_139 : decode cX10_seek 139 = .ok (.aload_n 0, 1) := dX10_seek_136_b.2.1
theorem dX10_seek_140 : decode cX10_seek 140 = .ok (.getfield 137, 3) := dX10_seek_136_b.2.2.1
theorem dX10_seek_143 : decode cX10_seek 143 = .ok (.iload 5, 2) := dX10_seek_136_b.2.2.2.1
theorem dX10_seek_145 : decode cX10_seek 145 = .ok (.aload_n 0, 1) := dX10_seek_136_b.2.2.2.2.1
theorem dX10_seek_146 : decode cX10_seek 146 = .ok (.getfield 134, 3) := dX10_seek_136_b.2.2.2.2.2
set_option maxRecDepth 20000 in
theorem dX10_seek_149_b : (decode cX10_seek 149 = .ok (.iload 5, 2)) ∧ (decode cX10_seek 151 = .ok (.iaload, 1)) ∧ (decode cX10_seek 152 = .ok (.iastore, 1)) ∧ (decode cX10_seek 153 = .ok (.iinc 5 1, 3)) ∧ (decode cX10_seek 156 = .ok (.goto (-24), 3)) ∧ (decode cX10_seek 159 = .ok (.aload_n 0, 1)) := by decide +kernel
theorem dX10_seek_149 : decode cX10_seek 149 = .ok (.iload 5, 2) := dX10_seek_149_b.1
theorem dX10_seek_151 : decode cX10_seek 151 = .ok (.iaload, 1) := dX10_seek_149_b.2.1
theorem dX10_seek_152 : decode cX10_seek 152 = .ok (.iastore, 1) := dX10_seek_149_b.2.2.1
theorem dX10_seek_153 : decode cX10_seek 153 = .ok (.iinc 5 1, 3) := dX10_seek_149_b.2.2.2.1
theorem dX10_seek_156 : decode cX10_seek 156 = .ok (.goto (-24), 3) := dX10_seek_149_b.2.2.2.2.1
theorem dX10_seek_159 : decode cX10_seek 159 = .ok (.aload_n 0, 1) := dX10_seek_149_b.2.2.2.2.2
set_option maxRecDepth 20000 in
theorem dX10_seek_160_b : (decode cX10_seek 160 = .ok (.iconst 0, 1)) ∧ (decode cX10_seek 161 = .ok (.invokevirtual 445, 3)) ∧ (decode cX10_seek 164 = .ok (.aload_n 0, 1)) ∧ (decode cX10_seek 165 = .ok (.invokevirtual 462, 3)) ∧ (decode cX10_seek 168 = .ok (.istore 4, 2)) ∧ (decode cX10_seek 170 = .ok (.goto (-84), 3)) := by decide +kernel
theorem dX10_seek_160 : decode cX10_seek 160 = .ok (.iconst 0, 1) := dX10_seek_160_b.1
theorem dX10_seek_161 : decode cX10_seek 161 = .ok (.invokevirtual 445, 3) := dX10_seek_160_b.2.1
theorem dX10_seek_164 : decode cX10_seek 164 = .ok (.aload_n 0, 1) := dX10_seek_160_b.2.2.1
theorem dX10_seek_165 : decode cX10_seek 165 = .ok (.invokevirtual 462, 3) := dX10_seek_160_b.2.2.2.1
theorem dX10_seek_168 : decode cX10_seek 168 = .ok (.istore 4, 2) := dX10_seek_160_b.2.2.2.2.1
theorem dX10_seek_170 : decode cX10_seek 170 = .ok (.goto (-84), 3) := dX10_seek_160_b.2.2.2.2.2
set_option maxRecDepth 20000 in
theorem dX10_seek_173_b : (decode cX10_seek 173 = .ok (.aload_n 0, 1)) ∧ (decode cX10_seek 174 = .ok (.getfield 439, 3)) ∧ (decode cX10_seek 177 = .ok (.ifCond .ne 7, 3)) ∧ (decode cX10_seek 180 = .ok (.iconst 1, 1)) ∧ (decode cX10_seek 181 = .ok (.goto 4, 3)) ∧ (decode cX10_seek 184 = .ok (.iconst 0, 1)) := by decide +kernel
theorem dX10_seek_173 : decode cX10_seek 173 = .ok (.aload_n 0, 1) := dX10_seek_173_b.1
theorem dX10_seek_174 : decode cX10_seek 174 = .ok (.getfield 439, 3) := dX10_seek_173_b.2.1
theorem dX10_seek_177 : decode cX10_seek 177 = .ok (.ifCond .ne 7, 3) := dX10_seek_173_b.2.2.1
theorem dX10_seek_180 : decode cX10_seek 180 = .ok (.iconst 1, 1) := dX10_seek_173_b.2.2.2.1
theorem dX10_seek_181 : decode cX10_seek 181 = .ok (.goto 4, 3) := dX10_seek_173_b.2.2.2.2.1
theorem dX10_seek_184 : decode cX10_seek 184 = .ok (.iconst 0, 1) := dX10_seek_173_b.2.2.2.2.2
theorem dX10_seek_185 : decode cX10_seek 185 = .ok (.ireturn, 1) := by decide +kernel
set_option maxRecDepth 20000 in
theorem dX10_allServed_0_b : (decode cX10_allServed 0 = .ok (.aload_n 0, 1)) ∧ (decode cX10_allServed 1 = .ok (.aload_n 0, 1)) ∧ (decode cX10_allServed 2 = .ok (.getfield 117, 3)) ∧ (decode cX10_allServed 5 = .ok (.iload_n 1, 1)) ∧ (decode cX10_allServed 6 = .ok (.laload, 1)) ∧ (decode cX10_allServed 7 = .ok (.invokevirtual 465, 3)) := by decide +kernel
theorem dX10_allServed_0 : decode cX10_allServed 0 = .ok (.aload_n 0, 1) := dX10_allServed_0_b.1
theorem dX10_allServed_1 : decode cX10_allServed 1 = .ok (.aload_n 0, 1) := dX10_allServed_0_b.2.1
theorem dX10_allServed_2 : decode cX10_allServed 2 = .ok (.getfield 117, 3) := dX10_allServed_0_b.2.2.1
theorem dX10_allServed_5 : decode cX10_allServed 5 = .ok (.iload_n 1, 1) := dX10_allServed_0_b.2.2.2.1
theorem dX10_allServed_6 : decode cX10_allServed 6 = .ok (.laload, 1) := dX10_allServed_0_b.2.2.2.2.1
theorem dX10_allServed_7 : decode cX10_allServed 7 = .ok (.invokevirtual 465, 3) := dX10_allServed_0_b.2.2.2.2.2
set_option maxRecDepth 20000 in
theorem dX10_allServed_10_b : (decode cX10_allServed 10 = .ok (.iconst 0, 1)) ∧ (decode cX10_allServed 11 = .ok (.istore_n 2, 1)) ∧ (decode cX10_allServed 12 = .ok (.iload_n 2, 1)) ∧ (decode cX10_allServed 13 = .ok (.aload_n 0, 1)) ∧ (decode cX10_allServed 14 = .ok (.getfield 174, 3)) ∧ (decode cX10_allServed 17 = .ok (.if_icmp .ge 107, 3)) := by decide +kernel
theorem dX10_allServed_10 : decode cX10_allServed 10 = .ok (.iconst 0, 1) := dX10_allServed_10_b.1
theorem dX10_allServed_11 : decode cX10_allServed 11 = .ok (.istore_n 2, 1) := dX10_allServed_10_b.2.1
theorem dX10_allServed_12 : decode cX10_allServed 12 = .ok (.iload_n 2, 1) := dX10_allServed_10_b.2.2.1
theorem dX10_allServed_13 : decode cX10_allServed 13 = .ok (.aload_n 0, 1) := dX10_allServed_10_b.2.2.2.1
theorem dX10_allServed_14 : decode cX10_allServed 14 = .ok (.getfield 174, 3) := dX10_allServed_10_b.2.2.2.2.1
theorem dX10_allServed_17 : decode cX10_allServed 17 = .ok (.if_icmp .ge 107, 3) := dX10_allServed_10_b.2.2.2.2.2
set_option maxRecDepth 20000 in
theorem dX10_allServed_20_b : (decode cX10_allServed 20 = .ok (.aload_n 0, 1)) ∧ (decode cX10_allServed 21 = .ok (.getfield 134, 3)) ∧ (decode cX10_allServed 24 = .ok (.iload_n 2, 1)) ∧ (decode cX10_allServed 25 = .ok (.iaload, 1)) ∧ (decode cX10_allServed 26 = .ok (.bipush 15, 2)) ∧ (decode cX10_allServed 28 = .ok (.if_icmp .eq 90, 3)) := by decide +kernel
theorem dX10_allServed_20 : decode cX10_allServed 20 = .ok (.aload_n 0, 1) := dX10_allServed_20_b.1
theorem dX10_allServed_21 : decode cX10_allServed 21 = .ok (.getfield 134, 3) := dX10_allServed_20_b.2.1
theorem dX10_allServed_24 : decode cX10_allServed 24 = .ok (.iload_n 2, 1) := dX10_allServed_20_b.2.2.1
theorem dX10_allServed_25 : decode cX10_allServed 25 = .ok (.iaload, 1) := dX10_allServed_20_b.2.2.2.1
theorem dX10_allServed_26 : decode cX10_allServed 26 = .ok (.bipush 15, 2) := dX10_allServed_20_b.2.2.2.2.1
theorem dX10_allServed_28 : decode cX10_allServed 28 = .ok (.if_icmp .eq 90, 3) := dX10_allServed_20_b.2.2.2.2.2
set_option maxRecDepth 20000 in
theorem dX10_allServed_31_b : (decode cX10_allServed 31 = .ok (.aload_n 0, 1)) ∧ (decode cX10_allServed 32 = .ok (.getfield 65, 3)) ∧ (decode cX10_allServed 35 = .ok (.iload_n 2, 1)) ∧ (decode cX10_allServed 36 = .ok (.iaload, 1)) ∧ (decode cX10_allServed 37 = .ok (.iconst (-1), 1)) ∧ (decode cX10_allServed 38 = .ok (.if_icmp .eq 80, 3)) := by decide +kernel
theorem dX10_allServed_31 : decode cX10_allServed 31 = .ok (.aload_n 0, 1) := dX10_allServed_31_b.1
theorem dX10_allServed_32 : decode cX10_allServed 32 = .ok (.getfield 65, 3) := dX10_allServed_31_b.2.1
theorem dX10_allServed_35 : decode cX10_allServed 35 = .ok (.iload_n 2, 1) := dX10_allServed_31_b.2.2.1
theorem dX10_allServed_36 : decode cX10_allServed 36 = .ok (.iaload, 1) := dX10_allServed_31_b.2.2.2.1
theorem dX10_allServed_37 : decode cX10_allServed 37 = .ok (.iconst (-1), 1) := dX10_allServed_31_b.2.2.2.2.1
theorem dX10_allServed_38 : decode cX10_allServed 38 = .ok (.if_icmp .eq 80, 3) := dX10_allServed_31_b.2.2.2.2.2
set_option maxRecDepth 20000 in
theorem dX10_allServed_41_b : (decode cX10_allServed 41 = .ok (.aload_n 0, 1)) ∧ (decode cX10_allServed 42 = .ok (.iload_n 2, 1)) ∧ (decode cX10_allServed 43 = .ok (.aload_n 0, 1)) ∧ (decode cX10_allServed 44 = .ok (.getfield 134, 3)) ∧ (decode cX10_allServed 47 = .ok (.iload_n 2, 1)) ∧ (decode cX10_allServed 48 = .ok (.iaload, 1)) := by decide +kernel
theorem dX10_allServed_41 : decode cX10_allServed 41 = .ok (.aload_n 0, 1) := dX10_allServed_41_b.1
theorem dX10_allServed_42 : decode cX10_allServed 42 = .ok (.iload_n 2, 1) := dX10_allServed_41_b.2.1
theorem dX10_allServed_43 : decode cX10_allServed 43 = .ok (.aload_n 0, 1) := dX10_allServed_41_b.2.2.1
theorem dX10_allServed_44 : decode cX10_allServed 44 = .ok (.getfield 134, 3) := dX10_allServed_41_b.2.2.2.1
theorem dX10_allServed_47 : decode cX10_allServed 47 = .ok (.iload_n 2, 1) := dX10_allServed_41_b.2.2.2.2.1
theorem dX10_allServed_48 : decode cX10_allServed 48 = .ok (.iaload, 1) := dX10_allServed_41_b.2.2.2.2.2
set_option maxRecDepth 20000 in
theorem dX10_allServed_49_b : (decode cX10_allServed 49 = .ok (.invokevirtual 355, 3)) ∧ (decode cX10_allServed 52 = .ok (.ifCond .eq 6, 3)) ∧ (decode cX10_allServed 55 = .ok (.goto 63, 3)) ∧ (decode cX10_allServed 58 = .ok (.aload_n 0, 1)) ∧ (decode cX10_allServed 59 = .ok (.getfield 134, 3)) ∧ (decode cX10_allServed 62 = .ok (.iload_n 2, 1)) := by decide +kernel
theorem dX10_allServed_49 : decode cX10_allServed 49 = .ok (.invokevirtual 355, 3) := dX10_allServed_49_b.1
theorem dX10_allServed_52 : decode cX10_allServed 52 = .ok (.ifCond .eq 6, 3) := dX10_allServed_49_b.2.1
theorem dX10_allServed_55 : decode cX10_allServed 55 = .ok (.goto 63, 3) := dX10_allServed_49_b.2.2.1
theorem dX10_allServed_58 : decode cX10_allServed 58 = .ok (.aload_n 0, 1) := dX10_allServed_49_b.2.2.2.1
theorem dX10_allServed_59 : decode cX10_allServed 59 = .ok (.getfield 134, 3) := dX10_allServed_49_b.2.2.2.2.1
theorem dX10_allServed_62 : decode cX10_allServed 62 = .ok (.iload_n 2, 1) := dX10_allServed_49_b.2.2.2.2.2
set_option maxRecDepth 20000 in
theorem dX10_allServed_63_b : (decode cX10_allServed 63 = .ok (.iaload, 1)) ∧ (decode cX10_allServed 64 = .ok (.bipush 12, 2)) ∧ (decode cX10_allServed 66 = .ok (.if_icmp .eq 14, 3)) ∧ (decode cX10_allServed 69 = .ok (.aload_n 0, 1)) ∧ (decode cX10_allServed 70 = .ok (.getfield 134, 3)) ∧ (decode cX10_allServed 73 = .ok (.iload_n 2, 1)) := by decide +kernel
theorem dX10_allServed_63 : decode cX10_allServed 63 = .ok (.iaload, 1) := dX10_allServed_63_b.1
theorem dX10_allServed_64 : decode cX10_allServed 64 = .ok (.bipush 12, 2) := dX10_allServed_63_b.2.1
theorem dX10_allServed_66 : decode cX10_allServed 66 = .ok (.if_icmp .eq 14, 3) := dX10_allServed_63_b.2.2.1
theorem dX10_allServed_69 : decode cX10_allServed 69 = .ok (.aload_n 0, 1) := dX10_allServed_63_b.2.2.2.1
theorem dX10_allServed_70 : decode cX10_allServed 70 = .ok (.getfield 134, 3) := dX10_allServed_63_b.2.2.2.2.1
theorem dX10_allServed_73 : decode cX10_allServed 73 = .ok (.iload_n 2, 1) := dX10_allServed_63_b.2.2.2.2.2
set_option maxRecDepth 20000 in
theorem dX10_allServed_74_b : (decode cX10_allServed 74 = .ok (.iaload, 1)) ∧ (decode cX10_allServed 75 = .ok (.bipush 13, 2)) ∧ (decode cX10_allServed 77 = .ok (.if_icmp .ne 7, 3)) ∧ (decode cX10_allServed 80 = .ok (.iconst 1, 1)) ∧ (decode cX10_allServed 81 = .ok (.goto 4, 3)) ∧ (decode cX10_allServed 84 = .ok (.iconst 0, 1)) := by decide +kernel
theorem dX10_allServed_74 : decode cX10_allServed 74 = .ok (.iaload, 1) := dX10_allServed_74_b.1
theorem dX10_allServed_75 : decode cX10_allServed 75 = .ok (.bipush 13, 2) := dX10_allServed_74_b.2.1
theorem dX10_allServed_77 : decode cX10_allServed 77 = .ok (.if_icmp .ne 7, 3) := dX10_allServed_74_b.2.2.1
theorem dX10_allServed_80 : decode cX10_allServed 80 = .ok (.iconst 1, 1) := dX10_allServed_74_b.2.2.2.1
theorem dX10_allServed_81 : decode cX10_allServed 81 = .ok (.goto 4, 3) := dX10_allServed_74_b.2.2.2.2.1
theorem dX10_allServed_84 : decode cX10_allServed 84 = .ok (.iconst 0, 1) := dX10_allServed_74_b.2.2.2.2.2
set_option maxRecDepth 20000 in
theorem dX10_allServed_85_b : (decode cX10_allServed 85 = .ok (.istore_n 3, 1)) ∧ (decode cX10_allServed 86 = .ok (.iload_n 3, 1)) ∧ (decode cX10_allServed 87 = .ok (.ifCond .eq 29, 3)) ∧ (decode cX10_allServed 90 = .ok (.aload_n 0, 1)) ∧ (decode cX10_allServed 91 = .ok (.aload_n 0, 1)) ∧ (decode cX10_allServed 92 = .ok (.getfield 134, 3)) := by decide +kernel
theorem dX10_allServed_85 : decode cX10_allServed 85 = .ok (.istore_n 3, 1) := dX10_allServed_85_b.1
theorem dX10_allServed_86 : decode cX10_allServed 86 = .ok (.iload_n 3, 1) := dX10_allServed_85_b.2.1
theorem dX10_allServed_87 : decode cX10_allServed 87 = .ok (.ifCond .eq 29, 3) := dX10_allServed_85_b.2.2.1
theorem dX10_allServed_90 : decode cX10_allServed 90 = .ok (.aload_n 0, 1) := dX10_allServed_85_b.2.2.2.1
theorem dX10_allServed_91 : decode cX10_allServed 91 = .ok (.aload_n 0, 1) := dX10_allServed_85_b.2.2.2.2.1
theorem dX10_allServed_92 : decode cX10_allServed 92 = .ok (.getfield 134, 3) := dX10_allServed_85_b.2.2.2.2.2
set_option maxRecDepth 20000 in
theorem dX10_allServed_95_b : (decode cX10_allServed 95 = .ok (.iload_n 2, 1)) ∧ (decode cX10_allServed 96 = .ok (.iaload, 1)) ∧ (decode cX10_allServed 97 = .ok (.bipush 12, 2)) ∧ (decode cX10_allServed 99 = .ok (.isub, 1)) ∧ (decode cX10_allServed 100 = .ok (.aload_n 0, 1)) ∧ (decode cX10_allServed 101 = .ok (.getfield 427, 3)) := by decide +kernel
theorem dX10_allServed_95 : decode cX10_allServed 95 = .ok (.iload_n 2, 1) := dX10_allServed_95_b.1
theorem dX10_allServed_96 : decode cX10_allServed 96 = .ok (.iaload, 1) := dX10_allServed_95_b.2.1
theorem dX10_allServed_97 : decode cX10_allServed 97 = .ok (.bipush 12, 2) := dX10_allServed_95_b.2.2.1
theorem dX10_allServed_99 : decode cX10_allServed 99 = .ok (.isub, 1) := dX10_allServed_95_b.2.2.2.1
theorem dX10_allServed_100 : decode cX10_allServed 100 = .ok (.aload_n 0, 1) := dX10_allServed_95_b.2.2.2.2.1
theorem dX10_allServed_101 : decode cX10_allServed 101 = .ok (.getfield 427, 3) := dX10_allServed_95_b.2.2.2.2.2
set_option maxRecDepth 20000 in
theorem dX10_allServed_104_b : (decode cX10_allServed 104 = .ok (.invokevirtual 352, 3)) ∧ (decode cX10_allServed 107 = .ok (.aload_n 0, 1)) ∧ (decode cX10_allServed 108 = .ok (.getfield 65, 3)) ∧ (decode cX10_allServed 111 = .ok (.iload_n 2, 1)) ∧ (decode cX10_allServed 112 = .ok (.iaload, 1)) ∧ (decode cX10_allServed 113 = .ok (.if_icmp .eq 5, 3)) := by decide +kernel
theorem dX10_allServed_104 : decode cX10_allServed 104 = .ok (.invokevirtual 352, 3) := dX10_allServed_104_b.1
theorem dX10_allServed_107 : decode cX10_allServed 107 = .ok (.aload_n 0, 1) := dX10_allServed_104_b.2.1
theorem dX10_allServed_108 : decode cX10_allServed 108 = .ok (.getfield 65, 3) := dX10_allServed_104_b.2.2.1
theorem dX10_allServed_111 : decode cX10_allServed 111 = .ok (.iload_n 2, 1) := dX10_allServed_104_b.2.2.2.1
theorem dX10_allServed_112 : decode cX10_allServed 112 = .ok (.iaload, 1) := dX10_allServed_104_b.2.2.2.2.1
theorem dX10_allServed_113 : decode cX10_allServed 113 = .ok (.if_icmp .eq 5, 3) := dX10_allServed_104_b.2.2.2.2.2
set_option maxRecDepth 20000 in
theorem dX10_allServed_116_b : (decode cX10_allServed 116 = .ok (.iconst 0, 1)) ∧ (decode cX10_allServed 117 = .ok (.ireturn, 1)) ∧ (decode cX10_allServed 118 = .ok (.iinc 2 1, 3)) ∧ (decode cX10_allServed 121 = .ok (.goto (-109), 3)) ∧ (decode cX10_allServed 124 = .ok (.iconst 1, 1)) ∧ (decode cX10_allServed 125 = .ok (.ireturn, 1)) := by decide +kernel
theorem dX10_allServed_116 : decode cX10_allServed 116 = .ok (.iconst 0, 1) := dX10_allServed_116_b.1
theorem dX10_allServed_117 : decode cX10_allServed 117 = .ok (.ireturn, 1) := dX10_allServed_116_b.2.1
theorem dX10_allServed_118 : decode cX10_allServed 118 = .ok (.iinc 2 1, 3) := dX10_allServed_116_b.2.2.1
theorem dX10_allServed_121 : decode cX10_allServed 121 = .ok (.goto (-109), 3) := dX10_allServed_116_b.2.2.2.1
theorem dX10_allServed_124 : decode cX10_allServed 124 = .ok (.iconst 1, 1) := dX10_allServed_116_b.2.2.2.2.1
theorem dX10_allServed_125 : decode cX10_allServed 125 = .ok (.ireturn, 1) := dX10_allServed_116_b.2.2.2.2.2
set_option maxRecDepth 20000 in
theorem dX10_leastServed_0_b : (decode cX10_leastServed 0 = .ok (.iconst (-1), 1)) ∧ (decode cX10_leastServed 1 = .ok (.istore_n 1, 1)) ∧ (decode cX10_leastServed 2 = .ok (.iconst 0, 1)) ∧ (decode cX10_leastServed 3 = .ok (.istore_n 2, 1)) ∧ (decode cX10_leastServed 4 = .ok (.iload_n 2, 1)) ∧ (decode cX10_leastServed 5 = .ok (.aload_n 0, 1)) := by decide +kernel
theorem dX10_leastServed_0 : decode cX10_leastServed 0 = .ok (.iconst (-1), 1) := dX10_leastServed_0_b.1
theorem dX10_leastServed_1 : decode cX10_leastServed 1 = .ok (.istore_n 1, 1) := dX10_leastServed_0_b.2.1
theorem dX10_leastServed_2 : decode cX10_leastServed 2 = .ok (.iconst 0, 1) := dX10_leastServed_0_b.2.2.1
theorem dX10_leastServed_3 : decode cX10_leastServed 3 = .ok (.istore_n 2, 1) := dX10_leastServed_0_b.2.2.2.1
theorem dX10_leastServed_4 : decode cX10_leastServed 4 = .ok (.iload_n 2, 1) := dX10_leastServed_0_b.2.2.2.2.1
theorem dX10_leastServed_5 : decode cX10_leastServed 5 = .ok (.aload_n 0, 1) := dX10_leastServed_0_b.2.2.2.2.2
set_option maxRecDepth 20000 in
theorem dX10_leastServed_6_b : (decode cX10_leastServed 6 = .ok (.getfield 436, 3)) ∧ (decode cX10_leastServed 9 = .ok (.if_icmp .ge 39, 3)) ∧ (decode cX10_leastServed 12 = .ok (.aload_n 0, 1)) ∧ (decode cX10_leastServed 13 = .ok (.iload_n 2, 1)) ∧ (decode cX10_leastServed 14 = .ok (.invokevirtual 469, 3)) ∧ (decode cX10_leastServed 17 = .ok (.ifCond .eq 25, 3)) := by decide +kernel
theorem dX10_leastServed_6 : decode cX10_leastServed 6 = .ok (.getfield 436, 3) := dX10_leastServed_6_b.1
theorem dX10_leastServed_9 : decode cX10_leastServed 9 = .ok (.if_icmp .ge 39, 3) := dX10_leastServed_6_b.2.1
theorem dX10_leastServed_12 : decode cX10_leastServed 12 = .ok (.aload_n 0, 1) := dX10_leastServed_6_b.2.2.1
theorem dX10_leastServed_13 : decode cX10_leastServed 13 = .ok (.iload_n 2, 1) := dX10_leastServed_6_b.2.2.2.1
theorem dX10_leastServed_14 : decode cX10_leastServed 14 = .ok (.invokevirtual 469, 3) := dX10_leastServed_6_b.2.2.2.2.1
theorem dX10_leastServed_17 : decode cX10_leastServed 17 = .ok (.ifCond .eq 25, 3) := dX10_leastServed_6_b.2.2.2.2.2
set_option maxRecDepth 20000 in
theorem dX10_leastServed_20_b : (decode cX10_leastServed 20 = .ok (.iload_n 1, 1)) ∧ (decode cX10_leastServed 21 = .ok (.iconst (-1), 1)) ∧ (decode cX10_leastServed 22 = .ok (.if_icmp .eq 13, 3)) ∧ (decode cX10_leastServed 25 = .ok (.aload_n 0, 1)) ∧ (decode cX10_leastServed 26 = .ok (.getfield 121, 3)) ∧ (decode cX10_leastServed 29 = .ok (.iload_n 2, 1)) := by decide +kernel
theorem dX10_leastServed_20 : decode cX10_leastServed 20 = .ok (.iload_n 1, 1) := dX10_leastServed_20_b.1
theorem dX10_leastServed_21 : decode cX10_leastServed 21 = .ok (.iconst (-1), 1) := dX10_leastServed_20_b.2.1
theorem dX10_leastServed_22 : decode cX10_leastServed 22 = .ok (.if_icmp .eq 13, 3) := dX10_leastServed_20_b.2.2.1
theorem dX10_leastServed_25 : decode cX10_leastServed 25 = .ok (.aload_n 0, 1) := dX10_leastServed_20_b.2.2.2.1
theorem dX10_leastServed_26 : decode cX10_leastServed 26 = .ok (.getfield 121, 3) := dX10_leastServed_20_b.2.2.2.2.1
theorem dX10_leastServed_29 : decode cX10_leastServed 29 = .ok (.iload_n 2, 1) := dX10_leastServed_20_b.2.2.2.2.2
set_option maxRecDepth 20000 in
theorem dX10_leastServed_30_b : (decode cX10_leastServed 30 = .ok (.iaload, 1)) ∧ (decode cX10_leastServed 31 = .ok (.iload_n 1, 1)) ∧ (decode cX10_leastServed 32 = .ok (.if_icmp .ge 10, 3)) ∧ (decode cX10_leastServed 35 = .ok (.aload_n 0, 1)) ∧ (decode cX10_leastServed 36 = .ok (.getfield 121, 3)) ∧ (decode cX10_leastServed 39 = .ok (.iload_n 2, 1)) := by decide +kernel
theorem dX10_leastServed_30 : decode cX10_leastServed 30 = .ok (.iaload, 1) := dX10_leastServed_30_b.1
theorem dX10_leastServed_31 : decode cX10_leastServed 31 = .ok (.iload_n 1, 1) := dX10_leastServed_30_b.2.1
theorem dX10_leastServed_32 : decode cX10_leastServed 32 = .ok (.if_icmp .ge 10, 3) := dX10_leastServed_30_b.2.2.1
theorem dX10_leastServed_35 : decode cX10_leastServed 35 = .ok (.aload_n 0, 1) := dX10_leastServed_30_b.2.2.2.1
theorem dX10_leastServed_36 : decode cX10_leastServed 36 = .ok (.getfield 121, 3) := dX10_leastServed_30_b.2.2.2.2.1
theorem dX10_leastServed_39 : decode cX10_leastServed 39 = .ok (.iload_n 2, 1) := dX10_leastServed_30_b.2.2.2.2.2
set_option maxRecDepth 20000 in
theorem dX10_leastServed_40_b : (decode cX10_leastServed 40 = .ok (.iaload, 1)) ∧ (decode cX10_leastServed 41 = .ok (.istore_n 1, 1)) ∧ (decode cX10_leastServed 42 = .ok (.iinc 2 1, 3)) ∧ (decode cX10_leastServed 45 = .ok (.goto (-41), 3)) ∧ (decode cX10_leastServed 48 = .ok (.iload_n 1, 1)) ∧ (decode cX10_leastServed 49 = .ok (.ireturn, 1)) := by decide +kernel
theorem dX10_leastServed_40 : decode cX10_leastServed 40 = .ok (.iaload, 1) := dX10_leastServed_40_b.1
theorem dX10_leastServed_41 : decode cX10_leastServed 41 = .ok (.istore_n 1, 1) := dX10_leastServed_40_b.2.1
theorem dX10_leastServed_42 : decode cX10_leastServed 42 = .ok (.iinc 2 1, 3) := dX10_leastServed_40_b.2.2.1
theorem dX10_leastServed_45 : decode cX10_leastServed 45 = .ok (.goto (-41), 3) := dX10_leastServed_40_b.2.2.2.1
theorem dX10_leastServed_48 : decode cX10_leastServed 48 = .ok (.iload_n 1, 1) := dX10_leastServed_40_b.2.2.2.2.1
theorem dX10_leastServed_49 : decode cX10_leastServed 49 = .ok (.ireturn, 1) := dX10_leastServed_40_b.2.2.2.2.2
set_option maxRecDepth 20000 in
theorem dX10_fewest_0_b : (decode cX10_fewest 0 = .ok (.aload_n 0, 1)) ∧ (decode cX10_fewest 1 = .ok (.iconst 0, 1)) ∧ (decode cX10_fewest 2 = .ok (.putfield 171, 3)) ∧ (decode cX10_fewest 5 = .ok (.iload_n 1, 1)) ∧ (decode cX10_fewest 6 = .ok (.ifCond .lt 8, 3)) ∧ (decode cX10_fewest 9 = .ok (.iload_n 1, 1)) := by decide +kernel
theorem dX10_fewest_0 : decode cX10_fewest 0 = .ok (.aload_n 0, 1) := dX10_fewest_0_b.1
theorem dX10_fewest_1 : decode cX10_fewest 1 = .ok (.iconst 0, 1) := dX10_fewest_0_b.2.1
theorem dX10_fewest_2 : decode cX10_fewest 2 = .ok (.putfield 171, 3) := dX10_fewest_0_b.2.2.1
theorem dX10_fewest_5 : decode cX10_fewest 5 = .ok (.iload_n 1, 1) := dX10_fewest_0_b.2.2.2.1
theorem dX10_fewest_6 : decode cX10_fewest 6 = .ok (.ifCond .lt 8, 3) := dX10_fewest_0_b.2.2.2.2.1
theorem dX10_fewest_9 : decode cX10_fewest 9 = .ok (.iload_n 1, 1) := dX10_fewest_0_b.2.2.2.2.2
set_option maxRecDepth 20000 in
theorem dX10_fewest_10_b : (decode cX10_fewest 10 = .ok (.iconst 1, 1)) ∧ (decode cX10_fewest 11 = .ok (.if_icmp .le 9, 3)) ∧ (decode cX10_fewest 14 = .ok (.aload_n 0, 1)) ∧ (decode cX10_fewest 15 = .ok (.iconst 1, 1)) ∧ (decode cX10_fewest 16 = .ok (.invokevirtual 315, 3)) ∧ (decode cX10_fewest 19 = .ok (.ireturn, 1)) := by decide +kernel
theorem dX10_fewest_10 : decode cX10_fewest 10 = .ok (.iconst 1, 1) := dX10_fewest_10_b.1
theorem dX10_fewest_11 : decode cX10_fewest 11 = .ok (.if_icmp .le 9, 3) := dX10_fewest_10_b.2.1
theorem dX10_fewest_14 : decode cX10_fewest 14 = .ok (.aload_n 0, 1) := dX10_fewest_10_b.2.2.1
theorem dX10_fewest_15 : decode cX10_fewest 15 = .ok (.iconst 1, 1) := dX10_fewest_10_b.2.2.2.1
theorem dX10_fewest_16 : decode cX10_fewest 16 = .ok (.invokevirtual 315, 3) := dX10_fewest_10_b.2.2.2.2.1
theorem dX10_fewest_19 : decode cX10_fewest 19 = .ok (.ireturn, 1) := dX10_fewest_10_b.2.2.2.2.2
set_option maxRecDepth 20000 in
theorem dX10_fewest_20_b : (decode cX10_fewest 20 = .ok (.aload_n 0, 1)) ∧ (decode cX10_fewest 21 = .ok (.aload_n 0, 1)) ∧ (decode cX10_fewest 22 = .ok (.getfield 87, 3)) ∧ (decode cX10_fewest 25 = .ok (.aload_n 0, 1)) ∧ (decode cX10_fewest 26 = .ok (.getfield 327, 3)) ∧ (decode cX10_fewest 29 = .ok (.iload_n 1, 1)) := by decide +kernel
theorem dX10_fewest_20 : decode cX10_fewest 20 = .ok (.aload_n 0, 1) := dX10_fewest_20_b.1
theorem dX10_fewest_21 : decode cX10_fewest 21 = .ok (.aload_n 0, 1) := dX10_fewest_20_b.2.1
theorem dX10_fewest_22 : decode cX10_fewest 22 = .ok (.getfield 87, 3) := dX10_fewest_20_b.2.2.1
theorem dX10_fewest_25 : decode cX10_fewest 25 = .ok (.aload_n 0, 1) := dX10_fewest_20_b.2.2.2.1
theorem dX10_fewest_26 : decode cX10_fewest 26 = .ok (.getfield 327, 3) := dX10_fewest_20_b.2.2.2.2.1
theorem dX10_fewest_29 : decode cX10_fewest 29 = .ok (.iload_n 1, 1) := dX10_fewest_20_b.2.2.2.2.2
set_option maxRecDepth 20000 in
theorem dX10_fewest_30_b : (decode cX10_fewest 30 = .ok (.iconst 1, 1)) ∧ (decode cX10_fewest 31 = .ok (.if_icmp .ne 7, 3)) ∧ (decode cX10_fewest 34 = .ok (.iconst 1, 1)) ∧ (decode cX10_fewest 35 = .ok (.goto 4, 3)) ∧ (decode cX10_fewest 38 = .ok (.iconst 0, 1)) ∧ (decode cX10_fewest 39 = .ok (.invokevirtual 472, 3)) := by decide +kernel
theorem dX10_fewest_30 : decode cX10_fewest 30 = .ok (.iconst 1, 1) := dX10_fewest_30_b.1
theorem dX10_fewest_31 : decode cX10_fewest 31 = .ok (.if_icmp .ne 7, 3) := dX10_fewest_30_b.2.1
theorem dX10_fewest_34 : decode cX10_fewest 34 = .ok (.iconst 1, 1) := dX10_fewest_30_b.2.2.1
theorem dX10_fewest_35 : decode cX10_fewest 35 = .ok (.goto 4, 3) := dX10_fewest_30_b.2.2.2.1
theorem dX10_fewest_38 : decode cX10_fewest 38 = .ok (.iconst 0, 1) := dX10_fewest_30_b.2.2.2.2.1
theorem dX10_fewest_39 : decode cX10_fewest 39 = .ok (.invokevirtual 472, 3) := dX10_fewest_30_b.2.2.2.2.2
set_option maxRecDepth 20000 in
theorem dX10_fewest_42_b : (decode cX10_fewest 42 = .ok (.ifCond .eq 10, 3)) ∧ (decode cX10_fewest 45 = .ok (.aload_n 0, 1)) ∧ (decode cX10_fewest 46 = .ok (.invokevirtual 476, 3)) ∧ (decode cX10_fewest 49 = .ok (.goto 5, 3)) ∧ (decode cX10_fewest 52 = .ok (.bipush (-2), 2)) ∧ (decode cX10_fewest 54 = .ok (.ireturn, 1)) := by decide +kernel
theorem dX10_fewest_42 : decode cX10_fewest 42 = .ok (.ifCond .eq 10, 3) := dX10_fewest_42_b.1
theorem dX10_fewest_45 : decode cX10_fewest 45 = .ok (.aload_n 0, 1) := dX10_fewest_42_b.2.1
theorem dX10_fewest_46 : decode cX10_fewest 46 = .ok (.invokevirtual 476, 3) := dX10_fewest_42_b.2.2.1
theorem dX10_fewest_49 : decode cX10_fewest 49 = .ok (.goto 5, 3) := dX10_fewest_42_b.2.2.2.1
theorem dX10_fewest_52 : decode cX10_fewest 52 = .ok (.bipush (-2), 2) := dX10_fewest_42_b.2.2.2.2.1
theorem dX10_fewest_54 : decode cX10_fewest 54 = .ok (.ireturn, 1) := dX10_fewest_42_b.2.2.2.2.2
set_option maxRecDepth 20000 in
theorem dX10_reachOf_0_b : (decode cX10_reachOf 0 = .ok (.aload_n 0, 1)) ∧ (decode cX10_reachOf 1 = .ok (.iload_n 1, 1)) ∧ (decode cX10_reachOf 2 = .ok (.aload_n 0, 1)) ∧ (decode cX10_reachOf 3 = .ok (.getfield 87, 3)) ∧ (decode cX10_reachOf 6 = .ok (.iload_n 1, 1)) ∧ (decode cX10_reachOf 7 = .ok (.iaload, 1)) := by decide +kernel
theorem dX10_reachOf_0 : decode cX10_reachOf 0 = .ok (.aload_n 0, 1) := dX10_reachOf_0_b.1
theorem dX10_reachOf_1 : decode cX10_reachOf 1 = .ok (.iload_n 1, 1) := dX10_reachOf_0_b.2.1
theorem dX10_reachOf_2 : decode cX10_reachOf 2 = .ok (.aload_n 0, 1) := dX10_reachOf_0_b.2.2.1
theorem dX10_reachOf_3 : decode cX10_reachOf 3 = .ok (.getfield 87, 3) := dX10_reachOf_0_b.2.2.2.1
theorem dX10_reachOf_6 : decode cX10_reachOf 6 = .ok (.iload_n 1, 1) := dX10_reachOf_0_b.2.2.2.2.1
theorem dX10_reachOf_7 : decode cX10_reachOf 7 = .ok (.iaload, 1) := dX10_reachOf_0_b.2.2.2.2.2
set_option maxRecDepth 20000 in
theorem dX10_reachOf_8_b : (decode cX10_reachOf 8 = .ok (.invokevirtual 355, 3)) ∧ (decode cX10_reachOf 11 = .ok (.ifCond .eq 27, 3)) ∧ (decode cX10_reachOf 14 = .ok (.aload_n 0, 1)) ∧ (decode cX10_reachOf 15 = .ok (.getfield 87, 3)) ∧ (decode cX10_reachOf 18 = .ok (.iload_n 1, 1)) ∧ (decode cX10_reachOf 19 = .ok (.iaload, 1)) := by decide +kernel
theorem dX10_reachOf_8 : decode cX10_reachOf 8 = .ok (.invokevirtual 355, 3) := dX10_reachOf_8_b.1
theorem dX10_reachOf_11 : decode cX10_reachOf 11 = .ok (.ifCond .eq 27, 3) := dX10_reachOf_8_b.2.1
theorem dX10_reachOf_14 : decode cX10_reachOf 14 = .ok (.aload_n 0, 1) := dX10_reachOf_8_b.2.2.1
theorem dX10_reachOf_15 : decode cX10_reachOf 15 = .ok (.getfield 87, 3) := dX10_reachOf_8_b.2.2.2.1
theorem dX10_reachOf_18 : decode cX10_reachOf 18 = .ok (.iload_n 1, 1) := dX10_reachOf_8_b.2.2.2.2.1
theorem dX10_reachOf_19 : decode cX10_reachOf 19 = .ok (.iaload, 1) := dX10_reachOf_8_b.2.2.2.2.2
set_option maxRecDepth 20000 in
theorem dX10_reachOf_20_b : (decode cX10_reachOf 20 = .ok (.bipush 14, 2)) ∧ (decode cX10_reachOf 22 = .ok (.if_icmp .ne 7, 3)) ∧ (decode cX10_reachOf 25 = .ok (.iconst 0, 1)) ∧ (decode cX10_reachOf 26 = .ok (.goto 11, 3)) ∧ (decode cX10_reachOf 29 = .ok (.iconst 1, 1)) ∧ (decode cX10_reachOf 30 = .ok (.aload_n 0, 1)) := by decide +kernel
theorem dX10_reachOf_20 : decode cX10_reachOf 20 = .ok (.bipush 14, 2) := dX10_reachOf_20_b.1
theorem dX10_reachOf_22 : decode cX10_reachOf 22 = .ok (.if_icmp .ne 7, 3) := dX10_reachOf_20_b.2.1
theorem dX10_reachOf_25 : decode cX10_reachOf 25 = .ok (.iconst 0, 1) := dX10_reachOf_20_b.2.2.1
theorem dX10_reachOf_26 : decode cX10_reachOf 26 = .ok (.goto 11, 3) := dX10_reachOf_20_b.2.2.2.1
theorem dX10_reachOf_29 : decode cX10_reachOf 29 = .ok (.iconst 1, 1) := dX10_reachOf_20_b.2.2.2.2.1
theorem dX10_reachOf_30 : decode cX10_reachOf 30 = .ok (.aload_n 0, 1) := dX10_reachOf_20_b.2.2.2.2.2
set_option maxRecDepth 20000 in
theorem dX10_reachOf_31_b : (decode cX10_reachOf 31 = .ok (.getfield 87, 3)) ∧ (decode cX10_reachOf 34 = .ok (.iload_n 1, 1)) ∧ (decode cX10_reachOf 35 = .ok (.iaload, 1)) ∧ (decode cX10_reachOf 36 = .ok (.ishl, 1)) ∧ (decode cX10_reachOf 37 = .ok (.ireturn, 1)) ∧ (decode cX10_reachOf 38 = .ok (.iconst 0, 1)) := by decide +kernel
theorem dX10_reachOf_31 : decode cX10_reachOf 31 = .ok (.getfield 87, 3) := dX10_reachOf_31_b.1
theorem dX10_reachOf_34 : decode cX10_reachOf 34 = .ok (.iload_n 1, 1) := dX10_reachOf_31_b.2.1
theorem dX10_reachOf_35 : decode cX10_reachOf 35 = .ok (.iaload, 1) := dX10_reachOf_31_b.2.2.1
theorem dX10_reachOf_36 : decode cX10_reachOf 36 = .ok (.ishl, 1) := dX10_reachOf_31_b.2.2.2.1
theorem dX10_reachOf_37 : decode cX10_reachOf 37 = .ok (.ireturn, 1) := dX10_reachOf_31_b.2.2.2.2.1
theorem dX10_reachOf_38 : decode cX10_reachOf 38 = .ok (.iconst 0, 1) := dX10_reachOf_31_b.2.2.2.2.2
set_option maxRecDepth 20000 in
theorem dX10_reachOf_39_b : (decode cX10_reachOf 39 = .ok (.istore_n 3, 1)) ∧ (decode cX10_reachOf 40 = .ok (.iload_n 3, 1)) ∧ (decode cX10_reachOf 41 = .ok (.bipush 7, 2)) ∧ (decode cX10_reachOf 43 = .ok (.if_icmp .ge 35, 3)) ∧ (decode cX10_reachOf 46 = .ok (.aload_n 0, 1)) ∧ (decode cX10_reachOf 47 = .ok (.getfield 140, 3)) := by decide +kernel
theorem dX10_reachOf_39 : decode cX10_reachOf 39 = .ok (.istore_n 3, 1) := dX10_reachOf_39_b.1
theorem dX10_reachOf_40 : decode cX10_reachOf 40 = .ok (.iload_n 3, 1) := dX10_reachOf_39_b.2.1
theorem dX10_reachOf_41 : decode cX10_reachOf 41 = .ok (.bipush 7, 2) := dX10_reachOf_39_b.2.2.1
theorem dX10_reachOf_43 : decode cX10_reachOf 43 = .ok (.if_icmp .ge 35, 3) := dX10_reachOf_39_b.2.2.2.1
theorem dX10_reachOf_46 : decode cX10_reachOf 46 = .ok (.aload_n 0, 1) := dX10_reachOf_39_b.2.2.2.2.1
theorem dX10_reachOf_47 : decode cX10_reachOf 47 = .ok (.getfield 140, 3) := dX10_reachOf_39_b.2.2.2.2.2
set_option maxRecDepth 20000 in
theorem dX10_reachOf_50_b : (decode cX10_reachOf 50 = .ok (.iload_n 3, 1)) ∧ (decode cX10_reachOf 51 = .ok (.iload_n 2, 1)) ∧ (decode cX10_reachOf 52 = .ok (.iload_n 3, 1)) ∧ (decode cX10_reachOf 53 = .ok (.ishr, 1)) ∧ (decode cX10_reachOf 54 = .ok (.iconst 1, 1)) ∧ (decode cX10_reachOf 55 = .ok (.iand, 1)) := by decide +kernel
theorem dX10_reachOf_50 : decode cX10_reachOf 50 = .ok (.iload_n 3, 1) := dX10_reachOf_50_b.1
theorem dX10_reachOf_51 : decode cX10_reachOf 51 = .ok (.iload_n 2, 1) := dX10_reachOf_50_b.2.1
theorem dX10_reachOf_52 : decode cX10_reachOf 52 = .ok (.iload_n 3, 1) := dX10_reachOf_50_b.2.2.1
theorem dX10_reachOf_53 : decode cX10_reachOf 53 = .ok (.ishr, 1) := dX10_reachOf_50_b.2.2.2.1
theorem dX10_reachOf_54 : decode cX10_reachOf 54 = .ok (.iconst 1, 1) := dX10_reachOf_50_b.2.2.2.2.1
theorem dX10_reachOf_55 : decode cX10_reachOf 55 = .ok (.iand, 1) := dX10_reachOf_50_b.2.2.2.2.2
set_option maxRecDepth 20000 in
theorem dX10_reachOf_56_b : (decode cX10_reachOf 56 = .ok (.iconst 1, 1)) ∧ (decode cX10_reachOf 57 = .ok (.if_icmp .ne 8, 3)) ∧ (decode cX10_reachOf 60 = .ok (.bipush 15, 2)) ∧ (decode cX10_reachOf 62 = .ok (.goto 9, 3)) ∧ (decode cX10_reachOf 65 = .ok (.aload_n 0, 1)) ∧ (decode cX10_reachOf 66 = .ok (.getfield 87, 3)) := by decide +kernel
theorem dX10_reachOf_56 : decode cX10_reachOf 56 = .ok (.iconst 1, 1) := dX10_reachOf_56_b.1
theorem dX10_reachOf_57 : decode cX10_reachOf 57 = .ok (.if_icmp .ne 8, 3) := dX10_reachOf_56_b.2.1
theorem dX10_reachOf_60 : decode cX10_reachOf 60 = .ok (.bipush 15, 2) := dX10_reachOf_56_b.2.2.1
theorem dX10_reachOf_62 : decode cX10_reachOf 62 = .ok (.goto 9, 3) := dX10_reachOf_56_b.2.2.2.1
theorem dX10_reachOf_65 : decode cX10_reachOf 65 = .ok (.aload_n 0, 1) := dX10_reachOf_56_b.2.2.2.2.1
theorem dX10_reachOf_66 : decode cX10_reachOf 66 = .ok (.getfield 87, 3) := dX10_reachOf_56_b.2.2.2.2.2
set_option maxRecDepth 20000 in
theorem dX10_reachOf_69_b : (decode cX10_reachOf 69 = .ok (.iload_n 3, 1)) ∧ (decode cX10_reachOf 70 = .ok (.iaload, 1)) ∧ (decode cX10_reachOf 71 = .ok (.iastore, 1)) ∧ (decode cX10_reachOf 72 = .ok (.iinc 3 1, 3)) ∧ (decode cX10_reachOf 75 = .ok (.goto (-35), 3)) ∧ (decode cX10_reachOf 78 = .ok (.aload_n 0, 1)) := by decide +kernel
theorem dX10_reachOf_69 : decode cX10_reachOf 69 = .ok (.iload_n 3, 1) := dX10_reachOf_69_b.1
theorem dX10_reachOf_70 : decode cX10_reachOf 70 = .ok (.iaload, 1) := dX10_reachOf_69_b.2.1
theorem dX10_reachOf_71 : decode cX10_reachOf 71 = .ok (.iastore, 1) := dX10_reachOf_69_b.2.2.1
theorem dX10_reachOf_72 : decode cX10_reachOf 72 = .ok (.iinc 3 1, 3) := dX10_reachOf_69_b.2.2.2.1
theorem dX10_reachOf_75 : decode cX10_reachOf 75 = .ok (.goto (-35), 3) := dX10_reachOf_69_b.2.2.2.2.1
theorem dX10_reachOf_78 : decode cX10_reachOf 78 = .ok (.aload_n 0, 1) := dX10_reachOf_69_b.2.2.2.2.2
set_option maxRecDepth 20000 in
theorem dX10_reachOf_79_b : (decode cX10_reachOf 79 = .ok (.aload_n 0, 1)) ∧ (decode cX10_reachOf 80 = .ok (.getfield 140, 3)) ∧ (decode cX10_reachOf 83 = .ok (.aload_n 0, 1)) ∧ (decode cX10_reachOf 84 = .ok (.getfield 327, 3)) ∧ (decode cX10_reachOf 87 = .ok (.iconst 0, 1)) ∧ (decode cX10_reachOf 88 = .ok (.invokevirtual 472, 3)) := by decide +kernel
theorem dX10_reachOf_79 : decode cX10_reachOf 79 = .ok (.aload_n 0, 1) := dX10_reachOf_79_b.1
theorem dX10_reachOf_80 : decode cX10_reachOf 80 = .ok (.getfield 140, 3) := dX10_reachOf_79_b.2.1
theorem dX10_reachOf_83 : decode cX10_reachOf 83 = .ok (.aload_n 0, 1) := dX10_reachOf_79_b.2.2.1
theorem dX10_reachOf_84 : decode cX10_reachOf 84 = .ok (.getfield 327, 3) := dX10_reachOf_79_b.2.2.2.1
theorem dX10_reachOf_87 : decode cX10_reachOf 87 = .ok (.iconst 0, 1) := dX10_reachOf_79_b.2.2.2.2.1
theorem dX10_reachOf_88 : decode cX10_reachOf 88 = .ok (.invokevirtual 472, 3) := dX10_reachOf_79_b.2.2.2.2.2
set_option maxRecDepth 20000 in
theorem dX10_reachOf_91_b : (decode cX10_reachOf 91 = .ok (.ifCond .ne 6, 3)) ∧ (decode cX10_reachOf 94 = .ok (.bipush (-2), 2)) ∧ (decode cX10_reachOf 96 = .ok (.ireturn, 1)) ∧ (decode cX10_reachOf 97 = .ok (.iconst 0, 1)) ∧ (decode cX10_reachOf 98 = .ok (.istore_n 3, 1)) ∧ (decode cX10_reachOf 99 = .ok (.iconst 0, 1)) := by decide +kernel
theorem dX10_reachOf_91 : decode cX10_reachOf 91 = .ok (.ifCond .ne 6, 3) := dX10_reachOf_91_b.1
theorem dX10_reachOf_94 : decode cX10_reachOf 94 = .ok (.bipush (-2), 2) := dX10_reachOf_91_b.2.1
theorem dX10_reachOf_96 : decode cX10_reachOf 96 = .ok (.ireturn, 1) := dX10_reachOf_91_b.2.2.1
theorem dX10_reachOf_97 : decode cX10_reachOf 97 = .ok (.iconst 0, 1) := dX10_reachOf_91_b.2.2.2.1
theorem dX10_reachOf_98 : decode cX10_reachOf 98 = .ok (.istore_n 3, 1) := dX10_reachOf_91_b.2.2.2.2.1
theorem dX10_reachOf_99 : decode cX10_reachOf 99 = .ok (.iconst 0, 1) := dX10_reachOf_91_b.2.2.2.2.2
set_option maxRecDepth 20000 in
theorem dX10_reachOf_100_b : (decode cX10_reachOf 100 = .ok (.istore 4, 2)) ∧ (decode cX10_reachOf 102 = .ok (.iload 4, 2)) ∧ (decode cX10_reachOf 104 = .ok (.aload_n 0, 1)) ∧ (decode cX10_reachOf 105 = .ok (.getfield 436, 3)) ∧ (decode cX10_reachOf 108 = .ok (.if_icmp .ge 78, 3)) ∧ (decode cX10_reachOf 111 = .ok (.aload_n 0, 1)) := by decide +kernel
theorem dX10_reachOf_100 : decode cX10_reachOf 100 = .ok (.istore 4, 2) := dX10_reachOf_100_b.1
theorem dX10_reachOf_102 : decode cX10_reachOf 102 = .ok (.iload 4, 2) := dX10_reachOf_100_b.2.1
theorem dX10_reachOf_104 : decode cX10_reachOf 104 = .ok (.aload_n 0, 1) := dX10_reachOf_100_b.2.2.1
theorem dX10_reachOf_105 : decode cX10_reachOf 105 = .ok (.getfield 436, 3) := dX10_reachOf_100_b.2.2.2.1
theorem dX10_reachOf_108 : decode cX10_reachOf 108 = .ok (.if_icmp .ge 78, 3) := dX10_reachOf_100_b.2.2.2.2.1
theorem dX10_reachOf_111 : decode cX10_reachOf 111 = .ok (.aload_n 0, 1) := dX10_reachOf_100_b.2.2.2.2.2
set_option maxRecDepth 20000 in
theorem dX10_reachOf_112_b : (decode cX10_reachOf 112 = .ok (.aload_n 0, 1)) ∧ (decode cX10_reachOf 113 = .ok (.getfield 117, 3)) ∧ (decode cX10_reachOf 116 = .ok (.iload 4, 2)) ∧ (decode cX10_reachOf 118 = .ok (.laload, 1)) ∧ (decode cX10_reachOf 119 = .ok (.invokevirtual 465, 3)) ∧ (decode cX10_reachOf 122 = .ok (.aload_n 0, 1)) := by decide +kernel
theorem dX10_reachOf_112 : decode cX10_reachOf 112 = .ok (.aload_n 0, 1) := dX10_reachOf_112_b.1
theorem dX10_reachOf_113 : decode cX10_reachOf 113 = .ok (.getfield 117, 3) := dX10_reachOf_112_b.2.1
theorem dX10_reachOf_116 : decode cX10_reachOf 116 = .ok (.iload 4, 2) := dX10_reachOf_112_b.2.2.1
theorem dX10_reachOf_118 : decode cX10_reachOf 118 = .ok (.laload, 1) := dX10_reachOf_112_b.2.2.2.1
theorem dX10_reachOf_119 : decode cX10_reachOf 119 = .ok (.invokevirtual 465, 3) := dX10_reachOf_112_b.2.2.2.2.1
theorem dX10_reachOf_122 : decode cX10_reachOf 122 = .ok (.aload_n 0, 1) := dX10_reachOf_112_b.2.2.2.2.2
set_option maxRecDepth 20000 in
theorem dX10_reachOf_123_b : (decode cX10_reachOf 123 = .ok (.getfield 134, 3)) ∧ (decode cX10_reachOf 126 = .ok (.iload_n 1, 1)) ∧ (decode cX10_reachOf 127 = .ok (.iaload, 1)) ∧ (decode cX10_reachOf 128 = .ok (.bipush 12, 2)) ∧ (decode cX10_reachOf 130 = .ok (.if_icmp .ge 17, 3)) ∧ (decode cX10_reachOf 133 = .ok (.iload_n 3, 1)) := by decide +kernel
theorem dX10_reachOf_123 : decode cX10_reachOf 123 = .ok (.getfield 134, 3) := dX10_reachOf_123_b.1
theorem dX10_reachOf_126 : decode cX10_reachOf 126 = .ok (.iload_n 1, 1) := dX10_reachOf_123_b.2.1
theorem dX10_reachOf_127 : decode cX10_reachOf 127 = .ok (.iaload, 1) := dX10_reachOf_123_b.2.2.1
theorem dX10_reachOf_128 : decode cX10_reachOf 128 = .ok (.bipush 12, 2) := dX10_reachOf_123_b.2.2.2.1
theorem dX10_reachOf_130 : decode cX10_reachOf 130 = .ok (.if_icmp .ge 17, 3) := dX10_reachOf_123_b.2.2.2.2.1
theorem dX10_reachOf_133 : decode cX10_reachOf 133 = .ok (.iload_n 3, 1) := dX10_reachOf_123_b.2.2.2.2.2
set_option maxRecDepth 20000 in
theorem dX10_reachOf_134_b : (decode cX10_reachOf 134 = .ok (.iconst 1, 1)) ∧ (decode cX10_reachOf 135 = .ok (.aload_n 0, 1)) ∧ (decode cX10_reachOf 136 = .ok (.getfield 134, 3)) ∧ (decode cX10_reachOf 139 = .ok (.iload_n 1, 1)) ∧ (decode cX10_reachOf 140 = .ok (.iaload, 1)) ∧ (decode cX10_reachOf 141 = .ok (.ishl, 1)) := by decide +kernel
theorem dX10_reachOf_134 : decode cX10_reachOf 134 = .ok (.iconst 1, 1) := dX10_reachOf_134_b.1
theorem dX10_reachOf_135 : decode cX10_reachOf 135 = .ok (.aload_n 0, 1) := dX10_reachOf_134_b.2.1
theorem dX10_reachOf_136 : decode cX10_reachOf 136 = .ok (.getfield 134, 3) := dX10_reachOf_134_b.2.2.1
theorem dX10_reachOf_139 : decode cX10_reachOf 139 = .ok (.iload_n 1, 1) := dX10_reachOf_134_b.2.2.2.1
theorem dX10_reachOf_140 : decode cX10_reachOf 140 = .ok (.iaload, 1) := dX10_reachOf_134_b.2.2.2.2.1
theorem dX10_reachOf_141 : decode cX10_reachOf 141 = .ok (.ishl, 1) := dX10_reachOf_134_b.2.2.2.2.2
set_option maxRecDepth 20000 in
theorem dX10_reachOf_142_b : (decode cX10_reachOf 142 = .ok (.ior, 1)) ∧ (decode cX10_reachOf 143 = .ok (.istore_n 3, 1)) ∧ (decode cX10_reachOf 144 = .ok (.goto 36, 3)) ∧ (decode cX10_reachOf 147 = .ok (.aload_n 0, 1)) ∧ (decode cX10_reachOf 148 = .ok (.getfield 134, 3)) := by decide +kernel
theorem dX10_reachOf_142 : decode cX10_reachOf 142 = .ok (.ior, 1) := dX10_reachOf_142_b.1
theorem dX10_reachOf_143 : decode cX10_reachOf 143 = .ok (.istore_n 3, 1) := dX10_reachOf_142_b.2.1
theorem dX10_reachOf_144 : decode cX10_reachOf 144 = .ok (.goto 36, 3) := dX10_reachOf_142_b.2.2.1
theorem dX10_reachOf_147 : decode cX10_reachOf 147 = .ok (.aload_n 0, 1) := dX10_reachOf_142_b.2.2.2.1
theorem dX10_reachOf_148 : decode cX10_reachOf 148 = .ok (.getfield 134, 3) := dX10_reachOf_142_b.2.2.2.2
