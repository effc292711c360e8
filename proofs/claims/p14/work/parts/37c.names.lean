set_option maxRecDepth 20000 in
theorem dX6_explore_60_b : (decode cX6_explore 60 = .ok (.putfield 26, 3)) ∧ (decode cX6_explore 63 = .ok (.aload_n 0, 1)) ∧ (decode cX6_explore 64 = .ok (.iconst (-1), 1)) ∧ (decode cX6_explore 65 = .ok (.putfield 29, 3)) ∧ (decode cX6_explore 68 = .ok (.aload_n 0, 1)) ∧ (decode cX6_explore 69 = .ok (.getfield 42, 3)) := by decide +kernel
theorem dX6_explore_60 : decode cX6_explore 60 = .ok (.putfield 26, 3) := dX6_explore_60_b.1
theorem dX6_explore_63 : decode cX6_explore 63 = .ok (.aload_n 0, 1) := dX6_explore_60_b.2.1
theorem dX6_explore_64 : decode cX6_explore 64 = .ok (.iconst (-1), 1) := dX6_explore_60_b.2.2.1
theorem dX6_explore_65 : decode cX6_explore 65 = .ok (.putfield 29, 3) := dX6_explore_60_b.2.2.2.1
theorem dX6_explore_68 : decode cX6_explore 68 = .ok (.aload_n 0, 1) := dX6_explore_60_b.2.2.2.2.1
theorem dX6_explore_69 : decode cX6_explore 69 = .ok (.getfield 42, 3) := dX6_explore_60_b.2.2.2.2.2
set_option maxRecDepth 20000 in
theorem dX6_explore_72_b : (decode cX6_explore 72 = .ok (.iconst (-1), 1)) ∧ (decode cX6_explore 73 = .ok (.invokestatic 60, 3)) ∧ (decode cX6_explore 76 = .ok (.aload_n 0, 1)) ∧ (decode cX6_explore 77 = .ok (.iload_n 2, 1)) ∧ (decode cX6_explore 78 = .ok (.iconst 0, 1)) ∧ (decode cX6_explore 79 = .ok (.invokevirtual 66, 3)) := by decide +kernel
theorem dX6_explore_72 : decode cX6_explore 72 = .ok (.iconst (-1), 1) := dX6_explore_72_b.1
theorem dX6_explore_73 : decode cX6_explore 73 = .ok (.invokestatic 60, 3) := dX6_explore_72_b.2.1
theorem dX6_explore_76 : decode cX6_explore 76 = .ok (.aload_n 0, 1) := dX6_explore_72_b.2.2.1
theorem dX6_explore_77 : decode cX6_explore 77 = .ok (.iload_n 2, 1) := dX6_explore_72_b.2.2.2.1
theorem dX6_explore_78 : decode cX6_explore 78 = .ok (.iconst 0, 1) := dX6_explore_72_b.2.2.2.2.1
theorem dX6_explore_79 : decode cX6_explore 79 = .ok (.invokevirtual 66, 3) := dX6_explore_72_b.2.2.2.2.2
set_option maxRecDepth 20000 in
theorem dX6_explore_82_b : (decode cX6_explore 82 = .ok (.iconst 0, 1)) ∧ (decode cX6_explore 83 = .ok (.istore 4, 2)) ∧ (decode cX6_explore 85 = .ok (.iload 4, 2)) ∧ (decode cX6_explore 87 = .ok (.sipush 1500, 3)) ∧ (decode cX6_explore 90 = .ok (.if_icmp .ge 52, 3)) ∧ (decode cX6_explore 93 = .ok (.aload_n 0, 1)) := by decide +kernel
theorem dX6_explore_82 : decode cX6_explore 82 = .ok (.iconst 0, 1) := dX6_explore_82_b.1
theorem dX6_explore_83 : decode cX6_explore 83 = .ok (.istore 4, 2) := dX6_explore_82_b.2.1
theorem dX6_explore_85 : decode cX6_explore 85 = .ok (.iload 4, 2) := dX6_explore_82_b.2.2.1
theorem dX6_explore_87 : decode cX6_explore 87 = .ok (.sipush 1500, 3) := dX6_explore_82_b.2.2.2.1
theorem dX6_explore_90 : decode cX6_explore 90 = .ok (.if_icmp .ge 52, 3) := dX6_explore_82_b.2.2.2.2.1
theorem dX6_explore_93 : decode cX6_explore 93 = .ok (.aload_n 0, 1) := dX6_explore_82_b.2.2.2.2.2
set_option maxRecDepth 20000 in
theorem dX6_explore_94_b : (decode cX6_explore 94 = .ok (.getfield 26, 3)) ∧ (decode cX6_explore 97 = .ok (.ifCond .le 45, 3)) ∧ (decode cX6_explore 100 = .ok (.aload_n 0, 1)) ∧ (decode cX6_explore 101 = .ok (.getfield 19, 3)) ∧ (decode cX6_explore 104 = .ok (.ifCond .ne 38, 3)) ∧ (decode cX6_explore 107 = .ok (.aload_n 0, 1)) := by decide +kernel
theorem dX6_explore_94 : decode cX6_explore 94 = .ok (.getfield 26, 3) := dX6_explore_94_b.1
theorem dX6_explore_97 : decode cX6_explore 97 = .ok (.ifCond .le 45, 3) := dX6_explore_94_b.2.1
theorem dX6_explore_100 : decode cX6_explore 100 = .ok (.aload_n 0, 1) := dX6_explore_94_b.2.2.1
theorem dX6_explore_101 : decode cX6_explore 101 = .ok (.getfield 19, 3) := dX6_explore_94_b.2.2.2.1
theorem dX6_explore_104 : decode cX6_explore 104 = .ok (.ifCond .ne 38, 3) := dX6_explore_94_b.2.2.2.2.1
theorem dX6_explore_107 : decode cX6_explore 107 = .ok (.aload_n 0, 1) := dX6_explore_94_b.2.2.2.2.2
set_option maxRecDepth 20000 in
theorem dX6_explore_108_b : (decode cX6_explore 108 = .ok (.aload_n 0, 1)) ∧ (decode cX6_explore 109 = .ok (.invokevirtual 70, 3)) ∧ (decode cX6_explore 112 = .ok (.putfield 29, 3)) ∧ (decode cX6_explore 115 = .ok (.aload_n 0, 1)) ∧ (decode cX6_explore 116 = .ok (.iconst 0, 1)) ∧ (decode cX6_explore 117 = .ok (.aload_n 0, 1)) := by decide +kernel
theorem dX6_explore_108 : decode cX6_explore 108 = .ok (.aload_n 0, 1) := dX6_explore_108_b.1
theorem dX6_explore_109 : decode cX6_explore 109 = .ok (.invokevirtual 70, 3) := dX6_explore_108_b.2.1
theorem dX6_explore_112 : decode cX6_explore 112 = .ok (.putfield 29, 3) := dX6_explore_108_b.2.2.1
theorem dX6_explore_115 : decode cX6_explore 115 = .ok (.aload_n 0, 1) := dX6_explore_108_b.2.2.2.1
theorem dX6_explore_116 : decode cX6_explore 116 = .ok (.iconst 0, 1) := dX6_explore_108_b.2.2.2.2.1
theorem dX6_explore_117 : decode cX6_explore 117 = .ok (.aload_n 0, 1) := dX6_explore_108_b.2.2.2.2.2
set_option maxRecDepth 20000 in
theorem dX6_explore_118_b : (decode cX6_explore 118 = .ok (.aload_n 0, 1)) ∧ (decode cX6_explore 119 = .ok (.getfield 32, 3)) ∧ (decode cX6_explore 122 = .ok (.aload_n 0, 1)) ∧ (decode cX6_explore 123 = .ok (.getfield 29, 3)) ∧ (decode cX6_explore 126 = .ok (.iaload, 1)) ∧ (decode cX6_explore 127 = .ok (.invokevirtual 74, 3)) := by decide +kernel
theorem dX6_explore_118 : decode cX6_explore 118 = .ok (.aload_n 0, 1) := dX6_explore_118_b.1
theorem dX6_explore_119 : decode cX6_explore 119 = .ok (.getfield 32, 3) := dX6_explore_118_b.2.1
theorem dX6_explore_122 : decode cX6_explore 122 = .ok (.aload_n 0, 1) := dX6_explore_118_b.2.2.1
theorem dX6_explore_123 : decode cX6_explore 123 = .ok (.getfield 29, 3) := dX6_explore_118_b.2.2.2.1
theorem dX6_explore_126 : decode cX6_explore 126 = .ok (.iaload, 1) := dX6_explore_118_b.2.2.2.2.1
theorem dX6_explore_127 : decode cX6_explore 127 = .ok (.invokevirtual 74, 3) := dX6_explore_118_b.2.2.2.2.2
set_option maxRecDepth 20000 in
theorem dX6_explore_130_b : (decode cX6_explore 130 = .ok (.iconst 0, 1)) ∧ (decode cX6_explore 131 = .ok (.iconst 0, 1)) ∧ (decode cX6_explore 132 = .ok (.iconst 0, 1)) ∧ (decode cX6_explore 133 = .ok (.invokevirtual 78, 3)) ∧ (decode cX6_explore 136 = .ok (.iinc 4 1, 3)) ∧ (decode cX6_explore 139 = .ok (.goto (-54), 3)) := by decide +kernel
theorem dX6_explore_130 : decode cX6_explore 130 = .ok (.iconst 0, 1) := dX6_explore_130_b.1
theorem dX6_explore_131 : decode cX6_explore 131 = .ok (.iconst 0, 1) := dX6_explore_130_b.2.1
theorem dX6_explore_132 : decode cX6_explore 132 = .ok (.iconst 0, 1) := dX6_explore_130_b.2.2.1
theorem dX6_explore_133 : decode cX6_explore 133 = .ok (.invokevirtual 78, 3) := dX6_explore_130_b.2.2.2.1
theorem dX6_explore_136 : decode cX6_explore 136 = .ok (.iinc 4 1, 3) := dX6_explore_130_b.2.2.2.2.1
theorem dX6_explore_139 : decode cX6_explore 139 = .ok (.goto (-54), 3) := dX6_explore_130_b.2.2.2.2.2
set_option maxRecDepth 20000 in
theorem dX6_explore_142_b : (decode cX6_explore 142 = .ok (.aload_n 0, 1)) ∧ (decode cX6_explore 143 = .ok (.getfield 19, 3)) ∧ (decode cX6_explore 146 = .ok (.ifCond .ne 7, 3)) ∧ (decode cX6_explore 149 = .ok (.iconst 1, 1)) ∧ (decode cX6_explore 150 = .ok (.goto 4, 3)) ∧ (decode cX6_explore 153 = .ok (.iconst 0, 1)) := by decide +kernel
theorem dX6_explore_142 : decode cX6_explore 142 = .ok (.aload_n 0, 1) := dX6_explore_142_b.1
theorem dX6_explore_143 : decode cX6_explore 143 = .ok (.getfield 19, 3) := dX6_explore_142_b.2.1
theorem dX6_explore_146 : decode cX6_explore 146 = .ok (.ifCond .ne 7, 3) := dX6_explore_142_b.2.2.1
theorem dX6_explore_149 : decode cX6_explore 149 = .ok (.iconst 1, 1) := dX6_explore_142_b.2.2.2.1
theorem dX6_explore_150 : decode cX6_explore 150 = .ok (.goto 4, 3) := dX6_explore_142_b.2.2.2.2.1
theorem dX6_explore_153 : decode cX6_explore 153 = .ok (.iconst 0, 1) := dX6_explore_142_b.2.2.2.2.2
theorem dX6_explore_154 : decode cX6_explore 154 = .ok (.ireturn, 1) := by decide +kernel
set_option maxRecDepth 20000 in
theorem dX6_emptied_0_b : (decode cX6_emptied 0 = .ok (.iload_n 1, 1)) ∧ (decode cX6_emptied 1 = .ok (.istore_n 2, 1)) ∧ (decode cX6_emptied 2 = .ok (.iconst 0, 1)) ∧ (decode cX6_emptied 3 = .ok (.istore_n 3, 1)) ∧ (decode cX6_emptied 4 = .ok (.iload_n 3, 1)) ∧ (decode cX6_emptied 5 = .ok (.aload_n 0, 1)) := by decide +kernel
theorem dX6_emptied_0 : decode cX6_emptied 0 = .ok (.iload_n 1, 1) := dX6_emptied_0_b.1
theorem dX6_emptied_1 : decode cX6_emptied 1 = .ok (.istore_n 2, 1) := dX6_emptied_0_b.2.1
theorem dX6_emptied_2 : decode cX6_emptied 2 = .ok (.iconst 0, 1) := dX6_emptied_0_b.2.2.1
theorem dX6_emptied_3 : decode cX6_emptied 3 = .ok (.istore_n 3, 1) := dX6_emptied_0_b.2.2.2.1
theorem dX6_emptied_4 : decode cX6_emptied 4 = .ok (.iload_n 3, 1) := dX6_emptied_0_b.2.2.2.2.1
theorem dX6_emptied_5 : decode cX6_emptied 5 = .ok (.aload_n 0, 1) := dX6_emptied_0_b.2.2.2.2.2
set_option maxRecDepth 20000 in
theorem dX6_emptied_6_b : (decode cX6_emptied 6 = .ok (.getfield 9, 3)) ∧ (decode cX6_emptied 9 = .ok (.getfield 82, 3)) ∧ (decode cX6_emptied 12 = .ok (.if_icmp .ge 131, 3)) ∧ (decode cX6_emptied 15 = .ok (.aload_n 0, 1)) ∧ (decode cX6_emptied 16 = .ok (.getfield 9, 3)) ∧ (decode cX6_emptied 19 = .ok (.iload_n 1, 1)) := by decide +kernel
theorem dX6_emptied_6 : decode cX6_emptied 6 = .ok (.getfield 9, 3) := dX6_emptied_6_b.1
theorem dX6_emptied_9 : decode cX6_emptied 9 = .ok (.getfield 82, 3) := dX6_emptied_6_b.2.1
theorem dX6_emptied_12 : decode cX6_emptied 12 = .ok (.if_icmp .ge 131, 3) := dX6_emptied_6_b.2.2.1
theorem dX6_emptied_15 : decode cX6_emptied 15 = .ok (.aload_n 0, 1) := dX6_emptied_6_b.2.2.2.1
theorem dX6_emptied_16 : decode cX6_emptied 16 = .ok (.getfield 9, 3) := dX6_emptied_6_b.2.2.2.2.1
theorem dX6_emptied_19 : decode cX6_emptied 19 = .ok (.iload_n 1, 1) := dX6_emptied_6_b.2.2.2.2.2
set_option maxRecDepth 20000 in
theorem dX6_emptied_20_b : (decode cX6_emptied 20 = .ok (.iload_n 3, 1)) ∧ (decode cX6_emptied 21 = .ok (.invokevirtual 87, 3)) ∧ (decode cX6_emptied 24 = .ok (.istore 4, 2)) ∧ (decode cX6_emptied 26 = .ok (.iload 4, 2)) ∧ (decode cX6_emptied 28 = .ok (.iconst (-1), 1)) ∧ (decode cX6_emptied 29 = .ok (.if_icmp .eq 21, 3)) := by decide +kernel
theorem dX6_emptied_20 : decode cX6_emptied 20 = .ok (.iload_n 3, 1) := dX6_emptied_20_b.1
theorem dX6_emptied_21 : decode cX6_emptied 21 = .ok (.invokevirtual 87, 3) := dX6_emptied_20_b.2.1
theorem dX6_emptied_24 : decode cX6_emptied 24 = .ok (.istore 4, 2) := dX6_emptied_20_b.2.2.1
theorem dX6_emptied_26 : decode cX6_emptied 26 = .ok (.iload 4, 2) := dX6_emptied_20_b.2.2.2.1
theorem dX6_emptied_28 : decode cX6_emptied 28 = .ok (.iconst (-1), 1) := dX6_emptied_20_b.2.2.2.2.1
theorem dX6_emptied_29 : decode cX6_emptied 29 = .ok (.if_icmp .eq 21, 3) := dX6_emptied_20_b.2.2.2.2.2
set_option maxRecDepth 20000 in
theorem dX6_emptied_32_b : (decode cX6_emptied 32 = .ok (.iload 4, 2)) ∧ (decode cX6_emptied 34 = .ok (.aload_n 0, 1)) ∧ (decode cX6_emptied 35 = .ok (.getfield 9, 3)) ∧ (decode cX6_emptied 38 = .ok (.getfield 91, 3)) ∧ (decode cX6_emptied 41 = .ok (.iload_n 3, 1)) ∧ (decode cX6_emptied 42 = .ok (.iaload, 1)) := by decide +kernel
theorem dX6_emptied_32 : decode cX6_emptied 32 = .ok (.iload 4, 2) := dX6_emptied_32_b.1
theorem dX6_emptied_34 : decode cX6_emptied 34 = .ok (.aload_n 0, 1) := dX6_emptied_32_b.2.1
theorem dX6_emptied_35 : decode cX6_emptied 35 = .ok (.getfield 9, 3) := dX6_emptied_32_b.2.2.1
theorem dX6_emptied_38 : decode cX6_emptied 38 = .ok (.getfield 91, 3) := dX6_emptied_32_b.2.2.2.1
theorem dX6_emptied_41 : decode cX6_emptied 41 = .ok (.iload_n 3, 1) := dX6_emptied_32_b.2.2.2.2.1
theorem dX6_emptied_42 : decode cX6_emptied 42 = .ok (.iaload, 1) := dX6_emptied_32_b.2.2.2.2.2
set_option maxRecDepth 20000 in
theorem dX6_emptied_43_b : (decode cX6_emptied 43 = .ok (.if_icmp .eq 7, 3)) ∧ (decode cX6_emptied 46 = .ok (.iconst 1, 1)) ∧ (decode cX6_emptied 47 = .ok (.goto 4, 3)) ∧ (decode cX6_emptied 50 = .ok (.iconst 0, 1)) ∧ (decode cX6_emptied 51 = .ok (.istore 5, 2)) ∧ (decode cX6_emptied 53 = .ok (.iload_n 1, 1)) := by decide +kernel
theorem dX6_emptied_43 : decode cX6_emptied 43 = .ok (.if_icmp .eq 7, 3) := dX6_emptied_43_b.1
theorem dX6_emptied_46 : decode cX6_emptied 46 = .ok (.iconst 1, 1) := dX6_emptied_43_b.2.1
theorem dX6_emptied_47 : decode cX6_emptied 47 = .ok (.goto 4, 3) := dX6_emptied_43_b.2.2.1
theorem dX6_emptied_50 : decode cX6_emptied 50 = .ok (.iconst 0, 1) := dX6_emptied_43_b.2.2.2.1
theorem dX6_emptied_51 : decode cX6_emptied 51 = .ok (.istore 5, 2) := dX6_emptied_43_b.2.2.2.2.1
theorem dX6_emptied_53 : decode cX6_emptied 53 = .ok (.iload_n 1, 1) := dX6_emptied_43_b.2.2.2.2.2
set_option maxRecDepth 20000 in
theorem dX6_emptied_54_b : (decode cX6_emptied 54 = .ok (.iload_n 3, 1)) ∧ (decode cX6_emptied 55 = .ok (.invokestatic 94, 3)) ∧ (decode cX6_emptied 58 = .ok (.istore 6, 2)) ∧ (decode cX6_emptied 60 = .ok (.iconst 0, 1)) ∧ (decode cX6_emptied 61 = .ok (.istore 7, 2)) ∧ (decode cX6_emptied 63 = .ok (.iconst 0, 1)) := by decide +kernel
theorem dX6_emptied_54 : decode cX6_emptied 54 = .ok (.iload_n 3, 1) := dX6_emptied_54_b.1
theorem dX6_emptied_55 : decode cX6_emptied 55 = .ok (.invokestatic 94, 3) := dX6_emptied_54_b.2.1
theorem dX6_emptied_58 : decode cX6_emptied 58 = .ok (.istore 6, 2) := dX6_emptied_54_b.2.2.1
theorem dX6_emptied_60 : decode cX6_emptied 60 = .ok (.iconst 0, 1) := dX6_emptied_54_b.2.2.2.1
theorem dX6_emptied_61 : decode cX6_emptied 61 = .ok (.istore 7, 2) := dX6_emptied_54_b.2.2.2.2.1
theorem dX6_emptied_63 : decode cX6_emptied 63 = .ok (.iconst 0, 1) := dX6_emptied_54_b.2.2.2.2.2
set_option maxRecDepth 20000 in
theorem dX6_emptied_64_b : (decode cX6_emptied 64 = .ok (.istore 8, 2)) ∧ (decode cX6_emptied 66 = .ok (.iload 8, 2)) ∧ (decode cX6_emptied 68 = .ok (.iconst 1, 1)) ∧ (decode cX6_emptied 69 = .ok (.if_icmp .gt 45, 3)) ∧ (decode cX6_emptied 72 = .ok (.iload 6, 2)) ∧ (decode cX6_emptied 74 = .ok (.iload 8, 2)) := by decide +kernel
theorem dX6_emptied_64 : decode cX6_emptied 64 = .ok (.istore 8, 2) := dX6_emptied_64_b.1
theorem dX6_emptied_66 : decode cX6_emptied 66 = .ok (.iload 8, 2) := dX6_emptied_64_b.2.1
theorem dX6_emptied_68 : decode cX6_emptied 68 = .ok (.iconst 1, 1) := dX6_emptied_64_b.2.2.1
theorem dX6_emptied_69 : decode cX6_emptied 69 = .ok (.if_icmp .gt 45, 3) := dX6_emptied_64_b.2.2.2.1
theorem dX6_emptied_72 : decode cX6_emptied 72 = .ok (.iload 6, 2) := dX6_emptied_64_b.2.2.2.2.1
theorem dX6_emptied_74 : decode cX6_emptied 74 = .ok (.iload 8, 2) := dX6_emptied_64_b.2.2.2.2.2
set_option maxRecDepth 20000 in
theorem dX6_emptied_76_b : (decode cX6_emptied 76 = .ok (.if_icmp .eq 23, 3)) ∧ (decode cX6_emptied 79 = .ok (.iload 5, 2)) ∧ (decode cX6_emptied 81 = .ok (.ifCond .eq 27, 3)) ∧ (decode cX6_emptied 84 = .ok (.iload 4, 2)) ∧ (decode cX6_emptied 86 = .ok (.aload_n 0, 1)) ∧ (decode cX6_emptied 87 = .ok (.getfield 9, 3)) := by decide +kernel
theorem dX6_emptied_76 : decode cX6_emptied 76 = .ok (.if_icmp .eq 23, 3) := dX6_emptied_76_b.1
theorem dX6_emptied_79 : decode cX6_emptied 79 = .ok (.iload 5, 2) := dX6_emptied_76_b.2.1
theorem dX6_emptied_81 : decode cX6_emptied 81 = .ok (.ifCond .eq 27, 3) := dX6_emptied_76_b.2.2.1
theorem dX6_emptied_84 : decode cX6_emptied 84 = .ok (.iload 4, 2) := dX6_emptied_76_b.2.2.2.1
theorem dX6_emptied_86 : decode cX6_emptied 86 = .ok (.aload_n 0, 1) := dX6_emptied_76_b.2.2.2.2.1
theorem dX6_emptied_87 : decode cX6_emptied 87 = .ok (.getfield 9, 3) := dX6_emptied_76_b.2.2.2.2.2
set_option maxRecDepth 20000 in
theorem dX6_emptied_90_b : (decode cX6_emptied 90 = .ok (.iload_n 1, 1)) ∧ (decode cX6_emptied 91 = .ok (.iload 8, 2)) ∧ (decode cX6_emptied 93 = .ok (.invokevirtual 99, 3)) ∧ (decode cX6_emptied 96 = .ok (.if_icmp .ne 12, 3)) ∧ (decode cX6_emptied 99 = .ok (.iload 7, 2)) ∧ (decode cX6_emptied 101 = .ok (.iconst 1, 1)) := by decide +kernel
theorem dX6_emptied_90 : decode cX6_emptied 90 = .ok (.iload_n 1, 1) := dX6_emptied_90_b.1
theorem dX6_emptied_91 : decode cX6_emptied 91 = .ok (.iload 8, 2) := dX6_emptied_90_b.2.1
theorem dX6_emptied_93 : decode cX6_emptied 93 = .ok (.invokevirtual 99, 3) := dX6_emptied_90_b.2.2.1
theorem dX6_emptied_96 : decode cX6_emptied 96 = .ok (.if_icmp .ne 12, 3) := dX6_emptied_90_b.2.2.2.1
theorem dX6_emptied_99 : decode cX6_emptied 99 = .ok (.iload 7, 2) := dX6_emptied_90_b.2.2.2.2.1
theorem dX6_emptied_101 : decode cX6_emptied 101 = .ok (.iconst 1, 1) := dX6_emptied_90_b.2.2.2.2.2
set_option maxRecDepth 20000 in
theorem dX6_emptied_102_b : (decode cX6_emptied 102 = .ok (.iload 8, 2)) ∧ (decode cX6_emptied 104 = .ok (.ishl, 1)) ∧ (decode cX6_emptied 105 = .ok (.ior, 1)) ∧ (decode cX6_emptied 106 = .ok (.istore 7, 2)) ∧ (decode cX6_emptied 108 = .ok (.iinc 8 1, 3)) ∧ (decode cX6_emptied 111 = .ok (.goto (-45), 3)) := by decide +kernel
theorem dX6_emptied_102 : decode cX6_emptied 102 = .ok (.iload 8, 2) := dX6_emptied_102_b.1
theorem dX6_emptied_104 : decode cX6_emptied 104 = .ok (.ishl, 1) := dX6_emptied_102_b.2.1
theorem dX6_emptied_105 : decode cX6_emptied 105 = .ok (.ior, 1) := dX6_emptied_102_b.2.2.1
theorem dX6_emptied_106 : decode cX6_emptied 106 = .ok (.istore 7, 2) := dX6_emptied_102_b.2.2.2.1
theorem dX6_emptied_108 : decode cX6_emptied 108 = .ok (.iinc 8 1, 3) := dX6_emptied_102_b.2.2.2.2.1
theorem dX6_emptied_111 : decode cX6_emptied 111 = .ok (.goto (-45), 3) := dX6_emptied_102_b.2.2.2.2.2
set_option maxRecDepth 20000 in
theorem dX6_emptied_114_b : (decode cX6_emptied 114 = .ok (.aload_n 0, 1)) ∧ (decode cX6_emptied 115 = .ok (.getfield 54, 3)) ∧ (decode cX6_emptied 118 = .ok (.iload_n 3, 1)) ∧ (decode cX6_emptied 119 = .ok (.iload 7, 2)) ∧ (decode cX6_emptied 121 = .ok (.iastore, 1)) ∧ (decode cX6_emptied 122 = .ok (.iload_n 2, 1)) := by decide +kernel
theorem dX6_emptied_114 : decode cX6_emptied 114 = .ok (.aload_n 0, 1) := dX6_emptied_114_b.1
theorem dX6_emptied_115 : decode cX6_emptied 115 = .ok (.getfield 54, 3) := dX6_emptied_114_b.2.1
theorem dX6_emptied_118 : decode cX6_emptied 118 = .ok (.iload_n 3, 1) := dX6_emptied_114_b.2.2.1
theorem dX6_emptied_119 : decode cX6_emptied 119 = .ok (.iload 7, 2) := dX6_emptied_114_b.2.2.2.1
theorem dX6_emptied_121 : decode cX6_emptied 121 = .ok (.iastore, 1) := dX6_emptied_114_b.2.2.2.2.1
theorem dX6_emptied_122 : decode cX6_emptied 122 = .ok (.iload_n 2, 1) := dX6_emptied_114_b.2.2.2.2.2
set_option maxRecDepth 20000 in
theorem dX6_emptied_123_b : (decode cX6_emptied 123 = .ok (.iload_n 3, 1)) ∧ (decode cX6_emptied 124 = .ok (.aload_n 0, 1)) ∧ (decode cX6_emptied 125 = .ok (.getfield 9, 3)) ∧ (decode cX6_emptied 128 = .ok (.iload_n 1, 1)) ∧ (decode cX6_emptied 129 = .ok (.iload_n 3, 1)) ∧ (decode cX6_emptied 130 = .ok (.invokevirtual 102, 3)) := by decide +kernel
theorem dX6_emptied_123 : decode cX6_emptied 123 = .ok (.iload_n 3, 1) := dX6_emptied_123_b.1
theorem dX6_emptied_124 : decode cX6_emptied 124 = .ok (.aload_n 0, 1) := dX6_emptied_123_b.2.1
theorem dX6_emptied_125 : decode cX6_emptied 125 = .ok (.getfield 9, 3) := dX6_emptied_123_b.2.2.1
theorem dX6_emptied_128 : decode cX6_emptied 128 = .ok (.iload_n 1, 1) := dX6_emptied_123_b.2.2.2.1
theorem dX6_emptied_129 : decode cX6_emptied 129 = .ok (.iload_n 3, 1) := dX6_emptied_123_b.2.2.2.2.1
theorem dX6_emptied_130 : decode cX6_emptied 130 = .ok (.invokevirtual 102, 3) := dX6_emptied_123_b.2.2.2.2.2
set_option maxRecDepth 20000 in
theorem dX6_emptied_133_b : (decode cX6_emptied 133 = .ok (.invokestatic 105, 3)) ∧ (decode cX6_emptied 136 = .ok (.istore_n 2, 1)) ∧ (decode cX6_emptied 137 = .ok (.iinc 3 1, 3)) ∧ (decode cX6_emptied 140 = .ok (.goto (-136), 3)) ∧ (decode cX6_emptied 143 = .ok (.iload_n 2, 1)) ∧ (decode cX6_emptied 144 = .ok (.ireturn, 1)) := by decide +kernel
theorem dX6_emptied_133 : decode cX6_emptied 133 = .ok (.invokestatic 105, 3) := dX6_emptied_133_b.1
theorem dX6_emptied_136 : decode cX6_emptied 136 = .ok (.istore_n 2, 1) := dX6_emptied_133_b.2.1
theorem dX6_emptied_137 : decode cX6_emptied 137 = .ok (.iinc 3 1, 3) := dX6_emptied_133_b.2.2.1
theorem dX6_emptied_140 : decode cX6_emptied 140 = .ok (.goto (-136), 3) := dX6_emptied_133_b.2.2.2.1
theorem dX6_emptied_143 : decode cX6_emptied 143 = .ok (.iload_n 2, 1) := dX6_emptied_133_b.2.2.2.2.1
theorem dX6_emptied_144 : decode cX6_emptied 144 = .ok (.ireturn, 1) := dX6_emptied_133_b.2.2.2.2.2
set_option maxRecDepth 20000 in
theorem dX6_lade_0_b : (decode cX6_lade 0 = .ok (.aload_n 0, 1)) ∧ (decode cX6_lade 1 = .ok (.getfield 19, 3)) ∧ (decode cX6_lade 4 = .ok (.ifCond .eq 4, 3)) ∧ (decode cX6_lade 7 = .ok (.return_, 1)) ∧ (decode cX6_lade 8 = .ok (.iload_n 1, 1)) ∧ (decode cX6_lade 9 = .ok (.aload_n 0, 1)) := by decide +kernel
theorem dX6_lade_0 : decode cX6_lade 0 = .ok (.aload_n 0, 1) := dX6_lade_0_b.1
theorem dX6_lade_1 : decode cX6_lade 1 = .ok (.getfield 19, 3) := dX6_lade_0_b.2.1
theorem dX6_lade_4 : decode cX6_lade 4 = .ok (.ifCond .eq 4, 3) := dX6_lade_0_b.2.2.1
theorem dX6_lade_7 : decode cX6_lade 7 = .ok (.return_, 1) := dX6_lade_0_b.2.2.2.1
theorem dX6_lade_8 : decode cX6_lade 8 = .ok (.iload_n 1, 1) := dX6_lade_0_b.2.2.2.2.1
theorem dX6_lade_9 : decode cX6_lade 9 = .ok (.aload_n 0, 1) := dX6_lade_0_b.2.2.2.2.2
set_option maxRecDepth 20000 in
theorem dX6_lade_10_b : (decode cX6_lade 10 = .ok (.getfield 9, 3)) ∧ (decode cX6_lade 13 = .ok (.getfield 82, 3)) ∧ (decode cX6_lade 16 = .ok (.if_icmp .ge 9, 3)) ∧ (decode cX6_lade 19 = .ok (.iload_n 1, 1)) ∧ (decode cX6_lade 20 = .ok (.bipush 7, 2)) ∧ (decode cX6_lade 22 = .ok (.if_icmp .lt 15, 3)) := by decide +kernel
theorem dX6_lade_10 : decode cX6_lade 10 = .ok (.getfield 9, 3) := dX6_lade_10_b.1
theorem dX6_lade_13 : decode cX6_lade 13 = .ok (.getfield 82, 3) := dX6_lade_10_b.2.1
theorem dX6_lade_16 : decode cX6_lade 16 = .ok (.if_icmp .ge 9, 3) := dX6_lade_10_b.2.2.1
theorem dX6_lade_19 : decode cX6_lade 19 = .ok (.iload_n 1, 1) := dX6_lade_10_b.2.2.2.1
theorem dX6_lade_20 : decode cX6_lade 20 = .ok (.bipush 7, 2) := dX6_lade_10_b.2.2.2.2.1
theorem dX6_lade_22 : decode cX6_lade 22 = .ok (.if_icmp .lt 15, 3) := dX6_lade_10_b.2.2.2.2.2
set_option maxRecDepth 20000 in
theorem dX6_lade_25_b : (decode cX6_lade 25 = .ok (.aload_n 0, 1)) ∧ (decode cX6_lade 26 = .ok (.iload_n 2, 1)) ∧ (decode cX6_lade 27 = .ok (.iload_n 3, 1)) ∧ (decode cX6_lade 28 = .ok (.iload 4, 2)) ∧ (decode cX6_lade 30 = .ok (.iload 5, 2)) ∧ (decode cX6_lade 32 = .ok (.isub, 1)) := by decide +kernel
theorem dX6_lade_25 : decode cX6_lade 25 = .ok (.aload_n 0, 1) := dX6_lade_25_b.1
theorem dX6_lade_26 : decode cX6_lade 26 = .ok (.iload_n 2, 1) := dX6_lade_25_b.2.1
theorem dX6_lade_27 : decode cX6_lade 27 = .ok (.iload_n 3, 1) := dX6_lade_25_b.2.2.1
theorem dX6_lade_28 : decode cX6_lade 28 = .ok (.iload 4, 2) := dX6_lade_25_b.2.2.2.1
theorem dX6_lade_30 : decode cX6_lade 30 = .ok (.iload 5, 2) := dX6_lade_25_b.2.2.2.2.1
theorem dX6_lade_32 : decode cX6_lade 32 = .ok (.isub, 1) := dX6_lade_25_b.2.2.2.2.2
set_option maxRecDepth 20000 in
theorem dX6_lade_33_b : (decode cX6_lade 33 = .ok (.invokevirtual 109, 3)) ∧ (decode cX6_lade 36 = .ok (.return_, 1)) ∧ (decode cX6_lade 37 = .ok (.aload_n 0, 1)) ∧ (decode cX6_lade 38 = .ok (.iload_n 1, 1)) ∧ (decode cX6_lade 39 = .ok (.iconst 1, 1)) ∧ (decode cX6_lade 40 = .ok (.iadd, 1)) := by decide +kernel
theorem dX6_lade_33 : decode cX6_lade 33 = .ok (.invokevirtual 109, 3) := dX6_lade_33_b.1
theorem dX6_lade_36 : decode cX6_lade 36 = .ok (.return_, 1) := dX6_lade_33_b.2.1
theorem dX6_lade_37 : decode cX6_lade 37 = .ok (.aload_n 0, 1) := dX6_lade_33_b.2.2.1
theorem dX6_lade_38 : decode cX6_lade 38 = .ok (.iload_n 1, 1) := dX6_lade_33_b.2.2.2.1
theorem dX6_lade_39 : decode cX6_lade 39 = .ok (.iconst 1, 1) := dX6_lade_33_b.2.2.2.2.1
theorem dX6_lade_40 : decode cX6_lade 40 = .ok (.iadd, 1) := dX6_lade_33_b.2.2.2.2.2
set_option maxRecDepth 20000 in
theorem dX6_lade_41_b : (decode cX6_lade 41 = .ok (.iload_n 2, 1)) ∧ (decode cX6_lade 42 = .ok (.iload_n 3, 1)) ∧ (decode cX6_lade 43 = .ok (.iload 4, 2)) ∧ (decode cX6_lade 45 = .ok (.iload 5, 2)) ∧ (decode cX6_lade 47 = .ok (.invokevirtual 78, 3)) ∧ (decode cX6_lade 50 = .ok (.aload_n 0, 1)) := by decide +kernel
theorem dX6_lade_41 : decode cX6_lade 41 = .ok (.iload_n 2, 1) := dX6_lade_41_b.1
theorem dX6_lade_42 : decode cX6_lade 42 = .ok (.iload_n 3, 1) := dX6_lade_41_b.2.1
theorem dX6_lade_43 : decode cX6_lade 43 = .ok (.iload 4, 2) := dX6_lade_41_b.2.2.1
theorem dX6_lade_45 : decode cX6_lade 45 = .ok (.iload 5, 2) := dX6_lade_41_b.2.2.2.1
theorem dX6_lade_47 : decode cX6_lade 47 = .ok (.invokevirtual 78, 3) := dX6_lade_41_b.2.2.2.2.1
theorem dX6_lade_50 : decode cX6_lade 50 = .ok (.aload_n 0, 1) := dX6_lade_41_b.2.2.2.2.2
set_option maxRecDepth 20000 in
theorem dX6_lade_51_b : (decode cX6_lade 51 = .ok (.getfield 9, 3)) ∧ (decode cX6_lade 54 = .ok (.getfield 113, 3)) ∧ (decode cX6_lade 57 = .ok (.iload_n 1, 1)) ∧ (decode cX6_lade 58 = .ok (.iaload, 1)) ∧ (decode cX6_lade 59 = .ok (.istore 6, 2)) ∧ (decode cX6_lade 61 = .ok (.aload_n 0, 1)) := by decide +kernel
theorem dX6_lade_51 : decode cX6_lade 51 = .ok (.getfield 9, 3) := dX6_lade_51_b.1
theorem dX6_lade_54 : decode cX6_lade 54 = .ok (.getfield 113, 3) := dX6_lade_51_b.2.1
theorem dX6_lade_57 : decode cX6_lade 57 = .ok (.iload_n 1, 1) := dX6_lade_51_b.2.2.1
theorem dX6_lade_58 : decode cX6_lade 58 = .ok (.iaload, 1) := dX6_lade_51_b.2.2.2.1
theorem dX6_lade_59 : decode cX6_lade 59 = .ok (.istore 6, 2) := dX6_lade_51_b.2.2.2.2.1
theorem dX6_lade_61 : decode cX6_lade 61 = .ok (.aload_n 0, 1) := dX6_lade_51_b.2.2.2.2.2
set_option maxRecDepth 20000 in
theorem dX6_lade_62_b : (decode cX6_lade 62 = .ok (.getfield 54, 3)) ∧ (decode cX6_lade 65 = .ok (.iload_n 1, 1)) ∧ (decode cX6_lade 66 = .ok (.iaload, 1)) ∧ (decode cX6_lade 67 = .ok (.iconst 1, 1)) ∧ (decode cX6_lade 68 = .ok (.iand, 1)) ∧ (decode cX6_lade 69 = .ok (.ifCond .eq 50, 3)) := by decide +kernel
theorem dX6_lade_62 : decode cX6_lade 62 = .ok (.getfield 54, 3) := dX6_lade_62_b.1
theorem dX6_lade_65 : decode cX6_lade 65 = .ok (.iload_n 1, 1) := dX6_lade_62_b.2.1
theorem dX6_lade_66 : decode cX6_lade 66 = .ok (.iaload, 1) := dX6_lade_62_b.2.2.1
theorem dX6_lade_67 : decode cX6_lade 67 = .ok (.iconst 1, 1) := dX6_lade_62_b.2.2.2.1
theorem dX6_lade_68 : decode cX6_lade 68 = .ok (.iand, 1) := dX6_lade_62_b.2.2.2.2.1
theorem dX6_lade_69 : decode cX6_lade 69 = .ok (.ifCond .eq 50, 3) := dX6_lade_62_b.2.2.2.2.2
set_option maxRecDepth 20000 in
theorem dX6_lade_72_b : (decode cX6_lade 72 = .ok (.iload 4, 2)) ∧ (decode cX6_lade 74 = .ok (.iload 6, 2)) ∧ (decode cX6_lade 76 = .ok (.iadd, 1)) ∧ (decode cX6_lade 77 = .ok (.aload_n 0, 1)) ∧ (decode cX6_lade 78 = .ok (.getfield 9, 3)) ∧ (decode cX6_lade 81 = .ok (.getfield 116, 3)) := by decide +kernel
theorem dX6_lade_72 : decode cX6_lade 72 = .ok (.iload 4, 2) := dX6_lade_72_b.1
theorem dX6_lade_74 : decode cX6_lade 74 = .ok (.iload 6, 2) := dX6_lade_72_b.2.1
theorem dX6_lade_76 : decode cX6_lade 76 = .ok (.iadd, 1) := dX6_lade_72_b.2.2.1
theorem dX6_lade_77 : decode cX6_lade 77 = .ok (.aload_n 0, 1) := dX6_lade_72_b.2.2.2.1
theorem dX6_lade_78 : decode cX6_lade 78 = .ok (.getfield 9, 3) := dX6_lade_72_b.2.2.2.2.1
theorem dX6_lade_81 : decode cX6_lade 81 = .ok (.getfield 116, 3) := dX6_lade_72_b.2.2.2.2.2
set_option maxRecDepth 20000 in
theorem dX6_lade_84_b : (decode cX6_lade 84 = .ok (.if_icmp .gt 35, 3)) ∧ (decode cX6_lade 87 = .ok (.iload_n 2, 1)) ∧ (decode cX6_lade 88 = .ok (.iload_n 1, 1)) ∧ (decode cX6_lade 89 = .ok (.bipush 12, 2)) ∧ (decode cX6_lade 91 = .ok (.invokestatic 105, 3)) ∧ (decode cX6_lade 94 = .ok (.istore 7, 2)) := by decide +kernel
theorem dX6_lade_84 : decode cX6_lade 84 = .ok (.if_icmp .gt 35, 3) := dX6_lade_84_b.1
theorem dX6_lade_87 : decode cX6_lade 87 = .ok (.iload_n 2, 1) := dX6_lade_84_b.2.1
theorem dX6_lade_88 : decode cX6_lade 88 = .ok (.iload_n 1, 1) := dX6_lade_84_b.2.2.1
theorem dX6_lade_89 : decode cX6_lade 89 = .ok (.bipush 12, 2) := dX6_lade_84_b.2.2.2.1
theorem dX6_lade_91 : decode cX6_lade 91 = .ok (.invokestatic 105, 3) := dX6_lade_84_b.2.2.2.2.1
theorem dX6_lade_94 : decode cX6_lade 94 = .ok (.istore 7, 2) := dX6_lade_84_b.2.2.2.2.2
set_option maxRecDepth 20000 in
theorem dX6_lade_96_b : (decode cX6_lade 96 = .ok (.aload_n 0, 1)) ∧ (decode cX6_lade 97 = .ok (.iload_n 1, 1)) ∧ (decode cX6_lade 98 = .ok (.iconst 1, 1)) ∧ (decode cX6_lade 99 = .ok (.iadd, 1)) ∧ (decode cX6_lade 100 = .ok (.iload 7, 2)) ∧ (decode cX6_lade 102 = .ok (.iload_n 3, 1)) := by decide +kernel
theorem dX6_lade_96 : decode cX6_lade 96 = .ok (.aload_n 0, 1) := dX6_lade_96_b.1
theorem dX6_lade_97 : decode cX6_lade 97 = .ok (.iload_n 1, 1) := dX6_lade_96_b.2.1
theorem dX6_lade_98 : decode cX6_lade 98 = .ok (.iconst 1, 1) := dX6_lade_96_b.2.2.1
theorem dX6_lade_99 : decode cX6_lade 99 = .ok (.iadd, 1) := dX6_lade_96_b.2.2.2.1
theorem dX6_lade_100 : decode cX6_lade 100 = .ok (.iload 7, 2) := dX6_lade_96_b.2.2.2.2.1
theorem dX6_lade_102 : decode cX6_lade 102 = .ok (.iload_n 3, 1) := dX6_lade_96_b.2.2.2.2.2
set_option maxRecDepth 20000 in
theorem dX6_lade_103_b : (decode cX6_lade 103 = .ok (.getstatic 119, 3)) ∧ (decode cX6_lade 106 = .ok (.iload_n 1, 1)) ∧ (decode cX6_lade 107 = .ok (.iaload, 1)) ∧ (decode cX6_lade 108 = .ok (.iadd, 1)) ∧ (decode cX6_lade 109 = .ok (.iload 4, 2)) ∧ (decode cX6_lade 111 = .ok (.iload 6, 2)) := by decide +kernel
theorem dX6_lade_103 : decode cX6_lade 103 = .ok (.getstatic 119, 3) := dX6_lade_103_b.1
theorem dX6_lade_106 : decode cX6_lade 106 = .ok (.iload_n 1, 1) := dX6_lade_103_b.2.1
theorem dX6_lade_107 : decode cX6_lade 107 = .ok (.iaload, 1) := dX6_lade_103_b.2.2.1
theorem dX6_lade_108 : decode cX6_lade 108 = .ok (.iadd, 1) := dX6_lade_103_b.2.2.2.1
theorem dX6_lade_109 : decode cX6_lade 109 = .ok (.iload 4, 2) := dX6_lade_103_b.2.2.2.2.1
theorem dX6_lade_111 : decode cX6_lade 111 = .ok (.iload 6, 2) := dX6_lade_103_b.2.2.2.2.2
set_option maxRecDepth 20000 in
theorem dX6_lade_113_b : (decode cX6_lade 113 = .ok (.iadd, 1)) ∧ (decode cX6_lade 114 = .ok (.iload 5, 2)) ∧ (decode cX6_lade 116 = .ok (.invokevirtual 78, 3)) ∧ (decode cX6_lade 119 = .ok (.aload_n 0, 1)) ∧ (decode cX6_lade 120 = .ok (.getfield 54, 3)) ∧ (decode cX6_lade 123 = .ok (.iload_n 1, 1)) := by decide +kernel
theorem dX6_lade_113 : decode cX6_lade 113 = .ok (.iadd, 1) := dX6_lade_113_b.1
theorem dX6_lade_114 : decode cX6_lade 114 = .ok (.iload 5, 2) := dX6_lade_113_b.2.1
theorem dX6_lade_116 : decode cX6_lade 116 = .ok (.invokevirtual 78, 3) := dX6_lade_113_b.2.2.1
theorem dX6_lade_119 : decode cX6_lade 119 = .ok (.aload_n 0, 1) := dX6_lade_113_b.2.2.2.1
theorem dX6_lade_120 : decode cX6_lade 120 = .ok (.getfield 54, 3) := dX6_lade_113_b.2.2.2.2.1
theorem dX6_lade_123 : decode cX6_lade 123 = .ok (.iload_n 1, 1) := dX6_lade_113_b.2.2.2.2.2
set_option maxRecDepth 20000 in
theorem dX6_lade_124_b : (decode cX6_lade 124 = .ok (.iaload, 1)) ∧ (decode cX6_lade 125 = .ok (.iconst 2, 1)) ∧ (decode cX6_lade 126 = .ok (.iand, 1)) ∧ (decode cX6_lade 127 = .ok (.ifCond .eq 52, 3)) ∧ (decode cX6_lade 130 = .ok (.iload 5, 2)) ∧ (decode cX6_lade 132 = .ok (.iload 6, 2)) := by decide +kernel
theorem dX6_lade_124 : decode cX6_lade 124 = .ok (.iaload, 1) := dX6_lade_124_b.1
theorem dX6_lade_125 : decode cX6_lade 125 = .ok (.iconst 2, 1) := dX6_lade_124_b.2.1
theorem dX6_lade_126 : decode cX6_lade 126 = .ok (.iand, 1) := dX6_lade_124_b.2.2.1
theorem dX6_lade_127 : decode cX6_lade 127 = .ok (.ifCond .eq 52, 3) := dX6_lade_124_b.2.2.2.1
theorem dX6_lade_130 : decode cX6_lade 130 = .ok (.iload 5, 2) := dX6_lade_124_b.2.2.2.2.1
theorem dX6_lade_132 : decode cX6_lade 132 = .ok (.iload 6, 2) := dX6_lade_124_b.2.2.2.2.2
set_option maxRecDepth 20000 in
theorem dX6_lade_134_b : (decode cX6_lade 134 = .ok (.iadd, 1)) ∧ (decode cX6_lade 135 = .ok (.aload_n 0, 1)) ∧ (decode cX6_lade 136 = .ok (.getfield 9, 3)) ∧ (decode cX6_lade 139 = .ok (.getfield 116, 3)) ∧ (decode cX6_lade 142 = .ok (.if_icmp .gt 37, 3)) ∧ (decode cX6_lade 145 = .ok (.iload_n 2, 1)) := by decide +kernel
theorem dX6_lade_134 : decode cX6_lade 134 = .ok (.iadd, 1) := dX6_lade_134_b.1
theorem dX6_lade_135 : decode cX6_lade 135 = .ok (.aload_n 0, 1) := dX6_lade_134_b.2.1
theorem dX6_lade_136 : decode cX6_lade 136 = .ok (.getfield 9, 3) := dX6_lade_134_b.2.2.1
theorem dX6_lade_139 : decode cX6_lade 139 = .ok (.getfield 116, 3) := dX6_lade_134_b.2.2.2.1
theorem dX6_lade_142 : decode cX6_lade 142 = .ok (.if_icmp .gt 37, 3) := dX6_lade_134_b.2.2.2.2.1
theorem dX6_lade_145 : decode cX6_lade 145 = .ok (.iload_n 2, 1) := dX6_lade_134_b.2.2.2.2.2
set_option maxRecDepth 20000 in
theorem dX6_lade_146_b : (decode cX6_lade 146 = .ok (.iload_n 1, 1)) ∧ (decode cX6_lade 147 = .ok (.bipush 13, 2)) ∧ (decode cX6_lade 149 = .ok (.invokestatic 105, 3)) ∧ (decode cX6_lade 152 = .ok (.istore 7, 2)) ∧ (decode cX6_lade 154 = .ok (.aload_n 0, 1)) ∧ (decode cX6_lade 155 = .ok (.iload_n 1, 1)) := by decide +kernel
theorem dX6_lade_146 : decode cX6_lade 146 = .ok (.iload_n 1, 1) := dX6_lade_146_b.1
theorem dX6_lade_147 : decode cX6_lade 147 = .ok (.bipush 13, 2) := dX6_lade_146_b.2.1
theorem dX6_lade_149 : decode cX6_lade 149 = .ok (.invokestatic 105, 3) := dX6_lade_146_b.2.2.1
theorem dX6_lade_152 : decode cX6_lade 152 = .ok (.istore 7, 2) := dX6_lade_146_b.2.2.2.1
theorem dX6_lade_154 : decode cX6_lade 154 = .ok (.aload_n 0, 1) := dX6_lade_146_b.2.2.2.2.1
theorem dX6_lade_155 : decode cX6_lade 155 = .ok (.iload_n 1, 1) := dX6_lade_146_b.2.2.2.2.2
set_option maxRecDepth 20000 in
theorem dX6_lade_156_b : (decode cX6_lade 156 = .ok (.iconst 1, 1)) ∧ (decode cX6_lade 157 = .ok (.iadd, 1)) ∧ (decode cX6_lade 158 = .ok (.iload 7, 2)) ∧ (decode cX6_lade 160 = .ok (.iload_n 3, 1)) ∧ (decode cX6_lade 161 = .ok (.iconst 2, 1)) ∧ (decode cX6_lade 162 = .ok (.getstatic 119, 3)) := by decide +kernel
theorem dX6_lade_156 : decode cX6_lade 156 = .ok (.iconst 1, 1) := dX6_lade_156_b.1
theorem dX6_lade_157 : decode cX6_lade 157 = .ok (.iadd, 1) := dX6_lade_156_b.2.1
theorem dX6_lade_158 : decode cX6_lade 158 = .ok (.iload 7, 2) := dX6_lade_156_b.2.2.1
theorem dX6_lade_160 : decode cX6_lade 160 = .ok (.iload_n 3, 1) := dX6_lade_156_b.2.2.2.1
theorem dX6_lade_161 : decode cX6_lade 161 = .ok (.iconst 2, 1) := dX6_lade_156_b.2.2.2.2.1
theorem dX6_lade_162 : decode cX6_lade 162 = .ok (.getstatic 119, 3) := dX6_lade_156_b.2.2.2.2.2
set_option maxRecDepth 20000 in
theorem dX6_lade_165_b : (decode cX6_lade 165 = .ok (.iload_n 1, 1)) ∧ (decode cX6_lade 166 = .ok (.iaload, 1)) ∧ (decode cX6_lade 167 = .ok (.imul, 1)) ∧ (decode cX6_lade 168 = .ok (.iadd, 1)) ∧ (decode cX6_lade 169 = .ok (.iload 4, 2)) ∧ (decode cX6_lade 171 = .ok (.iload 5, 2)) := by decide +kernel
theorem dX6_lade_165 : decode cX6_lade 165 = .ok (.iload_n 1, 1) := dX6_lade_165_b.1
theorem dX6_lade_166 : decode cX6_lade 166 = .ok (.iaload, 1) := dX6_lade_165_b.2.1
theorem dX6_lade_167 : decode cX6_lade 167 = .ok (.imul, 1) := dX6_lade_165_b.2.2.1
theorem dX6_lade_168 : decode cX6_lade 168 = .ok (.iadd, 1) := dX6_lade_165_b.2.2.2.1
theorem dX6_lade_169 : decode cX6_lade 169 = .ok (.iload 4, 2) := dX6_lade_165_b.2.2.2.2.1
theorem dX6_lade_171 : decode cX6_lade 171 = .ok (.iload 5, 2) := dX6_lade_165_b.2.2.2.2.2
set_option maxRecDepth 20000 in
theorem dX6_lade_173_b : (decode cX6_lade 173 = .ok (.iload 6, 2)) ∧ (decode cX6_lade 175 = .ok (.iadd, 1)) ∧ (decode cX6_lade 176 = .ok (.invokevirtual 78, 3)) ∧ (decode cX6_lade 179 = .ok (.return_, 1)) := by decide +kernel
theorem dX6_lade_173 : decode cX6_lade 173 = .ok (.iload 6, 2) := dX6_lade_173_b.1
theorem dX6_lade_175 : decode cX6_lade 175 = .ok (.iadd, 1) := dX6_lade_173_b.2.1
theorem dX6_lade_176 : decode cX6_lade 176 = .ok (.invokevirtual 78, 3) := dX6_lade_173_b.2.2.1
theorem dX6_lade_179 : decode cX6_lade 179 = .ok (.return_, 1) := dX6_lade_173_b.2.2.2
set_option maxRecDepth 20000 in
theorem dX6_depart_0_b : (decode cX6_depart 0 = .ok (.iload_n 2, 1)) ∧ (decode cX6_depart 1 = .ok (.bipush 12, 2)) ∧ (decode cX6_depart 3 = .ok (.imul, 1)) ∧ (decode cX6_depart 4 = .ok (.iload_n 1, 1)) ∧ (decode cX6_depart 5 = .ok (.invokestatic 122, 3)) ∧ (decode cX6_depart 8 = .ok (.iadd, 1)) := by decide +kernel
theorem dX6_depart_0 : decode cX6_depart 0 = .ok (.iload_n 2, 1) := dX6_depart_0_b.1
theorem dX6_depart_1 : decode cX6_depart 1 = .ok (.bipush 12, 2) := dX6_depart_0_b.2.1
theorem dX6_depart_3 : decode cX6_depart 3 = .ok (.imul, 1) := dX6_depart_0_b.2.2.1
theorem dX6_depart_4 : decode cX6_depart 4 = .ok (.iload_n 1, 1) := dX6_depart_0_b.2.2.2.1
theorem dX6_depart_5 : decode cX6_depart 5 = .ok (.invokestatic 122, 3) := dX6_depart_0_b.2.2.2.2.1
theorem dX6_depart_8 : decode cX6_depart 8 = .ok (.iadd, 1) := dX6_depart_0_b.2.2.2.2.2
set_option maxRecDepth 20000 in
theorem dX6_depart_9_b : (decode cX6_depart 9 = .ok (.istore 4, 2)) ∧ (decode cX6_depart 11 = .ok (.iload 4, 2)) ∧ (decode cX6_depart 13 = .ok (.iconst 4, 1)) ∧ (decode cX6_depart 14 = .ok (.ishr, 1)) ∧ (decode cX6_depart 15 = .ok (.istore 5, 2)) ∧ (decode cX6_depart 17 = .ok (.iconst 2, 1)) := by decide +kernel
theorem dX6_depart_9 : decode cX6_depart 9 = .ok (.istore 4, 2) := dX6_depart_9_b.1
theorem dX6_depart_11 : decode cX6_depart 11 = .ok (.iload 4, 2) := dX6_depart_9_b.2.1
theorem dX6_depart_13 : decode cX6_depart 13 = .ok (.iconst 4, 1) := dX6_depart_9_b.2.2.1
theorem dX6_depart_14 : decode cX6_depart 14 = .ok (.ishr, 1) := dX6_depart_9_b.2.2.2.1
theorem dX6_depart_15 : decode cX6_depart 15 = .ok (.istore 5, 2) := dX6_depart_9_b.2.2.2.2.1
theorem dX6_depart_17 : decode cX6_depart 17 = .ok (.iconst 2, 1) := dX6_depart_9_b.2.2.2.2.2
set_option maxRecDepth 20000 in
theorem dX6_depart_18_b : (decode cX6_depart 18 = .ok (.iload 4, 2)) ∧ (decode cX6_depart 20 = .ok (.bipush 15, 2)) ∧ (decode cX6_depart 22 = .ok (.iand, 1)) ∧ (decode cX6_depart 23 = .ok (.imul, 1)) ∧ (decode cX6_depart 24 = .ok (.istore 6, 2)) ∧ (decode cX6_depart 26 = .ok (.iload 5, 2)) := by decide +kernel
theorem dX6_depart_18 : decode cX6_depart 18 = .ok (.iload 4, 2) := dX6_depart_18_b.1
theorem dX6_depart_20 : decode cX6_depart 20 = .ok (.bipush 15, 2) := dX6_depart_18_b.2.1
theorem dX6_depart_22 : decode cX6_depart 22 = .ok (.iand, 1) := dX6_depart_18_b.2.2.1
theorem dX6_depart_23 : decode cX6_depart 23 = .ok (.imul, 1) := dX6_depart_18_b.2.2.2.1
theorem dX6_depart_24 : decode cX6_depart 24 = .ok (.istore 6, 2) := dX6_depart_18_b.2.2.2.2.1
theorem dX6_depart_26 : decode cX6_depart 26 = .ok (.iload 5, 2) := dX6_depart_18_b.2.2.2.2.2
set_option maxRecDepth 20000 in
theorem dX6_depart_28_b : (decode cX6_depart 28 = .ok (.aload_n 0, 1)) ∧ (decode cX6_depart 29 = .ok (.getfield 57, 3)) ∧ (decode cX6_depart 32 = .ok (.arraylength, 1)) ∧ (decode cX6_depart 33 = .ok (.if_icmp .lt 4, 3)) ∧ (decode cX6_depart 36 = .ok (.return_, 1)) ∧ (decode cX6_depart 37 = .ok (.aload_n 0, 1)) := by decide +kernel
theorem dX6_depart_28 : decode cX6_depart 28 = .ok (.aload_n 0, 1) := dX6_depart_28_b.1
theorem dX6_depart_29 : decode cX6_depart 29 = .ok (.getfield 57, 3) := dX6_depart_28_b.2.1
theorem dX6_depart_32 : decode cX6_depart 32 = .ok (.arraylength, 1) := dX6_depart_28_b.2.2.1
theorem dX6_depart_33 : decode cX6_depart 33 = .ok (.if_icmp .lt 4, 3) := dX6_depart_28_b.2.2.2.1
theorem dX6_depart_36 : decode cX6_depart 36 = .ok (.return_, 1) := dX6_depart_28_b.2.2.2.2.1
theorem dX6_depart_37 : decode cX6_depart 37 = .ok (.aload_n 0, 1) := dX6_depart_28_b.2.2.2.2.2
set_option maxRecDepth 20000 in
theorem dX6_depart_38_b : (decode cX6_depart 38 = .ok (.getfield 57, 3)) ∧ (decode cX6_depart 41 = .ok (.iload 5, 2)) ∧ (decode cX6_depart 43 = .ok (.iaload, 1)) ∧ (decode cX6_depart 44 = .ok (.iload 6, 2)) ∧ (decode cX6_depart 46 = .ok (.iushr, 1)) ∧ (decode cX6_depart 47 = .ok (.iconst 1, 1)) := by decide +kernel
theorem dX6_depart_38 : decode cX6_depart 38 = .ok (.getfield 57, 3) := dX6_depart_38_b.1
theorem dX6_depart_41 : decode cX6_depart 41 = .ok (.iload 5, 2) := dX6_depart_38_b.2.1
theorem dX6_depart_43 : decode cX6_depart 43 = .ok (.iaload, 1) := dX6_depart_38_b.2.2.1
theorem dX6_depart_44 : decode cX6_depart 44 = .ok (.iload 6, 2) := dX6_depart_38_b.2.2.2.1
theorem dX6_depart_46 : decode cX6_depart 46 = .ok (.iushr, 1) := dX6_depart_38_b.2.2.2.2.1
theorem dX6_depart_47 : decode cX6_depart 47 = .ok (.iconst 1, 1) := dX6_depart_38_b.2.2.2.2.2
set_option maxRecDepth 20000 in
theorem dX6_depart_48_b : (decode cX6_depart 48 = .ok (.iand, 1)) ∧ (decode cX6_depart 49 = .ok (.ifCond .ne 59, 3)) ∧ (decode cX6_depart 52 = .ok (.aload_n 0, 1)) ∧ (decode cX6_depart 53 = .ok (.getfield 9, 3)) ∧ (decode cX6_depart 56 = .ok (.iload_n 1, 1)) ∧ (decode cX6_depart 57 = .ok (.iconst 0, 1)) := by decide +kernel
theorem dX6_depart_48 : decode cX6_depart 48 = .ok (.iand, 1) := dX6_depart_48_b.1
theorem dX6_depart_49 : decode cX6_depart 49 = .ok (.ifCond .ne 59, 3) := dX6_depart_48_b.2.1
theorem dX6_depart_52 : decode cX6_depart 52 = .ok (.aload_n 0, 1) := dX6_depart_48_b.2.2.1
theorem dX6_depart_53 : decode cX6_depart 53 = .ok (.getfield 9, 3) := dX6_depart_48_b.2.2.2.1
theorem dX6_depart_56 : decode cX6_depart 56 = .ok (.iload_n 1, 1) := dX6_depart_48_b.2.2.2.2.1
theorem dX6_depart_57 : decode cX6_depart 57 = .ok (.iconst 0, 1) := dX6_depart_48_b.2.2.2.2.2
set_option maxRecDepth 20000 in
theorem dX6_depart_58_b : (decode cX6_depart 58 = .ok (.invokevirtual 125, 3)) ∧ (decode cX6_depart 61 = .ok (.iconst (-1), 1)) ∧ (decode cX6_depart 62 = .ok (.if_icmp .ne 20, 3)) ∧ (decode cX6_depart 65 = .ok (.aload_n 0, 1)) ∧ (decode cX6_depart 66 = .ok (.getfield 9, 3)) ∧ (decode cX6_depart 69 = .ok (.iload_n 1, 1)) := by decide +kernel
theorem dX6_depart_58 : decode cX6_depart 58 = .ok (.invokevirtual 125, 3) := dX6_depart_58_b.1
theorem dX6_depart_61 : decode cX6_depart 61 = .ok (.iconst (-1), 1) := dX6_depart_58_b.2.1
theorem dX6_depart_62 : decode cX6_depart 62 = .ok (.if_icmp .ne 20, 3) := dX6_depart_58_b.2.2.1
theorem dX6_depart_65 : decode cX6_depart 65 = .ok (.aload_n 0, 1) := dX6_depart_58_b.2.2.2.1
theorem dX6_depart_66 : decode cX6_depart 66 = .ok (.getfield 9, 3) := dX6_depart_58_b.2.2.2.2.1
theorem dX6_depart_69 : decode cX6_depart 69 = .ok (.iload_n 1, 1) := dX6_depart_58_b.2.2.2.2.2
set_option maxRecDepth 20000 in
theorem dX6_depart_70_b : (decode cX6_depart 70 = .ok (.iconst 1, 1)) ∧ (decode cX6_depart 71 = .ok (.invokevirtual 125, 3)) ∧ (decode cX6_depart 74 = .ok (.iconst (-1), 1)) ∧ (decode cX6_depart 75 = .ok (.if_icmp .ne 7, 3)) ∧ (decode cX6_depart 78 = .ok (.iconst 1, 1)) ∧ (decode cX6_depart 79 = .ok (.goto 4, 3)) := by decide +kernel
theorem dX6_depart_70 : decode cX6_depart 70 = .ok (.iconst 1, 1) := dX6_depart_70_b.1
theorem dX6_depart_71 : decode cX6_depart 71 = .ok (.invokevirtual 125, 3) := dX6_depart_70_b.2.1
theorem dX6_depart_74 : decode cX6_depart 74 = .ok (.iconst (-1), 1) := dX6_depart_70_b.2.2.1
theorem dX6_depart_75 : decode cX6_depart 75 = .ok (.if_icmp .ne 7, 3) := dX6_depart_70_b.2.2.2.1
theorem dX6_depart_78 : decode cX6_depart 78 = .ok (.iconst 1, 1) := dX6_depart_70_b.2.2.2.2.1
theorem dX6_depart_79 : decode cX6_depart 79 = .ok (.goto 4, 3) := dX6_depart_70_b.2.2.2.2.2
set_option maxRecDepth 20000 in
theorem dX6_depart_82_b : (decode cX6_depart 82 = .ok (.iconst 0, 1)) ∧ (decode cX6_depart 83 = .ok (.istore 7, 2)) ∧ (decode cX6_depart 85 = .ok (.aload_n 0, 1)) ∧ (decode cX6_depart 86 = .ok (.getfield 57, 3)) ∧ (decode cX6_depart 89 = .ok (.iload 5, 2)) ∧ (decode cX6_depart 91 = .ok (.dup2, 1)) := by decide +kernel
theorem dX6_depart_82 : decode cX6_depart 82 = .ok (.iconst 0, 1) := dX6_depart_82_b.1
theorem dX6_depart_83 : decode cX6_depart 83 = .ok (.istore 7, 2) := dX6_depart_82_b.2.1
theorem dX6_depart_85 : decode cX6_depart 85 = .ok (.aload_n 0, 1) := dX6_depart_82_b.2.2.1
theorem dX6_depart_86 : decode cX6_depart 86 = .ok (.getfield 57, 3) := dX6_depart_82_b.2.2.2.1
theorem dX6_depart_89 : decode cX6_depart 89 = .ok (.iload 5, 2) := dX6_depart_82_b.2.2.2.2.1
theorem dX6_depart_91 : decode cX6_depart 91 = .ok (.dup2, 1) := dX6_depart_82_b.2.2.2.2.2
set_option maxRecDepth 20000 in
theorem dX6_depart_92_b : (decode cX6_depart 92 = .ok (.iaload, 1)) ∧ (decode cX6_depart 93 = .ok (.iload 7, 2)) ∧ (decode cX6_depart 95 = .ok (.ifCond .eq 7, 3)) ∧ (decode cX6_depart 98 = .ok (.iconst 3, 1)) ∧ (decode cX6_depart 99 = .ok (.goto 4, 3)) ∧ (decode cX6_depart 102 = .ok (.iconst 1, 1)) := by decide +kernel
theorem dX6_depart_92 : decode cX6_depart 92 = .ok (.iaload, 1) := dX6_depart_92_b.1
theorem dX6_depart_93 : decode cX6_depart 93 = .ok (.iload 7, 2) := dX6_depart_92_b.2.1
theorem dX6_depart_95 : decode cX6_depart 95 = .ok (.ifCond .eq 7, 3) := dX6_depart_92_b.2.2.1
theorem dX6_depart_98 : decode cX6_depart 98 = .ok (.iconst 3, 1) := dX6_depart_92_b.2.2.2.1
theorem dX6_depart_99 : decode cX6_depart 99 = .ok (.goto 4, 3) := dX6_depart_92_b.2.2.2.2.1
theorem dX6_depart_102 : decode cX6_depart 102 = .ok (.iconst 1, 1) := dX6_depart_92_b.2.2.2.2.2
set_option maxRecDepth 20000 in
theorem dX6_depart_103_b : (decode cX6_depart 103 = .ok (.iload 6, 2)) ∧ (decode cX6_depart 105 = .ok (.ishl, 1)) ∧ (decode cX6_depart 106 = .ok (.ior, 1)) ∧ (decode cX6_depart 107 = .ok (.iastore, 1)) ∧ (decode cX6_depart 108 = .ok (.aload_n 0, 1)) ∧ (decode cX6_depart 109 = .ok (.getfield 57, 3)) := by decide +kernel
theorem dX6_depart_103 : decode cX6_depart 103 = .ok (.iload 6, 2) := dX6_depart_103_b.1
theorem dX6_depart_105 : decode cX6_depart 105 = .ok (.ishl, 1) := dX6_depart_103_b.2.1
theorem dX6_depart_106 : decode cX6_depart 106 = .ok (.ior, 1) := dX6_depart_103_b.2.2.1
theorem dX6_depart_107 : decode cX6_depart 107 = .ok (.iastore, 1) := dX6_depart_103_b.2.2.2.1
theorem dX6_depart_108 : decode cX6_depart 108 = .ok (.aload_n 0, 1) := dX6_depart_103_b.2.2.2.2.1
theorem dX6_depart_109 : decode cX6_depart 109 = .ok (.getfield 57, 3) := dX6_depart_103_b.2.2.2.2.2
set_option maxRecDepth 20000 in
theorem dX6_depart_112_b : (decode cX6_depart 112 = .ok (.iload 5, 2)) ∧ (decode cX6_depart 114 = .ok (.iaload, 1)) ∧ (decode cX6_depart 115 = .ok (.iload 6, 2)) ∧ (decode cX6_depart 117 = .ok (.iushr, 1)) ∧ (decode cX6_depart 118 = .ok (.iconst 2, 1)) ∧ (decode cX6_depart 119 = .ok (.iand, 1)) := by decide +kernel
theorem dX6_depart_112 : decode cX6_depart 112 = .ok (.iload 5, 2) := dX6_depart_112_b.1
theorem dX6_depart_114 : decode cX6_depart 114 = .ok (.iaload, 1) := dX6_depart_112_b.2.1
theorem dX6_depart_115 : decode cX6_depart 115 = .ok (.iload 6, 2) := dX6_depart_112_b.2.2.1
theorem dX6_depart_117 : decode cX6_depart 117 = .ok (.iushr, 1) := dX6_depart_112_b.2.2.2.1
theorem dX6_depart_118 : decode cX6_depart 118 = .ok (.iconst 2, 1) := dX6_depart_112_b.2.2.2.2.1
theorem dX6_depart_119 : decode cX6_depart 119 = .ok (.iand, 1) := dX6_depart_112_b.2.2.2.2.2
set_option maxRecDepth 20000 in
theorem dX6_depart_120_b : (decode cX6_depart 120 = .ok (.ifCond .eq 17, 3)) ∧ (decode cX6_depart 123 = .ok (.aload_n 0, 1)) ∧ (decode cX6_depart 124 = .ok (.iload_n 1, 1)) ∧ (decode cX6_depart 125 = .ok (.iload_n 3, 1)) ∧ (decode cX6_depart 126 = .ok (.iconst 1, 1)) ∧ (decode cX6_depart 127 = .ok (.invokevirtual 128, 3)) := by decide +kernel
theorem dX6_depart_120 : decode cX6_depart 120 = .ok (.ifCond .eq 17, 3) := dX6_depart_120_b.1
theorem dX6_depart_123 : decode cX6_depart 123 = .ok (.aload_n 0, 1) := dX6_depart_120_b.2.1
theorem dX6_depart_124 : decode cX6_depart 124 = .ok (.iload_n 1, 1) := dX6_depart_120_b.2.2.1
theorem dX6_depart_125 : decode cX6_depart 125 = .ok (.iload_n 3, 1) := dX6_depart_120_b.2.2.2.1
theorem dX6_depart_126 : decode cX6_depart 126 = .ok (.iconst 1, 1) := dX6_depart_120_b.2.2.2.2.1
theorem dX6_depart_127 : decode cX6_depart 127 = .ok (.invokevirtual 128, 3) := dX6_depart_120_b.2.2.2.2.2
set_option maxRecDepth 20000 in
theorem dX6_depart_130_b : (decode cX6_depart 130 = .ok (.aload_n 0, 1)) ∧ (decode cX6_depart 131 = .ok (.iload_n 1, 1)) ∧ (decode cX6_depart 132 = .ok (.iload_n 3, 1)) ∧ (decode cX6_depart 133 = .ok (.iconst (-1), 1)) ∧ (decode cX6_depart 134 = .ok (.invokevirtual 128, 3)) ∧ (decode cX6_depart 137 = .ok (.return_, 1)) := by decide +kernel
theorem dX6_depart_130 : decode cX6_depart 130 = .ok (.aload_n 0, 1) := dX6_depart_130_b.1
theorem dX6_depart_131 : decode cX6_depart 131 = .ok (.iload_n 1, 1) := dX6_depart_130_b.2.1
theorem dX6_depart_132 : decode cX6_depart 132 = .ok (.iload_n 3, 1) := dX6_depart_130_b.2.2.1
theorem dX6_depart_133 : decode cX6_depart 133 = .ok (.iconst (-1), 1) := dX6_depart_130_b.2.2.2.1
theorem dX6_depart_134 : decode cX6_depart 134 = .ok (.invokevirtual 128, 3) := dX6_depart_130_b.2.2.2.2.1
theorem dX6_depart_137 : decode cX6_depart 137 = .ok (.return_, 1) := dX6_depart_130_b.2.2.2.2.2
set_option maxRecDepth 20000 in
theorem dX6_go_0_b : (decode cX6_go 0 = .ok (.iconst 0, 1)) ∧ (decode cX6_go 1 = .ok (.istore 4, 2)) ∧ (decode cX6_go 3 = .ok (.iload_n 1, 1)) ∧ (decode cX6_go 4 = .ok (.invokestatic 122, 3)) ∧ (decode cX6_go 7 = .ok (.istore 5, 2)) ∧ (decode cX6_go 9 = .ok (.aload_n 0, 1)) := by decide +kernel
theorem dX6_go_0 : decode cX6_go 0 = .ok (.iconst 0, 1) := dX6_go_0_b.1
theorem dX6_go_1 : decode cX6_go 1 = .ok (.istore 4, 2) := dX6_go_0_b.2.1
theorem dX6_go_3 : decode cX6_go 3 = .ok (.iload_n 1, 1) := dX6_go_0_b.2.2.1
theorem dX6_go_4 : decode cX6_go 4 = .ok (.invokestatic 122, 3) := dX6_go_0_b.2.2.2.1
theorem dX6_go_7 : decode cX6_go 7 = .ok (.istore 5, 2) := dX6_go_0_b.2.2.2.2.1
theorem dX6_go_9 : decode cX6_go 9 = .ok (.aload_n 0, 1) := dX6_go_0_b.2.2.2.2.2
set_option maxRecDepth 20000 in
theorem dX6_go_10_b : (decode cX6_go 10 = .ok (.getfield 9, 3)) ∧ (decode cX6_go 13 = .ok (.iload 5, 2)) ∧ (decode cX6_go 15 = .ok (.iload_n 3, 1)) ∧ (decode cX6_go 16 = .ok (.iadd, 1)) ∧ (decode cX6_go 17 = .ok (.invokevirtual 131, 3)) ∧ (decode cX6_go 20 = .ok (.ifCond .eq 84, 3)) := by decide +kernel
theorem dX6_go_10 : decode cX6_go 10 = .ok (.getfield 9, 3) := dX6_go_10_b.1
theorem dX6_go_13 : decode cX6_go 13 = .ok (.iload 5, 2) := dX6_go_10_b.2.1
theorem dX6_go_15 : decode cX6_go 15 = .ok (.iload_n 3, 1) := dX6_go_10_b.2.2.1
theorem dX6_go_16 : decode cX6_go 16 = .ok (.iadd, 1) := dX6_go_10_b.2.2.2.1
theorem dX6_go_17 : decode cX6_go 17 = .ok (.invokevirtual 131, 3) := dX6_go_10_b.2.2.2.2.1
theorem dX6_go_20 : decode cX6_go 20 = .ok (.ifCond .eq 84, 3) := dX6_go_10_b.2.2.2.2.2
set_option maxRecDepth 20000 in
theorem dX6_go_23_b : (decode cX6_go 23 = .ok (.aload_n 0, 1)) ∧ (decode cX6_go 24 = .ok (.getfield 9, 3)) ∧ (decode cX6_go 27 = .ok (.iload_n 2, 1)) ∧ (decode cX6_go 28 = .ok (.iload 5, 2)) ∧ (decode cX6_go 30 = .ok (.iload_n 3, 1)) ∧ (decode cX6_go 31 = .ok (.invokevirtual 135, 3)) := by decide +kernel
theorem dX6_go_23 : decode cX6_go 23 = .ok (.aload_n 0, 1) := dX6_go_23_b.1
theorem dX6_go_24 : decode cX6_go 24 = .ok (.getfield 9, 3) := dX6_go_23_b.2.1
theorem dX6_go_27 : decode cX6_go 27 = .ok (.iload_n 2, 1) := dX6_go_23_b.2.2.1
theorem dX6_go_28 : decode cX6_go 28 = .ok (.iload 5, 2) := dX6_go_23_b.2.2.2.1
theorem dX6_go_30 : decode cX6_go 30 = .ok (.iload_n 3, 1) := dX6_go_23_b.2.2.2.2.1
theorem dX6_go_31 : decode cX6_go 31 = .ok (.invokevirtual 135, 3) := dX6_go_23_b.2.2.2.2.2
set_option maxRecDepth 20000 in
theorem dX6_go_34_b : (decode cX6_go 34 = .ok (.istore 6, 2)) ∧ (decode cX6_go 36 = .ok (.aload_n 0, 1)) ∧ (decode cX6_go 37 = .ok (.getfield 15, 3)) ∧ (decode cX6_go 40 = .ok (.ifCond .ne 16, 3)) ∧ (decode cX6_go 43 = .ok (.aload_n 0, 1)) ∧ (decode cX6_go 44 = .ok (.getfield 9, 3)) := by decide +kernel
theorem dX6_go_34 : decode cX6_go 34 = .ok (.istore 6, 2) := dX6_go_34_b.1
theorem dX6_go_36 : decode cX6_go 36 = .ok (.aload_n 0, 1) := dX6_go_34_b.2.1
theorem dX6_go_37 : decode cX6_go 37 = .ok (.getfield 15, 3) := dX6_go_34_b.2.2.1
theorem dX6_go_40 : decode cX6_go 40 = .ok (.ifCond .ne 16, 3) := dX6_go_34_b.2.2.2.1
theorem dX6_go_43 : decode cX6_go 43 = .ok (.aload_n 0, 1) := dX6_go_34_b.2.2.2.2.1
theorem dX6_go_44 : decode cX6_go 44 = .ok (.getfield 9, 3) := dX6_go_34_b.2.2.2.2.2
set_option maxRecDepth 20000 in
theorem dX6_go_47_b : (decode cX6_go 47 = .ok (.iload 6, 2)) ∧ (decode cX6_go 49 = .ok (.invokevirtual 138, 3)) ∧ (decode cX6_go 52 = .ok (.ifCond .ne 4, 3)) ∧ (decode cX6_go 55 = .ok (.return_, 1)) ∧ (decode cX6_go 56 = .ok (.iload 4, 2)) ∧ (decode cX6_go 58 = .ok (.aload_n 0, 1)) := by decide +kernel
theorem dX6_go_47 : decode cX6_go 47 = .ok (.iload 6, 2) := dX6_go_47_b.1
theorem dX6_go_49 : decode cX6_go 49 = .ok (.invokevirtual 138, 3) := dX6_go_47_b.2.1
theorem dX6_go_52 : decode cX6_go 52 = .ok (.ifCond .ne 4, 3) := dX6_go_47_b.2.2.1
theorem dX6_go_55 : decode cX6_go 55 = .ok (.return_, 1) := dX6_go_47_b.2.2.2.1
theorem dX6_go_56 : decode cX6_go 56 = .ok (.iload 4, 2) := dX6_go_47_b.2.2.2.2.1
theorem dX6_go_58 : decode cX6_go 58 = .ok (.aload_n 0, 1) := dX6_go_47_b.2.2.2.2.2
set_option maxRecDepth 20000 in
theorem dX6_go_59_b : (decode cX6_go 59 = .ok (.getfield 9, 3)) ∧ (decode cX6_go 62 = .ok (.iload 6, 2)) ∧ (decode cX6_go 64 = .ok (.invokevirtual 141, 3)) ∧ (decode cX6_go 67 = .ok (.iadd, 1)) ∧ (decode cX6_go 68 = .ok (.istore 4, 2)) ∧ (decode cX6_go 70 = .ok (.aload_n 0, 1)) := by decide +kernel
theorem dX6_go_59 : decode cX6_go 59 = .ok (.getfield 9, 3) := dX6_go_59_b.1
theorem dX6_go_62 : decode cX6_go 62 = .ok (.iload 6, 2) := dX6_go_59_b.2.1
theorem dX6_go_64 : decode cX6_go 64 = .ok (.invokevirtual 141, 3) := dX6_go_59_b.2.2.1
theorem dX6_go_67 : decode cX6_go 67 = .ok (.iadd, 1) := dX6_go_59_b.2.2.2.1
theorem dX6_go_68 : decode cX6_go 68 = .ok (.istore 4, 2) := dX6_go_59_b.2.2.2.2.1
theorem dX6_go_70 : decode cX6_go 70 = .ok (.aload_n 0, 1) := dX6_go_59_b.2.2.2.2.2
set_option maxRecDepth 20000 in
theorem dX6_go_71_b : (decode cX6_go 71 = .ok (.iload_n 1, 1)) ∧ (decode cX6_go 72 = .ok (.iload 5, 2)) ∧ (decode cX6_go 74 = .ok (.iload_n 3, 1)) ∧ (decode cX6_go 75 = .ok (.iadd, 1)) ∧ (decode cX6_go 76 = .ok (.invokestatic 144, 3)) ∧ (decode cX6_go 79 = .ok (.aload_n 0, 1)) := by decide +kernel
theorem dX6_go_71 : decode cX6_go 71 = .ok (.iload_n 1, 1) := dX6_go_71_b.1
theorem dX6_go_72 : decode cX6_go 72 = .ok (.iload 5, 2) := dX6_go_71_b.2.1
theorem dX6_go_74 : decode cX6_go 74 = .ok (.iload_n 3, 1) := dX6_go_71_b.2.2.1
theorem dX6_go_75 : decode cX6_go 75 = .ok (.iadd, 1) := dX6_go_71_b.2.2.2.1
theorem dX6_go_76 : decode cX6_go 76 = .ok (.invokestatic 144, 3) := dX6_go_71_b.2.2.2.2.1
theorem dX6_go_79 : decode cX6_go 79 = .ok (.aload_n 0, 1) := dX6_go_71_b.2.2.2.2.2
set_option maxRecDepth 20000 in
theorem dX6_go_80_b : (decode cX6_go 80 = .ok (.getfield 15, 3)) ∧ (decode cX6_go 83 = .ok (.ifCond .eq 8, 3)) ∧ (decode cX6_go 86 = .ok (.iload 4, 2)) ∧ (decode cX6_go 88 = .ok (.goto 4, 3)) ∧ (decode cX6_go 91 = .ok (.iconst 1, 1)) ∧ (decode cX6_go 92 = .ok (.invokevirtual 66, 3)) := by decide +kernel
theorem dX6_go_80 : decode cX6_go 80 = .ok (.getfield 15, 3) := dX6_go_80_b.1
theorem dX6_go_83 : decode cX6_go 83 = .ok (.ifCond .eq 8, 3) := dX6_go_80_b.2.1
theorem dX6_go_86 : decode cX6_go 86 = .ok (.iload 4, 2) := dX6_go_80_b.2.2.1
theorem dX6_go_88 : decode cX6_go 88 = .ok (.goto 4, 3) := dX6_go_80_b.2.2.2.1
theorem dX6_go_91 : decode cX6_go 91 = .ok (.iconst 1, 1) := dX6_go_80_b.2.2.2.2.1
theorem dX6_go_92 : decode cX6_go 92 = .ok (.invokevirtual 66, 3) := dX6_go_80_b.2.2.2.2.2
set_option maxRecDepth 20000 in
theorem dX6_go_95_b : (decode cX6_go 95 = .ok (.iload 5, 2)) ∧ (decode cX6_go 97 = .ok (.iload_n 3, 1)) ∧ (decode cX6_go 98 = .ok (.iadd, 1)) ∧ (decode cX6_go 99 = .ok (.istore 5, 2)) ∧ (decode cX6_go 101 = .ok (.goto (-92), 3)) ∧ (decode cX6_go 104 = .ok (.return_, 1)) := by decide +kernel
theorem dX6_go_95 : decode cX6_go 95 = .ok (.iload 5, 2) := dX6_go_95_b.1
theorem dX6_go_97 : decode cX6_go 97 = .ok (.iload_n 3, 1) := dX6_go_95_b.2.1
theorem dX6_go_98 : decode cX6_go 98 = .ok (.iadd, 1) := dX6_go_95_b.2.2.1
theorem dX6_go_99 : decode cX6_go 99 = .ok (.istore 5, 2) := dX6_go_95_b.2.2.2.1
theorem dX6_go_101 : decode cX6_go 101 = .ok (.goto (-92), 3) := dX6_go_95_b.2.2.2.2.1
theorem dX6_go_104 : decode cX6_go 104 = .ok (.return_, 1) := dX6_go_95_b.2.2.2.2.2
set_option maxRecDepth 20000 in
theorem dX6_arrive_0_b : (decode cX6_arrive 0 = .ok (.aload_n 0, 1)) ∧ (decode cX6_arrive 1 = .ok (.getfield 29, 3)) ∧ (decode cX6_arrive 4 = .ok (.iconst (-1), 1)) ∧ (decode cX6_arrive 5 = .ok (.if_icmp .ne 7, 3)) ∧ (decode cX6_arrive 8 = .ok (.iconst 0, 1)) ∧ (decode cX6_arrive 9 = .ok (.goto 14, 3)) := by decide +kernel
theorem dX6_arrive_0 : decode cX6_arrive 0 = .ok (.aload_n 0, 1) := dX6_arrive_0_b.1
theorem dX6_arrive_1 : decode cX6_arrive 1 = .ok (.getfield 29, 3) := dX6_arrive_0_b.2.1
theorem dX6_arrive_4 : decode cX6_arrive 4 = .ok (.iconst (-1), 1) := dX6_arrive_0_b.2.2.1
theorem dX6_arrive_5 : decode cX6_arrive 5 = .ok (.if_icmp .ne 7, 3) := dX6_arrive_0_b.2.2.2.1
theorem dX6_arrive_8 : decode cX6_arrive 8 = .ok (.iconst 0, 1) := dX6_arrive_0_b.2.2.2.2.1
theorem dX6_arrive_9 : decode cX6_arrive 9 = .ok (.goto 14, 3) := dX6_arrive_0_b.2.2.2.2.2
set_option maxRecDepth 20000 in
theorem dX6_arrive_12_b : (decode cX6_arrive 12 = .ok (.aload_n 0, 1)) ∧ (decode cX6_arrive 13 = .ok (.getfield 36, 3)) ∧ (decode cX6_arrive 16 = .ok (.aload_n 0, 1)) ∧ (decode cX6_arrive 17 = .ok (.getfield 29, 3)) ∧ (decode cX6_arrive 20 = .ok (.iaload, 1)) ∧ (decode cX6_arrive 21 = .ok (.iload_n 2, 1)) := by decide +kernel
theorem dX6_arrive_12 : decode cX6_arrive 12 = .ok (.aload_n 0, 1) := dX6_arrive_12_b.1
theorem dX6_arrive_13 : decode cX6_arrive 13 = .ok (.getfield 36, 3) := dX6_arrive_12_b.2.1
theorem dX6_arrive_16 : decode cX6_arrive 16 = .ok (.aload_n 0, 1) := dX6_arrive_12_b.2.2.1
theorem dX6_arrive_17 : decode cX6_arrive 17 = .ok (.getfield 29, 3) := dX6_arrive_12_b.2.2.2.1
theorem dX6_arrive_20 : decode cX6_arrive 20 = .ok (.iaload, 1) := dX6_arrive_12_b.2.2.2.2.1
theorem dX6_arrive_21 : decode cX6_arrive 21 = .ok (.iload_n 2, 1) := dX6_arrive_12_b.2.2.2.2.2
set_option maxRecDepth 20000 in
theorem dX6_arrive_22_b : (decode cX6_arrive 22 = .ok (.iadd, 1)) ∧ (decode cX6_arrive 23 = .ok (.istore_n 3, 1)) ∧ (decode cX6_arrive 24 = .ok (.iload_n 1, 1)) ∧ (decode cX6_arrive 25 = .ok (.ldc 147, 2)) ∧ (decode cX6_arrive 27 = .ok (.imul, 1)) ∧ (decode cX6_arrive 28 = .ok (.bipush 22, 2)) := by decide +kernel
theorem dX6_arrive_22 : decode cX6_arrive 22 = .ok (.iadd, 1) := dX6_arrive_22_b.1
theorem dX6_arrive_23 : decode cX6_arrive 23 = .ok (.istore_n 3, 1) := dX6_arrive_22_b.2.1
theorem dX6_arrive_24 : decode cX6_arrive 24 = .ok (.iload_n 1, 1) := dX6_arrive_22_b.2.2.1
theorem dX6_arrive_25 : decode cX6_arrive 25 = .ok (.ldc 147, 2) := dX6_arrive_22_b.2.2.2.1
theorem dX6_arrive_27 : decode cX6_arrive 27 = .ok (.imul, 1) := dX6_arrive_22_b.2.2.2.2.1
theorem dX6_arrive_28 : decode cX6_arrive 28 = .ok (.bipush 22, 2) := dX6_arrive_22_b.2.2.2.2.2
set_option maxRecDepth 20000 in
theorem dX6_arrive_30_b : (decode cX6_arrive 30 = .ok (.iushr, 1)) ∧ (decode cX6_arrive 31 = .ok (.istore 4, 2)) ∧ (decode cX6_arrive 33 = .ok (.aload_n 0, 1)) ∧ (decode cX6_arrive 34 = .ok (.getfield 42, 3)) ∧ (decode cX6_arrive 37 = .ok (.iload 4, 2)) ∧ (decode cX6_arrive 39 = .ok (.iaload, 1)) := by decide +kernel
theorem dX6_arrive_30 : decode cX6_arrive 30 = .ok (.iushr, 1) := dX6_arrive_30_b.1
theorem dX6_arrive_31 : decode cX6_arrive 31 = .ok (.istore 4, 2) := dX6_arrive_30_b.2.1
theorem dX6_arrive_33 : decode cX6_arrive 33 = .ok (.aload_n 0, 1) := dX6_arrive_30_b.2.2.1
theorem dX6_arrive_34 : decode cX6_arrive 34 = .ok (.getfield 42, 3) := dX6_arrive_30_b.2.2.2.1
theorem dX6_arrive_37 : decode cX6_arrive 37 = .ok (.iload 4, 2) := dX6_arrive_30_b.2.2.2.2.1
theorem dX6_arrive_39 : decode cX6_arrive 39 = .ok (.iaload, 1) := dX6_arrive_30_b.2.2.2.2.2
set_option maxRecDepth 20000 in
theorem dX6_arrive_40_b : (decode cX6_arrive 40 = .ok (.istore 5, 2)) ∧ (decode cX6_arrive 42 = .ok (.iconst 0, 1)) ∧ (decode cX6_arrive 43 = .ok (.istore 6, 2)) ∧ (decode cX6_arrive 45 = .ok (.iload 6, 2)) ∧ (decode cX6_arrive 47 = .ok (.sipush 1500, 3)) ∧ (decode cX6_arrive 50 = .ok (.if_icmp .ge 35, 3)) := by decide +kernel
theorem dX6_arrive_40 : decode cX6_arrive 40 = .ok (.istore 5, 2) := dX6_arrive_40_b.1
theorem dX6_arrive_42 : decode cX6_arrive 42 = .ok (.iconst 0, 1) := dX6_arrive_40_b.2.1
theorem dX6_arrive_43 : decode cX6_arrive 43 = .ok (.istore 6, 2) := dX6_arrive_40_b.2.2.1
theorem dX6_arrive_45 : decode cX6_arrive 45 = .ok (.iload 6, 2) := dX6_arrive_40_b.2.2.2.1
theorem dX6_arrive_47 : decode cX6_arrive 47 = .ok (.sipush 1500, 3) := dX6_arrive_40_b.2.2.2.2.1
theorem dX6_arrive_50 : decode cX6_arrive 50 = .ok (.if_icmp .ge 35, 3) := dX6_arrive_40_b.2.2.2.2.2
set_option maxRecDepth 20000 in
theorem dX6_arrive_53_b : (decode cX6_arrive 53 = .ok (.iload 5, 2)) ∧ (decode cX6_arrive 55 = .ok (.iconst (-1), 1)) ∧ (decode cX6_arrive 56 = .ok (.if_icmp .eq 29, 3)) ∧ (decode cX6_arrive 59 = .ok (.aload_n 0, 1)) ∧ (decode cX6_arrive 60 = .ok (.getfield 32, 3)) ∧ (decode cX6_arrive 63 = .ok (.iload 5, 2)) := by decide +kernel
theorem dX6_arrive_53 : decode cX6_arrive 53 = .ok (.iload 5, 2) := dX6_arrive_53_b.1
theorem dX6_arrive_55 : decode cX6_arrive 55 = .ok (.iconst (-1), 1) := dX6_arrive_53_b.2.1
theorem dX6_arrive_56 : decode cX6_arrive 56 = .ok (.if_icmp .eq 29, 3) := dX6_arrive_53_b.2.2.1
theorem dX6_arrive_59 : decode cX6_arrive 59 = .ok (.aload_n 0, 1) := dX6_arrive_53_b.2.2.2.1
theorem dX6_arrive_60 : decode cX6_arrive 60 = .ok (.getfield 32, 3) := dX6_arrive_53_b.2.2.2.2.1
theorem dX6_arrive_63 : decode cX6_arrive 63 = .ok (.iload 5, 2) := dX6_arrive_53_b.2.2.2.2.2
set_option maxRecDepth 20000 in
theorem dX6_arrive_65_b : (decode cX6_arrive 65 = .ok (.iaload, 1)) ∧ (decode cX6_arrive 66 = .ok (.iload_n 1, 1)) ∧ (decode cX6_arrive 67 = .ok (.if_icmp .eq 18, 3)) ∧ (decode cX6_arrive 70 = .ok (.aload_n 0, 1)) ∧ (decode cX6_arrive 71 = .ok (.getfield 45, 3)) ∧ (decode cX6_arrive 74 = .ok (.iload 5, 2)) := by decide +kernel
theorem dX6_arrive_65 : decode cX6_arrive 65 = .ok (.iaload, 1) := dX6_arrive_65_b.1
theorem dX6_arrive_66 : decode cX6_arrive 66 = .ok (.iload_n 1, 1) := dX6_arrive_65_b.2.1
theorem dX6_arrive_67 : decode cX6_arrive 67 = .ok (.if_icmp .eq 18, 3) := dX6_arrive_65_b.2.2.1
theorem dX6_arrive_70 : decode cX6_arrive 70 = .ok (.aload_n 0, 1) := dX6_arrive_65_b.2.2.2.1
theorem dX6_arrive_71 : decode cX6_arrive 71 = .ok (.getfield 45, 3) := dX6_arrive_65_b.2.2.2.2.1
theorem dX6_arrive_74 : decode cX6_arrive 74 = .ok (.iload 5, 2) := dX6_arrive_65_b.2.2.2.2.2
set_option maxRecDepth 20000 in
theorem dX6_arrive_76_b : (decode cX6_arrive 76 = .ok (.iaload, 1)) ∧ (decode cX6_arrive 77 = .ok (.istore 5, 2)) ∧ (decode cX6_arrive 79 = .ok (.iinc 6 1, 3)) ∧ (decode cX6_arrive 82 = .ok (.goto (-37), 3)) ∧ (decode cX6_arrive 85 = .ok (.iload 5, 2)) ∧ (decode cX6_arrive 87 = .ok (.iconst (-1), 1)) := by decide +kernel
theorem dX6_arrive_76 : decode cX6_arrive 76 = .ok (.iaload, 1) := dX6_arrive_76_b.1
theorem dX6_arrive_77 : decode cX6_arrive 77 = .ok (.istore 5, 2) := dX6_arrive_76_b.2.1
theorem dX6_arrive_79 : decode cX6_arrive 79 = .ok (.iinc 6 1, 3) := dX6_arrive_76_b.2.2.1
theorem dX6_arrive_82 : decode cX6_arrive 82 = .ok (.goto (-37), 3) := dX6_arrive_76_b.2.2.2.1
theorem dX6_arrive_85 : decode cX6_arrive 85 = .ok (.iload 5, 2) := dX6_arrive_76_b.2.2.2.2.1
theorem dX6_arrive_87 : decode cX6_arrive 87 = .ok (.iconst (-1), 1) := dX6_arrive_76_b.2.2.2.2.2
set_option maxRecDepth 20000 in
theorem dX6_arrive_88_b : (decode cX6_arrive 88 = .ok (.if_icmp .ne 90, 3)) ∧ (decode cX6_arrive 91 = .ok (.aload_n 0, 1)) ∧ (decode cX6_arrive 92 = .ok (.getfield 22, 3)) ∧ (decode cX6_arrive 95 = .ok (.sipush 1500, 3)) ∧ (decode cX6_arrive 98 = .ok (.if_icmp .lt 9, 3)) ∧ (decode cX6_arrive 101 = .ok (.aload_n 0, 1)) := by decide +kernel
theorem dX6_arrive_88 : decode cX6_arrive 88 = .ok (.if_icmp .ne 90, 3) := dX6_arrive_88_b.1
theorem dX6_arrive_91 : decode cX6_arrive 91 = .ok (.aload_n 0, 1) := dX6_arrive_88_b.2.1
theorem dX6_arrive_92 : decode cX6_arrive 92 = .ok (.getfield 22, 3) := dX6_arrive_88_b.2.2.1
theorem dX6_arrive_95 : decode cX6_arrive 95 = .ok (.sipush 1500, 3) := dX6_arrive_88_b.2.2.2.1
theorem dX6_arrive_98 : decode cX6_arrive 98 = .ok (.if_icmp .lt 9, 3) := dX6_arrive_88_b.2.2.2.2.1
theorem dX6_arrive_101 : decode cX6_arrive 101 = .ok (.aload_n 0, 1) := dX6_arrive_88_b.2.2.2.2.2
set_option maxRecDepth 20000 in
theorem dX6_arrive_102_b : (decode cX6_arrive 102 = .ok (.iconst 1, 1)) ∧ (decode cX6_arrive 103 = .ok (.putfield 19, 3)) ∧ (decode cX6_arrive 106 = .ok (.return_, 1)) ∧ (decode cX6_arrive 107 = .ok (.aload_n 0, 1)) ∧ (decode cX6_arrive 108 = .ok (.getfield 22, 3)) ∧ (decode cX6_arrive 111 = .ok (.istore 5, 2)) := by decide +kernel
theorem dX6_arrive_102 : decode cX6_arrive 102 = .ok (.iconst 1, 1) := dX6_arrive_102_b.1
theorem dX6_arrive_103 : decode cX6_arrive 103 = .ok (.putfield 19, 3) := dX6_arrive_102_b.2.1
theorem dX6_arrive_106 : decode cX6_arrive 106 = .ok (.return_, 1) := dX6_arrive_102_b.2.2.1
theorem dX6_arrive_107 : decode cX6_arrive 107 = .ok (.aload_n 0, 1) := dX6_arrive_102_b.2.2.2.1
theorem dX6_arrive_108 : decode cX6_arrive 108 = .ok (.getfield 22, 3) := dX6_arrive_102_b.2.2.2.2.1
theorem dX6_arrive_111 : decode cX6_arrive 111 = .ok (.istore 5, 2) := dX6_arrive_102_b.2.2.2.2.2
set_option maxRecDepth 20000 in
theorem dX6_arrive_113_b : (decode cX6_arrive 113 = .ok (.aload_n 0, 1)) ∧ (decode cX6_arrive 114 = .ok (.dup, 1)) ∧ (decode cX6_arrive 115 = .ok (.getfield 22, 3)) ∧ (decode cX6_arrive 118 = .ok (.iconst 1, 1)) ∧ (decode cX6_arrive 119 = .ok (.iadd, 1)) ∧ (decode cX6_arrive 120 = .ok (.putfield 22, 3)) := by decide +kernel
theorem dX6_arrive_113 : decode cX6_arrive 113 = .ok (.aload_n 0, 1) := dX6_arrive_113_b.1
theorem dX6_arrive_114 : decode cX6_arrive 114 = .ok (.dup, 1) := dX6_arrive_113_b.2.1
theorem dX6_arrive_115 : decode cX6_arrive 115 = .ok (.getfield 22, 3) := dX6_arrive_113_b.2.2.1
theorem dX6_arrive_118 : decode cX6_arrive 118 = .ok (.iconst 1, 1) := dX6_arrive_113_b.2.2.2.1
theorem dX6_arrive_119 : decode cX6_arrive 119 = .ok (.iadd, 1) := dX6_arrive_113_b.2.2.2.2.1
theorem dX6_arrive_120 : decode cX6_arrive 120 = .ok (.putfield 22, 3) := dX6_arrive_113_b.2.2.2.2.2
set_option maxRecDepth 20000 in
theorem dX6_arrive_123_b : (decode cX6_arrive 123 = .ok (.aload_n 0, 1)) ∧ (decode cX6_arrive 124 = .ok (.getfield 32, 3)) ∧ (decode cX6_arrive 127 = .ok (.iload 5, 2)) ∧ (decode cX6_arrive 129 = .ok (.iload_n 1, 1)) ∧ (decode cX6_arrive 130 = .ok (.iastore, 1)) ∧ (decode cX6_arrive 131 = .ok (.aload_n 0, 1)) := by decide +kernel
theorem dX6_arrive_123 : decode cX6_arrive 123 = .ok (.aload_n 0, 1) := dX6_arrive_123_b.1
theorem dX6_arrive_124 : decode cX6_arrive 124 = .ok (.getfield 32, 3) := dX6_arrive_123_b.2.1
theorem dX6_arrive_127 : decode cX6_arrive 127 = .ok (.iload 5, 2) := dX6_arrive_123_b.2.2.1
theorem dX6_arrive_129 : decode cX6_arrive 129 = .ok (.iload_n 1, 1) := dX6_arrive_123_b.2.2.2.1
theorem dX6_arrive_130 : decode cX6_arrive 130 = .ok (.iastore, 1) := dX6_arrive_123_b.2.2.2.2.1
theorem dX6_arrive_131 : decode cX6_arrive 131 = .ok (.aload_n 0, 1) := dX6_arrive_123_b.2.2.2.2.2
set_option maxRecDepth 20000 in
theorem dX6_arrive_132_b : (decode cX6_arrive 132 = .ok (.getfield 45, 3)) ∧ (decode cX6_arrive 135 = .ok (.iload 5, 2)) ∧ (decode cX6_arrive 137 = .ok (.aload_n 0, 1)) ∧ (decode cX6_arrive 138 = .ok (.getfield 42, 3)) ∧ (decode cX6_arrive 141 = .ok (.iload 4, 2)) ∧ (decode cX6_arrive 143 = .ok (.iaload, 1)) := by decide +kernel
theorem dX6_arrive_132 : decode cX6_arrive 132 = .ok (.getfield 45, 3) := dX6_arrive_132_b.1
theorem dX6_arrive_135 : decode cX6_arrive 135 = .ok (.iload 5, 2) := dX6_arrive_132_b.2.1
theorem dX6_arrive_137 : decode cX6_arrive 137 = .ok (.aload_n 0, 1) := dX6_arrive_132_b.2.2.1
theorem dX6_arrive_138 : decode cX6_arrive 138 = .ok (.getfield 42, 3) := dX6_arrive_132_b.2.2.2.1
theorem dX6_arrive_141 : decode cX6_arrive 141 = .ok (.iload 4, 2) := dX6_arrive_132_b.2.2.2.2.1
theorem dX6_arrive_143 : decode cX6_arrive 143 = .ok (.iaload, 1) := dX6_arrive_132_b.2.2.2.2.2
set_option maxRecDepth 20000 in
theorem dX6_arrive_144_b : (decode cX6_arrive 144 = .ok (.iastore, 1)) ∧ (decode cX6_arrive 145 = .ok (.aload_n 0, 1)) ∧ (decode cX6_arrive 146 = .ok (.getfield 42, 3)) ∧ (decode cX6_arrive 149 = .ok (.iload 4, 2)) ∧ (decode cX6_arrive 151 = .ok (.iload 5, 2)) ∧ (decode cX6_arrive 153 = .ok (.iastore, 1)) := by decide +kernel
theorem dX6_arrive_144 : decode cX6_arrive 144 = .ok (.iastore, 1) := dX6_arrive_144_b.1
theorem dX6_arrive_145 : decode cX6_arrive 145 = .ok (.aload_n 0, 1) := dX6_arrive_144_b.2.1
theorem dX6_arrive_146 : decode cX6_arrive 146 = .ok (.getfield 42, 3) := dX6_arrive_144_b.2.2.1
theorem dX6_arrive_149 : decode cX6_arrive 149 = .ok (.iload 4, 2) := dX6_arrive_144_b.2.2.2.1
theorem dX6_arrive_151 : decode cX6_arrive 151 = .ok (.iload 5, 2) := dX6_arrive_144_b.2.2.2.2.1
theorem dX6_arrive_153 : decode cX6_arrive 153 = .ok (.iastore, 1) := dX6_arrive_144_b.2.2.2.2.2
set_option maxRecDepth 20000 in
theorem dX6_arrive_154_b : (decode cX6_arrive 154 = .ok (.aload_n 0, 1)) ∧ (decode cX6_arrive 155 = .ok (.getfield 51, 3)) ∧ (decode cX6_arrive 158 = .ok (.iload 5, 2)) ∧ (decode cX6_arrive 160 = .ok (.aload_n 0, 1)) ∧ (decode cX6_arrive 161 = .ok (.getfield 26, 3)) ∧ (decode cX6_arrive 164 = .ok (.iastore, 1)) := by decide +kernel
theorem dX6_arrive_154 : decode cX6_arrive 154 = .ok (.aload_n 0, 1) := dX6_arrive_154_b.1
theorem dX6_arrive_155 : decode cX6_arrive 155 = .ok (.getfield 51, 3) := dX6_arrive_154_b.2.1
theorem dX6_arrive_158 : decode cX6_arrive 158 = .ok (.iload 5, 2) := dX6_arrive_154_b.2.2.1
theorem dX6_arrive_160 : decode cX6_arrive 160 = .ok (.aload_n 0, 1) := dX6_arrive_154_b.2.2.2.1
theorem dX6_arrive_161 : decode cX6_arrive 161 = .ok (.getfield 26, 3) := dX6_arrive_154_b.2.2.2.2.1
theorem dX6_arrive_164 : decode cX6_arrive 164 = .ok (.iastore, 1) := dX6_arrive_154_b.2.2.2.2.2
set_option maxRecDepth 20000 in
theorem dX6_arrive_165_b : (decode cX6_arrive 165 = .ok (.aload_n 0, 1)) ∧ (decode cX6_arrive 166 = .ok (.dup, 1)) ∧ (decode cX6_arrive 167 = .ok (.getfield 26, 3)) ∧ (decode cX6_arrive 170 = .ok (.iconst 1, 1)) ∧ (decode cX6_arrive 171 = .ok (.iadd, 1)) ∧ (decode cX6_arrive 172 = .ok (.putfield 26, 3)) := by decide +kernel
theorem dX6_arrive_165 : decode cX6_arrive 165 = .ok (.aload_n 0, 1) := dX6_arrive_165_b.1
theorem dX6_arrive_166 : decode cX6_arrive 166 = .ok (.dup, 1) := dX6_arrive_165_b.2.1
theorem dX6_arrive_167 : decode cX6_arrive 167 = .ok (.getfield 26, 3) := dX6_arrive_165_b.2.2.1
theorem dX6_arrive_170 : decode cX6_arrive 170 = .ok (.iconst 1, 1) := dX6_arrive_165_b.2.2.2.1
theorem dX6_arrive_171 : decode cX6_arrive 171 = .ok (.iadd, 1) := dX6_arrive_165_b.2.2.2.2.1
theorem dX6_arrive_172 : decode cX6_arrive 172 = .ok (.putfield 26, 3) := dX6_arrive_165_b.2.2.2.2.2
set_option maxRecDepth 20000 in
theorem dX6_arrive_175_b : (decode cX6_arrive 175 = .ok (.goto 15, 3)) ∧ (decode cX6_arrive 178 = .ok (.iload_n 3, 1)) ∧ (decode cX6_arrive 179 = .ok (.aload_n 0, 1)) ∧ (decode cX6_arrive 180 = .ok (.getfield 36, 3)) ∧ (decode cX6_arrive 183 = .ok (.iload 5, 2)) ∧ (decode cX6_arrive 185 = .ok (.iaload, 1)) := by decide +kernel
theorem dX6_arrive_175 : decode cX6_arrive 175 = .ok (.goto 15, 3) := dX6_arrive_175_b.1
theorem dX6_arrive_178 : decode cX6_arrive 178 = .ok (.iload_n 3, 1) := dX6_arrive_175_b.2.1
theorem dX6_arrive_179 : decode cX6_arrive 179 = .ok (.aload_n 0, 1) := dX6_arrive_175_b.2.2.1
theorem dX6_arrive_180 : decode cX6_arrive 180 = .ok (.getfield 36, 3) := dX6_arrive_175_b.2.2.2.1
theorem dX6_arrive_183 : decode cX6_arrive 183 = .ok (.iload 5, 2) := dX6_arrive_175_b.2.2.2.2.1
theorem dX6_arrive_185 : decode cX6_arrive 185 = .ok (.iaload, 1) := dX6_arrive_175_b.2.2.2.2.2
set_option maxRecDepth 20000 in
theorem dX6_arrive_186_b : (decode cX6_arrive 186 = .ok (.if_icmp .lt 4, 3)) ∧ (decode cX6_arrive 189 = .ok (.return_, 1)) ∧ (decode cX6_arrive 190 = .ok (.aload_n 0, 1)) ∧ (decode cX6_arrive 191 = .ok (.getfield 36, 3)) ∧ (decode cX6_arrive 194 = .ok (.iload 5, 2)) ∧ (decode cX6_arrive 196 = .ok (.iload_n 3, 1)) := by decide +kernel
theorem dX6_arrive_186 : decode cX6_arrive 186 = .ok (.if_icmp .lt 4, 3) := dX6_arrive_186_b.1
theorem dX6_arrive_189 : decode cX6_arrive 189 = .ok (.return_, 1) := dX6_arrive_186_b.2.1
theorem dX6_arrive_190 : decode cX6_arrive 190 = .ok (.aload_n 0, 1) := dX6_arrive_186_b.2.2.1
theorem dX6_arrive_191 : decode cX6_arrive 191 = .ok (.getfield 36, 3) := dX6_arrive_186_b.2.2.2.1
theorem dX6_arrive_194 : decode cX6_arrive 194 = .ok (.iload 5, 2) := dX6_arrive_186_b.2.2.2.2.1
theorem dX6_arrive_196 : decode cX6_arrive 196 = .ok (.iload_n 3, 1) := dX6_arrive_186_b.2.2.2.2.2
set_option maxRecDepth 20000 in
theorem dX6_arrive_197_b : (decode cX6_arrive 197 = .ok (.iastore, 1)) ∧ (decode cX6_arrive 198 = .ok (.aload_n 0, 1)) ∧ (decode cX6_arrive 199 = .ok (.getfield 39, 3)) ∧ (decode cX6_arrive 202 = .ok (.iload 5, 2)) ∧ (decode cX6_arrive 204 = .ok (.aload_n 0, 1)) ∧ (decode cX6_arrive 205 = .ok (.getfield 29, 3)) := by decide +kernel
theorem dX6_arrive_197 : decode cX6_arrive 197 = .ok (.iastore, 1) := dX6_arrive_197_b.1
theorem dX6_arrive_198 : decode cX6_arrive 198 = .ok (.aload_n 0, 1) := dX6_arrive_197_b.2.1
theorem dX6_arrive_199 : decode cX6_arrive 199 = .ok (.getfield 39, 3) := dX6_arrive_197_b.2.2.1
theorem dX6_arrive_202 : decode cX6_arrive 202 = .ok (.iload 5, 2) := dX6_arrive_197_b.2.2.2.1
theorem dX6_arrive_204 : decode cX6_arrive 204 = .ok (.aload_n 0, 1) := dX6_arrive_197_b.2.2.2.2.1
theorem dX6_arrive_205 : decode cX6_arrive 205 = .ok (.getfield 29, 3) := dX6_arrive_197_b.2.2.2.2.2
set_option maxRecDepth 20000 in
theorem dX6_arrive_208_b : (decode cX6_arrive 208 = .ok (.iastore, 1)) ∧ (decode cX6_arrive 209 = .ok (.aload_n 0, 1)) ∧ (decode cX6_arrive 210 = .ok (.iload 5, 2)) ∧ (decode cX6_arrive 212 = .ok (.invokevirtual 148, 3)) ∧ (decode cX6_arrive 215 = .ok (.return_, 1)) := by decide +kernel
theorem dX6_arrive_208 : decode cX6_arrive 208 = .ok (.iastore, 1) := dX6_arrive_208_b.1
theorem dX6_arrive_209 : decode cX6_arrive 209 = .ok (.aload_n 0, 1) := dX6_arrive_208_b.2.1
theorem dX6_arrive_210 : decode cX6_arrive 210 = .ok (.iload 5, 2) := dX6_arrive_208_b.2.2.1
theorem dX6_arrive_212 : decode cX6_arrive 212 = .ok (.invokevirtual 148, 3) := dX6_arrive_208_b.2.2.2.1
theorem dX6_arrive_215 : decode cX6_arrive 215 = .ok (.return_, 1) := dX6_arrive_208_b.2.2.2.2
set_option maxRecDepth 20000 in
theorem dX6_raise_0_b : (decode cX6_raise 0 = .ok (.aload_n 0, 1)) ∧ (decode cX6_raise 1 = .ok (.getfield 51, 3)) ∧ (decode cX6_raise 4 = .ok (.iload_n 1, 1)) ∧ (decode cX6_raise 5 = .ok (.iaload, 1)) ∧ (decode cX6_raise 6 = .ok (.istore_n 2, 1)) ∧ (decode cX6_raise 7 = .ok (.iconst 0, 1)) := by decide +kernel
theorem dX6_raise_0 : decode cX6_raise 0 = .ok (.aload_n 0, 1) := dX6_raise_0_b.1
theorem dX6_raise_1 : decode cX6_raise 1 = .ok (.getfield 51, 3) := dX6_raise_0_b.2.1
theorem dX6_raise_4 : decode cX6_raise 4 = .ok (.iload_n 1, 1) := dX6_raise_0_b.2.2.1
theorem dX6_raise_5 : decode cX6_raise 5 = .ok (.iaload, 1) := dX6_raise_0_b.2.2.2.1
theorem dX6_raise_6 : decode cX6_raise 6 = .ok (.istore_n 2, 1) := dX6_raise_0_b.2.2.2.2.1
theorem dX6_raise_7 : decode cX6_raise 7 = .ok (.iconst 0, 1) := dX6_raise_0_b.2.2.2.2.2
set_option maxRecDepth 20000 in
theorem dX6_raise_8_b : (decode cX6_raise 8 = .ok (.istore_n 3, 1)) ∧ (decode cX6_raise 9 = .ok (.iload_n 3, 1)) ∧ (decode cX6_raise 10 = .ok (.sipush 1500, 3)) ∧ (decode cX6_raise 13 = .ok (.if_icmp .ge 66, 3)) ∧ (decode cX6_raise 16 = .ok (.iload_n 2, 1)) ∧ (decode cX6_raise 17 = .ok (.ifCond .le 62, 3)) := by decide +kernel
theorem dX6_raise_8 : decode cX6_raise 8 = .ok (.istore_n 3, 1) := dX6_raise_8_b.1
theorem dX6_raise_9 : decode cX6_raise 9 = .ok (.iload_n 3, 1) := dX6_raise_8_b.2.1
theorem dX6_raise_10 : decode cX6_raise 10 = .ok (.sipush 1500, 3) := dX6_raise_8_b.2.2.1
theorem dX6_raise_13 : decode cX6_raise 13 = .ok (.if_icmp .ge 66, 3) := dX6_raise_8_b.2.2.2.1
theorem dX6_raise_16 : decode cX6_raise 16 = .ok (.iload_n 2, 1) := dX6_raise_8_b.2.2.2.2.1
theorem dX6_raise_17 : decode cX6_raise 17 = .ok (.ifCond .le 62, 3) := dX6_raise_8_b.2.2.2.2.2
set_option maxRecDepth 20000 in
theorem dX6_raise_20_b : (decode cX6_raise 20 = .ok (.aload_n 0, 1)) ∧ (decode cX6_raise 21 = .ok (.getfield 48, 3)) ∧ (decode cX6_raise 24 = .ok (.iload_n 2, 1)) ∧ (decode cX6_raise 25 = .ok (.iconst 1, 1)) ∧ (decode cX6_raise 26 = .ok (.isub, 1)) ∧ (decode cX6_raise 27 = .ok (.iconst 2, 1)) := by decide +kernel
theorem dX6_raise_20 : decode cX6_raise 20 = .ok (.aload_n 0, 1) := dX6_raise_20_b.1
theorem dX6_raise_21 : decode cX6_raise 21 = .ok (.getfield 48, 3) := dX6_raise_20_b.2.1
theorem dX6_raise_24 : decode cX6_raise 24 = .ok (.iload_n 2, 1) := dX6_raise_20_b.2.2.1
theorem dX6_raise_25 : decode cX6_raise 25 = .ok (.iconst 1, 1) := dX6_raise_20_b.2.2.2.1
theorem dX6_raise_26 : decode cX6_raise 26 = .ok (.isub, 1) := dX6_raise_20_b.2.2.2.2.1
theorem dX6_raise_27 : decode cX6_raise 27 = .ok (.iconst 2, 1) := dX6_raise_20_b.2.2.2.2.2
set_option maxRecDepth 20000 in
theorem dX6_raise_28_b : (decode cX6_raise 28 = .ok (.idiv, 1)) ∧ (decode cX6_raise 29 = .ok (.iaload, 1)) ∧ (decode cX6_raise 30 = .ok (.istore 4, 2)) ∧ (decode cX6_raise 32 = .ok (.aload_n 0, 1)) ∧ (decode cX6_raise 33 = .ok (.getfield 36, 3)) ∧ (decode cX6_raise 36 = .ok (.iload 4, 2)) := by decide +kernel
theorem dX6_raise_28 : decode cX6_raise 28 = .ok (.idiv, 1) := dX6_raise_28_b.1
theorem dX6_raise_29 : decode cX6_raise 29 = .ok (.iaload, 1) := dX6_raise_28_b.2.1
theorem dX6_raise_30 : decode cX6_raise 30 = .ok (.istore 4, 2) := dX6_raise_28_b.2.2.1
theorem dX6_raise_32 : decode cX6_raise 32 = .ok (.aload_n 0, 1) := dX6_raise_28_b.2.2.2.1
theorem dX6_raise_33 : decode cX6_raise 33 = .ok (.getfield 36, 3) := dX6_raise_28_b.2.2.2.2.1
theorem dX6_raise_36 : decode cX6_raise 36 = .ok (.iload 4, 2) := dX6_raise_28_b.2.2.2.2.2
set_option maxRecDepth 20000 in
theorem dX6_raise_38_b : (decode cX6_raise 38 = .ok (.iaload, 1)) ∧ (decode cX6_raise 39 = .ok (.aload_n 0, 1)) ∧ (decode cX6_raise 40 = .ok (.getfield 36, 3)) ∧ (decode cX6_raise 43 = .ok (.iload_n 1, 1)) ∧ (decode cX6_raise 44 = .ok (.iaload, 1)) ∧ (decode cX6_raise 45 = .ok (.if_icmp .gt 6, 3)) := by decide +kernel
theorem dX6_raise_38 : decode cX6_raise 38 = .ok (.iaload, 1) := dX6_raise_38_b.1
theorem dX6_raise_39 : decode cX6_raise 39 = .ok (.aload_n 0, 1) := dX6_raise_38_b.2.1
theorem dX6_raise_40 : decode cX6_raise 40 = .ok (.getfield 36, 3) := dX6_raise_38_b.2.2.1
theorem dX6_raise_43 : decode cX6_raise 43 = .ok (.iload_n 1, 1) := dX6_raise_38_b.2.2.2.1
theorem dX6_raise_44 : decode cX6_raise 44 = .ok (.iaload, 1) := dX6_raise_38_b.2.2.2.2.1
theorem dX6_raise_45 : decode cX6_raise 45 = .ok (.if_icmp .gt 6, 3) := dX6_raise_38_b.2.2.2.2.2
set_option maxRecDepth 20000 in
theorem dX6_raise_48_b : (decode cX6_raise 48 = .ok (.goto 31, 3)) ∧ (decode cX6_raise 51 = .ok (.aload_n 0, 1)) ∧ (decode cX6_raise 52 = .ok (.getfield 48, 3)) ∧ (decode cX6_raise 55 = .ok (.iload_n 2, 1)) ∧ (decode cX6_raise 56 = .ok (.iload 4, 2)) ∧ (decode cX6_raise 58 = .ok (.iastore, 1)) := by decide +kernel
theorem dX6_raise_48 : decode cX6_raise 48 = .ok (.goto 31, 3) := dX6_raise_48_b.1
theorem dX6_raise_51 : decode cX6_raise 51 = .ok (.aload_n 0, 1) := dX6_raise_48_b.2.1
theorem dX6_raise_52 : decode cX6_raise 52 = .ok (.getfield 48, 3) := dX6_raise_48_b.2.2.1
theorem dX6_raise_55 : decode cX6_raise 55 = .ok (.iload_n 2, 1) := dX6_raise_48_b.2.2.2.1
theorem dX6_raise_56 : decode cX6_raise 56 = .ok (.iload 4, 2) := dX6_raise_48_b.2.2.2.2.1
theorem dX6_raise_58 : decode cX6_raise 58 = .ok (.iastore, 1) := dX6_raise_48_b.2.2.2.2.2
set_option maxRecDepth 20000 in
theorem dX6_raise_59_b : (decode cX6_raise 59 = .ok (.aload_n 0, 1)) ∧ (decode cX6_raise 60 = .ok (.getfield 51, 3)) ∧ (decode cX6_raise 63 = .ok (.iload 4, 2)) ∧ (decode cX6_raise 65 = .ok (.iload_n 2, 1)) ∧ (decode cX6_raise 66 = .ok (.iastore, 1)) ∧ (decode cX6_raise 67 = .ok (.iload_n 2, 1)) := by decide +kernel
theorem dX6_raise_59 : decode cX6_raise 59 = .ok (.aload_n 0, 1) := dX6_raise_59_b.1
theorem dX6_raise_60 : decode cX6_raise 60 = .ok (.getfield 51, 3) := dX6_raise_59_b.2.1
theorem dX6_raise_63 : decode cX6_raise 63 = .ok (.iload 4, 2) := dX6_raise_59_b.2.2.1
theorem dX6_raise_65 : decode cX6_raise 65 = .ok (.iload_n 2, 1) := dX6_raise_59_b.2.2.2.1
theorem dX6_raise_66 : decode cX6_raise 66 = .ok (.iastore, 1) := dX6_raise_59_b.2.2.2.2.1
theorem dX6_raise_67 : decode cX6_raise 67 = .ok (.iload_n 2, 1) := dX6_raise_59_b.2.2.2.2.2
set_option maxRecDepth 20000 in
theorem dX6_raise_68_b : (decode cX6_raise 68 = .ok (.iconst 1, 1)) ∧ (decode cX6_raise 69 = .ok (.isub, 1)) ∧ (decode cX6_raise 70 = .ok (.iconst 2, 1)) ∧ (decode cX6_raise 71 = .ok (.idiv, 1)) ∧ (decode cX6_raise 72 = .ok (.istore_n 2, 1)) ∧ (decode cX6_raise 73 = .ok (.iinc 3 1, 3)) := by decide +kernel
theorem dX6_raise_68 : decode cX6_raise 68 = .ok (.iconst 1, 1) := dX6_raise_68_b.1
theorem dX6_raise_69 : decode cX6_raise 69 = .ok (.isub, 1) := dX6_raise_68_b.2.1
theorem dX6_raise_70 : decode cX6_raise 70 = .ok (.iconst 2, 1) := dX6_raise_68_b.2.2.1
theorem dX6_raise_71 : decode cX6_raise 71 = .ok (.idiv, 1) := dX6_raise_68_b.2.2.2.1
theorem dX6_raise_72 : decode cX6_raise 72 = .ok (.istore_n 2, 1) := dX6_raise_68_b.2.2.2.2.1
theorem dX6_raise_73 : decode cX6_raise 73 = .ok (.iinc 3 1, 3) := dX6_raise_68_b.2.2.2.2.2
set_option maxRecDepth 20000 in
theorem dX6_raise_76_b : (decode cX6_raise 76 = .ok (.goto (-67), 3)) ∧ (decode cX6_raise 79 = .ok (.aload_n 0, 1)) ∧ (decode cX6_raise 80 = .ok (.getfield 48, 3)) ∧ (decode cX6_raise 83 = .ok (.iload_n 2, 1)) ∧ (decode cX6_raise 84 = .ok (.iload_n 1, 1)) ∧ (decode cX6_raise 85 = .ok (.iastore, 1)) := by decide +kernel
theorem dX6_raise_76 : decode cX6_raise 76 = .ok (.goto (-67), 3) := dX6_raise_76_b.1
theorem dX6_raise_79 : decode cX6_raise 79 = .ok (.aload_n 0, 1) := dX6_raise_76_b.2.1
theorem dX6_raise_80 : decode cX6_raise 80 = .ok (.getfield 48, 3) := dX6_raise_76_b.2.2.1
theorem dX6_raise_83 : decode cX6_raise 83 = .ok (.iload_n 2, 1) := dX6_raise_76_b.2.2.2.1
theorem dX6_raise_84 : decode cX6_raise 84 = .ok (.iload_n 1, 1) := dX6_raise_76_b.2.2.2.2.1
theorem dX6_raise_85 : decode cX6_raise 85 = .ok (.iastore, 1) := dX6_raise_76_b.2.2.2.2.2
set_option maxRecDepth 20000 in
theorem dX6_raise_86_b : (decode cX6_raise 86 = .ok (.aload_n 0, 1)) ∧ (decode cX6_raise 87 = .ok (.getfield 51, 3)) ∧ (decode cX6_raise 90 = .ok (.iload_n 1, 1)) ∧ (decode cX6_raise 91 = .ok (.iload_n 2, 1)) ∧ (decode cX6_raise 92 = .ok (.iastore, 1)) ∧ (decode cX6_raise 93 = .ok (.return_, 1)) := by decide +kernel
theorem dX6_raise_86 : decode cX6_raise 86 = .ok (.aload_n 0, 1) := dX6_raise_86_b.1
theorem dX6_raise_87 : decode cX6_raise 87 = .ok (.getfield 51, 3) := dX6_raise_86_b.2.1
theorem dX6_raise_90 : decode cX6_raise 90 = .ok (.iload_n 1, 1) := dX6_raise_86_b.2.2.1
theorem dX6_raise_91 : decode cX6_raise 91 = .ok (.iload_n 2, 1) := dX6_raise_86_b.2.2.2.1
theorem dX6_raise_92 : decode cX6_raise 92 = .ok (.iastore, 1) := dX6_raise_86_b.2.2.2.2.1
theorem dX6_raise_93 : decode cX6_raise 93 = .ok (.return_, 1) := dX6_raise_86_b.2.2.2.2.2
set_option maxRecDepth 20000 in
theorem dX6_takeCheapest_0_b : (decode cX6_takeCheapest 0 = .ok (.aload_n 0, 1)) ∧ (decode cX6_takeCheapest 1 = .ok (.getfield 48, 3)) ∧ (decode cX6_takeCheapest 4 = .ok (.iconst 0, 1)) ∧ (decode cX6_takeCheapest 5 = .ok (.iaload, 1)) ∧ (decode cX6_takeCheapest 6 = .ok (.istore_n 1, 1)) ∧ (decode cX6_takeCheapest 7 = .ok (.aload_n 0, 1)) := by decide +kernel
theorem dX6_takeCheapest_0 : decode cX6_takeCheapest 0 = .ok (.aload_n 0, 1) := dX6_takeCheapest_0_b.1
theorem dX6_takeCheapest_1 : decode cX6_takeCheapest 1 = .ok (.getfield 48, 3) := dX6_takeCheapest_0_b.2.1
theorem dX6_takeCheapest_4 : decode cX6_takeCheapest 4 = .ok (.iconst 0, 1) := dX6_takeCheapest_0_b.2.2.1
theorem dX6_takeCheapest_5 : decode cX6_takeCheapest 5 = .ok (.iaload, 1) := dX6_takeCheapest_0_b.2.2.2.1
theorem dX6_takeCheapest_6 : decode cX6_takeCheapest 6 = .ok (.istore_n 1, 1) := dX6_takeCheapest_0_b.2.2.2.2.1
theorem dX6_takeCheapest_7 : decode cX6_takeCheapest 7 = .ok (.aload_n 0, 1) := dX6_takeCheapest_0_b.2.2.2.2.2
set_option maxRecDepth 20000 in
theorem dX6_takeCheapest_8_b : (decode cX6_takeCheapest 8 = .ok (.dup, 1)) ∧ (decode cX6_takeCheapest 9 = .ok (.getfield 26, 3)) ∧ (decode cX6_takeCheapest 12 = .ok (.iconst 1, 1)) ∧ (decode cX6_takeCheapest 13 = .ok (.isub, 1)) ∧ (decode cX6_takeCheapest 14 = .ok (.putfield 26, 3)) ∧ (decode cX6_takeCheapest 17 = .ok (.aload_n 0, 1)) := by decide +kernel
theorem dX6_takeCheapest_8 : decode cX6_takeCheapest 8 = .ok (.dup, 1) := dX6_takeCheapest_8_b.1
theorem dX6_takeCheapest_9 : decode cX6_takeCheapest 9 = .ok (.getfield 26, 3) := dX6_takeCheapest_8_b.2.1
theorem dX6_takeCheapest_12 : decode cX6_takeCheapest 12 = .ok (.iconst 1, 1) := dX6_takeCheapest_8_b.2.2.1
theorem dX6_takeCheapest_13 : decode cX6_takeCheapest 13 = .ok (.isub, 1) := dX6_takeCheapest_8_b.2.2.2.1
theorem dX6_takeCheapest_14 : decode cX6_takeCheapest 14 = .ok (.putfield 26, 3) := dX6_takeCheapest_8_b.2.2.2.2.1
theorem dX6_takeCheapest_17 : decode cX6_takeCheapest 17 = .ok (.aload_n 0, 1) := dX6_takeCheapest_8_b.2.2.2.2.2
set_option maxRecDepth 20000 in
theorem dX6_takeCheapest_18_b : (decode cX6_takeCheapest 18 = .ok (.getfield 48, 3)) ∧ (decode cX6_takeCheapest 21 = .ok (.aload_n 0, 1)) ∧ (decode cX6_takeCheapest 22 = .ok (.getfield 26, 3)) ∧ (decode cX6_takeCheapest 25 = .ok (.iaload, 1)) ∧ (decode cX6_takeCheapest 26 = .ok (.istore_n 2, 1)) ∧ (decode cX6_takeCheapest 27 = .ok (.iconst 0, 1)) := by decide +kernel
theorem dX6_takeCheapest_18 : decode cX6_takeCheapest 18 = .ok (.getfield 48, 3) := dX6_takeCheapest_18_b.1
theorem dX6_takeCheapest_21 : decode cX6_takeCheapest 21 = .ok (.aload_n 0, 1) := dX6_takeCheapest_18_b.2.1
theorem dX6_takeCheapest_22 : decode cX6_takeCheapest 22 = .ok (.getfield 26, 3) := dX6_takeCheapest_18_b.2.2.1
theorem dX6_takeCheapest_25 : decode cX6_takeCheapest 25 = .ok (.iaload, 1) := dX6_takeCheapest_18_b.2.2.2.1
theorem dX6_takeCheapest_26 : decode cX6_takeCheapest 26 = .ok (.istore_n 2, 1) := dX6_takeCheapest_18_b.2.2.2.2.1
theorem dX6_takeCheapest_27 : decode cX6_takeCheapest 27 = .ok (.iconst 0, 1) := dX6_takeCheapest_18_b.2.2.2.2.2
set_option maxRecDepth 20000 in
theorem dX6_takeCheapest_28_b : (decode cX6_takeCheapest 28 = .ok (.istore_n 3, 1)) ∧ (decode cX6_takeCheapest 29 = .ok (.iconst 0, 1)) ∧ (decode cX6_takeCheapest 30 = .ok (.istore 4, 2)) ∧ (decode cX6_takeCheapest 32 = .ok (.iload 4, 2)) ∧ (decode cX6_takeCheapest 34 = .ok (.sipush 1500, 3)) ∧ (decode cX6_takeCheapest 37 = .ok (.if_icmp .ge 123, 3)) := by decide +kernel
theorem dX6_takeCheapest_28 : decode cX6_takeCheapest 28 = .ok (.istore_n 3, 1) := dX6_takeCheapest_28_b.1
theorem dX6_takeCheapest_29 : decode cX6_takeCheapest 29 = .ok (.iconst 0, 1) := dX6_takeCheapest_28_b.2.1
theorem dX6_takeCheapest_30 : decode cX6_takeCheapest 30 = .ok (.istore 4, 2) := dX6_takeCheapest_28_b.2.2.1
theorem dX6_takeCheapest_32 : decode cX6_takeCheapest 32 = .ok (.iload 4, 2) := dX6_takeCheapest_28_b.2.2.2.1
theorem dX6_takeCheapest_34 : decode cX6_takeCheapest 34 = .ok (.sipush 1500, 3) := dX6_takeCheapest_28_b.2.2.2.2.1
theorem dX6_takeCheapest_37 : decode cX6_takeCheapest 37 = .ok (.if_icmp .ge 123, 3) := dX6_takeCheapest_28_b.2.2.2.2.2
set_option maxRecDepth 20000 in
theorem dX6_takeCheapest_40_b : (decode cX6_takeCheapest 40 = .ok (.iconst 2, 1)) ∧ (decode cX6_takeCheapest 41 = .ok (.iload_n 3, 1)) ∧ (decode cX6_takeCheapest 42 = .ok (.imul, 1)) ∧ (decode cX6_takeCheapest 43 = .ok (.iconst 1, 1)) ∧ (decode cX6_takeCheapest 44 = .ok (.iadd, 1)) ∧ (decode cX6_takeCheapest 45 = .ok (.aload_n 0, 1)) := by decide +kernel
theorem dX6_takeCheapest_40 : decode cX6_takeCheapest 40 = .ok (.iconst 2, 1) := dX6_takeCheapest_40_b.1
theorem dX6_takeCheapest_41 : decode cX6_takeCheapest 41 = .ok (.iload_n 3, 1) := dX6_takeCheapest_40_b.2.1
theorem dX6_takeCheapest_42 : decode cX6_takeCheapest 42 = .ok (.imul, 1) := dX6_takeCheapest_40_b.2.2.1
theorem dX6_takeCheapest_43 : decode cX6_takeCheapest 43 = .ok (.iconst 1, 1) := dX6_takeCheapest_40_b.2.2.2.1
theorem dX6_takeCheapest_44 : decode cX6_takeCheapest 44 = .ok (.iadd, 1) := dX6_takeCheapest_40_b.2.2.2.2.1
theorem dX6_takeCheapest_45 : decode cX6_takeCheapest 45 = .ok (.aload_n 0, 1) := dX6_takeCheapest_40_b.2.2.2.2.2
set_option maxRecDepth 20000 in
theorem dX6_takeCheapest_46_b : (decode cX6_takeCheapest 46 = .ok (.getfield 26, 3)) ∧ (decode cX6_takeCheapest 49 = .ok (.if_icmp .ge 111, 3)) ∧ (decode cX6_takeCheapest 52 = .ok (.iconst 2, 1)) ∧ (decode cX6_takeCheapest 53 = .ok (.iload_n 3, 1)) ∧ (decode cX6_takeCheapest 54 = .ok (.imul, 1)) ∧ (decode cX6_takeCheapest 55 = .ok (.iconst 1, 1)) := by decide +kernel
theorem dX6_takeCheapest_46 : decode cX6_takeCheapest 46 = .ok (.getfield 26, 3) := dX6_takeCheapest_46_b.1
theorem dX6_takeCheapest_49 : decode cX6_takeCheapest 49 = .ok (.if_icmp .ge 111, 3) := dX6_takeCheapest_46_b.2.1
theorem dX6_takeCheapest_52 : decode cX6_takeCheapest 52 = .ok (.iconst 2, 1) := dX6_takeCheapest_46_b.2.2.1
theorem dX6_takeCheapest_53 : decode cX6_takeCheapest 53 = .ok (.iload_n 3, 1) := dX6_takeCheapest_46_b.2.2.2.1
theorem dX6_takeCheapest_54 : decode cX6_takeCheapest 54 = .ok (.imul, 1) := dX6_takeCheapest_46_b.2.2.2.2.1
theorem dX6_takeCheapest_55 : decode cX6_takeCheapest 55 = .ok (.iconst 1, 1) := dX6_takeCheapest_46_b.2.2.2.2.2
set_option maxRecDepth 20000 in
theorem dX6_takeCheapest_56_b : (decode cX6_takeCheapest 56 = .ok (.iadd, 1)) ∧ (decode cX6_takeCheapest 57 = .ok (.istore 5, 2)) ∧ (decode cX6_takeCheapest 59 = .ok (.iload 5, 2)) ∧ (decode cX6_takeCheapest 61 = .ok (.iconst 1, 1)) ∧ (decode cX6_takeCheapest 62 = .ok (.iadd, 1)) ∧ (decode cX6_takeCheapest 63 = .ok (.aload_n 0, 1)) := by decide +kernel
theorem dX6_takeCheapest_56 : decode cX6_takeCheapest 56 = .ok (.iadd, 1) := dX6_takeCheapest_56_b.1
theorem dX6_takeCheapest_57 : decode cX6_takeCheapest 57 = .ok (.istore 5, 2) := dX6_takeCheapest_56_b.2.1
theorem dX6_takeCheapest_59 : decode cX6_takeCheapest 59 = .ok (.iload 5, 2) := dX6_takeCheapest_56_b.2.2.1
theorem dX6_takeCheapest_61 : decode cX6_takeCheapest 61 = .ok (.iconst 1, 1) := dX6_takeCheapest_56_b.2.2.2.1
theorem dX6_takeCheapest_62 : decode cX6_takeCheapest 62 = .ok (.iadd, 1) := dX6_takeCheapest_56_b.2.2.2.2.1
theorem dX6_takeCheapest_63 : decode cX6_takeCheapest 63 = .ok (.aload_n 0, 1) := dX6_takeCheapest_56_b.2.2.2.2.2
set_option maxRecDepth 20000 in
theorem dX6_takeCheapest_64_b : (decode cX6_takeCheapest 64 = .ok (.getfield 26, 3)) ∧ (decode cX6_takeCheapest 67 = .ok (.if_icmp .ge 35, 3)) ∧ (decode cX6_takeCheapest 70 = .ok (.aload_n 0, 1)) ∧ (decode cX6_takeCheapest 71 = .ok (.getfield 36, 3)) ∧ (decode cX6_takeCheapest 74 = .ok (.aload_n 0, 1)) ∧ (decode cX6_takeCheapest 75 = .ok (.getfield 48, 3)) := by decide +kernel
theorem dX6_takeCheapest_64 : decode cX6_takeCheapest 64 = .ok (.getfield 26, 3) := dX6_takeCheapest_64_b.1
theorem dX6_takeCheapest_67 : decode cX6_takeCheapest 67 = .ok (.if_icmp .ge 35, 3) := dX6_takeCheapest_64_b.2.1
theorem dX6_takeCheapest_70 : decode cX6_takeCheapest 70 = .ok (.aload_n 0, 1) := dX6_takeCheapest_64_b.2.2.1
theorem dX6_takeCheapest_71 : decode cX6_takeCheapest 71 = .ok (.getfield 36, 3) := dX6_takeCheapest_64_b.2.2.2.1
theorem dX6_takeCheapest_74 : decode cX6_takeCheapest 74 = .ok (.aload_n 0, 1) := dX6_takeCheapest_64_b.2.2.2.2.1
theorem dX6_takeCheapest_75 : decode cX6_takeCheapest 75 = .ok (.getfield 48, 3) := dX6_takeCheapest_64_b.2.2.2.2.2
set_option maxRecDepth 20000 in
theorem dX6_takeCheapest_78_b : (decode cX6_takeCheapest 78 = .ok (.iload 5, 2)) ∧ (decode cX6_takeCheapest 80 = .ok (.iconst 1, 1)) ∧ (decode cX6_takeCheapest 81 = .ok (.iadd, 1)) ∧ (decode cX6_takeCheapest 82 = .ok (.iaload, 1)) ∧ (decode cX6_takeCheapest 83 = .ok (.iaload, 1)) ∧ (decode cX6_takeCheapest 84 = .ok (.aload_n 0, 1)) := by decide +kernel
theorem dX6_takeCheapest_78 : decode cX6_takeCheapest 78 = .ok (.iload 5, 2) := dX6_takeCheapest_78_b.1
theorem dX6_takeCheapest_80 : decode cX6_takeCheapest 80 = .ok (.iconst 1, 1) := dX6_takeCheapest_78_b.2.1
theorem dX6_takeCheapest_81 : decode cX6_takeCheapest 81 = .ok (.iadd, 1) := dX6_takeCheapest_78_b.2.2.1
theorem dX6_takeCheapest_82 : decode cX6_takeCheapest 82 = .ok (.iaload, 1) := dX6_takeCheapest_78_b.2.2.2.1
theorem dX6_takeCheapest_83 : decode cX6_takeCheapest 83 = .ok (.iaload, 1) := dX6_takeCheapest_78_b.2.2.2.2.1
theorem dX6_takeCheapest_84 : decode cX6_takeCheapest 84 = .ok (.aload_n 0, 1) := dX6_takeCheapest_78_b.2.2.2.2.2
set_option maxRecDepth 20000 in
theorem dX6_takeCheapest_85_b : (decode cX6_takeCheapest 85 = .ok (.getfield 36, 3)) ∧ (decode cX6_takeCheapest 88 = .ok (.aload_n 0, 1)) ∧ (decode cX6_takeCheapest 89 = .ok (.getfield 48, 3)) ∧ (decode cX6_takeCheapest 92 = .ok (.iload 5, 2)) ∧ (decode cX6_takeCheapest 94 = .ok (.iaload, 1)) ∧ (decode cX6_takeCheapest 95 = .ok (.iaload, 1)) := by decide +kernel
theorem dX6_takeCheapest_85 : decode cX6_takeCheapest 85 = .ok (.getfield 36, 3) := dX6_takeCheapest_85_b.1
theorem dX6_takeCheapest_88 : decode cX6_takeCheapest 88 = .ok (.aload_n 0, 1) := dX6_takeCheapest_85_b.2.1
theorem dX6_takeCheapest_89 : decode cX6_takeCheapest 89 = .ok (.getfield 48, 3) := dX6_takeCheapest_85_b.2.2.1
theorem dX6_takeCheapest_92 : decode cX6_takeCheapest 92 = .ok (.iload 5, 2) := dX6_takeCheapest_85_b.2.2.2.1
theorem dX6_takeCheapest_94 : decode cX6_takeCheapest 94 = .ok (.iaload, 1) := dX6_takeCheapest_85_b.2.2.2.2.1
theorem dX6_takeCheapest_95 : decode cX6_takeCheapest 95 = .ok (.iaload, 1) := dX6_takeCheapest_85_b.2.2.2.2.2
set_option maxRecDepth 20000 in
theorem dX6_takeCheapest_96_b : (decode cX6_takeCheapest 96 = .ok (.if_icmp .ge 6, 3)) ∧ (decode cX6_takeCheapest 99 = .ok (.iinc 5 1, 3)) ∧ (decode cX6_takeCheapest 102 = .ok (.aload_n 0, 1)) ∧ (decode cX6_takeCheapest 103 = .ok (.getfield 36, 3)) ∧ (decode cX6_takeCheapest 106 = .ok (.iload_n 2, 1)) ∧ (decode cX6_takeCheapest 107 = .ok (.iaload, 1)) := by decide +kernel
theorem dX6_takeCheapest_96 : decode cX6_takeCheapest 96 = .ok (.if_icmp .ge 6, 3) := dX6_takeCheapest_96_b.1
theorem dX6_takeCheapest_99 : decode cX6_takeCheapest 99 = .ok (.iinc 5 1, 3) := dX6_takeCheapest_96_b.2.1
theorem dX6_takeCheapest_102 : decode cX6_takeCheapest 102 = .ok (.aload_n 0, 1) := dX6_takeCheapest_96_b.2.2.1
theorem dX6_takeCheapest_103 : decode cX6_takeCheapest 103 = .ok (.getfield 36, 3) := dX6_takeCheapest_96_b.2.2.2.1
theorem dX6_takeCheapest_106 : decode cX6_takeCheapest 106 = .ok (.iload_n 2, 1) := dX6_takeCheapest_96_b.2.2.2.2.1
theorem dX6_takeCheapest_107 : decode cX6_takeCheapest 107 = .ok (.iaload, 1) := dX6_takeCheapest_96_b.2.2.2.2.2
set_option maxRecDepth 20000 in
theorem dX6_takeCheapest_108_b : (decode cX6_takeCheapest 108 = .ok (.aload_n 0, 1)) ∧ (decode cX6_takeCheapest 109 = .ok (.getfield 36, 3)) ∧ (decode cX6_takeCheapest 112 = .ok (.aload_n 0, 1)) ∧ (decode cX6_takeCheapest 113 = .ok (.getfield 48, 3)) ∧ (decode cX6_takeCheapest 116 = .ok (.iload 5, 2)) ∧ (decode cX6_takeCheapest 118 = .ok (.iaload, 1)) := by decide +kernel
theorem dX6_takeCheapest_108 : decode cX6_takeCheapest 108 = .ok (.aload_n 0, 1) := dX6_takeCheapest_108_b.1
theorem dX6_takeCheapest_109 : decode cX6_takeCheapest 109 = .ok (.getfield 36, 3) := dX6_takeCheapest_108_b.2.1
theorem dX6_takeCheapest_112 : decode cX6_takeCheapest 112 = .ok (.aload_n 0, 1) := dX6_takeCheapest_108_b.2.2.1
theorem dX6_takeCheapest_113 : decode cX6_takeCheapest 113 = .ok (.getfield 48, 3) := dX6_takeCheapest_108_b.2.2.2.1
theorem dX6_takeCheapest_116 : decode cX6_takeCheapest 116 = .ok (.iload 5, 2) := dX6_takeCheapest_108_b.2.2.2.2.1
theorem dX6_takeCheapest_118 : decode cX6_takeCheapest 118 = .ok (.iaload, 1) := dX6_takeCheapest_108_b.2.2.2.2.2
set_option maxRecDepth 20000 in
theorem dX6_takeCheapest_119_b : (decode cX6_takeCheapest 119 = .ok (.iaload, 1)) ∧ (decode cX6_takeCheapest 120 = .ok (.if_icmp .gt 6, 3)) ∧ (decode cX6_takeCheapest 123 = .ok (.goto 37, 3)) ∧ (decode cX6_takeCheapest 126 = .ok (.aload_n 0, 1)) ∧ (decode cX6_takeCheapest 127 = .ok (.getfield 48, 3)) ∧ (decode cX6_takeCheapest 130 = .ok (.iload_n 3, 1)) := by decide +kernel
theorem dX6_takeCheapest_119 : decode cX6_takeCheapest 119 = .ok (.iaload, 1) := dX6_takeCheapest_119_b.1
theorem dX6_takeCheapest_120 : decode cX6_takeCheapest 120 = .ok (.if_icmp .gt 6, 3) := dX6_takeCheapest_119_b.2.1
theorem dX6_takeCheapest_123 : decode cX6_takeCheapest 123 = .ok (.goto 37, 3) := dX6_takeCheapest_119_b.2.2.1
theorem dX6_takeCheapest_126 : decode cX6_takeCheapest 126 = .ok (.aload_n 0, 1) := dX6_takeCheapest_119_b.2.2.2.1
theorem dX6_takeCheapest_127 : decode cX6_takeCheapest 127 = .ok (.getfield 48, 3) := dX6_takeCheapest_119_b.2.2.2.2.1
theorem dX6_takeCheapest_130 : decode cX6_takeCheapest 130 = .ok (.iload_n 3, 1) := dX6_takeCheapest_119_b.2.2.2.2.2
set_option maxRecDepth 20000 in
theorem dX6_takeCheapest_131_b : (decode cX6_takeCheapest 131 = .ok (.aload_n 0, 1)) ∧ (decode cX6_takeCheapest 132 = .ok (.getfield 48, 3)) ∧ (decode cX6_takeCheapest 135 = .ok (.iload 5, 2)) ∧ (decode cX6_takeCheapest 137 = .ok (.iaload, 1)) ∧ (decode cX6_takeCheapest 138 = .ok (.iastore, 1)) ∧ (decode cX6_takeCheapest 139 = .ok (.aload_n 0, 1)) := by decide +kernel
theorem dX6_takeCheapest_131 : decode cX6_takeCheapest 131 = .ok (.aload_n 0, 1) := dX6_takeCheapest_131_b.1
theorem dX6_takeCheapest_132 : decode cX6_takeCheapest 132 = .ok (.getfield 48, 3) := dX6_takeCheapest_131_b.2.1
theorem dX6_takeCheapest_135 : decode cX6_takeCheapest 135 = .ok (.iload 5, 2) := dX6_takeCheapest_131_b.2.2.1
theorem dX6_takeCheapest_137 : decode cX6_takeCheapest 137 = .ok (.iaload, 1) := dX6_takeCheapest_131_b.2.2.2.1
theorem dX6_takeCheapest_138 : decode cX6_takeCheapest 138 = .ok (.iastore, 1) := dX6_takeCheapest_131_b.2.2.2.2.1
theorem dX6_takeCheapest_139 : decode cX6_takeCheapest 139 = .ok (.aload_n 0, 1) := dX6_takeCheapest_131_b.2.2.2.2.2
set_option maxRecDepth 20000 in
theorem dX6_takeCheapest_140_b : (decode cX6_takeCheapest 140 = .ok (.getfield 51, 3)) ∧ (decode cX6_takeCheapest 143 = .ok (.aload_n 0, 1)) ∧ (decode cX6_takeCheapest 144 = .ok (.getfield 48, 3)) ∧ (decode cX6_takeCheapest 147 = .ok (.iload_n 3, 1)) ∧ (decode cX6_takeCheapest 148 = .ok (.iaload, 1)) ∧ (decode cX6_takeCheapest 149 = .ok (.iload_n 3, 1)) := by decide +kernel
theorem dX6_takeCheapest_140 : decode cX6_takeCheapest 140 = .ok (.getfield 51, 3) := dX6_takeCheapest_140_b.1
theorem dX6_takeCheapest_143 : decode cX6_takeCheapest 143 = .ok (.aload_n 0, 1) := dX6_takeCheapest_140_b.2.1
theorem dX6_takeCheapest_144 : decode cX6_takeCheapest 144 = .ok (.getfield 48, 3) := dX6_takeCheapest_140_b.2.2.1
theorem dX6_takeCheapest_147 : decode cX6_takeCheapest 147 = .ok (.iload_n 3, 1) := dX6_takeCheapest_140_b.2.2.2.1
theorem dX6_takeCheapest_148 : decode cX6_takeCheapest 148 = .ok (.iaload, 1) := dX6_takeCheapest_140_b.2.2.2.2.1
theorem dX6_takeCheapest_149 : decode cX6_takeCheapest 149 = .ok (.iload_n 3, 1) := dX6_takeCheapest_140_b.2.2.2.2.2
set_option maxRecDepth 20000 in
theorem dX6_takeCheapest_150_b : (decode cX6_takeCheapest 150 = .ok (.iastore, 1)) ∧ (decode cX6_takeCheapest 151 = .ok (.iload 5, 2)) ∧ (decode cX6_takeCheapest 153 = .ok (.istore_n 3, 1)) ∧ (decode cX6_takeCheapest 154 = .ok (.iinc 4 1, 3)) ∧ (decode cX6_takeCheapest 157 = .ok (.goto (-125), 3)) ∧ (decode cX6_takeCheapest 160 = .ok (.aload_n 0, 1)) := by decide +kernel
theorem dX6_takeCheapest_150 : decode cX6_takeCheapest 150 = .ok (.iastore, 1) := dX6_takeCheapest_150_b.1
theorem dX6_takeCheapest_151 : decode cX6_takeCheapest 151 = .ok (.iload 5, 2) := dX6_takeCheapest_150_b.2.1
theorem dX6_takeCheapest_153 : decode cX6_takeCheapest 153 = .ok (.istore_n 3, 1) := dX6_takeCheapest_150_b.2.2.1
theorem dX6_takeCheapest_154 : decode cX6_takeCheapest 154 = .ok (.iinc 4 1, 3) := dX6_takeCheapest_150_b.2.2.2.1
theorem dX6_takeCheapest_157 : decode cX6_takeCheapest 157 = .ok (.goto (-125), 3) := dX6_takeCheapest_150_b.2.2.2.2.1
theorem dX6_takeCheapest_160 : decode cX6_takeCheapest 160 = .ok (.aload_n 0, 1) := dX6_takeCheapest_150_b.2.2.2.2.2
set_option maxRecDepth 20000 in
theorem dX6_takeCheapest_161_b : (decode cX6_takeCheapest 161 = .ok (.getfield 48, 3)) ∧ (decode cX6_takeCheapest 164 = .ok (.iload_n 3, 1)) ∧ (decode cX6_takeCheapest 165 = .ok (.iload_n 2, 1)) ∧ (decode cX6_takeCheapest 166 = .ok (.iastore, 1)) ∧ (decode cX6_takeCheapest 167 = .ok (.aload_n 0, 1)) ∧ (decode cX6_takeCheapest 168 = .ok (.getfield 51, 3)) := by decide +kernel
theorem dX6_takeCheapest_161 : decode cX6_takeCheapest 161 = .ok (.getfield 48, 3) := dX6_takeCheapest_161_b.1
theorem dX6_takeCheapest_164 : decode cX6_takeCheapest 164 = .ok (.iload_n 3, 1) := dX6_takeCheapest_161_b.2.1
theorem dX6_takeCheapest_165 : decode cX6_takeCheapest 165 = .ok (.iload_n 2, 1) := dX6_takeCheapest_161_b.2.2.1
theorem dX6_takeCheapest_166 : decode cX6_takeCheapest 166 = .ok (.iastore, 1) := dX6_takeCheapest_161_b.2.2.2.1
theorem dX6_takeCheapest_167 : decode cX6_takeCheapest 167 = .ok (.aload_n 0, 1) := dX6_takeCheapest_161_b.2.2.2.2.1
theorem dX6_takeCheapest_168 : decode cX6_takeCheapest 168 = .ok (.getfield 51, 3) := dX6_takeCheapest_161_b.2.2.2.2.2
set_option maxRecDepth 20000 in
theorem dX6_takeCheapest_171_b : (decode cX6_takeCheapest 171 = .ok (.iload_n 2, 1)) ∧ (decode cX6_takeCheapest 172 = .ok (.iload_n 3, 1)) ∧ (decode cX6_takeCheapest 173 = .ok (.iastore, 1)) ∧ (decode cX6_takeCheapest 174 = .ok (.iload_n 1, 1)) ∧ (decode cX6_takeCheapest 175 = .ok (.ireturn, 1)) := by decide +kernel
theorem dX6_takeCheapest_171 : decode cX6_takeCheapest 171 = .ok (.iload_n 2, 1) := dX6_takeCheapest_171_b.1
theorem dX6_takeCheapest_172 : decode cX6_takeCheapest 172 = .ok (.iload_n 3, 1) := dX6_takeCheapest_171_b.2.1
theorem dX6_takeCheapest_173 : decode cX6_takeCheapest 173 = .ok (.iastore, 1) := dX6_takeCheapest_171_b.2.2.1
theorem dX6_takeCheapest_174 : decode cX6_takeCheapest 174 = .ok (.iload_n 1, 1) := dX6_takeCheapest_171_b.2.2.2.1
theorem dX6_takeCheapest_175 : decode cX6_takeCheapest 175 = .ok (.ireturn, 1) := dX6_takeCheapest_171_b.2.2.2.2
set_option maxRecDepth 20000 in
theorem dX6_leastTillServed_0_b : (decode cX6_leastTillServed 0 = .ok (.iconst (-1), 1)) ∧ (decode cX6_leastTillServed 1 = .ok (.istore_n 1, 1)) ∧ (decode cX6_leastTillServed 2 = .ok (.iconst 0, 1)) ∧ (decode cX6_leastTillServed 3 = .ok (.istore_n 2, 1)) ∧ (decode cX6_leastTillServed 4 = .ok (.iload_n 2, 1)) ∧ (decode cX6_leastTillServed 5 = .ok (.aload_n 0, 1)) := by decide +kernel
theorem dX6_leastTillServed_0 : decode cX6_leastTillServed 0 = .ok (.iconst (-1), 1) := dX6_leastTillServed_0_b.1
theorem dX6_leastTillServed_1 : decode cX6_leastTillServed 1 = .ok (.istore_n 1, 1) := dX6_leastTillServed_0_b.2.1
theorem dX6_leastTillServed_2 : decode cX6_leastTillServed 2 = .ok (.iconst 0, 1) := dX6_leastTillServed_0_b.2.2.1
theorem dX6_leastTillServed_3 : decode cX6_leastTillServed 3 = .ok (.istore_n 2, 1) := dX6_leastTillServed_0_b.2.2.2.1
theorem dX6_leastTillServed_4 : decode cX6_leastTillServed 4 = .ok (.iload_n 2, 1) := dX6_leastTillServed_0_b.2.2.2.2.1
theorem dX6_leastTillServed_5 : decode cX6_leastTillServed 5 = .ok (.aload_n 0, 1) := dX6_leastTillServed_0_b.2.2.2.2.2
set_option maxRecDepth 20000 in
theorem dX6_leastTillServed_6_b : (decode cX6_leastTillServed 6 = .ok (.getfield 22, 3)) ∧ (decode cX6_leastTillServed 9 = .ok (.if_icmp .ge 57, 3)) ∧ (decode cX6_leastTillServed 12 = .ok (.iload_n 1, 1)) ∧ (decode cX6_leastTillServed 13 = .ok (.iconst (-1), 1)) ∧ (decode cX6_leastTillServed 14 = .ok (.if_icmp .eq 13, 3)) ∧ (decode cX6_leastTillServed 17 = .ok (.aload_n 0, 1)) := by decide +kernel
theorem dX6_leastTillServed_6 : decode cX6_leastTillServed 6 = .ok (.getfield 22, 3) := dX6_leastTillServed_6_b.1
theorem dX6_leastTillServed_9 : decode cX6_leastTillServed 9 = .ok (.if_icmp .ge 57, 3) := dX6_leastTillServed_6_b.2.1
theorem dX6_leastTillServed_12 : decode cX6_leastTillServed 12 = .ok (.iload_n 1, 1) := dX6_leastTillServed_6_b.2.2.1
theorem dX6_leastTillServed_13 : decode cX6_leastTillServed 13 = .ok (.iconst (-1), 1) := dX6_leastTillServed_6_b.2.2.2.1
theorem dX6_leastTillServed_14 : decode cX6_leastTillServed 14 = .ok (.if_icmp .eq 13, 3) := dX6_leastTillServed_6_b.2.2.2.2.1
theorem dX6_leastTillServed_17 : decode cX6_leastTillServed 17 = .ok (.aload_n 0, 1) := dX6_leastTillServed_6_b.2.2.2.2.2
set_option maxRecDepth 20000 in
theorem dX6_leastTillServed_18_b : (decode cX6_leastTillServed 18 = .ok (.getfield 36, 3)) ∧ (decode cX6_leastTillServed 21 = .ok (.iload_n 2, 1)) ∧ (decode cX6_leastTillServed 22 = .ok (.iaload, 1)) ∧ (decode cX6_leastTillServed 23 = .ok (.iload_n 1, 1)) ∧ (decode cX6_leastTillServed 24 = .ok (.if_icmp .ge 7, 3)) ∧ (decode cX6_leastTillServed 27 = .ok (.iconst 1, 1)) := by decide +kernel
theorem dX6_leastTillServed_18 : decode cX6_leastTillServed 18 = .ok (.getfield 36, 3) := dX6_leastTillServed_18_b.1
theorem dX6_leastTillServed_21 : decode cX6_leastTillServed 21 = .ok (.iload_n 2, 1) := dX6_leastTillServed_18_b.2.1
theorem dX6_leastTillServed_22 : decode cX6_leastTillServed 22 = .ok (.iaload, 1) := dX6_leastTillServed_18_b.2.2.1
theorem dX6_leastTillServed_23 : decode cX6_leastTillServed 23 = .ok (.iload_n 1, 1) := dX6_leastTillServed_18_b.2.2.2.1
theorem dX6_leastTillServed_24 : decode cX6_leastTillServed 24 = .ok (.if_icmp .ge 7, 3) := dX6_leastTillServed_18_b.2.2.2.2.1
theorem dX6_leastTillServed_27 : decode cX6_leastTillServed 27 = .ok (.iconst 1, 1) := dX6_leastTillServed_18_b.2.2.2.2.2
set_option maxRecDepth 20000 in
theorem dX6_leastTillServed_28_b : (decode cX6_leastTillServed 28 = .ok (.goto 4, 3)) ∧ (decode cX6_leastTillServed 31 = .ok (.iconst 0, 1)) ∧ (decode cX6_leastTillServed 32 = .ok (.istore_n 3, 1)) ∧ (decode cX6_leastTillServed 33 = .ok (.iload_n 3, 1)) ∧ (decode cX6_leastTillServed 34 = .ok (.ifCond .eq 26, 3)) ∧ (decode cX6_leastTillServed 37 = .ok (.aload_n 0, 1)) := by decide +kernel
theorem dX6_leastTillServed_28 : decode cX6_leastTillServed 28 = .ok (.goto 4, 3) := dX6_leastTillServed_28_b.1
theorem dX6_leastTillServed_31 : decode cX6_leastTillServed 31 = .ok (.iconst 0, 1) := dX6_leastTillServed_28_b.2.1
theorem dX6_leastTillServed_32 : decode cX6_leastTillServed 32 = .ok (.istore_n 3, 1) := dX6_leastTillServed_28_b.2.2.1
theorem dX6_leastTillServed_33 : decode cX6_leastTillServed 33 = .ok (.iload_n 3, 1) := dX6_leastTillServed_28_b.2.2.2.1
theorem dX6_leastTillServed_34 : decode cX6_leastTillServed 34 = .ok (.ifCond .eq 26, 3) := dX6_leastTillServed_28_b.2.2.2.2.1
theorem dX6_leastTillServed_37 : decode cX6_leastTillServed 37 = .ok (.aload_n 0, 1) := dX6_leastTillServed_28_b.2.2.2.2.2
set_option maxRecDepth 20000 in
theorem dX6_leastTillServed_38_b : (decode cX6_leastTillServed 38 = .ok (.getfield 9, 3)) ∧ (decode cX6_leastTillServed 41 = .ok (.aload_n 0, 1)) ∧ (decode cX6_leastTillServed 42 = .ok (.getfield 32, 3)) ∧ (decode cX6_leastTillServed 45 = .ok (.iload_n 2, 1)) ∧ (decode cX6_leastTillServed 46 = .ok (.iaload, 1)) ∧ (decode cX6_leastTillServed 47 = .ok (.invokevirtual 152, 3)) := by decide +kernel
theorem dX6_leastTillServed_38 : decode cX6_leastTillServed 38 = .ok (.getfield 9, 3) := dX6_leastTillServed_38_b.1
theorem dX6_leastTillServed_41 : decode cX6_leastTillServed 41 = .ok (.aload_n 0, 1) := dX6_leastTillServed_38_b.2.1
theorem dX6_leastTillServed_42 : decode cX6_leastTillServed 42 = .ok (.getfield 32, 3) := dX6_leastTillServed_38_b.2.2.1
theorem dX6_leastTillServed_45 : decode cX6_leastTillServed 45 = .ok (.iload_n 2, 1) := dX6_leastTillServed_38_b.2.2.2.1
theorem dX6_leastTillServed_46 : decode cX6_leastTillServed 46 = .ok (.iaload, 1) := dX6_leastTillServed_38_b.2.2.2.2.1
theorem dX6_leastTillServed_47 : decode cX6_leastTillServed 47 = .ok (.invokevirtual 152, 3) := dX6_leastTillServed_38_b.2.2.2.2.2
set_option maxRecDepth 20000 in
theorem dX6_leastTillServed_50_b : (decode cX6_leastTillServed 50 = .ok (.ifCond .eq 10, 3)) ∧ (decode cX6_leastTillServed 53 = .ok (.aload_n 0, 1)) ∧ (decode cX6_leastTillServed 54 = .ok (.getfield 36, 3)) ∧ (decode cX6_leastTillServed 57 = .ok (.iload_n 2, 1)) ∧ (decode cX6_leastTillServed 58 = .ok (.iaload, 1)) ∧ (decode cX6_leastTillServed 59 = .ok (.istore_n 1, 1)) := by decide +kernel
theorem dX6_leastTillServed_50 : decode cX6_leastTillServed 50 = .ok (.ifCond .eq 10, 3) := dX6_leastTillServed_50_b.1
theorem dX6_leastTillServed_53 : decode cX6_leastTillServed 53 = .ok (.aload_n 0, 1) := dX6_leastTillServed_50_b.2.1
theorem dX6_leastTillServed_54 : decode cX6_leastTillServed 54 = .ok (.getfield 36, 3) := dX6_leastTillServed_50_b.2.2.1
theorem dX6_leastTillServed_57 : decode cX6_leastTillServed 57 = .ok (.iload_n 2, 1) := dX6_leastTillServed_50_b.2.2.2.1
theorem dX6_leastTillServed_58 : decode cX6_leastTillServed 58 = .ok (.iaload, 1) := dX6_leastTillServed_50_b.2.2.2.2.1
theorem dX6_leastTillServed_59 : decode cX6_leastTillServed 59 = .ok (.istore_n 1, 1) := dX6_leastTillServed_50_b.2.2.2.2.2
set_option maxRecDepth 20000 in
theorem dX6_leastTillServed_60_b : (decode cX6_leastTillServed 60 = .ok (.iinc 2 1, 3)) ∧ (decode cX6_leastTillServed 63 = .ok (.goto (-59), 3)) ∧ (decode cX6_leastTillServed 66 = .ok (.iload_n 1, 1)) ∧ (decode cX6_leastTillServed 67 = .ok (.ireturn, 1)) := by decide +kernel
theorem dX6_leastTillServed_60 : decode cX6_leastTillServed 60 = .ok (.iinc 2 1, 3) := dX6_leastTillServed_60_b.1
theorem dX6_leastTillServed_63 : decode cX6_leastTillServed 63 = .ok (.goto (-59), 3) := dX6_leastTillServed_60_b.2.1
theorem dX6_leastTillServed_66 : decode cX6_leastTillServed 66 = .ok (.iload_n 1, 1) := dX6_leastTillServed_60_b.2.2.1
theorem dX6_leastTillServed_67 : decode cX6_leastTillServed 67 = .ok (.ireturn, 1) := dX6_leastTillServed_60_b.2.2.2
set_option maxRecDepth 20000 in
theorem dX6_depthsOf_0_b : (decode cX6_depthsOf 0 = .ok (.iconst 0, 1)) ∧ (decode cX6_depthsOf 1 = .ok (.istore_n 2, 1)) ∧ (decode cX6_depthsOf 2 = .ok (.iconst 0, 1)) ∧ (decode cX6_depthsOf 3 = .ok (.istore_n 3, 1)) ∧ (decode cX6_depthsOf 4 = .ok (.iload_n 3, 1)) ∧ (decode cX6_depthsOf 5 = .ok (.aload_n 0, 1)) := by decide +kernel
theorem dX6_depthsOf_0 : decode cX6_depthsOf 0 = .ok (.iconst 0, 1) := dX6_depthsOf_0_b.1
theorem dX6_depthsOf_1 : decode cX6_depthsOf 1 = .ok (.istore_n 2, 1) := dX6_depthsOf_0_b.2.1
theorem dX6_depthsOf_2 : decode cX6_depthsOf 2 = .ok (.iconst 0, 1) := dX6_depthsOf_0_b.2.2.1
theorem dX6_depthsOf_3 : decode cX6_depthsOf 3 = .ok (.istore_n 3, 1) := dX6_depthsOf_0_b.2.2.2.1
theorem dX6_depthsOf_4 : decode cX6_depthsOf 4 = .ok (.iload_n 3, 1) := dX6_depthsOf_0_b.2.2.2.2.1
theorem dX6_depthsOf_5 : decode cX6_depthsOf 5 = .ok (.aload_n 0, 1) := dX6_depthsOf_0_b.2.2.2.2.2
set_option maxRecDepth 20000 in
theorem dX6_depthsOf_6_b : (decode cX6_depthsOf 6 = .ok (.getfield 22, 3)) ∧ (decode cX6_depthsOf 9 = .ok (.if_icmp .ge 42, 3)) ∧ (decode cX6_depthsOf 12 = .ok (.aload_n 0, 1)) ∧ (decode cX6_depthsOf 13 = .ok (.getfield 9, 3)) ∧ (decode cX6_depthsOf 16 = .ok (.aload_n 0, 1)) ∧ (decode cX6_depthsOf 17 = .ok (.getfield 32, 3)) := by decide +kernel
theorem dX6_depthsOf_6 : decode cX6_depthsOf 6 = .ok (.getfield 22, 3) := dX6_depthsOf_6_b.1
theorem dX6_depthsOf_9 : decode cX6_depthsOf 9 = .ok (.if_icmp .ge 42, 3) := dX6_depthsOf_6_b.2.1
theorem dX6_depthsOf_12 : decode cX6_depthsOf 12 = .ok (.aload_n 0, 1) := dX6_depthsOf_6_b.2.2.1
theorem dX6_depthsOf_13 : decode cX6_depthsOf 13 = .ok (.getfield 9, 3) := dX6_depthsOf_6_b.2.2.2.1
theorem dX6_depthsOf_16 : decode cX6_depthsOf 16 = .ok (.aload_n 0, 1) := dX6_depthsOf_6_b.2.2.2.2.1
theorem dX6_depthsOf_17 : decode cX6_depthsOf 17 = .ok (.getfield 32, 3) := dX6_depthsOf_6_b.2.2.2.2.2
set_option maxRecDepth 20000 in
theorem dX6_depthsOf_20_b : (decode cX6_depthsOf 20 = .ok (.iload_n 3, 1)) ∧ (decode cX6_depthsOf 21 = .ok (.iaload, 1)) ∧ (decode cX6_depthsOf 22 = .ok (.iload_n 1, 1)) ∧ (decode cX6_depthsOf 23 = .ok (.invokevirtual 87, 3)) ∧ (decode cX6_depthsOf 26 = .ok (.istore 4, 2)) ∧ (decode cX6_depthsOf 28 = .ok (.iload_n 2, 1)) := by decide +kernel
theorem dX6_depthsOf_20 : decode cX6_depthsOf 20 = .ok (.iload_n 3, 1) := dX6_depthsOf_20_b.1
theorem dX6_depthsOf_21 : decode cX6_depthsOf 21 = .ok (.iaload, 1) := dX6_depthsOf_20_b.2.1
theorem dX6_depthsOf_22 : decode cX6_depthsOf 22 = .ok (.iload_n 1, 1) := dX6_depthsOf_20_b.2.2.1
theorem dX6_depthsOf_23 : decode cX6_depthsOf 23 = .ok (.invokevirtual 87, 3) := dX6_depthsOf_20_b.2.2.2.1
theorem dX6_depthsOf_26 : decode cX6_depthsOf 26 = .ok (.istore 4, 2) := dX6_depthsOf_20_b.2.2.2.2.1
theorem dX6_depthsOf_28 : decode cX6_depthsOf 28 = .ok (.iload_n 2, 1) := dX6_depthsOf_20_b.2.2.2.2.2
set_option maxRecDepth 20000 in
theorem dX6_depthsOf_29_b : (decode cX6_depthsOf 29 = .ok (.iload 4, 2)) ∧ (decode cX6_depthsOf 31 = .ok (.iconst (-1), 1)) ∧ (decode cX6_depthsOf 32 = .ok (.if_icmp .ne 7, 3)) ∧ (decode cX6_depthsOf 35 = .ok (.iconst 0, 1)) ∧ (decode cX6_depthsOf 36 = .ok (.goto 7, 3)) ∧ (decode cX6_depthsOf 39 = .ok (.iconst 1, 1)) := by decide +kernel
theorem dX6_depthsOf_29 : decode cX6_depthsOf 29 = .ok (.iload 4, 2) := dX6_depthsOf_29_b.1
theorem dX6_depthsOf_31 : decode cX6_depthsOf 31 = .ok (.iconst (-1), 1) := dX6_depthsOf_29_b.2.1
theorem dX6_depthsOf_32 : decode cX6_depthsOf 32 = .ok (.if_icmp .ne 7, 3) := dX6_depthsOf_29_b.2.2.1
theorem dX6_depthsOf_35 : decode cX6_depthsOf 35 = .ok (.iconst 0, 1) := dX6_depthsOf_29_b.2.2.2.1
theorem dX6_depthsOf_36 : decode cX6_depthsOf 36 = .ok (.goto 7, 3) := dX6_depthsOf_29_b.2.2.2.2.1
theorem dX6_depthsOf_39 : decode cX6_depthsOf 39 = .ok (.iconst 1, 1) := dX6_depthsOf_29_b.2.2.2.2.2
set_option maxRecDepth 20000 in
theorem dX6_depthsOf_40_b : (decode cX6_depthsOf 40 = .ok (.iload 4, 2)) ∧ (decode cX6_depthsOf 42 = .ok (.ishl, 1)) ∧ (decode cX6_depthsOf 43 = .ok (.ior, 1)) ∧ (decode cX6_depthsOf 44 = .ok (.istore_n 2, 1)) ∧ (decode cX6_depthsOf 45 = .ok (.iinc 3 1, 3)) ∧ (decode cX6_depthsOf 48 = .ok (.goto (-44), 3)) := by decide +kernel
theorem dX6_depthsOf_40 : decode cX6_depthsOf 40 = .ok (.iload 4, 2) := dX6_depthsOf_40_b.1
theorem dX6_depthsOf_42 : decode cX6_depthsOf 42 = .ok (.ishl, 1) := dX6_depthsOf_40_b.2.1
theorem dX6_depthsOf_43 : decode cX6_depthsOf 43 = .ok (.ior, 1) := dX6_depthsOf_40_b.2.2.1
theorem dX6_depthsOf_44 : decode cX6_depthsOf 44 = .ok (.istore_n 2, 1) := dX6_depthsOf_40_b.2.2.2.1
theorem dX6_depthsOf_45 : decode cX6_depthsOf 45 = .ok (.iinc 3 1, 3) := dX6_depthsOf_40_b.2.2.2.2.1
theorem dX6_depthsOf_48 : decode cX6_depthsOf 48 = .ok (.goto (-44), 3) := dX6_depthsOf_40_b.2.2.2.2.2
set_option maxRecDepth 20000 in
theorem dX6_depthsOf_51_b : (decode cX6_depthsOf 51 = .ok (.iload_n 2, 1)) ∧ (decode cX6_depthsOf 52 = .ok (.ireturn, 1)) := by decide +kernel
theorem dX6_depthsOf_51 : decode cX6_depthsOf 51 = .ok (.iload_n 2, 1) := dX6_depthsOf_51_b.1
theorem dX6_depthsOf_52 : decode cX6_depthsOf 52 = .ok (.ireturn, 1) := dX6_depthsOf_51_b.2
set_option maxRecDepth 20000 in
theorem dX6_firstWith_0_b : (decode cX6_firstWith 0 = .ok (.iconst 0, 1)) ∧ (decode cX6_firstWith 1 = .ok (.istore_n 3, 1)) ∧ (decode cX6_firstWith 2 = .ok (.iload_n 3, 1)) ∧ (decode cX6_firstWith 3 = .ok (.aload_n 0, 1)) ∧ (decode cX6_firstWith 4 = .ok (.getfield 22, 3)) ∧ (decode cX6_firstWith 7 = .ok (.if_icmp .ge 29, 3)) := by decide +kernel
theorem dX6_firstWith_0 : decode cX6_firstWith 0 = .ok (.iconst 0, 1) := dX6_firstWith_0_b.1
theorem dX6_firstWith_1 : decode cX6_firstWith 1 = .ok (.istore_n 3, 1) := dX6_firstWith_0_b.2.1
theorem dX6_firstWith_2 : decode cX6_firstWith 2 = .ok (.iload_n 3, 1) := dX6_firstWith_0_b.2.2.1
theorem dX6_firstWith_3 : decode cX6_firstWith 3 = .ok (.aload_n 0, 1) := dX6_firstWith_0_b.2.2.2.1
theorem dX6_firstWith_4 : decode cX6_firstWith 4 = .ok (.getfield 22, 3) := dX6_firstWith_0_b.2.2.2.2.1
theorem dX6_firstWith_7 : decode cX6_firstWith 7 = .ok (.if_icmp .ge 29, 3) := dX6_firstWith_0_b.2.2.2.2.2
set_option maxRecDepth 20000 in
theorem dX6_firstWith_10_b : (decode cX6_firstWith 10 = .ok (.aload_n 0, 1)) ∧ (decode cX6_firstWith 11 = .ok (.getfield 9, 3)) ∧ (decode cX6_firstWith 14 = .ok (.aload_n 0, 1)) ∧ (decode cX6_firstWith 15 = .ok (.getfield 32, 3)) ∧ (decode cX6_firstWith 18 = .ok (.iload_n 3, 1)) ∧ (decode cX6_firstWith 19 = .ok (.iaload, 1)) := by decide +kernel
theorem dX6_firstWith_10 : decode cX6_firstWith 10 = .ok (.aload_n 0, 1) := dX6_firstWith_10_b.1
theorem dX6_firstWith_11 : decode cX6_firstWith 11 = .ok (.getfield 9, 3) := dX6_firstWith_10_b.2.1
theorem dX6_firstWith_14 : decode cX6_firstWith 14 = .ok (.aload_n 0, 1) := dX6_firstWith_10_b.2.2.1
theorem dX6_firstWith_15 : decode cX6_firstWith 15 = .ok (.getfield 32, 3) := dX6_firstWith_10_b.2.2.2.1
theorem dX6_firstWith_18 : decode cX6_firstWith 18 = .ok (.iload_n 3, 1) := dX6_firstWith_10_b.2.2.2.2.1
theorem dX6_firstWith_19 : decode cX6_firstWith 19 = .ok (.iaload, 1) := dX6_firstWith_10_b.2.2.2.2.2
set_option maxRecDepth 20000 in
theorem dX6_firstWith_20_b : (decode cX6_firstWith 20 = .ok (.iload_n 1, 1)) ∧ (decode cX6_firstWith 21 = .ok (.invokevirtual 87, 3)) ∧ (decode cX6_firstWith 24 = .ok (.iload_n 2, 1)) ∧ (decode cX6_firstWith 25 = .ok (.if_icmp .ne 5, 3)) ∧ (decode cX6_firstWith 28 = .ok (.iload_n 3, 1)) ∧ (decode cX6_firstWith 29 = .ok (.ireturn, 1)) := by decide +kernel
theorem dX6_firstWith_20 : decode cX6_firstWith 20 = .ok (.iload_n 1, 1) := dX6_firstWith_20_b.1
theorem dX6_firstWith_21 : decode cX6_firstWith 21 = .ok (.invokevirtual 87, 3) := dX6_firstWith_20_b.2.1
theorem dX6_firstWith_24 : decode cX6_firstWith 24 = .ok (.iload_n 2, 1) := dX6_firstWith_20_b.2.2.1
theorem dX6_firstWith_25 : decode cX6_firstWith 25 = .ok (.if_icmp .ne 5, 3) := dX6_firstWith_20_b.2.2.2.1
theorem dX6_firstWith_28 : decode cX6_firstWith 28 = .ok (.iload_n 3, 1) := dX6_firstWith_20_b.2.2.2.2.1
theorem dX6_firstWith_29 : decode cX6_firstWith 29 = .ok (.ireturn, 1) := dX6_firstWith_20_b.2.2.2.2.2
set_option maxRecDepth 20000 in
theorem dX6_firstWith_30_b : (decode cX6_firstWith 30 = .ok (.iinc 3 1, 3)) ∧ (decode cX6_firstWith 33 = .ok (.goto (-31), 3)) ∧ (decode cX6_firstWith 36 = .ok (.iconst (-1), 1)) ∧ (decode cX6_firstWith 37 = .ok (.ireturn, 1)) := by decide +kernel
theorem dX6_firstWith_30 : decode cX6_firstWith 30 = .ok (.iinc 3 1, 3) := dX6_firstWith_30_b.1
theorem dX6_firstWith_33 : decode cX6_firstWith 33 = .ok (.goto (-31), 3) := dX6_firstWith_30_b.2.1
theorem dX6_firstWith_36 : decode cX6_firstWith 36 = .ok (.iconst (-1), 1) := dX6_firstWith_30_b.2.2.1
theorem dX6_firstWith_37 : decode cX6_firstWith 37 = .ok (.ireturn, 1) := dX6_firstWith_30_b.2.2.2
set_option maxRecDepth 20000 in
theorem dX6_ridersTo_0_b : (decode cX6_ridersTo 0 = .ok (.iconst 0, 1)) ∧ (decode cX6_ridersTo 1 = .ok (.istore_n 2, 1)) ∧ (decode cX6_ridersTo 2 = .ok (.iload_n 1, 1)) ∧ (decode cX6_ridersTo 3 = .ok (.istore_n 3, 1)) ∧ (decode cX6_ridersTo 4 = .ok (.iconst 0, 1)) ∧ (decode cX6_ridersTo 5 = .ok (.istore 4, 2)) := by decide +kernel
theorem dX6_ridersTo_0 : decode cX6_ridersTo 0 = .ok (.iconst 0, 1) := dX6_ridersTo_0_b.1
theorem dX6_ridersTo_1 : decode cX6_ridersTo 1 = .ok (.istore_n 2, 1) := dX6_ridersTo_0_b.2.1
theorem dX6_ridersTo_2 : decode cX6_ridersTo 2 = .ok (.iload_n 1, 1) := dX6_ridersTo_0_b.2.2.1
theorem dX6_ridersTo_3 : decode cX6_ridersTo 3 = .ok (.istore_n 3, 1) := dX6_ridersTo_0_b.2.2.2.1
theorem dX6_ridersTo_4 : decode cX6_ridersTo 4 = .ok (.iconst 0, 1) := dX6_ridersTo_0_b.2.2.2.2.1
theorem dX6_ridersTo_5 : decode cX6_ridersTo 5 = .ok (.istore 4, 2) := dX6_ridersTo_0_b.2.2.2.2.2
set_option maxRecDepth 20000 in
theorem dX6_ridersTo_7_b : (decode cX6_ridersTo 7 = .ok (.iload 4, 2)) ∧ (decode cX6_ridersTo 9 = .ok (.aload_n 0, 1)) ∧ (decode cX6_ridersTo 10 = .ok (.getfield 22, 3)) ∧ (decode cX6_ridersTo 13 = .ok (.if_icmp .ge 44, 3)) ∧ (decode cX6_ridersTo 16 = .ok (.iload_n 3, 1)) ∧ (decode cX6_ridersTo 17 = .ok (.ifCond .le 40, 3)) := by decide +kernel
theorem dX6_ridersTo_7 : decode cX6_ridersTo 7 = .ok (.iload 4, 2) := dX6_ridersTo_7_b.1
theorem dX6_ridersTo_9 : decode cX6_ridersTo 9 = .ok (.aload_n 0, 1) := dX6_ridersTo_7_b.2.1
theorem dX6_ridersTo_10 : decode cX6_ridersTo 10 = .ok (.getfield 22, 3) := dX6_ridersTo_7_b.2.2.1
theorem dX6_ridersTo_13 : decode cX6_ridersTo 13 = .ok (.if_icmp .ge 44, 3) := dX6_ridersTo_7_b.2.2.2.1
theorem dX6_ridersTo_16 : decode cX6_ridersTo 16 = .ok (.iload_n 3, 1) := dX6_ridersTo_7_b.2.2.2.2.1
theorem dX6_ridersTo_17 : decode cX6_ridersTo 17 = .ok (.ifCond .le 40, 3) := dX6_ridersTo_7_b.2.2.2.2.2
set_option maxRecDepth 20000 in
theorem dX6_ridersTo_20_b : (decode cX6_ridersTo 20 = .ok (.iload_n 2, 1)) ∧ (decode cX6_ridersTo 21 = .ok (.aload_n 0, 1)) ∧ (decode cX6_ridersTo 22 = .ok (.getfield 32, 3)) ∧ (decode cX6_ridersTo 25 = .ok (.iload_n 3, 1)) ∧ (decode cX6_ridersTo 26 = .ok (.iaload, 1)) ∧ (decode cX6_ridersTo 27 = .ok (.iconst 0, 1)) := by decide +kernel
theorem dX6_ridersTo_20 : decode cX6_ridersTo 20 = .ok (.iload_n 2, 1) := dX6_ridersTo_20_b.1
theorem dX6_ridersTo_21 : decode cX6_ridersTo 21 = .ok (.aload_n 0, 1) := dX6_ridersTo_20_b.2.1
theorem dX6_ridersTo_22 : decode cX6_ridersTo 22 = .ok (.getfield 32, 3) := dX6_ridersTo_20_b.2.2.1
theorem dX6_ridersTo_25 : decode cX6_ridersTo 25 = .ok (.iload_n 3, 1) := dX6_ridersTo_20_b.2.2.2.1
theorem dX6_ridersTo_26 : decode cX6_ridersTo 26 = .ok (.iaload, 1) := dX6_ridersTo_20_b.2.2.2.2.1
theorem dX6_ridersTo_27 : decode cX6_ridersTo 27 = .ok (.iconst 0, 1) := dX6_ridersTo_20_b.2.2.2.2.2
set_option maxRecDepth 20000 in
theorem dX6_ridersTo_28_b : (decode cX6_ridersTo 28 = .ok (.invokestatic 155, 3)) ∧ (decode cX6_ridersTo 31 = .ok (.aload_n 0, 1)) ∧ (decode cX6_ridersTo 32 = .ok (.getfield 32, 3)) ∧ (decode cX6_ridersTo 35 = .ok (.iload_n 3, 1)) ∧ (decode cX6_ridersTo 36 = .ok (.iaload, 1)) ∧ (decode cX6_ridersTo 37 = .ok (.iconst 1, 1)) := by decide +kernel
theorem dX6_ridersTo_28 : decode cX6_ridersTo 28 = .ok (.invokestatic 155, 3) := dX6_ridersTo_28_b.1
theorem dX6_ridersTo_31 : decode cX6_ridersTo 31 = .ok (.aload_n 0, 1) := dX6_ridersTo_28_b.2.1
theorem dX6_ridersTo_32 : decode cX6_ridersTo 32 = .ok (.getfield 32, 3) := dX6_ridersTo_28_b.2.2.1
theorem dX6_ridersTo_35 : decode cX6_ridersTo 35 = .ok (.iload_n 3, 1) := dX6_ridersTo_28_b.2.2.2.1
theorem dX6_ridersTo_36 : decode cX6_ridersTo 36 = .ok (.iaload, 1) := dX6_ridersTo_28_b.2.2.2.2.1
theorem dX6_ridersTo_37 : decode cX6_ridersTo 37 = .ok (.iconst 1, 1) := dX6_ridersTo_28_b.2.2.2.2.2
set_option maxRecDepth 20000 in
theorem dX6_ridersTo_38_b : (decode cX6_ridersTo 38 = .ok (.invokestatic 155, 3)) ∧ (decode cX6_ridersTo 41 = .ok (.ior, 1)) ∧ (decode cX6_ridersTo 42 = .ok (.ior, 1)) ∧ (decode cX6_ridersTo 43 = .ok (.istore_n 2, 1)) ∧ (decode cX6_ridersTo 44 = .ok (.aload_n 0, 1)) ∧ (decode cX6_ridersTo 45 = .ok (.getfield 39, 3)) := by decide +kernel
theorem dX6_ridersTo_38 : decode cX6_ridersTo 38 = .ok (.invokestatic 155, 3) := dX6_ridersTo_38_b.1
theorem dX6_ridersTo_41 : decode cX6_ridersTo 41 = .ok (.ior, 1) := dX6_ridersTo_38_b.2.1
theorem dX6_ridersTo_42 : decode cX6_ridersTo 42 = .ok (.ior, 1) := dX6_ridersTo_38_b.2.2.1
theorem dX6_ridersTo_43 : decode cX6_ridersTo 43 = .ok (.istore_n 2, 1) := dX6_ridersTo_38_b.2.2.2.1
theorem dX6_ridersTo_44 : decode cX6_ridersTo 44 = .ok (.aload_n 0, 1) := dX6_ridersTo_38_b.2.2.2.2.1
theorem dX6_ridersTo_45 : decode cX6_ridersTo 45 = .ok (.getfield 39, 3) := dX6_ridersTo_38_b.2.2.2.2.2
set_option maxRecDepth 20000 in
theorem dX6_ridersTo_48_b : (decode cX6_ridersTo 48 = .ok (.iload_n 3, 1)) ∧ (decode cX6_ridersTo 49 = .ok (.iaload, 1)) ∧ (decode cX6_ridersTo 50 = .ok (.istore_n 3, 1)) ∧ (decode cX6_ridersTo 51 = .ok (.iinc 4 1, 3)) ∧ (decode cX6_ridersTo 54 = .ok (.goto (-47), 3)) ∧ (decode cX6_ridersTo 57 = .ok (.iload_n 2, 1)) := by decide +kernel
theorem dX6_ridersTo_48 : decode cX6_ridersTo 48 = .ok (.iload_n 3, 1) := dX6_ridersTo_48_b.1
theorem dX6_ridersTo_49 : decode cX6_ridersTo 49 = .ok (.iaload, 1) := dX6_ridersTo_48_b.2.1
theorem dX6_ridersTo_50 : decode cX6_ridersTo 50 = .ok (.istore_n 3, 1) := dX6_ridersTo_48_b.2.2.1
theorem dX6_ridersTo_51 : decode cX6_ridersTo 51 = .ok (.iinc 4 1, 3) := dX6_ridersTo_48_b.2.2.2.1
theorem dX6_ridersTo_54 : decode cX6_ridersTo 54 = .ok (.goto (-47), 3) := dX6_ridersTo_48_b.2.2.2.2.1
theorem dX6_ridersTo_57 : decode cX6_ridersTo 57 = .ok (.iload_n 2, 1) := dX6_ridersTo_48_b.2.2.2.2.2
theorem dX6_ridersTo_58 : decode cX6_ridersTo 58 = .ok (.ireturn, 1) := by decide +kernel
set_option maxRecDepth 20000 in
theorem dX7_depth_0_b : (decode cX7_depth 0 = .ok (.iload_n 0, 1)) ∧ (decode cX7_depth 1 = .ok (.bipush 28, 2)) ∧ (decode cX7_depth 3 = .ok (.iushr, 1)) ∧ (decode cX7_depth 4 = .ok (.ireturn, 1)) := by decide +kernel
theorem dX7_depth_0 : decode cX7_depth 0 = .ok (.iload_n 0, 1) := dX7_depth_0_b.1
theorem dX7_depth_1 : decode cX7_depth 1 = .ok (.bipush 28, 2) := dX7_depth_0_b.2.1
theorem dX7_depth_3 : decode cX7_depth 3 = .ok (.iushr, 1) := dX7_depth_0_b.2.2.1
theorem dX7_depth_4 : decode cX7_depth 4 = .ok (.ireturn, 1) := dX7_depth_0_b.2.2.2
set_option maxRecDepth 20000 in
theorem dX7_move_0_b : (decode cX7_move 0 = .ok (.iload_n 0, 1)) ∧ (decode cX7_move 1 = .ok (.ldc 11, 2)) ∧ (decode cX7_move 3 = .ok (.iand, 1)) ∧ (decode cX7_move 4 = .ok (.iload_n 1, 1)) ∧ (decode cX7_move 5 = .ok (.bipush 28, 2)) ∧ (decode cX7_move 7 = .ok (.ishl, 1)) := by decide +kernel
theorem dX7_move_0 : decode cX7_move 0 = .ok (.iload_n 0, 1) := dX7_move_0_b.1
theorem dX7_move_1 : decode cX7_move 1 = .ok (.ldc 11, 2) := dX7_move_0_b.2.1
theorem dX7_move_3 : decode cX7_move 3 = .ok (.iand, 1) := dX7_move_0_b.2.2.1
theorem dX7_move_4 : decode cX7_move 4 = .ok (.iload_n 1, 1) := dX7_move_0_b.2.2.2.1
theorem dX7_move_5 : decode cX7_move 5 = .ok (.bipush 28, 2) := dX7_move_0_b.2.2.2.2.1
theorem dX7_move_7 : decode cX7_move 7 = .ok (.ishl, 1) := dX7_move_0_b.2.2.2.2.2
set_option maxRecDepth 20000 in
theorem dX7_move_8_b : (decode cX7_move 8 = .ok (.ior, 1)) ∧ (decode cX7_move 9 = .ok (.ireturn, 1)) := by decide +kernel
theorem dX7_move_8 : decode cX7_move 8 = .ok (.ior, 1) := dX7_move_8_b.1
theorem dX7_move_9 : decode cX7_move 9 = .ok (.ireturn, 1) := dX7_move_8_b.2
set_option maxRecDepth 20000 in
theorem dX7_place_0_b : (decode cX7_place 0 = .ok (.iload_n 0, 1)) ∧ (decode cX7_place 1 = .ok (.iconst 4, 1)) ∧ (decode cX7_place 2 = .ok (.iload_n 1, 1)) ∧ (decode cX7_place 3 = .ok (.imul, 1)) ∧ (decode cX7_place 4 = .ok (.iushr, 1)) ∧ (decode cX7_place 5 = .ok (.bipush 15, 2)) := by decide +kernel
theorem dX7_place_0 : decode cX7_place 0 = .ok (.iload_n 0, 1) := dX7_place_0_b.1
theorem dX7_place_1 : decode cX7_place 1 = .ok (.iconst 4, 1) := dX7_place_0_b.2.1
theorem dX7_place_2 : decode cX7_place 2 = .ok (.iload_n 1, 1) := dX7_place_0_b.2.2.1
theorem dX7_place_3 : decode cX7_place 3 = .ok (.imul, 1) := dX7_place_0_b.2.2.2.1
theorem dX7_place_4 : decode cX7_place 4 = .ok (.iushr, 1) := dX7_place_0_b.2.2.2.2.1
theorem dX7_place_5 : decode cX7_place 5 = .ok (.bipush 15, 2) := dX7_place_0_b.2.2.2.2.2
set_option maxRecDepth 20000 in
theorem dX7_place_7_b : (decode cX7_place 7 = .ok (.iand, 1)) ∧ (decode cX7_place 8 = .ok (.ireturn, 1)) := by decide +kernel
theorem dX7_place_7 : decode cX7_place 7 = .ok (.iand, 1) := dX7_place_7_b.1
theorem dX7_place_8 : decode cX7_place 8 = .ok (.ireturn, 1) := dX7_place_7_b.2
set_option maxRecDepth 20000 in
theorem dX7_put_0_b : (decode cX7_put 0 = .ok (.iload_n 0, 1)) ∧ (decode cX7_put 1 = .ok (.bipush 15, 2)) ∧ (decode cX7_put 3 = .ok (.iconst 4, 1)) ∧ (decode cX7_put 4 = .ok (.iload_n 1, 1)) ∧ (decode cX7_put 5 = .ok (.imul, 1)) ∧ (decode cX7_put 6 = .ok (.ishl, 1)) := by decide +kernel
theorem dX7_put_0 : decode cX7_put 0 = .ok (.iload_n 0, 1) := dX7_put_0_b.1
theorem dX7_put_1 : decode cX7_put 1 = .ok (.bipush 15, 2) := dX7_put_0_b.2.1
theorem dX7_put_3 : decode cX7_put 3 = .ok (.iconst 4, 1) := dX7_put_0_b.2.2.1
theorem dX7_put_4 : decode cX7_put 4 = .ok (.iload_n 1, 1) := dX7_put_0_b.2.2.2.1
theorem dX7_put_5 : decode cX7_put 5 = .ok (.imul, 1) := dX7_put_0_b.2.2.2.2.1
theorem dX7_put_6 : decode cX7_put 6 = .ok (.ishl, 1) := dX7_put_0_b.2.2.2.2.2
set_option maxRecDepth 20000 in
theorem dX7_put_7_b : (decode cX7_put 7 = .ok (.iconst (-1), 1)) ∧ (decode cX7_put 8 = .ok (.ixor, 1)) ∧ (decode cX7_put 9 = .ok (.iand, 1)) ∧ (decode cX7_put 10 = .ok (.iload_n 2, 1)) ∧ (decode cX7_put 11 = .ok (.iconst 4, 1)) ∧ (decode cX7_put 12 = .ok (.iload_n 1, 1)) := by decide +kernel
theorem dX7_put_7 : decode cX7_put 7 = .ok (.iconst (-1), 1) := dX7_put_7_b.1
theorem dX7_put_8 : decode cX7_put 8 = .ok (.ixor, 1) := dX7_put_7_b.2.1
theorem dX7_put_9 : decode cX7_put 9 = .ok (.iand, 1) := dX7_put_7_b.2.2.1
theorem dX7_put_10 : decode cX7_put 10 = .ok (.iload_n 2, 1) := dX7_put_7_b.2.2.2.1
theorem dX7_put_11 : decode cX7_put 11 = .ok (.iconst 4, 1) := dX7_put_7_b.2.2.2.2.1
theorem dX7_put_12 : decode cX7_put 12 = .ok (.iload_n 1, 1) := dX7_put_7_b.2.2.2.2.2
set_option maxRecDepth 20000 in
theorem dX7_put_13_b : (decode cX7_put 13 = .ok (.imul, 1)) ∧ (decode cX7_put 14 = .ok (.ishl, 1)) ∧ (decode cX7_put 15 = .ok (.ior, 1)) ∧ (decode cX7_put 16 = .ok (.ireturn, 1)) := by decide +kernel
theorem dX7_put_13 : decode cX7_put 13 = .ok (.imul, 1) := dX7_put_13_b.1
theorem dX7_put_14 : decode cX7_put 14 = .ok (.ishl, 1) := dX7_put_13_b.2.1
theorem dX7_put_15 : decode cX7_put 15 = .ok (.ior, 1) := dX7_put_13_b.2.2.1
theorem dX7_put_16 : decode cX7_put 16 = .ok (.ireturn, 1) := dX7_put_13_b.2.2.2
set_option maxRecDepth 20000 in
theorem dX7_bucketOf_0_b : (decode cX7_bucketOf 0 = .ok (.iload_n 0, 1)) ∧ (decode cX7_bucketOf 1 = .ok (.iload_n 1, 1)) ∧ (decode cX7_bucketOf 2 = .ok (.invokestatic 12, 3)) ∧ (decode cX7_bucketOf 5 = .ok (.istore_n 2, 1)) ∧ (decode cX7_bucketOf 6 = .ok (.iload_n 2, 1)) ∧ (decode cX7_bucketOf 7 = .ok (.bipush 12, 2)) := by decide +kernel
theorem dX7_bucketOf_0 : decode cX7_bucketOf 0 = .ok (.iload_n 0, 1) := dX7_bucketOf_0_b.1
theorem dX7_bucketOf_1 : decode cX7_bucketOf 1 = .ok (.iload_n 1, 1) := dX7_bucketOf_0_b.2.1
theorem dX7_bucketOf_2 : decode cX7_bucketOf 2 = .ok (.invokestatic 12, 3) := dX7_bucketOf_0_b.2.2.1
theorem dX7_bucketOf_5 : decode cX7_bucketOf 5 = .ok (.istore_n 2, 1) := dX7_bucketOf_0_b.2.2.2.1
theorem dX7_bucketOf_6 : decode cX7_bucketOf 6 = .ok (.iload_n 2, 1) := dX7_bucketOf_0_b.2.2.2.2.1
theorem dX7_bucketOf_7 : decode cX7_bucketOf 7 = .ok (.bipush 12, 2) := dX7_bucketOf_0_b.2.2.2.2.2
set_option maxRecDepth 20000 in
theorem dX7_bucketOf_9_b : (decode cX7_bucketOf 9 = .ok (.if_icmp .eq 9, 3)) ∧ (decode cX7_bucketOf 12 = .ok (.iload_n 2, 1)) ∧ (decode cX7_bucketOf 13 = .ok (.bipush 13, 2)) ∧ (decode cX7_bucketOf 15 = .ok (.if_icmp .ne 10, 3)) ∧ (decode cX7_bucketOf 18 = .ok (.iload_n 2, 1)) ∧ (decode cX7_bucketOf 19 = .ok (.bipush 12, 2)) := by decide +kernel
theorem dX7_bucketOf_9 : decode cX7_bucketOf 9 = .ok (.if_icmp .eq 9, 3) := dX7_bucketOf_9_b.1
theorem dX7_bucketOf_12 : decode cX7_bucketOf 12 = .ok (.iload_n 2, 1) := dX7_bucketOf_9_b.2.1
theorem dX7_bucketOf_13 : decode cX7_bucketOf 13 = .ok (.bipush 13, 2) := dX7_bucketOf_9_b.2.2.1
theorem dX7_bucketOf_15 : decode cX7_bucketOf 15 = .ok (.if_icmp .ne 10, 3) := dX7_bucketOf_9_b.2.2.2.1
theorem dX7_bucketOf_18 : decode cX7_bucketOf 18 = .ok (.iload_n 2, 1) := dX7_bucketOf_9_b.2.2.2.2.1
theorem dX7_bucketOf_19 : decode cX7_bucketOf 19 = .ok (.bipush 12, 2) := dX7_bucketOf_9_b.2.2.2.2.2
set_option maxRecDepth 20000 in
theorem dX7_bucketOf_21_b : (decode cX7_bucketOf 21 = .ok (.isub, 1)) ∧ (decode cX7_bucketOf 22 = .ok (.goto 4, 3)) ∧ (decode cX7_bucketOf 25 = .ok (.iconst (-1), 1)) ∧ (decode cX7_bucketOf 26 = .ok (.ireturn, 1)) := by decide +kernel
theorem dX7_bucketOf_21 : decode cX7_bucketOf 21 = .ok (.isub, 1) := dX7_bucketOf_21_b.1
theorem dX7_bucketOf_22 : decode cX7_bucketOf 22 = .ok (.goto 4, 3) := dX7_bucketOf_21_b.2.1
theorem dX7_bucketOf_25 : decode cX7_bucketOf 25 = .ok (.iconst (-1), 1) := dX7_bucketOf_21_b.2.2.1
theorem dX7_bucketOf_26 : decode cX7_bucketOf 26 = .ok (.ireturn, 1) := dX7_bucketOf_21_b.2.2.2
set_option maxRecDepth 20000 in
theorem dX7_thingsIn_0_b : (decode cX7_thingsIn 0 = .ok (.iconst 0, 1)) ∧ (decode cX7_thingsIn 1 = .ok (.istore_n 2, 1)) ∧ (decode cX7_thingsIn 2 = .ok (.iconst 0, 1)) ∧ (decode cX7_thingsIn 3 = .ok (.istore_n 3, 1)) ∧ (decode cX7_thingsIn 4 = .ok (.iload_n 3, 1)) ∧ (decode cX7_thingsIn 5 = .ok (.bipush 7, 2)) := by decide +kernel
theorem dX7_thingsIn_0 : decode cX7_thingsIn 0 = .ok (.iconst 0, 1) := dX7_thingsIn_0_b.1
theorem dX7_thingsIn_1 : decode cX7_thingsIn 1 = .ok (.istore_n 2, 1) := dX7_thingsIn_0_b.2.1
theorem dX7_thingsIn_2 : decode cX7_thingsIn 2 = .ok (.iconst 0, 1) := dX7_thingsIn_0_b.2.2.1
theorem dX7_thingsIn_3 : decode cX7_thingsIn 3 = .ok (.istore_n 3, 1) := dX7_thingsIn_0_b.2.2.2.1
theorem dX7_thingsIn_4 : decode cX7_thingsIn 4 = .ok (.iload_n 3, 1) := dX7_thingsIn_0_b.2.2.2.2.1
theorem dX7_thingsIn_5 : decode cX7_thingsIn 5 = .ok (.bipush 7, 2) := dX7_thingsIn_0_b.2.2.2.2.2
set_option maxRecDepth 20000 in
theorem dX7_thingsIn_7_b : (decode cX7_thingsIn 7 = .ok (.if_icmp .ge 27, 3)) ∧ (decode cX7_thingsIn 10 = .ok (.iload_n 0, 1)) ∧ (decode cX7_thingsIn 11 = .ok (.iload_n 3, 1)) ∧ (decode cX7_thingsIn 12 = .ok (.invokestatic 12, 3)) ∧ (decode cX7_thingsIn 15 = .ok (.bipush 12, 2)) ∧ (decode cX7_thingsIn 17 = .ok (.iload_n 1, 1)) := by decide +kernel
theorem dX7_thingsIn_7 : decode cX7_thingsIn 7 = .ok (.if_icmp .ge 27, 3) := dX7_thingsIn_7_b.1
theorem dX7_thingsIn_10 : decode cX7_thingsIn 10 = .ok (.iload_n 0, 1) := dX7_thingsIn_7_b.2.1
theorem dX7_thingsIn_11 : decode cX7_thingsIn 11 = .ok (.iload_n 3, 1) := dX7_thingsIn_7_b.2.2.1
theorem dX7_thingsIn_12 : decode cX7_thingsIn 12 = .ok (.invokestatic 12, 3) := dX7_thingsIn_7_b.2.2.2.1
theorem dX7_thingsIn_15 : decode cX7_thingsIn 15 = .ok (.bipush 12, 2) := dX7_thingsIn_7_b.2.2.2.2.1
theorem dX7_thingsIn_17 : decode cX7_thingsIn 17 = .ok (.iload_n 1, 1) := dX7_thingsIn_7_b.2.2.2.2.2
set_option maxRecDepth 20000 in
theorem dX7_thingsIn_18_b : (decode cX7_thingsIn 18 = .ok (.iadd, 1)) ∧ (decode cX7_thingsIn 19 = .ok (.if_icmp .ne 9, 3)) ∧ (decode cX7_thingsIn 22 = .ok (.iload_n 2, 1)) ∧ (decode cX7_thingsIn 23 = .ok (.iconst 1, 1)) ∧ (decode cX7_thingsIn 24 = .ok (.iload_n 3, 1)) ∧ (decode cX7_thingsIn 25 = .ok (.ishl, 1)) := by decide +kernel
theorem dX7_thingsIn_18 : decode cX7_thingsIn 18 = .ok (.iadd, 1) := dX7_thingsIn_18_b.1
theorem dX7_thingsIn_19 : decode cX7_thingsIn 19 = .ok (.if_icmp .ne 9, 3) := dX7_thingsIn_18_b.2.1
theorem dX7_thingsIn_22 : decode cX7_thingsIn 22 = .ok (.iload_n 2, 1) := dX7_thingsIn_18_b.2.2.1
theorem dX7_thingsIn_23 : decode cX7_thingsIn 23 = .ok (.iconst 1, 1) := dX7_thingsIn_18_b.2.2.2.1
theorem dX7_thingsIn_24 : decode cX7_thingsIn 24 = .ok (.iload_n 3, 1) := dX7_thingsIn_18_b.2.2.2.2.1
theorem dX7_thingsIn_25 : decode cX7_thingsIn 25 = .ok (.ishl, 1) := dX7_thingsIn_18_b.2.2.2.2.2
set_option maxRecDepth 20000 in
theorem dX7_thingsIn_26_b : (decode cX7_thingsIn 26 = .ok (.ior, 1)) ∧ (decode cX7_thingsIn 27 = .ok (.istore_n 2, 1)) ∧ (decode cX7_thingsIn 28 = .ok (.iinc 3 1, 3)) ∧ (decode cX7_thingsIn 31 = .ok (.goto (-27), 3)) ∧ (decode cX7_thingsIn 34 = .ok (.iload_n 2, 1)) ∧ (decode cX7_thingsIn 35 = .ok (.ireturn, 1)) := by decide +kernel
theorem dX7_thingsIn_26 : decode cX7_thingsIn 26 = .ok (.ior, 1) := dX7_thingsIn_26_b.1
theorem dX7_thingsIn_27 : decode cX7_thingsIn 27 = .ok (.istore_n 2, 1) := dX7_thingsIn_26_b.2.1
theorem dX7_thingsIn_28 : decode cX7_thingsIn 28 = .ok (.iinc 3 1, 3) := dX7_thingsIn_26_b.2.2.1
theorem dX7_thingsIn_31 : decode cX7_thingsIn 31 = .ok (.goto (-27), 3) := dX7_thingsIn_26_b.2.2.2.1
theorem dX7_thingsIn_34 : decode cX7_thingsIn 34 = .ok (.iload_n 2, 1) := dX7_thingsIn_26_b.2.2.2.2.1
theorem dX7_thingsIn_35 : decode cX7_thingsIn 35 = .ok (.ireturn, 1) := dX7_thingsIn_26_b.2.2.2.2.2
set_option maxRecDepth 20000 in
theorem dX7_without_0_b : (decode cX7_without 0 = .ok (.iload_n 0, 1)) ∧ (decode cX7_without 1 = .ok (.istore_n 2, 1)) ∧ (decode cX7_without 2 = .ok (.iconst 0, 1)) ∧ (decode cX7_without 3 = .ok (.istore_n 3, 1)) ∧ (decode cX7_without 4 = .ok (.iload_n 3, 1)) ∧ (decode cX7_without 5 = .ok (.bipush 7, 2)) := by decide +kernel
theorem dX7_without_0 : decode cX7_without 0 = .ok (.iload_n 0, 1) := dX7_without_0_b.1
theorem dX7_without_1 : decode cX7_without 1 = .ok (.istore_n 2, 1) := dX7_without_0_b.2.1
theorem dX7_without_2 : decode cX7_without 2 = .ok (.iconst 0, 1) := dX7_without_0_b.2.2.1
theorem dX7_without_3 : decode cX7_without 3 = .ok (.istore_n 3, 1) := dX7_without_0_b.2.2.2.1
theorem dX7_without_4 : decode cX7_without 4 = .ok (.iload_n 3, 1) := dX7_without_0_b.2.2.2.2.1
theorem dX7_without_5 : decode cX7_without 5 = .ok (.bipush 7, 2) := dX7_without_0_b.2.2.2.2.2
set_option maxRecDepth 20000 in
theorem dX7_without_7_b : (decode cX7_without 7 = .ok (.if_icmp .ge 25, 3)) ∧ (decode cX7_without 10 = .ok (.iload_n 1, 1)) ∧ (decode cX7_without 11 = .ok (.iload_n 3, 1)) ∧ (decode cX7_without 12 = .ok (.ishr, 1)) ∧ (decode cX7_without 13 = .ok (.iconst 1, 1)) ∧ (decode cX7_without 14 = .ok (.iand, 1)) := by decide +kernel
theorem dX7_without_7 : decode cX7_without 7 = .ok (.if_icmp .ge 25, 3) := dX7_without_7_b.1
theorem dX7_without_10 : decode cX7_without 10 = .ok (.iload_n 1, 1) := dX7_without_7_b.2.1
theorem dX7_without_11 : decode cX7_without 11 = .ok (.iload_n 3, 1) := dX7_without_7_b.2.2.1
theorem dX7_without_12 : decode cX7_without 12 = .ok (.ishr, 1) := dX7_without_7_b.2.2.2.1
theorem dX7_without_13 : decode cX7_without 13 = .ok (.iconst 1, 1) := dX7_without_7_b.2.2.2.2.1
theorem dX7_without_14 : decode cX7_without 14 = .ok (.iand, 1) := dX7_without_7_b.2.2.2.2.2
set_option maxRecDepth 20000 in
theorem dX7_without_15_b : (decode cX7_without 15 = .ok (.ifCond .eq 11, 3)) ∧ (decode cX7_without 18 = .ok (.iload_n 2, 1)) ∧ (decode cX7_without 19 = .ok (.iload_n 3, 1)) ∧ (decode cX7_without 20 = .ok (.bipush 15, 2)) ∧ (decode cX7_without 22 = .ok (.invokestatic 16, 3)) ∧ (decode cX7_without 25 = .ok (.istore_n 2, 1)) := by decide +kernel
theorem dX7_without_15 : decode cX7_without 15 = .ok (.ifCond .eq 11, 3) := dX7_without_15_b.1
theorem dX7_without_18 : decode cX7_without 18 = .ok (.iload_n 2, 1) := dX7_without_15_b.2.1
theorem dX7_without_19 : decode cX7_without 19 = .ok (.iload_n 3, 1) := dX7_without_15_b.2.2.1
theorem dX7_without_20 : decode cX7_without 20 = .ok (.bipush 15, 2) := dX7_without_15_b.2.2.2.1
theorem dX7_without_22 : decode cX7_without 22 = .ok (.invokestatic 16, 3) := dX7_without_15_b.2.2.2.2.1
theorem dX7_without_25 : decode cX7_without 25 = .ok (.istore_n 2, 1) := dX7_without_15_b.2.2.2.2.2
set_option maxRecDepth 20000 in
theorem dX7_without_26_b : (decode cX7_without 26 = .ok (.iinc 3 1, 3)) ∧ (decode cX7_without 29 = .ok (.goto (-25), 3)) ∧ (decode cX7_without 32 = .ok (.iload_n 2, 1)) ∧ (decode cX7_without 33 = .ok (.ireturn, 1)) := by decide +kernel
theorem dX7_without_26 : decode cX7_without 26 = .ok (.iinc 3 1, 3) := dX7_without_26_b.1
theorem dX7_without_29 : decode cX7_without 29 = .ok (.goto (-25), 3) := dX7_without_26_b.2.1
theorem dX7_without_32 : decode cX7_without 32 = .ok (.iload_n 2, 1) := dX7_without_26_b.2.2.1
theorem dX7_without_33 : decode cX7_without 33 = .ok (.ireturn, 1) := dX7_without_26_b.2.2.2
set_option maxRecDepth 20000 in
theorem dX9_feed_0_b : (decode cX9_feed 0 = .ok (.aload_n 0, 1)) ∧ (decode cX9_feed 1 = .ok (.getfield 13, 3)) ∧ (decode cX9_feed 4 = .ok (.bipush 20, 2)) ∧ (decode cX9_feed 6 = .ok (.iadd, 1)) ∧ (decode cX9_feed 7 = .ok (.sipush 600, 3)) ∧ (decode cX9_feed 10 = .ok (.if_icmp .le 5, 3)) := by decide +kernel
theorem dX9_feed_0 : decode cX9_feed 0 = .ok (.aload_n 0, 1) := dX9_feed_0_b.1
theorem dX9_feed_1 : decode cX9_feed 1 = .ok (.getfield 13, 3) := dX9_feed_0_b.2.1
theorem dX9_feed_4 : decode cX9_feed 4 = .ok (.bipush 20, 2) := dX9_feed_0_b.2.2.1
theorem dX9_feed_6 : decode cX9_feed 6 = .ok (.iadd, 1) := dX9_feed_0_b.2.2.2.1
theorem dX9_feed_7 : decode cX9_feed 7 = .ok (.sipush 600, 3) := dX9_feed_0_b.2.2.2.2.1
theorem dX9_feed_10 : decode cX9_feed 10 = .ok (.if_icmp .le 5, 3) := dX9_feed_0_b.2.2.2.2.2
set_option maxRecDepth 20000 in
theorem dX9_feed_13_b : (decode cX9_feed 13 = .ok (.iconst (-1), 1)) ∧ (decode cX9_feed 14 = .ok (.ireturn, 1)) ∧ (decode cX9_feed 15 = .ok (.aload_n 0, 1)) ∧ (decode cX9_feed 16 = .ok (.iload_n 1, 1)) ∧ (decode cX9_feed 17 = .ok (.invokevirtual 72, 3)) ∧ (decode cX9_feed 20 = .ok (.aload_n 0, 1)) := by decide +kernel
theorem dX9_feed_13 : decode cX9_feed 13 = .ok (.iconst (-1), 1) := dX9_feed_13_b.1
theorem dX9_feed_14 : decode cX9_feed 14 = .ok (.ireturn, 1) := dX9_feed_13_b.2.1
theorem dX9_feed_15 : decode cX9_feed 15 = .ok (.aload_n 0, 1) := dX9_feed_13_b.2.2.1
theorem dX9_feed_16 : decode cX9_feed 16 = .ok (.iload_n 1, 1) := dX9_feed_13_b.2.2.2.1
theorem dX9_feed_17 : decode cX9_feed 17 = .ok (.invokevirtual 72, 3) := dX9_feed_13_b.2.2.2.2.1
theorem dX9_feed_20 : decode cX9_feed 20 = .ok (.aload_n 0, 1) := dX9_feed_13_b.2.2.2.2.2
set_option maxRecDepth 20000 in
theorem dX9_feed_21_b : (decode cX9_feed 21 = .ok (.iload_n 2, 1)) ∧ (decode cX9_feed 22 = .ok (.invokevirtual 72, 3)) ∧ (decode cX9_feed 25 = .ok (.aload_n 0, 1)) ∧ (decode cX9_feed 26 = .ok (.iload_n 3, 1)) ∧ (decode cX9_feed 27 = .ok (.invokevirtual 72, 3)) ∧ (decode cX9_feed 30 = .ok (.aload_n 0, 1)) := by decide +kernel
theorem dX9_feed_21 : decode cX9_feed 21 = .ok (.iload_n 2, 1) := dX9_feed_21_b.1
theorem dX9_feed_22 : decode cX9_feed 22 = .ok (.invokevirtual 72, 3) := dX9_feed_21_b.2.1
theorem dX9_feed_25 : decode cX9_feed 25 = .ok (.aload_n 0, 1) := dX9_feed_21_b.2.2.1
theorem dX9_feed_26 : decode cX9_feed 26 = .ok (.iload_n 3, 1) := dX9_feed_21_b.2.2.2.1
theorem dX9_feed_27 : decode cX9_feed 27 = .ok (.invokevirtual 72, 3) := dX9_feed_21_b.2.2.2.2.1
theorem dX9_feed_30 : decode cX9_feed 30 = .ok (.aload_n 0, 1) := dX9_feed_21_b.2.2.2.2.2
set_option maxRecDepth 20000 in
theorem dX9_feed_31_b : (decode cX9_feed 31 = .ok (.iload 4, 2)) ∧ (decode cX9_feed 33 = .ok (.invokevirtual 72, 3)) ∧ (decode cX9_feed 36 = .ok (.aload_n 0, 1)) ∧ (decode cX9_feed 37 = .ok (.iload 5, 2)) ∧ (decode cX9_feed 39 = .ok (.invokevirtual 72, 3)) ∧ (decode cX9_feed 42 = .ok (.aload_n 0, 1)) := by decide +kernel
theorem dX9_feed_31 : decode cX9_feed 31 = .ok (.iload 4, 2) := dX9_feed_31_b.1
theorem dX9_feed_33 : decode cX9_feed 33 = .ok (.invokevirtual 72, 3) := dX9_feed_31_b.2.1
theorem dX9_feed_36 : decode cX9_feed 36 = .ok (.aload_n 0, 1) := dX9_feed_31_b.2.2.1
theorem dX9_feed_37 : decode cX9_feed 37 = .ok (.iload 5, 2) := dX9_feed_31_b.2.2.2.1
theorem dX9_feed_39 : decode cX9_feed 39 = .ok (.invokevirtual 72, 3) := dX9_feed_31_b.2.2.2.2.1
theorem dX9_feed_42 : decode cX9_feed 42 = .ok (.aload_n 0, 1) := dX9_feed_31_b.2.2.2.2.2
set_option maxRecDepth 20000 in
theorem dX9_feed_43_b : (decode cX9_feed 43 = .ok (.getfield 13, 3)) ∧ (decode cX9_feed 46 = .ok (.ireturn, 1)) := by decide +kernel
theorem dX9_feed_43 : decode cX9_feed 43 = .ok (.getfield 13, 3) := dX9_feed_43_b.1
theorem dX9_feed_46 : decode cX9_feed 46 = .ok (.ireturn, 1) := dX9_feed_43_b.2
set_option maxRecDepth 20000 in
theorem dX9_append_0_b : (decode cX9_append 0 = .ok (.bipush 24, 2)) ∧ (decode cX9_append 2 = .ok (.istore_n 2, 1)) ∧ (decode cX9_append 3 = .ok (.iload_n 2, 1)) ∧ (decode cX9_append 4 = .ok (.ifCond .lt 42, 3)) ∧ (decode cX9_append 7 = .ok (.aload_n 0, 1)) ∧ (decode cX9_append 8 = .ok (.getfield 13, 3)) := by decide +kernel
theorem dX9_append_0 : decode cX9_append 0 = .ok (.bipush 24, 2) := dX9_append_0_b.1
theorem dX9_append_2 : decode cX9_append 2 = .ok (.istore_n 2, 1) := dX9_append_0_b.2.1
theorem dX9_append_3 : decode cX9_append 3 = .ok (.iload_n 2, 1) := dX9_append_0_b.2.2.1
theorem dX9_append_4 : decode cX9_append 4 = .ok (.ifCond .lt 42, 3) := dX9_append_0_b.2.2.2.1
theorem dX9_append_7 : decode cX9_append 7 = .ok (.aload_n 0, 1) := dX9_append_0_b.2.2.2.2.1
theorem dX9_append_8 : decode cX9_append 8 = .ok (.getfield 13, 3) := dX9_append_0_b.2.2.2.2.2
set_option maxRecDepth 20000 in
theorem dX9_append_11_b : (decode cX9_append 11 = .ok (.sipush 600, 3)) ∧ (decode cX9_append 14 = .ok (.if_icmp .ge 32, 3)) ∧ (decode cX9_append 17 = .ok (.aload_n 0, 1)) ∧ (decode cX9_append 18 = .ok (.getfield 9, 3)) ∧ (decode cX9_append 21 = .ok (.aload_n 0, 1)) ∧ (decode cX9_append 22 = .ok (.getfield 13, 3)) := by decide +kernel
theorem dX9_append_11 : decode cX9_append 11 = .ok (.sipush 600, 3) := dX9_append_11_b.1
theorem dX9_append_14 : decode cX9_append 14 = .ok (.if_icmp .ge 32, 3) := dX9_append_11_b.2.1
theorem dX9_append_17 : decode cX9_append 17 = .ok (.aload_n 0, 1) := dX9_append_11_b.2.2.1
theorem dX9_append_18 : decode cX9_append 18 = .ok (.getfield 9, 3) := dX9_append_11_b.2.2.2.1
theorem dX9_append_21 : decode cX9_append 21 = .ok (.aload_n 0, 1) := dX9_append_11_b.2.2.2.2.1
theorem dX9_append_22 : decode cX9_append 22 = .ok (.getfield 13, 3) := dX9_append_11_b.2.2.2.2.2
set_option maxRecDepth 20000 in
theorem dX9_append_25_b : (decode cX9_append 25 = .ok (.iload_n 1, 1)) ∧ (decode cX9_append 26 = .ok (.iload_n 2, 1)) ∧ (decode cX9_append 27 = .ok (.ishr, 1)) ∧ (decode cX9_append 28 = .ok (.i2b, 1)) ∧ (decode cX9_append 29 = .ok (.bastore, 1)) ∧ (decode cX9_append 30 = .ok (.aload_n 0, 1)) := by decide +kernel
theorem dX9_append_25 : decode cX9_append 25 = .ok (.iload_n 1, 1) := dX9_append_25_b.1
theorem dX9_append_26 : decode cX9_append 26 = .ok (.iload_n 2, 1) := dX9_append_25_b.2.1
theorem dX9_append_27 : decode cX9_append 27 = .ok (.ishr, 1) := dX9_append_25_b.2.2.1
theorem dX9_append_28 : decode cX9_append 28 = .ok (.i2b, 1) := dX9_append_25_b.2.2.2.1
theorem dX9_append_29 : decode cX9_append 29 = .ok (.bastore, 1) := dX9_append_25_b.2.2.2.2.1
theorem dX9_append_30 : decode cX9_append 30 = .ok (.aload_n 0, 1) := dX9_append_25_b.2.2.2.2.2
set_option maxRecDepth 20000 in
theorem dX9_append_31_b : (decode cX9_append 31 = .ok (.dup, 1)) ∧ (decode cX9_append 32 = .ok (.getfield 13, 3)) ∧ (decode cX9_append 35 = .ok (.iconst 1, 1)) ∧ (decode cX9_append 36 = .ok (.iadd, 1)) ∧ (decode cX9_append 37 = .ok (.putfield 13, 3)) ∧ (decode cX9_append 40 = .ok (.iinc 2 (-8), 3)) := by decide +kernel
theorem dX9_append_31 : decode cX9_append 31 = .ok (.dup, 1) := dX9_append_31_b.1
theorem dX9_append_32 : decode cX9_append 32 = .ok (.getfield 13, 3) := dX9_append_31_b.2.1
theorem dX9_append_35 : decode cX9_append 35 = .ok (.iconst 1, 1) := dX9_append_31_b.2.2.1
theorem dX9_append_36 : decode cX9_append 36 = .ok (.iadd, 1) := dX9_append_31_b.2.2.2.1
theorem dX9_append_37 : decode cX9_append 37 = .ok (.putfield 13, 3) := dX9_append_31_b.2.2.2.2.1
theorem dX9_append_40 : decode cX9_append 40 = .ok (.iinc 2 (-8), 3) := dX9_append_31_b.2.2.2.2.2
set_option maxRecDepth 20000 in
theorem dX9_append_43_b : (decode cX9_append 43 = .ok (.goto (-40), 3)) ∧ (decode cX9_append 46 = .ok (.return_, 1)) := by decide +kernel
theorem dX9_append_43 : decode cX9_append 43 = .ok (.goto (-40), 3) := dX9_append_43_b.1
theorem dX9_append_46 : decode cX9_append 46 = .ok (.return_, 1) := dX9_append_43_b.2
set_option maxRecDepth 20000 in
theorem dX9_town_0_b : (decode cX9_town 0 = .ok (.iload_n 1, 1)) ∧ (decode cX9_town 1 = .ok (.ifCond .lt 11, 3)) ∧ (decode cX9_town 4 = .ok (.iload_n 1, 1)) ∧ (decode cX9_town 5 = .ok (.aload_n 0, 1)) ∧ (decode cX9_town 6 = .ok (.getfield 13, 3)) ∧ (decode cX9_town 9 = .ok (.if_icmp .le 13, 3)) := by decide +kernel
theorem dX9_town_0 : decode cX9_town 0 = .ok (.iload_n 1, 1) := dX9_town_0_b.1
theorem dX9_town_1 : decode cX9_town 1 = .ok (.ifCond .lt 11, 3) := dX9_town_0_b.2.1
theorem dX9_town_4 : decode cX9_town 4 = .ok (.iload_n 1, 1) := dX9_town_0_b.2.2.1
theorem dX9_town_5 : decode cX9_town 5 = .ok (.aload_n 0, 1) := dX9_town_0_b.2.2.2.1
theorem dX9_town_6 : decode cX9_town 6 = .ok (.getfield 13, 3) := dX9_town_0_b.2.2.2.2.1
theorem dX9_town_9 : decode cX9_town 9 = .ok (.if_icmp .le 13, 3) := dX9_town_0_b.2.2.2.2.2
set_option maxRecDepth 20000 in
theorem dX9_town_12_b : (decode cX9_town 12 = .ok (.new 75, 3)) ∧ (decode cX9_town 15 = .ok (.dup, 1)) ∧ (decode cX9_town 16 = .ok (.ldc 77, 2)) ∧ (decode cX9_town 18 = .ok (.invokespecial 79, 3)) ∧ (decode cX9_town 21 = .ok (.athrow, 1)) ∧ (decode cX9_town 22 = .ok (.aload_n 0, 1)) := by decide +kernel
theorem dX9_town_12 : decode cX9_town 12 = .ok (.new 75, 3) := dX9_town_12_b.1
theorem dX9_town_15 : decode cX9_town 15 = .ok (.dup, 1) := dX9_town_12_b.2.1
theorem dX9_town_16 : decode cX9_town 16 = .ok (.ldc 77, 2) := dX9_town_12_b.2.2.1
theorem dX9_town_18 : decode cX9_town 18 = .ok (.invokespecial 79, 3) := dX9_town_12_b.2.2.2.1
theorem dX9_town_21 : decode cX9_town 21 = .ok (.athrow, 1) := dX9_town_12_b.2.2.2.2.1
theorem dX9_town_22 : decode cX9_town 22 = .ok (.aload_n 0, 1) := dX9_town_12_b.2.2.2.2.2
set_option maxRecDepth 20000 in
theorem dX9_town_23_b : (decode cX9_town 23 = .ok (.iconst 0, 1)) ∧ (decode cX9_town 24 = .ok (.putfield 13, 3)) ∧ (decode cX9_town 27 = .ok (.aload_n 0, 1)) ∧ (decode cX9_town 28 = .ok (.getfield 35, 3)) ∧ (decode cX9_town 31 = .ok (.aload_n 0, 1)) ∧ (decode cX9_town 32 = .ok (.getfield 9, 3)) := by decide +kernel
theorem dX9_town_23 : decode cX9_town 23 = .ok (.iconst 0, 1) := dX9_town_23_b.1
theorem dX9_town_24 : decode cX9_town 24 = .ok (.putfield 13, 3) := dX9_town_23_b.2.1
theorem dX9_town_27 : decode cX9_town 27 = .ok (.aload_n 0, 1) := dX9_town_23_b.2.2.1
theorem dX9_town_28 : decode cX9_town 28 = .ok (.getfield 35, 3) := dX9_town_23_b.2.2.2.1
theorem dX9_town_31 : decode cX9_town 31 = .ok (.aload_n 0, 1) := dX9_town_23_b.2.2.2.2.1
theorem dX9_town_32 : decode cX9_town 32 = .ok (.getfield 9, 3) := dX9_town_23_b.2.2.2.2.2
set_option maxRecDepth 20000 in
theorem dX9_town_35_b : (decode cX9_town 35 = .ok (.iload_n 1, 1)) ∧ (decode cX9_town 36 = .ok (.aload_n 0, 1)) ∧ (decode cX9_town 37 = .ok (.getfield 27, 3)) ∧ (decode cX9_town 40 = .ok (.invokevirtual 82, 3)) ∧ (decode cX9_town 43 = .ok (.istore_n 2, 1)) ∧ (decode cX9_town 44 = .ok (.aload_n 0, 1)) := by decide +kernel
theorem dX9_town_35 : decode cX9_town 35 = .ok (.iload_n 1, 1) := dX9_town_35_b.1
theorem dX9_town_36 : decode cX9_town 36 = .ok (.aload_n 0, 1) := dX9_town_35_b.2.1
theorem dX9_town_37 : decode cX9_town 37 = .ok (.getfield 27, 3) := dX9_town_35_b.2.2.1
theorem dX9_town_40 : decode cX9_town 40 = .ok (.invokevirtual 82, 3) := dX9_town_35_b.2.2.2.1
theorem dX9_town_43 : decode cX9_town 43 = .ok (.istore_n 2, 1) := dX9_town_35_b.2.2.2.2.1
theorem dX9_town_44 : decode cX9_town 44 = .ok (.aload_n 0, 1) := dX9_town_35_b.2.2.2.2.2
set_option maxRecDepth 20000 in
theorem dX9_town_45_b : (decode cX9_town 45 = .ok (.aload_n 0, 1)) ∧ (decode cX9_town 46 = .ok (.getfield 35, 3)) ∧ (decode cX9_town 49 = .ok (.getfield 86, 3)) ∧ (decode cX9_town 52 = .ok (.putfield 17, 3)) ∧ (decode cX9_town 55 = .ok (.iload_n 2, 1)) ∧ (decode cX9_town 56 = .ok (.ifCond .eq 18, 3)) := by decide +kernel
theorem dX9_town_45 : decode cX9_town 45 = .ok (.aload_n 0, 1) := dX9_town_45_b.1
theorem dX9_town_46 : decode cX9_town 46 = .ok (.getfield 35, 3) := dX9_town_45_b.2.1
theorem dX9_town_49 : decode cX9_town 49 = .ok (.getfield 86, 3) := dX9_town_45_b.2.2.1
theorem dX9_town_52 : decode cX9_town 52 = .ok (.putfield 17, 3) := dX9_town_45_b.2.2.2.1
theorem dX9_town_55 : decode cX9_town 55 = .ok (.iload_n 2, 1) := dX9_town_45_b.2.2.2.2.1
theorem dX9_town_56 : decode cX9_town 56 = .ok (.ifCond .eq 18, 3) := dX9_town_45_b.2.2.2.2.2
set_option maxRecDepth 20000 in
theorem dX9_town_59_b : (decode cX9_town 59 = .ok (.aload_n 0, 1)) ∧ (decode cX9_town 60 = .ok (.getfield 42, 3)) ∧ (decode cX9_town 63 = .ok (.getfield 87, 3)) ∧ (decode cX9_town 66 = .ok (.iconst 0, 1)) ∧ (decode cX9_town 67 = .ok (.dup2, 1)) ∧ (decode cX9_town 68 = .ok (.iaload, 1)) := by decide +kernel
theorem dX9_town_59 : decode cX9_town 59 = .ok (.aload_n 0, 1) := dX9_town_59_b.1
theorem dX9_town_60 : decode cX9_town 60 = .ok (.getfield 42, 3) := dX9_town_59_b.2.1
theorem dX9_town_63 : decode cX9_town 63 = .ok (.getfield 87, 3) := dX9_town_59_b.2.2.1
theorem dX9_town_66 : decode cX9_town 66 = .ok (.iconst 0, 1) := dX9_town_59_b.2.2.2.1
theorem dX9_town_67 : decode cX9_town 67 = .ok (.dup2, 1) := dX9_town_59_b.2.2.2.2.1
theorem dX9_town_68 : decode cX9_town 68 = .ok (.iaload, 1) := dX9_town_59_b.2.2.2.2.2
set_option maxRecDepth 20000 in
theorem dX9_town_69_b : (decode cX9_town 69 = .ok (.iconst 1, 1)) ∧ (decode cX9_town 70 = .ok (.iadd, 1)) ∧ (decode cX9_town 71 = .ok (.iastore, 1)) ∧ (decode cX9_town 72 = .ok (.iload_n 2, 1)) ∧ (decode cX9_town 73 = .ok (.ireturn, 1)) ∧ (decode cX9_town 74 = .ok (.aload_n 0, 1)) := by decide +kernel
theorem dX9_town_69 : decode cX9_town 69 = .ok (.iconst 1, 1) := dX9_town_69_b.1
theorem dX9_town_70 : decode cX9_town 70 = .ok (.iadd, 1) := dX9_town_69_b.2.1
theorem dX9_town_71 : decode cX9_town 71 = .ok (.iastore, 1) := dX9_town_69_b.2.2.1
theorem dX9_town_72 : decode cX9_town 72 = .ok (.iload_n 2, 1) := dX9_town_69_b.2.2.2.1
theorem dX9_town_73 : decode cX9_town 73 = .ok (.ireturn, 1) := dX9_town_69_b.2.2.2.2.1
theorem dX9_town_74 : decode cX9_town 74 = .ok (.aload_n 0, 1) := dX9_town_69_b.2.2.2.2.2
set_option maxRecDepth 20000 in
theorem dX9_town_75_b : (decode cX9_town 75 = .ok (.getfield 27, 3)) ∧ (decode cX9_town 78 = .ok (.astore_n 3, 1)) ∧ (decode cX9_town 79 = .ok (.aload_n 0, 1)) ∧ (decode cX9_town 80 = .ok (.aload_n 0, 1)) ∧ (decode cX9_town 81 = .ok (.getfield 23, 3)) ∧ (decode cX9_town 84 = .ok (.putfield 27, 3)) := by decide +kernel
theorem dX9_town_75 : decode cX9_town 75 = .ok (.getfield 27, 3) := dX9_town_75_b.1
theorem dX9_town_78 : decode cX9_town 78 = .ok (.astore_n 3, 1) := dX9_town_75_b.2.1
theorem dX9_town_79 : decode cX9_town 79 = .ok (.aload_n 0, 1) := dX9_town_75_b.2.2.1
theorem dX9_town_80 : decode cX9_town 80 = .ok (.aload_n 0, 1) := dX9_town_75_b.2.2.2.1
theorem dX9_town_81 : decode cX9_town 81 = .ok (.getfield 23, 3) := dX9_town_75_b.2.2.2.2.1
theorem dX9_town_84 : decode cX9_town 84 = .ok (.putfield 27, 3) := dX9_town_75_b.2.2.2.2.2
set_option maxRecDepth 20000 in
theorem dX9_town_87_b : (decode cX9_town 87 = .ok (.aload_n 0, 1)) ∧ (decode cX9_town 88 = .ok (.aload_n 3, 1)) ∧ (decode cX9_town 89 = .ok (.putfield 23, 3)) ∧ (decode cX9_town 92 = .ok (.aload_n 0, 1)) ∧ (decode cX9_town 93 = .ok (.getfield 42, 3)) ∧ (decode cX9_town 96 = .ok (.aload_n 0, 1)) := by decide +kernel
theorem dX9_town_87 : decode cX9_town 87 = .ok (.aload_n 0, 1) := dX9_town_87_b.1
theorem dX9_town_88 : decode cX9_town 88 = .ok (.aload_n 3, 1) := dX9_town_87_b.2.1
theorem dX9_town_89 : decode cX9_town 89 = .ok (.putfield 23, 3) := dX9_town_87_b.2.2.1
theorem dX9_town_92 : decode cX9_town 92 = .ok (.aload_n 0, 1) := dX9_town_87_b.2.2.2.1
theorem dX9_town_93 : decode cX9_town 93 = .ok (.getfield 42, 3) := dX9_town_87_b.2.2.2.2.1
theorem dX9_town_96 : decode cX9_town 96 = .ok (.aload_n 0, 1) := dX9_town_87_b.2.2.2.2.2
set_option maxRecDepth 20000 in
theorem dX9_town_97_b : (decode cX9_town 97 = .ok (.getfield 23, 3)) ∧ (decode cX9_town 100 = .ok (.invokevirtual 64, 3)) ∧ (decode cX9_town 103 = .ok (.invokevirtual 68, 3)) ∧ (decode cX9_town 106 = .ok (.aload_n 0, 1)) ∧ (decode cX9_town 107 = .ok (.iconst 0, 1)) ∧ (decode cX9_town 108 = .ok (.putfield 49, 3)) := by decide +kernel
theorem dX9_town_97 : decode cX9_town 97 = .ok (.getfield 23, 3) := dX9_town_97_b.1
theorem dX9_town_100 : decode cX9_town 100 = .ok (.invokevirtual 64, 3) := dX9_town_97_b.2.1
theorem dX9_town_103 : decode cX9_town 103 = .ok (.invokevirtual 68, 3) := dX9_town_97_b.2.2.1
theorem dX9_town_106 : decode cX9_town 106 = .ok (.aload_n 0, 1) := dX9_town_97_b.2.2.2.1
theorem dX9_town_107 : decode cX9_town 107 = .ok (.iconst 0, 1) := dX9_town_97_b.2.2.2.2.1
theorem dX9_town_108 : decode cX9_town 108 = .ok (.putfield 49, 3) := dX9_town_97_b.2.2.2.2.2
set_option maxRecDepth 20000 in
theorem dX9_town_111_b : (decode cX9_town 111 = .ok (.aload_n 0, 1)) ∧ (decode cX9_town 112 = .ok (.getfield 56, 3)) := by decide +kernel
theorem dX9_town_111 : decode cX9_town 111 = .ok (.aload_n 0, 1) := dX9_town_111_b.1
theorem dX9_town_112 : decode cX9_town 112 = .ok (.getfield 56, 3) := dX9_town_111_b.2
