theorem dX1_init_0 : decode cX1_init 0 = .ok (.aload_n 0, 1) := by decide +kernel
theorem dX1_init_1 : decode cX1_init 1 = .ok (.invokespecial 3, 3) := by decide +kernel
theorem dX1_init_4 : decode cX1_init 4 = .ok (.aload_n 0, 1) := by decide +kernel
theorem dX1_init_5 : decode cX1_init 5 = .ok (.bipush 60, 2) := by decide +kernel
theorem dX1_init_7 : decode cX1_init 7 = .ok (.newarray .int, 2) := by decide +kernel
theorem dX1_init_9 : decode cX1_init 9 = .ok (.putfield 9, 3) := by decide +kernel
theorem dX1_init_12 : decode cX1_init 12 = .ok (.aload_n 0, 1) := by decide +kernel
theorem dX1_init_13 : decode cX1_init 13 = .ok (.bipush 60, 2) := by decide +kernel
theorem dX1_init_15 : decode cX1_init 15 = .ok (.newarray .int, 2) := by decide +kernel
theorem dX1_init_17 : decode cX1_init 17 = .ok (.putfield 15, 3) := by decide +kernel
theorem dX1_init_20 : decode cX1_init 20 = .ok (.aload_n 0, 1) := by decide +kernel
theorem dX1_init_21 : decode cX1_init 21 = .ok (.bipush 60, 2) := by decide +kernel
theorem dX1_init_23 : decode cX1_init 23 = .ok (.newarray .int, 2) := by decide +kernel
theorem dX1_init_25 : decode cX1_init 25 = .ok (.putfield 18, 3) := by decide +kernel
theorem dX1_init_28 : decode cX1_init 28 = .ok (.aload_n 0, 1) := by decide +kernel
theorem dX1_init_29 : decode cX1_init 29 = .ok (.bipush 60, 2) := by decide +kernel
theorem dX1_init_31 : decode cX1_init 31 = .ok (.newarray .int, 2) := by decide +kernel
theorem dX1_init_33 : decode cX1_init 33 = .ok (.putfield 21, 3) := by decide +kernel
theorem dX1_init_36 : decode cX1_init 36 = .ok (.aload_n 0, 1) := by decide +kernel
theorem dX1_init_37 : decode cX1_init 37 = .ok (.bipush 60, 2) := by decide +kernel
theorem dX1_init_39 : decode cX1_init 39 = .ok (.newarray .int, 2) := by decide +kernel
theorem dX1_init_41 : decode cX1_init 41 = .ok (.putfield 24, 3) := by decide +kernel
theorem dX1_init_44 : decode cX1_init 44 = .ok (.aload_n 0, 1) := by decide +kernel
theorem dX1_init_45 : decode cX1_init 45 = .ok (.bipush 6, 2) := by decide +kernel
theorem dX1_init_47 : decode cX1_init 47 = .ok (.newarray .int, 2) := by decide +kernel
theorem dX1_init_49 : decode cX1_init 49 = .ok (.putfield 27, 3) := by decide +kernel
theorem dX1_init_52 : decode cX1_init 52 = .ok (.aload_n 0, 1) := by decide +kernel
theorem dX1_init_53 : decode cX1_init 53 = .ok (.iconst 3, 1) := by decide +kernel
theorem dX1_init_54 : decode cX1_init 54 = .ok (.newarray .int, 2) := by decide +kernel
theorem dX1_init_56 : decode cX1_init 56 = .ok (.putfield 30, 3) := by decide +kernel
theorem dX1_init_59 : decode cX1_init 59 = .ok (.return_, 1) := by decide +kernel
theorem dX1_begin_0 : decode cX1_begin 0 = .ok (.aload_n 0, 1) := by decide +kernel
theorem dX1_begin_1 : decode cX1_begin 1 = .ok (.iload_n 1, 1) := by decide +kernel
theorem dX1_begin_2 : decode cX1_begin 2 = .ok (.putfield 33, 3) := by decide +kernel
theorem dX1_begin_5 : decode cX1_begin 5 = .ok (.aload_n 0, 1) := by decide +kernel
theorem dX1_begin_6 : decode cX1_begin 6 = .ok (.iconst 0, 1) := by decide +kernel
theorem dX1_begin_7 : decode cX1_begin 7 = .ok (.putfield 37, 3) := by decide +kernel
theorem dX1_begin_10 : decode cX1_begin 10 = .ok (.aload_n 0, 1) := by decide +kernel
theorem dX1_begin_11 : decode cX1_begin 11 = .ok (.iconst 0, 1) := by decide +kernel
theorem dX1_begin_12 : decode cX1_begin 12 = .ok (.putfield 40, 3) := by decide +kernel
theorem dX1_begin_15 : decode cX1_begin 15 = .ok (.aload_n 0, 1) := by decide +kernel
theorem dX1_begin_16 : decode cX1_begin 16 = .ok (.iconst 0, 1) := by decide +kernel
theorem dX1_begin_17 : decode cX1_begin 17 = .ok (.putfield 43, 3) := by decide +kernel
theorem dX1_begin_20 : decode cX1_begin 20 = .ok (.aload_n 0, 1) := by decide +kernel
theorem dX1_begin_21 : decode cX1_begin 21 = .ok (.iconst 0, 1) := by decide +kernel
theorem dX1_begin_22 : decode cX1_begin 22 = .ok (.putfield 46, 3) := by decide +kernel
theorem dX1_begin_25 : decode cX1_begin 25 = .ok (.return_, 1) := by decide +kernel
theorem dX1_note_0 : decode cX1_note 0 = .ok (.aload_n 0, 1) := by decide +kernel
theorem dX1_note_1 : decode cX1_note 1 = .ok (.getfield 37, 3) := by decide +kernel
theorem dX1_note_4 : decode cX1_note 4 = .ok (.bipush 60, 2) := by decide +kernel
theorem dX1_note_6 : decode cX1_note 6 = .ok (.if_icmp .lt 4, 3) := by decide +kernel
theorem dX1_note_10 : decode cX1_note 10 = .ok (.aload_n 0, 1) := by decide +kernel
theorem dX1_note_11 : decode cX1_note 11 = .ok (.getfield 9, 3) := by decide +kernel
theorem dX1_note_14 : decode cX1_note 14 = .ok (.aload_n 0, 1) := by decide +kernel
theorem dX1_note_15 : decode cX1_note 15 = .ok (.getfield 37, 3) := by decide +kernel
theorem dX1_note_18 : decode cX1_note 18 = .ok (.iload_n 1, 1) := by decide +kernel
theorem dX1_note_19 : decode cX1_note 19 = .ok (.iastore, 1) := by decide +kernel
theorem dX1_note_20 : decode cX1_note 20 = .ok (.aload_n 0, 1) := by decide +kernel
theorem dX1_note_21 : decode cX1_note 21 = .ok (.getfield 15, 3) := by decide +kernel
theorem dX1_note_24 : decode cX1_note 24 = .ok (.aload_n 0, 1) := by decide +kernel
theorem dX1_note_25 : decode cX1_note 25 = .ok (.getfield 37, 3) := by decide +kernel
theorem dX1_note_28 : decode cX1_note 28 = .ok (.iload_n 2, 1) := by decide +kernel
theorem dX1_note_29 : decode cX1_note 29 = .ok (.iastore, 1) := by decide +kernel
theorem dX1_note_30 : decode cX1_note 30 = .ok (.aload_n 0, 1) := by decide +kernel
theorem dX1_note_31 : decode cX1_note 31 = .ok (.getfield 18, 3) := by decide +kernel
theorem dX1_note_34 : decode cX1_note 34 = .ok (.aload_n 0, 1) := by decide +kernel
theorem dX1_note_35 : decode cX1_note 35 = .ok (.getfield 37, 3) := by decide +kernel
theorem dX1_note_38 : decode cX1_note 38 = .ok (.iload_n 3, 1) := by decide +kernel
theorem dX1_note_39 : decode cX1_note 39 = .ok (.iastore, 1) := by decide +kernel
theorem dX1_note_40 : decode cX1_note 40 = .ok (.aload_n 0, 1) := by decide +kernel
theorem dX1_note_41 : decode cX1_note 41 = .ok (.getfield 21, 3) := by decide +kernel
theorem dX1_note_44 : decode cX1_note 44 = .ok (.aload_n 0, 1) := by decide +kernel
theorem dX1_note_45 : decode cX1_note 45 = .ok (.getfield 37, 3) := by decide +kernel
theorem dX1_note_48 : decode cX1_note 48 = .ok (.aload_n 0, 1) := by decide +kernel
theorem dX1_note_49 : decode cX1_note 49 = .ok (.getfield 33, 3) := by decide +kernel
theorem dX1_note_52 : decode cX1_note 52 = .ok (.iastore, 1) := by decide +kernel
theorem dX1_note_53 : decode cX1_note 53 = .ok (.aload_n 0, 1) := by decide +kernel
theorem dX1_note_54 : decode cX1_note 54 = .ok (.getfield 24, 3) := by decide +kernel
theorem dX1_note_57 : decode cX1_note 57 = .ok (.aload_n 0, 1) := by decide +kernel
theorem dX1_note_58 : decode cX1_note 58 = .ok (.getfield 37, 3) := by decide +kernel
theorem dX1_note_61 : decode cX1_note 61 = .ok (.iload 4, 2) := by decide +kernel
theorem dX1_note_63 : decode cX1_note 63 = .ok (.iastore, 1) := by decide +kernel
theorem dX1_note_64 : decode cX1_note 64 = .ok (.aload_n 0, 1) := by decide +kernel
theorem dX1_note_65 : decode cX1_note 65 = .ok (.dup, 1) := by decide +kernel
theorem dX1_note_66 : decode cX1_note 66 = .ok (.getfield 37, 3) := by decide +kernel
theorem dX1_note_69 : decode cX1_note 69 = .ok (.iconst 1, 1) := by decide +kernel
theorem dX1_note_70 : decode cX1_note 70 = .ok (.iadd, 1) := by decide +kernel
theorem dX1_note_71 : decode cX1_note 71 = .ok (.putfield 37, 3) := by decide +kernel
theorem dX1_note_74 : decode cX1_note 74 = .ok (.aload_n 0, 1) := by decide +kernel
theorem dX1_note_75 : decode cX1_note 75 = .ok (.dup, 1) := by decide +kernel
theorem dX1_note_76 : decode cX1_note 76 = .ok (.getfield 40, 3) := by decide +kernel
theorem dX1_note_79 : decode cX1_note 79 = .ok (.iload_n 1, 1) := by decide +kernel
theorem dX1_note_80 : decode cX1_note 80 = .ok (.iconst 2, 1) := by decide +kernel
theorem dX1_note_81 : decode cX1_note 81 = .ok (.if_icmp .ne 7, 3) := by decide +kernel
theorem dX1_note_84 : decode cX1_note 84 = .ok (.iconst 1, 1) := by decide +kernel
theorem dX1_note_85 : decode cX1_note 85 = .ok (.goto 4, 3) := by decide +kernel
theorem dX1_note_89 : decode cX1_note 89 = .ok (.iadd, 1) := by decide +kernel
theorem dX1_note_90 : decode cX1_note 90 = .ok (.putfield 40, 3) := by decide +kernel
theorem dX1_note_93 : decode cX1_note 93 = .ok (.aload_n 0, 1) := by decide +kernel
theorem dX1_note_94 : decode cX1_note 94 = .ok (.dup, 1) := by decide +kernel
theorem dX1_note_95 : decode cX1_note 95 = .ok (.getfield 43, 3) := by decide +kernel
theorem dX1_note_98 : decode cX1_note 98 = .ok (.iload 4, 2) := by decide +kernel
theorem dX1_note_100 : decode cX1_note 100 = .ok (.iadd, 1) := by decide +kernel
theorem dX1_note_101 : decode cX1_note 101 = .ok (.putfield 43, 3) := by decide +kernel
theorem dX1_note_104 : decode cX1_note 104 = .ok (.aload_n 0, 1) := by decide +kernel
theorem dX1_note_105 : decode cX1_note 105 = .ok (.iload 5, 2) := by decide +kernel
theorem dX1_note_107 : decode cX1_note 107 = .ok (.putfield 33, 3) := by decide +kernel
theorem dX1_note_110 : decode cX1_note 110 = .ok (.return_, 1) := by decide +kernel
theorem dX1_copy_0 : decode cX1_copy 0 = .ok (.aload_n 0, 1) := by decide +kernel
theorem dX1_copy_1 : decode cX1_copy 1 = .ok (.aload_n 1, 1) := by decide +kernel
theorem dX1_copy_2 : decode cX1_copy 2 = .ok (.getfield 33, 3) := by decide +kernel
theorem dX1_copy_5 : decode cX1_copy 5 = .ok (.putfield 33, 3) := by decide +kernel
theorem dX1_copy_8 : decode cX1_copy 8 = .ok (.aload_n 0, 1) := by decide +kernel
theorem dX1_copy_9 : decode cX1_copy 9 = .ok (.aload_n 1, 1) := by decide +kernel
theorem dX1_copy_10 : decode cX1_copy 10 = .ok (.getfield 37, 3) := by decide +kernel
theorem dX1_copy_13 : decode cX1_copy 13 = .ok (.putfield 37, 3) := by decide +kernel
theorem dX1_copy_16 : decode cX1_copy 16 = .ok (.aload_n 0, 1) := by decide +kernel
theorem dX1_copy_17 : decode cX1_copy 17 = .ok (.aload_n 1, 1) := by decide +kernel
theorem dX1_copy_18 : decode cX1_copy 18 = .ok (.getfield 40, 3) := by decide +kernel
theorem dX1_copy_21 : decode cX1_copy 21 = .ok (.putfield 40, 3) := by decide +kernel
theorem dX1_copy_24 : decode cX1_copy 24 = .ok (.aload_n 0, 1) := by decide +kernel
theorem dX1_copy_25 : decode cX1_copy 25 = .ok (.aload_n 1, 1) := by decide +kernel
theorem dX1_copy_26 : decode cX1_copy 26 = .ok (.getfield 43, 3) := by decide +kernel
theorem dX1_copy_29 : decode cX1_copy 29 = .ok (.putfield 43, 3) := by decide +kernel
theorem dX1_copy_32 : decode cX1_copy 32 = .ok (.aload_n 0, 1) := by decide +kernel
theorem dX1_copy_33 : decode cX1_copy 33 = .ok (.aload_n 1, 1) := by decide +kernel
theorem dX1_copy_34 : decode cX1_copy 34 = .ok (.getfield 46, 3) := by decide +kernel
theorem dX1_copy_37 : decode cX1_copy 37 = .ok (.putfield 46, 3) := by decide +kernel
theorem dX1_copy_40 : decode cX1_copy 40 = .ok (.aload_n 1, 1) := by decide +kernel
theorem dX1_copy_41 : decode cX1_copy 41 = .ok (.getfield 9, 3) := by decide +kernel
theorem dX1_copy_44 : decode cX1_copy 44 = .ok (.iconst 0, 1) := by decide +kernel
theorem dX1_copy_45 : decode cX1_copy 45 = .ok (.aload_n 0, 1) := by decide +kernel
theorem dX1_copy_46 : decode cX1_copy 46 = .ok (.getfield 9, 3) := by decide +kernel
theorem dX1_copy_49 : decode cX1_copy 49 = .ok (.iconst 0, 1) := by decide +kernel
theorem dX1_copy_50 : decode cX1_copy 50 = .ok (.bipush 60, 2) := by decide +kernel
theorem dX1_copy_52 : decode cX1_copy 52 = .ok (.invokestatic 49, 3) := by decide +kernel
theorem dX1_copy_55 : decode cX1_copy 55 = .ok (.aload_n 1, 1) := by decide +kernel
theorem dX1_copy_56 : decode cX1_copy 56 = .ok (.getfield 15, 3) := by decide +kernel
theorem dX1_copy_59 : decode cX1_copy 59 = .ok (.iconst 0, 1) := by decide +kernel
theorem dX1_copy_60 : decode cX1_copy 60 = .ok (.aload_n 0, 1) := by decide +kernel
theorem dX1_copy_61 : decode cX1_copy 61 = .ok (.getfield 15, 3) := by decide +kernel
theorem dX1_copy_64 : decode cX1_copy 64 = .ok (.iconst 0, 1) := by decide +kernel
theorem dX1_copy_65 : decode cX1_copy 65 = .ok (.bipush 60, 2) := by decide +kernel
theorem dX1_copy_67 : decode cX1_copy 67 = .ok (.invokestatic 49, 3) := by decide +kernel
theorem dX1_copy_70 : decode cX1_copy 70 = .ok (.aload_n 1, 1) := by decide +kernel
theorem dX1_copy_71 : decode cX1_copy 71 = .ok (.getfield 18, 3) := by decide +kernel
theorem dX1_copy_74 : decode cX1_copy 74 = .ok (.iconst 0, 1) := by decide +kernel
theorem dX1_copy_75 : decode cX1_copy 75 = .ok (.aload_n 0, 1) := by decide +kernel
theorem dX1_copy_76 : decode cX1_copy 76 = .ok (.getfield 18, 3) := by decide +kernel
theorem dX1_copy_79 : decode cX1_copy 79 = .ok (.iconst 0, 1) := by decide +kernel
theorem dX1_copy_80 : decode cX1_copy 80 = .ok (.bipush 60, 2) := by decide +kernel
theorem dX1_copy_82 : decode cX1_copy 82 = .ok (.invokestatic 49, 3) := by decide +kernel
theorem dX1_copy_85 : decode cX1_copy 85 = .ok (.aload_n 1, 1) := by decide +kernel
theorem dX1_copy_86 : decode cX1_copy 86 = .ok (.getfield 21, 3) := by decide +kernel
theorem dX1_copy_89 : decode cX1_copy 89 = .ok (.iconst 0, 1) := by decide +kernel
theorem dX1_copy_90 : decode cX1_copy 90 = .ok (.aload_n 0, 1) := by decide +kernel
theorem dX1_copy_91 : decode cX1_copy 91 = .ok (.getfield 21, 3) := by decide +kernel
theorem dX1_copy_94 : decode cX1_copy 94 = .ok (.iconst 0, 1) := by decide +kernel
theorem dX1_copy_95 : decode cX1_copy 95 = .ok (.bipush 60, 2) := by decide +kernel
theorem dX1_copy_97 : decode cX1_copy 97 = .ok (.invokestatic 49, 3) := by decide +kernel
theorem dX1_copy_100 : decode cX1_copy 100 = .ok (.aload_n 1, 1) := by decide +kernel
theorem dX1_copy_101 : decode cX1_copy 101 = .ok (.getfield 24, 3) := by decide +kernel
theorem dX1_copy_104 : decode cX1_copy 104 = .ok (.iconst 0, 1) := by decide +kernel
theorem dX1_copy_105 : decode cX1_copy 105 = .ok (.aload_n 0, 1) := by decide +kernel
theorem dX1_copy_106 : decode cX1_copy 106 = .ok (.getfield 24, 3) := by decide +kernel
theorem dX1_copy_109 : decode cX1_copy 109 = .ok (.iconst 0, 1) := by decide +kernel
theorem dX1_copy_110 : decode cX1_copy 110 = .ok (.bipush 60, 2) := by decide +kernel
theorem dX1_copy_112 : decode cX1_copy 112 = .ok (.invokestatic 49, 3) := by decide +kernel
theorem dX1_copy_115 : decode cX1_copy 115 = .ok (.aload_n 1, 1) := by decide +kernel
theorem dX1_copy_116 : decode cX1_copy 116 = .ok (.getfield 27, 3) := by decide +kernel
theorem dX1_copy_119 : decode cX1_copy 119 = .ok (.iconst 0, 1) := by decide +kernel
theorem dX1_copy_120 : decode cX1_copy 120 = .ok (.aload_n 0, 1) := by decide +kernel
theorem dX1_copy_121 : decode cX1_copy 121 = .ok (.getfield 27, 3) := by decide +kernel
theorem dX1_copy_124 : decode cX1_copy 124 = .ok (.iconst 0, 1) := by decide +kernel
theorem dX1_copy_125 : decode cX1_copy 125 = .ok (.bipush 6, 2) := by decide +kernel
theorem dX1_copy_127 : decode cX1_copy 127 = .ok (.invokestatic 49, 3) := by decide +kernel
theorem dX1_copy_130 : decode cX1_copy 130 = .ok (.aload_n 1, 1) := by decide +kernel
theorem dX1_copy_131 : decode cX1_copy 131 = .ok (.getfield 30, 3) := by decide +kernel
theorem dX1_copy_134 : decode cX1_copy 134 = .ok (.iconst 0, 1) := by decide +kernel
theorem dX1_copy_135 : decode cX1_copy 135 = .ok (.aload_n 0, 1) := by decide +kernel
theorem dX1_copy_136 : decode cX1_copy 136 = .ok (.getfield 30, 3) := by decide +kernel
theorem dX1_copy_139 : decode cX1_copy 139 = .ok (.iconst 0, 1) := by decide +kernel
theorem dX1_copy_140 : decode cX1_copy 140 = .ok (.aload_n 0, 1) := by decide +kernel
theorem dX1_copy_141 : decode cX1_copy 141 = .ok (.getfield 30, 3) := by decide +kernel
theorem dX1_copy_144 : decode cX1_copy 144 = .ok (.arraylength, 1) := by decide +kernel
theorem dX1_copy_145 : decode cX1_copy 145 = .ok (.invokestatic 49, 3) := by decide +kernel
theorem dX1_copy_148 : decode cX1_copy 148 = .ok (.return_, 1) := by decide +kernel
set_option maxRecDepth 20000 in
theorem ggX2_init_X4_init : GoodIn wsX2_init wsX4_init := goodIn_r _ [13, 14, 2, 3, 15, 16, 17, 18, 19, 20, 21, 22, 23, 24, 25, 26, 27, 28, 29, 30, 31, 32] (by decide +kernel) (by decide +kernel)
set_option maxRecDepth 20000 in
theorem gX2_init_X4_init_n11 : GoodIn wsX2_init (wsX4_init) := ggX2_init_X4_init
theorem dX2_init_0 : decode cX2_init 0 = .ok (.aload_n 0, 1) := by decide +kernel
theorem dX2_init_1 : decode cX2_init 1 = .ok (.invokespecial 3, 3) := by decide +kernel
theorem dX2_init_4 : decode cX2_init 4 = .ok (.aload_n 0, 1) := by decide +kernel
theorem dX2_init_5 : decode cX2_init 5 = .ok (.new 9, 3) := by decide +kernel
theorem dX2_init_8 : decode cX2_init 8 = .ok (.dup, 1) := by decide +kernel
theorem dX2_init_9 : decode cX2_init 9 = .ok (.invokespecial 11, 3) := by decide +kernel
theorem dX2_init_12 : decode cX2_init 12 = .ok (.putfield 12, 3) := by decide +kernel
theorem dX2_init_15 : decode cX2_init 15 = .ok (.aload_n 0, 1) := by decide +kernel
theorem dX2_init_16 : decode cX2_init 16 = .ok (.aload_n 1, 1) := by decide +kernel
theorem dX2_init_17 : decode cX2_init 17 = .ok (.putfield 18, 3) := by decide +kernel
theorem dX2_init_20 : decode cX2_init 20 = .ok (.aload_n 0, 1) := by decide +kernel
theorem dX2_init_21 : decode cX2_init 21 = .ok (.iconst 0, 1) := by decide +kernel
theorem dX2_init_22 : decode cX2_init 22 = .ok (.putfield 22, 3) := by decide +kernel
theorem dX2_init_25 : decode cX2_init 25 = .ok (.aload_n 0, 1) := by decide +kernel
theorem dX2_init_26 : decode cX2_init 26 = .ok (.iconst 0, 1) := by decide +kernel
theorem dX2_init_27 : decode cX2_init 27 = .ok (.putfield 26, 3) := by decide +kernel
theorem dX2_init_30 : decode cX2_init 30 = .ok (.aload_n 0, 1) := by decide +kernel
theorem dX2_init_31 : decode cX2_init 31 = .ok (.iconst (-1), 1) := by decide +kernel
theorem dX2_init_32 : decode cX2_init 32 = .ok (.putfield 29, 3) := by decide +kernel
theorem dX2_init_35 : decode cX2_init 35 = .ok (.return_, 1) := by decide +kernel
set_option maxRecDepth 20000 in
theorem ggX2_read_X3_clear : GoodIn wsX2_read wsX3_clear := goodIn_r _ [9, 10, 11, 12, 13, 14, 15, 16, 17, 18, 19, 20, 21, 22, 23, 24, 213, 214, 215, 216, 217, 218, 219, 220, 221, 222, 223, 224, 225, 226, 227, 228, 229, 230, 231] (by decide +kernel) (by decide +kernel)
set_option maxRecDepth 20000 in
theorem gX2_read_X3_clear_n32 : GoodIn wsX2_read (wsX3_clear) := ggX2_read_X3_clear
set_option maxRecDepth 20000 in
theorem ggX2_read_X4_open : GoodIn wsX2_read wsX4_open := goodIn_r _ [28, 29, 30, 31, 32, 33, 34, 26, 35, 36, 37, 38, 39, 40, 41, 42, 43, 44, 45, 46, 47, 48, 49, 50, 51, 52, 53, 54, 55, 56, 57, 58, 59, 60, 61, 62, 63, 64, 65, 66, 67, 68, 69, 70, 71, 72, 73, 74, 75, 76, 77, 78, 79, 80, 81, 82, 83, 84, 85, 86, 87, 88, 89, 90, 91, 92, 93, 94, 95, 96, 97, 98, 99, 100, 101, 102, 103, 104, 105, 106, 107, 108, 109, 110, 111, 205, 206, 207, 208, 209, 210, 211, 212] (by decide +kernel) (by decide +kernel)
set_option maxRecDepth 20000 in
theorem gX2_read_X4_open_n37 : GoodIn wsX2_read (wsX4_open) := ggX2_read_X4_open
theorem dX2_read_0 : decode cX2_read 0 = .ok (.aload_n 0, 1) := by decide +kernel
theorem dX2_read_1 : decode cX2_read 1 = .ok (.aload_n 3, 1) := by decide +kernel
theorem dX2_read_2 : decode cX2_read 2 = .ok (.putfield 18, 3) := by decide +kernel
theorem dX2_read_5 : decode cX2_read 5 = .ok (.aload_n 0, 1) := by decide +kernel
theorem dX2_read_6 : decode cX2_read 6 = .ok (.getfield 18, 3) := by decide +kernel
theorem dX2_read_9 : decode cX2_read 9 = .ok (.invokevirtual 32, 3) := by decide +kernel
theorem dX2_read_12 : decode cX2_read 12 = .ok (.aload_n 0, 1) := by decide +kernel
theorem dX2_read_13 : decode cX2_read 13 = .ok (.iconst 0, 1) := by decide +kernel
theorem dX2_read_14 : decode cX2_read 14 = .ok (.putfield 22, 3) := by decide +kernel
theorem dX2_read_17 : decode cX2_read 17 = .ok (.aload_n 0, 1) := by decide +kernel
theorem dX2_read_18 : decode cX2_read 18 = .ok (.iconst 0, 1) := by decide +kernel
theorem dX2_read_19 : decode cX2_read 19 = .ok (.putfield 26, 3) := by decide +kernel
theorem dX2_read_22 : decode cX2_read 22 = .ok (.aload_n 0, 1) := by decide +kernel
theorem dX2_read_23 : decode cX2_read 23 = .ok (.iconst (-1), 1) := by decide +kernel
theorem dX2_read_24 : decode cX2_read 24 = .ok (.putfield 29, 3) := by decide +kernel
theorem dX2_read_27 : decode cX2_read 27 = .ok (.aload_n 0, 1) := by decide +kernel
theorem dX2_read_28 : decode cX2_read 28 = .ok (.getfield 12, 3) := by decide +kernel
theorem dX2_read_31 : decode cX2_read 31 = .ok (.aload_n 1, 1) := by decide +kernel
theorem dX2_read_32 : decode cX2_read 32 = .ok (.iload_n 2, 1) := by decide +kernel
theorem dX2_read_33 : decode cX2_read 33 = .ok (.invokevirtual 37, 3) := by decide +kernel
theorem dX2_read_36 : decode cX2_read 36 = .ok (.iconst 0, 1) := by decide +kernel
theorem dX2_read_37 : decode cX2_read 37 = .ok (.istore 4, 2) := by decide +kernel
theorem dX2_read_39 : decode cX2_read 39 = .ok (.iload 4, 2) := by decide +kernel
theorem dX2_read_41 : decode cX2_read 41 = .ok (.sipush 600, 3) := by decide +kernel
theorem dX2_read_44 : decode cX2_read 44 = .ok (.if_icmp .ge 33, 3) := by decide +kernel
theorem dX2_read_47 : decode cX2_read 47 = .ok (.aload_n 0, 1) := by decide +kernel
theorem dX2_read_48 : decode cX2_read 48 = .ok (.getfield 12, 3) := by decide +kernel
theorem dX2_read_51 : decode cX2_read 51 = .ok (.getfield 41, 3) := by decide +kernel
theorem dX2_read_54 : decode cX2_read 54 = .ok (.ifCond .eq 23, 3) := by decide +kernel
theorem dX2_read_77 : decode cX2_read 77 = .ok (.aload_n 0, 1) := by decide +kernel
theorem dX2_read_78 : decode cX2_read 78 = .ok (.getfield 26, 3) := by decide +kernel
theorem dX2_read_81 : decode cX2_read 81 = .ok (.ireturn, 1) := by decide +kernel
set_option maxRecDepth 20000 in
theorem ggX3_init_X5_init : GoodIn wsX3_init wsX5_init := goodIn_r _ [15, 16, 2, 3, 4, 17, 18, 19, 20, 21, 22, 11, 23, 24, 25, 53, 54, 55, 56, 57] (by decide +kernel) (by decide +kernel)
set_option maxRecDepth 20000 in
theorem gX3_init_X5_init_n26 : GoodIn wsX3_init (wsX5_init) := ggX3_init_X5_init
set_option maxRecDepth 20000 in
theorem ggX3_init_X3_clear : GoodIn wsX3_init wsX3_clear := goodIn_r _ [30, 31, 32, 33, 34, 35, 36, 37, 38, 12, 21, 11, 22, 23, 24, 25, 39, 40, 41, 42, 43, 44, 45, 46, 47, 48, 49, 50, 51, 52, 53, 54, 55, 56, 57] (by decide +kernel) (by decide +kernel)
set_option maxRecDepth 20000 in
theorem gX3_init_X3_clear : GoodIn wsX3_init (wsV RX3 34 RX3 yX3_clear wsX3_clear) := goodIn_app (goodIn_of _ (by decide +kernel)) ggX3_init_X3_clear
theorem dX3_init_0 : decode cX3_init 0 = .ok (.aload_n 0, 1) := by decide +kernel
theorem dX3_init_1 : decode cX3_init 1 = .ok (.invokespecial 3, 3) := by decide +kernel
theorem dX3_init_4 : decode cX3_init 4 = .ok (.aload_n 0, 1) := by decide +kernel
theorem dX3_init_5 : decode cX3_init 5 = .ok (.bipush 7, 2) := by decide +kernel
theorem dX3_init_7 : decode cX3_init 7 = .ok (.newarray .int, 2) := by decide +kernel
theorem dX3_init_9 : decode cX3_init 9 = .ok (.putfield 9, 3) := by decide +kernel
theorem dX3_init_12 : decode cX3_init 12 = .ok (.aload_n 0, 1) := by decide +kernel
theorem dX3_init_13 : decode cX3_init 13 = .ok (.bipush 7, 2) := by decide +kernel
theorem dX3_init_15 : decode cX3_init 15 = .ok (.newarray .int, 2) := by decide +kernel
theorem dX3_init_17 : decode cX3_init 17 = .ok (.putfield 15, 3) := by decide +kernel
theorem dX3_init_20 : decode cX3_init 20 = .ok (.aload_n 0, 1) := by decide +kernel
theorem dX3_init_21 : decode cX3_init 21 = .ok (.bipush 7, 2) := by decide +kernel
theorem dX3_init_23 : decode cX3_init 23 = .ok (.newarray .int, 2) := by decide +kernel
theorem dX3_init_25 : decode cX3_init 25 = .ok (.putfield 18, 3) := by decide +kernel
theorem dX3_init_28 : decode cX3_init 28 = .ok (.aload_n 0, 1) := by decide +kernel
theorem dX3_init_29 : decode cX3_init 29 = .ok (.bipush 7, 2) := by decide +kernel
theorem dX3_init_31 : decode cX3_init 31 = .ok (.newarray .int, 2) := by decide +kernel
theorem dX3_init_33 : decode cX3_init 33 = .ok (.putfield 21, 3) := by decide +kernel
theorem dX3_init_36 : decode cX3_init 36 = .ok (.aload_n 0, 1) := by decide +kernel
theorem dX3_init_37 : decode cX3_init 37 = .ok (.new 24, 3) := by decide +kernel
theorem dX3_init_40 : decode cX3_init 40 = .ok (.dup, 1) := by decide +kernel
theorem dX3_init_41 : decode cX3_init 41 = .ok (.invokespecial 26, 3) := by decide +kernel
theorem dX3_init_44 : decode cX3_init 44 = .ok (.putfield 27, 3) := by decide +kernel
theorem dX3_init_47 : decode cX3_init 47 = .ok (.aload_n 0, 1) := by decide +kernel
theorem dX3_init_48 : decode cX3_init 48 = .ok (.bipush 7, 2) := by decide +kernel
theorem dX3_init_50 : decode cX3_init 50 = .ok (.newarray .int, 2) := by decide +kernel
theorem dX3_init_52 : decode cX3_init 52 = .ok (.putfield 31, 3) := by decide +kernel
theorem dX3_init_55 : decode cX3_init 55 = .ok (.aload_n 0, 1) := by decide +kernel
theorem dX3_init_56 : decode cX3_init 56 = .ok (.invokevirtual 34, 3) := by decide +kernel
theorem dX3_init_59 : decode cX3_init 59 = .ok (.return_, 1) := by decide +kernel
set_option maxRecDepth 20000 in
theorem ggX3_clear_X5_clear : GoodIn wsX3_clear wsX5_clear := goodIn_r _ [13, 14, 15, 30, 31, 32, 33, 34] (by decide +kernel) (by decide +kernel)
set_option maxRecDepth 20000 in
theorem gX3_clear_X5_clear_n62 : GoodIn wsX3_clear (wsX5_clear) := ggX3_clear_X5_clear
theorem dX3_clear_0 : decode cX3_clear 0 = .ok (.aload_n 0, 1) := by decide +kernel
theorem dX3_clear_1 : decode cX3_clear 1 = .ok (.iconst 1, 1) := by decide +kernel
theorem dX3_clear_2 : decode cX3_clear 2 = .ok (.putfield 37, 3) := by decide +kernel
theorem dX3_clear_5 : decode cX3_clear 5 = .ok (.aload_n 0, 1) := by decide +kernel
theorem dX3_clear_6 : decode cX3_clear 6 = .ok (.iconst 0, 1) := by decide +kernel
theorem dX3_clear_7 : decode cX3_clear 7 = .ok (.putfield 41, 3) := by decide +kernel
theorem dX3_clear_10 : decode cX3_clear 10 = .ok (.aload_n 0, 1) := by decide +kernel
theorem dX3_clear_11 : decode cX3_clear 11 = .ok (.bipush 99, 2) := by decide +kernel
theorem dX3_clear_13 : decode cX3_clear 13 = .ok (.putfield 44, 3) := by decide +kernel
theorem dX3_clear_16 : decode cX3_clear 16 = .ok (.aload_n 0, 1) := by decide +kernel
theorem dX3_clear_17 : decode cX3_clear 17 = .ok (.iconst 0, 1) := by decide +kernel
theorem dX3_clear_18 : decode cX3_clear 18 = .ok (.putfield 47, 3) := by decide +kernel
theorem dX3_clear_21 : decode cX3_clear 21 = .ok (.aload_n 0, 1) := by decide +kernel
theorem dX3_clear_22 : decode cX3_clear 22 = .ok (.iconst 1, 1) := by decide +kernel
theorem dX3_clear_23 : decode cX3_clear 23 = .ok (.putfield 50, 3) := by decide +kernel
theorem dX3_clear_26 : decode cX3_clear 26 = .ok (.aload_n 0, 1) := by decide +kernel
theorem dX3_clear_27 : decode cX3_clear 27 = .ok (.bipush 20, 2) := by decide +kernel
theorem dX3_clear_29 : decode cX3_clear 29 = .ok (.putfield 53, 3) := by decide +kernel
theorem dX3_clear_32 : decode cX3_clear 32 = .ok (.aload_n 0, 1) := by decide +kernel
theorem dX3_clear_33 : decode cX3_clear 33 = .ok (.iconst 0, 1) := by decide +kernel
theorem dX3_clear_34 : decode cX3_clear 34 = .ok (.putfield 56, 3) := by decide +kernel
theorem dX3_clear_37 : decode cX3_clear 37 = .ok (.aload_n 0, 1) := by decide +kernel
theorem dX3_clear_38 : decode cX3_clear 38 = .ok (.iconst 0, 1) := by decide +kernel
theorem dX3_clear_39 : decode cX3_clear 39 = .ok (.putfield 59, 3) := by decide +kernel
theorem dX3_clear_42 : decode cX3_clear 42 = .ok (.aload_n 0, 1) := by decide +kernel
theorem dX3_clear_43 : decode cX3_clear 43 = .ok (.getfield 27, 3) := by decide +kernel
theorem dX3_clear_46 : decode cX3_clear 46 = .ok (.invokevirtual 62, 3) := by decide +kernel
theorem dX3_clear_49 : decode cX3_clear 49 = .ok (.return_, 1) := by decide +kernel
theorem dX3_has_0 : decode cX3_has 0 = .ok (.iload_n 1, 1) := by decide +kernel
theorem dX3_has_1 : decode cX3_has 1 = .ok (.ifCond .lt 15, 3) := by decide +kernel
theorem dX3_has_4 : decode cX3_has 4 = .ok (.iload_n 1, 1) := by decide +kernel
theorem dX3_has_5 : decode cX3_has 5 = .ok (.aload_n 0, 1) := by decide +kernel
theorem dX3_has_6 : decode cX3_has 6 = .ok (.getfield 59, 3) := by decide +kernel
theorem dX3_has_9 : decode cX3_has 9 = .ok (.if_icmp .ge 7, 3) := by decide +kernel
theorem dX3_has_16 : decode cX3_has 16 = .ok (.iconst 0, 1) := by decide +kernel
theorem dX3_has_17 : decode cX3_has 17 = .ok (.ireturn, 1) := by decide +kernel
theorem dX3_hasDepth_0 : decode cX3_hasDepth 0 = .ok (.iload_n 1, 1) := by decide +kernel
theorem dX3_hasDepth_1 : decode cX3_hasDepth 1 = .ok (.ifCond .lt 15, 3) := by decide +kernel
theorem dX3_hasDepth_4 : decode cX3_hasDepth 4 = .ok (.iload_n 1, 1) := by decide +kernel
theorem dX3_hasDepth_5 : decode cX3_hasDepth 5 = .ok (.aload_n 0, 1) := by decide +kernel
theorem dX3_hasDepth_6 : decode cX3_hasDepth 6 = .ok (.getfield 37, 3) := by decide +kernel
theorem dX3_hasDepth_9 : decode cX3_hasDepth 9 = .ok (.if_icmp .gt 7, 3) := by decide +kernel
theorem dX3_hasDepth_12 : decode cX3_hasDepth 12 = .ok (.iconst 1, 1) := by decide +kernel
theorem dX3_hasDepth_13 : decode cX3_hasDepth 13 = .ok (.goto 4, 3) := by decide +kernel
theorem dX3_hasDepth_16 : decode cX3_hasDepth 16 = .ok (.iconst 0, 1) := by decide +kernel
theorem dX3_hasDepth_17 : decode cX3_hasDepth 17 = .ok (.ireturn, 1) := by decide +kernel
set_option maxRecDepth 20000 in
theorem ggX3_firstState_X7_move : GoodIn wsX3_firstState wsX7_move := goodIn_r _ [7, 8] (by decide +kernel) (by decide +kernel)
set_option maxRecDepth 20000 in
theorem gX3_firstState_X7_move_n66 : GoodIn wsX3_firstState (wsX7_move) := ggX3_firstState_X7_move
theorem dX3_firstState_0 : decode cX3_firstState 0 = .ok (.ldc 65, 2) := by decide +kernel
theorem dX3_firstState_2 : decode cX3_firstState 2 = .ok (.aload_n 0, 1) := by decide +kernel
theorem dX3_firstState_3 : decode cX3_firstState 3 = .ok (.getfield 41, 3) := by decide +kernel
theorem dX3_firstState_6 : decode cX3_firstState 6 = .ok (.invokestatic 66, 3) := by decide +kernel
theorem dX3_firstState_9 : decode cX3_firstState 9 = .ok (.istore_n 1, 1) := by decide +kernel
theorem dX3_firstState_10 : decode cX3_firstState 10 = .ok (.iconst 0, 1) := by decide +kernel
theorem dX3_firstState_11 : decode cX3_firstState 11 = .ok (.istore_n 2, 1) := by decide +kernel
theorem dX3_firstState_12 : decode cX3_firstState 12 = .ok (.iload_n 2, 1) := by decide +kernel
theorem dX3_firstState_13 : decode cX3_firstState 13 = .ok (.aload_n 0, 1) := by decide +kernel
theorem dX3_firstState_14 : decode cX3_firstState 14 = .ok (.getfield 59, 3) := by decide +kernel
theorem dX3_firstState_17 : decode cX3_firstState 17 = .ok (.if_icmp .ge 21, 3) := by decide +kernel
theorem dX3_firstState_38 : decode cX3_firstState 38 = .ok (.iload_n 1, 1) := by decide +kernel
theorem dX3_firstState_39 : decode cX3_firstState 39 = .ok (.ireturn, 1) := by decide +kernel
theorem dX3_stones_0 : decode cX3_stones 0 = .ok (.iconst 0, 1) := by decide +kernel
theorem dX3_stones_1 : decode cX3_stones 1 = .ok (.istore_n 1, 1) := by decide +kernel
theorem dX3_stones_2 : decode cX3_stones 2 = .ok (.iconst 0, 1) := by decide +kernel
theorem dX3_stones_3 : decode cX3_stones 3 = .ok (.istore_n 2, 1) := by decide +kernel
theorem dX3_stones_4 : decode cX3_stones 4 = .ok (.iload_n 2, 1) := by decide +kernel
theorem dX3_stones_5 : decode cX3_stones 5 = .ok (.aload_n 0, 1) := by decide +kernel
theorem dX3_stones_6 : decode cX3_stones 6 = .ok (.getfield 59, 3) := by decide +kernel
theorem dX3_stones_9 : decode cX3_stones 9 = .ok (.if_icmp .ge 27, 3) := by decide +kernel
theorem dX3_stones_36 : decode cX3_stones 36 = .ok (.iload_n 1, 1) := by decide +kernel
theorem dX3_stones_37 : decode cX3_stones 37 = .ok (.ireturn, 1) := by decide +kernel
theorem dX3_firstStones_0 : decode cX3_firstStones 0 = .ok (.iconst 0, 1) := by decide +kernel
theorem dX3_firstStones_1 : decode cX3_firstStones 1 = .ok (.istore_n 2, 1) := by decide +kernel
theorem dX3_firstStones_2 : decode cX3_firstStones 2 = .ok (.iconst 0, 1) := by decide +kernel
theorem dX3_firstStones_3 : decode cX3_firstStones 3 = .ok (.istore_n 3, 1) := by decide +kernel
theorem dX3_firstStones_4 : decode cX3_firstStones 4 = .ok (.iconst 0, 1) := by decide +kernel
theorem dX3_firstStones_5 : decode cX3_firstStones 5 = .ok (.istore 4, 2) := by decide +kernel
theorem dX3_firstStones_7 : decode cX3_firstStones 7 = .ok (.iload 4, 2) := by decide +kernel
theorem dX3_firstStones_9 : decode cX3_firstStones 9 = .ok (.aload_n 0, 1) := by decide +kernel
theorem dX3_firstStones_10 : decode cX3_firstStones 10 = .ok (.getfield 59, 3) := by decide +kernel
theorem dX3_firstStones_13 : decode cX3_firstStones 13 = .ok (.if_icmp .ge 35, 3) := by decide +kernel
theorem dX3_firstStones_48 : decode cX3_firstStones 48 = .ok (.iload_n 2, 1) := by decide +kernel
theorem dX3_firstStones_49 : decode cX3_firstStones 49 = .ok (.ireturn, 1) := by decide +kernel
theorem dX3_thingsWithAims_0 : decode cX3_thingsWithAims 0 = .ok (.iconst 0, 1) := by decide +kernel
theorem dX3_thingsWithAims_1 : decode cX3_thingsWithAims 1 = .ok (.istore_n 1, 1) := by decide +kernel
theorem dX3_thingsWithAims_2 : decode cX3_thingsWithAims 2 = .ok (.iconst 0, 1) := by decide +kernel
theorem dX3_thingsWithAims_3 : decode cX3_thingsWithAims 3 = .ok (.istore_n 2, 1) := by decide +kernel
theorem dX3_thingsWithAims_4 : decode cX3_thingsWithAims 4 = .ok (.iload_n 2, 1) := by decide +kernel
theorem dX3_thingsWithAims_5 : decode cX3_thingsWithAims 5 = .ok (.aload_n 0, 1) := by decide +kernel
theorem dX3_thingsWithAims_6 : decode cX3_thingsWithAims 6 = .ok (.getfield 59, 3) := by decide +kernel
theorem dX3_thingsWithAims_9 : decode cX3_thingsWithAims 9 = .ok (.if_icmp .ge 29, 3) := by decide +kernel
theorem dX3_thingsWithAims_38 : decode cX3_thingsWithAims 38 = .ok (.iload_n 1, 1) := by decide +kernel
theorem dX3_thingsWithAims_39 : decode cX3_thingsWithAims 39 = .ok (.ireturn, 1) := by decide +kernel
set_option maxRecDepth 20000 in
theorem ggX3_bucketDepth_X7_depth : GoodIn wsX3_bucketDepth wsX7_depth := goodIn_r _ [4] (by decide +kernel) (by decide +kernel)
set_option maxRecDepth 20000 in
theorem gX3_bucketDepth_X7_depth_n74 : GoodIn wsX3_bucketDepth (wsX7_depth) := ggX3_bucketDepth_X7_depth
theorem dX3_bucketDepth_0 : decode cX3_bucketDepth 0 = .ok (.iload_n 2, 1) := by decide +kernel
theorem dX3_bucketDepth_1 : decode cX3_bucketDepth 1 = .ok (.ifCond .ne 10, 3) := by decide +kernel
theorem dX3_bucketDepth_4 : decode cX3_bucketDepth 4 = .ok (.iload_n 1, 1) := by decide +kernel
theorem dX3_bucketDepth_5 : decode cX3_bucketDepth 5 = .ok (.invokestatic 74, 3) := by decide +kernel
theorem dX3_bucketDepth_8 : decode cX3_bucketDepth 8 = .ok (.goto 12, 3) := by decide +kernel
theorem dX3_bucketDepth_11 : decode cX3_bucketDepth 11 = .ok (.aload_n 0, 1) := by decide +kernel
theorem dX3_bucketDepth_12 : decode cX3_bucketDepth 12 = .ok (.getfield 37, 3) := by decide +kernel
theorem dX3_bucketDepth_15 : decode cX3_bucketDepth 15 = .ok (.iload_n 1, 1) := by decide +kernel
theorem dX3_bucketDepth_16 : decode cX3_bucketDepth 16 = .ok (.invokestatic 74, 3) := by decide +kernel
theorem dX3_bucketDepth_19 : decode cX3_bucketDepth 19 = .ok (.isub, 1) := by decide +kernel
theorem dX3_bucketDepth_20 : decode cX3_bucketDepth 20 = .ok (.ireturn, 1) := by decide +kernel
theorem dX3_weightIn_0 : decode cX3_weightIn 0 = .ok (.iconst 0, 1) := by decide +kernel
theorem dX3_weightIn_1 : decode cX3_weightIn 1 = .ok (.istore_n 3, 1) := by decide +kernel
theorem dX3_weightIn_2 : decode cX3_weightIn 2 = .ok (.iconst 0, 1) := by decide +kernel
theorem dX3_weightIn_3 : decode cX3_weightIn 3 = .ok (.istore 4, 2) := by decide +kernel
theorem dX3_weightIn_5 : decode cX3_weightIn 5 = .ok (.iload 4, 2) := by decide +kernel
theorem dX3_weightIn_7 : decode cX3_weightIn 7 = .ok (.aload_n 0, 1) := by decide +kernel
theorem dX3_weightIn_8 : decode cX3_weightIn 8 = .ok (.getfield 59, 3) := by decide +kernel
theorem dX3_weightIn_11 : decode cX3_weightIn 11 = .ok (.if_icmp .ge 36, 3) := by decide +kernel
theorem dX3_weightIn_47 : decode cX3_weightIn 47 = .ok (.iload_n 3, 1) := by decide +kernel
theorem dX3_weightIn_48 : decode cX3_weightIn 48 = .ok (.ireturn, 1) := by decide +kernel
theorem dX3_isAllServed_0 : decode cX3_isAllServed 0 = .ok (.iconst 0, 1) := by decide +kernel
theorem dX3_isAllServed_1 : decode cX3_isAllServed 1 = .ok (.istore_n 2, 1) := by decide +kernel
theorem dX3_isAllServed_2 : decode cX3_isAllServed 2 = .ok (.iload_n 2, 1) := by decide +kernel
theorem dX3_isAllServed_3 : decode cX3_isAllServed 3 = .ok (.aload_n 0, 1) := by decide +kernel
theorem dX3_isAllServed_4 : decode cX3_isAllServed 4 = .ok (.getfield 59, 3) := by decide +kernel
theorem dX3_isAllServed_7 : decode cX3_isAllServed 7 = .ok (.if_icmp .ge 60, 3) := by decide +kernel
theorem dX3_isAllServed_67 : decode cX3_isAllServed 67 = .ok (.iconst 1, 1) := by decide +kernel
theorem dX3_isAllServed_68 : decode cX3_isAllServed 68 = .ok (.ireturn, 1) := by decide +kernel
set_option maxRecDepth 20000 in
theorem ggX3_loadTrouble_X3_has : GoodIn wsX3_loadTrouble wsX3_has := goodIn_r _ [5, 6, 26, 27, 28, 29, 30, 31, 32, 33, 34, 35, 36, 37, 38, 39] (by decide +kernel) (by decide +kernel)
set_option maxRecDepth 20000 in
theorem gX3_loadTrouble_X3_has : GoodIn wsX3_loadTrouble (wsV RX3 87 RX3 yX3_has wsX3_has) := goodIn_app (goodIn_of _ (by decide +kernel)) ggX3_loadTrouble_X3_has
theorem dX3_loadTrouble_0 : decode cX3_loadTrouble 0 = .ok (.aload_n 0, 1) := by decide +kernel
theorem dX3_loadTrouble_1 : decode cX3_loadTrouble 1 = .ok (.iload_n 2, 1) := by decide +kernel
theorem dX3_loadTrouble_2 : decode cX3_loadTrouble 2 = .ok (.invokevirtual 87, 3) := by decide +kernel
theorem dX3_loadTrouble_5 : decode cX3_loadTrouble 5 = .ok (.ifCond .eq 12, 3) := by decide +kernel
theorem dX3_loadTrouble_17 : decode cX3_loadTrouble 17 = .ok (.iconst 1, 1) := by decide +kernel
theorem dX3_loadTrouble_18 : decode cX3_loadTrouble 18 = .ok (.ireturn, 1) := by decide +kernel
set_option maxRecDepth 20000 in
theorem ggX3_unloadTrouble_X3_has : GoodIn wsX3_unloadTrouble wsX3_has := goodIn_r _ [5, 6, 13, 14, 15, 16, 17, 18, 19, 20, 21, 22, 23, 24, 25, 26] (by decide +kernel) (by decide +kernel)
set_option maxRecDepth 20000 in
theorem gX3_unloadTrouble_X3_has : GoodIn wsX3_unloadTrouble (wsV RX3 87 RX3 yX3_has wsX3_has) := goodIn_app (goodIn_of _ (by decide +kernel)) ggX3_unloadTrouble_X3_has
theorem dX3_unloadTrouble_0 : decode cX3_unloadTrouble 0 = .ok (.aload_n 0, 1) := by decide +kernel
theorem dX3_unloadTrouble_1 : decode cX3_unloadTrouble 1 = .ok (.iload_n 2, 1) := by decide +kernel
theorem dX3_unloadTrouble_2 : decode cX3_unloadTrouble 2 = .ok (.invokevirtual 87, 3) := by decide +kernel
theorem dX3_unloadTrouble_5 : decode cX3_unloadTrouble 5 = .ok (.ifCond .ne 5, 3) := by decide +kernel
theorem dX3_unloadTrouble_8 : decode cX3_unloadTrouble 8 = .ok (.iconst 1, 1) := by decide +kernel
theorem dX3_unloadTrouble_9 : decode cX3_unloadTrouble 9 = .ok (.ireturn, 1) := by decide +kernel
set_option maxRecDepth 20000 in
theorem ggX3_rideTrouble_X3_hasDepth : GoodIn wsX3_rideTrouble wsX3_hasDepth := goodIn_r _ [8, 9, 56, 57, 58, 59, 60, 61, 62, 63, 64, 65, 66, 67, 68, 69] (by decide +kernel) (by decide +kernel)
set_option maxRecDepth 20000 in
theorem gX3_rideTrouble_X3_hasDepth : GoodIn wsX3_rideTrouble (wsV RX3 98 RX3 yX3_hasDepth wsX3_hasDepth) := goodIn_app (goodIn_of _ (by decide +kernel)) ggX3_rideTrouble_X3_hasDepth
set_option maxRecDepth 20000 in
theorem ggX3_rideTrouble_X7_depth : GoodIn wsX3_rideTrouble wsX7_depth := goodIn_r _ [12] (by decide +kernel) (by decide +kernel)
set_option maxRecDepth 20000 in
theorem gX3_rideTrouble_X7_depth_n74 : GoodIn wsX3_rideTrouble (wsX7_depth) := ggX3_rideTrouble_X7_depth
set_option maxRecDepth 20000 in
theorem ggX3_rideTrouble_X3_weightIn : GoodIn wsX3_rideTrouble wsX3_weightIn := goodIn_r _ [16, 17, 18, 19, 11, 20, 56, 57, 58, 59, 60, 61, 62, 63, 64, 65, 66, 67, 68, 69] (by decide +kernel) (by decide +kernel)
set_option maxRecDepth 20000 in
theorem gX3_rideTrouble_X3_weightIn : GoodIn wsX3_rideTrouble (wsV RX3 101 RX3 yX3_weightIn wsX3_weightIn) := goodIn_app (goodIn_of _ (by decide +kernel)) ggX3_rideTrouble_X3_weightIn
set_option maxRecDepth 20000 in
theorem ggX3_rideTrouble_X3_brokenRule : GoodIn wsX3_rideTrouble wsX3_brokenRule := goodIn_r _ [24, 25, 26, 17, 27, 18, 28, 29, 30, 31, 19, 11, 20, 32, 33, 34, 7, 35, 9, 10, 12, 36, 37, 38, 39, 40, 41, 42, 43, 44, 45, 56, 57, 58, 59, 60, 61, 62, 63, 64, 65, 66, 67, 68, 69, 70, 71, 72, 73, 74] (by decide +kernel) (by decide +kernel)
set_option maxRecDepth 20000 in
theorem gX3_rideTrouble_X3_brokenRule : GoodIn wsX3_rideTrouble (wsV RX3 104 RX3 yX3_brokenRule wsX3_brokenRule) := goodIn_app (goodIn_of _ (by decide +kernel)) ggX3_rideTrouble_X3_brokenRule
set_option maxRecDepth 20000 in
theorem ggX3_rideTrouble_X3_excessTrouble : GoodIn wsX3_rideTrouble wsX3_excessTrouble := goodIn_r _ [49, 50, 13, 14, 15, 7, 16, 17, 18, 19, 11, 20, 10, 12, 4, 5, 6, 8, 9, 51, 52, 53, 54, 55, 56, 57, 58, 59, 60, 61, 62, 63, 64, 65, 66, 67, 68, 69] (by decide +kernel) (by decide +kernel)
set_option maxRecDepth 20000 in
theorem gX3_rideTrouble_X3_excessTrouble : GoodIn wsX3_rideTrouble (wsV RX3 107 RX3 yX3_excessTrouble wsX3_excessTrouble) := goodIn_app (goodIn_of _ (by decide +kernel)) ggX3_rideTrouble_X3_excessTrouble
theorem dX3_rideTrouble_0 : decode cX3_rideTrouble 0 = .ok (.aload_n 0, 1) := by decide +kernel
theorem dX3_rideTrouble_1 : decode cX3_rideTrouble 1 = .ok (.iload_n 2, 1) := by decide +kernel
theorem dX3_rideTrouble_2 : decode cX3_rideTrouble 2 = .ok (.invokevirtual 98, 3) := by decide +kernel
theorem dX3_rideTrouble_5 : decode cX3_rideTrouble 5 = .ok (.ifCond .eq 12, 3) := by decide +kernel
theorem dX3_rideTrouble_8 : decode cX3_rideTrouble 8 = .ok (.iload_n 3, 1) := by decide +kernel
theorem dX3_rideTrouble_9 : decode cX3_rideTrouble 9 = .ok (.ifCond .lt 8, 3) := by decide +kernel
theorem dX3_rideTrouble_12 : decode cX3_rideTrouble 12 = .ok (.iload_n 3, 1) := by decide +kernel
theorem dX3_rideTrouble_13 : decode cX3_rideTrouble 13 = .ok (.iconst 2, 1) := by decide +kernel
theorem dX3_rideTrouble_14 : decode cX3_rideTrouble 14 = .ok (.if_icmp .le 5, 3) := by decide +kernel
theorem dX3_rideTrouble_17 : decode cX3_rideTrouble 17 = .ok (.iconst 1, 1) := by decide +kernel
theorem dX3_rideTrouble_18 : decode cX3_rideTrouble 18 = .ok (.ireturn, 1) := by decide +kernel
theorem dX3_rideTrouble_19 : decode cX3_rideTrouble 19 = .ok (.iload_n 2, 1) := by decide +kernel
theorem dX3_rideTrouble_20 : decode cX3_rideTrouble 20 = .ok (.iload_n 1, 1) := by decide +kernel
theorem dX3_rideTrouble_21 : decode cX3_rideTrouble 21 = .ok (.invokestatic 74, 3) := by decide +kernel
theorem dX3_rideTrouble_24 : decode cX3_rideTrouble 24 = .ok (.if_icmp .ne 5, 3) := by decide +kernel
theorem dX3_rideTrouble_27 : decode cX3_rideTrouble 27 = .ok (.iconst 3, 1) := by decide +kernel
theorem dX3_rideTrouble_28 : decode cX3_rideTrouble 28 = .ok (.ireturn, 1) := by decide +kernel
theorem dX3_rideTrouble_29 : decode cX3_rideTrouble 29 = .ok (.aload_n 0, 1) := by decide +kernel
theorem dX3_rideTrouble_30 : decode cX3_rideTrouble 30 = .ok (.iload_n 1, 1) := by decide +kernel
theorem dX3_rideTrouble_31 : decode cX3_rideTrouble 31 = .ok (.iconst 0, 1) := by decide +kernel
theorem dX3_rideTrouble_32 : decode cX3_rideTrouble 32 = .ok (.invokevirtual 101, 3) := by decide +kernel
theorem dX3_rideTrouble_35 : decode cX3_rideTrouble 35 = .ok (.aload_n 0, 1) := by decide +kernel
theorem dX3_rideTrouble_36 : decode cX3_rideTrouble 36 = .ok (.getfield 44, 3) := by decide +kernel
theorem dX3_rideTrouble_39 : decode cX3_rideTrouble 39 = .ok (.if_icmp .gt 16, 3) := by decide +kernel
theorem dX3_rideTrouble_42 : decode cX3_rideTrouble 42 = .ok (.aload_n 0, 1) := by decide +kernel
theorem dX3_rideTrouble_43 : decode cX3_rideTrouble 43 = .ok (.iload_n 1, 1) := by decide +kernel
theorem dX3_rideTrouble_44 : decode cX3_rideTrouble 44 = .ok (.iconst 1, 1) := by decide +kernel
theorem dX3_rideTrouble_45 : decode cX3_rideTrouble 45 = .ok (.invokevirtual 101, 3) := by decide +kernel
theorem dX3_rideTrouble_48 : decode cX3_rideTrouble 48 = .ok (.aload_n 0, 1) := by decide +kernel
theorem dX3_rideTrouble_49 : decode cX3_rideTrouble 49 = .ok (.getfield 44, 3) := by decide +kernel
theorem dX3_rideTrouble_52 : decode cX3_rideTrouble 52 = .ok (.if_icmp .le 5, 3) := by decide +kernel
theorem dX3_rideTrouble_57 : decode cX3_rideTrouble 57 = .ok (.aload_n 0, 1) := by decide +kernel
theorem dX3_rideTrouble_58 : decode cX3_rideTrouble 58 = .ok (.iload_n 1, 1) := by decide +kernel
theorem dX3_rideTrouble_59 : decode cX3_rideTrouble 59 = .ok (.iconst 0, 1) := by decide +kernel
theorem dX3_rideTrouble_60 : decode cX3_rideTrouble 60 = .ok (.invokevirtual 104, 3) := by decide +kernel
theorem dX3_rideTrouble_63 : decode cX3_rideTrouble 63 = .ok (.iconst (-1), 1) := by decide +kernel
theorem dX3_rideTrouble_64 : decode cX3_rideTrouble 64 = .ok (.if_icmp .ne 13, 3) := by decide +kernel
theorem dX3_rideTrouble_67 : decode cX3_rideTrouble 67 = .ok (.aload_n 0, 1) := by decide +kernel
theorem dX3_rideTrouble_68 : decode cX3_rideTrouble 68 = .ok (.iload_n 1, 1) := by decide +kernel
theorem dX3_rideTrouble_69 : decode cX3_rideTrouble 69 = .ok (.iconst 1, 1) := by decide +kernel
theorem dX3_rideTrouble_70 : decode cX3_rideTrouble 70 = .ok (.invokevirtual 104, 3) := by decide +kernel
theorem dX3_rideTrouble_73 : decode cX3_rideTrouble 73 = .ok (.iconst (-1), 1) := by decide +kernel
theorem dX3_rideTrouble_74 : decode cX3_rideTrouble 74 = .ok (.if_icmp .eq 5, 3) := by decide +kernel
theorem dX3_rideTrouble_79 : decode cX3_rideTrouble 79 = .ok (.iload_n 3, 1) := by decide +kernel
theorem dX3_rideTrouble_80 : decode cX3_rideTrouble 80 = .ok (.iconst 2, 1) := by decide +kernel
theorem dX3_rideTrouble_81 : decode cX3_rideTrouble 81 = .ok (.if_icmp .ne 7, 3) := by decide +kernel
theorem dX3_rideTrouble_84 : decode cX3_rideTrouble 84 = .ok (.iconst 0, 1) := by decide +kernel
theorem dX3_rideTrouble_85 : decode cX3_rideTrouble 85 = .ok (.goto 29, 3) := by decide +kernel
theorem dX3_rideTrouble_88 : decode cX3_rideTrouble 88 = .ok (.aload_n 0, 1) := by decide +kernel
theorem dX3_rideTrouble_89 : decode cX3_rideTrouble 89 = .ok (.iload_n 1, 1) := by decide +kernel
theorem dX3_rideTrouble_90 : decode cX3_rideTrouble 90 = .ok (.iload_n 2, 1) := by decide +kernel
theorem dX3_rideTrouble_91 : decode cX3_rideTrouble 91 = .ok (.iload_n 3, 1) := by decide +kernel
theorem dX3_rideTrouble_92 : decode cX3_rideTrouble 92 = .ok (.ifCond .ne 10, 3) := by decide +kernel
theorem dX3_rideTrouble_95 : decode cX3_rideTrouble 95 = .ok (.aload_n 0, 1) := by decide +kernel
theorem dX3_rideTrouble_96 : decode cX3_rideTrouble 96 = .ok (.getfield 53, 3) := by decide +kernel
theorem dX3_rideTrouble_99 : decode cX3_rideTrouble 99 = .ok (.goto 12, 3) := by decide +kernel
theorem dX3_rideTrouble_102 : decode cX3_rideTrouble 102 = .ok (.aload_n 0, 1) := by decide +kernel
theorem dX3_rideTrouble_103 : decode cX3_rideTrouble 103 = .ok (.getfield 53, 3) := by decide +kernel
theorem dX3_rideTrouble_106 : decode cX3_rideTrouble 106 = .ok (.aload_n 0, 1) := by decide +kernel
theorem dX3_rideTrouble_107 : decode cX3_rideTrouble 107 = .ok (.getfield 56, 3) := by decide +kernel
theorem dX3_rideTrouble_110 : decode cX3_rideTrouble 110 = .ok (.iadd, 1) := by decide +kernel
theorem dX3_rideTrouble_111 : decode cX3_rideTrouble 111 = .ok (.invokevirtual 107, 3) := by decide +kernel
theorem dX3_rideTrouble_114 : decode cX3_rideTrouble 114 = .ok (.ireturn, 1) := by decide +kernel
set_option maxRecDepth 20000 in
theorem ggX3_excessTrouble_X3_weightIn : GoodIn wsX3_excessTrouble wsX3_weightIn := goodIn_r _ [6, 7, 8, 9, 10, 11, 24, 25, 26, 27, 28, 29, 30, 31, 32, 33, 34, 35, 36, 37] (by decide +kernel) (by decide +kernel)
set_option maxRecDepth 20000 in
theorem gX3_excessTrouble_X3_weightIn : GoodIn wsX3_excessTrouble (wsV RX3 101 RX3 yX3_weightIn wsX3_weightIn) := goodIn_app (goodIn_of _ (by decide +kernel)) ggX3_excessTrouble_X3_weightIn
set_option maxRecDepth 20000 in
theorem ggX3_excessTrouble_X7_depth : GoodIn wsX3_excessTrouble wsX7_depth := goodIn_r _ [13] (by decide +kernel) (by decide +kernel)
set_option maxRecDepth 20000 in
theorem gX3_excessTrouble_X7_depth_n74 : GoodIn wsX3_excessTrouble (wsX7_depth) := ggX3_excessTrouble_X7_depth
set_option maxRecDepth 20000 in
theorem ggX3_excessTrouble_X3_hasDepth : GoodIn wsX3_excessTrouble wsX3_hasDepth := goodIn_r _ [17, 18, 24, 25, 26, 27, 28, 29, 30, 31, 32, 33, 34, 35, 36, 37] (by decide +kernel) (by decide +kernel)
set_option maxRecDepth 20000 in
theorem gX3_excessTrouble_X3_hasDepth : GoodIn wsX3_excessTrouble (wsV RX3 98 RX3 yX3_hasDepth wsX3_hasDepth) := goodIn_app (goodIn_of _ (by decide +kernel)) ggX3_excessTrouble_X3_hasDepth
set_option maxRecDepth 20000 in
theorem ggX3_excessTrouble_X3_excess : GoodIn wsX3_excessTrouble wsX3_excess := goodIn_r _ [22, 23, 18, 24, 25, 26, 27, 28, 29, 30, 31, 32, 33, 34, 35, 36, 37] (by decide +kernel) (by decide +kernel)
set_option maxRecDepth 20000 in
theorem gX3_excessTrouble_X3_excess : GoodIn wsX3_excessTrouble (wsV RX3 110 RX3 yX3_excess wsX3_excess) := goodIn_app (goodIn_of _ (by decide +kernel)) ggX3_excessTrouble_X3_excess
theorem dX3_excessTrouble_0 : decode cX3_excessTrouble 0 = .ok (.aload_n 0, 1) := by decide +kernel
theorem dX3_excessTrouble_1 : decode cX3_excessTrouble 1 = .ok (.iload_n 1, 1) := by decide +kernel
theorem dX3_excessTrouble_2 : decode cX3_excessTrouble 2 = .ok (.iconst 0, 1) := by decide +kernel
theorem dX3_excessTrouble_3 : decode cX3_excessTrouble 3 = .ok (.invokevirtual 101, 3) := by decide +kernel
theorem dX3_excessTrouble_6 : decode cX3_excessTrouble 6 = .ok (.aload_n 0, 1) := by decide +kernel
theorem dX3_excessTrouble_7 : decode cX3_excessTrouble 7 = .ok (.iload_n 1, 1) := by decide +kernel
theorem dX3_excessTrouble_8 : decode cX3_excessTrouble 8 = .ok (.iconst 1, 1) := by decide +kernel
theorem dX3_excessTrouble_9 : decode cX3_excessTrouble 9 = .ok (.invokevirtual 101, 3) := by decide +kernel
theorem dX3_excessTrouble_12 : decode cX3_excessTrouble 12 = .ok (.isub, 1) := by decide +kernel
theorem dX3_excessTrouble_13 : decode cX3_excessTrouble 13 = .ok (.istore 4, 2) := by decide +kernel
theorem dX3_excessTrouble_15 : decode cX3_excessTrouble 15 = .ok (.iload_n 2, 1) := by decide +kernel
theorem dX3_excessTrouble_16 : decode cX3_excessTrouble 16 = .ok (.iload_n 1, 1) := by decide +kernel
theorem dX3_excessTrouble_17 : decode cX3_excessTrouble 17 = .ok (.invokestatic 74, 3) := by decide +kernel
theorem dX3_excessTrouble_20 : decode cX3_excessTrouble 20 = .ok (.if_icmp .le 7, 3) := by decide +kernel
theorem dX3_excessTrouble_23 : decode cX3_excessTrouble 23 = .ok (.iconst 1, 1) := by decide +kernel
theorem dX3_excessTrouble_24 : decode cX3_excessTrouble 24 = .ok (.goto 4, 3) := by decide +kernel
theorem dX3_excessTrouble_28 : decode cX3_excessTrouble 28 = .ok (.istore 5, 2) := by decide +kernel
theorem dX3_excessTrouble_30 : decode cX3_excessTrouble 30 = .ok (.iconst 0, 1) := by decide +kernel
theorem dX3_excessTrouble_31 : decode cX3_excessTrouble 31 = .ok (.istore 6, 2) := by decide +kernel
theorem dX3_excessTrouble_33 : decode cX3_excessTrouble 33 = .ok (.iload_n 1, 1) := by decide +kernel
theorem dX3_excessTrouble_34 : decode cX3_excessTrouble 34 = .ok (.invokestatic 74, 3) := by decide +kernel
theorem dX3_excessTrouble_37 : decode cX3_excessTrouble 37 = .ok (.istore 7, 2) := by decide +kernel
theorem dX3_excessTrouble_39 : decode cX3_excessTrouble 39 = .ok (.aload_n 0, 1) := by decide +kernel
theorem dX3_excessTrouble_40 : decode cX3_excessTrouble 40 = .ok (.iload 7, 2) := by decide +kernel
theorem dX3_excessTrouble_42 : decode cX3_excessTrouble 42 = .ok (.invokevirtual 98, 3) := by decide +kernel
theorem dX3_excessTrouble_45 : decode cX3_excessTrouble 45 = .ok (.ifCond .eq 58, 3) := by decide +kernel
theorem dX3_excessTrouble_48 : decode cX3_excessTrouble 48 = .ok (.iload 7, 2) := by decide +kernel
theorem dX3_excessTrouble_50 : decode cX3_excessTrouble 50 = .ok (.iload_n 2, 1) := by decide +kernel
theorem dX3_excessTrouble_51 : decode cX3_excessTrouble 51 = .ok (.if_icmp .eq 52, 3) := by decide +kernel
theorem dX3_excessTrouble_54 : decode cX3_excessTrouble 54 = .ok (.aload_n 0, 1) := by decide +kernel
theorem dX3_excessTrouble_55 : decode cX3_excessTrouble 55 = .ok (.iload 4, 2) := by decide +kernel
theorem dX3_excessTrouble_57 : decode cX3_excessTrouble 57 = .ok (.iload 7, 2) := by decide +kernel
theorem dX3_excessTrouble_59 : decode cX3_excessTrouble 59 = .ok (.iload 5, 2) := by decide +kernel
theorem dX3_excessTrouble_61 : decode cX3_excessTrouble 61 = .ok (.invokevirtual 110, 3) := by decide +kernel
theorem dX3_excessTrouble_64 : decode cX3_excessTrouble 64 = .ok (.istore 8, 2) := by decide +kernel
theorem dX3_excessTrouble_66 : decode cX3_excessTrouble 66 = .ok (.iload 8, 2) := by decide +kernel
theorem dX3_excessTrouble_68 : decode cX3_excessTrouble 68 = .ok (.aload_n 0, 1) := by decide +kernel
theorem dX3_excessTrouble_69 : decode cX3_excessTrouble 69 = .ok (.getfield 50, 3) := by decide +kernel
theorem dX3_excessTrouble_72 : decode cX3_excessTrouble 72 = .ok (.if_icmp .ge 6, 3) := by decide +kernel
theorem dX3_excessTrouble_75 : decode cX3_excessTrouble 75 = .ok (.bipush 6, 2) := by decide +kernel
theorem dX3_excessTrouble_77 : decode cX3_excessTrouble 77 = .ok (.ireturn, 1) := by decide +kernel
set_option maxRecDepth 20000 in
theorem ggX3_windingTo_X3_weightIn : GoodIn wsX3_windingTo wsX3_weightIn := goodIn_r _ [5, 6, 7, 8, 9, 10, 30, 31, 32, 33, 34, 35, 36, 37, 38, 39, 40, 41, 42, 43] (by decide +kernel) (by decide +kernel)
set_option maxRecDepth 20000 in
theorem gX3_windingTo_X3_weightIn : GoodIn wsX3_windingTo (wsV RX3 101 RX3 yX3_weightIn wsX3_weightIn) := goodIn_app (goodIn_of _ (by decide +kernel)) ggX3_windingTo_X3_weightIn
set_option maxRecDepth 20000 in
theorem ggX3_windingTo_X7_depth : GoodIn wsX3_windingTo wsX7_depth := goodIn_r _ [12] (by decide +kernel) (by decide +kernel)
set_option maxRecDepth 20000 in
theorem gX3_windingTo_X7_depth_n74 : GoodIn wsX3_windingTo (wsX7_depth) := ggX3_windingTo_X7_depth
set_option maxRecDepth 20000 in
theorem ggX3_windingTo_X3_hasDepth : GoodIn wsX3_windingTo wsX3_hasDepth := goodIn_r _ [16, 17, 30, 31, 32, 33, 34, 35, 36, 37, 38, 39, 40, 41, 42, 43] (by decide +kernel) (by decide +kernel)
set_option maxRecDepth 20000 in
theorem gX3_windingTo_X3_hasDepth : GoodIn wsX3_windingTo (wsV RX3 98 RX3 yX3_hasDepth wsX3_hasDepth) := goodIn_app (goodIn_of _ (by decide +kernel)) ggX3_windingTo_X3_hasDepth
set_option maxRecDepth 20000 in
theorem ggX3_windingTo_X3_excess : GoodIn wsX3_windingTo wsX3_excess := goodIn_r _ [21, 22, 17, 30, 31, 32, 33, 34, 35, 36, 37, 38, 39, 40, 41, 42, 43] (by decide +kernel) (by decide +kernel)
set_option maxRecDepth 20000 in
theorem gX3_windingTo_X3_excess : GoodIn wsX3_windingTo (wsV RX3 110 RX3 yX3_excess wsX3_excess) := goodIn_app (goodIn_of _ (by decide +kernel)) ggX3_windingTo_X3_excess
set_option maxRecDepth 20000 in
theorem ggX3_windingTo_X3_windingOf : GoodIn wsX3_windingTo wsX3_windingOf := goodIn_r _ [26, 27, 28, 29, 30, 31, 32, 33, 34, 35, 36, 37, 38, 39, 40, 41, 42, 43] (by decide +kernel) (by decide +kernel)
set_option maxRecDepth 20000 in
theorem gX3_windingTo_X3_windingOf : GoodIn wsX3_windingTo (wsV RX3 113 RX3 yX3_windingOf wsX3_windingOf) := goodIn_app (goodIn_of _ (by decide +kernel)) ggX3_windingTo_X3_windingOf
theorem dX3_windingTo_0 : decode cX3_windingTo 0 = .ok (.aload_n 0, 1) := by decide +kernel
theorem dX3_windingTo_1 : decode cX3_windingTo 1 = .ok (.iload_n 1, 1) := by decide +kernel
theorem dX3_windingTo_2 : decode cX3_windingTo 2 = .ok (.iconst 0, 1) := by decide +kernel
theorem dX3_windingTo_3 : decode cX3_windingTo 3 = .ok (.invokevirtual 101, 3) := by decide +kernel
theorem dX3_windingTo_6 : decode cX3_windingTo 6 = .ok (.aload_n 0, 1) := by decide +kernel
theorem dX3_windingTo_7 : decode cX3_windingTo 7 = .ok (.iload_n 1, 1) := by decide +kernel
theorem dX3_windingTo_8 : decode cX3_windingTo 8 = .ok (.iconst 1, 1) := by decide +kernel
theorem dX3_windingTo_9 : decode cX3_windingTo 9 = .ok (.invokevirtual 101, 3) := by decide +kernel
theorem dX3_windingTo_12 : decode cX3_windingTo 12 = .ok (.isub, 1) := by decide +kernel
theorem dX3_windingTo_13 : decode cX3_windingTo 13 = .ok (.istore_n 3, 1) := by decide +kernel
theorem dX3_windingTo_14 : decode cX3_windingTo 14 = .ok (.iload_n 2, 1) := by decide +kernel
theorem dX3_windingTo_15 : decode cX3_windingTo 15 = .ok (.iload_n 1, 1) := by decide +kernel
theorem dX3_windingTo_16 : decode cX3_windingTo 16 = .ok (.invokestatic 74, 3) := by decide +kernel
theorem dX3_windingTo_19 : decode cX3_windingTo 19 = .ok (.if_icmp .le 7, 3) := by decide +kernel
theorem dX3_windingTo_22 : decode cX3_windingTo 22 = .ok (.iconst 1, 1) := by decide +kernel
theorem dX3_windingTo_23 : decode cX3_windingTo 23 = .ok (.goto 4, 3) := by decide +kernel
theorem dX3_windingTo_27 : decode cX3_windingTo 27 = .ok (.istore 4, 2) := by decide +kernel
theorem dX3_windingTo_29 : decode cX3_windingTo 29 = .ok (.iconst 0, 1) := by decide +kernel
theorem dX3_windingTo_30 : decode cX3_windingTo 30 = .ok (.istore 5, 2) := by decide +kernel
theorem dX3_windingTo_32 : decode cX3_windingTo 32 = .ok (.iload_n 1, 1) := by decide +kernel
theorem dX3_windingTo_33 : decode cX3_windingTo 33 = .ok (.invokestatic 74, 3) := by decide +kernel
theorem dX3_windingTo_36 : decode cX3_windingTo 36 = .ok (.istore 6, 2) := by decide +kernel
theorem dX3_windingTo_38 : decode cX3_windingTo 38 = .ok (.aload_n 0, 1) := by decide +kernel
theorem dX3_windingTo_39 : decode cX3_windingTo 39 = .ok (.iload 6, 2) := by decide +kernel
theorem dX3_windingTo_41 : decode cX3_windingTo 41 = .ok (.invokevirtual 98, 3) := by decide +kernel
theorem dX3_windingTo_44 : decode cX3_windingTo 44 = .ok (.ifCond .eq 37, 3) := by decide +kernel
theorem dX3_windingTo_47 : decode cX3_windingTo 47 = .ok (.iload 6, 2) := by decide +kernel
theorem dX3_windingTo_49 : decode cX3_windingTo 49 = .ok (.iload_n 2, 1) := by decide +kernel
theorem dX3_windingTo_50 : decode cX3_windingTo 50 = .ok (.if_icmp .eq 31, 3) := by decide +kernel
theorem dX3_windingTo_53 : decode cX3_windingTo 53 = .ok (.iload 5, 2) := by decide +kernel
theorem dX3_windingTo_55 : decode cX3_windingTo 55 = .ok (.aload_n 0, 1) := by decide +kernel
theorem dX3_windingTo_56 : decode cX3_windingTo 56 = .ok (.aload_n 0, 1) := by decide +kernel
theorem dX3_windingTo_57 : decode cX3_windingTo 57 = .ok (.iload_n 3, 1) := by decide +kernel
theorem dX3_windingTo_58 : decode cX3_windingTo 58 = .ok (.iload 6, 2) := by decide +kernel
theorem dX3_windingTo_60 : decode cX3_windingTo 60 = .ok (.iload 4, 2) := by decide +kernel
theorem dX3_windingTo_62 : decode cX3_windingTo 62 = .ok (.invokevirtual 110, 3) := by decide +kernel
theorem dX3_windingTo_65 : decode cX3_windingTo 65 = .ok (.invokevirtual 113, 3) := by decide +kernel
theorem dX3_windingTo_68 : decode cX3_windingTo 68 = .ok (.iadd, 1) := by decide +kernel
theorem dX3_windingTo_69 : decode cX3_windingTo 69 = .ok (.istore 5, 2) := by decide +kernel
theorem dX3_windingTo_71 : decode cX3_windingTo 71 = .ok (.iload 6, 2) := by decide +kernel
theorem dX3_windingTo_73 : decode cX3_windingTo 73 = .ok (.iload 4, 2) := by decide +kernel
theorem dX3_windingTo_75 : decode cX3_windingTo 75 = .ok (.iadd, 1) := by decide +kernel
theorem dX3_windingTo_76 : decode cX3_windingTo 76 = .ok (.istore 6, 2) := by decide +kernel
theorem dX3_windingTo_78 : decode cX3_windingTo 78 = .ok (.goto (-40), 3) := by decide +kernel
theorem dX3_windingTo_81 : decode cX3_windingTo 81 = .ok (.iload 5, 2) := by decide +kernel
theorem dX3_windingTo_83 : decode cX3_windingTo 83 = .ok (.ireturn, 1) := by decide +kernel
theorem dX3_excess_0 : decode cX3_excess 0 = .ok (.iload_n 3, 1) := by decide +kernel
theorem dX3_excess_1 : decode cX3_excess 1 = .ok (.iload_n 1, 1) := by decide +kernel
theorem dX3_excess_2 : decode cX3_excess 2 = .ok (.aload_n 0, 1) := by decide +kernel
theorem dX3_excess_3 : decode cX3_excess 3 = .ok (.getfield 47, 3) := by decide +kernel
theorem dX3_excess_6 : decode cX3_excess 6 = .ok (.iconst 2, 1) := by decide +kernel
theorem dX3_excess_7 : decode cX3_excess 7 = .ok (.iload_n 2, 1) := by decide +kernel
theorem dX3_excess_8 : decode cX3_excess 8 = .ok (.imul, 1) := by decide +kernel
theorem dX3_excess_9 : decode cX3_excess 9 = .ok (.aload_n 0, 1) := by decide +kernel
theorem dX3_excess_10 : decode cX3_excess 10 = .ok (.getfield 37, 3) := by decide +kernel
theorem dX3_excess_13 : decode cX3_excess 13 = .ok (.isub, 1) := by decide +kernel
theorem dX3_excess_14 : decode cX3_excess 14 = .ok (.imul, 1) := by decide +kernel
theorem dX3_excess_15 : decode cX3_excess 15 = .ok (.iadd, 1) := by decide +kernel
theorem dX3_excess_16 : decode cX3_excess 16 = .ok (.imul, 1) := by decide +kernel
theorem dX3_excess_17 : decode cX3_excess 17 = .ok (.ireturn, 1) := by decide +kernel
theorem dX3_runsByWeight_0 : decode cX3_runsByWeight 0 = .ok (.iload_n 1, 1) := by decide +kernel
theorem dX3_runsByWeight_1 : decode cX3_runsByWeight 1 = .ok (.aload_n 0, 1) := by decide +kernel
theorem dX3_runsByWeight_2 : decode cX3_runsByWeight 2 = .ok (.getfield 50, 3) := by decide +kernel
theorem dX3_runsByWeight_5 : decode cX3_runsByWeight 5 = .ok (.if_icmp .lt 20, 3) := by decide +kernel
theorem dX3_runsByWeight_25 : decode cX3_runsByWeight 25 = .ok (.iconst 0, 1) := by decide +kernel
theorem dX3_runsByWeight_26 : decode cX3_runsByWeight 26 = .ok (.ireturn, 1) := by decide +kernel
theorem dX3_windingOf_0 : decode cX3_windingOf 0 = .ok (.iload_n 1, 1) := by decide +kernel
theorem dX3_windingOf_1 : decode cX3_windingOf 1 = .ok (.aload_n 0, 1) := by decide +kernel
theorem dX3_windingOf_2 : decode cX3_windingOf 2 = .ok (.getfield 50, 3) := by decide +kernel
theorem dX3_windingOf_5 : decode cX3_windingOf 5 = .ok (.if_icmp .ge 10, 3) := by decide +kernel
theorem dX3_windingOf_8 : decode cX3_windingOf 8 = .ok (.aload_n 0, 1) := by decide +kernel
theorem dX3_windingOf_9 : decode cX3_windingOf 9 = .ok (.getfield 50, 3) := by decide +kernel
theorem dX3_windingOf_12 : decode cX3_windingOf 12 = .ok (.iload_n 1, 1) := by decide +kernel
theorem dX3_windingOf_13 : decode cX3_windingOf 13 = .ok (.isub, 1) := by decide +kernel
theorem dX3_windingOf_14 : decode cX3_windingOf 14 = .ok (.ireturn, 1) := by decide +kernel
theorem dX3_brokenRule_0 : decode cX3_brokenRule 0 = .ok (.aload_n 0, 1) := by decide +kernel
theorem dX3_brokenRule_1 : decode cX3_brokenRule 1 = .ok (.getfield 27, 3) := by decide +kernel
theorem dX3_brokenRule_4 : decode cX3_brokenRule 4 = .ok (.getfield 116, 3) := by decide +kernel
theorem dX3_brokenRule_7 : decode cX3_brokenRule 7 = .ok (.ifCond .ne 5, 3) := by decide +kernel
theorem dX3_brokenRule_10 : decode cX3_brokenRule 10 = .ok (.iconst (-1), 1) := by decide +kernel
theorem dX3_brokenRule_11 : decode cX3_brokenRule 11 = .ok (.ireturn, 1) := by decide +kernel
theorem dX4_init_0 : decode cX4_init 0 = .ok (.aload_n 0, 1) := by decide +kernel
theorem dX4_init_1 : decode cX4_init 1 = .ok (.invokespecial 3, 3) := by decide +kernel
theorem dX4_init_4 : decode cX4_init 4 = .ok (.aload_n 0, 1) := by decide +kernel
theorem dX4_init_5 : decode cX4_init 5 = .ok (.iconst 0, 1) := by decide +kernel
theorem dX4_init_6 : decode cX4_init 6 = .ok (.newarray .byte, 2) := by decide +kernel
theorem dX4_init_8 : decode cX4_init 8 = .ok (.putfield 9, 3) := by decide +kernel
theorem dX4_init_11 : decode cX4_init 11 = .ok (.aload_n 0, 1) := by decide +kernel
theorem dX4_init_12 : decode cX4_init 12 = .ok (.iconst 0, 1) := by decide +kernel
theorem dX4_init_13 : decode cX4_init 13 = .ok (.putfield 15, 3) := by decide +kernel
theorem dX4_init_16 : decode cX4_init 16 = .ok (.aload_n 0, 1) := by decide +kernel
theorem dX4_init_17 : decode cX4_init 17 = .ok (.iconst 0, 1) := by decide +kernel
theorem dX4_init_18 : decode cX4_init 18 = .ok (.putfield 19, 3) := by decide +kernel
theorem dX4_init_21 : decode cX4_init 21 = .ok (.aload_n 0, 1) := by decide +kernel
theorem dX4_init_22 : decode cX4_init 22 = .ok (.iconst 0, 1) := by decide +kernel
theorem dX4_init_23 : decode cX4_init 23 = .ok (.putfield 22, 3) := by decide +kernel
theorem dX4_init_26 : decode cX4_init 26 = .ok (.aload_n 0, 1) := by decide +kernel
theorem dX4_init_27 : decode cX4_init 27 = .ok (.iconst 0, 1) := by decide +kernel
theorem dX4_init_28 : decode cX4_init 28 = .ok (.putfield 25, 3) := by decide +kernel
theorem dX4_init_31 : decode cX4_init 31 = .ok (.aload_n 0, 1) := by decide +kernel
theorem dX4_init_32 : decode cX4_init 32 = .ok (.getstatic 28, 3) := by decide +kernel
theorem dX4_init_35 : decode cX4_init 35 = .ok (.putfield 34, 3) := by decide +kernel
theorem dX4_init_38 : decode cX4_init 38 = .ok (.aload_n 0, 1) := by decide +kernel
theorem dX4_init_39 : decode cX4_init 39 = .ok (.iconst 0, 1) := by decide +kernel
theorem dX4_init_40 : decode cX4_init 40 = .ok (.putfield 37, 3) := by decide +kernel
theorem dX4_init_43 : decode cX4_init 43 = .ok (.aload_n 0, 1) := by decide +kernel
theorem dX4_init_44 : decode cX4_init 44 = .ok (.iconst 0, 1) := by decide +kernel
theorem dX4_init_45 : decode cX4_init 45 = .ok (.putfield 40, 3) := by decide +kernel
theorem dX4_init_48 : decode cX4_init 48 = .ok (.return_, 1) := by decide +kernel
set_option maxRecDepth 20000 in
theorem ggX4_open_X4_advance : GoodIn wsX4_open wsX4_advance := goodIn_r _ [8, 3, 9, 2, 1, 10, 11, 12, 13, 14, 15, 7, 16, 17, 18, 19, 20, 21, 22, 23, 24, 25, 26, 27, 28, 29, 30, 31, 32, 33, 34, 35, 36, 37, 38, 39, 40, 41, 42, 43, 44, 45, 46, 47, 48, 49, 50, 51, 52, 53, 54, 55, 56, 57, 58, 59, 60, 61, 62, 63, 64, 65, 66, 67, 68, 69, 70, 71, 72, 73, 74, 75, 76, 77, 78, 79, 80, 81, 82, 83, 84, 85, 86, 87, 88, 89, 90, 91, 92] (by decide +kernel) (by decide +kernel)
set_option maxRecDepth 20000 in
theorem gX4_open_X4_advance : GoodIn wsX4_open (wsV RX4 43 RX4 yX4_advance wsX4_advance) := goodIn_app (goodIn_of _ (by decide +kernel)) ggX4_open_X4_advance
theorem dX4_open_0 : decode cX4_open 0 = .ok (.aload_n 0, 1) := by decide +kernel
theorem dX4_open_1 : decode cX4_open 1 = .ok (.aload_n 1, 1) := by decide +kernel
theorem dX4_open_2 : decode cX4_open 2 = .ok (.putfield 9, 3) := by decide +kernel
theorem dX4_open_5 : decode cX4_open 5 = .ok (.aload_n 0, 1) := by decide +kernel
theorem dX4_open_6 : decode cX4_open 6 = .ok (.iload_n 2, 1) := by decide +kernel
theorem dX4_open_7 : decode cX4_open 7 = .ok (.aload_n 1, 1) := by decide +kernel
theorem dX4_open_8 : decode cX4_open 8 = .ok (.arraylength, 1) := by decide +kernel
theorem dX4_open_9 : decode cX4_open 9 = .ok (.if_icmp .ge 7, 3) := by decide +kernel
theorem dX4_open_12 : decode cX4_open 12 = .ok (.iload_n 2, 1) := by decide +kernel
theorem dX4_open_13 : decode cX4_open 13 = .ok (.goto 5, 3) := by decide +kernel
theorem dX4_open_18 : decode cX4_open 18 = .ok (.putfield 15, 3) := by decide +kernel
theorem dX4_open_21 : decode cX4_open 21 = .ok (.aload_n 0, 1) := by decide +kernel
theorem dX4_open_22 : decode cX4_open 22 = .ok (.iconst 0, 1) := by decide +kernel
theorem dX4_open_23 : decode cX4_open 23 = .ok (.putfield 22, 3) := by decide +kernel
theorem dX4_open_26 : decode cX4_open 26 = .ok (.aload_n 0, 1) := by decide +kernel
theorem dX4_open_27 : decode cX4_open 27 = .ok (.invokevirtual 43, 3) := by decide +kernel
theorem dX4_open_30 : decode cX4_open 30 = .ok (.return_, 1) := by decide +kernel
set_option maxRecDepth 20000 in
theorem ggX4_advance_X4_rowEnd : GoodIn wsX4_advance wsX4_rowEnd := goodIn_r _ [12, 2, 3, 4, 81, 82, 83, 84, 85, 86, 87, 88] (by decide +kernel) (by decide +kernel)
set_option maxRecDepth 20000 in
theorem gX4_advance_X4_rowEnd : GoodIn wsX4_advance (wsV RX4 46 RX4 yX4_rowEnd wsX4_rowEnd) := goodIn_app (goodIn_of _ (by decide +kernel)) ggX4_advance_X4_rowEnd
set_option maxRecDepth 20000 in
theorem ggX4_advance_X4_stop : GoodIn wsX4_advance wsX4_stop := goodIn_r _ [16, 17, 3, 2, 1, 5, 6, 7, 81, 82, 83, 84, 85, 86, 87, 88] (by decide +kernel) (by decide +kernel)
set_option maxRecDepth 20000 in
theorem gX4_advance_X4_stop : GoodIn wsX4_advance (wsV RX4 50 RX4 yX4_stop wsX4_stop) := goodIn_app (goodIn_of _ (by decide +kernel)) ggX4_advance_X4_stop
theorem dX4_advance_0 : decode cX4_advance 0 = .ok (.aload_n 0, 1) := by decide +kernel
theorem dX4_advance_1 : decode cX4_advance 1 = .ok (.aload_n 0, 1) := by decide +kernel
theorem dX4_advance_2 : decode cX4_advance 2 = .ok (.getfield 22, 3) := by decide +kernel
theorem dX4_advance_5 : decode cX4_advance 5 = .ok (.putfield 19, 3) := by decide +kernel
theorem dX4_advance_8 : decode cX4_advance 8 = .ok (.aload_n 0, 1) := by decide +kernel
theorem dX4_advance_9 : decode cX4_advance 9 = .ok (.getfield 22, 3) := by decide +kernel
theorem dX4_advance_12 : decode cX4_advance 12 = .ok (.istore_n 1, 1) := by decide +kernel
theorem dX4_advance_13 : decode cX4_advance 13 = .ok (.iload_n 1, 1) := by decide +kernel
theorem dX4_advance_14 : decode cX4_advance 14 = .ok (.aload_n 0, 1) := by decide +kernel
theorem dX4_advance_15 : decode cX4_advance 15 = .ok (.getfield 15, 3) := by decide +kernel
theorem dX4_advance_18 : decode cX4_advance 18 = .ok (.if_icmp .ge 38, 3) := by decide +kernel
theorem dX4_advance_56 : decode cX4_advance 56 = .ok (.aload_n 0, 1) := by decide +kernel
theorem dX4_advance_57 : decode cX4_advance 57 = .ok (.getstatic 28, 3) := by decide +kernel
theorem dX4_advance_60 : decode cX4_advance 60 = .ok (.putfield 34, 3) := by decide +kernel
theorem dX4_advance_63 : decode cX4_advance 63 = .ok (.aload_n 0, 1) := by decide +kernel
