theorem dX4_advance_64 : decode cX4_advance 64 = .ok (.iconst 0, 1) := by decide +kernel
theorem dX4_advance_65 : decode cX4_advance 65 = .ok (.putfield 40, 3) := by decide +kernel
theorem dX4_advance_68 : decode cX4_advance 68 = .ok (.aload_n 0, 1) := by decide +kernel
theorem dX4_advance_69 : decode cX4_advance 69 = .ok (.bipush 97, 2) := by decide +kernel
theorem dX4_advance_71 : decode cX4_advance 71 = .ok (.bipush 122, 2) := by decide +kernel
theorem dX4_advance_73 : decode cX4_advance 73 = .ok (.invokevirtual 46, 3) := by decide +kernel
theorem dX4_advance_76 : decode cX4_advance 76 = .ok (.istore_n 1, 1) := by decide +kernel
theorem dX4_advance_77 : decode cX4_advance 77 = .ok (.aload_n 0, 1) := by decide +kernel
theorem dX4_advance_78 : decode cX4_advance 78 = .ok (.bipush 48, 2) := by decide +kernel
theorem dX4_advance_80 : decode cX4_advance 80 = .ok (.bipush 57, 2) := by decide +kernel
theorem dX4_advance_82 : decode cX4_advance 82 = .ok (.invokevirtual 46, 3) := by decide +kernel
theorem dX4_advance_85 : decode cX4_advance 85 = .ok (.istore_n 2, 1) := by decide +kernel
theorem dX4_advance_86 : decode cX4_advance 86 = .ok (.aload_n 0, 1) := by decide +kernel
theorem dX4_advance_87 : decode cX4_advance 87 = .ok (.getfield 19, 3) := by decide +kernel
theorem dX4_advance_90 : decode cX4_advance 90 = .ok (.aload_n 0, 1) := by decide +kernel
theorem dX4_advance_91 : decode cX4_advance 91 = .ok (.getfield 15, 3) := by decide +kernel
theorem dX4_advance_94 : decode cX4_advance 94 = .ok (.if_icmp .lt 10, 3) := by decide +kernel
theorem dX4_advance_97 : decode cX4_advance 97 = .ok (.aload_n 0, 1) := by decide +kernel
theorem dX4_advance_98 : decode cX4_advance 98 = .ok (.invokevirtual 50, 3) := by decide +kernel
theorem dX4_advance_101 : decode cX4_advance 101 = .ok (.goto 57, 3) := by decide +kernel
theorem dX4_advance_158 : decode cX4_advance 158 = .ok (.return_, 1) := by decide +kernel
theorem dX4_stop_0 : decode cX4_stop 0 = .ok (.aload_n 0, 1) := by decide +kernel
theorem dX4_stop_1 : decode cX4_stop 1 = .ok (.iconst 0, 1) := by decide +kernel
theorem dX4_stop_2 : decode cX4_stop 2 = .ok (.putfield 25, 3) := by decide +kernel
theorem dX4_stop_5 : decode cX4_stop 5 = .ok (.aload_n 0, 1) := by decide +kernel
theorem dX4_stop_6 : decode cX4_stop 6 = .ok (.aload_n 0, 1) := by decide +kernel
theorem dX4_stop_7 : decode cX4_stop 7 = .ok (.getfield 15, 3) := by decide +kernel
theorem dX4_stop_10 : decode cX4_stop 10 = .ok (.putfield 19, 3) := by decide +kernel
theorem dX4_stop_13 : decode cX4_stop 13 = .ok (.aload_n 0, 1) := by decide +kernel
theorem dX4_stop_14 : decode cX4_stop 14 = .ok (.aload_n 0, 1) := by decide +kernel
theorem dX4_stop_15 : decode cX4_stop 15 = .ok (.getfield 15, 3) := by decide +kernel
theorem dX4_stop_18 : decode cX4_stop 18 = .ok (.putfield 22, 3) := by decide +kernel
theorem dX4_stop_21 : decode cX4_stop 21 = .ok (.aload_n 0, 1) := by decide +kernel
theorem dX4_stop_22 : decode cX4_stop 22 = .ok (.getstatic 28, 3) := by decide +kernel
theorem dX4_stop_25 : decode cX4_stop 25 = .ok (.putfield 34, 3) := by decide +kernel
theorem dX4_stop_28 : decode cX4_stop 28 = .ok (.aload_n 0, 1) := by decide +kernel
theorem dX4_stop_29 : decode cX4_stop 29 = .ok (.iconst 0, 1) := by decide +kernel
theorem dX4_stop_30 : decode cX4_stop 30 = .ok (.putfield 40, 3) := by decide +kernel
theorem dX4_stop_33 : decode cX4_stop 33 = .ok (.return_, 1) := by decide +kernel
theorem dX4_rowEnd_0 : decode cX4_rowEnd 0 = .ok (.aload_n 0, 1) := by decide +kernel
theorem dX4_rowEnd_1 : decode cX4_rowEnd 1 = .ok (.getfield 19, 3) := by decide +kernel
theorem dX4_rowEnd_4 : decode cX4_rowEnd 4 = .ok (.istore_n 3, 1) := by decide +kernel
theorem dX4_rowEnd_5 : decode cX4_rowEnd 5 = .ok (.aload_n 0, 1) := by decide +kernel
theorem dX4_rowEnd_6 : decode cX4_rowEnd 6 = .ok (.getfield 19, 3) := by decide +kernel
theorem dX4_rowEnd_9 : decode cX4_rowEnd 9 = .ok (.istore 4, 2) := by decide +kernel
theorem dX4_rowEnd_11 : decode cX4_rowEnd 11 = .ok (.iload 4, 2) := by decide +kernel
theorem dX4_rowEnd_13 : decode cX4_rowEnd 13 = .ok (.aload_n 0, 1) := by decide +kernel
theorem dX4_rowEnd_14 : decode cX4_rowEnd 14 = .ok (.getfield 15, 3) := by decide +kernel
theorem dX4_rowEnd_17 : decode cX4_rowEnd 17 = .ok (.if_icmp .ge 36, 3) := by decide +kernel
theorem dX4_rowEnd_53 : decode cX4_rowEnd 53 = .ok (.iload_n 3, 1) := by decide +kernel
theorem dX4_rowEnd_54 : decode cX4_rowEnd 54 = .ok (.ireturn, 1) := by decide +kernel
set_option maxRecDepth 20000 in
theorem ggX5_init_X5_clear : GoodIn wsX5_init wsX5_clear := goodIn_r _ [12, 13, 14, 15, 16, 17, 18, 19] (by decide +kernel) (by decide +kernel)
set_option maxRecDepth 20000 in
theorem gX5_init_X5_clear : GoodIn wsX5_init (wsV RX5 21 RX5 yX5_clear wsX5_clear) := goodIn_app (goodIn_of _ (by decide +kernel)) ggX5_init_X5_clear
theorem dX5_init_0 : decode cX5_init 0 = .ok (.aload_n 0, 1) := by decide +kernel
theorem dX5_init_1 : decode cX5_init 1 = .ok (.invokespecial 3, 3) := by decide +kernel
theorem dX5_init_4 : decode cX5_init 4 = .ok (.aload_n 0, 1) := by decide +kernel
theorem dX5_init_5 : decode cX5_init 5 = .ok (.sipush 600, 3) := by decide +kernel
theorem dX5_init_8 : decode cX5_init 8 = .ok (.newarray .int, 2) := by decide +kernel
theorem dX5_init_10 : decode cX5_init 10 = .ok (.putfield 9, 3) := by decide +kernel
theorem dX5_init_13 : decode cX5_init 13 = .ok (.aload_n 0, 1) := by decide +kernel
theorem dX5_init_14 : decode cX5_init 14 = .ok (.iconst 4, 1) := by decide +kernel
theorem dX5_init_15 : decode cX5_init 15 = .ok (.newarray .int, 2) := by decide +kernel
theorem dX5_init_17 : decode cX5_init 17 = .ok (.putfield 15, 3) := by decide +kernel
theorem dX5_init_20 : decode cX5_init 20 = .ok (.aload_n 0, 1) := by decide +kernel
theorem dX5_init_21 : decode cX5_init 21 = .ok (.bipush 32, 2) := by decide +kernel
theorem dX5_init_23 : decode cX5_init 23 = .ok (.newarray .int, 2) := by decide +kernel
theorem dX5_init_25 : decode cX5_init 25 = .ok (.putfield 18, 3) := by decide +kernel
theorem dX5_init_28 : decode cX5_init 28 = .ok (.aload_n 0, 1) := by decide +kernel
theorem dX5_init_29 : decode cX5_init 29 = .ok (.invokevirtual 21, 3) := by decide +kernel
theorem dX5_init_32 : decode cX5_init 32 = .ok (.return_, 1) := by decide +kernel
theorem dX5_clear_0 : decode cX5_clear 0 = .ok (.aload_n 0, 1) := by decide +kernel
theorem dX5_clear_1 : decode cX5_clear 1 = .ok (.iconst 0, 1) := by decide +kernel
theorem dX5_clear_2 : decode cX5_clear 2 = .ok (.putfield 24, 3) := by decide +kernel
theorem dX5_clear_5 : decode cX5_clear 5 = .ok (.aload_n 0, 1) := by decide +kernel
theorem dX5_clear_6 : decode cX5_clear 6 = .ok (.iconst 0, 1) := by decide +kernel
theorem dX5_clear_7 : decode cX5_clear 7 = .ok (.putfield 28, 3) := by decide +kernel
theorem dX5_clear_10 : decode cX5_clear 10 = .ok (.return_, 1) := by decide +kernel
theorem dX6_init_0 : decode cX6_init 0 = .ok (.aload_n 0, 1) := by decide +kernel
theorem dX6_init_1 : decode cX6_init 1 = .ok (.invokespecial 3, 3) := by decide +kernel
theorem dX6_init_4 : decode cX6_init 4 = .ok (.aload_n 0, 1) := by decide +kernel
theorem dX6_init_5 : decode cX6_init 5 = .ok (.aload_n 1, 1) := by decide +kernel
theorem dX6_init_6 : decode cX6_init 6 = .ok (.putfield 9, 3) := by decide +kernel
theorem dX6_init_9 : decode cX6_init 9 = .ok (.aload_n 0, 1) := by decide +kernel
theorem dX6_init_10 : decode cX6_init 10 = .ok (.iconst 0, 1) := by decide +kernel
theorem dX6_init_11 : decode cX6_init 11 = .ok (.putfield 15, 3) := by decide +kernel
theorem dX6_init_14 : decode cX6_init 14 = .ok (.aload_n 0, 1) := by decide +kernel
theorem dX6_init_15 : decode cX6_init 15 = .ok (.iconst 0, 1) := by decide +kernel
theorem dX6_init_16 : decode cX6_init 16 = .ok (.putfield 19, 3) := by decide +kernel
theorem dX6_init_19 : decode cX6_init 19 = .ok (.aload_n 0, 1) := by decide +kernel
theorem dX6_init_20 : decode cX6_init 20 = .ok (.iconst 0, 1) := by decide +kernel
theorem dX6_init_21 : decode cX6_init 21 = .ok (.putfield 22, 3) := by decide +kernel
theorem dX6_init_24 : decode cX6_init 24 = .ok (.aload_n 0, 1) := by decide +kernel
theorem dX6_init_25 : decode cX6_init 25 = .ok (.iconst 0, 1) := by decide +kernel
theorem dX6_init_26 : decode cX6_init 26 = .ok (.putfield 26, 3) := by decide +kernel
theorem dX6_init_29 : decode cX6_init 29 = .ok (.aload_n 0, 1) := by decide +kernel
theorem dX6_init_30 : decode cX6_init 30 = .ok (.iconst (-1), 1) := by decide +kernel
theorem dX6_init_31 : decode cX6_init 31 = .ok (.putfield 29, 3) := by decide +kernel
theorem dX6_init_34 : decode cX6_init 34 = .ok (.aload_n 0, 1) := by decide +kernel
theorem dX6_init_35 : decode cX6_init 35 = .ok (.sipush 1500, 3) := by decide +kernel
theorem dX6_init_38 : decode cX6_init 38 = .ok (.newarray .int, 2) := by decide +kernel
theorem dX6_init_40 : decode cX6_init 40 = .ok (.putfield 32, 3) := by decide +kernel
theorem dX6_init_43 : decode cX6_init 43 = .ok (.aload_n 0, 1) := by decide +kernel
theorem dX6_init_44 : decode cX6_init 44 = .ok (.sipush 1500, 3) := by decide +kernel
theorem dX6_init_47 : decode cX6_init 47 = .ok (.newarray .int, 2) := by decide +kernel
theorem dX6_init_49 : decode cX6_init 49 = .ok (.putfield 36, 3) := by decide +kernel
theorem dX6_init_52 : decode cX6_init 52 = .ok (.aload_n 0, 1) := by decide +kernel
theorem dX6_init_53 : decode cX6_init 53 = .ok (.sipush 1500, 3) := by decide +kernel
theorem dX6_init_56 : decode cX6_init 56 = .ok (.newarray .int, 2) := by decide +kernel
theorem dX6_init_58 : decode cX6_init 58 = .ok (.putfield 39, 3) := by decide +kernel
theorem dX6_init_61 : decode cX6_init 61 = .ok (.aload_n 0, 1) := by decide +kernel
theorem dX6_init_62 : decode cX6_init 62 = .ok (.sipush 1024, 3) := by decide +kernel
theorem dX6_init_65 : decode cX6_init 65 = .ok (.newarray .int, 2) := by decide +kernel
theorem dX6_init_67 : decode cX6_init 67 = .ok (.putfield 42, 3) := by decide +kernel
theorem dX6_init_70 : decode cX6_init 70 = .ok (.aload_n 0, 1) := by decide +kernel
theorem dX6_init_71 : decode cX6_init 71 = .ok (.sipush 1500, 3) := by decide +kernel
theorem dX6_init_74 : decode cX6_init 74 = .ok (.newarray .int, 2) := by decide +kernel
theorem dX6_init_76 : decode cX6_init 76 = .ok (.putfield 45, 3) := by decide +kernel
theorem dX6_init_79 : decode cX6_init 79 = .ok (.aload_n 0, 1) := by decide +kernel
theorem dX6_init_80 : decode cX6_init 80 = .ok (.sipush 1500, 3) := by decide +kernel
theorem dX6_init_83 : decode cX6_init 83 = .ok (.newarray .int, 2) := by decide +kernel
theorem dX6_init_85 : decode cX6_init 85 = .ok (.putfield 48, 3) := by decide +kernel
theorem dX6_init_88 : decode cX6_init 88 = .ok (.aload_n 0, 1) := by decide +kernel
theorem dX6_init_89 : decode cX6_init 89 = .ok (.sipush 1500, 3) := by decide +kernel
theorem dX6_init_92 : decode cX6_init 92 = .ok (.newarray .int, 2) := by decide +kernel
theorem dX6_init_94 : decode cX6_init 94 = .ok (.putfield 51, 3) := by decide +kernel
theorem dX6_init_97 : decode cX6_init 97 = .ok (.aload_n 0, 1) := by decide +kernel
theorem dX6_init_98 : decode cX6_init 98 = .ok (.bipush 7, 2) := by decide +kernel
theorem dX6_init_100 : decode cX6_init 100 = .ok (.newarray .int, 2) := by decide +kernel
theorem dX6_init_102 : decode cX6_init 102 = .ok (.putfield 54, 3) := by decide +kernel
theorem dX6_init_105 : decode cX6_init 105 = .ok (.aload_n 0, 1) := by decide +kernel
theorem dX6_init_106 : decode cX6_init 106 = .ok (.sipush 1641, 3) := by decide +kernel
theorem dX6_init_109 : decode cX6_init 109 = .ok (.newarray .int, 2) := by decide +kernel
theorem dX6_init_111 : decode cX6_init 111 = .ok (.putfield 57, 3) := by decide +kernel
theorem dX6_init_114 : decode cX6_init 114 = .ok (.return_, 1) := by decide +kernel
set_option maxRecDepth 20000 in
theorem ggX6_forget_J7_fill_53178 : GoodIn wsX6_forget wsJ7_fill_53178 := goodIn_r _ [6] (by decide +kernel) (by decide +kernel)
set_option maxRecDepth 20000 in
theorem gX6_forget_J7_fill_53178 : GoodIn wsX6_forget (va_wsS RX6 60 yJ7_fill_53178 wsJ7_fill_53178) := goodIn_app (goodIn_of _ (by decide +kernel)) ggX6_forget_J7_fill_53178
theorem dX6_forget_0 : decode cX6_forget 0 = .ok (.aload_n 0, 1) := by decide +kernel
theorem dX6_forget_1 : decode cX6_forget 1 = .ok (.getfield 57, 3) := by decide +kernel
theorem dX6_forget_4 : decode cX6_forget 4 = .ok (.iconst 0, 1) := by decide +kernel
theorem dX6_forget_5 : decode cX6_forget 5 = .ok (.invokestatic 60, 3) := by decide +kernel
theorem dX6_forget_8 : decode cX6_forget 8 = .ok (.aload_n 0, 1) := by decide +kernel
theorem dX6_forget_9 : decode cX6_forget 9 = .ok (.iconst 0, 1) := by decide +kernel
theorem dX6_forget_10 : decode cX6_forget 10 = .ok (.putfield 22, 3) := by decide +kernel
theorem dX6_forget_13 : decode cX6_forget 13 = .ok (.return_, 1) := by decide +kernel
set_option maxRecDepth 20000 in
theorem ggX6_explore_J7_fill_53178 : GoodIn wsX6_explore wsJ7_fill_53178 := goodIn_r _ [12] (by decide +kernel) (by decide +kernel)
set_option maxRecDepth 20000 in
theorem gX6_explore_J7_fill_53178 : GoodIn wsX6_explore (va_wsS RX6 60 yJ7_fill_53178 wsJ7_fill_53178) := goodIn_app (goodIn_of _ (by decide +kernel)) ggX6_explore_J7_fill_53178
set_option maxRecDepth 20000 in
theorem ggX6_explore_X6_arrive : GoodIn wsX6_explore wsX6_arrive := goodIn_r _ [17, 7, 18, 19, 8, 2, 20, 1, 4, 21, 6, 22, 23, 24, 25, 16, 26, 27, 112, 113, 114, 115, 116, 117, 118, 119, 120, 121, 122, 123, 124, 125, 126] (by decide +kernel) (by decide +kernel)
set_option maxRecDepth 20000 in
theorem gX6_explore_X6_arrive : GoodIn wsX6_explore (wsV RX6 66 RX6 yX6_arrive wsX6_arrive) := goodIn_app (goodIn_of _ (by decide +kernel)) ggX6_explore_X6_arrive
set_option maxRecDepth 20000 in
theorem ggX6_explore_X6_takeCheapest : GoodIn wsX6_explore wsX6_takeCheapest := goodIn_r _ [31, 27, 6, 18, 21, 112, 113, 114, 115, 116, 117, 118, 119, 120, 121, 122, 123, 124, 125, 126] (by decide +kernel) (by decide +kernel)
set_option maxRecDepth 20000 in
theorem gX6_explore_X6_takeCheapest : GoodIn wsX6_explore (wsV RX6 70 RX6 yX6_takeCheapest wsX6_takeCheapest) := goodIn_app (goodIn_of _ (by decide +kernel)) ggX6_explore_X6_takeCheapest
set_option maxRecDepth 20000 in
theorem ggX6_explore_X6_emptied : GoodIn wsX6_explore wsX6_emptied := goodIn_r _ [35, 5, 36, 37, 38, 39, 40, 41, 42, 43, 44, 45, 46, 47, 48, 49, 50, 51, 52, 53, 54, 55, 56, 57, 58, 59, 60, 112, 113, 114, 115, 116, 117, 118, 119, 120, 121, 122, 123, 124, 125, 126, 127, 128, 129, 130, 131, 132, 133, 134, 135, 136, 137, 138, 139, 140] (by decide +kernel) (by decide +kernel)
set_option maxRecDepth 20000 in
theorem gX6_explore_X6_emptied : GoodIn wsX6_explore (wsV RX6 74 RX6 yX6_emptied wsX6_emptied) := goodIn_app (goodIn_of _ (by decide +kernel)) ggX6_explore_X6_emptied
set_option maxRecDepth 20000 in
theorem ggX6_explore_X6_lade : GoodIn wsX6_explore wsX6_lade := goodIn_r _ [64, 4, 5, 36, 65, 66, 67, 68, 16, 69, 70, 49, 42, 50, 71, 38, 72, 73, 74, 75, 76, 57, 77, 78, 10, 11, 12, 41, 43, 44, 45, 46, 47, 48, 79, 80, 81, 82, 83, 84, 85, 86, 87, 88, 89, 90, 91, 92, 3, 93, 94, 95, 96, 97, 98, 99, 100, 101, 102, 103, 104, 105, 106, 107, 108, 109, 110, 111, 13, 14, 15, 17, 7, 18, 19, 8, 2, 20, 1, 21, 6, 22, 23, 24, 25, 26, 27, 61, 62, 63, 59, 60, 112, 113, 114, 115, 116, 117, 118, 119, 120, 121, 122, 123, 124, 125, 126, 127, 128, 129, 130, 131, 132, 133, 134, 135, 136, 137, 138, 139, 140, 141, 142, 143, 144, 145] (by decide +kernel) (by decide +kernel)
set_option maxRecDepth 20000 in
theorem gX6_explore_X6_lade : GoodIn wsX6_explore (wsV RX6 78 RX6 yX6_lade wsX6_lade) := goodIn_app (goodIn_of _ (by decide +kernel)) ggX6_explore_X6_lade
theorem dX6_explore_0 : decode cX6_explore 0 = .ok (.aload_n 0, 1) := by decide +kernel
theorem dX6_explore_1 : decode cX6_explore 1 = .ok (.getfield 22, 3) := by decide +kernel
theorem dX6_explore_4 : decode cX6_explore 4 = .ok (.ifCond .le 34, 3) := by decide +kernel
theorem dX6_explore_38 : decode cX6_explore 38 = .ok (.aload_n 0, 1) := by decide +kernel
theorem dX6_explore_39 : decode cX6_explore 39 = .ok (.aload_n 1, 1) := by decide +kernel
theorem dX6_explore_40 : decode cX6_explore 40 = .ok (.putfield 9, 3) := by decide +kernel
theorem dX6_explore_43 : decode cX6_explore 43 = .ok (.aload_n 0, 1) := by decide +kernel
theorem dX6_explore_44 : decode cX6_explore 44 = .ok (.iload_n 3, 1) := by decide +kernel
theorem dX6_explore_45 : decode cX6_explore 45 = .ok (.putfield 15, 3) := by decide +kernel
theorem dX6_explore_48 : decode cX6_explore 48 = .ok (.aload_n 0, 1) := by decide +kernel
theorem dX6_explore_49 : decode cX6_explore 49 = .ok (.iconst 0, 1) := by decide +kernel
theorem dX6_explore_50 : decode cX6_explore 50 = .ok (.putfield 19, 3) := by decide +kernel
theorem dX6_explore_53 : decode cX6_explore 53 = .ok (.aload_n 0, 1) := by decide +kernel
theorem dX6_explore_54 : decode cX6_explore 54 = .ok (.iconst 0, 1) := by decide +kernel
theorem dX6_explore_55 : decode cX6_explore 55 = .ok (.putfield 22, 3) := by decide +kernel
theorem dX6_explore_58 : decode cX6_explore 58 = .ok (.aload_n 0, 1) := by decide +kernel
theorem dX6_explore_59 : decode cX6_explore 59 = .ok (.iconst 0, 1) := by decide +kernel
theorem dX6_explore_60 : decode cX6_explore 60 = .ok (.putfield 26, 3) := by decide +kernel
theorem dX6_explore_63 : decode cX6_explore 63 = .ok (.aload_n 0, 1) := by decide +kernel
theorem dX6_explore_64 : decode cX6_explore 64 = .ok (.iconst (-1), 1) := by decide +kernel
theorem dX6_explore_65 : decode cX6_explore 65 = .ok (.putfield 29, 3) := by decide +kernel
theorem dX6_explore_68 : decode cX6_explore 68 = .ok (.aload_n 0, 1) := by decide +kernel
theorem dX6_explore_69 : decode cX6_explore 69 = .ok (.getfield 42, 3) := by decide +kernel
theorem dX6_explore_72 : decode cX6_explore 72 = .ok (.iconst (-1), 1) := by decide +kernel
theorem dX6_explore_73 : decode cX6_explore 73 = .ok (.invokestatic 60, 3) := by decide +kernel
theorem dX6_explore_76 : decode cX6_explore 76 = .ok (.aload_n 0, 1) := by decide +kernel
theorem dX6_explore_77 : decode cX6_explore 77 = .ok (.iload_n 2, 1) := by decide +kernel
theorem dX6_explore_78 : decode cX6_explore 78 = .ok (.iconst 0, 1) := by decide +kernel
theorem dX6_explore_79 : decode cX6_explore 79 = .ok (.invokevirtual 66, 3) := by decide +kernel
theorem dX6_explore_82 : decode cX6_explore 82 = .ok (.iconst 0, 1) := by decide +kernel
theorem dX6_explore_83 : decode cX6_explore 83 = .ok (.istore 4, 2) := by decide +kernel
theorem dX6_explore_85 : decode cX6_explore 85 = .ok (.iload 4, 2) := by decide +kernel
theorem dX6_explore_87 : decode cX6_explore 87 = .ok (.sipush 1500, 3) := by decide +kernel
theorem dX6_explore_90 : decode cX6_explore 90 = .ok (.if_icmp .ge 52, 3) := by decide +kernel
theorem dX6_explore_93 : decode cX6_explore 93 = .ok (.aload_n 0, 1) := by decide +kernel
theorem dX6_explore_94 : decode cX6_explore 94 = .ok (.getfield 26, 3) := by decide +kernel
theorem dX6_explore_97 : decode cX6_explore 97 = .ok (.ifCond .le 45, 3) := by decide +kernel
theorem dX6_explore_100 : decode cX6_explore 100 = .ok (.aload_n 0, 1) := by decide +kernel
theorem dX6_explore_101 : decode cX6_explore 101 = .ok (.getfield 19, 3) := by decide +kernel
theorem dX6_explore_104 : decode cX6_explore 104 = .ok (.ifCond .ne 38, 3) := by decide +kernel
theorem dX6_explore_107 : decode cX6_explore 107 = .ok (.aload_n 0, 1) := by decide +kernel
theorem dX6_explore_108 : decode cX6_explore 108 = .ok (.aload_n 0, 1) := by decide +kernel
theorem dX6_explore_109 : decode cX6_explore 109 = .ok (.invokevirtual 70, 3) := by decide +kernel
theorem dX6_explore_112 : decode cX6_explore 112 = .ok (.putfield 29, 3) := by decide +kernel
theorem dX6_explore_115 : decode cX6_explore 115 = .ok (.aload_n 0, 1) := by decide +kernel
theorem dX6_explore_116 : decode cX6_explore 116 = .ok (.iconst 0, 1) := by decide +kernel
theorem dX6_explore_117 : decode cX6_explore 117 = .ok (.aload_n 0, 1) := by decide +kernel
theorem dX6_explore_118 : decode cX6_explore 118 = .ok (.aload_n 0, 1) := by decide +kernel
theorem dX6_explore_119 : decode cX6_explore 119 = .ok (.getfield 32, 3) := by decide +kernel
theorem dX6_explore_122 : decode cX6_explore 122 = .ok (.aload_n 0, 1) := by decide +kernel
theorem dX6_explore_123 : decode cX6_explore 123 = .ok (.getfield 29, 3) := by decide +kernel
theorem dX6_explore_126 : decode cX6_explore 126 = .ok (.iaload, 1) := by decide +kernel
theorem dX6_explore_127 : decode cX6_explore 127 = .ok (.invokevirtual 74, 3) := by decide +kernel
theorem dX6_explore_130 : decode cX6_explore 130 = .ok (.iconst 0, 1) := by decide +kernel
theorem dX6_explore_131 : decode cX6_explore 131 = .ok (.iconst 0, 1) := by decide +kernel
theorem dX6_explore_132 : decode cX6_explore 132 = .ok (.iconst 0, 1) := by decide +kernel
theorem dX6_explore_133 : decode cX6_explore 133 = .ok (.invokevirtual 78, 3) := by decide +kernel
theorem dX6_explore_136 : decode cX6_explore 136 = .ok (.iinc 4 1, 3) := by decide +kernel
theorem dX6_explore_139 : decode cX6_explore 139 = .ok (.goto (-54), 3) := by decide +kernel
theorem dX6_explore_142 : decode cX6_explore 142 = .ok (.aload_n 0, 1) := by decide +kernel
theorem dX6_explore_143 : decode cX6_explore 143 = .ok (.getfield 19, 3) := by decide +kernel
theorem dX6_explore_146 : decode cX6_explore 146 = .ok (.ifCond .ne 7, 3) := by decide +kernel
theorem dX6_explore_149 : decode cX6_explore 149 = .ok (.iconst 1, 1) := by decide +kernel
theorem dX6_explore_150 : decode cX6_explore 150 = .ok (.goto 4, 3) := by decide +kernel
theorem dX6_explore_154 : decode cX6_explore 154 = .ok (.ireturn, 1) := by decide +kernel
theorem dX6_emptied_0 : decode cX6_emptied 0 = .ok (.iload_n 1, 1) := by decide +kernel
theorem dX6_emptied_1 : decode cX6_emptied 1 = .ok (.istore_n 2, 1) := by decide +kernel
theorem dX6_emptied_2 : decode cX6_emptied 2 = .ok (.iconst 0, 1) := by decide +kernel
theorem dX6_emptied_3 : decode cX6_emptied 3 = .ok (.istore_n 3, 1) := by decide +kernel
theorem dX6_emptied_4 : decode cX6_emptied 4 = .ok (.iload_n 3, 1) := by decide +kernel
theorem dX6_emptied_5 : decode cX6_emptied 5 = .ok (.aload_n 0, 1) := by decide +kernel
theorem dX6_emptied_6 : decode cX6_emptied 6 = .ok (.getfield 9, 3) := by decide +kernel
theorem dX6_emptied_9 : decode cX6_emptied 9 = .ok (.getfield 82, 3) := by decide +kernel
theorem dX6_emptied_12 : decode cX6_emptied 12 = .ok (.if_icmp .ge 131, 3) := by decide +kernel
theorem dX6_emptied_143 : decode cX6_emptied 143 = .ok (.iload_n 2, 1) := by decide +kernel
theorem dX6_emptied_144 : decode cX6_emptied 144 = .ok (.ireturn, 1) := by decide +kernel
set_option maxRecDepth 20000 in
theorem ggX6_lade_X6_depart : GoodIn wsX6_lade wsX6_depart := goodIn_r _ [9, 10, 2, 11, 12, 13, 14, 15, 16, 17, 18, 19, 20, 21, 22, 23, 24, 25, 26, 27, 28, 29, 30, 31, 32, 33, 34, 35, 36, 37, 38, 39, 40, 41, 42, 43, 44, 45, 46, 8, 47, 48, 49, 50, 51, 52, 53, 54, 55, 56, 57, 58, 59, 60, 61, 62, 63, 64, 65, 66, 67, 68, 69, 70, 71, 72, 73, 74, 75, 76, 77, 78, 1, 79, 80, 81, 82, 83, 84, 85, 86, 92, 93, 94, 95, 96, 97, 98, 99, 100, 101, 102, 103, 104, 105, 106, 107, 108, 109, 110, 111, 112, 113, 114, 115, 116, 117, 118, 119, 120, 121, 122, 123, 124, 125] (by decide +kernel) (by decide +kernel)
set_option maxRecDepth 20000 in
theorem gX6_lade_X6_depart : GoodIn wsX6_lade (wsV RX6 109 RX6 yX6_depart wsX6_depart) := goodIn_app (goodIn_of _ (by decide +kernel)) ggX6_lade_X6_depart
theorem dX6_lade_0 : decode cX6_lade 0 = .ok (.aload_n 0, 1) := by decide +kernel
theorem dX6_lade_1 : decode cX6_lade 1 = .ok (.getfield 19, 3) := by decide +kernel
theorem dX6_lade_4 : decode cX6_lade 4 = .ok (.ifCond .eq 4, 3) := by decide +kernel
theorem dX6_lade_8 : decode cX6_lade 8 = .ok (.iload_n 1, 1) := by decide +kernel
theorem dX6_lade_9 : decode cX6_lade 9 = .ok (.aload_n 0, 1) := by decide +kernel
theorem dX6_lade_10 : decode cX6_lade 10 = .ok (.getfield 9, 3) := by decide +kernel
theorem dX6_lade_13 : decode cX6_lade 13 = .ok (.getfield 82, 3) := by decide +kernel
theorem dX6_lade_16 : decode cX6_lade 16 = .ok (.if_icmp .ge 9, 3) := by decide +kernel
theorem dX6_lade_25 : decode cX6_lade 25 = .ok (.aload_n 0, 1) := by decide +kernel
theorem dX6_lade_26 : decode cX6_lade 26 = .ok (.iload_n 2, 1) := by decide +kernel
theorem dX6_lade_27 : decode cX6_lade 27 = .ok (.iload_n 3, 1) := by decide +kernel
theorem dX6_lade_28 : decode cX6_lade 28 = .ok (.iload 4, 2) := by decide +kernel
theorem dX6_lade_30 : decode cX6_lade 30 = .ok (.iload 5, 2) := by decide +kernel
theorem dX6_lade_32 : decode cX6_lade 32 = .ok (.isub, 1) := by decide +kernel
theorem dX6_lade_33 : decode cX6_lade 33 = .ok (.invokevirtual 109, 3) := by decide +kernel
theorem dX6_lade_36 : decode cX6_lade 36 = .ok (.return_, 1) := by decide +kernel
set_option maxRecDepth 20000 in
theorem ggX6_depart_X7_depth : GoodIn wsX6_depart wsX7_depth := goodIn_r _ [5] (by decide +kernel) (by decide +kernel)
set_option maxRecDepth 20000 in
theorem gX6_depart_X7_depth_n122 : GoodIn wsX6_depart (wsX7_depth) := ggX6_depart_X7_depth
set_option maxRecDepth 20000 in
theorem ggX6_depart_X3_brokenRule : GoodIn wsX6_depart wsX3_brokenRule := goodIn_r _ [9, 10, 11, 12, 13, 14, 15, 16, 17, 18, 19, 4, 20, 21, 22, 23, 7, 24, 25, 3, 5, 26, 27, 28, 29, 30, 31, 32, 33, 34, 35, 96, 97, 98, 99, 100, 101, 102, 103, 104, 105, 106, 107, 108, 109, 110, 111, 112, 113, 114] (by decide +kernel) (by decide +kernel)
set_option maxRecDepth 20000 in
theorem gX6_depart_X3_brokenRule_n125 : GoodIn wsX6_depart (wsX3_brokenRule) := ggX6_depart_X3_brokenRule
set_option maxRecDepth 20000 in
theorem ggX6_depart_X6_go : GoodIn wsX6_depart wsX6_go := goodIn_r _ [40, 2, 41, 3, 4, 5, 42, 7, 43, 44, 25, 45, 46, 47, 48, 49, 50, 51, 52, 53, 54, 55, 56, 57, 58, 59, 60, 61, 62, 63, 39, 64, 65, 66, 67, 68, 69, 70, 71, 72, 73, 74, 75, 76, 77, 78, 79, 80, 81, 82, 83, 84, 85, 86, 87, 88, 89, 90, 91, 92, 93, 94, 95, 96, 97, 98, 99, 100, 101, 102, 103, 104, 105, 106, 107, 108, 109] (by decide +kernel) (by decide +kernel)
set_option maxRecDepth 20000 in
theorem gX6_depart_X6_go : GoodIn wsX6_depart (wsV RX6 128 RX6 yX6_go wsX6_go) := goodIn_app (goodIn_of _ (by decide +kernel)) ggX6_depart_X6_go
theorem dX6_depart_0 : decode cX6_depart 0 = .ok (.iload_n 2, 1) := by decide +kernel
theorem dX6_depart_1 : decode cX6_depart 1 = .ok (.bipush 12, 2) := by decide +kernel
theorem dX6_depart_3 : decode cX6_depart 3 = .ok (.imul, 1) := by decide +kernel
theorem dX6_depart_4 : decode cX6_depart 4 = .ok (.iload_n 1, 1) := by decide +kernel
theorem dX6_depart_5 : decode cX6_depart 5 = .ok (.invokestatic 122, 3) := by decide +kernel
theorem dX6_depart_8 : decode cX6_depart 8 = .ok (.iadd, 1) := by decide +kernel
theorem dX6_depart_9 : decode cX6_depart 9 = .ok (.istore 4, 2) := by decide +kernel
theorem dX6_depart_11 : decode cX6_depart 11 = .ok (.iload 4, 2) := by decide +kernel
theorem dX6_depart_13 : decode cX6_depart 13 = .ok (.iconst 4, 1) := by decide +kernel
theorem dX6_depart_14 : decode cX6_depart 14 = .ok (.ishr, 1) := by decide +kernel
theorem dX6_depart_15 : decode cX6_depart 15 = .ok (.istore 5, 2) := by decide +kernel
theorem dX6_depart_17 : decode cX6_depart 17 = .ok (.iconst 2, 1) := by decide +kernel
theorem dX6_depart_18 : decode cX6_depart 18 = .ok (.iload 4, 2) := by decide +kernel
theorem dX6_depart_20 : decode cX6_depart 20 = .ok (.bipush 15, 2) := by decide +kernel
theorem dX6_depart_22 : decode cX6_depart 22 = .ok (.iand, 1) := by decide +kernel
theorem dX6_depart_23 : decode cX6_depart 23 = .ok (.imul, 1) := by decide +kernel
theorem dX6_depart_24 : decode cX6_depart 24 = .ok (.istore 6, 2) := by decide +kernel
theorem dX6_depart_26 : decode cX6_depart 26 = .ok (.iload 5, 2) := by decide +kernel
theorem dX6_depart_28 : decode cX6_depart 28 = .ok (.aload_n 0, 1) := by decide +kernel
theorem dX6_depart_29 : decode cX6_depart 29 = .ok (.getfield 57, 3) := by decide +kernel
theorem dX6_depart_32 : decode cX6_depart 32 = .ok (.arraylength, 1) := by decide +kernel
theorem dX6_depart_33 : decode cX6_depart 33 = .ok (.if_icmp .lt 4, 3) := by decide +kernel
theorem dX6_depart_37 : decode cX6_depart 37 = .ok (.aload_n 0, 1) := by decide +kernel
theorem dX6_depart_38 : decode cX6_depart 38 = .ok (.getfield 57, 3) := by decide +kernel
theorem dX6_depart_41 : decode cX6_depart 41 = .ok (.iload 5, 2) := by decide +kernel
theorem dX6_depart_43 : decode cX6_depart 43 = .ok (.iaload, 1) := by decide +kernel
theorem dX6_depart_44 : decode cX6_depart 44 = .ok (.iload 6, 2) := by decide +kernel
theorem dX6_depart_46 : decode cX6_depart 46 = .ok (.iushr, 1) := by decide +kernel
theorem dX6_depart_47 : decode cX6_depart 47 = .ok (.iconst 1, 1) := by decide +kernel
theorem dX6_depart_48 : decode cX6_depart 48 = .ok (.iand, 1) := by decide +kernel
theorem dX6_depart_49 : decode cX6_depart 49 = .ok (.ifCond .ne 59, 3) := by decide +kernel
theorem dX6_depart_52 : decode cX6_depart 52 = .ok (.aload_n 0, 1) := by decide +kernel
theorem dX6_depart_53 : decode cX6_depart 53 = .ok (.getfield 9, 3) := by decide +kernel
theorem dX6_depart_56 : decode cX6_depart 56 = .ok (.iload_n 1, 1) := by decide +kernel
theorem dX6_depart_57 : decode cX6_depart 57 = .ok (.iconst 0, 1) := by decide +kernel
theorem dX6_depart_58 : decode cX6_depart 58 = .ok (.invokevirtual 125, 3) := by decide +kernel
theorem dX6_depart_61 : decode cX6_depart 61 = .ok (.iconst (-1), 1) := by decide +kernel
theorem dX6_depart_62 : decode cX6_depart 62 = .ok (.if_icmp .ne 20, 3) := by decide +kernel
theorem dX6_depart_65 : decode cX6_depart 65 = .ok (.aload_n 0, 1) := by decide +kernel
theorem dX6_depart_66 : decode cX6_depart 66 = .ok (.getfield 9, 3) := by decide +kernel
theorem dX6_depart_69 : decode cX6_depart 69 = .ok (.iload_n 1, 1) := by decide +kernel
theorem dX6_depart_70 : decode cX6_depart 70 = .ok (.iconst 1, 1) := by decide +kernel
theorem dX6_depart_71 : decode cX6_depart 71 = .ok (.invokevirtual 125, 3) := by decide +kernel
theorem dX6_depart_74 : decode cX6_depart 74 = .ok (.iconst (-1), 1) := by decide +kernel
theorem dX6_depart_75 : decode cX6_depart 75 = .ok (.if_icmp .ne 7, 3) := by decide +kernel
theorem dX6_depart_78 : decode cX6_depart 78 = .ok (.iconst 1, 1) := by decide +kernel
theorem dX6_depart_79 : decode cX6_depart 79 = .ok (.goto 4, 3) := by decide +kernel
theorem dX6_depart_83 : decode cX6_depart 83 = .ok (.istore 7, 2) := by decide +kernel
theorem dX6_depart_85 : decode cX6_depart 85 = .ok (.aload_n 0, 1) := by decide +kernel
theorem dX6_depart_86 : decode cX6_depart 86 = .ok (.getfield 57, 3) := by decide +kernel
theorem dX6_depart_89 : decode cX6_depart 89 = .ok (.iload 5, 2) := by decide +kernel
theorem dX6_depart_91 : decode cX6_depart 91 = .ok (.dup2, 1) := by decide +kernel
theorem dX6_depart_92 : decode cX6_depart 92 = .ok (.iaload, 1) := by decide +kernel
theorem dX6_depart_93 : decode cX6_depart 93 = .ok (.iload 7, 2) := by decide +kernel
theorem dX6_depart_95 : decode cX6_depart 95 = .ok (.ifCond .eq 7, 3) := by decide +kernel
theorem dX6_depart_98 : decode cX6_depart 98 = .ok (.iconst 3, 1) := by decide +kernel
theorem dX6_depart_99 : decode cX6_depart 99 = .ok (.goto 4, 3) := by decide +kernel
theorem dX6_depart_103 : decode cX6_depart 103 = .ok (.iload 6, 2) := by decide +kernel
theorem dX6_depart_105 : decode cX6_depart 105 = .ok (.ishl, 1) := by decide +kernel
theorem dX6_depart_106 : decode cX6_depart 106 = .ok (.ior, 1) := by decide +kernel
theorem dX6_depart_107 : decode cX6_depart 107 = .ok (.iastore, 1) := by decide +kernel
theorem dX6_depart_108 : decode cX6_depart 108 = .ok (.aload_n 0, 1) := by decide +kernel
theorem dX6_depart_109 : decode cX6_depart 109 = .ok (.getfield 57, 3) := by decide +kernel
theorem dX6_depart_112 : decode cX6_depart 112 = .ok (.iload 5, 2) := by decide +kernel
theorem dX6_depart_114 : decode cX6_depart 114 = .ok (.iaload, 1) := by decide +kernel
theorem dX6_depart_115 : decode cX6_depart 115 = .ok (.iload 6, 2) := by decide +kernel
theorem dX6_depart_117 : decode cX6_depart 117 = .ok (.iushr, 1) := by decide +kernel
theorem dX6_depart_118 : decode cX6_depart 118 = .ok (.iconst 2, 1) := by decide +kernel
theorem dX6_depart_119 : decode cX6_depart 119 = .ok (.iand, 1) := by decide +kernel
theorem dX6_depart_120 : decode cX6_depart 120 = .ok (.ifCond .eq 17, 3) := by decide +kernel
theorem dX6_depart_123 : decode cX6_depart 123 = .ok (.aload_n 0, 1) := by decide +kernel
theorem dX6_depart_124 : decode cX6_depart 124 = .ok (.iload_n 1, 1) := by decide +kernel
theorem dX6_depart_125 : decode cX6_depart 125 = .ok (.iload_n 3, 1) := by decide +kernel
theorem dX6_depart_126 : decode cX6_depart 126 = .ok (.iconst 1, 1) := by decide +kernel
theorem dX6_depart_127 : decode cX6_depart 127 = .ok (.invokevirtual 128, 3) := by decide +kernel
theorem dX6_depart_130 : decode cX6_depart 130 = .ok (.aload_n 0, 1) := by decide +kernel
theorem dX6_depart_131 : decode cX6_depart 131 = .ok (.iload_n 1, 1) := by decide +kernel
theorem dX6_depart_132 : decode cX6_depart 132 = .ok (.iload_n 3, 1) := by decide +kernel
theorem dX6_depart_133 : decode cX6_depart 133 = .ok (.iconst (-1), 1) := by decide +kernel
theorem dX6_depart_134 : decode cX6_depart 134 = .ok (.invokevirtual 128, 3) := by decide +kernel
theorem dX6_depart_137 : decode cX6_depart 137 = .ok (.return_, 1) := by decide +kernel
set_option maxRecDepth 20000 in
theorem ggX6_go_X7_depth : GoodIn wsX6_go wsX7_depth := goodIn_r _ [5] (by decide +kernel) (by decide +kernel)
set_option maxRecDepth 20000 in
theorem gX6_go_X7_depth_n122 : GoodIn wsX6_go (wsX7_depth) := ggX6_go_X7_depth
set_option maxRecDepth 20000 in
theorem ggX6_go_X3_hasDepth : GoodIn wsX6_go wsX3_hasDepth := goodIn_r _ [9, 10, 63, 64, 65, 66, 67, 68, 69, 70, 71, 72, 73, 74, 75, 76] (by decide +kernel) (by decide +kernel)
set_option maxRecDepth 20000 in
theorem gX6_go_X3_hasDepth_n131 : GoodIn wsX6_go (wsX3_hasDepth) := ggX6_go_X3_hasDepth
set_option maxRecDepth 20000 in
theorem ggX6_go_X3_excess : GoodIn wsX6_go wsX3_excess := goodIn_r _ [13, 14, 10, 63, 64, 65, 66, 67, 68, 69, 70, 71, 72, 73, 74, 75, 76] (by decide +kernel) (by decide +kernel)
set_option maxRecDepth 20000 in
theorem gX6_go_X3_excess_n135 : GoodIn wsX6_go (wsX3_excess) := ggX6_go_X3_excess
set_option maxRecDepth 20000 in
theorem ggX6_go_X3_runsByWeight : GoodIn wsX6_go wsX3_runsByWeight := goodIn_r _ [17, 18, 19, 20, 63, 64, 65, 66, 67, 68, 69, 70, 71, 72, 73, 74, 75, 76] (by decide +kernel) (by decide +kernel)
set_option maxRecDepth 20000 in
theorem gX6_go_X3_runsByWeight_n138 : GoodIn wsX6_go (wsX3_runsByWeight) := ggX6_go_X3_runsByWeight
set_option maxRecDepth 20000 in
theorem ggX6_go_X3_windingOf : GoodIn wsX6_go wsX3_windingOf := goodIn_r _ [23, 18, 19, 20, 63, 64, 65, 66, 67, 68, 69, 70, 71, 72, 73, 74, 75, 76] (by decide +kernel) (by decide +kernel)
set_option maxRecDepth 20000 in
theorem gX6_go_X3_windingOf_n141 : GoodIn wsX6_go (wsX3_windingOf) := ggX6_go_X3_windingOf
set_option maxRecDepth 20000 in
theorem ggX6_go_X7_move : GoodIn wsX6_go wsX7_move := goodIn_r _ [25, 26] (by decide +kernel) (by decide +kernel)
set_option maxRecDepth 20000 in
theorem gX6_go_X7_move_n144 : GoodIn wsX6_go (wsX7_move) := ggX6_go_X7_move
set_option maxRecDepth 20000 in
theorem ggX6_go_X6_arrive : GoodIn wsX6_go wsX6_arrive := goodIn_r _ [31, 32, 33, 34, 35, 36, 37, 38, 39, 40, 41, 42, 43, 44, 45, 30, 46, 47, 48, 49, 50, 51, 52, 53, 54, 55, 56, 57, 58, 59, 60, 61, 62] (by decide +kernel) (by decide +kernel)
set_option maxRecDepth 20000 in
theorem gX6_go_X6_arrive : GoodIn wsX6_go (wsV RX6 66 RX6 yX6_arrive wsX6_arrive) := goodIn_app (goodIn_of _ (by decide +kernel)) ggX6_go_X6_arrive
theorem dX6_go_0 : decode cX6_go 0 = .ok (.iconst 0, 1) := by decide +kernel
theorem dX6_go_1 : decode cX6_go 1 = .ok (.istore 4, 2) := by decide +kernel
theorem dX6_go_3 : decode cX6_go 3 = .ok (.iload_n 1, 1) := by decide +kernel
theorem dX6_go_4 : decode cX6_go 4 = .ok (.invokestatic 122, 3) := by decide +kernel
theorem dX6_go_7 : decode cX6_go 7 = .ok (.istore 5, 2) := by decide +kernel
theorem dX6_go_9 : decode cX6_go 9 = .ok (.aload_n 0, 1) := by decide +kernel
theorem dX6_go_10 : decode cX6_go 10 = .ok (.getfield 9, 3) := by decide +kernel
theorem dX6_go_13 : decode cX6_go 13 = .ok (.iload 5, 2) := by decide +kernel
theorem dX6_go_15 : decode cX6_go 15 = .ok (.iload_n 3, 1) := by decide +kernel
theorem dX6_go_16 : decode cX6_go 16 = .ok (.iadd, 1) := by decide +kernel
theorem dX6_go_17 : decode cX6_go 17 = .ok (.invokevirtual 131, 3) := by decide +kernel
theorem dX6_go_20 : decode cX6_go 20 = .ok (.ifCond .eq 84, 3) := by decide +kernel
theorem dX6_go_23 : decode cX6_go 23 = .ok (.aload_n 0, 1) := by decide +kernel
theorem dX6_go_24 : decode cX6_go 24 = .ok (.getfield 9, 3) := by decide +kernel
theorem dX6_go_27 : decode cX6_go 27 = .ok (.iload_n 2, 1) := by decide +kernel
theorem dX6_go_28 : decode cX6_go 28 = .ok (.iload 5, 2) := by decide +kernel
theorem dX6_go_30 : decode cX6_go 30 = .ok (.iload_n 3, 1) := by decide +kernel
theorem dX6_go_31 : decode cX6_go 31 = .ok (.invokevirtual 135, 3) := by decide +kernel
theorem dX6_go_34 : decode cX6_go 34 = .ok (.istore 6, 2) := by decide +kernel
theorem dX6_go_36 : decode cX6_go 36 = .ok (.aload_n 0, 1) := by decide +kernel
theorem dX6_go_37 : decode cX6_go 37 = .ok (.getfield 15, 3) := by decide +kernel
theorem dX6_go_40 : decode cX6_go 40 = .ok (.ifCond .ne 16, 3) := by decide +kernel
theorem dX6_go_43 : decode cX6_go 43 = .ok (.aload_n 0, 1) := by decide +kernel
theorem dX6_go_44 : decode cX6_go 44 = .ok (.getfield 9, 3) := by decide +kernel
theorem dX6_go_47 : decode cX6_go 47 = .ok (.iload 6, 2) := by decide +kernel
theorem dX6_go_49 : decode cX6_go 49 = .ok (.invokevirtual 138, 3) := by decide +kernel
theorem dX6_go_52 : decode cX6_go 52 = .ok (.ifCond .ne 4, 3) := by decide +kernel
theorem dX6_go_55 : decode cX6_go 55 = .ok (.return_, 1) := by decide +kernel
theorem dX6_go_56 : decode cX6_go 56 = .ok (.iload 4, 2) := by decide +kernel
theorem dX6_go_58 : decode cX6_go 58 = .ok (.aload_n 0, 1) := by decide +kernel
theorem dX6_go_59 : decode cX6_go 59 = .ok (.getfield 9, 3) := by decide +kernel
theorem dX6_go_62 : decode cX6_go 62 = .ok (.iload 6, 2) := by decide +kernel
theorem dX6_go_64 : decode cX6_go 64 = .ok (.invokevirtual 141, 3) := by decide +kernel
theorem dX6_go_67 : decode cX6_go 67 = .ok (.iadd, 1) := by decide +kernel
theorem dX6_go_68 : decode cX6_go 68 = .ok (.istore 4, 2) := by decide +kernel
theorem dX6_go_70 : decode cX6_go 70 = .ok (.aload_n 0, 1) := by decide +kernel
theorem dX6_go_71 : decode cX6_go 71 = .ok (.iload_n 1, 1) := by decide +kernel
theorem dX6_go_72 : decode cX6_go 72 = .ok (.iload 5, 2) := by decide +kernel
theorem dX6_go_74 : decode cX6_go 74 = .ok (.iload_n 3, 1) := by decide +kernel
theorem dX6_go_75 : decode cX6_go 75 = .ok (.iadd, 1) := by decide +kernel
theorem dX6_go_76 : decode cX6_go 76 = .ok (.invokestatic 144, 3) := by decide +kernel
theorem dX6_go_79 : decode cX6_go 79 = .ok (.aload_n 0, 1) := by decide +kernel
theorem dX6_go_80 : decode cX6_go 80 = .ok (.getfield 15, 3) := by decide +kernel
theorem dX6_go_83 : decode cX6_go 83 = .ok (.ifCond .eq 8, 3) := by decide +kernel
theorem dX6_go_86 : decode cX6_go 86 = .ok (.iload 4, 2) := by decide +kernel
theorem dX6_go_88 : decode cX6_go 88 = .ok (.goto 4, 3) := by decide +kernel
theorem dX6_go_92 : decode cX6_go 92 = .ok (.invokevirtual 66, 3) := by decide +kernel
theorem dX6_go_95 : decode cX6_go 95 = .ok (.iload 5, 2) := by decide +kernel
theorem dX6_go_97 : decode cX6_go 97 = .ok (.iload_n 3, 1) := by decide +kernel
theorem dX6_go_98 : decode cX6_go 98 = .ok (.iadd, 1) := by decide +kernel
theorem dX6_go_99 : decode cX6_go 99 = .ok (.istore 5, 2) := by decide +kernel
theorem dX6_go_101 : decode cX6_go 101 = .ok (.goto (-92), 3) := by decide +kernel
theorem dX6_go_104 : decode cX6_go 104 = .ok (.return_, 1) := by decide +kernel
set_option maxRecDepth 20000 in
theorem ggX6_arrive_X6_raise : GoodIn wsX6_arrive wsX6_raise := goodIn_r _ [16, 9, 17, 2, 18, 19, 20, 21, 22, 23, 24, 25, 26, 27, 28, 29, 30, 31, 32] (by decide +kernel) (by decide +kernel)
set_option maxRecDepth 20000 in
theorem gX6_arrive_X6_raise : GoodIn wsX6_arrive (wsV RX6 148 RX6 yX6_raise wsX6_raise) := goodIn_app (goodIn_of _ (by decide +kernel)) ggX6_arrive_X6_raise
theorem dX6_arrive_0 : decode cX6_arrive 0 = .ok (.aload_n 0, 1) := by decide +kernel
theorem dX6_arrive_1 : decode cX6_arrive 1 = .ok (.getfield 29, 3) := by decide +kernel
theorem dX6_arrive_4 : decode cX6_arrive 4 = .ok (.iconst (-1), 1) := by decide +kernel
theorem dX6_arrive_5 : decode cX6_arrive 5 = .ok (.if_icmp .ne 7, 3) := by decide +kernel
theorem dX6_arrive_8 : decode cX6_arrive 8 = .ok (.iconst 0, 1) := by decide +kernel
theorem dX6_arrive_9 : decode cX6_arrive 9 = .ok (.goto 14, 3) := by decide +kernel
theorem dX6_arrive_12 : decode cX6_arrive 12 = .ok (.aload_n 0, 1) := by decide +kernel
theorem dX6_arrive_13 : decode cX6_arrive 13 = .ok (.getfield 36, 3) := by decide +kernel
theorem dX6_arrive_16 : decode cX6_arrive 16 = .ok (.aload_n 0, 1) := by decide +kernel
theorem dX6_arrive_17 : decode cX6_arrive 17 = .ok (.getfield 29, 3) := by decide +kernel
theorem dX6_arrive_20 : decode cX6_arrive 20 = .ok (.iaload, 1) := by decide +kernel
theorem dX6_arrive_21 : decode cX6_arrive 21 = .ok (.iload_n 2, 1) := by decide +kernel
theorem dX6_arrive_22 : decode cX6_arrive 22 = .ok (.iadd, 1) := by decide +kernel
theorem dX6_arrive_23 : decode cX6_arrive 23 = .ok (.istore_n 3, 1) := by decide +kernel
theorem dX6_arrive_24 : decode cX6_arrive 24 = .ok (.iload_n 1, 1) := by decide +kernel
theorem dX6_arrive_25 : decode cX6_arrive 25 = .ok (.ldc 147, 2) := by decide +kernel
theorem dX6_arrive_27 : decode cX6_arrive 27 = .ok (.imul, 1) := by decide +kernel
theorem dX6_arrive_28 : decode cX6_arrive 28 = .ok (.bipush 22, 2) := by decide +kernel
theorem dX6_arrive_30 : decode cX6_arrive 30 = .ok (.iushr, 1) := by decide +kernel
theorem dX6_arrive_31 : decode cX6_arrive 31 = .ok (.istore 4, 2) := by decide +kernel
theorem dX6_arrive_33 : decode cX6_arrive 33 = .ok (.aload_n 0, 1) := by decide +kernel
theorem dX6_arrive_34 : decode cX6_arrive 34 = .ok (.getfield 42, 3) := by decide +kernel
theorem dX6_arrive_37 : decode cX6_arrive 37 = .ok (.iload 4, 2) := by decide +kernel
theorem dX6_arrive_39 : decode cX6_arrive 39 = .ok (.iaload, 1) := by decide +kernel
theorem dX6_arrive_40 : decode cX6_arrive 40 = .ok (.istore 5, 2) := by decide +kernel
theorem dX6_arrive_42 : decode cX6_arrive 42 = .ok (.iconst 0, 1) := by decide +kernel
theorem dX6_arrive_43 : decode cX6_arrive 43 = .ok (.istore 6, 2) := by decide +kernel
theorem dX6_arrive_45 : decode cX6_arrive 45 = .ok (.iload 6, 2) := by decide +kernel
theorem dX6_arrive_47 : decode cX6_arrive 47 = .ok (.sipush 1500, 3) := by decide +kernel
theorem dX6_arrive_50 : decode cX6_arrive 50 = .ok (.if_icmp .ge 35, 3) := by decide +kernel
theorem dX6_arrive_53 : decode cX6_arrive 53 = .ok (.iload 5, 2) := by decide +kernel
theorem dX6_arrive_55 : decode cX6_arrive 55 = .ok (.iconst (-1), 1) := by decide +kernel
theorem dX6_arrive_56 : decode cX6_arrive 56 = .ok (.if_icmp .eq 29, 3) := by decide +kernel
theorem dX6_arrive_59 : decode cX6_arrive 59 = .ok (.aload_n 0, 1) := by decide +kernel
theorem dX6_arrive_60 : decode cX6_arrive 60 = .ok (.getfield 32, 3) := by decide +kernel
theorem dX6_arrive_63 : decode cX6_arrive 63 = .ok (.iload 5, 2) := by decide +kernel
theorem dX6_arrive_65 : decode cX6_arrive 65 = .ok (.iaload, 1) := by decide +kernel
theorem dX6_arrive_66 : decode cX6_arrive 66 = .ok (.iload_n 1, 1) := by decide +kernel
theorem dX6_arrive_67 : decode cX6_arrive 67 = .ok (.if_icmp .eq 18, 3) := by decide +kernel
theorem dX6_arrive_85 : decode cX6_arrive 85 = .ok (.iload 5, 2) := by decide +kernel
theorem dX6_arrive_87 : decode cX6_arrive 87 = .ok (.iconst (-1), 1) := by decide +kernel
theorem dX6_arrive_88 : decode cX6_arrive 88 = .ok (.if_icmp .ne 90, 3) := by decide +kernel
theorem dX6_arrive_91 : decode cX6_arrive 91 = .ok (.aload_n 0, 1) := by decide +kernel
theorem dX6_arrive_92 : decode cX6_arrive 92 = .ok (.getfield 22, 3) := by decide +kernel
theorem dX6_arrive_95 : decode cX6_arrive 95 = .ok (.sipush 1500, 3) := by decide +kernel
theorem dX6_arrive_98 : decode cX6_arrive 98 = .ok (.if_icmp .lt 9, 3) := by decide +kernel
theorem dX6_arrive_107 : decode cX6_arrive 107 = .ok (.aload_n 0, 1) := by decide +kernel
theorem dX6_arrive_108 : decode cX6_arrive 108 = .ok (.getfield 22, 3) := by decide +kernel
theorem dX6_arrive_111 : decode cX6_arrive 111 = .ok (.istore 5, 2) := by decide +kernel
theorem dX6_arrive_113 : decode cX6_arrive 113 = .ok (.aload_n 0, 1) := by decide +kernel
theorem dX6_arrive_114 : decode cX6_arrive 114 = .ok (.dup, 1) := by decide +kernel
theorem dX6_arrive_115 : decode cX6_arrive 115 = .ok (.getfield 22, 3) := by decide +kernel
theorem dX6_arrive_118 : decode cX6_arrive 118 = .ok (.iconst 1, 1) := by decide +kernel
theorem dX6_arrive_119 : decode cX6_arrive 119 = .ok (.iadd, 1) := by decide +kernel
theorem dX6_arrive_120 : decode cX6_arrive 120 = .ok (.putfield 22, 3) := by decide +kernel
theorem dX6_arrive_123 : decode cX6_arrive 123 = .ok (.aload_n 0, 1) := by decide +kernel
theorem dX6_arrive_124 : decode cX6_arrive 124 = .ok (.getfield 32, 3) := by decide +kernel
theorem dX6_arrive_127 : decode cX6_arrive 127 = .ok (.iload 5, 2) := by decide +kernel
theorem dX6_arrive_129 : decode cX6_arrive 129 = .ok (.iload_n 1, 1) := by decide +kernel
theorem dX6_arrive_130 : decode cX6_arrive 130 = .ok (.iastore, 1) := by decide +kernel
theorem dX6_arrive_131 : decode cX6_arrive 131 = .ok (.aload_n 0, 1) := by decide +kernel
theorem dX6_arrive_132 : decode cX6_arrive 132 = .ok (.getfield 45, 3) := by decide +kernel
theorem dX6_arrive_135 : decode cX6_arrive 135 = .ok (.iload 5, 2) := by decide +kernel
theorem dX6_arrive_137 : decode cX6_arrive 137 = .ok (.aload_n 0, 1) := by decide +kernel
theorem dX6_arrive_138 : decode cX6_arrive 138 = .ok (.getfield 42, 3) := by decide +kernel
theorem dX6_arrive_141 : decode cX6_arrive 141 = .ok (.iload 4, 2) := by decide +kernel
theorem dX6_arrive_143 : decode cX6_arrive 143 = .ok (.iaload, 1) := by decide +kernel
theorem dX6_arrive_144 : decode cX6_arrive 144 = .ok (.iastore, 1) := by decide +kernel
theorem dX6_arrive_145 : decode cX6_arrive 145 = .ok (.aload_n 0, 1) := by decide +kernel
theorem dX6_arrive_146 : decode cX6_arrive 146 = .ok (.getfield 42, 3) := by decide +kernel
theorem dX6_arrive_149 : decode cX6_arrive 149 = .ok (.iload 4, 2) := by decide +kernel
theorem dX6_arrive_151 : decode cX6_arrive 151 = .ok (.iload 5, 2) := by decide +kernel
theorem dX6_arrive_153 : decode cX6_arrive 153 = .ok (.iastore, 1) := by decide +kernel
theorem dX6_arrive_154 : decode cX6_arrive 154 = .ok (.aload_n 0, 1) := by decide +kernel
theorem dX6_arrive_155 : decode cX6_arrive 155 = .ok (.getfield 51, 3) := by decide +kernel
theorem dX6_arrive_158 : decode cX6_arrive 158 = .ok (.iload 5, 2) := by decide +kernel
theorem dX6_arrive_160 : decode cX6_arrive 160 = .ok (.aload_n 0, 1) := by decide +kernel
theorem dX6_arrive_161 : decode cX6_arrive 161 = .ok (.getfield 26, 3) := by decide +kernel
theorem dX6_arrive_164 : decode cX6_arrive 164 = .ok (.iastore, 1) := by decide +kernel
theorem dX6_arrive_165 : decode cX6_arrive 165 = .ok (.aload_n 0, 1) := by decide +kernel
theorem dX6_arrive_166 : decode cX6_arrive 166 = .ok (.dup, 1) := by decide +kernel
theorem dX6_arrive_167 : decode cX6_arrive 167 = .ok (.getfield 26, 3) := by decide +kernel
theorem dX6_arrive_170 : decode cX6_arrive 170 = .ok (.iconst 1, 1) := by decide +kernel
theorem dX6_arrive_171 : decode cX6_arrive 171 = .ok (.iadd, 1) := by decide +kernel
theorem dX6_arrive_172 : decode cX6_arrive 172 = .ok (.putfield 26, 3) := by decide +kernel
theorem dX6_arrive_175 : decode cX6_arrive 175 = .ok (.goto 15, 3) := by decide +kernel
theorem dX6_arrive_178 : decode cX6_arrive 178 = .ok (.iload_n 3, 1) := by decide +kernel
theorem dX6_arrive_179 : decode cX6_arrive 179 = .ok (.aload_n 0, 1) := by decide +kernel
theorem dX6_arrive_180 : decode cX6_arrive 180 = .ok (.getfield 36, 3) := by decide +kernel
theorem dX6_arrive_183 : decode cX6_arrive 183 = .ok (.iload 5, 2) := by decide +kernel
theorem dX6_arrive_185 : decode cX6_arrive 185 = .ok (.iaload, 1) := by decide +kernel
theorem dX6_arrive_186 : decode cX6_arrive 186 = .ok (.if_icmp .lt 4, 3) := by decide +kernel
theorem dX6_arrive_189 : decode cX6_arrive 189 = .ok (.return_, 1) := by decide +kernel
theorem dX6_arrive_190 : decode cX6_arrive 190 = .ok (.aload_n 0, 1) := by decide +kernel
theorem dX6_arrive_191 : decode cX6_arrive 191 = .ok (.getfield 36, 3) := by decide +kernel
theorem dX6_arrive_194 : decode cX6_arrive 194 = .ok (.iload 5, 2) := by decide +kernel
theorem dX6_arrive_196 : decode cX6_arrive 196 = .ok (.iload_n 3, 1) := by decide +kernel
theorem dX6_arrive_197 : decode cX6_arrive 197 = .ok (.iastore, 1) := by decide +kernel
theorem dX6_arrive_198 : decode cX6_arrive 198 = .ok (.aload_n 0, 1) := by decide +kernel
theorem dX6_arrive_199 : decode cX6_arrive 199 = .ok (.getfield 39, 3) := by decide +kernel
theorem dX6_arrive_202 : decode cX6_arrive 202 = .ok (.iload 5, 2) := by decide +kernel
theorem dX6_arrive_204 : decode cX6_arrive 204 = .ok (.aload_n 0, 1) := by decide +kernel
theorem dX6_arrive_205 : decode cX6_arrive 205 = .ok (.getfield 29, 3) := by decide +kernel
theorem dX6_arrive_208 : decode cX6_arrive 208 = .ok (.iastore, 1) := by decide +kernel
theorem dX6_arrive_209 : decode cX6_arrive 209 = .ok (.aload_n 0, 1) := by decide +kernel
theorem dX6_arrive_210 : decode cX6_arrive 210 = .ok (.iload 5, 2) := by decide +kernel
theorem dX6_arrive_212 : decode cX6_arrive 212 = .ok (.invokevirtual 148, 3) := by decide +kernel
theorem dX6_arrive_215 : decode cX6_arrive 215 = .ok (.return_, 1) := by decide +kernel
theorem dX6_raise_0 : decode cX6_raise 0 = .ok (.aload_n 0, 1) := by decide +kernel
theorem dX6_raise_1 : decode cX6_raise 1 = .ok (.getfield 51, 3) := by decide +kernel
theorem dX6_raise_4 : decode cX6_raise 4 = .ok (.iload_n 1, 1) := by decide +kernel
theorem dX6_raise_5 : decode cX6_raise 5 = .ok (.iaload, 1) := by decide +kernel
theorem dX6_raise_6 : decode cX6_raise 6 = .ok (.istore_n 2, 1) := by decide +kernel
theorem dX6_raise_7 : decode cX6_raise 7 = .ok (.iconst 0, 1) := by decide +kernel
theorem dX6_raise_8 : decode cX6_raise 8 = .ok (.istore_n 3, 1) := by decide +kernel
theorem dX6_raise_9 : decode cX6_raise 9 = .ok (.iload_n 3, 1) := by decide +kernel
theorem dX6_raise_10 : decode cX6_raise 10 = .ok (.sipush 1500, 3) := by decide +kernel
theorem dX6_raise_13 : decode cX6_raise 13 = .ok (.if_icmp .ge 66, 3) := by decide +kernel
theorem dX6_raise_16 : decode cX6_raise 16 = .ok (.iload_n 2, 1) := by decide +kernel
theorem dX6_raise_17 : decode cX6_raise 17 = .ok (.ifCond .le 62, 3) := by decide +kernel
theorem dX6_raise_79 : decode cX6_raise 79 = .ok (.aload_n 0, 1) := by decide +kernel
theorem dX6_raise_80 : decode cX6_raise 80 = .ok (.getfield 48, 3) := by decide +kernel
theorem dX6_raise_83 : decode cX6_raise 83 = .ok (.iload_n 2, 1) := by decide +kernel
theorem dX6_raise_84 : decode cX6_raise 84 = .ok (.iload_n 1, 1) := by decide +kernel
theorem dX6_raise_85 : decode cX6_raise 85 = .ok (.iastore, 1) := by decide +kernel
theorem dX6_raise_86 : decode cX6_raise 86 = .ok (.aload_n 0, 1) := by decide +kernel
theorem dX6_raise_87 : decode cX6_raise 87 = .ok (.getfield 51, 3) := by decide +kernel
theorem dX6_raise_90 : decode cX6_raise 90 = .ok (.iload_n 1, 1) := by decide +kernel
theorem dX6_raise_91 : decode cX6_raise 91 = .ok (.iload_n 2, 1) := by decide +kernel
theorem dX6_raise_92 : decode cX6_raise 92 = .ok (.iastore, 1) := by decide +kernel
theorem dX6_raise_93 : decode cX6_raise 93 = .ok (.return_, 1) := by decide +kernel
theorem dX6_takeCheapest_0 : decode cX6_takeCheapest 0 = .ok (.aload_n 0, 1) := by decide +kernel
theorem dX6_takeCheapest_1 : decode cX6_takeCheapest 1 = .ok (.getfield 48, 3) := by decide +kernel
theorem dX6_takeCheapest_4 : decode cX6_takeCheapest 4 = .ok (.iconst 0, 1) := by decide +kernel
theorem dX6_takeCheapest_5 : decode cX6_takeCheapest 5 = .ok (.iaload, 1) := by decide +kernel
theorem dX6_takeCheapest_6 : decode cX6_takeCheapest 6 = .ok (.istore_n 1, 1) := by decide +kernel
theorem dX6_takeCheapest_7 : decode cX6_takeCheapest 7 = .ok (.aload_n 0, 1) := by decide +kernel
theorem dX6_takeCheapest_8 : decode cX6_takeCheapest 8 = .ok (.dup, 1) := by decide +kernel
theorem dX6_takeCheapest_9 : decode cX6_takeCheapest 9 = .ok (.getfield 26, 3) := by decide +kernel
theorem dX6_takeCheapest_12 : decode cX6_takeCheapest 12 = .ok (.iconst 1, 1) := by decide +kernel
theorem dX6_takeCheapest_13 : decode cX6_takeCheapest 13 = .ok (.isub, 1) := by decide +kernel
theorem dX6_takeCheapest_14 : decode cX6_takeCheapest 14 = .ok (.putfield 26, 3) := by decide +kernel
theorem dX6_takeCheapest_17 : decode cX6_takeCheapest 17 = .ok (.aload_n 0, 1) := by decide +kernel
theorem dX6_takeCheapest_18 : decode cX6_takeCheapest 18 = .ok (.getfield 48, 3) := by decide +kernel
theorem dX6_takeCheapest_21 : decode cX6_takeCheapest 21 = .ok (.aload_n 0, 1) := by decide +kernel
theorem dX6_takeCheapest_22 : decode cX6_takeCheapest 22 = .ok (.getfield 26, 3) := by decide +kernel
theorem dX6_takeCheapest_25 : decode cX6_takeCheapest 25 = .ok (.iaload, 1) := by decide +kernel
theorem dX6_takeCheapest_26 : decode cX6_takeCheapest 26 = .ok (.istore_n 2, 1) := by decide +kernel
theorem dX6_takeCheapest_27 : decode cX6_takeCheapest 27 = .ok (.iconst 0, 1) := by decide +kernel
theorem dX6_takeCheapest_28 : decode cX6_takeCheapest 28 = .ok (.istore_n 3, 1) := by decide +kernel
theorem dX6_takeCheapest_29 : decode cX6_takeCheapest 29 = .ok (.iconst 0, 1) := by decide +kernel
theorem dX6_takeCheapest_30 : decode cX6_takeCheapest 30 = .ok (.istore 4, 2) := by decide +kernel
theorem dX6_takeCheapest_32 : decode cX6_takeCheapest 32 = .ok (.iload 4, 2) := by decide +kernel
theorem dX6_takeCheapest_34 : decode cX6_takeCheapest 34 = .ok (.sipush 1500, 3) := by decide +kernel
theorem dX6_takeCheapest_37 : decode cX6_takeCheapest 37 = .ok (.if_icmp .ge 123, 3) := by decide +kernel
theorem dX6_takeCheapest_40 : decode cX6_takeCheapest 40 = .ok (.iconst 2, 1) := by decide +kernel
theorem dX6_takeCheapest_41 : decode cX6_takeCheapest 41 = .ok (.iload_n 3, 1) := by decide +kernel
theorem dX6_takeCheapest_42 : decode cX6_takeCheapest 42 = .ok (.imul, 1) := by decide +kernel
theorem dX6_takeCheapest_43 : decode cX6_takeCheapest 43 = .ok (.iconst 1, 1) := by decide +kernel
theorem dX6_takeCheapest_44 : decode cX6_takeCheapest 44 = .ok (.iadd, 1) := by decide +kernel
theorem dX6_takeCheapest_45 : decode cX6_takeCheapest 45 = .ok (.aload_n 0, 1) := by decide +kernel
theorem dX6_takeCheapest_46 : decode cX6_takeCheapest 46 = .ok (.getfield 26, 3) := by decide +kernel
theorem dX6_takeCheapest_49 : decode cX6_takeCheapest 49 = .ok (.if_icmp .ge 111, 3) := by decide +kernel
theorem dX6_takeCheapest_160 : decode cX6_takeCheapest 160 = .ok (.aload_n 0, 1) := by decide +kernel
theorem dX6_takeCheapest_161 : decode cX6_takeCheapest 161 = .ok (.getfield 48, 3) := by decide +kernel
theorem dX6_takeCheapest_164 : decode cX6_takeCheapest 164 = .ok (.iload_n 3, 1) := by decide +kernel
theorem dX6_takeCheapest_165 : decode cX6_takeCheapest 165 = .ok (.iload_n 2, 1) := by decide +kernel
theorem dX6_takeCheapest_166 : decode cX6_takeCheapest 166 = .ok (.iastore, 1) := by decide +kernel
theorem dX6_takeCheapest_167 : decode cX6_takeCheapest 167 = .ok (.aload_n 0, 1) := by decide +kernel
theorem dX6_takeCheapest_168 : decode cX6_takeCheapest 168 = .ok (.getfield 51, 3) := by decide +kernel
theorem dX6_takeCheapest_171 : decode cX6_takeCheapest 171 = .ok (.iload_n 2, 1) := by decide +kernel
theorem dX6_takeCheapest_172 : decode cX6_takeCheapest 172 = .ok (.iload_n 3, 1) := by decide +kernel
theorem dX6_takeCheapest_173 : decode cX6_takeCheapest 173 = .ok (.iastore, 1) := by decide +kernel
theorem dX6_takeCheapest_174 : decode cX6_takeCheapest 174 = .ok (.iload_n 1, 1) := by decide +kernel
theorem dX6_takeCheapest_175 : decode cX6_takeCheapest 175 = .ok (.ireturn, 1) := by decide +kernel
set_option maxRecDepth 20000 in
theorem ggX6_leastTillServed_X3_isAllServed : GoodIn wsX6_leastTillServed wsX3_isAllServed := goodIn_r _ [8, 9, 10, 11, 12, 13, 14, 15, 16, 6, 17, 18, 19, 20, 21, 22, 23, 24, 40, 41, 42, 43, 44, 45, 46, 47, 48, 49, 50, 51, 52, 53] (by decide +kernel) (by decide +kernel)
set_option maxRecDepth 20000 in
theorem gX6_leastTillServed_X3_isAllServed_n152 : GoodIn wsX6_leastTillServed (wsX3_isAllServed) := ggX6_leastTillServed_X3_isAllServed
theorem dX6_leastTillServed_0 : decode cX6_leastTillServed 0 = .ok (.iconst (-1), 1) := by decide +kernel
theorem dX6_leastTillServed_1 : decode cX6_leastTillServed 1 = .ok (.istore_n 1, 1) := by decide +kernel
theorem dX6_leastTillServed_2 : decode cX6_leastTillServed 2 = .ok (.iconst 0, 1) := by decide +kernel
theorem dX6_leastTillServed_3 : decode cX6_leastTillServed 3 = .ok (.istore_n 2, 1) := by decide +kernel
theorem dX6_leastTillServed_4 : decode cX6_leastTillServed 4 = .ok (.iload_n 2, 1) := by decide +kernel
theorem dX6_leastTillServed_5 : decode cX6_leastTillServed 5 = .ok (.aload_n 0, 1) := by decide +kernel
theorem dX6_leastTillServed_6 : decode cX6_leastTillServed 6 = .ok (.getfield 22, 3) := by decide +kernel
theorem dX6_leastTillServed_9 : decode cX6_leastTillServed 9 = .ok (.if_icmp .ge 57, 3) := by decide +kernel
theorem dX6_leastTillServed_12 : decode cX6_leastTillServed 12 = .ok (.iload_n 1, 1) := by decide +kernel
theorem dX6_leastTillServed_13 : decode cX6_leastTillServed 13 = .ok (.iconst (-1), 1) := by decide +kernel
theorem dX6_leastTillServed_14 : decode cX6_leastTillServed 14 = .ok (.if_icmp .eq 13, 3) := by decide +kernel
theorem dX6_leastTillServed_17 : decode cX6_leastTillServed 17 = .ok (.aload_n 0, 1) := by decide +kernel
theorem dX6_leastTillServed_18 : decode cX6_leastTillServed 18 = .ok (.getfield 36, 3) := by decide +kernel
theorem dX6_leastTillServed_21 : decode cX6_leastTillServed 21 = .ok (.iload_n 2, 1) := by decide +kernel
theorem dX6_leastTillServed_22 : decode cX6_leastTillServed 22 = .ok (.iaload, 1) := by decide +kernel
theorem dX6_leastTillServed_23 : decode cX6_leastTillServed 23 = .ok (.iload_n 1, 1) := by decide +kernel
theorem dX6_leastTillServed_24 : decode cX6_leastTillServed 24 = .ok (.if_icmp .ge 7, 3) := by decide +kernel
theorem dX6_leastTillServed_27 : decode cX6_leastTillServed 27 = .ok (.iconst 1, 1) := by decide +kernel
theorem dX6_leastTillServed_28 : decode cX6_leastTillServed 28 = .ok (.goto 4, 3) := by decide +kernel
theorem dX6_leastTillServed_31 : decode cX6_leastTillServed 31 = .ok (.iconst 0, 1) := by decide +kernel
theorem dX6_leastTillServed_32 : decode cX6_leastTillServed 32 = .ok (.istore_n 3, 1) := by decide +kernel
theorem dX6_leastTillServed_33 : decode cX6_leastTillServed 33 = .ok (.iload_n 3, 1) := by decide +kernel
theorem dX6_leastTillServed_34 : decode cX6_leastTillServed 34 = .ok (.ifCond .eq 26, 3) := by decide +kernel
theorem dX6_leastTillServed_37 : decode cX6_leastTillServed 37 = .ok (.aload_n 0, 1) := by decide +kernel
theorem dX6_leastTillServed_38 : decode cX6_leastTillServed 38 = .ok (.getfield 9, 3) := by decide +kernel
theorem dX6_leastTillServed_41 : decode cX6_leastTillServed 41 = .ok (.aload_n 0, 1) := by decide +kernel
theorem dX6_leastTillServed_42 : decode cX6_leastTillServed 42 = .ok (.getfield 32, 3) := by decide +kernel
theorem dX6_leastTillServed_45 : decode cX6_leastTillServed 45 = .ok (.iload_n 2, 1) := by decide +kernel
theorem dX6_leastTillServed_46 : decode cX6_leastTillServed 46 = .ok (.iaload, 1) := by decide +kernel
theorem dX6_leastTillServed_47 : decode cX6_leastTillServed 47 = .ok (.invokevirtual 152, 3) := by decide +kernel
theorem dX6_leastTillServed_50 : decode cX6_leastTillServed 50 = .ok (.ifCond .eq 10, 3) := by decide +kernel
theorem dX6_leastTillServed_53 : decode cX6_leastTillServed 53 = .ok (.aload_n 0, 1) := by decide +kernel
theorem dX6_leastTillServed_54 : decode cX6_leastTillServed 54 = .ok (.getfield 36, 3) := by decide +kernel
theorem dX6_leastTillServed_57 : decode cX6_leastTillServed 57 = .ok (.iload_n 2, 1) := by decide +kernel
theorem dX6_leastTillServed_58 : decode cX6_leastTillServed 58 = .ok (.iaload, 1) := by decide +kernel
theorem dX6_leastTillServed_59 : decode cX6_leastTillServed 59 = .ok (.istore_n 1, 1) := by decide +kernel
theorem dX6_leastTillServed_60 : decode cX6_leastTillServed 60 = .ok (.iinc 2 1, 3) := by decide +kernel
theorem dX6_leastTillServed_63 : decode cX6_leastTillServed 63 = .ok (.goto (-59), 3) := by decide +kernel
theorem dX6_leastTillServed_66 : decode cX6_leastTillServed 66 = .ok (.iload_n 1, 1) := by decide +kernel
theorem dX6_leastTillServed_67 : decode cX6_leastTillServed 67 = .ok (.ireturn, 1) := by decide +kernel
theorem dX7_depth_0 : decode cX7_depth 0 = .ok (.iload_n 0, 1) := by decide +kernel
theorem dX7_depth_1 : decode cX7_depth 1 = .ok (.bipush 28, 2) := by decide +kernel
theorem dX7_depth_3 : decode cX7_depth 3 = .ok (.iushr, 1) := by decide +kernel
theorem dX7_depth_4 : decode cX7_depth 4 = .ok (.ireturn, 1) := by decide +kernel
theorem dX7_move_0 : decode cX7_move 0 = .ok (.iload_n 0, 1) := by decide +kernel
theorem dX7_move_1 : decode cX7_move 1 = .ok (.ldc 11, 2) := by decide +kernel
theorem dX7_move_3 : decode cX7_move 3 = .ok (.iand, 1) := by decide +kernel
theorem dX7_move_4 : decode cX7_move 4 = .ok (.iload_n 1, 1) := by decide +kernel
theorem dX7_move_5 : decode cX7_move 5 = .ok (.bipush 28, 2) := by decide +kernel
theorem dX7_move_7 : decode cX7_move 7 = .ok (.ishl, 1) := by decide +kernel
theorem dX7_move_8 : decode cX7_move 8 = .ok (.ior, 1) := by decide +kernel
theorem dX7_move_9 : decode cX7_move 9 = .ok (.ireturn, 1) := by decide +kernel
theorem dX7_place_0 : decode cX7_place 0 = .ok (.iload_n 0, 1) := by decide +kernel
theorem dX7_place_1 : decode cX7_place 1 = .ok (.iconst 4, 1) := by decide +kernel
theorem dX7_place_2 : decode cX7_place 2 = .ok (.iload_n 1, 1) := by decide +kernel
theorem dX7_place_3 : decode cX7_place 3 = .ok (.imul, 1) := by decide +kernel
theorem dX7_place_4 : decode cX7_place 4 = .ok (.iushr, 1) := by decide +kernel
theorem dX7_place_5 : decode cX7_place 5 = .ok (.bipush 15, 2) := by decide +kernel
theorem dX7_place_7 : decode cX7_place 7 = .ok (.iand, 1) := by decide +kernel
theorem dX7_place_8 : decode cX7_place 8 = .ok (.ireturn, 1) := by decide +kernel
set_option maxRecDepth 20000 in
theorem ggX7_thingsIn_X7_place : GoodIn wsX7_thingsIn wsX7_place := goodIn_r _ [4] (by decide +kernel) (by decide +kernel)
set_option maxRecDepth 20000 in
theorem gX7_thingsIn_X7_place : GoodIn wsX7_thingsIn (va_wsS RX7 12 yX7_place wsX7_place) := goodIn_app (goodIn_of _ (by decide +kernel)) ggX7_thingsIn_X7_place
theorem dX7_thingsIn_0 : decode cX7_thingsIn 0 = .ok (.iconst 0, 1) := by decide +kernel
theorem dX7_thingsIn_1 : decode cX7_thingsIn 1 = .ok (.istore_n 2, 1) := by decide +kernel
theorem dX7_thingsIn_2 : decode cX7_thingsIn 2 = .ok (.iconst 0, 1) := by decide +kernel
theorem dX7_thingsIn_3 : decode cX7_thingsIn 3 = .ok (.istore_n 3, 1) := by decide +kernel
theorem dX7_thingsIn_4 : decode cX7_thingsIn 4 = .ok (.iload_n 3, 1) := by decide +kernel
theorem dX7_thingsIn_5 : decode cX7_thingsIn 5 = .ok (.bipush 7, 2) := by decide +kernel
theorem dX7_thingsIn_7 : decode cX7_thingsIn 7 = .ok (.if_icmp .ge 27, 3) := by decide +kernel
theorem dX7_thingsIn_10 : decode cX7_thingsIn 10 = .ok (.iload_n 0, 1) := by decide +kernel
theorem dX7_thingsIn_11 : decode cX7_thingsIn 11 = .ok (.iload_n 3, 1) := by decide +kernel
theorem dX7_thingsIn_12 : decode cX7_thingsIn 12 = .ok (.invokestatic 12, 3) := by decide +kernel
theorem dX7_thingsIn_15 : decode cX7_thingsIn 15 = .ok (.bipush 12, 2) := by decide +kernel
theorem dX7_thingsIn_17 : decode cX7_thingsIn 17 = .ok (.iload_n 1, 1) := by decide +kernel
theorem dX7_thingsIn_18 : decode cX7_thingsIn 18 = .ok (.iadd, 1) := by decide +kernel
theorem dX7_thingsIn_19 : decode cX7_thingsIn 19 = .ok (.if_icmp .ne 9, 3) := by decide +kernel
theorem dX7_thingsIn_28 : decode cX7_thingsIn 28 = .ok (.iinc 3 1, 3) := by decide +kernel
theorem dX7_thingsIn_31 : decode cX7_thingsIn 31 = .ok (.goto (-27), 3) := by decide +kernel
theorem dX7_thingsIn_34 : decode cX7_thingsIn 34 = .ok (.iload_n 2, 1) := by decide +kernel
theorem dX7_thingsIn_35 : decode cX7_thingsIn 35 = .ok (.ireturn, 1) := by decide +kernel
set_option maxRecDepth 20000 in
theorem ggX9_init_X3_init : GoodIn wsX9_init wsX3_init := goodIn_r _ [30, 31, 2, 3, 27, 32, 33, 34, 35, 36, 37, 38, 39, 40, 41, 42, 43, 44, 45, 46, 47, 48, 49, 50, 51, 52, 53, 54, 55, 10, 56, 57, 58, 59, 60, 61, 62, 63, 64, 145, 146, 147, 148, 149, 150, 151, 152, 153, 154, 155, 156, 157, 158, 191, 192, 193, 194, 195] (by decide +kernel) (by decide +kernel)
set_option maxRecDepth 20000 in
theorem gX9_init_X3_init_n22 : GoodIn wsX9_init (wsX3_init) := ggX9_init_X3_init
set_option maxRecDepth 20000 in
theorem ggX9_init_X2_init : GoodIn wsX9_init wsX2_init := goodIn_r _ [66, 67, 2, 3, 68, 69, 70, 71, 72, 73, 74, 75, 76, 77, 78, 4, 79, 80, 81, 82, 83, 84, 85, 86, 87, 196, 197, 198, 199, 200, 201, 202, 203, 159, 160, 161, 162, 163] (by decide +kernel) (by decide +kernel)
set_option maxRecDepth 20000 in
theorem gX9_init_X2_init_n32 : GoodIn wsX9_init (wsX2_init) := ggX9_init_X2_init
set_option maxRecDepth 20000 in
theorem ggX9_init_X1_init : GoodIn wsX9_init wsX1_init := goodIn_r _ [89, 90, 2, 3, 27, 91, 92, 93, 94, 95, 96, 97, 164, 165, 166, 167, 168, 169, 170, 171, 172, 173, 174, 175] (by decide +kernel) (by decide +kernel)
set_option maxRecDepth 20000 in
theorem gX9_init_X1_init_n41 : GoodIn wsX9_init (wsX1_init) := ggX9_init_X1_init
set_option maxRecDepth 20000 in
theorem ggX9_init_X6_init : GoodIn wsX9_init wsX6_init := goodIn_r _ [99, 100, 2, 3, 101, 102, 103, 104, 105, 106, 27, 107, 108, 109, 110, 111, 112, 113, 114, 115, 176, 177, 178, 179, 180, 181, 182, 183, 184, 185, 186, 187, 188, 189, 190] (by decide +kernel) (by decide +kernel)
set_option maxRecDepth 20000 in
theorem gX9_init_X6_init_n55 : GoodIn wsX9_init (wsX6_init) := ggX9_init_X6_init
set_option maxRecDepth 20000 in
theorem ggX9_init_X3_firstState : GoodIn wsX9_init wsX3_firstState := goodIn_r _ [118, 119, 58, 64, 34, 120, 121, 122, 123, 124, 125, 145, 146, 147, 148, 149, 150, 151, 152, 153, 154, 155, 156, 157, 158] (by decide +kernel) (by decide +kernel)
set_option maxRecDepth 20000 in
theorem gX9_init_X3_firstState_n64 : GoodIn wsX9_init (wsX3_firstState) := ggX9_init_X3_firstState
set_option maxRecDepth 20000 in
theorem ggX9_init_X1_begin : GoodIn wsX9_init wsX1_begin := goodIn_r _ [128, 129, 130, 131, 132, 133, 164, 165, 166, 167, 168, 169, 170, 171, 172, 173, 174, 175] (by decide +kernel) (by decide +kernel)
set_option maxRecDepth 20000 in
theorem gX9_init_X1_begin_n68 : GoodIn wsX9_init (wsX1_begin) := ggX9_init_X1_begin
theorem dX9_init_0 : decode cX9_init 0 = .ok (.aload_n 0, 1) := by decide +kernel
theorem dX9_init_1 : decode cX9_init 1 = .ok (.invokespecial 1, 3) := by decide +kernel
theorem dX9_init_4 : decode cX9_init 4 = .ok (.aload_n 0, 1) := by decide +kernel
theorem dX9_init_5 : decode cX9_init 5 = .ok (.sipush 600, 3) := by decide +kernel
theorem dX9_init_8 : decode cX9_init 8 = .ok (.newarray .byte, 2) := by decide +kernel
theorem dX9_init_10 : decode cX9_init 10 = .ok (.putfield 9, 3) := by decide +kernel
theorem dX9_init_13 : decode cX9_init 13 = .ok (.aload_n 0, 1) := by decide +kernel
theorem dX9_init_14 : decode cX9_init 14 = .ok (.iconst 0, 1) := by decide +kernel
theorem dX9_init_15 : decode cX9_init 15 = .ok (.putfield 13, 3) := by decide +kernel
theorem dX9_init_18 : decode cX9_init 18 = .ok (.aload_n 0, 1) := by decide +kernel
theorem dX9_init_19 : decode cX9_init 19 = .ok (.iconst (-1), 1) := by decide +kernel
theorem dX9_init_20 : decode cX9_init 20 = .ok (.putfield 17, 3) := by decide +kernel
theorem dX9_init_23 : decode cX9_init 23 = .ok (.aload_n 0, 1) := by decide +kernel
theorem dX9_init_24 : decode cX9_init 24 = .ok (.new 20, 3) := by decide +kernel
theorem dX9_init_27 : decode cX9_init 27 = .ok (.dup, 1) := by decide +kernel
theorem dX9_init_28 : decode cX9_init 28 = .ok (.invokespecial 22, 3) := by decide +kernel
theorem dX9_init_31 : decode cX9_init 31 = .ok (.putfield 23, 3) := by decide +kernel
theorem dX9_init_34 : decode cX9_init 34 = .ok (.aload_n 0, 1) := by decide +kernel
theorem dX9_init_35 : decode cX9_init 35 = .ok (.new 20, 3) := by decide +kernel
theorem dX9_init_38 : decode cX9_init 38 = .ok (.dup, 1) := by decide +kernel
theorem dX9_init_39 : decode cX9_init 39 = .ok (.invokespecial 22, 3) := by decide +kernel
theorem dX9_init_42 : decode cX9_init 42 = .ok (.putfield 27, 3) := by decide +kernel
theorem dX9_init_45 : decode cX9_init 45 = .ok (.aload_n 0, 1) := by decide +kernel
theorem dX9_init_46 : decode cX9_init 46 = .ok (.new 30, 3) := by decide +kernel
theorem dX9_init_49 : decode cX9_init 49 = .ok (.dup, 1) := by decide +kernel
theorem dX9_init_50 : decode cX9_init 50 = .ok (.aload_n 0, 1) := by decide +kernel
theorem dX9_init_51 : decode cX9_init 51 = .ok (.getfield 27, 3) := by decide +kernel
