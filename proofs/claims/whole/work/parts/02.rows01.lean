theorem dX2_pass_25 : decode cX2_pass 25 = .ok (.getfield 15, 3) := by decide +kernel
theorem dX2_pass_28 : decode cX2_pass 28 = .ok (.iconst 1, 1) := by decide +kernel
theorem dX2_pass_29 : decode cX2_pass 29 = .ok (.iadd, 1) := by decide +kernel
theorem dX2_pass_30 : decode cX2_pass 30 = .ok (.putfield 15, 3) := by decide +kernel
theorem dX2_pass_33 : decode cX2_pass 33 = .ok (.return_, 1) := by decide +kernel
theorem dX2_threadNeeded_0 : decode cX2_threadNeeded 0 = .ok (.iconst 0, 1) := by decide +kernel
theorem dX2_threadNeeded_1 : decode cX2_threadNeeded 1 = .ok (.istore_n 3, 1) := by decide +kernel
theorem dX2_threadNeeded_2 : decode cX2_threadNeeded 2 = .ok (.iconst 0, 1) := by decide +kernel
theorem dX2_threadNeeded_3 : decode cX2_threadNeeded 3 = .ok (.istore 4, 2) := by decide +kernel
theorem dX2_threadNeeded_5 : decode cX2_threadNeeded 5 = .ok (.iload 4, 2) := by decide +kernel
theorem dX2_threadNeeded_7 : decode cX2_threadNeeded 7 = .ok (.aload_n 0, 1) := by decide +kernel
theorem dX2_threadNeeded_8 : decode cX2_threadNeeded 8 = .ok (.getfield 15, 3) := by decide +kernel
theorem dX2_threadNeeded_11 : decode cX2_threadNeeded 11 = .ok (.if_icmp .ge 26, 3) := by decide +kernel
theorem dX2_threadNeeded_14 : decode cX2_threadNeeded 14 = .ok (.iload_n 3, 1) := by decide +kernel
theorem dX2_threadNeeded_15 : decode cX2_threadNeeded 15 = .ok (.aload_n 1, 1) := by decide +kernel
theorem dX2_threadNeeded_16 : decode cX2_threadNeeded 16 = .ok (.getfield 19, 3) := by decide +kernel
theorem dX2_threadNeeded_19 : decode cX2_threadNeeded 19 = .ok (.aload_n 2, 1) := by decide +kernel
theorem dX2_threadNeeded_20 : decode cX2_threadNeeded 20 = .ok (.aload_n 0, 1) := by decide +kernel
theorem dX2_threadNeeded_21 : decode cX2_threadNeeded 21 = .ok (.getfield 9, 3) := by decide +kernel
theorem dX2_threadNeeded_24 : decode cX2_threadNeeded 24 = .ok (.iload 4, 2) := by decide +kernel
theorem dX2_threadNeeded_26 : decode cX2_threadNeeded 26 = .ok (.iaload, 1) := by decide +kernel
theorem dX2_threadNeeded_27 : decode cX2_threadNeeded 27 = .ok (.iaload, 1) := by decide +kernel
theorem dX2_threadNeeded_28 : decode cX2_threadNeeded 28 = .ok (.iaload, 1) := by decide +kernel
theorem dX2_threadNeeded_29 : decode cX2_threadNeeded 29 = .ok (.iadd, 1) := by decide +kernel
theorem dX2_threadNeeded_30 : decode cX2_threadNeeded 30 = .ok (.istore_n 3, 1) := by decide +kernel
theorem dX2_threadNeeded_31 : decode cX2_threadNeeded 31 = .ok (.iinc 4 1, 3) := by decide +kernel
theorem dX2_threadNeeded_34 : decode cX2_threadNeeded 34 = .ok (.goto (-29), 3) := by decide +kernel
theorem dX2_threadNeeded_37 : decode cX2_threadNeeded 37 = .ok (.iload_n 3, 1) := by decide +kernel
theorem dX2_threadNeeded_38 : decode cX2_threadNeeded 38 = .ok (.ireturn, 1) := by decide +kernel
set_option maxRecDepth 20000 in
theorem ggX2_fits_X2_passesUpTo : GoodIn wsX2_fits wsX2_passesUpTo := goodIn_r _ [8, 2, 9, 10] (by decide +kernel) (by decide +kernel)
set_option maxRecDepth 20000 in
theorem gX2_fits_X2_passesUpTo : GoodIn wsX2_fits (wsV RX2 24 RX2 yX2_passesUpTo wsX2_passesUpTo) := goodIn_app (goodIn_of _ (by decide +kernel)) ggX2_fits_X2_passesUpTo
theorem dX2_fits_0 : decode cX2_fits 0 = .ok (.iconst 0, 1) := by decide +kernel
theorem dX2_fits_1 : decode cX2_fits 1 = .ok (.istore 4, 2) := by decide +kernel
theorem dX2_fits_3 : decode cX2_fits 3 = .ok (.iload 4, 2) := by decide +kernel
theorem dX2_fits_5 : decode cX2_fits 5 = .ok (.aload_n 0, 1) := by decide +kernel
theorem dX2_fits_6 : decode cX2_fits 6 = .ok (.getfield 15, 3) := by decide +kernel
theorem dX2_fits_9 : decode cX2_fits 9 = .ok (.if_icmp .ge 43, 3) := by decide +kernel
theorem dX2_fits_12 : decode cX2_fits 12 = .ok (.aload_n 0, 1) := by decide +kernel
theorem dX2_fits_13 : decode cX2_fits 13 = .ok (.getfield 9, 3) := by decide +kernel
theorem dX2_fits_16 : decode cX2_fits 16 = .ok (.iload 4, 2) := by decide +kernel
theorem dX2_fits_18 : decode cX2_fits 18 = .ok (.iaload, 1) := by decide +kernel
theorem dX2_fits_19 : decode cX2_fits 19 = .ok (.istore 5, 2) := by decide +kernel
theorem dX2_fits_21 : decode cX2_fits 21 = .ok (.aload_n 3, 1) := by decide +kernel
theorem dX2_fits_22 : decode cX2_fits 22 = .ok (.iload 5, 2) := by decide +kernel
theorem dX2_fits_24 : decode cX2_fits 24 = .ok (.iaload, 1) := by decide +kernel
theorem dX2_fits_25 : decode cX2_fits 25 = .ok (.aload_n 0, 1) := by decide +kernel
theorem dX2_fits_26 : decode cX2_fits 26 = .ok (.iload 4, 2) := by decide +kernel
theorem dX2_fits_28 : decode cX2_fits 28 = .ok (.invokevirtual 24, 3) := by decide +kernel
theorem dX2_fits_31 : decode cX2_fits 31 = .ok (.iadd, 1) := by decide +kernel
theorem dX2_fits_32 : decode cX2_fits 32 = .ok (.aload_n 1, 1) := by decide +kernel
theorem dX2_fits_33 : decode cX2_fits 33 = .ok (.getfield 28, 3) := by decide +kernel
theorem dX2_fits_36 : decode cX2_fits 36 = .ok (.aload_n 2, 1) := by decide +kernel
theorem dX2_fits_37 : decode cX2_fits 37 = .ok (.iload 5, 2) := by decide +kernel
theorem dX2_fits_39 : decode cX2_fits 39 = .ok (.iaload, 1) := by decide +kernel
theorem dX2_fits_40 : decode cX2_fits 40 = .ok (.iaload, 1) := by decide +kernel
theorem dX2_fits_41 : decode cX2_fits 41 = .ok (.if_icmp .le 5, 3) := by decide +kernel
theorem dX2_fits_44 : decode cX2_fits 44 = .ok (.iconst 0, 1) := by decide +kernel
theorem dX2_fits_45 : decode cX2_fits 45 = .ok (.ireturn, 1) := by decide +kernel
theorem dX2_fits_46 : decode cX2_fits 46 = .ok (.iinc 4 1, 3) := by decide +kernel
theorem dX2_fits_49 : decode cX2_fits 49 = .ok (.goto (-46), 3) := by decide +kernel
theorem dX2_fits_52 : decode cX2_fits 52 = .ok (.iconst 1, 1) := by decide +kernel
theorem dX2_fits_53 : decode cX2_fits 53 = .ok (.ireturn, 1) := by decide +kernel
theorem dX2_passesUpTo_0 : decode cX2_passesUpTo 0 = .ok (.iconst 0, 1) := by decide +kernel
theorem dX2_passesUpTo_1 : decode cX2_passesUpTo 1 = .ok (.istore_n 2, 1) := by decide +kernel
theorem dX2_passesUpTo_2 : decode cX2_passesUpTo 2 = .ok (.iconst 0, 1) := by decide +kernel
theorem dX2_passesUpTo_3 : decode cX2_passesUpTo 3 = .ok (.istore_n 3, 1) := by decide +kernel
theorem dX2_passesUpTo_4 : decode cX2_passesUpTo 4 = .ok (.iload_n 3, 1) := by decide +kernel
theorem dX2_passesUpTo_5 : decode cX2_passesUpTo 5 = .ok (.iload_n 1, 1) := by decide +kernel
theorem dX2_passesUpTo_6 : decode cX2_passesUpTo 6 = .ok (.if_icmp .gt 27, 3) := by decide +kernel
theorem dX2_passesUpTo_9 : decode cX2_passesUpTo 9 = .ok (.aload_n 0, 1) := by decide +kernel
theorem dX2_passesUpTo_10 : decode cX2_passesUpTo 10 = .ok (.getfield 9, 3) := by decide +kernel
theorem dX2_passesUpTo_13 : decode cX2_passesUpTo 13 = .ok (.iload_n 3, 1) := by decide +kernel
theorem dX2_passesUpTo_14 : decode cX2_passesUpTo 14 = .ok (.iaload, 1) := by decide +kernel
theorem dX2_passesUpTo_15 : decode cX2_passesUpTo 15 = .ok (.aload_n 0, 1) := by decide +kernel
theorem dX2_passesUpTo_16 : decode cX2_passesUpTo 16 = .ok (.getfield 9, 3) := by decide +kernel
theorem dX2_passesUpTo_19 : decode cX2_passesUpTo 19 = .ok (.iload_n 1, 1) := by decide +kernel
theorem dX2_passesUpTo_20 : decode cX2_passesUpTo 20 = .ok (.iaload, 1) := by decide +kernel
theorem dX2_passesUpTo_21 : decode cX2_passesUpTo 21 = .ok (.if_icmp .ne 6, 3) := by decide +kernel
theorem dX2_passesUpTo_24 : decode cX2_passesUpTo 24 = .ok (.iinc 2 1, 3) := by decide +kernel
theorem dX2_passesUpTo_27 : decode cX2_passesUpTo 27 = .ok (.iinc 3 1, 3) := by decide +kernel
theorem dX2_passesUpTo_30 : decode cX2_passesUpTo 30 = .ok (.goto (-26), 3) := by decide +kernel
theorem dX2_passesUpTo_33 : decode cX2_passesUpTo 33 = .ok (.iload_n 2, 1) := by decide +kernel
theorem dX2_passesUpTo_34 : decode cX2_passesUpTo 34 = .ok (.ireturn, 1) := by decide +kernel
theorem dX2_countInto_0 : decode cX2_countInto 0 = .ok (.iconst 0, 1) := by decide +kernel
theorem dX2_countInto_1 : decode cX2_countInto 1 = .ok (.istore_n 2, 1) := by decide +kernel
theorem dX2_countInto_2 : decode cX2_countInto 2 = .ok (.iload_n 2, 1) := by decide +kernel
theorem dX2_countInto_3 : decode cX2_countInto 3 = .ok (.aload_n 0, 1) := by decide +kernel
theorem dX2_countInto_4 : decode cX2_countInto 4 = .ok (.getfield 15, 3) := by decide +kernel
theorem dX2_countInto_7 : decode cX2_countInto 7 = .ok (.if_icmp .ge 21, 3) := by decide +kernel
theorem dX2_countInto_10 : decode cX2_countInto 10 = .ok (.aload_n 1, 1) := by decide +kernel
theorem dX2_countInto_11 : decode cX2_countInto 11 = .ok (.aload_n 0, 1) := by decide +kernel
theorem dX2_countInto_12 : decode cX2_countInto 12 = .ok (.getfield 9, 3) := by decide +kernel
theorem dX2_countInto_15 : decode cX2_countInto 15 = .ok (.iload_n 2, 1) := by decide +kernel
theorem dX2_countInto_16 : decode cX2_countInto 16 = .ok (.iaload, 1) := by decide +kernel
theorem dX2_countInto_17 : decode cX2_countInto 17 = .ok (.dup2, 1) := by decide +kernel
theorem dX2_countInto_18 : decode cX2_countInto 18 = .ok (.iaload, 1) := by decide +kernel
theorem dX2_countInto_19 : decode cX2_countInto 19 = .ok (.iconst 1, 1) := by decide +kernel
theorem dX2_countInto_20 : decode cX2_countInto 20 = .ok (.iadd, 1) := by decide +kernel
theorem dX2_countInto_21 : decode cX2_countInto 21 = .ok (.iastore, 1) := by decide +kernel
theorem dX2_countInto_22 : decode cX2_countInto 22 = .ok (.iinc 2 1, 3) := by decide +kernel
theorem dX2_countInto_25 : decode cX2_countInto 25 = .ok (.goto (-23), 3) := by decide +kernel
theorem dX2_countInto_28 : decode cX2_countInto 28 = .ok (.return_, 1) := by decide +kernel
set_option maxRecDepth 20000 in
theorem ggX3_init_X2_init : GoodIn wsX3_init wsX2_init := goodIn_r _ [28, 29, 2, 3, 4, 30, 31, 55, 56] (by decide +kernel) (by decide +kernel)
set_option maxRecDepth 20000 in
theorem gX3_init_X2_init_n41 : GoodIn wsX3_init (wsX2_init) := ggX3_init_X2_init
set_option maxRecDepth 20000 in
theorem ggX3_init_J7_fill_53178 : GoodIn wsX3_init wsJ7_fill_53178 := goodIn_r _ [35] (by decide +kernel) (by decide +kernel)
set_option maxRecDepth 20000 in
theorem gX3_init_J7_fill_53178 : GoodIn wsX3_init (va_wsS RX3 75 yJ7_fill_53178 wsJ7_fill_53178) := goodIn_app (goodIn_of _ (by decide +kernel)) ggX3_init_J7_fill_53178
theorem dX3_init_0 : decode cX3_init 0 = .ok (.aload_n 0, 1) := by decide +kernel
theorem dX3_init_1 : decode cX3_init 1 = .ok (.invokespecial 3, 3) := by decide +kernel
theorem dX3_init_4 : decode cX3_init 4 = .ok (.aload_n 0, 1) := by decide +kernel
theorem dX3_init_5 : decode cX3_init 5 = .ok (.sipush 144, 3) := by decide +kernel
theorem dX3_init_8 : decode cX3_init 8 = .ok (.newarray .int, 2) := by decide +kernel
theorem dX3_init_10 : decode cX3_init 10 = .ok (.putfield 9, 3) := by decide +kernel
theorem dX3_init_13 : decode cX3_init 13 = .ok (.aload_n 0, 1) := by decide +kernel
theorem dX3_init_14 : decode cX3_init 14 = .ok (.sipush 144, 3) := by decide +kernel
theorem dX3_init_17 : decode cX3_init 17 = .ok (.newarray .int, 2) := by decide +kernel
theorem dX3_init_19 : decode cX3_init 19 = .ok (.putfield 15, 3) := by decide +kernel
theorem dX3_init_22 : decode cX3_init 22 = .ok (.aload_n 0, 1) := by decide +kernel
theorem dX3_init_23 : decode cX3_init 23 = .ok (.sipush 144, 3) := by decide +kernel
theorem dX3_init_26 : decode cX3_init 26 = .ok (.newarray .int, 2) := by decide +kernel
theorem dX3_init_28 : decode cX3_init 28 = .ok (.putfield 18, 3) := by decide +kernel
theorem dX3_init_31 : decode cX3_init 31 = .ok (.aload_n 0, 1) := by decide +kernel
theorem dX3_init_32 : decode cX3_init 32 = .ok (.sipush 144, 3) := by decide +kernel
theorem dX3_init_35 : decode cX3_init 35 = .ok (.newarray .int, 2) := by decide +kernel
theorem dX3_init_37 : decode cX3_init 37 = .ok (.putfield 21, 3) := by decide +kernel
theorem dX3_init_40 : decode cX3_init 40 = .ok (.aload_n 0, 1) := by decide +kernel
theorem dX3_init_41 : decode cX3_init 41 = .ok (.sipush 144, 3) := by decide +kernel
theorem dX3_init_44 : decode cX3_init 44 = .ok (.newarray .int, 2) := by decide +kernel
theorem dX3_init_46 : decode cX3_init 46 = .ok (.putfield 24, 3) := by decide +kernel
theorem dX3_init_49 : decode cX3_init 49 = .ok (.aload_n 0, 1) := by decide +kernel
theorem dX3_init_50 : decode cX3_init 50 = .ok (.sipush 144, 3) := by decide +kernel
theorem dX3_init_53 : decode cX3_init 53 = .ok (.newarray .int, 2) := by decide +kernel
theorem dX3_init_55 : decode cX3_init 55 = .ok (.putfield 27, 3) := by decide +kernel
theorem dX3_init_58 : decode cX3_init 58 = .ok (.aload_n 0, 1) := by decide +kernel
theorem dX3_init_59 : decode cX3_init 59 = .ok (.sipush 144, 3) := by decide +kernel
theorem dX3_init_62 : decode cX3_init 62 = .ok (.newarray .int, 2) := by decide +kernel
theorem dX3_init_64 : decode cX3_init 64 = .ok (.putfield 30, 3) := by decide +kernel
theorem dX3_init_67 : decode cX3_init 67 = .ok (.aload_n 0, 1) := by decide +kernel
theorem dX3_init_68 : decode cX3_init 68 = .ok (.sipush 864, 3) := by decide +kernel
theorem dX3_init_71 : decode cX3_init 71 = .ok (.newarray .int, 2) := by decide +kernel
theorem dX3_init_73 : decode cX3_init 73 = .ok (.putfield 33, 3) := by decide +kernel
theorem dX3_init_76 : decode cX3_init 76 = .ok (.aload_n 0, 1) := by decide +kernel
theorem dX3_init_77 : decode cX3_init 77 = .ok (.bipush 6, 2) := by decide +kernel
theorem dX3_init_79 : decode cX3_init 79 = .ok (.newarray .int, 2) := by decide +kernel
theorem dX3_init_81 : decode cX3_init 81 = .ok (.putfield 36, 3) := by decide +kernel
theorem dX3_init_84 : decode cX3_init 84 = .ok (.aload_n 0, 1) := by decide +kernel
theorem dX3_init_85 : decode cX3_init 85 = .ok (.new 39, 3) := by decide +kernel
theorem dX3_init_88 : decode cX3_init 88 = .ok (.dup, 1) := by decide +kernel
theorem dX3_init_89 : decode cX3_init 89 = .ok (.invokespecial 41, 3) := by decide +kernel
theorem dX3_init_92 : decode cX3_init 92 = .ok (.putfield 42, 3) := by decide +kernel
theorem dX3_init_95 : decode cX3_init 95 = .ok (.aload_n 0, 1) := by decide +kernel
theorem dX3_init_96 : decode cX3_init 96 = .ok (.iconst 0, 1) := by decide +kernel
theorem dX3_init_97 : decode cX3_init 97 = .ok (.putfield 46, 3) := by decide +kernel
theorem dX3_init_100 : decode cX3_init 100 = .ok (.aload_n 0, 1) := by decide +kernel
theorem dX3_init_101 : decode cX3_init 101 = .ok (.iconst 0, 1) := by decide +kernel
theorem dX3_init_102 : decode cX3_init 102 = .ok (.putfield 50, 3) := by decide +kernel
theorem dX3_init_105 : decode cX3_init 105 = .ok (.aload_n 0, 1) := by decide +kernel
theorem dX3_init_106 : decode cX3_init 106 = .ok (.iconst 0, 1) := by decide +kernel
theorem dX3_init_107 : decode cX3_init 107 = .ok (.putfield 54, 3) := by decide +kernel
theorem dX3_init_110 : decode cX3_init 110 = .ok (.aload_n 0, 1) := by decide +kernel
theorem dX3_init_111 : decode cX3_init 111 = .ok (.iconst (-1), 1) := by decide +kernel
theorem dX3_init_112 : decode cX3_init 112 = .ok (.putfield 57, 3) := by decide +kernel
theorem dX3_init_115 : decode cX3_init 115 = .ok (.aload_n 0, 1) := by decide +kernel
theorem dX3_init_116 : decode cX3_init 116 = .ok (.iconst 0, 1) := by decide +kernel
theorem dX3_init_117 : decode cX3_init 117 = .ok (.putfield 60, 3) := by decide +kernel
theorem dX3_init_120 : decode cX3_init 120 = .ok (.aload_n 0, 1) := by decide +kernel
theorem dX3_init_121 : decode cX3_init 121 = .ok (.iconst 0, 1) := by decide +kernel
theorem dX3_init_122 : decode cX3_init 122 = .ok (.putfield 63, 3) := by decide +kernel
theorem dX3_init_125 : decode cX3_init 125 = .ok (.aload_n 0, 1) := by decide +kernel
theorem dX3_init_126 : decode cX3_init 126 = .ok (.iconst 0, 1) := by decide +kernel
theorem dX3_init_127 : decode cX3_init 127 = .ok (.putfield 66, 3) := by decide +kernel
theorem dX3_init_130 : decode cX3_init 130 = .ok (.aload_n 0, 1) := by decide +kernel
theorem dX3_init_131 : decode cX3_init 131 = .ok (.iconst 0, 1) := by decide +kernel
theorem dX3_init_132 : decode cX3_init 132 = .ok (.putfield 69, 3) := by decide +kernel
theorem dX3_init_135 : decode cX3_init 135 = .ok (.aload_n 0, 1) := by decide +kernel
theorem dX3_init_136 : decode cX3_init 136 = .ok (.iconst 0, 1) := by decide +kernel
theorem dX3_init_137 : decode cX3_init 137 = .ok (.putfield 72, 3) := by decide +kernel
theorem dX3_init_140 : decode cX3_init 140 = .ok (.aload_n 0, 1) := by decide +kernel
theorem dX3_init_141 : decode cX3_init 141 = .ok (.getfield 30, 3) := by decide +kernel
theorem dX3_init_144 : decode cX3_init 144 = .ok (.iconst (-1), 1) := by decide +kernel
theorem dX3_init_145 : decode cX3_init 145 = .ok (.invokestatic 75, 3) := by decide +kernel
theorem dX3_init_148 : decode cX3_init 148 = .ok (.return_, 1) := by decide +kernel
theorem dX3_has_0 : decode cX3_has 0 = .ok (.iload_n 1, 1) := by decide +kernel
theorem dX3_has_1 : decode cX3_has 1 = .ok (.ifCond .lt 15, 3) := by decide +kernel
theorem dX3_has_4 : decode cX3_has 4 = .ok (.iload_n 1, 1) := by decide +kernel
theorem dX3_has_5 : decode cX3_has 5 = .ok (.aload_n 0, 1) := by decide +kernel
theorem dX3_has_6 : decode cX3_has 6 = .ok (.getfield 50, 3) := by decide +kernel
theorem dX3_has_9 : decode cX3_has 9 = .ok (.if_icmp .ge 7, 3) := by decide +kernel
theorem dX3_has_12 : decode cX3_has 12 = .ok (.iconst 1, 1) := by decide +kernel
theorem dX3_has_13 : decode cX3_has 13 = .ok (.goto 4, 3) := by decide +kernel
theorem dX3_has_16 : decode cX3_has 16 = .ok (.iconst 0, 1) := by decide +kernel
theorem dX3_has_17 : decode cX3_has 17 = .ok (.ireturn, 1) := by decide +kernel
theorem dX3_isCheaperThan_0 : decode cX3_isCheaperThan 0 = .ok (.aload_n 0, 1) := by decide +kernel
theorem dX3_isCheaperThan_1 : decode cX3_isCheaperThan 1 = .ok (.getfield 60, 3) := by decide +kernel
theorem dX3_isCheaperThan_4 : decode cX3_isCheaperThan 4 = .ok (.aload_n 1, 1) := by decide +kernel
theorem dX3_isCheaperThan_5 : decode cX3_isCheaperThan 5 = .ok (.getfield 60, 3) := by decide +kernel
theorem dX3_isCheaperThan_8 : decode cX3_isCheaperThan 8 = .ok (.if_icmp .lt 25, 3) := by decide +kernel
theorem dX3_isCheaperThan_11 : decode cX3_isCheaperThan 11 = .ok (.aload_n 0, 1) := by decide +kernel
theorem dX3_isCheaperThan_12 : decode cX3_isCheaperThan 12 = .ok (.getfield 60, 3) := by decide +kernel
theorem dX3_isCheaperThan_15 : decode cX3_isCheaperThan 15 = .ok (.aload_n 1, 1) := by decide +kernel
theorem dX3_isCheaperThan_16 : decode cX3_isCheaperThan 16 = .ok (.getfield 60, 3) := by decide +kernel
theorem dX3_isCheaperThan_19 : decode cX3_isCheaperThan 19 = .ok (.if_icmp .ne 18, 3) := by decide +kernel
theorem dX3_isCheaperThan_22 : decode cX3_isCheaperThan 22 = .ok (.aload_n 0, 1) := by decide +kernel
theorem dX3_isCheaperThan_23 : decode cX3_isCheaperThan 23 = .ok (.getfield 63, 3) := by decide +kernel
theorem dX3_isCheaperThan_26 : decode cX3_isCheaperThan 26 = .ok (.aload_n 1, 1) := by decide +kernel
theorem dX3_isCheaperThan_27 : decode cX3_isCheaperThan 27 = .ok (.getfield 63, 3) := by decide +kernel
theorem dX3_isCheaperThan_30 : decode cX3_isCheaperThan 30 = .ok (.if_icmp .ge 7, 3) := by decide +kernel
theorem dX3_isCheaperThan_33 : decode cX3_isCheaperThan 33 = .ok (.iconst 1, 1) := by decide +kernel
theorem dX3_isCheaperThan_34 : decode cX3_isCheaperThan 34 = .ok (.goto 4, 3) := by decide +kernel
theorem dX3_isCheaperThan_37 : decode cX3_isCheaperThan 37 = .ok (.iconst 0, 1) := by decide +kernel
theorem dX3_isCheaperThan_38 : decode cX3_isCheaperThan 38 = .ok (.ireturn, 1) := by decide +kernel
set_option maxRecDepth 20000 in
theorem ggX3_pickAt_X4_isCell : GoodIn wsX3_pickAt wsX4_isCell := goodIn_r _ [4, 5, 6, 3, 7] (by decide +kernel) (by decide +kernel)
set_option maxRecDepth 20000 in
theorem gX3_pickAt_X4_isCell_n81 : GoodIn wsX3_pickAt (wsX4_isCell) := ggX3_pickAt_X4_isCell
theorem dX3_pickAt_0 : decode cX3_pickAt 0 = .ok (.iload_n 1, 1) := by decide +kernel
theorem dX3_pickAt_1 : decode cX3_pickAt 1 = .ok (.iload_n 2, 1) := by decide +kernel
theorem dX3_pickAt_2 : decode cX3_pickAt 2 = .ok (.invokestatic 81, 3) := by decide +kernel
theorem dX3_pickAt_5 : decode cX3_pickAt 5 = .ok (.ifCond .eq 17, 3) := by decide +kernel
theorem dX3_pickAt_8 : decode cX3_pickAt 8 = .ok (.aload_n 0, 1) := by decide +kernel
theorem dX3_pickAt_9 : decode cX3_pickAt 9 = .ok (.getfield 30, 3) := by decide +kernel
theorem dX3_pickAt_12 : decode cX3_pickAt 12 = .ok (.iload_n 1, 1) := by decide +kernel
theorem dX3_pickAt_13 : decode cX3_pickAt 13 = .ok (.bipush 12, 2) := by decide +kernel
theorem dX3_pickAt_15 : decode cX3_pickAt 15 = .ok (.imul, 1) := by decide +kernel
theorem dX3_pickAt_16 : decode cX3_pickAt 16 = .ok (.iload_n 2, 1) := by decide +kernel
theorem dX3_pickAt_17 : decode cX3_pickAt 17 = .ok (.iadd, 1) := by decide +kernel
theorem dX3_pickAt_18 : decode cX3_pickAt 18 = .ok (.iaload, 1) := by decide +kernel
theorem dX3_pickAt_19 : decode cX3_pickAt 19 = .ok (.goto 4, 3) := by decide +kernel
theorem dX3_pickAt_22 : decode cX3_pickAt 22 = .ok (.iconst (-1), 1) := by decide +kernel
theorem dX3_pickAt_23 : decode cX3_pickAt 23 = .ok (.ireturn, 1) := by decide +kernel
theorem dX3_caughtCount_0 : decode cX3_caughtCount 0 = .ok (.aload_n 0, 1) := by decide +kernel
theorem dX3_caughtCount_1 : decode cX3_caughtCount 1 = .ok (.getfield 24, 3) := by decide +kernel
theorem dX3_caughtCount_4 : decode cX3_caughtCount 4 = .ok (.iload_n 1, 1) := by decide +kernel
theorem dX3_caughtCount_5 : decode cX3_caughtCount 5 = .ok (.iaload, 1) := by decide +kernel
theorem dX3_caughtCount_6 : decode cX3_caughtCount 6 = .ok (.iconst (-1), 1) := by decide +kernel
theorem dX3_caughtCount_7 : decode cX3_caughtCount 7 = .ok (.if_icmp .ne 7, 3) := by decide +kernel
theorem dX3_caughtCount_10 : decode cX3_caughtCount 10 = .ok (.iconst 0, 1) := by decide +kernel
theorem dX3_caughtCount_11 : decode cX3_caughtCount 11 = .ok (.goto 4, 3) := by decide +kernel
theorem dX3_caughtCount_14 : decode cX3_caughtCount 14 = .ok (.iconst 1, 1) := by decide +kernel
theorem dX3_caughtCount_15 : decode cX3_caughtCount 15 = .ok (.aload_n 0, 1) := by decide +kernel
theorem dX3_caughtCount_16 : decode cX3_caughtCount 16 = .ok (.getfield 27, 3) := by decide +kernel
theorem dX3_caughtCount_19 : decode cX3_caughtCount 19 = .ok (.iload_n 1, 1) := by decide +kernel
theorem dX3_caughtCount_20 : decode cX3_caughtCount 20 = .ok (.iaload, 1) := by decide +kernel
theorem dX3_caughtCount_21 : decode cX3_caughtCount 21 = .ok (.iconst (-1), 1) := by decide +kernel
theorem dX3_caughtCount_22 : decode cX3_caughtCount 22 = .ok (.if_icmp .ne 7, 3) := by decide +kernel
theorem dX3_caughtCount_25 : decode cX3_caughtCount 25 = .ok (.iconst 0, 1) := by decide +kernel
theorem dX3_caughtCount_26 : decode cX3_caughtCount 26 = .ok (.goto 4, 3) := by decide +kernel
theorem dX3_caughtCount_29 : decode cX3_caughtCount 29 = .ok (.iconst 1, 1) := by decide +kernel
theorem dX3_caughtCount_30 : decode cX3_caughtCount 30 = .ok (.iadd, 1) := by decide +kernel
theorem dX3_caughtCount_31 : decode cX3_caughtCount 31 = .ok (.ireturn, 1) := by decide +kernel
theorem dX3_wovenIn_0 : decode cX3_wovenIn 0 = .ok (.iload_n 1, 1) := by decide +kernel
theorem dX3_wovenIn_1 : decode cX3_wovenIn 1 = .ok (.iconst 1, 1) := by decide +kernel
theorem dX3_wovenIn_2 : decode cX3_wovenIn 2 = .ok (.if_icmp .lt 23, 3) := by decide +kernel
theorem dX3_wovenIn_5 : decode cX3_wovenIn 5 = .ok (.iload_n 1, 1) := by decide +kernel
theorem dX3_wovenIn_6 : decode cX3_wovenIn 6 = .ok (.aload_n 0, 1) := by decide +kernel
theorem dX3_wovenIn_7 : decode cX3_wovenIn 7 = .ok (.getfield 60, 3) := by decide +kernel
theorem dX3_wovenIn_10 : decode cX3_wovenIn 10 = .ok (.if_icmp .ge 15, 3) := by decide +kernel
theorem dX3_wovenIn_13 : decode cX3_wovenIn 13 = .ok (.iload_n 2, 1) := by decide +kernel
theorem dX3_wovenIn_14 : decode cX3_wovenIn 14 = .ok (.ifCond .lt 11, 3) := by decide +kernel
theorem dX3_wovenIn_17 : decode cX3_wovenIn 17 = .ok (.iload_n 2, 1) := by decide +kernel
theorem dX3_wovenIn_18 : decode cX3_wovenIn 18 = .ok (.aload_n 0, 1) := by decide +kernel
theorem dX3_wovenIn_19 : decode cX3_wovenIn 19 = .ok (.getfield 72, 3) := by decide +kernel
theorem dX3_wovenIn_22 : decode cX3_wovenIn 22 = .ok (.if_icmp .lt 5, 3) := by decide +kernel
theorem dX3_wovenIn_25 : decode cX3_wovenIn 25 = .ok (.iconst (-1), 1) := by decide +kernel
theorem dX3_wovenIn_26 : decode cX3_wovenIn 26 = .ok (.ireturn, 1) := by decide +kernel
theorem dX3_wovenIn_27 : decode cX3_wovenIn 27 = .ok (.aload_n 0, 1) := by decide +kernel
theorem dX3_wovenIn_28 : decode cX3_wovenIn 28 = .ok (.getfield 33, 3) := by decide +kernel
theorem dX3_wovenIn_31 : decode cX3_wovenIn 31 = .ok (.iload_n 1, 1) := by decide +kernel
theorem dX3_wovenIn_32 : decode cX3_wovenIn 32 = .ok (.bipush 6, 2) := by decide +kernel
theorem dX3_wovenIn_34 : decode cX3_wovenIn 34 = .ok (.imul, 1) := by decide +kernel
theorem dX3_wovenIn_35 : decode cX3_wovenIn 35 = .ok (.iload_n 2, 1) := by decide +kernel
theorem dX3_wovenIn_36 : decode cX3_wovenIn 36 = .ok (.iadd, 1) := by decide +kernel
theorem dX3_wovenIn_37 : decode cX3_wovenIn 37 = .ok (.iaload, 1) := by decide +kernel
theorem dX3_wovenIn_38 : decode cX3_wovenIn 38 = .ok (.ireturn, 1) := by decide +kernel
set_option maxRecDepth 20000 in
theorem ggX3_follow_X3_startAnew : GoodIn wsX3_follow wsX3_startAnew := goodIn_r _ [8, 9, 10, 2, 1, 11, 12, 13, 14, 15, 16, 17, 18, 19, 20, 21, 157, 158, 159, 160, 161, 162, 163, 164, 165, 166, 167, 168, 169, 170, 171, 172, 173, 174, 175, 176, 177, 178, 179, 180, 181, 182, 183] (by decide +kernel) (by decide +kernel)
set_option maxRecDepth 20000 in
theorem gX3_follow_X3_startAnew : GoodIn wsX3_follow (wsV RX3 85 RX3 yX3_startAnew wsX3_startAnew) := goodIn_app (goodIn_of _ (by decide +kernel)) ggX3_follow_X3_startAnew
set_option maxRecDepth 20000 in
theorem ggX3_follow_X0_beadsInRow : GoodIn wsX3_follow wsX0_beadsInRow := goodIn_r _ [26, 27, 28, 29, 25, 30, 31, 32, 33, 34, 35, 36, 37, 176, 177, 178, 179, 180, 181, 182, 183] (by decide +kernel) (by decide +kernel)
set_option maxRecDepth 20000 in
theorem gX3_follow_X0_beadsInRow : GoodIn wsX3_follow (wsV RX3 89 RX0 yX0_beadsInRow wsX0_beadsInRow) := goodIn_app (goodIn_of _ (by decide +kernel)) ggX3_follow_X0_beadsInRow
set_option maxRecDepth 20000 in
theorem ggX3_follow_X3_followRow : GoodIn wsX3_follow wsX3_followRow := goodIn_r _ [41, 2, 1, 3, 22, 23, 24, 25, 26, 27, 28, 29, 30, 31, 32, 33, 34, 35, 36, 37, 42, 43, 44, 45, 7, 46, 47, 48, 49, 50, 51, 52, 53, 54, 55, 56, 57, 58, 59, 60, 61, 62, 63, 64, 65, 66, 67, 68, 69, 70, 71, 72, 73, 74, 75, 76, 77, 9, 78, 79, 80, 81, 82, 83, 84, 85, 86, 87, 88, 89, 90, 91, 92, 93, 94, 95, 96, 97, 98, 99, 100, 101, 102, 103, 104, 105, 106, 107, 108, 11, 109, 110, 111, 112, 113, 114, 115, 116, 117, 118, 12, 14, 119, 120, 121, 122, 123, 124, 125, 126, 127, 17, 128, 15, 129, 130, 131, 132, 133, 134, 135, 136, 137, 138, 139, 140, 141, 142, 143, 144, 145, 146, 147, 148, 149, 150, 151, 152, 13, 153, 154, 155, 156, 157, 158, 159, 160, 161, 162, 163, 164, 165, 166, 167, 168, 169, 170, 171, 172, 173, 174, 175, 176, 177, 178, 179, 180, 181, 182, 183, 184, 185] (by decide +kernel) (by decide +kernel)
set_option maxRecDepth 20000 in
theorem gX3_follow_X3_followRow : GoodIn wsX3_follow (wsV RX3 95 RX3 yX3_followRow wsX3_followRow) := goodIn_app (goodIn_of _ (by decide +kernel)) ggX3_follow_X3_followRow
theorem dX3_follow_0 : decode cX3_follow 0 = .ok (.aload_n 0, 1) := by decide +kernel
theorem dX3_follow_1 : decode cX3_follow 1 = .ok (.aload_n 1, 1) := by decide +kernel
theorem dX3_follow_2 : decode cX3_follow 2 = .ok (.invokevirtual 85, 3) := by decide +kernel
theorem dX3_follow_5 : decode cX3_follow 5 = .ok (.iload_n 2, 1) := by decide +kernel
theorem dX3_follow_6 : decode cX3_follow 6 = .ok (.iconst 2, 1) := by decide +kernel
theorem dX3_follow_7 : decode cX3_follow 7 = .ok (.if_icmp .ge 7, 3) := by decide +kernel
theorem dX3_follow_10 : decode cX3_follow 10 = .ok (.iconst 1, 1) := by decide +kernel
theorem dX3_follow_11 : decode cX3_follow 11 = .ok (.goto 4, 3) := by decide +kernel
theorem dX3_follow_14 : decode cX3_follow 14 = .ok (.iconst 0, 1) := by decide +kernel
theorem dX3_follow_15 : decode cX3_follow 15 = .ok (.istore_n 3, 1) := by decide +kernel
theorem dX3_follow_16 : decode cX3_follow 16 = .ok (.iload_n 2, 1) := by decide +kernel
theorem dX3_follow_17 : decode cX3_follow 17 = .ok (.iconst 2, 1) := by decide +kernel
theorem dX3_follow_18 : decode cX3_follow 18 = .ok (.irem, 1) := by decide +kernel
theorem dX3_follow_19 : decode cX3_follow 19 = .ok (.ifCond .ne 7, 3) := by decide +kernel
theorem dX3_follow_22 : decode cX3_follow 22 = .ok (.iconst 1, 1) := by decide +kernel
theorem dX3_follow_23 : decode cX3_follow 23 = .ok (.goto 4, 3) := by decide +kernel
theorem dX3_follow_26 : decode cX3_follow 26 = .ok (.iconst 0, 1) := by decide +kernel
theorem dX3_follow_27 : decode cX3_follow 27 = .ok (.istore 4, 2) := by decide +kernel
theorem dX3_follow_29 : decode cX3_follow 29 = .ok (.iconst (-1), 1) := by decide +kernel
theorem dX3_follow_30 : decode cX3_follow 30 = .ok (.istore 5, 2) := by decide +kernel
theorem dX3_follow_32 : decode cX3_follow 32 = .ok (.iconst 0, 1) := by decide +kernel
theorem dX3_follow_33 : decode cX3_follow 33 = .ok (.istore 6, 2) := by decide +kernel
theorem dX3_follow_35 : decode cX3_follow 35 = .ok (.iload 6, 2) := by decide +kernel
theorem dX3_follow_37 : decode cX3_follow 37 = .ok (.bipush 12, 2) := by decide +kernel
theorem dX3_follow_39 : decode cX3_follow 39 = .ok (.if_icmp .ge 101, 3) := by decide +kernel
theorem dX3_follow_42 : decode cX3_follow 42 = .ok (.aload_n 0, 1) := by decide +kernel
theorem dX3_follow_43 : decode cX3_follow 43 = .ok (.getfield 54, 3) := by decide +kernel
theorem dX3_follow_46 : decode cX3_follow 46 = .ok (.ifCond .ne 94, 3) := by decide +kernel
theorem dX3_follow_49 : decode cX3_follow 49 = .ok (.iload_n 3, 1) := by decide +kernel
theorem dX3_follow_50 : decode cX3_follow 50 = .ok (.ifCond .eq 8, 3) := by decide +kernel
theorem dX3_follow_53 : decode cX3_follow 53 = .ok (.iload 6, 2) := by decide +kernel
theorem dX3_follow_55 : decode cX3_follow 55 = .ok (.goto 8, 3) := by decide +kernel
theorem dX3_follow_58 : decode cX3_follow 58 = .ok (.bipush 11, 2) := by decide +kernel
theorem dX3_follow_60 : decode cX3_follow 60 = .ok (.iload 6, 2) := by decide +kernel
theorem dX3_follow_62 : decode cX3_follow 62 = .ok (.isub, 1) := by decide +kernel
theorem dX3_follow_63 : decode cX3_follow 63 = .ok (.istore 7, 2) := by decide +kernel
theorem dX3_follow_65 : decode cX3_follow 65 = .ok (.aload_n 1, 1) := by decide +kernel
theorem dX3_follow_66 : decode cX3_follow 66 = .ok (.iload 7, 2) := by decide +kernel
theorem dX3_follow_68 : decode cX3_follow 68 = .ok (.invokevirtual 89, 3) := by decide +kernel
theorem dX3_follow_71 : decode cX3_follow 71 = .ok (.ifCond .le 63, 3) := by decide +kernel
theorem dX3_follow_74 : decode cX3_follow 74 = .ok (.aload_n 0, 1) := by decide +kernel
theorem dX3_follow_75 : decode cX3_follow 75 = .ok (.getfield 50, 3) := by decide +kernel
theorem dX3_follow_78 : decode cX3_follow 78 = .ok (.istore 8, 2) := by decide +kernel
theorem dX3_follow_80 : decode cX3_follow 80 = .ok (.aload_n 0, 1) := by decide +kernel
theorem dX3_follow_81 : decode cX3_follow 81 = .ok (.aload_n 1, 1) := by decide +kernel
theorem dX3_follow_82 : decode cX3_follow 82 = .ok (.iload 7, 2) := by decide +kernel
theorem dX3_follow_84 : decode cX3_follow 84 = .ok (.iload_n 3, 1) := by decide +kernel
theorem dX3_follow_85 : decode cX3_follow 85 = .ok (.ifCond .eq 10, 3) := by decide +kernel
theorem dX3_follow_88 : decode cX3_follow 88 = .ok (.iload 7, 2) := by decide +kernel
theorem dX3_follow_90 : decode cX3_follow 90 = .ok (.iconst 1, 1) := by decide +kernel
theorem dX3_follow_91 : decode cX3_follow 91 = .ok (.isub, 1) := by decide +kernel
theorem dX3_follow_92 : decode cX3_follow 92 = .ok (.goto 7, 3) := by decide +kernel
theorem dX3_follow_95 : decode cX3_follow 95 = .ok (.iload 7, 2) := by decide +kernel
theorem dX3_follow_97 : decode cX3_follow 97 = .ok (.iconst 1, 1) := by decide +kernel
theorem dX3_follow_98 : decode cX3_follow 98 = .ok (.iadd, 1) := by decide +kernel
theorem dX3_follow_99 : decode cX3_follow 99 = .ok (.iload 4, 2) := by decide +kernel
theorem dX3_follow_101 : decode cX3_follow 101 = .ok (.iload 5, 2) := by decide +kernel
theorem dX3_follow_103 : decode cX3_follow 103 = .ok (.invokevirtual 95, 3) := by decide +kernel
theorem dX3_follow_106 : decode cX3_follow 106 = .ok (.iload 8, 2) := by decide +kernel
theorem dX3_follow_108 : decode cX3_follow 108 = .ok (.istore 5, 2) := by decide +kernel
theorem dX3_follow_110 : decode cX3_follow 110 = .ok (.aload_n 1, 1) := by decide +kernel
theorem dX3_follow_111 : decode cX3_follow 111 = .ok (.getfield 99, 3) := by decide +kernel
theorem dX3_follow_114 : decode cX3_follow 114 = .ok (.ifCond .ne 16, 3) := by decide +kernel
theorem dX3_follow_117 : decode cX3_follow 117 = .ok (.iload 4, 2) := by decide +kernel
theorem dX3_follow_119 : decode cX3_follow 119 = .ok (.ifCond .ne 7, 3) := by decide +kernel
theorem dX3_follow_122 : decode cX3_follow 122 = .ok (.iconst 1, 1) := by decide +kernel
theorem dX3_follow_123 : decode cX3_follow 123 = .ok (.goto 9, 3) := by decide +kernel
theorem dX3_follow_126 : decode cX3_follow 126 = .ok (.iconst 0, 1) := by decide +kernel
theorem dX3_follow_127 : decode cX3_follow 127 = .ok (.goto 5, 3) := by decide +kernel
theorem dX3_follow_130 : decode cX3_follow 130 = .ok (.iload 4, 2) := by decide +kernel
theorem dX3_follow_132 : decode cX3_follow 132 = .ok (.istore 4, 2) := by decide +kernel
theorem dX3_follow_134 : decode cX3_follow 134 = .ok (.iinc 6 1, 3) := by decide +kernel
theorem dX3_follow_137 : decode cX3_follow 137 = .ok (.goto (-102), 3) := by decide +kernel
theorem dX3_follow_140 : decode cX3_follow 140 = .ok (.return_, 1) := by decide +kernel
set_option maxRecDepth 20000 in
theorem ggX3_startAnew_J7_fill_53178 : GoodIn wsX3_startAnew wsJ7_fill_53178 := goodIn_r _ [15] (by decide +kernel) (by decide +kernel)
set_option maxRecDepth 20000 in
theorem gX3_startAnew_J7_fill_53178 : GoodIn wsX3_startAnew (va_wsS RX3 75 yJ7_fill_53178 wsJ7_fill_53178) := goodIn_app (goodIn_of _ (by decide +kernel)) ggX3_startAnew_J7_fill_53178
theorem dX3_startAnew_0 : decode cX3_startAnew 0 = .ok (.aload_n 0, 1) := by decide +kernel
theorem dX3_startAnew_1 : decode cX3_startAnew 1 = .ok (.getfield 30, 3) := by decide +kernel
theorem dX3_startAnew_4 : decode cX3_startAnew 4 = .ok (.iconst (-1), 1) := by decide +kernel
theorem dX3_startAnew_5 : decode cX3_startAnew 5 = .ok (.invokestatic 75, 3) := by decide +kernel
theorem dX3_startAnew_8 : decode cX3_startAnew 8 = .ok (.aload_n 0, 1) := by decide +kernel
theorem dX3_startAnew_9 : decode cX3_startAnew 9 = .ok (.iconst 1, 1) := by decide +kernel
theorem dX3_startAnew_10 : decode cX3_startAnew 10 = .ok (.putfield 46, 3) := by decide +kernel
theorem dX3_startAnew_13 : decode cX3_startAnew 13 = .ok (.aload_n 0, 1) := by decide +kernel
theorem dX3_startAnew_14 : decode cX3_startAnew 14 = .ok (.iconst 0, 1) := by decide +kernel
theorem dX3_startAnew_15 : decode cX3_startAnew 15 = .ok (.putfield 50, 3) := by decide +kernel
theorem dX3_startAnew_18 : decode cX3_startAnew 18 = .ok (.aload_n 0, 1) := by decide +kernel
theorem dX3_startAnew_19 : decode cX3_startAnew 19 = .ok (.iconst 0, 1) := by decide +kernel
theorem dX3_startAnew_20 : decode cX3_startAnew 20 = .ok (.putfield 54, 3) := by decide +kernel
theorem dX3_startAnew_23 : decode cX3_startAnew 23 = .ok (.aload_n 0, 1) := by decide +kernel
theorem dX3_startAnew_24 : decode cX3_startAnew 24 = .ok (.iconst (-1), 1) := by decide +kernel
theorem dX3_startAnew_25 : decode cX3_startAnew 25 = .ok (.putfield 57, 3) := by decide +kernel
theorem dX3_startAnew_28 : decode cX3_startAnew 28 = .ok (.aload_n 0, 1) := by decide +kernel
theorem dX3_startAnew_29 : decode cX3_startAnew 29 = .ok (.iconst 0, 1) := by decide +kernel
theorem dX3_startAnew_30 : decode cX3_startAnew 30 = .ok (.putfield 60, 3) := by decide +kernel
theorem dX3_startAnew_33 : decode cX3_startAnew 33 = .ok (.aload_n 0, 1) := by decide +kernel
theorem dX3_startAnew_34 : decode cX3_startAnew 34 = .ok (.iconst 0, 1) := by decide +kernel
theorem dX3_startAnew_35 : decode cX3_startAnew 35 = .ok (.putfield 63, 3) := by decide +kernel
theorem dX3_startAnew_38 : decode cX3_startAnew 38 = .ok (.aload_n 0, 1) := by decide +kernel
theorem dX3_startAnew_39 : decode cX3_startAnew 39 = .ok (.iconst 0, 1) := by decide +kernel
theorem dX3_startAnew_40 : decode cX3_startAnew 40 = .ok (.putfield 66, 3) := by decide +kernel
theorem dX3_startAnew_43 : decode cX3_startAnew 43 = .ok (.aload_n 0, 1) := by decide +kernel
theorem dX3_startAnew_44 : decode cX3_startAnew 44 = .ok (.iconst 0, 1) := by decide +kernel
theorem dX3_startAnew_45 : decode cX3_startAnew 45 = .ok (.putfield 69, 3) := by decide +kernel
theorem dX3_startAnew_48 : decode cX3_startAnew 48 = .ok (.aload_n 0, 1) := by decide +kernel
theorem dX3_startAnew_49 : decode cX3_startAnew 49 = .ok (.aload_n 1, 1) := by decide +kernel
theorem dX3_startAnew_50 : decode cX3_startAnew 50 = .ok (.getfield 102, 3) := by decide +kernel
theorem dX3_startAnew_53 : decode cX3_startAnew 53 = .ok (.putfield 72, 3) := by decide +kernel
theorem dX3_startAnew_56 : decode cX3_startAnew 56 = .ok (.return_, 1) := by decide +kernel
set_option maxRecDepth 20000 in
theorem ggX3_followRow_X0_beadsInRow : GoodIn wsX3_followRow wsX0_beadsInRow := goodIn_r _ [8, 9, 10, 11, 7, 12, 13, 14, 15, 16, 17, 18, 19, 162, 163, 164, 165, 166, 167, 168, 169] (by decide +kernel) (by decide +kernel)
set_option maxRecDepth 20000 in
theorem gX3_followRow_X0_beadsInRow : GoodIn wsX3_followRow (wsV RX3 89 RX0 yX0_beadsInRow wsX0_beadsInRow) := goodIn_app (goodIn_of _ (by decide +kernel)) ggX3_followRow_X0_beadsInRow
set_option maxRecDepth 20000 in
theorem ggX3_followRow_X0_colourAt : GoodIn wsX3_followRow wsX0_colourAt := goodIn_r _ [12, 13, 14, 15, 16, 17, 18, 19, 162, 163, 164, 165, 166, 167, 168, 169] (by decide +kernel) (by decide +kernel)
set_option maxRecDepth 20000 in
theorem gX3_followRow_X0_colourAt : GoodIn wsX3_followRow (wsV RX3 103 RX0 yX0_colourAt wsX0_colourAt) := goodIn_app (goodIn_of _ (by decide +kernel)) ggX3_followRow_X0_colourAt
set_option maxRecDepth 20000 in
theorem ggX3_followRow_X3_layOut : GoodIn wsX3_followRow wsX3_layOut := goodIn_r _ [25, 1, 26, 27, 28, 29, 30, 20, 10, 11, 7, 12, 13, 14, 15, 16, 17, 18, 19, 31, 32, 33, 34, 35, 36, 37, 38, 39, 40, 41, 42, 43, 44, 45, 46, 47, 48, 49, 50, 51, 52, 53, 54, 55, 24, 56, 57, 58, 59, 60, 61, 62, 63, 64, 143, 144, 145, 146, 147, 148, 149, 150, 151, 152, 153, 154, 155, 156, 157, 158, 159, 160, 161, 162, 163, 164, 165, 166, 167, 168, 169] (by decide +kernel) (by decide +kernel)
set_option maxRecDepth 20000 in
theorem gX3_followRow_X3_layOut : GoodIn wsX3_followRow (wsV RX3 107 RX3 yX3_layOut wsX3_layOut) := goodIn_app (goodIn_of _ (by decide +kernel)) ggX3_followRow_X3_layOut
set_option maxRecDepth 20000 in
theorem ggX3_followRow_X3_gatherInFirstRow : GoodIn wsX3_followRow wsX3_gatherInFirstRow := goodIn_r _ [68, 1, 69, 70, 71, 72, 73, 74, 75, 76, 77, 78, 79, 80, 143, 144, 145, 146, 147, 148, 149, 150, 151, 152, 153, 154, 155, 156, 157, 158, 159, 160, 161, 170, 171] (by decide +kernel) (by decide +kernel)
set_option maxRecDepth 20000 in
theorem gX3_followRow_X3_gatherInFirstRow : GoodIn wsX3_followRow (wsV RX3 111 RX3 yX3_gatherInFirstRow wsX3_gatherInFirstRow) := goodIn_app (goodIn_of _ (by decide +kernel)) ggX3_followRow_X3_gatherInFirstRow
set_option maxRecDepth 20000 in
theorem ggX3_followRow_X3_gatherInLaterRow : GoodIn wsX3_followRow wsX3_gatherInLaterRow := goodIn_r _ [84, 1, 69, 29, 30, 70, 71, 72, 73, 74, 75, 76, 77, 78, 79, 80, 143, 144, 145, 146, 147, 148, 149, 150, 151, 152, 153, 154, 155, 156, 157, 158, 159, 160, 161, 170, 171] (by decide +kernel) (by decide +kernel)
set_option maxRecDepth 20000 in
theorem gX3_followRow_X3_gatherInLaterRow : GoodIn wsX3_followRow (wsV RX3 115 RX3 yX3_gatherInLaterRow wsX3_gatherInLaterRow) := goodIn_app (goodIn_of _ (by decide +kernel)) ggX3_followRow_X3_gatherInLaterRow
set_option maxRecDepth 20000 in
theorem ggX3_followRow_X3_doStep : GoodIn wsX3_followRow wsX3_doStep := goodIn_r _ [88, 69, 27, 2, 26, 1, 89, 90, 91, 92, 73, 93, 75, 94, 80, 95, 96, 97, 24, 98, 99, 100, 101, 28, 102, 103, 104, 105, 29, 30, 106, 107, 108, 109, 110, 111, 112, 113, 114, 115, 116, 117, 118, 119, 120, 121, 122, 123, 124, 125, 126, 127, 128, 129, 130, 131, 132, 133, 134, 135, 136, 57, 137, 138, 139, 140, 141, 142, 143, 144, 145, 146, 147, 148, 149, 150, 151, 152, 153, 154, 155, 156, 157, 158, 159, 160, 161, 170, 171, 162, 163, 164, 165, 166, 167, 168, 169] (by decide +kernel) (by decide +kernel)
set_option maxRecDepth 20000 in
theorem gX3_followRow_X3_doStep : GoodIn wsX3_followRow (wsV RX3 119 RX3 yX3_doStep wsX3_doStep) := goodIn_app (goodIn_of _ (by decide +kernel)) ggX3_followRow_X3_doStep
theorem dX3_followRow_0 : decode cX3_followRow 0 = .ok (.aload_n 0, 1) := by decide +kernel
theorem dX3_followRow_1 : decode cX3_followRow 1 = .ok (.getfield 50, 3) := by decide +kernel
theorem dX3_followRow_4 : decode cX3_followRow 4 = .ok (.istore 6, 2) := by decide +kernel
theorem dX3_followRow_6 : decode cX3_followRow 6 = .ok (.iload 6, 2) := by decide +kernel
theorem dX3_followRow_8 : decode cX3_followRow 8 = .ok (.aload_n 1, 1) := by decide +kernel
theorem dX3_followRow_9 : decode cX3_followRow 9 = .ok (.iload_n 2, 1) := by decide +kernel
theorem dX3_followRow_10 : decode cX3_followRow 10 = .ok (.invokevirtual 89, 3) := by decide +kernel
theorem dX3_followRow_13 : decode cX3_followRow 13 = .ok (.iadd, 1) := by decide +kernel
theorem dX3_followRow_14 : decode cX3_followRow 14 = .ok (.iconst 1, 1) := by decide +kernel
theorem dX3_followRow_15 : decode cX3_followRow 15 = .ok (.isub, 1) := by decide +kernel
theorem dX3_followRow_16 : decode cX3_followRow 16 = .ok (.istore 7, 2) := by decide +kernel
theorem dX3_followRow_18 : decode cX3_followRow 18 = .ok (.iload 5, 2) := by decide +kernel
theorem dX3_followRow_20 : decode cX3_followRow 20 = .ok (.iconst (-1), 1) := by decide +kernel
theorem dX3_followRow_21 : decode cX3_followRow 21 = .ok (.if_icmp .ne 7, 3) := by decide +kernel
theorem dX3_followRow_24 : decode cX3_followRow 24 = .ok (.iconst 1, 1) := by decide +kernel
theorem dX3_followRow_25 : decode cX3_followRow 25 = .ok (.goto 4, 3) := by decide +kernel
theorem dX3_followRow_28 : decode cX3_followRow 28 = .ok (.iconst 0, 1) := by decide +kernel
theorem dX3_followRow_29 : decode cX3_followRow 29 = .ok (.istore 8, 2) := by decide +kernel
theorem dX3_followRow_31 : decode cX3_followRow 31 = .ok (.iconst 0, 1) := by decide +kernel
theorem dX3_followRow_32 : decode cX3_followRow 32 = .ok (.istore 9, 2) := by decide +kernel
theorem dX3_followRow_34 : decode cX3_followRow 34 = .ok (.iload 9, 2) := by decide +kernel
theorem dX3_followRow_36 : decode cX3_followRow 36 = .ok (.bipush 12, 2) := by decide +kernel
theorem dX3_followRow_38 : decode cX3_followRow 38 = .ok (.if_icmp .ge 147, 3) := by decide +kernel
theorem dX3_followRow_41 : decode cX3_followRow 41 = .ok (.aload_n 0, 1) := by decide +kernel
theorem dX3_followRow_42 : decode cX3_followRow 42 = .ok (.getfield 54, 3) := by decide +kernel
theorem dX3_followRow_45 : decode cX3_followRow 45 = .ok (.ifCond .ne 140, 3) := by decide +kernel
theorem dX3_followRow_48 : decode cX3_followRow 48 = .ok (.aload_n 0, 1) := by decide +kernel
theorem dX3_followRow_49 : decode cX3_followRow 49 = .ok (.getfield 50, 3) := by decide +kernel
theorem dX3_followRow_52 : decode cX3_followRow 52 = .ok (.sipush 144, 3) := by decide +kernel
theorem dX3_followRow_55 : decode cX3_followRow 55 = .ok (.if_icmp .ge 130, 3) := by decide +kernel
theorem dX3_followRow_58 : decode cX3_followRow 58 = .ok (.iload 4, 2) := by decide +kernel
theorem dX3_followRow_60 : decode cX3_followRow 60 = .ok (.ifCond .eq 8, 3) := by decide +kernel
theorem dX3_followRow_63 : decode cX3_followRow 63 = .ok (.iload 9, 2) := by decide +kernel
theorem dX3_followRow_65 : decode cX3_followRow 65 = .ok (.goto 8, 3) := by decide +kernel
theorem dX3_followRow_68 : decode cX3_followRow 68 = .ok (.bipush 11, 2) := by decide +kernel
theorem dX3_followRow_70 : decode cX3_followRow 70 = .ok (.iload 9, 2) := by decide +kernel
theorem dX3_followRow_72 : decode cX3_followRow 72 = .ok (.isub, 1) := by decide +kernel
theorem dX3_followRow_73 : decode cX3_followRow 73 = .ok (.istore 10, 2) := by decide +kernel
theorem dX3_followRow_75 : decode cX3_followRow 75 = .ok (.aload_n 1, 1) := by decide +kernel
theorem dX3_followRow_76 : decode cX3_followRow 76 = .ok (.iload_n 2, 1) := by decide +kernel
theorem dX3_followRow_77 : decode cX3_followRow 77 = .ok (.iload 10, 2) := by decide +kernel
theorem dX3_followRow_79 : decode cX3_followRow 79 = .ok (.invokevirtual 103, 3) := by decide +kernel
theorem dX3_followRow_82 : decode cX3_followRow 82 = .ok (.iconst (-1), 1) := by decide +kernel
theorem dX3_followRow_83 : decode cX3_followRow 83 = .ok (.if_icmp .eq 96, 3) := by decide +kernel
theorem dX3_followRow_86 : decode cX3_followRow 86 = .ok (.aload_n 0, 1) := by decide +kernel
theorem dX3_followRow_87 : decode cX3_followRow 87 = .ok (.aload_n 1, 1) := by decide +kernel
theorem dX3_followRow_88 : decode cX3_followRow 88 = .ok (.iload_n 2, 1) := by decide +kernel
theorem dX3_followRow_89 : decode cX3_followRow 89 = .ok (.iload 10, 2) := by decide +kernel
theorem dX3_followRow_91 : decode cX3_followRow 91 = .ok (.iload_n 3, 1) := by decide +kernel
theorem dX3_followRow_92 : decode cX3_followRow 92 = .ok (.invokevirtual 107, 3) := by decide +kernel
theorem dX3_followRow_95 : decode cX3_followRow 95 = .ok (.iload 8, 2) := by decide +kernel
theorem dX3_followRow_97 : decode cX3_followRow 97 = .ok (.ifCond .eq 24, 3) := by decide +kernel
theorem dX3_followRow_100 : decode cX3_followRow 100 = .ok (.aload_n 0, 1) := by decide +kernel
theorem dX3_followRow_101 : decode cX3_followRow 101 = .ok (.aload_n 1, 1) := by decide +kernel
theorem dX3_followRow_102 : decode cX3_followRow 102 = .ok (.getfield 99, 3) := by decide +kernel
theorem dX3_followRow_105 : decode cX3_followRow 105 = .ok (.ifCond .eq 7, 3) := by decide +kernel
theorem dX3_followRow_108 : decode cX3_followRow 108 = .ok (.iconst 1, 1) := by decide +kernel
theorem dX3_followRow_109 : decode cX3_followRow 109 = .ok (.goto 4, 3) := by decide +kernel
theorem dX3_followRow_112 : decode cX3_followRow 112 = .ok (.iconst 0, 1) := by decide +kernel
theorem dX3_followRow_113 : decode cX3_followRow 113 = .ok (.iload 7, 2) := by decide +kernel
theorem dX3_followRow_115 : decode cX3_followRow 115 = .ok (.invokevirtual 111, 3) := by decide +kernel
theorem dX3_followRow_118 : decode cX3_followRow 118 = .ok (.goto 54, 3) := by decide +kernel
theorem dX3_followRow_121 : decode cX3_followRow 121 = .ok (.aload_n 0, 1) := by decide +kernel
theorem dX3_followRow_122 : decode cX3_followRow 122 = .ok (.getfield 50, 3) := by decide +kernel
theorem dX3_followRow_125 : decode cX3_followRow 125 = .ok (.iload 6, 2) := by decide +kernel
theorem dX3_followRow_127 : decode cX3_followRow 127 = .ok (.if_icmp .ne 7, 3) := by decide +kernel
theorem dX3_followRow_130 : decode cX3_followRow 130 = .ok (.iconst 1, 1) := by decide +kernel
theorem dX3_followRow_131 : decode cX3_followRow 131 = .ok (.goto 4, 3) := by decide +kernel
theorem dX3_followRow_134 : decode cX3_followRow 134 = .ok (.iconst 0, 1) := by decide +kernel
theorem dX3_followRow_135 : decode cX3_followRow 135 = .ok (.istore 11, 2) := by decide +kernel
theorem dX3_followRow_137 : decode cX3_followRow 137 = .ok (.aload_n 1, 1) := by decide +kernel
theorem dX3_followRow_138 : decode cX3_followRow 138 = .ok (.getfield 99, 3) := by decide +kernel
theorem dX3_followRow_141 : decode cX3_followRow 141 = .ok (.ifCond .ne 12, 3) := by decide +kernel
theorem dX3_followRow_144 : decode cX3_followRow 144 = .ok (.aload_n 0, 1) := by decide +kernel
theorem dX3_followRow_145 : decode cX3_followRow 145 = .ok (.getfield 50, 3) := by decide +kernel
theorem dX3_followRow_148 : decode cX3_followRow 148 = .ok (.iconst 1, 1) := by decide +kernel
theorem dX3_followRow_149 : decode cX3_followRow 149 = .ok (.isub, 1) := by decide +kernel
theorem dX3_followRow_150 : decode cX3_followRow 150 = .ok (.goto 5, 3) := by decide +kernel
theorem dX3_followRow_153 : decode cX3_followRow 153 = .ok (.iload 5, 2) := by decide +kernel
theorem dX3_followRow_155 : decode cX3_followRow 155 = .ok (.istore 12, 2) := by decide +kernel
theorem dX3_followRow_157 : decode cX3_followRow 157 = .ok (.aload_n 0, 1) := by decide +kernel
theorem dX3_followRow_158 : decode cX3_followRow 158 = .ok (.iload 11, 2) := by decide +kernel
theorem dX3_followRow_160 : decode cX3_followRow 160 = .ok (.ifCond .eq 8, 3) := by decide +kernel
theorem dX3_followRow_163 : decode cX3_followRow 163 = .ok (.iload 12, 2) := by decide +kernel
theorem dX3_followRow_165 : decode cX3_followRow 165 = .ok (.goto 4, 3) := by decide +kernel
theorem dX3_followRow_168 : decode cX3_followRow 168 = .ok (.iconst (-1), 1) := by decide +kernel
theorem dX3_followRow_169 : decode cX3_followRow 169 = .ok (.invokevirtual 115, 3) := by decide +kernel
theorem dX3_followRow_172 : decode cX3_followRow 172 = .ok (.aload_n 0, 1) := by decide +kernel
theorem dX3_followRow_173 : decode cX3_followRow 173 = .ok (.aload_n 1, 1) := by decide +kernel
theorem dX3_followRow_174 : decode cX3_followRow 174 = .ok (.iload 8, 2) := by decide +kernel
theorem dX3_followRow_176 : decode cX3_followRow 176 = .ok (.invokevirtual 119, 3) := by decide +kernel
theorem dX3_followRow_179 : decode cX3_followRow 179 = .ok (.iinc 9 1, 3) := by decide +kernel
theorem dX3_followRow_182 : decode cX3_followRow 182 = .ok (.goto (-148), 3) := by decide +kernel
theorem dX3_followRow_185 : decode cX3_followRow 185 = .ok (.return_, 1) := by decide +kernel
set_option maxRecDepth 20000 in
theorem ggX3_layOut_X0_colourAt : GoodIn wsX3_layOut wsX0_colourAt := goodIn_r _ [11, 12, 13, 14, 15, 16, 17, 18, 73, 74, 75, 76, 77, 78, 79, 80] (by decide +kernel) (by decide +kernel)
set_option maxRecDepth 20000 in
theorem gX3_layOut_X0_colourAt : GoodIn wsX3_layOut (wsV RX3 103 RX0 yX0_colourAt wsX0_colourAt) := goodIn_app (goodIn_of _ (by decide +kernel)) ggX3_layOut_X0_colourAt
set_option maxRecDepth 20000 in
theorem ggX3_layOut_X0_lowerCatch : GoodIn wsX3_layOut wsX0_lowerCatch := goodIn_r _ [22, 23, 24, 25, 26, 27, 28, 29, 30, 10, 31, 32, 33, 34, 35, 36, 37, 38, 39, 40, 73, 74, 75, 76, 77, 78, 79, 80] (by decide +kernel) (by decide +kernel)
set_option maxRecDepth 20000 in
theorem gX3_layOut_X0_lowerCatch : GoodIn wsX3_layOut (wsV RX3 123 RX0 yX0_lowerCatch wsX0_lowerCatch) := goodIn_app (goodIn_of _ (by decide +kernel)) ggX3_layOut_X0_lowerCatch
set_option maxRecDepth 20000 in
theorem ggX3_layOut_X3_pickAt : GoodIn wsX3_layOut wsX3_pickAt := goodIn_r _ [45, 46, 13, 14, 15, 16, 17, 18, 54, 55, 56, 57, 58, 59, 60, 61, 62, 63, 64, 65, 66, 67, 68, 69, 70, 71, 72] (by decide +kernel) (by decide +kernel)
set_option maxRecDepth 20000 in
theorem gX3_layOut_X3_pickAt : GoodIn wsX3_layOut (wsV RX3 126 RX3 yX3_pickAt wsX3_pickAt) := goodIn_app (goodIn_of _ (by decide +kernel)) ggX3_layOut_X3_pickAt
set_option maxRecDepth 20000 in
theorem ggX3_layOut_X0_upperCatch : GoodIn wsX3_layOut wsX0_upperCatch := goodIn_r _ [50, 23, 51, 52, 26, 53, 28, 29, 30, 10, 31, 32, 33, 34, 35, 36, 37, 38, 39, 40, 73, 74, 75, 76, 77, 78, 79, 80] (by decide +kernel) (by decide +kernel)
set_option maxRecDepth 20000 in
theorem gX3_layOut_X0_upperCatch : GoodIn wsX3_layOut (wsV RX3 129 RX0 yX0_upperCatch wsX0_upperCatch) := goodIn_app (goodIn_of _ (by decide +kernel)) ggX3_layOut_X0_upperCatch
theorem dX3_layOut_0 : decode cX3_layOut 0 = .ok (.aload_n 0, 1) := by decide +kernel
theorem dX3_layOut_1 : decode cX3_layOut 1 = .ok (.getfield 50, 3) := by decide +kernel
theorem dX3_layOut_4 : decode cX3_layOut 4 = .ok (.istore 5, 2) := by decide +kernel
theorem dX3_layOut_6 : decode cX3_layOut 6 = .ok (.aload_n 0, 1) := by decide +kernel
theorem dX3_layOut_7 : decode cX3_layOut 7 = .ok (.getfield 9, 3) := by decide +kernel
theorem dX3_layOut_10 : decode cX3_layOut 10 = .ok (.iload 5, 2) := by decide +kernel
theorem dX3_layOut_12 : decode cX3_layOut 12 = .ok (.iload_n 2, 1) := by decide +kernel
theorem dX3_layOut_13 : decode cX3_layOut 13 = .ok (.bipush 12, 2) := by decide +kernel
theorem dX3_layOut_15 : decode cX3_layOut 15 = .ok (.imul, 1) := by decide +kernel
theorem dX3_layOut_16 : decode cX3_layOut 16 = .ok (.iload_n 3, 1) := by decide +kernel
theorem dX3_layOut_17 : decode cX3_layOut 17 = .ok (.iadd, 1) := by decide +kernel
theorem dX3_layOut_18 : decode cX3_layOut 18 = .ok (.iastore, 1) := by decide +kernel
theorem dX3_layOut_19 : decode cX3_layOut 19 = .ok (.aload_n 0, 1) := by decide +kernel
theorem dX3_layOut_20 : decode cX3_layOut 20 = .ok (.getfield 15, 3) := by decide +kernel
theorem dX3_layOut_23 : decode cX3_layOut 23 = .ok (.iload 5, 2) := by decide +kernel
theorem dX3_layOut_25 : decode cX3_layOut 25 = .ok (.aload_n 1, 1) := by decide +kernel
theorem dX3_layOut_26 : decode cX3_layOut 26 = .ok (.iload_n 2, 1) := by decide +kernel
theorem dX3_layOut_27 : decode cX3_layOut 27 = .ok (.iload_n 3, 1) := by decide +kernel
theorem dX3_layOut_28 : decode cX3_layOut 28 = .ok (.invokevirtual 103, 3) := by decide +kernel
theorem dX3_layOut_31 : decode cX3_layOut 31 = .ok (.iastore, 1) := by decide +kernel
theorem dX3_layOut_32 : decode cX3_layOut 32 = .ok (.aload_n 0, 1) := by decide +kernel
theorem dX3_layOut_33 : decode cX3_layOut 33 = .ok (.getfield 21, 3) := by decide +kernel
theorem dX3_layOut_36 : decode cX3_layOut 36 = .ok (.iload 5, 2) := by decide +kernel
theorem dX3_layOut_38 : decode cX3_layOut 38 = .ok (.iconst 0, 1) := by decide +kernel
