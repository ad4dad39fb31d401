theorem dX4_thread_0 : decode cX4_thread 0 = .ok (.iload_n 1, 1) := by decide +kernel
theorem dX4_thread_1 : decode cX4_thread 1 = .ok (.iconst 1, 1) := by decide +kernel
theorem dX4_thread_2 : decode cX4_thread 2 = .ok (.sipush 9999, 3) := by decide +kernel
theorem dX4_thread_5 : decode cX4_thread 5 = .ok (.invokestatic 45, 3) := by decide +kernel
theorem dX4_thread_8 : decode cX4_thread 8 = .ok (.ifCond .eq 13, 3) := by decide +kernel
theorem dX4_thread_11 : decode cX4_thread 11 = .ok (.iload_n 2, 1) := by decide +kernel
theorem dX4_thread_12 : decode cX4_thread 12 = .ok (.iconst 0, 1) := by decide +kernel
theorem dX4_thread_13 : decode cX4_thread 13 = .ok (.bipush 6, 2) := by decide +kernel
theorem dX4_thread_15 : decode cX4_thread 15 = .ok (.invokestatic 45, 3) := by decide +kernel
theorem dX4_thread_18 : decode cX4_thread 18 = .ok (.ifCond .ne 5, 3) := by decide +kernel
theorem dX4_thread_21 : decode cX4_thread 21 = .ok (.iconst 0, 1) := by decide +kernel
theorem dX4_thread_22 : decode cX4_thread 22 = .ok (.ireturn, 1) := by decide +kernel
theorem dX4_thread_23 : decode cX4_thread 23 = .ok (.aload_n 0, 1) := by decide +kernel
theorem dX4_thread_24 : decode cX4_thread 24 = .ok (.getfield 12, 3) := by decide +kernel
theorem dX4_thread_27 : decode cX4_thread 27 = .ok (.iload_n 1, 1) := by decide +kernel
theorem dX4_thread_28 : decode cX4_thread 28 = .ok (.putfield 68, 3) := by decide +kernel
theorem dX4_thread_31 : decode cX4_thread 31 = .ok (.aload_n 0, 1) := by decide +kernel
theorem dX4_thread_32 : decode cX4_thread 32 = .ok (.getfield 12, 3) := by decide +kernel
theorem dX4_thread_35 : decode cX4_thread 35 = .ok (.iload_n 2, 1) := by decide +kernel
theorem dX4_thread_36 : decode cX4_thread 36 = .ok (.putfield 71, 3) := by decide +kernel
theorem dX4_thread_39 : decode cX4_thread 39 = .ok (.iconst 1, 1) := by decide +kernel
theorem dX4_thread_40 : decode cX4_thread 40 = .ok (.ireturn, 1) := by decide +kernel
set_option maxRecDepth 20000 in
theorem ggX4_cell_X0_colourAt : GoodIn wsX4_cell wsX0_colourAt := goodIn_r _ [6, 7, 8, 9, 10, 11, 12, 13, 18, 19, 20, 21, 22, 23, 24, 25] (by decide +kernel) (by decide +kernel)
set_option maxRecDepth 20000 in
theorem gX4_cell_X0_colourAt : GoodIn wsX4_cell (wsV RX4 74 RX0 yX0_colourAt wsX0_colourAt) := goodIn_app (goodIn_of _ (by decide +kernel)) ggX4_cell_X0_colourAt
theorem dX4_cell_0 : decode cX4_cell 0 = .ok (.aload_n 0, 1) := by decide +kernel
theorem dX4_cell_1 : decode cX4_cell 1 = .ok (.getfield 12, 3) := by decide +kernel
theorem dX4_cell_4 : decode cX4_cell 4 = .ok (.iload_n 1, 1) := by decide +kernel
theorem dX4_cell_5 : decode cX4_cell 5 = .ok (.iload_n 2, 1) := by decide +kernel
theorem dX4_cell_6 : decode cX4_cell 6 = .ok (.invokevirtual 74, 3) := by decide +kernel
theorem dX4_cell_9 : decode cX4_cell 9 = .ok (.ireturn, 1) := by decide +kernel
set_option maxRecDepth 20000 in
theorem ggX4_work_X4_isWithin : GoodIn wsX4_work wsX4_isWithin := goodIn_r _ [7] (by decide +kernel) (by decide +kernel)
set_option maxRecDepth 20000 in
theorem gX4_work_X4_isWithin : GoodIn wsX4_work (va_wsS RX4 45 yX4_isWithin wsX4_isWithin) := goodIn_app (goodIn_of _ (by decide +kernel)) ggX4_work_X4_isWithin
set_option maxRecDepth 20000 in
theorem ggX4_work_X3_follow : GoodIn wsX4_work wsX3_follow := goodIn_r _ [12, 13, 14, 15, 16, 17, 18, 11, 19, 20, 21, 22, 23, 24, 25, 26, 27, 28, 29, 30, 31, 32, 33, 34, 35, 36, 37, 38, 39, 40, 41, 42, 43, 6, 44, 4, 5, 7, 45, 46, 47, 48, 49, 50, 51, 52, 53, 54, 55, 56, 57, 58, 59, 60, 61, 62, 63, 64, 65, 66, 67, 68, 69, 70, 71, 72, 73, 74, 75, 76, 77, 78, 79, 80, 81, 82, 83, 84, 85, 86, 87, 88, 89, 90, 91, 92, 93, 94, 95, 96, 97, 98, 99, 100, 101, 102, 103, 104, 105, 106, 107, 108, 109, 110, 111, 112, 113, 114, 115, 116, 117, 118, 119, 120, 121, 122, 123, 124, 125, 126, 127, 128, 129, 130, 131, 132, 133, 134, 135, 136, 137, 138, 139, 140, 141, 142, 143, 144, 145, 146, 147, 148, 149, 150, 151, 152, 153, 154, 155, 156, 157, 158, 159, 160, 161, 162, 163, 168, 169, 170, 171, 172, 173, 174, 175, 176, 177, 178, 179, 180, 181, 182, 183, 184, 185, 186, 187, 188, 189, 190, 191, 192, 193, 194, 195, 196] (by decide +kernel) (by decide +kernel)
set_option maxRecDepth 20000 in
theorem gX4_work_X3_follow : GoodIn wsX4_work (wsV RX4 78 RX3 yX3_follow wsX3_follow) := goodIn_app (goodIn_of _ (by decide +kernel)) ggX4_work_X3_follow
theorem dX4_work_0 : decode cX4_work 0 = .ok (.iload_n 1, 1) := by decide +kernel
theorem dX4_work_1 : decode cX4_work 1 = .ok (.iconst 0, 1) := by decide +kernel
theorem dX4_work_2 : decode cX4_work 2 = .ok (.iconst 3, 1) := by decide +kernel
theorem dX4_work_3 : decode cX4_work 3 = .ok (.invokestatic 45, 3) := by decide +kernel
theorem dX4_work_6 : decode cX4_work 6 = .ok (.ifCond .ne 5, 3) := by decide +kernel
theorem dX4_work_9 : decode cX4_work 9 = .ok (.iconst (-1), 1) := by decide +kernel
theorem dX4_work_10 : decode cX4_work 10 = .ok (.ireturn, 1) := by decide +kernel
theorem dX4_work_11 : decode cX4_work 11 = .ok (.aload_n 0, 1) := by decide +kernel
theorem dX4_work_12 : decode cX4_work 12 = .ok (.getfield 19, 3) := by decide +kernel
theorem dX4_work_15 : decode cX4_work 15 = .ok (.aload_n 0, 1) := by decide +kernel
theorem dX4_work_16 : decode cX4_work 16 = .ok (.getfield 12, 3) := by decide +kernel
theorem dX4_work_19 : decode cX4_work 19 = .ok (.iload_n 1, 1) := by decide +kernel
theorem dX4_work_20 : decode cX4_work 20 = .ok (.invokevirtual 78, 3) := by decide +kernel
theorem dX4_work_23 : decode cX4_work 23 = .ok (.aload_n 0, 1) := by decide +kernel
theorem dX4_work_24 : decode cX4_work 24 = .ok (.getfield 19, 3) := by decide +kernel
theorem dX4_work_27 : decode cX4_work 27 = .ok (.getfield 82, 3) := by decide +kernel
theorem dX4_work_30 : decode cX4_work 30 = .ok (.ireturn, 1) := by decide +kernel
set_option maxRecDepth 20000 in
theorem ggX4_worked_X4_rowOf : GoodIn wsX4_worked wsX4_rowOf := goodIn_r _ [12] (by decide +kernel) (by decide +kernel)
set_option maxRecDepth 20000 in
theorem gX4_worked_X4_rowOf : GoodIn wsX4_worked (va_wsS RX4 95 yX4_rowOf wsX4_rowOf) := goodIn_app (goodIn_of _ (by decide +kernel)) ggX4_worked_X4_rowOf
set_option maxRecDepth 20000 in
theorem ggX4_worked_X4_columnOf : GoodIn wsX4_worked wsX4_columnOf := goodIn_r _ [15] (by decide +kernel) (by decide +kernel)
set_option maxRecDepth 20000 in
theorem gX4_worked_X4_columnOf : GoodIn wsX4_worked (va_wsS RX4 99 yX4_columnOf wsX4_columnOf) := goodIn_app (goodIn_of _ (by decide +kernel)) ggX4_worked_X4_columnOf
theorem dX4_worked_0 : decode cX4_worked 0 = .ok (.aload_n 0, 1) := by decide +kernel
theorem dX4_worked_1 : decode cX4_worked 1 = .ok (.getfield 19, 3) := by decide +kernel
theorem dX4_worked_4 : decode cX4_worked 4 = .ok (.getfield 85, 3) := by decide +kernel
theorem dX4_worked_7 : decode cX4_worked 7 = .ok (.ifCond .ne 5, 3) := by decide +kernel
theorem dX4_worked_10 : decode cX4_worked 10 = .ok (.iconst (-1), 1) := by decide +kernel
theorem dX4_worked_11 : decode cX4_worked 11 = .ok (.ireturn, 1) := by decide +kernel
theorem dX4_worked_12 : decode cX4_worked 12 = .ok (.iload_n 1, 1) := by decide +kernel
theorem dX4_worked_13 : decode cX4_worked 13 = .ok (.tableswitch 105 0 6 #[43, 51, 62, 73, 81, 89, 97], 43) := by decide +kernel
theorem dX4_worked_56 : decode cX4_worked 56 = .ok (.aload_n 0, 1) := by decide +kernel
theorem dX4_worked_57 : decode cX4_worked 57 = .ok (.getfield 19, 3) := by decide +kernel
theorem dX4_worked_60 : decode cX4_worked 60 = .ok (.getfield 89, 3) := by decide +kernel
theorem dX4_worked_63 : decode cX4_worked 63 = .ok (.ireturn, 1) := by decide +kernel
theorem dX4_worked_64 : decode cX4_worked 64 = .ok (.aload_n 0, 1) := by decide +kernel
theorem dX4_worked_65 : decode cX4_worked 65 = .ok (.getfield 19, 3) := by decide +kernel
theorem dX4_worked_68 : decode cX4_worked 68 = .ok (.getfield 92, 3) := by decide +kernel
theorem dX4_worked_71 : decode cX4_worked 71 = .ok (.invokestatic 95, 3) := by decide +kernel
theorem dX4_worked_74 : decode cX4_worked 74 = .ok (.ireturn, 1) := by decide +kernel
theorem dX4_worked_75 : decode cX4_worked 75 = .ok (.aload_n 0, 1) := by decide +kernel
theorem dX4_worked_76 : decode cX4_worked 76 = .ok (.getfield 19, 3) := by decide +kernel
theorem dX4_worked_79 : decode cX4_worked 79 = .ok (.getfield 92, 3) := by decide +kernel
theorem dX4_worked_82 : decode cX4_worked 82 = .ok (.invokestatic 99, 3) := by decide +kernel
theorem dX4_worked_85 : decode cX4_worked 85 = .ok (.ireturn, 1) := by decide +kernel
theorem dX4_worked_86 : decode cX4_worked 86 = .ok (.aload_n 0, 1) := by decide +kernel
theorem dX4_worked_87 : decode cX4_worked 87 = .ok (.getfield 19, 3) := by decide +kernel
theorem dX4_worked_90 : decode cX4_worked 90 = .ok (.getfield 102, 3) := by decide +kernel
theorem dX4_worked_93 : decode cX4_worked 93 = .ok (.ireturn, 1) := by decide +kernel
theorem dX4_worked_94 : decode cX4_worked 94 = .ok (.aload_n 0, 1) := by decide +kernel
theorem dX4_worked_95 : decode cX4_worked 95 = .ok (.getfield 19, 3) := by decide +kernel
theorem dX4_worked_98 : decode cX4_worked 98 = .ok (.getfield 105, 3) := by decide +kernel
theorem dX4_worked_101 : decode cX4_worked 101 = .ok (.ireturn, 1) := by decide +kernel
theorem dX4_worked_102 : decode cX4_worked 102 = .ok (.aload_n 0, 1) := by decide +kernel
theorem dX4_worked_103 : decode cX4_worked 103 = .ok (.getfield 19, 3) := by decide +kernel
theorem dX4_worked_106 : decode cX4_worked 106 = .ok (.getfield 108, 3) := by decide +kernel
theorem dX4_worked_109 : decode cX4_worked 109 = .ok (.ireturn, 1) := by decide +kernel
theorem dX4_worked_110 : decode cX4_worked 110 = .ok (.aload_n 0, 1) := by decide +kernel
theorem dX4_worked_111 : decode cX4_worked 111 = .ok (.getfield 19, 3) := by decide +kernel
theorem dX4_worked_114 : decode cX4_worked 114 = .ok (.getfield 111, 3) := by decide +kernel
theorem dX4_worked_117 : decode cX4_worked 117 = .ok (.ireturn, 1) := by decide +kernel
theorem dX4_worked_118 : decode cX4_worked 118 = .ok (.iconst (-1), 1) := by decide +kernel
theorem dX4_worked_119 : decode cX4_worked 119 = .ok (.ireturn, 1) := by decide +kernel
set_option maxRecDepth 20000 in
theorem ggX4_picked_X3_has : GoodIn wsX4_picked wsX3_has := goodIn_r _ [10, 11, 29, 30, 31, 32, 33, 34, 35, 36, 37, 38, 39, 40, 41, 42, 43, 44, 45, 46, 47] (by decide +kernel) (by decide +kernel)
set_option maxRecDepth 20000 in
theorem gX4_picked_X3_has : GoodIn wsX4_picked (wsV RX4 114 RX3 yX3_has wsX3_has) := goodIn_app (goodIn_of _ (by decide +kernel)) ggX4_picked_X3_has
set_option maxRecDepth 20000 in
theorem ggX4_picked_X4_rowOf : GoodIn wsX4_picked wsX4_rowOf := goodIn_r _ [15] (by decide +kernel) (by decide +kernel)
set_option maxRecDepth 20000 in
theorem gX4_picked_X4_rowOf : GoodIn wsX4_picked (va_wsS RX4 95 yX4_rowOf wsX4_rowOf) := goodIn_app (goodIn_of _ (by decide +kernel)) ggX4_picked_X4_rowOf
set_option maxRecDepth 20000 in
theorem ggX4_picked_X4_columnOf : GoodIn wsX4_picked wsX4_columnOf := goodIn_r _ [18] (by decide +kernel) (by decide +kernel)
set_option maxRecDepth 20000 in
theorem gX4_picked_X4_columnOf : GoodIn wsX4_picked (va_wsS RX4 99 yX4_columnOf wsX4_columnOf) := goodIn_app (goodIn_of _ (by decide +kernel)) ggX4_picked_X4_columnOf
set_option maxRecDepth 20000 in
theorem ggX4_picked_X3_caughtCount : GoodIn wsX4_picked wsX3_caughtCount := goodIn_r _ [22, 23, 24, 29, 30, 31, 32, 33, 34, 35, 36, 37, 38, 39, 40, 41, 42, 43, 44, 45, 46, 47] (by decide +kernel) (by decide +kernel)
set_option maxRecDepth 20000 in
theorem gX4_picked_X3_caughtCount : GoodIn wsX4_picked (wsV RX4 126 RX3 yX3_caughtCount wsX3_caughtCount) := goodIn_app (goodIn_of _ (by decide +kernel)) ggX4_picked_X3_caughtCount
theorem dX4_picked_0 : decode cX4_picked 0 = .ok (.aload_n 0, 1) := by decide +kernel
theorem dX4_picked_1 : decode cX4_picked 1 = .ok (.getfield 19, 3) := by decide +kernel
theorem dX4_picked_4 : decode cX4_picked 4 = .ok (.iload_n 1, 1) := by decide +kernel
theorem dX4_picked_5 : decode cX4_picked 5 = .ok (.invokevirtual 114, 3) := by decide +kernel
theorem dX4_picked_8 : decode cX4_picked 8 = .ok (.ifCond .ne 5, 3) := by decide +kernel
theorem dX4_picked_11 : decode cX4_picked 11 = .ok (.iconst (-1), 1) := by decide +kernel
theorem dX4_picked_12 : decode cX4_picked 12 = .ok (.ireturn, 1) := by decide +kernel
theorem dX4_picked_13 : decode cX4_picked 13 = .ok (.iload_n 2, 1) := by decide +kernel
theorem dX4_picked_14 : decode cX4_picked 14 = .ok (.tableswitch 103 0 5 #[38, 51, 64, 74, 84, 93], 38) := by decide +kernel
theorem dX4_picked_52 : decode cX4_picked 52 = .ok (.aload_n 0, 1) := by decide +kernel
theorem dX4_picked_53 : decode cX4_picked 53 = .ok (.getfield 19, 3) := by decide +kernel
theorem dX4_picked_56 : decode cX4_picked 56 = .ok (.getfield 117, 3) := by decide +kernel
theorem dX4_picked_59 : decode cX4_picked 59 = .ok (.iload_n 1, 1) := by decide +kernel
theorem dX4_picked_60 : decode cX4_picked 60 = .ok (.iaload, 1) := by decide +kernel
theorem dX4_picked_61 : decode cX4_picked 61 = .ok (.invokestatic 95, 3) := by decide +kernel
theorem dX4_picked_64 : decode cX4_picked 64 = .ok (.ireturn, 1) := by decide +kernel
theorem dX4_picked_65 : decode cX4_picked 65 = .ok (.aload_n 0, 1) := by decide +kernel
theorem dX4_picked_66 : decode cX4_picked 66 = .ok (.getfield 19, 3) := by decide +kernel
theorem dX4_picked_69 : decode cX4_picked 69 = .ok (.getfield 117, 3) := by decide +kernel
theorem dX4_picked_72 : decode cX4_picked 72 = .ok (.iload_n 1, 1) := by decide +kernel
theorem dX4_picked_73 : decode cX4_picked 73 = .ok (.iaload, 1) := by decide +kernel
theorem dX4_picked_74 : decode cX4_picked 74 = .ok (.invokestatic 99, 3) := by decide +kernel
theorem dX4_picked_77 : decode cX4_picked 77 = .ok (.ireturn, 1) := by decide +kernel
theorem dX4_picked_78 : decode cX4_picked 78 = .ok (.aload_n 0, 1) := by decide +kernel
theorem dX4_picked_79 : decode cX4_picked 79 = .ok (.getfield 19, 3) := by decide +kernel
theorem dX4_picked_82 : decode cX4_picked 82 = .ok (.getfield 120, 3) := by decide +kernel
theorem dX4_picked_85 : decode cX4_picked 85 = .ok (.iload_n 1, 1) := by decide +kernel
theorem dX4_picked_86 : decode cX4_picked 86 = .ok (.iaload, 1) := by decide +kernel
theorem dX4_picked_87 : decode cX4_picked 87 = .ok (.ireturn, 1) := by decide +kernel
theorem dX4_picked_88 : decode cX4_picked 88 = .ok (.aload_n 0, 1) := by decide +kernel
theorem dX4_picked_89 : decode cX4_picked 89 = .ok (.getfield 19, 3) := by decide +kernel
theorem dX4_picked_92 : decode cX4_picked 92 = .ok (.getfield 123, 3) := by decide +kernel
theorem dX4_picked_95 : decode cX4_picked 95 = .ok (.iload_n 1, 1) := by decide +kernel
theorem dX4_picked_96 : decode cX4_picked 96 = .ok (.iaload, 1) := by decide +kernel
theorem dX4_picked_97 : decode cX4_picked 97 = .ok (.ireturn, 1) := by decide +kernel
theorem dX4_picked_98 : decode cX4_picked 98 = .ok (.aload_n 0, 1) := by decide +kernel
theorem dX4_picked_99 : decode cX4_picked 99 = .ok (.getfield 19, 3) := by decide +kernel
theorem dX4_picked_102 : decode cX4_picked 102 = .ok (.iload_n 1, 1) := by decide +kernel
theorem dX4_picked_103 : decode cX4_picked 103 = .ok (.invokevirtual 126, 3) := by decide +kernel
theorem dX4_picked_106 : decode cX4_picked 106 = .ok (.ireturn, 1) := by decide +kernel
theorem dX4_picked_107 : decode cX4_picked 107 = .ok (.aload_n 0, 1) := by decide +kernel
theorem dX4_picked_108 : decode cX4_picked 108 = .ok (.getfield 19, 3) := by decide +kernel
theorem dX4_picked_111 : decode cX4_picked 111 = .ok (.getfield 129, 3) := by decide +kernel
theorem dX4_picked_114 : decode cX4_picked 114 = .ok (.iload_n 1, 1) := by decide +kernel
theorem dX4_picked_115 : decode cX4_picked 115 = .ok (.iaload, 1) := by decide +kernel
theorem dX4_picked_116 : decode cX4_picked 116 = .ok (.ireturn, 1) := by decide +kernel
theorem dX4_picked_117 : decode cX4_picked 117 = .ok (.iconst (-1), 1) := by decide +kernel
theorem dX4_picked_118 : decode cX4_picked 118 = .ok (.ireturn, 1) := by decide +kernel
set_option maxRecDepth 20000 in
theorem ggX4_order_X3_pickAt : GoodIn wsX4_order wsX3_pickAt := goodIn_r _ [6, 7, 8, 9, 10, 11, 12, 13, 18, 19, 20, 21, 22, 23, 24, 25, 26, 27, 28, 29, 30, 31, 32, 33, 34, 35, 36] (by decide +kernel) (by decide +kernel)
set_option maxRecDepth 20000 in
theorem gX4_order_X3_pickAt : GoodIn wsX4_order (wsV RX4 132 RX3 yX3_pickAt wsX3_pickAt) := goodIn_app (goodIn_of _ (by decide +kernel)) ggX4_order_X3_pickAt
theorem dX4_order_0 : decode cX4_order 0 = .ok (.aload_n 0, 1) := by decide +kernel
theorem dX4_order_1 : decode cX4_order 1 = .ok (.getfield 19, 3) := by decide +kernel
theorem dX4_order_4 : decode cX4_order 4 = .ok (.iload_n 1, 1) := by decide +kernel
theorem dX4_order_5 : decode cX4_order 5 = .ok (.iload_n 2, 1) := by decide +kernel
theorem dX4_order_6 : decode cX4_order 6 = .ok (.invokevirtual 132, 3) := by decide +kernel
theorem dX4_order_9 : decode cX4_order 9 = .ok (.ireturn, 1) := by decide +kernel
set_option maxRecDepth 20000 in
theorem ggX4_hang_X3_has : GoodIn wsX4_hang wsX3_has := goodIn_r _ [7, 8, 38, 39, 40, 41, 42, 43, 44, 45, 46, 47, 48, 49, 50, 51, 52, 53, 54, 55, 56] (by decide +kernel) (by decide +kernel)
set_option maxRecDepth 20000 in
theorem gX4_hang_X3_has : GoodIn wsX4_hang (wsV RX4 114 RX3 yX3_has wsX3_has) := goodIn_app (goodIn_of _ (by decide +kernel)) ggX4_hang_X3_has
set_option maxRecDepth 20000 in
theorem ggX4_hang_X1_markHanging : GoodIn wsX4_hang wsX1_markHanging := goodIn_r _ [13, 14, 15, 16, 17, 18, 12, 19, 20, 21, 22, 23, 24, 25, 26, 27, 28, 29, 30, 31, 32, 33, 38, 39, 40, 41, 42, 43, 44, 45, 46, 47, 48, 49, 50, 51, 52, 53, 54, 55, 56, 57] (by decide +kernel) (by decide +kernel)
set_option maxRecDepth 20000 in
theorem gX4_hang_X1_markHanging : GoodIn wsX4_hang (wsV RX4 135 RX1 yX1_markHanging wsX1_markHanging) := goodIn_app (goodIn_of _ (by decide +kernel)) ggX4_hang_X1_markHanging
theorem dX4_hang_0 : decode cX4_hang 0 = .ok (.aload_n 0, 1) := by decide +kernel
theorem dX4_hang_1 : decode cX4_hang 1 = .ok (.getfield 19, 3) := by decide +kernel
theorem dX4_hang_4 : decode cX4_hang 4 = .ok (.iload_n 1, 1) := by decide +kernel
theorem dX4_hang_5 : decode cX4_hang 5 = .ok (.invokevirtual 114, 3) := by decide +kernel
theorem dX4_hang_8 : decode cX4_hang 8 = .ok (.ifCond .eq 18, 3) := by decide +kernel
theorem dX4_hang_11 : decode cX4_hang 11 = .ok (.aload_n 0, 1) := by decide +kernel
theorem dX4_hang_12 : decode cX4_hang 12 = .ok (.getfield 29, 3) := by decide +kernel
theorem dX4_hang_15 : decode cX4_hang 15 = .ok (.aload_n 0, 1) := by decide +kernel
theorem dX4_hang_16 : decode cX4_hang 16 = .ok (.getfield 19, 3) := by decide +kernel
theorem dX4_hang_19 : decode cX4_hang 19 = .ok (.iload_n 1, 1) := by decide +kernel
theorem dX4_hang_20 : decode cX4_hang 20 = .ok (.invokevirtual 135, 3) := by decide +kernel
theorem dX4_hang_23 : decode cX4_hang 23 = .ok (.goto 4, 3) := by decide +kernel
theorem dX4_hang_26 : decode cX4_hang 26 = .ok (.iconst (-1), 1) := by decide +kernel
theorem dX4_hang_27 : decode cX4_hang 27 = .ok (.ireturn, 1) := by decide +kernel
set_option maxRecDepth 20000 in
theorem ggX4_pull_X3_has : GoodIn wsX4_pull wsX3_has := goodIn_r _ [7, 8, 55, 56, 57, 58, 59, 60, 61, 62, 63, 64, 65, 66, 67, 68, 69, 70, 71, 72, 73] (by decide +kernel) (by decide +kernel)
set_option maxRecDepth 20000 in
theorem gX4_pull_X3_has : GoodIn wsX4_pull (wsV RX4 114 RX3 yX3_has wsX3_has) := goodIn_app (goodIn_of _ (by decide +kernel)) ggX4_pull_X3_has
set_option maxRecDepth 20000 in
theorem ggX4_pull_X1_markPulledOut : GoodIn wsX4_pull wsX1_markPulledOut := goodIn_r _ [13, 14, 15, 16, 17, 18, 12, 19, 20, 21, 22, 23, 24, 25, 26, 27, 28, 29, 30, 31, 32, 33, 34, 35, 36, 37, 38, 39, 40, 41, 42, 43, 44, 45, 46, 6, 47, 48, 49, 50, 55, 56, 57, 58, 59, 60, 61, 62, 63, 64, 65, 66, 67, 68, 69, 70, 71, 72, 73, 74] (by decide +kernel) (by decide +kernel)
set_option maxRecDepth 20000 in
theorem gX4_pull_X1_markPulledOut : GoodIn wsX4_pull (wsV RX4 139 RX1 yX1_markPulledOut wsX1_markPulledOut) := goodIn_app (goodIn_of _ (by decide +kernel)) ggX4_pull_X1_markPulledOut
theorem dX4_pull_0 : decode cX4_pull 0 = .ok (.aload_n 0, 1) := by decide +kernel
theorem dX4_pull_1 : decode cX4_pull 1 = .ok (.getfield 19, 3) := by decide +kernel
theorem dX4_pull_4 : decode cX4_pull 4 = .ok (.iload_n 1, 1) := by decide +kernel
theorem dX4_pull_5 : decode cX4_pull 5 = .ok (.invokevirtual 114, 3) := by decide +kernel
theorem dX4_pull_8 : decode cX4_pull 8 = .ok (.ifCond .eq 18, 3) := by decide +kernel
theorem dX4_pull_11 : decode cX4_pull 11 = .ok (.aload_n 0, 1) := by decide +kernel
theorem dX4_pull_12 : decode cX4_pull 12 = .ok (.getfield 29, 3) := by decide +kernel
theorem dX4_pull_15 : decode cX4_pull 15 = .ok (.aload_n 0, 1) := by decide +kernel
theorem dX4_pull_16 : decode cX4_pull 16 = .ok (.getfield 19, 3) := by decide +kernel
theorem dX4_pull_19 : decode cX4_pull 19 = .ok (.iload_n 1, 1) := by decide +kernel
theorem dX4_pull_20 : decode cX4_pull 20 = .ok (.invokevirtual 139, 3) := by decide +kernel
theorem dX4_pull_23 : decode cX4_pull 23 = .ok (.goto 4, 3) := by decide +kernel
theorem dX4_pull_26 : decode cX4_pull 26 = .ok (.iconst (-1), 1) := by decide +kernel
theorem dX4_pull_27 : decode cX4_pull 27 = .ok (.ireturn, 1) := by decide +kernel
set_option maxRecDepth 20000 in
theorem ggX4_pulled_X3_has : GoodIn wsX4_pulled wsX3_has := goodIn_r _ [8, 9, 57, 58, 59, 60, 61, 62, 63, 64, 65, 66, 67, 68, 69, 70, 71, 72, 73, 74, 75] (by decide +kernel) (by decide +kernel)
set_option maxRecDepth 20000 in
theorem gX4_pulled_X3_has : GoodIn wsX4_pulled (wsV RX4 114 RX3 yX3_has wsX3_has) := goodIn_app (goodIn_of _ (by decide +kernel)) ggX4_pulled_X3_has
set_option maxRecDepth 20000 in
theorem ggX4_pulled_X1_markPulledOut : GoodIn wsX4_pulled wsX1_markPulledOut := goodIn_r _ [14, 15, 16, 17, 18, 19, 13, 20, 21, 22, 23, 24, 25, 26, 27, 28, 29, 30, 31, 32, 33, 34, 35, 36, 37, 38, 39, 40, 41, 42, 43, 44, 45, 46, 47, 7, 48, 49, 50, 51, 57, 58, 59, 60, 61, 62, 63, 64, 65, 66, 67, 68, 69, 70, 71, 72, 73, 74, 75, 56] (by decide +kernel) (by decide +kernel)
set_option maxRecDepth 20000 in
theorem gX4_pulled_X1_markPulledOut : GoodIn wsX4_pulled (wsV RX4 139 RX1 yX1_markPulledOut wsX1_markPulledOut) := goodIn_app (goodIn_of _ (by decide +kernel)) ggX4_pulled_X1_markPulledOut
theorem dX4_pulled_0 : decode cX4_pulled 0 = .ok (.aload_n 0, 1) := by decide +kernel
theorem dX4_pulled_1 : decode cX4_pulled 1 = .ok (.getfield 19, 3) := by decide +kernel
theorem dX4_pulled_4 : decode cX4_pulled 4 = .ok (.iload_n 1, 1) := by decide +kernel
theorem dX4_pulled_5 : decode cX4_pulled 5 = .ok (.invokevirtual 114, 3) := by decide +kernel
theorem dX4_pulled_8 : decode cX4_pulled 8 = .ok (.ifCond .eq 14, 3) := by decide +kernel
theorem dX4_pulled_11 : decode cX4_pulled 11 = .ok (.aload_n 0, 1) := by decide +kernel
theorem dX4_pulled_12 : decode cX4_pulled 12 = .ok (.getfield 19, 3) := by decide +kernel
theorem dX4_pulled_15 : decode cX4_pulled 15 = .ok (.iload_n 2, 1) := by decide +kernel
theorem dX4_pulled_16 : decode cX4_pulled 16 = .ok (.invokevirtual 114, 3) := by decide +kernel
theorem dX4_pulled_19 : decode cX4_pulled 19 = .ok (.ifCond .ne 5, 3) := by decide +kernel
theorem dX4_pulled_22 : decode cX4_pulled 22 = .ok (.iconst (-1), 1) := by decide +kernel
theorem dX4_pulled_23 : decode cX4_pulled 23 = .ok (.ireturn, 1) := by decide +kernel
theorem dX4_pulled_24 : decode cX4_pulled 24 = .ok (.aload_n 0, 1) := by decide +kernel
theorem dX4_pulled_25 : decode cX4_pulled 25 = .ok (.getfield 29, 3) := by decide +kernel
theorem dX4_pulled_28 : decode cX4_pulled 28 = .ok (.aload_n 0, 1) := by decide +kernel
theorem dX4_pulled_29 : decode cX4_pulled 29 = .ok (.getfield 19, 3) := by decide +kernel
theorem dX4_pulled_32 : decode cX4_pulled 32 = .ok (.iload_n 1, 1) := by decide +kernel
theorem dX4_pulled_33 : decode cX4_pulled 33 = .ok (.invokevirtual 139, 3) := by decide +kernel
theorem dX4_pulled_36 : decode cX4_pulled 36 = .ok (.pop, 1) := by decide +kernel
theorem dX4_pulled_37 : decode cX4_pulled 37 = .ok (.aload_n 0, 1) := by decide +kernel
theorem dX4_pulled_38 : decode cX4_pulled 38 = .ok (.getfield 29, 3) := by decide +kernel
theorem dX4_pulled_41 : decode cX4_pulled 41 = .ok (.getfield 142, 3) := by decide +kernel
theorem dX4_pulled_44 : decode cX4_pulled 44 = .ok (.iload_n 2, 1) := by decide +kernel
theorem dX4_pulled_45 : decode cX4_pulled 45 = .ok (.iaload, 1) := by decide +kernel
theorem dX4_pulled_46 : decode cX4_pulled 46 = .ok (.ireturn, 1) := by decide +kernel
set_option maxRecDepth 20000 in
theorem ggX4_woven_X3_wovenIn : GoodIn wsX4_woven wsX3_wovenIn := goodIn_r _ [6, 7, 8, 9, 14, 15, 16, 17, 18, 19, 20, 21, 22, 23, 24, 25, 26, 27, 28, 29, 30, 31, 32] (by decide +kernel) (by decide +kernel)
set_option maxRecDepth 20000 in
theorem gX4_woven_X3_wovenIn : GoodIn wsX4_woven (wsV RX4 145 RX3 yX3_wovenIn wsX3_wovenIn) := goodIn_app (goodIn_of _ (by decide +kernel)) ggX4_woven_X3_wovenIn
theorem dX4_woven_0 : decode cX4_woven 0 = .ok (.aload_n 0, 1) := by decide +kernel
theorem dX4_woven_1 : decode cX4_woven 1 = .ok (.getfield 19, 3) := by decide +kernel
theorem dX4_woven_4 : decode cX4_woven 4 = .ok (.iload_n 1, 1) := by decide +kernel
theorem dX4_woven_5 : decode cX4_woven 5 = .ok (.iload_n 2, 1) := by decide +kernel
theorem dX4_woven_6 : decode cX4_woven 6 = .ok (.invokevirtual 145, 3) := by decide +kernel
theorem dX4_woven_9 : decode cX4_woven 9 = .ok (.ireturn, 1) := by decide +kernel
set_option maxRecDepth 20000 in
theorem ggX4_best_X3_follow : GoodIn wsX4_best wsX3_follow := goodIn_r _ [9, 10, 11, 12, 13, 14, 15, 8, 16, 17, 18, 19, 20, 21, 22, 23, 24, 25, 26, 27, 28, 29, 30, 31, 32, 33, 34, 35, 36, 37, 38, 39, 40, 41, 42, 43, 44, 45, 46, 47, 48, 49, 50, 51, 52, 53, 54, 55, 56, 57, 58, 59, 60, 61, 62, 63, 64, 65, 66, 67, 68, 69, 70, 71, 72, 73, 74, 75, 76, 77, 78, 79, 80, 81, 82, 83, 84, 85, 86, 87, 88, 89, 90, 91, 92, 93, 94, 95, 96, 97, 98, 99, 100, 101, 102, 103, 104, 105, 106, 107, 108, 109, 110, 111, 112, 113, 114, 115, 116, 117, 118, 119, 120, 121, 122, 123, 124, 125, 126, 127, 128, 129, 130, 131, 132, 133, 134, 135, 136, 137, 138, 139, 140, 141, 142, 143, 144, 145, 146, 147, 148, 149, 150, 151, 152, 153, 154, 155, 156, 157, 158, 159, 160, 161, 162, 163, 164, 177, 178, 179, 180, 181, 182, 183, 184, 185, 186, 187, 188, 189, 190, 191, 192, 193, 194, 195, 196, 197, 198, 199, 200, 201, 202, 203, 204, 205] (by decide +kernel) (by decide +kernel)
set_option maxRecDepth 20000 in
theorem gX4_best_X3_follow : GoodIn wsX4_best (wsV RX4 78 RX3 yX3_follow wsX3_follow) := goodIn_app (goodIn_of _ (by decide +kernel)) ggX4_best_X3_follow
set_option maxRecDepth 20000 in
theorem ggX4_best_X3_isCheaperThan : GoodIn wsX4_best wsX3_isCheaperThan := goodIn_r _ [168, 20, 21, 177, 178, 179, 180, 181, 182, 183, 184, 185, 186, 187, 188, 189, 190, 191, 192, 193, 194, 195] (by decide +kernel) (by decide +kernel)
set_option maxRecDepth 20000 in
theorem gX4_best_X3_isCheaperThan : GoodIn wsX4_best (wsV RX4 148 RX3 yX3_isCheaperThan wsX3_isCheaperThan) := goodIn_app (goodIn_of _ (by decide +kernel)) ggX4_best_X3_isCheaperThan
set_option maxRecDepth 20000 in
theorem ggX4_best_X4_tellTrial : GoodIn wsX4_best wsX4_tellTrial := goodIn_r _ [172, 4, 1, 173, 174, 175, 176] (by decide +kernel) (by decide +kernel)
set_option maxRecDepth 20000 in
theorem gX4_best_X4_tellTrial : GoodIn wsX4_best (wsV RX4 152 RX4 yX4_tellTrial wsX4_tellTrial) := goodIn_app (goodIn_of _ (by decide +kernel)) ggX4_best_X4_tellTrial
theorem dX4_best_0 : decode cX4_best 0 = .ok (.iconst (-1), 1) := by decide +kernel
theorem dX4_best_1 : decode cX4_best 1 = .ok (.istore_n 1, 1) := by decide +kernel
theorem dX4_best_2 : decode cX4_best 2 = .ok (.iconst 0, 1) := by decide +kernel
theorem dX4_best_3 : decode cX4_best 3 = .ok (.istore_n 2, 1) := by decide +kernel
theorem dX4_best_4 : decode cX4_best 4 = .ok (.iload_n 2, 1) := by decide +kernel
theorem dX4_best_5 : decode cX4_best 5 = .ok (.iconst 4, 1) := by decide +kernel
theorem dX4_best_6 : decode cX4_best 6 = .ok (.if_icmp .ge 56, 3) := by decide +kernel
theorem dX4_best_9 : decode cX4_best 9 = .ok (.aload_n 0, 1) := by decide +kernel
theorem dX4_best_10 : decode cX4_best 10 = .ok (.getfield 23, 3) := by decide +kernel
theorem dX4_best_13 : decode cX4_best 13 = .ok (.aload_n 0, 1) := by decide +kernel
theorem dX4_best_14 : decode cX4_best 14 = .ok (.getfield 12, 3) := by decide +kernel
theorem dX4_best_17 : decode cX4_best 17 = .ok (.iload_n 2, 1) := by decide +kernel
theorem dX4_best_18 : decode cX4_best 18 = .ok (.invokevirtual 78, 3) := by decide +kernel
theorem dX4_best_21 : decode cX4_best 21 = .ok (.aload_n 0, 1) := by decide +kernel
theorem dX4_best_22 : decode cX4_best 22 = .ok (.getfield 23, 3) := by decide +kernel
theorem dX4_best_25 : decode cX4_best 25 = .ok (.getfield 89, 3) := by decide +kernel
theorem dX4_best_28 : decode cX4_best 28 = .ok (.ifCond .ne 28, 3) := by decide +kernel
theorem dX4_best_31 : decode cX4_best 31 = .ok (.iload_n 1, 1) := by decide +kernel
theorem dX4_best_32 : decode cX4_best 32 = .ok (.iconst (-1), 1) := by decide +kernel
theorem dX4_best_33 : decode cX4_best 33 = .ok (.if_icmp .eq 17, 3) := by decide +kernel
theorem dX4_best_36 : decode cX4_best 36 = .ok (.aload_n 0, 1) := by decide +kernel
theorem dX4_best_37 : decode cX4_best 37 = .ok (.getfield 23, 3) := by decide +kernel
theorem dX4_best_40 : decode cX4_best 40 = .ok (.aload_n 0, 1) := by decide +kernel
theorem dX4_best_41 : decode cX4_best 41 = .ok (.getfield 19, 3) := by decide +kernel
theorem dX4_best_44 : decode cX4_best 44 = .ok (.invokevirtual 148, 3) := by decide +kernel
theorem dX4_best_47 : decode cX4_best 47 = .ok (.ifCond .eq 9, 3) := by decide +kernel
theorem dX4_best_50 : decode cX4_best 50 = .ok (.iload_n 2, 1) := by decide +kernel
theorem dX4_best_51 : decode cX4_best 51 = .ok (.istore_n 1, 1) := by decide +kernel
theorem dX4_best_52 : decode cX4_best 52 = .ok (.aload_n 0, 1) := by decide +kernel
theorem dX4_best_53 : decode cX4_best 53 = .ok (.invokevirtual 152, 3) := by decide +kernel
theorem dX4_best_56 : decode cX4_best 56 = .ok (.iinc 2 1, 3) := by decide +kernel
theorem dX4_best_59 : decode cX4_best 59 = .ok (.goto (-55), 3) := by decide +kernel
theorem dX4_best_62 : decode cX4_best 62 = .ok (.iload_n 1, 1) := by decide +kernel
theorem dX4_best_63 : decode cX4_best 63 = .ok (.ireturn, 1) := by decide +kernel
theorem dX4_tellTrial_0 : decode cX4_tellTrial 0 = .ok (.aload_n 0, 1) := by decide +kernel
theorem dX4_tellTrial_1 : decode cX4_tellTrial 1 = .ok (.getfield 19, 3) := by decide +kernel
theorem dX4_tellTrial_4 : decode cX4_tellTrial 4 = .ok (.astore_n 1, 1) := by decide +kernel
theorem dX4_tellTrial_5 : decode cX4_tellTrial 5 = .ok (.aload_n 0, 1) := by decide +kernel
theorem dX4_tellTrial_6 : decode cX4_tellTrial 6 = .ok (.aload_n 0, 1) := by decide +kernel
theorem dX4_tellTrial_7 : decode cX4_tellTrial 7 = .ok (.getfield 23, 3) := by decide +kernel
theorem dX4_tellTrial_10 : decode cX4_tellTrial 10 = .ok (.putfield 19, 3) := by decide +kernel
theorem dX4_tellTrial_13 : decode cX4_tellTrial 13 = .ok (.aload_n 0, 1) := by decide +kernel
theorem dX4_tellTrial_14 : decode cX4_tellTrial 14 = .ok (.aload_n 1, 1) := by decide +kernel
theorem dX4_tellTrial_15 : decode cX4_tellTrial 15 = .ok (.putfield 23, 3) := by decide +kernel
theorem dX4_tellTrial_18 : decode cX4_tellTrial 18 = .ok (.return_, 1) := by decide +kernel
set_option maxRecDepth 20000 in
theorem ggX4_bought_X4_isColour : GoodIn wsX4_bought wsX4_isColour := goodIn_r _ [6, 7, 8, 5, 9] (by decide +kernel) (by decide +kernel)
set_option maxRecDepth 20000 in
theorem gX4_bought_X4_isColour : GoodIn wsX4_bought (va_wsS RX4 55 yX4_isColour wsX4_isColour) := goodIn_app (goodIn_of _ (by decide +kernel)) ggX4_bought_X4_isColour
set_option maxRecDepth 20000 in
theorem ggX4_bought_X4_isWithin : GoodIn wsX4_bought wsX4_isWithin := goodIn_r _ [9] (by decide +kernel) (by decide +kernel)
set_option maxRecDepth 20000 in
theorem gX4_bought_X4_isWithin : GoodIn wsX4_bought (va_wsS RX4 45 yX4_isWithin wsX4_isWithin) := goodIn_app (goodIn_of _ (by decide +kernel)) ggX4_bought_X4_isWithin
set_option maxRecDepth 20000 in
theorem ggX4_bought_X0_beadsOfColour : GoodIn wsX4_bought wsX0_beadsOfColour := goodIn_r _ [14, 15, 16, 17, 13, 18, 19, 24, 25, 26, 27, 28, 29, 30, 31] (by decide +kernel) (by decide +kernel)
set_option maxRecDepth 20000 in
theorem gX4_bought_X0_beadsOfColour : GoodIn wsX4_bought (wsV RX4 155 RX0 yX0_beadsOfColour wsX0_beadsOfColour) := goodIn_app (goodIn_of _ (by decide +kernel)) ggX4_bought_X0_beadsOfColour
theorem dX4_bought_0 : decode cX4_bought 0 = .ok (.iload_n 1, 1) := by decide +kernel
theorem dX4_bought_1 : decode cX4_bought 1 = .ok (.invokestatic 55, 3) := by decide +kernel
theorem dX4_bought_4 : decode cX4_bought 4 = .ok (.ifCond .eq 14, 3) := by decide +kernel
theorem dX4_bought_7 : decode cX4_bought 7 = .ok (.iload_n 2, 1) := by decide +kernel
theorem dX4_bought_8 : decode cX4_bought 8 = .ok (.iconst 1, 1) := by decide +kernel
theorem dX4_bought_9 : decode cX4_bought 9 = .ok (.sipush 1000, 3) := by decide +kernel
theorem dX4_bought_12 : decode cX4_bought 12 = .ok (.invokestatic 45, 3) := by decide +kernel
theorem dX4_bought_15 : decode cX4_bought 15 = .ok (.ifCond .ne 5, 3) := by decide +kernel
theorem dX4_bought_18 : decode cX4_bought 18 = .ok (.iconst (-1), 1) := by decide +kernel
theorem dX4_bought_19 : decode cX4_bought 19 = .ok (.ireturn, 1) := by decide +kernel
theorem dX4_bought_20 : decode cX4_bought 20 = .ok (.aload_n 0, 1) := by decide +kernel
theorem dX4_bought_21 : decode cX4_bought 21 = .ok (.getfield 12, 3) := by decide +kernel
theorem dX4_bought_24 : decode cX4_bought 24 = .ok (.iload_n 1, 1) := by decide +kernel
theorem dX4_bought_25 : decode cX4_bought 25 = .ok (.invokevirtual 155, 3) := by decide +kernel
theorem dX4_bought_28 : decode cX4_bought 28 = .ok (.aload_n 0, 1) := by decide +kernel
theorem dX4_bought_29 : decode cX4_bought 29 = .ok (.getfield 12, 3) := by decide +kernel
theorem dX4_bought_32 : decode cX4_bought 32 = .ok (.getfield 65, 3) := by decide +kernel
theorem dX4_bought_35 : decode cX4_bought 35 = .ok (.iload_n 1, 1) := by decide +kernel
theorem dX4_bought_36 : decode cX4_bought 36 = .ok (.iaload, 1) := by decide +kernel
theorem dX4_bought_37 : decode cX4_bought 37 = .ok (.imul, 1) := by decide +kernel
theorem dX4_bought_38 : decode cX4_bought 38 = .ok (.istore_n 3, 1) := by decide +kernel
theorem dX4_bought_39 : decode cX4_bought 39 = .ok (.iload_n 2, 1) := by decide +kernel
theorem dX4_bought_40 : decode cX4_bought 40 = .ok (.sipush 1000, 3) := by decide +kernel
theorem dX4_bought_43 : decode cX4_bought 43 = .ok (.imul, 1) := by decide +kernel
theorem dX4_bought_44 : decode cX4_bought 44 = .ok (.istore 4, 2) := by decide +kernel
theorem dX4_bought_46 : decode cX4_bought 46 = .ok (.iload_n 3, 1) := by decide +kernel
theorem dX4_bought_47 : decode cX4_bought 47 = .ok (.iload 4, 2) := by decide +kernel
theorem dX4_bought_49 : decode cX4_bought 49 = .ok (.iadd, 1) := by decide +kernel
theorem dX4_bought_50 : decode cX4_bought 50 = .ok (.iconst 1, 1) := by decide +kernel
theorem dX4_bought_51 : decode cX4_bought 51 = .ok (.isub, 1) := by decide +kernel
theorem dX4_bought_52 : decode cX4_bought 52 = .ok (.iload 4, 2) := by decide +kernel
theorem dX4_bought_54 : decode cX4_bought 54 = .ok (.idiv, 1) := by decide +kernel
theorem dX4_bought_55 : decode cX4_bought 55 = .ok (.ireturn, 1) := by decide +kernel
set_option maxRecDepth 20000 in
theorem ggX4_count_X4_isColour : GoodIn wsX4_count wsX4_isColour := goodIn_r _ [12, 13, 14, 11, 15] (by decide +kernel) (by decide +kernel)
set_option maxRecDepth 20000 in
theorem gX4_count_X4_isColour : GoodIn wsX4_count (va_wsS RX4 55 yX4_isColour wsX4_isColour) := goodIn_app (goodIn_of _ (by decide +kernel)) ggX4_count_X4_isColour
set_option maxRecDepth 20000 in
theorem ggX4_count_X0_beadsOfColour : GoodIn wsX4_count wsX0_beadsOfColour := goodIn_r _ [20, 21, 22, 23, 19, 24, 25, 48, 49, 50, 51, 52, 53, 54, 55] (by decide +kernel) (by decide +kernel)
set_option maxRecDepth 20000 in
theorem gX4_count_X0_beadsOfColour : GoodIn wsX4_count (wsV RX4 155 RX0 yX0_beadsOfColour wsX0_beadsOfColour) := goodIn_app (goodIn_of _ (by decide +kernel)) ggX4_count_X0_beadsOfColour
set_option maxRecDepth 20000 in
theorem ggX4_count_X0_allBeads : GoodIn wsX4_count wsX0_allBeads := goodIn_r _ [29, 21, 22, 23, 19, 24, 25, 48, 49, 50, 51, 52, 53, 54, 55] (by decide +kernel) (by decide +kernel)
set_option maxRecDepth 20000 in
theorem gX4_count_X0_allBeads : GoodIn wsX4_count (wsV RX4 158 RX0 yX0_allBeads wsX0_allBeads) := goodIn_app (goodIn_of _ (by decide +kernel)) ggX4_count_X0_allBeads
set_option maxRecDepth 20000 in
theorem ggX4_count_X0_rowsWithBeads : GoodIn wsX4_count wsX0_rowsWithBeads := goodIn_r _ [33, 34, 35, 36, 19, 37, 38, 39, 40, 41, 25, 42, 11, 43, 13, 14, 15, 48, 49, 50, 51, 52, 53, 54, 55] (by decide +kernel) (by decide +kernel)
set_option maxRecDepth 20000 in
theorem gX4_count_X0_rowsWithBeads : GoodIn wsX4_count (wsV RX4 162 RX0 yX0_rowsWithBeads wsX0_rowsWithBeads) := goodIn_app (goodIn_of _ (by decide +kernel)) ggX4_count_X0_rowsWithBeads
theorem dX4_count_0 : decode cX4_count 0 = .ok (.iload_n 1, 1) := by decide +kernel
theorem dX4_count_1 : decode cX4_count 1 = .ok (.bipush 10, 2) := by decide +kernel
theorem dX4_count_3 : decode cX4_count 3 = .ok (.isub, 1) := by decide +kernel
theorem dX4_count_4 : decode cX4_count 4 = .ok (.invokestatic 55, 3) := by decide +kernel
theorem dX4_count_7 : decode cX4_count 7 = .ok (.ifCond .eq 15, 3) := by decide +kernel
theorem dX4_count_10 : decode cX4_count 10 = .ok (.aload_n 0, 1) := by decide +kernel
theorem dX4_count_11 : decode cX4_count 11 = .ok (.getfield 12, 3) := by decide +kernel
theorem dX4_count_14 : decode cX4_count 14 = .ok (.iload_n 1, 1) := by decide +kernel
theorem dX4_count_15 : decode cX4_count 15 = .ok (.bipush 10, 2) := by decide +kernel
theorem dX4_count_17 : decode cX4_count 17 = .ok (.isub, 1) := by decide +kernel
theorem dX4_count_18 : decode cX4_count 18 = .ok (.invokevirtual 155, 3) := by decide +kernel
theorem dX4_count_21 : decode cX4_count 21 = .ok (.ireturn, 1) := by decide +kernel
theorem dX4_count_22 : decode cX4_count 22 = .ok (.iload_n 1, 1) := by decide +kernel
theorem dX4_count_23 : decode cX4_count 23 = .ok (.bipush 20, 2) := by decide +kernel
theorem dX4_count_25 : decode cX4_count 25 = .ok (.isub, 1) := by decide +kernel
theorem dX4_count_26 : decode cX4_count 26 = .ok (.invokestatic 55, 3) := by decide +kernel
theorem dX4_count_29 : decode cX4_count 29 = .ok (.ifCond .eq 16, 3) := by decide +kernel
theorem dX4_count_32 : decode cX4_count 32 = .ok (.aload_n 0, 1) := by decide +kernel
theorem dX4_count_33 : decode cX4_count 33 = .ok (.getfield 12, 3) := by decide +kernel
theorem dX4_count_36 : decode cX4_count 36 = .ok (.getfield 58, 3) := by decide +kernel
theorem dX4_count_39 : decode cX4_count 39 = .ok (.iload_n 1, 1) := by decide +kernel
theorem dX4_count_40 : decode cX4_count 40 = .ok (.bipush 20, 2) := by decide +kernel
theorem dX4_count_42 : decode cX4_count 42 = .ok (.isub, 1) := by decide +kernel
theorem dX4_count_43 : decode cX4_count 43 = .ok (.iaload, 1) := by decide +kernel
theorem dX4_count_44 : decode cX4_count 44 = .ok (.ireturn, 1) := by decide +kernel
theorem dX4_count_45 : decode cX4_count 45 = .ok (.iload_n 1, 1) := by decide +kernel
theorem dX4_count_46 : decode cX4_count 46 = .ok (.tableswitch 98 0 6 #[42, 50, 58, 66, 74, 82, 90], 42) := by decide +kernel
theorem dX4_count_88 : decode cX4_count 88 = .ok (.aload_n 0, 1) := by decide +kernel
theorem dX4_count_89 : decode cX4_count 89 = .ok (.getfield 12, 3) := by decide +kernel
theorem dX4_count_92 : decode cX4_count 92 = .ok (.invokevirtual 158, 3) := by decide +kernel
theorem dX4_count_95 : decode cX4_count 95 = .ok (.ireturn, 1) := by decide +kernel
theorem dX4_count_96 : decode cX4_count 96 = .ok (.aload_n 0, 1) := by decide +kernel
theorem dX4_count_97 : decode cX4_count 97 = .ok (.getfield 12, 3) := by decide +kernel
theorem dX4_count_100 : decode cX4_count 100 = .ok (.invokevirtual 162, 3) := by decide +kernel
theorem dX4_count_103 : decode cX4_count 103 = .ok (.ireturn, 1) := by decide +kernel
theorem dX4_count_104 : decode cX4_count 104 = .ok (.aload_n 0, 1) := by decide +kernel
theorem dX4_count_105 : decode cX4_count 105 = .ok (.getfield 12, 3) := by decide +kernel
theorem dX4_count_108 : decode cX4_count 108 = .ok (.getfield 41, 3) := by decide +kernel
theorem dX4_count_111 : decode cX4_count 111 = .ok (.ireturn, 1) := by decide +kernel
theorem dX4_count_112 : decode cX4_count 112 = .ok (.aload_n 0, 1) := by decide +kernel
theorem dX4_count_113 : decode cX4_count 113 = .ok (.getfield 12, 3) := by decide +kernel
theorem dX4_count_116 : decode cX4_count 116 = .ok (.getfield 52, 3) := by decide +kernel
theorem dX4_count_119 : decode cX4_count 119 = .ok (.ireturn, 1) := by decide +kernel
theorem dX4_count_120 : decode cX4_count 120 = .ok (.aload_n 0, 1) := by decide +kernel
theorem dX4_count_121 : decode cX4_count 121 = .ok (.getfield 12, 3) := by decide +kernel
theorem dX4_count_124 : decode cX4_count 124 = .ok (.getfield 68, 3) := by decide +kernel
theorem dX4_count_127 : decode cX4_count 127 = .ok (.ireturn, 1) := by decide +kernel
theorem dX4_count_128 : decode cX4_count 128 = .ok (.aload_n 0, 1) := by decide +kernel
theorem dX4_count_129 : decode cX4_count 129 = .ok (.getfield 12, 3) := by decide +kernel
theorem dX4_count_132 : decode cX4_count 132 = .ok (.getfield 71, 3) := by decide +kernel
theorem dX4_count_135 : decode cX4_count 135 = .ok (.ireturn, 1) := by decide +kernel
theorem dX4_count_136 : decode cX4_count 136 = .ok (.aload_n 0, 1) := by decide +kernel
theorem dX4_count_137 : decode cX4_count 137 = .ok (.getfield 19, 3) := by decide +kernel
theorem dX4_count_140 : decode cX4_count 140 = .ok (.getfield 82, 3) := by decide +kernel
theorem dX4_count_143 : decode cX4_count 143 = .ok (.ireturn, 1) := by decide +kernel
theorem dX4_count_144 : decode cX4_count 144 = .ok (.iconst (-1), 1) := by decide +kernel
theorem dX4_count_145 : decode cX4_count 145 = .ok (.ireturn, 1) := by decide +kernel
theorem dX4_isWithin_0 : decode cX4_isWithin 0 = .ok (.iload_n 0, 1) := by decide +kernel
theorem dX4_isWithin_1 : decode cX4_isWithin 1 = .ok (.iload_n 1, 1) := by decide +kernel
theorem dX4_isWithin_2 : decode cX4_isWithin 2 = .ok (.if_icmp .lt 12, 3) := by decide +kernel
theorem dX4_isWithin_5 : decode cX4_isWithin 5 = .ok (.iload_n 0, 1) := by decide +kernel
theorem dX4_isWithin_6 : decode cX4_isWithin 6 = .ok (.iload_n 2, 1) := by decide +kernel
theorem dX4_isWithin_7 : decode cX4_isWithin 7 = .ok (.if_icmp .gt 7, 3) := by decide +kernel
theorem dX4_isWithin_10 : decode cX4_isWithin 10 = .ok (.iconst 1, 1) := by decide +kernel
theorem dX4_isWithin_11 : decode cX4_isWithin 11 = .ok (.goto 4, 3) := by decide +kernel
theorem dX4_isWithin_14 : decode cX4_isWithin 14 = .ok (.iconst 0, 1) := by decide +kernel
theorem dX4_isWithin_15 : decode cX4_isWithin 15 = .ok (.ireturn, 1) := by decide +kernel
set_option maxRecDepth 20000 in
theorem ggX4_isColour_X4_isWithin : GoodIn wsX4_isColour wsX4_isWithin := goodIn_r _ [4] (by decide +kernel) (by decide +kernel)
set_option maxRecDepth 20000 in
theorem gX4_isColour_X4_isWithin : GoodIn wsX4_isColour (va_wsS RX4 45 yX4_isWithin wsX4_isWithin) := goodIn_app (goodIn_of _ (by decide +kernel)) ggX4_isColour_X4_isWithin
theorem dX4_isColour_0 : decode cX4_isColour 0 = .ok (.iload_n 0, 1) := by decide +kernel
theorem dX4_isColour_1 : decode cX4_isColour 1 = .ok (.iconst 0, 1) := by decide +kernel
theorem dX4_isColour_2 : decode cX4_isColour 2 = .ok (.iconst 5, 1) := by decide +kernel
theorem dX4_isColour_3 : decode cX4_isColour 3 = .ok (.invokestatic 45, 3) := by decide +kernel
theorem dX4_isColour_6 : decode cX4_isColour 6 = .ok (.ireturn, 1) := by decide +kernel
set_option maxRecDepth 20000 in
theorem ggX4_isCell_X4_isWithin : GoodIn wsX4_isCell wsX4_isWithin := goodIn_r _ [4] (by decide +kernel) (by decide +kernel)
set_option maxRecDepth 20000 in
theorem gX4_isCell_X4_isWithin : GoodIn wsX4_isCell (va_wsS RX4 45 yX4_isWithin wsX4_isWithin) := goodIn_app (goodIn_of _ (by decide +kernel)) ggX4_isCell_X4_isWithin
theorem dX4_isCell_0 : decode cX4_isCell 0 = .ok (.iload_n 0, 1) := by decide +kernel
theorem dX4_isCell_1 : decode cX4_isCell 1 = .ok (.iconst 0, 1) := by decide +kernel
theorem dX4_isCell_2 : decode cX4_isCell 2 = .ok (.bipush 11, 2) := by decide +kernel
theorem dX4_isCell_4 : decode cX4_isCell 4 = .ok (.invokestatic 45, 3) := by decide +kernel
theorem dX4_isCell_7 : decode cX4_isCell 7 = .ok (.ifCond .eq 17, 3) := by decide +kernel
theorem dX4_isCell_10 : decode cX4_isCell 10 = .ok (.iload_n 1, 1) := by decide +kernel
theorem dX4_isCell_11 : decode cX4_isCell 11 = .ok (.iconst 0, 1) := by decide +kernel
theorem dX4_isCell_12 : decode cX4_isCell 12 = .ok (.bipush 11, 2) := by decide +kernel
theorem dX4_isCell_14 : decode cX4_isCell 14 = .ok (.invokestatic 45, 3) := by decide +kernel
theorem dX4_isCell_17 : decode cX4_isCell 17 = .ok (.ifCond .eq 7, 3) := by decide +kernel
theorem dX4_isCell_20 : decode cX4_isCell 20 = .ok (.iconst 1, 1) := by decide +kernel
theorem dX4_isCell_21 : decode cX4_isCell 21 = .ok (.goto 4, 3) := by decide +kernel
theorem dX4_isCell_24 : decode cX4_isCell 24 = .ok (.iconst 0, 1) := by decide +kernel
theorem dX4_isCell_25 : decode cX4_isCell 25 = .ok (.ireturn, 1) := by decide +kernel
theorem dX4_rowOf_0 : decode cX4_rowOf 0 = .ok (.iload_n 0, 1) := by decide +kernel
theorem dX4_rowOf_1 : decode cX4_rowOf 1 = .ok (.iconst (-1), 1) := by decide +kernel
theorem dX4_rowOf_2 : decode cX4_rowOf 2 = .ok (.if_icmp .ne 7, 3) := by decide +kernel
theorem dX4_rowOf_5 : decode cX4_rowOf 5 = .ok (.iconst (-1), 1) := by decide +kernel
theorem dX4_rowOf_6 : decode cX4_rowOf 6 = .ok (.goto 7, 3) := by decide +kernel
theorem dX4_rowOf_9 : decode cX4_rowOf 9 = .ok (.iload_n 0, 1) := by decide +kernel
theorem dX4_rowOf_10 : decode cX4_rowOf 10 = .ok (.bipush 12, 2) := by decide +kernel
theorem dX4_rowOf_12 : decode cX4_rowOf 12 = .ok (.idiv, 1) := by decide +kernel
theorem dX4_rowOf_13 : decode cX4_rowOf 13 = .ok (.ireturn, 1) := by decide +kernel
theorem dX4_columnOf_0 : decode cX4_columnOf 0 = .ok (.iload_n 0, 1) := by decide +kernel
theorem dX4_columnOf_1 : decode cX4_columnOf 1 = .ok (.iconst (-1), 1) := by decide +kernel
theorem dX4_columnOf_2 : decode cX4_columnOf 2 = .ok (.if_icmp .ne 7, 3) := by decide +kernel
theorem dX4_columnOf_5 : decode cX4_columnOf 5 = .ok (.iconst (-1), 1) := by decide +kernel
theorem dX4_columnOf_6 : decode cX4_columnOf 6 = .ok (.goto 7, 3) := by decide +kernel
theorem dX4_columnOf_9 : decode cX4_columnOf 9 = .ok (.iload_n 0, 1) := by decide +kernel
theorem dX4_columnOf_10 : decode cX4_columnOf 10 = .ok (.bipush 12, 2) := by decide +kernel
theorem dX4_columnOf_12 : decode cX4_columnOf 12 = .ok (.irem, 1) := by decide +kernel
theorem dX4_columnOf_13 : decode cX4_columnOf 13 = .ok (.ireturn, 1) := by decide +kernel
theorem dX5_init_0 : decode cX5_init 0 = .ok (.aload_n 0, 1) := by decide +kernel
theorem dX5_init_1 : decode cX5_init 1 = .ok (.invokespecial 1, 3) := by decide +kernel
theorem dX5_init_4 : decode cX5_init 4 = .ok (.aload_n 0, 1) := by decide +kernel
theorem dX5_init_5 : decode cX5_init 5 = .ok (.sipush 144, 3) := by decide +kernel
theorem dX5_init_8 : decode cX5_init 8 = .ok (.newarray .int, 2) := by decide +kernel
theorem dX5_init_10 : decode cX5_init 10 = .ok (.putfield 7, 3) := by decide +kernel
theorem dX5_init_13 : decode cX5_init 13 = .ok (.aload_n 0, 1) := by decide +kernel
theorem dX5_init_14 : decode cX5_init 14 = .ok (.bipush 6, 2) := by decide +kernel
theorem dX5_init_16 : decode cX5_init 16 = .ok (.newarray .int, 2) := by decide +kernel
theorem dX5_init_18 : decode cX5_init 18 = .ok (.dup, 1) := by decide +kernel
theorem dX5_init_19 : decode cX5_init 19 = .ok (.iconst 0, 1) := by decide +kernel
theorem dX5_init_20 : decode cX5_init 20 = .ok (.iconst 3, 1) := by decide +kernel
theorem dX5_init_21 : decode cX5_init 21 = .ok (.iastore, 1) := by decide +kernel
theorem dX5_init_22 : decode cX5_init 22 = .ok (.dup, 1) := by decide +kernel
theorem dX5_init_23 : decode cX5_init 23 = .ok (.iconst 1, 1) := by decide +kernel
theorem dX5_init_24 : decode cX5_init 24 = .ok (.iconst 3, 1) := by decide +kernel
theorem dX5_init_25 : decode cX5_init 25 = .ok (.iastore, 1) := by decide +kernel
theorem dX5_init_26 : decode cX5_init 26 = .ok (.dup, 1) := by decide +kernel
theorem dX5_init_27 : decode cX5_init 27 = .ok (.iconst 2, 1) := by decide +kernel
theorem dX5_init_28 : decode cX5_init 28 = .ok (.iconst 3, 1) := by decide +kernel
theorem dX5_init_29 : decode cX5_init 29 = .ok (.iastore, 1) := by decide +kernel
theorem dX5_init_30 : decode cX5_init 30 = .ok (.dup, 1) := by decide +kernel
theorem dX5_init_31 : decode cX5_init 31 = .ok (.iconst 3, 1) := by decide +kernel
theorem dX5_init_32 : decode cX5_init 32 = .ok (.iconst 3, 1) := by decide +kernel
theorem dX5_init_33 : decode cX5_init 33 = .ok (.iastore, 1) := by decide +kernel
theorem dX5_init_34 : decode cX5_init 34 = .ok (.dup, 1) := by decide +kernel
theorem dX5_init_35 : decode cX5_init 35 = .ok (.iconst 4, 1) := by decide +kernel
theorem dX5_init_36 : decode cX5_init 36 = .ok (.iconst 3, 1) := by decide +kernel
theorem dX5_init_37 : decode cX5_init 37 = .ok (.iastore, 1) := by decide +kernel
theorem dX5_init_38 : decode cX5_init 38 = .ok (.dup, 1) := by decide +kernel
theorem dX5_init_39 : decode cX5_init 39 = .ok (.iconst 5, 1) := by decide +kernel
theorem dX5_init_40 : decode cX5_init 40 = .ok (.iconst 3, 1) := by decide +kernel
theorem dX5_init_41 : decode cX5_init 41 = .ok (.iastore, 1) := by decide +kernel
theorem dX5_init_42 : decode cX5_init 42 = .ok (.putfield 13, 3) := by decide +kernel
theorem dX5_init_45 : decode cX5_init 45 = .ok (.aload_n 0, 1) := by decide +kernel
theorem dX5_init_46 : decode cX5_init 46 = .ok (.bipush 6, 2) := by decide +kernel
theorem dX5_init_48 : decode cX5_init 48 = .ok (.newarray .int, 2) := by decide +kernel
theorem dX5_init_50 : decode cX5_init 50 = .ok (.dup, 1) := by decide +kernel
theorem dX5_init_51 : decode cX5_init 51 = .ok (.iconst 0, 1) := by decide +kernel
theorem dX5_init_52 : decode cX5_init 52 = .ok (.iconst 1, 1) := by decide +kernel
theorem dX5_init_53 : decode cX5_init 53 = .ok (.iastore, 1) := by decide +kernel
theorem dX5_init_54 : decode cX5_init 54 = .ok (.dup, 1) := by decide +kernel
theorem dX5_init_55 : decode cX5_init 55 = .ok (.iconst 1, 1) := by decide +kernel
theorem dX5_init_56 : decode cX5_init 56 = .ok (.iconst 1, 1) := by decide +kernel
theorem dX5_init_57 : decode cX5_init 57 = .ok (.iastore, 1) := by decide +kernel
theorem dX5_init_58 : decode cX5_init 58 = .ok (.dup, 1) := by decide +kernel
theorem dX5_init_59 : decode cX5_init 59 = .ok (.iconst 2, 1) := by decide +kernel
theorem dX5_init_60 : decode cX5_init 60 = .ok (.iconst 1, 1) := by decide +kernel
theorem dX5_init_61 : decode cX5_init 61 = .ok (.iastore, 1) := by decide +kernel
theorem dX5_init_62 : decode cX5_init 62 = .ok (.dup, 1) := by decide +kernel
theorem dX5_init_63 : decode cX5_init 63 = .ok (.iconst 3, 1) := by decide +kernel
theorem dX5_init_64 : decode cX5_init 64 = .ok (.iconst 1, 1) := by decide +kernel
theorem dX5_init_65 : decode cX5_init 65 = .ok (.iastore, 1) := by decide +kernel
theorem dX5_init_66 : decode cX5_init 66 = .ok (.dup, 1) := by decide +kernel
theorem dX5_init_67 : decode cX5_init 67 = .ok (.iconst 4, 1) := by decide +kernel
theorem dX5_init_68 : decode cX5_init 68 = .ok (.iconst 1, 1) := by decide +kernel
theorem dX5_init_69 : decode cX5_init 69 = .ok (.iastore, 1) := by decide +kernel
theorem dX5_init_70 : decode cX5_init 70 = .ok (.dup, 1) := by decide +kernel
theorem dX5_init_71 : decode cX5_init 71 = .ok (.iconst 5, 1) := by decide +kernel
theorem dX5_init_72 : decode cX5_init 72 = .ok (.iconst 1, 1) := by decide +kernel
theorem dX5_init_73 : decode cX5_init 73 = .ok (.iastore, 1) := by decide +kernel
theorem dX5_init_74 : decode cX5_init 74 = .ok (.putfield 16, 3) := by decide +kernel
theorem dX5_init_77 : decode cX5_init 77 = .ok (.aload_n 0, 1) := by decide +kernel
theorem dX5_init_78 : decode cX5_init 78 = .ok (.bipush 6, 2) := by decide +kernel
