theorem dX5_hang_74 : decode cX5_hang 74 = .ok (.ifCond .lt 12, 3) := by decide +kernel
theorem dX5_hang_77 : decode cX5_hang 77 = .ok (.aload_n 0, 1) := by decide +kernel
theorem dX5_hang_78 : decode cX5_hang 78 = .ok (.getfield 92, 3) := by decide +kernel
theorem dX5_hang_81 : decode cX5_hang 81 = .ok (.iload_n 3, 1) := by decide +kernel
theorem dX5_hang_82 : decode cX5_hang 82 = .ok (.baload, 1) := by decide +kernel
theorem dX5_hang_83 : decode cX5_hang 83 = .ok (.ifCond .ne 18, 3) := by decide +kernel
theorem dX5_hang_86 : decode cX5_hang 86 = .ok (.iload 4, 2) := by decide +kernel
theorem dX5_hang_88 : decode cX5_hang 88 = .ok (.ifCond .lt 17, 3) := by decide +kernel
theorem dX5_hang_91 : decode cX5_hang 91 = .ok (.aload_n 0, 1) := by decide +kernel
theorem dX5_hang_92 : decode cX5_hang 92 = .ok (.getfield 92, 3) := by decide +kernel
theorem dX5_hang_95 : decode cX5_hang 95 = .ok (.iload 4, 2) := by decide +kernel
theorem dX5_hang_97 : decode cX5_hang 97 = .ok (.baload, 1) := by decide +kernel
theorem dX5_hang_98 : decode cX5_hang 98 = .ok (.ifCond .eq 7, 3) := by decide +kernel
theorem dX5_hang_101 : decode cX5_hang 101 = .ok (.iconst 1, 1) := by decide +kernel
theorem dX5_hang_102 : decode cX5_hang 102 = .ok (.goto 4, 3) := by decide +kernel
theorem dX5_hang_105 : decode cX5_hang 105 = .ok (.iconst 0, 1) := by decide +kernel
theorem dX5_hang_106 : decode cX5_hang 106 = .ok (.bastore, 1) := by decide +kernel
theorem dX5_hang_107 : decode cX5_hang 107 = .ok (.iinc 2 1, 3) := by decide +kernel
theorem dX5_hang_110 : decode cX5_hang 110 = .ok (.goto (-74), 3) := by decide +kernel
theorem dX5_hang_113 : decode cX5_hang 113 = .ok (.aload_n 0, 1) := by decide +kernel
theorem dX5_hang_114 : decode cX5_hang 114 = .ok (.invokevirtual 230, 3) := by decide +kernel
theorem dX5_hang_117 : decode cX5_hang 117 = .ok (.ireturn, 1) := by decide +kernel
theorem dX5_isWovenThrough_0 : decode cX5_isWovenThrough 0 = .ok (.iconst 0, 1) := by decide +kernel
theorem dX5_isWovenThrough_1 : decode cX5_isWovenThrough 1 = .ok (.istore_n 3, 1) := by decide +kernel
theorem dX5_isWovenThrough_2 : decode cX5_isWovenThrough 2 = .ok (.iload_n 3, 1) := by decide +kernel
theorem dX5_isWovenThrough_3 : decode cX5_isWovenThrough 3 = .ok (.aload_n 0, 1) := by decide +kernel
theorem dX5_isWovenThrough_4 : decode cX5_isWovenThrough 4 = .ok (.getfield 86, 3) := by decide +kernel
theorem dX5_isWovenThrough_7 : decode cX5_isWovenThrough 7 = .ok (.iload_n 1, 1) := by decide +kernel
theorem dX5_isWovenThrough_8 : decode cX5_isWovenThrough 8 = .ok (.iaload, 1) := by decide +kernel
theorem dX5_isWovenThrough_9 : decode cX5_isWovenThrough 9 = .ok (.if_icmp .ge 26, 3) := by decide +kernel
theorem dX5_isWovenThrough_12 : decode cX5_isWovenThrough 12 = .ok (.aload_n 0, 1) := by decide +kernel
theorem dX5_isWovenThrough_13 : decode cX5_isWovenThrough 13 = .ok (.getfield 89, 3) := by decide +kernel
theorem dX5_isWovenThrough_16 : decode cX5_isWovenThrough 16 = .ok (.bipush 6, 2) := by decide +kernel
theorem dX5_isWovenThrough_18 : decode cX5_isWovenThrough 18 = .ok (.iload_n 1, 1) := by decide +kernel
theorem dX5_isWovenThrough_19 : decode cX5_isWovenThrough 19 = .ok (.imul, 1) := by decide +kernel
theorem dX5_isWovenThrough_20 : decode cX5_isWovenThrough 20 = .ok (.iload_n 3, 1) := by decide +kernel
theorem dX5_isWovenThrough_21 : decode cX5_isWovenThrough 21 = .ok (.iadd, 1) := by decide +kernel
theorem dX5_isWovenThrough_22 : decode cX5_isWovenThrough 22 = .ok (.iaload, 1) := by decide +kernel
theorem dX5_isWovenThrough_23 : decode cX5_isWovenThrough 23 = .ok (.iload_n 2, 1) := by decide +kernel
theorem dX5_isWovenThrough_24 : decode cX5_isWovenThrough 24 = .ok (.if_icmp .ne 5, 3) := by decide +kernel
theorem dX5_isWovenThrough_27 : decode cX5_isWovenThrough 27 = .ok (.iconst 1, 1) := by decide +kernel
theorem dX5_isWovenThrough_28 : decode cX5_isWovenThrough 28 = .ok (.ireturn, 1) := by decide +kernel
theorem dX5_isWovenThrough_29 : decode cX5_isWovenThrough 29 = .ok (.iinc 3 1, 3) := by decide +kernel
theorem dX5_isWovenThrough_32 : decode cX5_isWovenThrough 32 = .ok (.goto (-30), 3) := by decide +kernel
theorem dX5_isWovenThrough_35 : decode cX5_isWovenThrough 35 = .ok (.iconst 0, 1) := by decide +kernel
theorem dX5_isWovenThrough_36 : decode cX5_isWovenThrough 36 = .ok (.ireturn, 1) := by decide +kernel
set_option maxRecDepth 20000 in
theorem ggX5_drawsOut_X5_isOn : GoodIn wsX5_drawsOut wsX5_isOn := goodIn_r _ [6, 7, 8, 15, 16, 17, 18, 19, 20, 21, 22, 23, 24, 25, 26, 27, 28, 29, 30, 31, 32, 33, 34, 35, 36, 37, 38, 39, 40, 41, 42, 43, 44, 45, 46, 47, 48, 49, 50, 51, 52, 53, 54, 55, 56, 57, 58, 59, 60, 61, 62] (by decide +kernel) (by decide +kernel)
set_option maxRecDepth 20000 in
theorem gX5_drawsOut_X5_isOn : GoodIn wsX5_drawsOut (wsV RX5 227 RX5 yX5_isOn wsX5_isOn) := goodIn_app (goodIn_of _ (by decide +kernel)) ggX5_drawsOut_X5_isOn
set_option maxRecDepth 20000 in
theorem ggX5_drawsOut_X5_isWovenThrough : GoodIn wsX5_drawsOut wsX5_isWovenThrough := goodIn_r _ [12, 13, 14, 15, 16, 17, 18, 19, 20, 21, 22, 23, 24, 25, 26, 27, 28, 29, 30, 31, 32, 33, 34, 35, 36, 37, 38, 39, 40, 41, 42, 43, 44, 45, 46, 47, 48, 49, 50, 51, 52, 53, 54, 55, 56, 57, 58, 59, 60, 61, 62] (by decide +kernel) (by decide +kernel)
set_option maxRecDepth 20000 in
theorem gX5_drawsOut_X5_isWovenThrough : GoodIn wsX5_drawsOut (wsV RX5 233 RX5 yX5_isWovenThrough wsX5_isWovenThrough) := goodIn_app (goodIn_of _ (by decide +kernel)) ggX5_drawsOut_X5_isWovenThrough
theorem dX5_drawsOut_0 : decode cX5_drawsOut 0 = .ok (.aload_n 0, 1) := by decide +kernel
theorem dX5_drawsOut_1 : decode cX5_drawsOut 1 = .ok (.getfield 68, 3) := by decide +kernel
theorem dX5_drawsOut_4 : decode cX5_drawsOut 4 = .ok (.iload_n 1, 1) := by decide +kernel
theorem dX5_drawsOut_5 : decode cX5_drawsOut 5 = .ok (.iaload, 1) := by decide +kernel
theorem dX5_drawsOut_6 : decode cX5_drawsOut 6 = .ok (.aload_n 0, 1) := by decide +kernel
theorem dX5_drawsOut_7 : decode cX5_drawsOut 7 = .ok (.getfield 68, 3) := by decide +kernel
theorem dX5_drawsOut_10 : decode cX5_drawsOut 10 = .ok (.iload_n 2, 1) := by decide +kernel
theorem dX5_drawsOut_11 : decode cX5_drawsOut 11 = .ok (.iaload, 1) := by decide +kernel
theorem dX5_drawsOut_12 : decode cX5_drawsOut 12 = .ok (.if_icmp .ne 8, 3) := by decide +kernel
theorem dX5_drawsOut_15 : decode cX5_drawsOut 15 = .ok (.iload_n 2, 1) := by decide +kernel
theorem dX5_drawsOut_16 : decode cX5_drawsOut 16 = .ok (.iload_n 1, 1) := by decide +kernel
theorem dX5_drawsOut_17 : decode cX5_drawsOut 17 = .ok (.if_icmp .gt 26, 3) := by decide +kernel
theorem dX5_drawsOut_20 : decode cX5_drawsOut 20 = .ok (.aload_n 0, 1) := by decide +kernel
theorem dX5_drawsOut_21 : decode cX5_drawsOut 21 = .ok (.iload_n 2, 1) := by decide +kernel
theorem dX5_drawsOut_22 : decode cX5_drawsOut 22 = .ok (.iload_n 1, 1) := by decide +kernel
theorem dX5_drawsOut_23 : decode cX5_drawsOut 23 = .ok (.invokevirtual 227, 3) := by decide +kernel
theorem dX5_drawsOut_26 : decode cX5_drawsOut 26 = .ok (.ifCond .ne 17, 3) := by decide +kernel
theorem dX5_drawsOut_29 : decode cX5_drawsOut 29 = .ok (.aload_n 0, 1) := by decide +kernel
theorem dX5_drawsOut_30 : decode cX5_drawsOut 30 = .ok (.aload_n 0, 1) := by decide +kernel
theorem dX5_drawsOut_31 : decode cX5_drawsOut 31 = .ok (.getfield 68, 3) := by decide +kernel
theorem dX5_drawsOut_34 : decode cX5_drawsOut 34 = .ok (.iload_n 2, 1) := by decide +kernel
theorem dX5_drawsOut_35 : decode cX5_drawsOut 35 = .ok (.iaload, 1) := by decide +kernel
theorem dX5_drawsOut_36 : decode cX5_drawsOut 36 = .ok (.iload_n 1, 1) := by decide +kernel
theorem dX5_drawsOut_37 : decode cX5_drawsOut 37 = .ok (.invokevirtual 233, 3) := by decide +kernel
theorem dX5_drawsOut_40 : decode cX5_drawsOut 40 = .ok (.ifCond .eq 7, 3) := by decide +kernel
theorem dX5_drawsOut_43 : decode cX5_drawsOut 43 = .ok (.iconst 1, 1) := by decide +kernel
theorem dX5_drawsOut_44 : decode cX5_drawsOut 44 = .ok (.goto 4, 3) := by decide +kernel
theorem dX5_drawsOut_47 : decode cX5_drawsOut 47 = .ok (.iconst 0, 1) := by decide +kernel
theorem dX5_drawsOut_48 : decode cX5_drawsOut 48 = .ok (.ireturn, 1) := by decide +kernel
set_option maxRecDepth 20000 in
theorem ggX5_pulls_X5_drawsOut : GoodIn wsX5_pulls wsX5_drawsOut := goodIn_r _ [7, 8, 9, 10, 11, 6, 12, 13, 14, 15, 16, 17, 18, 19, 20, 21, 22, 23, 24, 25, 26, 27, 28, 29, 30, 31, 32, 33, 34, 35, 36, 37, 38, 39, 40, 41, 42, 43, 44, 45, 46, 47, 48, 49, 50, 51, 52, 53, 54, 55, 56, 57, 58, 59, 60, 61, 62, 63, 64, 65, 66, 67, 68] (by decide +kernel) (by decide +kernel)
set_option maxRecDepth 20000 in
theorem gX5_pulls_X5_drawsOut : GoodIn wsX5_pulls (wsV RX5 236 RX5 yX5_drawsOut wsX5_drawsOut) := goodIn_app (goodIn_of _ (by decide +kernel)) ggX5_pulls_X5_drawsOut
theorem dX5_pulls_0 : decode cX5_pulls 0 = .ok (.iconst 0, 1) := by decide +kernel
theorem dX5_pulls_1 : decode cX5_pulls 1 = .ok (.istore_n 2, 1) := by decide +kernel
theorem dX5_pulls_2 : decode cX5_pulls 2 = .ok (.iload_n 2, 1) := by decide +kernel
theorem dX5_pulls_3 : decode cX5_pulls 3 = .ok (.sipush 144, 3) := by decide +kernel
theorem dX5_pulls_6 : decode cX5_pulls 6 = .ok (.if_icmp .ge 25, 3) := by decide +kernel
theorem dX5_pulls_9 : decode cX5_pulls 9 = .ok (.aload_n 0, 1) := by decide +kernel
theorem dX5_pulls_10 : decode cX5_pulls 10 = .ok (.getfield 92, 3) := by decide +kernel
theorem dX5_pulls_13 : decode cX5_pulls 13 = .ok (.iload_n 2, 1) := by decide +kernel
theorem dX5_pulls_14 : decode cX5_pulls 14 = .ok (.iload_n 2, 1) := by decide +kernel
theorem dX5_pulls_15 : decode cX5_pulls 15 = .ok (.iload_n 1, 1) := by decide +kernel
theorem dX5_pulls_16 : decode cX5_pulls 16 = .ok (.if_icmp .ne 7, 3) := by decide +kernel
theorem dX5_pulls_19 : decode cX5_pulls 19 = .ok (.iconst 1, 1) := by decide +kernel
theorem dX5_pulls_20 : decode cX5_pulls 20 = .ok (.goto 4, 3) := by decide +kernel
theorem dX5_pulls_23 : decode cX5_pulls 23 = .ok (.iconst 0, 1) := by decide +kernel
theorem dX5_pulls_24 : decode cX5_pulls 24 = .ok (.bastore, 1) := by decide +kernel
theorem dX5_pulls_25 : decode cX5_pulls 25 = .ok (.iinc 2 1, 3) := by decide +kernel
theorem dX5_pulls_28 : decode cX5_pulls 28 = .ok (.goto (-26), 3) := by decide +kernel
theorem dX5_pulls_31 : decode cX5_pulls 31 = .ok (.iconst 1, 1) := by decide +kernel
theorem dX5_pulls_32 : decode cX5_pulls 32 = .ok (.istore_n 2, 1) := by decide +kernel
theorem dX5_pulls_33 : decode cX5_pulls 33 = .ok (.iload_n 2, 1) := by decide +kernel
theorem dX5_pulls_34 : decode cX5_pulls 34 = .ok (.ifCond .eq 84, 3) := by decide +kernel
theorem dX5_pulls_37 : decode cX5_pulls 37 = .ok (.iconst 0, 1) := by decide +kernel
theorem dX5_pulls_38 : decode cX5_pulls 38 = .ok (.istore_n 2, 1) := by decide +kernel
theorem dX5_pulls_39 : decode cX5_pulls 39 = .ok (.iconst 0, 1) := by decide +kernel
theorem dX5_pulls_40 : decode cX5_pulls 40 = .ok (.istore_n 3, 1) := by decide +kernel
theorem dX5_pulls_41 : decode cX5_pulls 41 = .ok (.iload_n 3, 1) := by decide +kernel
theorem dX5_pulls_42 : decode cX5_pulls 42 = .ok (.aload_n 0, 1) := by decide +kernel
theorem dX5_pulls_43 : decode cX5_pulls 43 = .ok (.getfield 200, 3) := by decide +kernel
theorem dX5_pulls_46 : decode cX5_pulls 46 = .ok (.if_icmp .ge 69, 3) := by decide +kernel
theorem dX5_pulls_49 : decode cX5_pulls 49 = .ok (.iconst 0, 1) := by decide +kernel
theorem dX5_pulls_50 : decode cX5_pulls 50 = .ok (.istore 4, 2) := by decide +kernel
theorem dX5_pulls_52 : decode cX5_pulls 52 = .ok (.iload 4, 2) := by decide +kernel
theorem dX5_pulls_54 : decode cX5_pulls 54 = .ok (.aload_n 0, 1) := by decide +kernel
theorem dX5_pulls_55 : decode cX5_pulls 55 = .ok (.getfield 200, 3) := by decide +kernel
theorem dX5_pulls_58 : decode cX5_pulls 58 = .ok (.if_icmp .ge 51, 3) := by decide +kernel
theorem dX5_pulls_61 : decode cX5_pulls 61 = .ok (.aload_n 0, 1) := by decide +kernel
theorem dX5_pulls_62 : decode cX5_pulls 62 = .ok (.getfield 92, 3) := by decide +kernel
theorem dX5_pulls_65 : decode cX5_pulls 65 = .ok (.iload_n 3, 1) := by decide +kernel
theorem dX5_pulls_66 : decode cX5_pulls 66 = .ok (.baload, 1) := by decide +kernel
theorem dX5_pulls_67 : decode cX5_pulls 67 = .ok (.ifCond .eq 42, 3) := by decide +kernel
theorem dX5_pulls_70 : decode cX5_pulls 70 = .ok (.aload_n 0, 1) := by decide +kernel
theorem dX5_pulls_71 : decode cX5_pulls 71 = .ok (.getfield 92, 3) := by decide +kernel
theorem dX5_pulls_74 : decode cX5_pulls 74 = .ok (.iload 4, 2) := by decide +kernel
theorem dX5_pulls_76 : decode cX5_pulls 76 = .ok (.baload, 1) := by decide +kernel
theorem dX5_pulls_77 : decode cX5_pulls 77 = .ok (.ifCond .ne 26, 3) := by decide +kernel
theorem dX5_pulls_80 : decode cX5_pulls 80 = .ok (.aload_n 0, 1) := by decide +kernel
theorem dX5_pulls_81 : decode cX5_pulls 81 = .ok (.iload_n 3, 1) := by decide +kernel
theorem dX5_pulls_82 : decode cX5_pulls 82 = .ok (.iload 4, 2) := by decide +kernel
theorem dX5_pulls_84 : decode cX5_pulls 84 = .ok (.invokevirtual 236, 3) := by decide +kernel
theorem dX5_pulls_87 : decode cX5_pulls 87 = .ok (.ifCond .ne 6, 3) := by decide +kernel
theorem dX5_pulls_90 : decode cX5_pulls 90 = .ok (.goto 13, 3) := by decide +kernel
theorem dX5_pulls_93 : decode cX5_pulls 93 = .ok (.aload_n 0, 1) := by decide +kernel
theorem dX5_pulls_94 : decode cX5_pulls 94 = .ok (.getfield 92, 3) := by decide +kernel
theorem dX5_pulls_97 : decode cX5_pulls 97 = .ok (.iload 4, 2) := by decide +kernel
theorem dX5_pulls_99 : decode cX5_pulls 99 = .ok (.iconst 1, 1) := by decide +kernel
theorem dX5_pulls_100 : decode cX5_pulls 100 = .ok (.bastore, 1) := by decide +kernel
theorem dX5_pulls_101 : decode cX5_pulls 101 = .ok (.iconst 1, 1) := by decide +kernel
theorem dX5_pulls_102 : decode cX5_pulls 102 = .ok (.istore_n 2, 1) := by decide +kernel
theorem dX5_pulls_103 : decode cX5_pulls 103 = .ok (.iinc 4 1, 3) := by decide +kernel
theorem dX5_pulls_106 : decode cX5_pulls 106 = .ok (.goto (-54), 3) := by decide +kernel
theorem dX5_pulls_109 : decode cX5_pulls 109 = .ok (.iinc 3 1, 3) := by decide +kernel
theorem dX5_pulls_112 : decode cX5_pulls 112 = .ok (.goto (-71), 3) := by decide +kernel
theorem dX5_pulls_115 : decode cX5_pulls 115 = .ok (.goto (-82), 3) := by decide +kernel
theorem dX5_pulls_118 : decode cX5_pulls 118 = .ok (.return_, 1) := by decide +kernel
set_option maxRecDepth 20000 in
theorem ggX5_pull_X5_isPicked : GoodIn wsX5_pull wsX5_isPicked := goodIn_r _ [5, 6, 7, 8, 4, 9, 36, 37, 38, 39, 40, 41, 42, 43, 44, 45, 46, 47, 48, 49, 50, 51, 52, 53, 54, 55, 56, 57, 58, 59, 60, 61, 62, 63, 64, 65, 66, 67, 68, 69, 70, 71, 72, 73, 74, 75, 76, 77, 78, 79, 80, 81, 82, 83] (by decide +kernel) (by decide +kernel)
set_option maxRecDepth 20000 in
theorem gX5_pull_X5_isPicked : GoodIn wsX5_pull (wsV RX5 224 RX5 yX5_isPicked wsX5_isPicked) := goodIn_app (goodIn_of _ (by decide +kernel)) ggX5_pull_X5_isPicked
set_option maxRecDepth 20000 in
theorem ggX5_pull_X5_pulls : GoodIn wsX5_pull wsX5_pulls := goodIn_r _ [13, 14, 6, 15, 16, 17, 4, 18, 19, 20, 21, 22, 23, 24, 25, 26, 27, 28, 29, 30, 31, 36, 37, 38, 39, 40, 41, 42, 43, 44, 45, 46, 47, 48, 49, 50, 51, 52, 53, 54, 55, 56, 57, 58, 59, 60, 61, 62, 63, 64, 65, 66, 67, 68, 69, 70, 71, 72, 73, 74, 75, 76, 77, 78, 79, 80, 81, 82, 83] (by decide +kernel) (by decide +kernel)
set_option maxRecDepth 20000 in
theorem gX5_pull_X5_pulls : GoodIn wsX5_pull (wsV RX5 239 RX5 yX5_pulls wsX5_pulls) := goodIn_app (goodIn_of _ (by decide +kernel)) ggX5_pull_X5_pulls
set_option maxRecDepth 20000 in
theorem ggX5_pull_X5_manyIn : GoodIn wsX5_pull wsX5_manyIn := goodIn_r _ [35, 6, 14, 36, 37, 38, 39, 40, 41, 42, 43, 44, 45, 46, 47, 48, 49, 50, 51, 52, 53, 54, 55, 56, 57, 58, 59, 60, 61, 62, 63, 64, 65, 66, 67, 68, 69, 70, 71, 72, 73, 74, 75, 76, 77, 78, 79, 80, 81, 82, 83] (by decide +kernel) (by decide +kernel)
set_option maxRecDepth 20000 in
theorem gX5_pull_X5_manyIn : GoodIn wsX5_pull (wsV RX5 230 RX5 yX5_manyIn wsX5_manyIn) := goodIn_app (goodIn_of _ (by decide +kernel)) ggX5_pull_X5_manyIn
theorem dX5_pull_0 : decode cX5_pull 0 = .ok (.aload_n 0, 1) := by decide +kernel
theorem dX5_pull_1 : decode cX5_pull 1 = .ok (.iload_n 1, 1) := by decide +kernel
theorem dX5_pull_2 : decode cX5_pull 2 = .ok (.invokevirtual 224, 3) := by decide +kernel
theorem dX5_pull_5 : decode cX5_pull 5 = .ok (.ifCond .ne 5, 3) := by decide +kernel
theorem dX5_pull_8 : decode cX5_pull 8 = .ok (.iconst (-1), 1) := by decide +kernel
theorem dX5_pull_9 : decode cX5_pull 9 = .ok (.ireturn, 1) := by decide +kernel
theorem dX5_pull_10 : decode cX5_pull 10 = .ok (.aload_n 0, 1) := by decide +kernel
theorem dX5_pull_11 : decode cX5_pull 11 = .ok (.iload_n 1, 1) := by decide +kernel
theorem dX5_pull_12 : decode cX5_pull 12 = .ok (.invokevirtual 239, 3) := by decide +kernel
theorem dX5_pull_15 : decode cX5_pull 15 = .ok (.aload_n 0, 1) := by decide +kernel
theorem dX5_pull_16 : decode cX5_pull 16 = .ok (.invokevirtual 230, 3) := by decide +kernel
theorem dX5_pull_19 : decode cX5_pull 19 = .ok (.ireturn, 1) := by decide +kernel
set_option maxRecDepth 20000 in
theorem ggX5_pulled_X5_isPicked : GoodIn wsX5_pulled wsX5_isPicked := goodIn_r _ [6, 7, 8, 9, 5, 10, 32, 33, 34, 35, 36, 37, 38, 39, 40, 41, 42, 43, 44, 45, 46, 47, 48, 49, 50, 51, 52, 53, 54, 55, 56, 57, 58, 59, 60, 61, 62, 63, 64, 65, 66, 67, 68, 69, 70, 71, 72, 73, 74, 75, 76, 77, 78, 79] (by decide +kernel) (by decide +kernel)
set_option maxRecDepth 20000 in
theorem gX5_pulled_X5_isPicked : GoodIn wsX5_pulled (wsV RX5 224 RX5 yX5_isPicked wsX5_isPicked) := goodIn_app (goodIn_of _ (by decide +kernel)) ggX5_pulled_X5_isPicked
set_option maxRecDepth 20000 in
theorem ggX5_pulled_X5_pulls : GoodIn wsX5_pulled wsX5_pulls := goodIn_r _ [14, 1, 7, 15, 16, 17, 5, 18, 19, 20, 21, 22, 23, 24, 25, 26, 27, 28, 29, 30, 31, 32, 33, 34, 35, 36, 37, 38, 39, 40, 41, 42, 43, 44, 45, 46, 47, 48, 49, 50, 51, 52, 53, 54, 55, 56, 57, 58, 59, 60, 61, 62, 63, 64, 65, 66, 67, 68, 69, 70, 71, 72, 73, 74, 75, 76, 77, 78, 79] (by decide +kernel) (by decide +kernel)
set_option maxRecDepth 20000 in
theorem gX5_pulled_X5_pulls : GoodIn wsX5_pulled (wsV RX5 239 RX5 yX5_pulls wsX5_pulls) := goodIn_app (goodIn_of _ (by decide +kernel)) ggX5_pulled_X5_pulls
theorem dX5_pulled_0 : decode cX5_pulled 0 = .ok (.aload_n 0, 1) := by decide +kernel
theorem dX5_pulled_1 : decode cX5_pulled 1 = .ok (.iload_n 1, 1) := by decide +kernel
theorem dX5_pulled_2 : decode cX5_pulled 2 = .ok (.invokevirtual 224, 3) := by decide +kernel
theorem dX5_pulled_5 : decode cX5_pulled 5 = .ok (.ifCond .eq 11, 3) := by decide +kernel
theorem dX5_pulled_8 : decode cX5_pulled 8 = .ok (.aload_n 0, 1) := by decide +kernel
theorem dX5_pulled_9 : decode cX5_pulled 9 = .ok (.iload_n 2, 1) := by decide +kernel
theorem dX5_pulled_10 : decode cX5_pulled 10 = .ok (.invokevirtual 224, 3) := by decide +kernel
theorem dX5_pulled_13 : decode cX5_pulled 13 = .ok (.ifCond .ne 5, 3) := by decide +kernel
theorem dX5_pulled_16 : decode cX5_pulled 16 = .ok (.iconst (-1), 1) := by decide +kernel
theorem dX5_pulled_17 : decode cX5_pulled 17 = .ok (.ireturn, 1) := by decide +kernel
theorem dX5_pulled_18 : decode cX5_pulled 18 = .ok (.aload_n 0, 1) := by decide +kernel
theorem dX5_pulled_19 : decode cX5_pulled 19 = .ok (.iload_n 1, 1) := by decide +kernel
theorem dX5_pulled_20 : decode cX5_pulled 20 = .ok (.invokevirtual 239, 3) := by decide +kernel
theorem dX5_pulled_23 : decode cX5_pulled 23 = .ok (.aload_n 0, 1) := by decide +kernel
theorem dX5_pulled_24 : decode cX5_pulled 24 = .ok (.getfield 92, 3) := by decide +kernel
theorem dX5_pulled_27 : decode cX5_pulled 27 = .ok (.iload_n 2, 1) := by decide +kernel
theorem dX5_pulled_28 : decode cX5_pulled 28 = .ok (.baload, 1) := by decide +kernel
theorem dX5_pulled_29 : decode cX5_pulled 29 = .ok (.ifCond .eq 7, 3) := by decide +kernel
theorem dX5_pulled_32 : decode cX5_pulled 32 = .ok (.iconst 1, 1) := by decide +kernel
theorem dX5_pulled_33 : decode cX5_pulled 33 = .ok (.goto 4, 3) := by decide +kernel
theorem dX5_pulled_36 : decode cX5_pulled 36 = .ok (.iconst 0, 1) := by decide +kernel
theorem dX5_pulled_37 : decode cX5_pulled 37 = .ok (.ireturn, 1) := by decide +kernel
set_option maxRecDepth 20000 in
theorem ggX5_woven_X5_in : GoodIn wsX5_woven wsX5_in := goodIn_r _ [8] (by decide +kernel) (by decide +kernel)
set_option maxRecDepth 20000 in
theorem gX5_woven_X5_in : GoodIn wsX5_woven (va_wsS RX5 99 yX5_in wsX5_in) := goodIn_app (goodIn_of _ (by decide +kernel)) ggX5_woven_X5_in
theorem dX5_woven_0 : decode cX5_woven 0 = .ok (.aload_n 0, 1) := by decide +kernel
theorem dX5_woven_1 : decode cX5_woven 1 = .ok (.getfield 197, 3) := by decide +kernel
theorem dX5_woven_4 : decode cX5_woven 4 = .ok (.ifCond .eq 47, 3) := by decide +kernel
theorem dX5_woven_7 : decode cX5_woven 7 = .ok (.iload_n 1, 1) := by decide +kernel
theorem dX5_woven_8 : decode cX5_woven 8 = .ok (.iconst 0, 1) := by decide +kernel
theorem dX5_woven_9 : decode cX5_woven 9 = .ok (.aload_n 0, 1) := by decide +kernel
theorem dX5_woven_10 : decode cX5_woven 10 = .ok (.getfield 209, 3) := by decide +kernel
theorem dX5_woven_13 : decode cX5_woven 13 = .ok (.iconst 1, 1) := by decide +kernel
theorem dX5_woven_14 : decode cX5_woven 14 = .ok (.isub, 1) := by decide +kernel
theorem dX5_woven_15 : decode cX5_woven 15 = .ok (.invokestatic 99, 3) := by decide +kernel
theorem dX5_woven_18 : decode cX5_woven 18 = .ok (.ifCond .eq 33, 3) := by decide +kernel
theorem dX5_woven_21 : decode cX5_woven 21 = .ok (.iload_n 2, 1) := by decide +kernel
theorem dX5_woven_22 : decode cX5_woven 22 = .ok (.iconst 0, 1) := by decide +kernel
theorem dX5_woven_23 : decode cX5_woven 23 = .ok (.aload_n 0, 1) := by decide +kernel
theorem dX5_woven_24 : decode cX5_woven 24 = .ok (.getfield 86, 3) := by decide +kernel
theorem dX5_woven_27 : decode cX5_woven 27 = .ok (.iload_n 1, 1) := by decide +kernel
theorem dX5_woven_28 : decode cX5_woven 28 = .ok (.iaload, 1) := by decide +kernel
theorem dX5_woven_29 : decode cX5_woven 29 = .ok (.iconst 1, 1) := by decide +kernel
theorem dX5_woven_30 : decode cX5_woven 30 = .ok (.isub, 1) := by decide +kernel
theorem dX5_woven_31 : decode cX5_woven 31 = .ok (.invokestatic 99, 3) := by decide +kernel
theorem dX5_woven_34 : decode cX5_woven 34 = .ok (.ifCond .eq 17, 3) := by decide +kernel
theorem dX5_woven_37 : decode cX5_woven 37 = .ok (.aload_n 0, 1) := by decide +kernel
theorem dX5_woven_38 : decode cX5_woven 38 = .ok (.getfield 89, 3) := by decide +kernel
theorem dX5_woven_41 : decode cX5_woven 41 = .ok (.bipush 6, 2) := by decide +kernel
theorem dX5_woven_43 : decode cX5_woven 43 = .ok (.iload_n 1, 1) := by decide +kernel
theorem dX5_woven_44 : decode cX5_woven 44 = .ok (.imul, 1) := by decide +kernel
theorem dX5_woven_45 : decode cX5_woven 45 = .ok (.iload_n 2, 1) := by decide +kernel
theorem dX5_woven_46 : decode cX5_woven 46 = .ok (.iadd, 1) := by decide +kernel
theorem dX5_woven_47 : decode cX5_woven 47 = .ok (.iaload, 1) := by decide +kernel
theorem dX5_woven_48 : decode cX5_woven 48 = .ok (.goto 4, 3) := by decide +kernel
theorem dX5_woven_51 : decode cX5_woven 51 = .ok (.iconst (-1), 1) := by decide +kernel
theorem dX5_woven_52 : decode cX5_woven 52 = .ok (.ireturn, 1) := by decide +kernel
set_option maxRecDepth 20000 in
theorem ggX5_best_X5_tries : GoodIn wsX5_best wsX5_tries := goodIn_r _ [8, 9, 1, 10, 2, 3, 11, 12, 13, 14, 15, 16, 17, 18, 19, 7, 20, 21, 22, 23, 24, 25, 26, 27, 28, 29, 30, 31, 32, 33, 34, 35, 36, 37, 38, 39, 40, 41, 42, 43, 44, 45, 46, 47, 48, 49, 50, 51, 52, 53, 54, 55, 56, 57, 58, 59, 60, 61, 62, 63, 64, 65, 66, 67, 68, 69, 70, 71, 72, 73, 74, 75, 76, 77, 78, 79, 80, 81, 82, 83, 84, 85, 86, 87, 88, 89, 90, 91, 92, 93, 94, 115, 116, 117, 118, 119, 120, 121, 122, 123, 124, 125, 126, 127, 128, 129, 130, 131, 132, 133, 134, 135, 136, 137, 138, 139, 140, 141, 142, 143, 144, 145, 146, 147, 148, 149, 150, 151, 152, 153, 154, 155, 156, 157, 158, 159, 160, 161, 162] (by decide +kernel) (by decide +kernel)
set_option maxRecDepth 20000 in
theorem gX5_best_X5_tries : GoodIn wsX5_best (wsV RX5 218 RX5 yX5_tries wsX5_tries) := goodIn_app (goodIn_of _ (by decide +kernel)) ggX5_best_X5_tries
set_option maxRecDepth 20000 in
theorem ggX5_best_X5_keeps : GoodIn wsX5_best wsX5_keeps := goodIn_r _ [98, 99, 9, 100, 1, 101, 10, 102, 2, 103, 3, 104, 11, 105, 106, 12, 107, 42, 108, 43, 109, 40, 110, 36, 111, 37, 112, 41, 113, 39, 114, 85, 115, 116, 117, 118, 119, 120, 121, 122, 123, 124, 125, 126, 127, 128, 129, 130, 131, 132, 133, 134, 135, 136, 137, 138, 139, 140, 141, 142, 143, 144, 145, 146, 147, 148, 149, 150, 151, 152, 153, 154, 155, 156, 157, 158, 159, 160, 161, 162] (by decide +kernel) (by decide +kernel)
set_option maxRecDepth 20000 in
theorem gX5_best_X5_keeps : GoodIn wsX5_best (wsV RX5 221 RX5 yX5_keeps wsX5_keeps) := goodIn_app (goodIn_of _ (by decide +kernel)) ggX5_best_X5_keeps
theorem dX5_best_0 : decode cX5_best 0 = .ok (.iconst (-1), 1) := by decide +kernel
theorem dX5_best_1 : decode cX5_best 1 = .ok (.istore_n 1, 1) := by decide +kernel
theorem dX5_best_2 : decode cX5_best 2 = .ok (.iconst 0, 1) := by decide +kernel
theorem dX5_best_3 : decode cX5_best 3 = .ok (.istore_n 2, 1) := by decide +kernel
theorem dX5_best_4 : decode cX5_best 4 = .ok (.iconst 0, 1) := by decide +kernel
theorem dX5_best_5 : decode cX5_best 5 = .ok (.istore_n 3, 1) := by decide +kernel
theorem dX5_best_6 : decode cX5_best 6 = .ok (.iconst 0, 1) := by decide +kernel
theorem dX5_best_7 : decode cX5_best 7 = .ok (.istore 4, 2) := by decide +kernel
theorem dX5_best_9 : decode cX5_best 9 = .ok (.iload 4, 2) := by decide +kernel
theorem dX5_best_11 : decode cX5_best 11 = .ok (.iconst 4, 1) := by decide +kernel
theorem dX5_best_12 : decode cX5_best 12 = .ok (.if_icmp .ge 69, 3) := by decide +kernel
theorem dX5_best_15 : decode cX5_best 15 = .ok (.aload_n 0, 1) := by decide +kernel
theorem dX5_best_16 : decode cX5_best 16 = .ok (.iload 4, 2) := by decide +kernel
theorem dX5_best_18 : decode cX5_best 18 = .ok (.invokevirtual 218, 3) := by decide +kernel
theorem dX5_best_21 : decode cX5_best 21 = .ok (.aload_n 0, 1) := by decide +kernel
theorem dX5_best_22 : decode cX5_best 22 = .ok (.getfield 141, 3) := by decide +kernel
theorem dX5_best_25 : decode cX5_best 25 = .ok (.ifCond .eq 6, 3) := by decide +kernel
theorem dX5_best_28 : decode cX5_best 28 = .ok (.goto 47, 3) := by decide +kernel
theorem dX5_best_31 : decode cX5_best 31 = .ok (.iload_n 1, 1) := by decide +kernel
theorem dX5_best_32 : decode cX5_best 32 = .ok (.ifCond .lt 30, 3) := by decide +kernel
theorem dX5_best_35 : decode cX5_best 35 = .ok (.aload_n 0, 1) := by decide +kernel
theorem dX5_best_36 : decode cX5_best 36 = .ok (.getfield 135, 3) := by decide +kernel
theorem dX5_best_39 : decode cX5_best 39 = .ok (.iload_n 2, 1) := by decide +kernel
theorem dX5_best_40 : decode cX5_best 40 = .ok (.if_icmp .gt 35, 3) := by decide +kernel
theorem dX5_best_43 : decode cX5_best 43 = .ok (.aload_n 0, 1) := by decide +kernel
theorem dX5_best_44 : decode cX5_best 44 = .ok (.getfield 135, 3) := by decide +kernel
theorem dX5_best_47 : decode cX5_best 47 = .ok (.iload_n 2, 1) := by decide +kernel
theorem dX5_best_48 : decode cX5_best 48 = .ok (.if_icmp .ne 14, 3) := by decide +kernel
theorem dX5_best_51 : decode cX5_best 51 = .ok (.aload_n 0, 1) := by decide +kernel
theorem dX5_best_52 : decode cX5_best 52 = .ok (.getfield 182, 3) := by decide +kernel
theorem dX5_best_55 : decode cX5_best 55 = .ok (.iload_n 3, 1) := by decide +kernel
theorem dX5_best_56 : decode cX5_best 56 = .ok (.if_icmp .lt 6, 3) := by decide +kernel
theorem dX5_best_59 : decode cX5_best 59 = .ok (.goto 16, 3) := by decide +kernel
theorem dX5_best_62 : decode cX5_best 62 = .ok (.iload 4, 2) := by decide +kernel
theorem dX5_best_64 : decode cX5_best 64 = .ok (.istore_n 1, 1) := by decide +kernel
theorem dX5_best_65 : decode cX5_best 65 = .ok (.aload_n 0, 1) := by decide +kernel
theorem dX5_best_66 : decode cX5_best 66 = .ok (.getfield 135, 3) := by decide +kernel
theorem dX5_best_69 : decode cX5_best 69 = .ok (.istore_n 2, 1) := by decide +kernel
theorem dX5_best_70 : decode cX5_best 70 = .ok (.aload_n 0, 1) := by decide +kernel
theorem dX5_best_71 : decode cX5_best 71 = .ok (.getfield 182, 3) := by decide +kernel
theorem dX5_best_74 : decode cX5_best 74 = .ok (.istore_n 3, 1) := by decide +kernel
theorem dX5_best_75 : decode cX5_best 75 = .ok (.iinc 4 1, 3) := by decide +kernel
theorem dX5_best_78 : decode cX5_best 78 = .ok (.goto (-69), 3) := by decide +kernel
theorem dX5_best_81 : decode cX5_best 81 = .ok (.iload_n 1, 1) := by decide +kernel
theorem dX5_best_82 : decode cX5_best 82 = .ok (.ifCond .ge 5, 3) := by decide +kernel
theorem dX5_best_85 : decode cX5_best 85 = .ok (.iconst (-1), 1) := by decide +kernel
theorem dX5_best_86 : decode cX5_best 86 = .ok (.ireturn, 1) := by decide +kernel
theorem dX5_best_87 : decode cX5_best 87 = .ok (.aload_n 0, 1) := by decide +kernel
theorem dX5_best_88 : decode cX5_best 88 = .ok (.iload_n 1, 1) := by decide +kernel
theorem dX5_best_89 : decode cX5_best 89 = .ok (.invokevirtual 218, 3) := by decide +kernel
theorem dX5_best_92 : decode cX5_best 92 = .ok (.aload_n 0, 1) := by decide +kernel
theorem dX5_best_93 : decode cX5_best 93 = .ok (.invokevirtual 221, 3) := by decide +kernel
theorem dX5_best_96 : decode cX5_best 96 = .ok (.iload_n 1, 1) := by decide +kernel
theorem dX5_best_97 : decode cX5_best 97 = .ok (.ireturn, 1) := by decide +kernel
theorem dX5_beadsOf_0 : decode cX5_beadsOf 0 = .ok (.iconst 0, 1) := by decide +kernel
theorem dX5_beadsOf_1 : decode cX5_beadsOf 1 = .ok (.istore_n 2, 1) := by decide +kernel
theorem dX5_beadsOf_2 : decode cX5_beadsOf 2 = .ok (.iconst 0, 1) := by decide +kernel
theorem dX5_beadsOf_3 : decode cX5_beadsOf 3 = .ok (.istore_n 3, 1) := by decide +kernel
theorem dX5_beadsOf_4 : decode cX5_beadsOf 4 = .ok (.iload_n 3, 1) := by decide +kernel
theorem dX5_beadsOf_5 : decode cX5_beadsOf 5 = .ok (.sipush 144, 3) := by decide +kernel
theorem dX5_beadsOf_8 : decode cX5_beadsOf 8 = .ok (.if_icmp .ge 27, 3) := by decide +kernel
theorem dX5_beadsOf_11 : decode cX5_beadsOf 11 = .ok (.iload_n 2, 1) := by decide +kernel
theorem dX5_beadsOf_12 : decode cX5_beadsOf 12 = .ok (.aload_n 0, 1) := by decide +kernel
theorem dX5_beadsOf_13 : decode cX5_beadsOf 13 = .ok (.getfield 7, 3) := by decide +kernel
theorem dX5_beadsOf_16 : decode cX5_beadsOf 16 = .ok (.iload_n 3, 1) := by decide +kernel
theorem dX5_beadsOf_17 : decode cX5_beadsOf 17 = .ok (.iaload, 1) := by decide +kernel
theorem dX5_beadsOf_18 : decode cX5_beadsOf 18 = .ok (.iload_n 1, 1) := by decide +kernel
theorem dX5_beadsOf_19 : decode cX5_beadsOf 19 = .ok (.if_icmp .ne 7, 3) := by decide +kernel
theorem dX5_beadsOf_22 : decode cX5_beadsOf 22 = .ok (.iconst 1, 1) := by decide +kernel
theorem dX5_beadsOf_23 : decode cX5_beadsOf 23 = .ok (.goto 4, 3) := by decide +kernel
theorem dX5_beadsOf_26 : decode cX5_beadsOf 26 = .ok (.iconst 0, 1) := by decide +kernel
theorem dX5_beadsOf_27 : decode cX5_beadsOf 27 = .ok (.iadd, 1) := by decide +kernel
theorem dX5_beadsOf_28 : decode cX5_beadsOf 28 = .ok (.istore_n 2, 1) := by decide +kernel
theorem dX5_beadsOf_29 : decode cX5_beadsOf 29 = .ok (.iinc 3 1, 3) := by decide +kernel
theorem dX5_beadsOf_32 : decode cX5_beadsOf 32 = .ok (.goto (-28), 3) := by decide +kernel
theorem dX5_beadsOf_35 : decode cX5_beadsOf 35 = .ok (.iload_n 2, 1) := by decide +kernel
theorem dX5_beadsOf_36 : decode cX5_beadsOf 36 = .ok (.ireturn, 1) := by decide +kernel
set_option maxRecDepth 20000 in
theorem ggX5_bought_X5_isColour : GoodIn wsX5_bought wsX5_isColour := goodIn_r _ [5, 6, 7, 4, 8] (by decide +kernel) (by decide +kernel)
set_option maxRecDepth 20000 in
theorem gX5_bought_X5_isColour : GoodIn wsX5_bought (va_wsS RX5 110 yX5_isColour wsX5_isColour) := goodIn_app (goodIn_of _ (by decide +kernel)) ggX5_bought_X5_isColour
set_option maxRecDepth 20000 in
theorem ggX5_bought_X5_in : GoodIn wsX5_bought wsX5_in := goodIn_r _ [8] (by decide +kernel) (by decide +kernel)
set_option maxRecDepth 20000 in
theorem gX5_bought_X5_in : GoodIn wsX5_bought (va_wsS RX5 99 yX5_in wsX5_in) := goodIn_app (goodIn_of _ (by decide +kernel)) ggX5_bought_X5_in
set_option maxRecDepth 20000 in
theorem ggX5_bought_X5_beadsOf : GoodIn wsX5_bought wsX5_beadsOf := goodIn_r _ [12, 13, 14, 15, 16, 17, 18, 19, 20, 21, 22, 23, 24, 25, 26, 27, 28, 29, 30, 31, 32, 33, 34, 35, 36, 37, 38, 39, 40, 41, 42, 43, 44, 45, 46, 47, 48, 49, 50, 51, 52, 53, 54, 55, 56, 57, 58, 59, 60, 61] (by decide +kernel) (by decide +kernel)
set_option maxRecDepth 20000 in
theorem gX5_bought_X5_beadsOf : GoodIn wsX5_bought (wsV RX5 242 RX5 yX5_beadsOf wsX5_beadsOf) := goodIn_app (goodIn_of _ (by decide +kernel)) ggX5_bought_X5_beadsOf
theorem dX5_bought_0 : decode cX5_bought 0 = .ok (.iload_n 1, 1) := by decide +kernel
theorem dX5_bought_1 : decode cX5_bought 1 = .ok (.invokestatic 110, 3) := by decide +kernel
theorem dX5_bought_4 : decode cX5_bought 4 = .ok (.ifCond .eq 14, 3) := by decide +kernel
theorem dX5_bought_7 : decode cX5_bought 7 = .ok (.iload_n 2, 1) := by decide +kernel
theorem dX5_bought_8 : decode cX5_bought 8 = .ok (.iconst 1, 1) := by decide +kernel
theorem dX5_bought_9 : decode cX5_bought 9 = .ok (.sipush 1000, 3) := by decide +kernel
theorem dX5_bought_12 : decode cX5_bought 12 = .ok (.invokestatic 99, 3) := by decide +kernel
theorem dX5_bought_15 : decode cX5_bought 15 = .ok (.ifCond .ne 5, 3) := by decide +kernel
theorem dX5_bought_18 : decode cX5_bought 18 = .ok (.iconst (-1), 1) := by decide +kernel
theorem dX5_bought_19 : decode cX5_bought 19 = .ok (.ireturn, 1) := by decide +kernel
theorem dX5_bought_20 : decode cX5_bought 20 = .ok (.aload_n 0, 1) := by decide +kernel
theorem dX5_bought_21 : decode cX5_bought 21 = .ok (.iload_n 1, 1) := by decide +kernel
theorem dX5_bought_22 : decode cX5_bought 22 = .ok (.invokevirtual 242, 3) := by decide +kernel
theorem dX5_bought_25 : decode cX5_bought 25 = .ok (.aload_n 0, 1) := by decide +kernel
theorem dX5_bought_26 : decode cX5_bought 26 = .ok (.getfield 19, 3) := by decide +kernel
theorem dX5_bought_29 : decode cX5_bought 29 = .ok (.iload_n 1, 1) := by decide +kernel
theorem dX5_bought_30 : decode cX5_bought 30 = .ok (.iaload, 1) := by decide +kernel
theorem dX5_bought_31 : decode cX5_bought 31 = .ok (.imul, 1) := by decide +kernel
theorem dX5_bought_32 : decode cX5_bought 32 = .ok (.sipush 1000, 3) := by decide +kernel
theorem dX5_bought_35 : decode cX5_bought 35 = .ok (.iload_n 2, 1) := by decide +kernel
theorem dX5_bought_36 : decode cX5_bought 36 = .ok (.imul, 1) := by decide +kernel
theorem dX5_bought_37 : decode cX5_bought 37 = .ok (.iadd, 1) := by decide +kernel
theorem dX5_bought_38 : decode cX5_bought 38 = .ok (.iconst 1, 1) := by decide +kernel
theorem dX5_bought_39 : decode cX5_bought 39 = .ok (.isub, 1) := by decide +kernel
theorem dX5_bought_40 : decode cX5_bought 40 = .ok (.sipush 1000, 3) := by decide +kernel
theorem dX5_bought_43 : decode cX5_bought 43 = .ok (.iload_n 2, 1) := by decide +kernel
theorem dX5_bought_44 : decode cX5_bought 44 = .ok (.imul, 1) := by decide +kernel
theorem dX5_bought_45 : decode cX5_bought 45 = .ok (.idiv, 1) := by decide +kernel
theorem dX5_bought_46 : decode cX5_bought 46 = .ok (.ireturn, 1) := by decide +kernel
set_option maxRecDepth 20000 in
theorem ggX5_count_X5_beadsOf : GoodIn wsX5_count wsX5_beadsOf := goodIn_r _ [11, 12, 24, 25, 26, 27, 28, 29, 30, 31, 32, 33, 34, 35, 36, 37, 38, 39, 40, 41, 42, 43, 44, 45, 46, 47, 48, 49, 50, 51, 52, 53, 54, 55, 56, 57, 58, 59, 60, 61, 62, 63, 64, 65, 66, 67, 68, 69, 70, 71] (by decide +kernel) (by decide +kernel)
set_option maxRecDepth 20000 in
theorem gX5_count_X5_beadsOf : GoodIn wsX5_count (wsV RX5 242 RX5 yX5_beadsOf wsX5_beadsOf) := goodIn_app (goodIn_of _ (by decide +kernel)) ggX5_count_X5_beadsOf
set_option maxRecDepth 20000 in
theorem ggX5_count_X5_lastColumn : GoodIn wsX5_count wsX5_lastColumn := goodIn_r _ [16, 12, 17, 18, 19, 10, 20, 2, 24, 25, 26, 27, 28, 29, 30, 31, 32, 33, 34, 35, 36, 37, 38, 39, 40, 41, 42, 43, 44, 45, 46, 47, 48, 49, 50, 51, 52, 53, 54, 55, 56, 57, 58, 59, 60, 61, 62, 63, 64, 65, 66, 67, 68, 69, 70, 71] (by decide +kernel) (by decide +kernel)
set_option maxRecDepth 20000 in
theorem gX5_count_X5_lastColumn : GoodIn wsX5_count (wsV RX5 185 RX5 yX5_lastColumn wsX5_lastColumn) := goodIn_app (goodIn_of _ (by decide +kernel)) ggX5_count_X5_lastColumn
set_option maxRecDepth 20000 in
theorem ggX5_count_X5_in : GoodIn wsX5_count wsX5_in := goodIn_r _ [23] (by decide +kernel) (by decide +kernel)
set_option maxRecDepth 20000 in
theorem gX5_count_X5_in : GoodIn wsX5_count (va_wsS RX5 99 yX5_in wsX5_in) := goodIn_app (goodIn_of _ (by decide +kernel)) ggX5_count_X5_in
theorem dX5_count_0 : decode cX5_count 0 = .ok (.iconst 0, 1) := by decide +kernel
theorem dX5_count_1 : decode cX5_count 1 = .ok (.istore_n 2, 1) := by decide +kernel
theorem dX5_count_2 : decode cX5_count 2 = .ok (.iload_n 1, 1) := by decide +kernel
theorem dX5_count_3 : decode cX5_count 3 = .ok (.tableswitch 110 0 6 #[41, 51, 85, 90, 95, 100, 105], 41) := by decide +kernel
theorem dX5_count_44 : decode cX5_count 44 = .ok (.sipush 144, 3) := by decide +kernel
theorem dX5_count_47 : decode cX5_count 47 = .ok (.aload_n 0, 1) := by decide +kernel
theorem dX5_count_48 : decode cX5_count 48 = .ok (.iconst (-1), 1) := by decide +kernel
theorem dX5_count_49 : decode cX5_count 49 = .ok (.invokevirtual 242, 3) := by decide +kernel
theorem dX5_count_52 : decode cX5_count 52 = .ok (.isub, 1) := by decide +kernel
theorem dX5_count_53 : decode cX5_count 53 = .ok (.ireturn, 1) := by decide +kernel
theorem dX5_count_54 : decode cX5_count 54 = .ok (.iconst 0, 1) := by decide +kernel
theorem dX5_count_55 : decode cX5_count 55 = .ok (.istore_n 3, 1) := by decide +kernel
theorem dX5_count_56 : decode cX5_count 56 = .ok (.iload_n 3, 1) := by decide +kernel
theorem dX5_count_57 : decode cX5_count 57 = .ok (.bipush 12, 2) := by decide +kernel
theorem dX5_count_59 : decode cX5_count 59 = .ok (.if_icmp .ge 27, 3) := by decide +kernel
theorem dX5_count_62 : decode cX5_count 62 = .ok (.iload_n 2, 1) := by decide +kernel
theorem dX5_count_63 : decode cX5_count 63 = .ok (.aload_n 0, 1) := by decide +kernel
theorem dX5_count_64 : decode cX5_count 64 = .ok (.iload_n 3, 1) := by decide +kernel
theorem dX5_count_65 : decode cX5_count 65 = .ok (.iconst 1, 1) := by decide +kernel
theorem dX5_count_66 : decode cX5_count 66 = .ok (.invokevirtual 185, 3) := by decide +kernel
theorem dX5_count_69 : decode cX5_count 69 = .ok (.iconst (-1), 1) := by decide +kernel
theorem dX5_count_70 : decode cX5_count 70 = .ok (.if_icmp .eq 7, 3) := by decide +kernel
theorem dX5_count_73 : decode cX5_count 73 = .ok (.iconst 1, 1) := by decide +kernel
theorem dX5_count_74 : decode cX5_count 74 = .ok (.goto 4, 3) := by decide +kernel
theorem dX5_count_77 : decode cX5_count 77 = .ok (.iconst 0, 1) := by decide +kernel
theorem dX5_count_78 : decode cX5_count 78 = .ok (.iadd, 1) := by decide +kernel
theorem dX5_count_79 : decode cX5_count 79 = .ok (.istore_n 2, 1) := by decide +kernel
theorem dX5_count_80 : decode cX5_count 80 = .ok (.iinc 3 1, 3) := by decide +kernel
theorem dX5_count_83 : decode cX5_count 83 = .ok (.goto (-27), 3) := by decide +kernel
theorem dX5_count_86 : decode cX5_count 86 = .ok (.iload_n 2, 1) := by decide +kernel
theorem dX5_count_87 : decode cX5_count 87 = .ok (.ireturn, 1) := by decide +kernel
theorem dX5_count_88 : decode cX5_count 88 = .ok (.aload_n 0, 1) := by decide +kernel
theorem dX5_count_89 : decode cX5_count 89 = .ok (.getfield 107, 3) := by decide +kernel
theorem dX5_count_92 : decode cX5_count 92 = .ok (.ireturn, 1) := by decide +kernel
theorem dX5_count_93 : decode cX5_count 93 = .ok (.aload_n 0, 1) := by decide +kernel
theorem dX5_count_94 : decode cX5_count 94 = .ok (.getfield 96, 3) := by decide +kernel
theorem dX5_count_97 : decode cX5_count 97 = .ok (.ireturn, 1) := by decide +kernel
theorem dX5_count_98 : decode cX5_count 98 = .ok (.aload_n 0, 1) := by decide +kernel
theorem dX5_count_99 : decode cX5_count 99 = .ok (.getfield 22, 3) := by decide +kernel
theorem dX5_count_102 : decode cX5_count 102 = .ok (.ireturn, 1) := by decide +kernel
theorem dX5_count_103 : decode cX5_count 103 = .ok (.aload_n 0, 1) := by decide +kernel
theorem dX5_count_104 : decode cX5_count 104 = .ok (.getfield 26, 3) := by decide +kernel
theorem dX5_count_107 : decode cX5_count 107 = .ok (.ireturn, 1) := by decide +kernel
theorem dX5_count_108 : decode cX5_count 108 = .ok (.aload_n 0, 1) := by decide +kernel
theorem dX5_count_109 : decode cX5_count 109 = .ok (.getfield 200, 3) := by decide +kernel
theorem dX5_count_112 : decode cX5_count 112 = .ok (.ireturn, 1) := by decide +kernel
theorem dX5_count_113 : decode cX5_count 113 = .ok (.iload_n 1, 1) := by decide +kernel
theorem dX5_count_114 : decode cX5_count 114 = .ok (.bipush 10, 2) := by decide +kernel
theorem dX5_count_116 : decode cX5_count 116 = .ok (.bipush 15, 2) := by decide +kernel
theorem dX5_count_118 : decode cX5_count 118 = .ok (.invokestatic 99, 3) := by decide +kernel
theorem dX5_count_121 : decode cX5_count 121 = .ok (.ifCond .eq 12, 3) := by decide +kernel
theorem dX5_count_124 : decode cX5_count 124 = .ok (.aload_n 0, 1) := by decide +kernel
theorem dX5_count_125 : decode cX5_count 125 = .ok (.iload_n 1, 1) := by decide +kernel
theorem dX5_count_126 : decode cX5_count 126 = .ok (.bipush 10, 2) := by decide +kernel
theorem dX5_count_128 : decode cX5_count 128 = .ok (.isub, 1) := by decide +kernel
theorem dX5_count_129 : decode cX5_count 129 = .ok (.invokevirtual 242, 3) := by decide +kernel
theorem dX5_count_132 : decode cX5_count 132 = .ok (.ireturn, 1) := by decide +kernel
theorem dX5_count_133 : decode cX5_count 133 = .ok (.iload_n 1, 1) := by decide +kernel
theorem dX5_count_134 : decode cX5_count 134 = .ok (.bipush 20, 2) := by decide +kernel
theorem dX5_count_136 : decode cX5_count 136 = .ok (.bipush 25, 2) := by decide +kernel
theorem dX5_count_138 : decode cX5_count 138 = .ok (.invokestatic 99, 3) := by decide +kernel
theorem dX5_count_141 : decode cX5_count 141 = .ok (.ifCond .eq 15, 3) := by decide +kernel
theorem dX5_count_144 : decode cX5_count 144 = .ok (.aload_n 0, 1) := by decide +kernel
theorem dX5_count_145 : decode cX5_count 145 = .ok (.getfield 13, 3) := by decide +kernel
theorem dX5_count_148 : decode cX5_count 148 = .ok (.iload_n 1, 1) := by decide +kernel
theorem dX5_count_149 : decode cX5_count 149 = .ok (.bipush 20, 2) := by decide +kernel
theorem dX5_count_151 : decode cX5_count 151 = .ok (.isub, 1) := by decide +kernel
theorem dX5_count_152 : decode cX5_count 152 = .ok (.iaload, 1) := by decide +kernel
theorem dX5_count_153 : decode cX5_count 153 = .ok (.goto 4, 3) := by decide +kernel
theorem dX5_count_156 : decode cX5_count 156 = .ok (.iconst (-1), 1) := by decide +kernel
theorem dX5_count_157 : decode cX5_count 157 = .ok (.ireturn, 1) := by decide +kernel
theorem dJ9_max_7cf53_0 : decode cJ9_max_7cf53 0 = .ok (.iload_n 0, 1) := by decide +kernel
theorem dJ9_max_7cf53_1 : decode cJ9_max_7cf53 1 = .ok (.iload_n 1, 1) := by decide +kernel
theorem dJ9_max_7cf53_2 : decode cJ9_max_7cf53 2 = .ok (.if_icmp .lt 7, 3) := by decide +kernel
theorem dJ9_max_7cf53_5 : decode cJ9_max_7cf53 5 = .ok (.iload_n 0, 1) := by decide +kernel
theorem dJ9_max_7cf53_6 : decode cJ9_max_7cf53 6 = .ok (.goto 4, 3) := by decide +kernel
theorem dJ9_max_7cf53_9 : decode cJ9_max_7cf53 9 = .ok (.iload_n 1, 1) := by decide +kernel
theorem dJ9_max_7cf53_10 : decode cJ9_max_7cf53 10 = .ok (.ireturn, 1) := by decide +kernel
theorem dJ9_min_7cf53_0 : decode cJ9_min_7cf53 0 = .ok (.iload_n 0, 1) := by decide +kernel
theorem dJ9_min_7cf53_1 : decode cJ9_min_7cf53 1 = .ok (.iload_n 1, 1) := by decide +kernel
theorem dJ9_min_7cf53_2 : decode cJ9_min_7cf53 2 = .ok (.if_icmp .gt 7, 3) := by decide +kernel
theorem dJ9_min_7cf53_5 : decode cJ9_min_7cf53 5 = .ok (.iload_n 0, 1) := by decide +kernel
theorem dJ9_min_7cf53_6 : decode cJ9_min_7cf53 6 = .ok (.goto 4, 3) := by decide +kernel
theorem dJ9_min_7cf53_9 : decode cJ9_min_7cf53 9 = .ok (.iload_n 1, 1) := by decide +kernel
theorem dJ9_min_7cf53_10 : decode cJ9_min_7cf53 10 = .ok (.ireturn, 1) := by decide +kernel
theorem dJ7_fill_53178_0 : decode cJ7_fill_53178 0 = .ok (.iconst 0, 1) := by decide +kernel
theorem dJ7_fill_53178_1 : decode cJ7_fill_53178 1 = .ok (.istore_n 2, 1) := by decide +kernel
theorem dJ7_fill_53178_2 : decode cJ7_fill_53178 2 = .ok (.aload_n 0, 1) := by decide +kernel
theorem dJ7_fill_53178_3 : decode cJ7_fill_53178 3 = .ok (.arraylength, 1) := by decide +kernel
theorem dJ7_fill_53178_4 : decode cJ7_fill_53178 4 = .ok (.istore_n 3, 1) := by decide +kernel
theorem dJ7_fill_53178_5 : decode cJ7_fill_53178 5 = .ok (.iload_n 2, 1) := by decide +kernel
theorem dJ7_fill_53178_6 : decode cJ7_fill_53178 6 = .ok (.iload_n 3, 1) := by decide +kernel
theorem dJ7_fill_53178_7 : decode cJ7_fill_53178 7 = .ok (.if_icmp .ge 13, 3) := by decide +kernel
theorem dJ7_fill_53178_10 : decode cJ7_fill_53178 10 = .ok (.aload_n 0, 1) := by decide +kernel
theorem dJ7_fill_53178_11 : decode cJ7_fill_53178 11 = .ok (.iload_n 2, 1) := by decide +kernel
theorem dJ7_fill_53178_12 : decode cJ7_fill_53178 12 = .ok (.iload_n 1, 1) := by decide +kernel
theorem dJ7_fill_53178_13 : decode cJ7_fill_53178 13 = .ok (.iastore, 1) := by decide +kernel
theorem dJ7_fill_53178_14 : decode cJ7_fill_53178 14 = .ok (.iinc 2 1, 3) := by decide +kernel
theorem dJ7_fill_53178_17 : decode cJ7_fill_53178 17 = .ok (.goto (-12), 3) := by decide +kernel
theorem dJ7_fill_53178_20 : decode cJ7_fill_53178 20 = .ok (.return_, 1) := by decide +kernel
theorem dL_law_0 : decode cL_law 0 = .ok (.new 7, 3) := by decide +kernel
theorem dL_law_3 : decode cL_law 3 = .ok (.dup, 1) := by decide +kernel
theorem dL_law_4 : decode cL_law 4 = .ok (.invokespecial 9, 3) := by decide +kernel
theorem dL_law_7 : decode cL_law 7 = .ok (.astore_n 1, 1) := by decide +kernel
theorem dL_law_8 : decode cL_law 8 = .ok (.new 10, 3) := by decide +kernel
theorem dL_law_11 : decode cL_law 11 = .ok (.dup, 1) := by decide +kernel
theorem dL_law_12 : decode cL_law 12 = .ok (.invokespecial 12, 3) := by decide +kernel
theorem dL_law_15 : decode cL_law 15 = .ok (.astore_n 2, 1) := by decide +kernel
theorem dL_law_16 : decode cL_law 16 = .ok (.iconst 0, 1) := by decide +kernel
theorem dL_law_17 : decode cL_law 17 = .ok (.istore_n 3, 1) := by decide +kernel
theorem dL_law_18 : decode cL_law 18 = .ok (.iload_n 3, 1) := by decide +kernel
theorem dL_law_19 : decode cL_law 19 = .ok (.aload_n 0, 1) := by decide +kernel
theorem dL_law_20 : decode cL_law 20 = .ok (.arraylength, 1) := by decide +kernel
theorem dL_law_21 : decode cL_law 21 = .ok (.bipush 6, 2) := by decide +kernel
theorem dL_law_23 : decode cL_law 23 = .ok (.isub, 1) := by decide +kernel
theorem dL_law_24 : decode cL_law 24 = .ok (.if_icmp .gt 639, 3) := by decide +kernel
theorem dL_law_27 : decode cL_law 27 = .ok (.aload_n 0, 1) := by decide +kernel
theorem dL_law_28 : decode cL_law 28 = .ok (.iload_n 3, 1) := by decide +kernel
theorem dL_law_29 : decode cL_law 29 = .ok (.iaload, 1) := by decide +kernel
theorem dL_law_30 : decode cL_law 30 = .ok (.bipush 31, 2) := by decide +kernel
theorem dL_law_32 : decode cL_law 32 = .ok (.iand, 1) := by decide +kernel
theorem dL_law_33 : decode cL_law 33 = .ok (.tableswitch 624 0 16 #[83, 166, 189, 212, 265, 298, 331, 354, 377, 410, 443, 466, 489, 522, 555, 568, 601], 83) := by decide +kernel
theorem dL_law_116 : decode cL_law 116 = .ok (.aload_n 1, 1) := by decide +kernel
theorem dL_law_117 : decode cL_law 117 = .ok (.aload_n 0, 1) := by decide +kernel
theorem dL_law_118 : decode cL_law 118 = .ok (.iload_n 3, 1) := by decide +kernel
theorem dL_law_119 : decode cL_law 119 = .ok (.iconst 1, 1) := by decide +kernel
theorem dL_law_120 : decode cL_law 120 = .ok (.iadd, 1) := by decide +kernel
theorem dL_law_121 : decode cL_law 121 = .ok (.iaload, 1) := by decide +kernel
theorem dL_law_122 : decode cL_law 122 = .ok (.aload_n 0, 1) := by decide +kernel
theorem dL_law_123 : decode cL_law 123 = .ok (.iload_n 3, 1) := by decide +kernel
theorem dL_law_124 : decode cL_law 124 = .ok (.iconst 2, 1) := by decide +kernel
theorem dL_law_125 : decode cL_law 125 = .ok (.iadd, 1) := by decide +kernel
theorem dL_law_126 : decode cL_law 126 = .ok (.iaload, 1) := by decide +kernel
theorem dL_law_127 : decode cL_law 127 = .ok (.aload_n 0, 1) := by decide +kernel
theorem dL_law_128 : decode cL_law 128 = .ok (.iload_n 3, 1) := by decide +kernel
theorem dL_law_129 : decode cL_law 129 = .ok (.iconst 3, 1) := by decide +kernel
theorem dL_law_130 : decode cL_law 130 = .ok (.iadd, 1) := by decide +kernel
theorem dL_law_131 : decode cL_law 131 = .ok (.iaload, 1) := by decide +kernel
theorem dL_law_132 : decode cL_law 132 = .ok (.aload_n 0, 1) := by decide +kernel
theorem dL_law_133 : decode cL_law 133 = .ok (.iload_n 3, 1) := by decide +kernel
theorem dL_law_134 : decode cL_law 134 = .ok (.iconst 4, 1) := by decide +kernel
theorem dL_law_135 : decode cL_law 135 = .ok (.iadd, 1) := by decide +kernel
theorem dL_law_136 : decode cL_law 136 = .ok (.iaload, 1) := by decide +kernel
theorem dL_law_137 : decode cL_law 137 = .ok (.i2l, 1) := by decide +kernel
theorem dL_law_138 : decode cL_law 138 = .ok (.bipush 32, 2) := by decide +kernel
theorem dL_law_140 : decode cL_law 140 = .ok (.lshl, 1) := by decide +kernel
theorem dL_law_141 : decode cL_law 141 = .ok (.aload_n 0, 1) := by decide +kernel
theorem dL_law_142 : decode cL_law 142 = .ok (.iload_n 3, 1) := by decide +kernel
theorem dL_law_143 : decode cL_law 143 = .ok (.iconst 5, 1) := by decide +kernel
theorem dL_law_144 : decode cL_law 144 = .ok (.iadd, 1) := by decide +kernel
theorem dL_law_145 : decode cL_law 145 = .ok (.iaload, 1) := by decide +kernel
theorem dL_law_146 : decode cL_law 146 = .ok (.i2l, 1) := by decide +kernel
theorem dL_law_147 : decode cL_law 147 = .ok (.ldc2_w 13, 3) := by decide +kernel
theorem dL_law_150 : decode cL_law 150 = .ok (.land, 1) := by decide +kernel
theorem dL_law_151 : decode cL_law 151 = .ok (.lor, 1) := by decide +kernel
theorem dL_law_152 : decode cL_law 152 = .ok (.invokevirtual 15, 3) := by decide +kernel
theorem dL_law_155 : decode cL_law 155 = .ok (.aload_n 2, 1) := by decide +kernel
theorem dL_law_156 : decode cL_law 156 = .ok (.aload_n 0, 1) := by decide +kernel
theorem dL_law_157 : decode cL_law 157 = .ok (.iload_n 3, 1) := by decide +kernel
theorem dL_law_158 : decode cL_law 158 = .ok (.iconst 1, 1) := by decide +kernel
theorem dL_law_159 : decode cL_law 159 = .ok (.iadd, 1) := by decide +kernel
theorem dL_law_160 : decode cL_law 160 = .ok (.iaload, 1) := by decide +kernel
theorem dL_law_161 : decode cL_law 161 = .ok (.aload_n 0, 1) := by decide +kernel
theorem dL_law_162 : decode cL_law 162 = .ok (.iload_n 3, 1) := by decide +kernel
theorem dL_law_163 : decode cL_law 163 = .ok (.iconst 2, 1) := by decide +kernel
theorem dL_law_164 : decode cL_law 164 = .ok (.iadd, 1) := by decide +kernel
theorem dL_law_165 : decode cL_law 165 = .ok (.iaload, 1) := by decide +kernel
theorem dL_law_166 : decode cL_law 166 = .ok (.aload_n 0, 1) := by decide +kernel
theorem dL_law_167 : decode cL_law 167 = .ok (.iload_n 3, 1) := by decide +kernel
theorem dL_law_168 : decode cL_law 168 = .ok (.iconst 3, 1) := by decide +kernel
theorem dL_law_169 : decode cL_law 169 = .ok (.iadd, 1) := by decide +kernel
theorem dL_law_170 : decode cL_law 170 = .ok (.iaload, 1) := by decide +kernel
theorem dL_law_171 : decode cL_law 171 = .ok (.aload_n 0, 1) := by decide +kernel
theorem dL_law_172 : decode cL_law 172 = .ok (.iload_n 3, 1) := by decide +kernel
theorem dL_law_173 : decode cL_law 173 = .ok (.iconst 4, 1) := by decide +kernel
theorem dL_law_174 : decode cL_law 174 = .ok (.iadd, 1) := by decide +kernel
theorem dL_law_175 : decode cL_law 175 = .ok (.iaload, 1) := by decide +kernel
theorem dL_law_176 : decode cL_law 176 = .ok (.i2l, 1) := by decide +kernel
theorem dL_law_177 : decode cL_law 177 = .ok (.bipush 32, 2) := by decide +kernel
theorem dL_law_179 : decode cL_law 179 = .ok (.lshl, 1) := by decide +kernel
theorem dL_law_180 : decode cL_law 180 = .ok (.aload_n 0, 1) := by decide +kernel
