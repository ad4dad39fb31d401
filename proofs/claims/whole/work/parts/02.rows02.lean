theorem dX3_layOut_39 : decode cX3_layOut 39 = .ok (.iastore, 1) := by decide +kernel
theorem dX3_layOut_40 : decode cX3_layOut 40 = .ok (.aload_n 0, 1) := by decide +kernel
theorem dX3_layOut_41 : decode cX3_layOut 41 = .ok (.getfield 24, 3) := by decide +kernel
theorem dX3_layOut_44 : decode cX3_layOut 44 = .ok (.iload 5, 2) := by decide +kernel
theorem dX3_layOut_46 : decode cX3_layOut 46 = .ok (.aload_n 0, 1) := by decide +kernel
theorem dX3_layOut_47 : decode cX3_layOut 47 = .ok (.iload 4, 2) := by decide +kernel
theorem dX3_layOut_49 : decode cX3_layOut 49 = .ok (.aload_n 1, 1) := by decide +kernel
theorem dX3_layOut_50 : decode cX3_layOut 50 = .ok (.iload_n 2, 1) := by decide +kernel
theorem dX3_layOut_51 : decode cX3_layOut 51 = .ok (.iload_n 3, 1) := by decide +kernel
theorem dX3_layOut_52 : decode cX3_layOut 52 = .ok (.invokevirtual 123, 3) := by decide +kernel
theorem dX3_layOut_55 : decode cX3_layOut 55 = .ok (.invokevirtual 126, 3) := by decide +kernel
theorem dX3_layOut_58 : decode cX3_layOut 58 = .ok (.iastore, 1) := by decide +kernel
theorem dX3_layOut_59 : decode cX3_layOut 59 = .ok (.aload_n 0, 1) := by decide +kernel
theorem dX3_layOut_60 : decode cX3_layOut 60 = .ok (.getfield 27, 3) := by decide +kernel
theorem dX3_layOut_63 : decode cX3_layOut 63 = .ok (.iload 5, 2) := by decide +kernel
theorem dX3_layOut_65 : decode cX3_layOut 65 = .ok (.aload_n 0, 1) := by decide +kernel
theorem dX3_layOut_66 : decode cX3_layOut 66 = .ok (.iload 4, 2) := by decide +kernel
theorem dX3_layOut_68 : decode cX3_layOut 68 = .ok (.aload_n 1, 1) := by decide +kernel
theorem dX3_layOut_69 : decode cX3_layOut 69 = .ok (.iload_n 2, 1) := by decide +kernel
theorem dX3_layOut_70 : decode cX3_layOut 70 = .ok (.iload_n 3, 1) := by decide +kernel
theorem dX3_layOut_71 : decode cX3_layOut 71 = .ok (.invokevirtual 129, 3) := by decide +kernel
theorem dX3_layOut_74 : decode cX3_layOut 74 = .ok (.invokevirtual 126, 3) := by decide +kernel
theorem dX3_layOut_77 : decode cX3_layOut 77 = .ok (.iastore, 1) := by decide +kernel
theorem dX3_layOut_78 : decode cX3_layOut 78 = .ok (.return_, 1) := by decide +kernel
set_option maxRecDepth 20000 in
theorem ggX3_gatherInFirstRow_X2_empty : GoodIn wsX3_gatherInFirstRow wsX2_empty := goodIn_r _ [7, 8, 33, 34] (by decide +kernel) (by decide +kernel)
set_option maxRecDepth 20000 in
theorem gX3_gatherInFirstRow_X2_empty : GoodIn wsX3_gatherInFirstRow (wsV RX3 132 RX2 yX2_empty wsX2_empty) := goodIn_app (goodIn_of _ (by decide +kernel)) ggX3_gatherInFirstRow_X2_empty
set_option maxRecDepth 20000 in
theorem ggX3_gatherInFirstRow_X2_pass : GoodIn wsX3_gatherInFirstRow wsX2_pass := goodIn_r _ [12, 8, 13, 33, 34] (by decide +kernel) (by decide +kernel)
set_option maxRecDepth 20000 in
theorem gX3_gatherInFirstRow_X2_pass : GoodIn wsX3_gatherInFirstRow (wsV RX3 135 RX2 yX2_pass wsX2_pass) := goodIn_app (goodIn_of _ (by decide +kernel)) ggX3_gatherInFirstRow_X2_pass
theorem dX3_gatherInFirstRow_0 : decode cX3_gatherInFirstRow 0 = .ok (.aload_n 0, 1) := by decide +kernel
theorem dX3_gatherInFirstRow_1 : decode cX3_gatherInFirstRow 1 = .ok (.getfield 50, 3) := by decide +kernel
theorem dX3_gatherInFirstRow_4 : decode cX3_gatherInFirstRow 4 = .ok (.istore_n 3, 1) := by decide +kernel
theorem dX3_gatherInFirstRow_5 : decode cX3_gatherInFirstRow 5 = .ok (.aload_n 0, 1) := by decide +kernel
theorem dX3_gatherInFirstRow_6 : decode cX3_gatherInFirstRow 6 = .ok (.getfield 42, 3) := by decide +kernel
theorem dX3_gatherInFirstRow_9 : decode cX3_gatherInFirstRow 9 = .ok (.invokevirtual 132, 3) := by decide +kernel
theorem dX3_gatherInFirstRow_12 : decode cX3_gatherInFirstRow 12 = .ok (.aload_n 0, 1) := by decide +kernel
theorem dX3_gatherInFirstRow_13 : decode cX3_gatherInFirstRow 13 = .ok (.getfield 42, 3) := by decide +kernel
theorem dX3_gatherInFirstRow_16 : decode cX3_gatherInFirstRow 16 = .ok (.iload_n 3, 1) := by decide +kernel
theorem dX3_gatherInFirstRow_17 : decode cX3_gatherInFirstRow 17 = .ok (.invokevirtual 135, 3) := by decide +kernel
theorem dX3_gatherInFirstRow_20 : decode cX3_gatherInFirstRow 20 = .ok (.aload_n 0, 1) := by decide +kernel
theorem dX3_gatherInFirstRow_21 : decode cX3_gatherInFirstRow 21 = .ok (.getfield 42, 3) := by decide +kernel
theorem dX3_gatherInFirstRow_24 : decode cX3_gatherInFirstRow 24 = .ok (.iload_n 3, 1) := by decide +kernel
theorem dX3_gatherInFirstRow_25 : decode cX3_gatherInFirstRow 25 = .ok (.iconst 1, 1) := by decide +kernel
theorem dX3_gatherInFirstRow_26 : decode cX3_gatherInFirstRow 26 = .ok (.isub, 1) := by decide +kernel
theorem dX3_gatherInFirstRow_27 : decode cX3_gatherInFirstRow 27 = .ok (.invokevirtual 135, 3) := by decide +kernel
theorem dX3_gatherInFirstRow_30 : decode cX3_gatherInFirstRow 30 = .ok (.iload_n 1, 1) := by decide +kernel
theorem dX3_gatherInFirstRow_31 : decode cX3_gatherInFirstRow 31 = .ok (.ifCond .eq 21, 3) := by decide +kernel
theorem dX3_gatherInFirstRow_34 : decode cX3_gatherInFirstRow 34 = .ok (.iload_n 3, 1) := by decide +kernel
theorem dX3_gatherInFirstRow_35 : decode cX3_gatherInFirstRow 35 = .ok (.iload_n 2, 1) := by decide +kernel
theorem dX3_gatherInFirstRow_36 : decode cX3_gatherInFirstRow 36 = .ok (.if_icmp .ne 16, 3) := by decide +kernel
theorem dX3_gatherInFirstRow_39 : decode cX3_gatherInFirstRow 39 = .ok (.iload_n 2, 1) := by decide +kernel
theorem dX3_gatherInFirstRow_40 : decode cX3_gatherInFirstRow 40 = .ok (.iconst 2, 1) := by decide +kernel
theorem dX3_gatherInFirstRow_41 : decode cX3_gatherInFirstRow 41 = .ok (.if_icmp .lt 11, 3) := by decide +kernel
theorem dX3_gatherInFirstRow_44 : decode cX3_gatherInFirstRow 44 = .ok (.aload_n 0, 1) := by decide +kernel
theorem dX3_gatherInFirstRow_45 : decode cX3_gatherInFirstRow 45 = .ok (.getfield 42, 3) := by decide +kernel
theorem dX3_gatherInFirstRow_48 : decode cX3_gatherInFirstRow 48 = .ok (.iconst 0, 1) := by decide +kernel
theorem dX3_gatherInFirstRow_49 : decode cX3_gatherInFirstRow 49 = .ok (.invokevirtual 135, 3) := by decide +kernel
theorem dX3_gatherInFirstRow_52 : decode cX3_gatherInFirstRow 52 = .ok (.return_, 1) := by decide +kernel
set_option maxRecDepth 20000 in
theorem ggX3_gatherInLaterRow_X2_empty : GoodIn wsX3_gatherInLaterRow wsX2_empty := goodIn_r _ [9, 10, 35, 36] (by decide +kernel) (by decide +kernel)
set_option maxRecDepth 20000 in
theorem gX3_gatherInLaterRow_X2_empty : GoodIn wsX3_gatherInLaterRow (wsV RX3 132 RX2 yX2_empty wsX2_empty) := goodIn_app (goodIn_of _ (by decide +kernel)) ggX3_gatherInLaterRow_X2_empty
set_option maxRecDepth 20000 in
theorem ggX3_gatherInLaterRow_X2_pass : GoodIn wsX3_gatherInLaterRow wsX2_pass := goodIn_r _ [14, 10, 15, 35, 36] (by decide +kernel) (by decide +kernel)
set_option maxRecDepth 20000 in
theorem gX3_gatherInLaterRow_X2_pass : GoodIn wsX3_gatherInLaterRow (wsV RX3 135 RX2 yX2_pass wsX2_pass) := goodIn_app (goodIn_of _ (by decide +kernel)) ggX3_gatherInLaterRow_X2_pass
theorem dX3_gatherInLaterRow_0 : decode cX3_gatherInLaterRow 0 = .ok (.aload_n 0, 1) := by decide +kernel
theorem dX3_gatherInLaterRow_1 : decode cX3_gatherInLaterRow 1 = .ok (.getfield 50, 3) := by decide +kernel
theorem dX3_gatherInLaterRow_4 : decode cX3_gatherInLaterRow 4 = .ok (.istore_n 2, 1) := by decide +kernel
theorem dX3_gatherInLaterRow_5 : decode cX3_gatherInLaterRow 5 = .ok (.aload_n 0, 1) := by decide +kernel
theorem dX3_gatherInLaterRow_6 : decode cX3_gatherInLaterRow 6 = .ok (.getfield 42, 3) := by decide +kernel
theorem dX3_gatherInLaterRow_9 : decode cX3_gatherInLaterRow 9 = .ok (.invokevirtual 132, 3) := by decide +kernel
theorem dX3_gatherInLaterRow_12 : decode cX3_gatherInLaterRow 12 = .ok (.aload_n 0, 1) := by decide +kernel
theorem dX3_gatherInLaterRow_13 : decode cX3_gatherInLaterRow 13 = .ok (.getfield 42, 3) := by decide +kernel
theorem dX3_gatherInLaterRow_16 : decode cX3_gatherInLaterRow 16 = .ok (.iload_n 1, 1) := by decide +kernel
theorem dX3_gatherInLaterRow_17 : decode cX3_gatherInLaterRow 17 = .ok (.invokevirtual 135, 3) := by decide +kernel
theorem dX3_gatherInLaterRow_20 : decode cX3_gatherInLaterRow 20 = .ok (.aload_n 0, 1) := by decide +kernel
theorem dX3_gatherInLaterRow_21 : decode cX3_gatherInLaterRow 21 = .ok (.getfield 42, 3) := by decide +kernel
theorem dX3_gatherInLaterRow_24 : decode cX3_gatherInLaterRow 24 = .ok (.iload_n 2, 1) := by decide +kernel
theorem dX3_gatherInLaterRow_25 : decode cX3_gatherInLaterRow 25 = .ok (.invokevirtual 135, 3) := by decide +kernel
theorem dX3_gatherInLaterRow_28 : decode cX3_gatherInLaterRow 28 = .ok (.aload_n 0, 1) := by decide +kernel
theorem dX3_gatherInLaterRow_29 : decode cX3_gatherInLaterRow 29 = .ok (.getfield 42, 3) := by decide +kernel
theorem dX3_gatherInLaterRow_32 : decode cX3_gatherInLaterRow 32 = .ok (.aload_n 0, 1) := by decide +kernel
theorem dX3_gatherInLaterRow_33 : decode cX3_gatherInLaterRow 33 = .ok (.getfield 24, 3) := by decide +kernel
theorem dX3_gatherInLaterRow_36 : decode cX3_gatherInLaterRow 36 = .ok (.iload_n 2, 1) := by decide +kernel
theorem dX3_gatherInLaterRow_37 : decode cX3_gatherInLaterRow 37 = .ok (.iaload, 1) := by decide +kernel
theorem dX3_gatherInLaterRow_38 : decode cX3_gatherInLaterRow 38 = .ok (.invokevirtual 135, 3) := by decide +kernel
theorem dX3_gatherInLaterRow_41 : decode cX3_gatherInLaterRow 41 = .ok (.aload_n 0, 1) := by decide +kernel
theorem dX3_gatherInLaterRow_42 : decode cX3_gatherInLaterRow 42 = .ok (.getfield 42, 3) := by decide +kernel
theorem dX3_gatherInLaterRow_45 : decode cX3_gatherInLaterRow 45 = .ok (.aload_n 0, 1) := by decide +kernel
theorem dX3_gatherInLaterRow_46 : decode cX3_gatherInLaterRow 46 = .ok (.getfield 27, 3) := by decide +kernel
theorem dX3_gatherInLaterRow_49 : decode cX3_gatherInLaterRow 49 = .ok (.iload_n 2, 1) := by decide +kernel
theorem dX3_gatherInLaterRow_50 : decode cX3_gatherInLaterRow 50 = .ok (.iaload, 1) := by decide +kernel
theorem dX3_gatherInLaterRow_51 : decode cX3_gatherInLaterRow 51 = .ok (.invokevirtual 135, 3) := by decide +kernel
theorem dX3_gatherInLaterRow_54 : decode cX3_gatherInLaterRow 54 = .ok (.return_, 1) := by decide +kernel
set_option maxRecDepth 20000 in
theorem ggX3_doStep_X2_threadNeeded : GoodIn wsX3_doStep wsX2_threadNeeded := goodIn_r _ [11, 12, 13, 14, 87, 88, 89, 90, 91, 92, 93, 94, 95, 96] (by decide +kernel) (by decide +kernel)
set_option maxRecDepth 20000 in
theorem gX3_doStep_X2_threadNeeded : GoodIn wsX3_doStep (wsV RX3 138 RX2 yX2_threadNeeded wsX2_threadNeeded) := goodIn_app (goodIn_of _ (by decide +kernel)) ggX3_doStep_X2_threadNeeded
set_option maxRecDepth 20000 in
theorem ggX3_doStep_X3_faultAhead : GoodIn wsX3_doStep wsX3_faultAhead := goodIn_r _ [19, 5, 20, 21, 22, 1, 2, 23, 24, 25, 26, 18, 27, 28, 29, 30, 31, 32, 33, 34, 35, 36, 37, 38, 39, 40, 41, 42, 43, 44, 45, 46, 47, 48, 49, 10, 50, 12, 14, 51, 52, 53, 54, 55, 68, 69, 70, 71, 72, 73, 74, 75, 76, 77, 78, 79, 80, 81, 82, 83, 84, 85, 86, 89, 90, 91, 92, 93, 94, 95, 96, 87, 88] (by decide +kernel) (by decide +kernel)
set_option maxRecDepth 20000 in
theorem gX3_doStep_X3_faultAhead : GoodIn wsX3_doStep (wsV RX3 142 RX3 yX3_faultAhead wsX3_faultAhead) := goodIn_app (goodIn_of _ (by decide +kernel)) ggX3_doStep_X3_faultAhead
set_option maxRecDepth 20000 in
theorem ggX3_doStep_X3_pickUp : GoodIn wsX3_doStep wsX3_pickUp := goodIn_r _ [59, 21, 20, 22, 60, 5, 61, 4, 1, 23, 37, 62, 63, 64, 65, 66, 10, 67, 12, 14, 68, 69, 70, 71, 72, 73, 74, 75, 76, 77, 78, 79, 80, 81, 82, 83, 84, 85, 86, 89, 90, 91, 92, 93, 94, 95, 96, 87, 88] (by decide +kernel) (by decide +kernel)
set_option maxRecDepth 20000 in
theorem gX3_doStep_X3_pickUp : GoodIn wsX3_doStep (wsV RX3 146 RX3 yX3_pickUp wsX3_pickUp) := goodIn_app (goodIn_of _ (by decide +kernel)) ggX3_doStep_X3_pickUp
theorem dX3_doStep_0 : decode cX3_doStep 0 = .ok (.aload_n 0, 1) := by decide +kernel
theorem dX3_doStep_1 : decode cX3_doStep 1 = .ok (.getfield 42, 3) := by decide +kernel
theorem dX3_doStep_4 : decode cX3_doStep 4 = .ok (.aload_n 1, 1) := by decide +kernel
theorem dX3_doStep_5 : decode cX3_doStep 5 = .ok (.aload_n 0, 1) := by decide +kernel
theorem dX3_doStep_6 : decode cX3_doStep 6 = .ok (.getfield 15, 3) := by decide +kernel
theorem dX3_doStep_9 : decode cX3_doStep 9 = .ok (.invokevirtual 138, 3) := by decide +kernel
theorem dX3_doStep_12 : decode cX3_doStep 12 = .ok (.istore_n 3, 1) := by decide +kernel
theorem dX3_doStep_13 : decode cX3_doStep 13 = .ok (.aload_n 0, 1) := by decide +kernel
theorem dX3_doStep_14 : decode cX3_doStep 14 = .ok (.aload_n 0, 1) := by decide +kernel
theorem dX3_doStep_15 : decode cX3_doStep 15 = .ok (.aload_n 1, 1) := by decide +kernel
theorem dX3_doStep_16 : decode cX3_doStep 16 = .ok (.iload_n 3, 1) := by decide +kernel
theorem dX3_doStep_17 : decode cX3_doStep 17 = .ok (.iload_n 2, 1) := by decide +kernel
theorem dX3_doStep_18 : decode cX3_doStep 18 = .ok (.invokevirtual 142, 3) := by decide +kernel
theorem dX3_doStep_21 : decode cX3_doStep 21 = .ok (.putfield 54, 3) := by decide +kernel
theorem dX3_doStep_24 : decode cX3_doStep 24 = .ok (.aload_n 0, 1) := by decide +kernel
theorem dX3_doStep_25 : decode cX3_doStep 25 = .ok (.getfield 54, 3) := by decide +kernel
theorem dX3_doStep_28 : decode cX3_doStep 28 = .ok (.ifCond .ne 12, 3) := by decide +kernel
theorem dX3_doStep_31 : decode cX3_doStep 31 = .ok (.aload_n 0, 1) := by decide +kernel
theorem dX3_doStep_32 : decode cX3_doStep 32 = .ok (.aload_n 1, 1) := by decide +kernel
theorem dX3_doStep_33 : decode cX3_doStep 33 = .ok (.iload_n 3, 1) := by decide +kernel
theorem dX3_doStep_34 : decode cX3_doStep 34 = .ok (.invokevirtual 146, 3) := by decide +kernel
theorem dX3_doStep_37 : decode cX3_doStep 37 = .ok (.goto 16, 3) := by decide +kernel
theorem dX3_doStep_40 : decode cX3_doStep 40 = .ok (.aload_n 0, 1) := by decide +kernel
theorem dX3_doStep_41 : decode cX3_doStep 41 = .ok (.aload_n 0, 1) := by decide +kernel
theorem dX3_doStep_42 : decode cX3_doStep 42 = .ok (.getfield 9, 3) := by decide +kernel
theorem dX3_doStep_45 : decode cX3_doStep 45 = .ok (.aload_n 0, 1) := by decide +kernel
theorem dX3_doStep_46 : decode cX3_doStep 46 = .ok (.getfield 50, 3) := by decide +kernel
theorem dX3_doStep_49 : decode cX3_doStep 49 = .ok (.iaload, 1) := by decide +kernel
theorem dX3_doStep_50 : decode cX3_doStep 50 = .ok (.putfield 57, 3) := by decide +kernel
theorem dX3_doStep_53 : decode cX3_doStep 53 = .ok (.return_, 1) := by decide +kernel
set_option maxRecDepth 20000 in
theorem ggX3_faultAhead_X3_caughtCount : GoodIn wsX3_faultAhead wsX3_caughtCount := goodIn_r _ [12, 13, 14, 44, 45, 46, 47, 48, 49, 50, 51, 52, 53, 54, 55, 56, 57, 58, 59, 60, 61, 62] (by decide +kernel) (by decide +kernel)
set_option maxRecDepth 20000 in
theorem gX3_faultAhead_X3_caughtCount : GoodIn wsX3_faultAhead (wsV RX3 150 RX3 yX3_caughtCount wsX3_caughtCount) := goodIn_app (goodIn_of _ (by decide +kernel)) ggX3_faultAhead_X3_caughtCount
set_option maxRecDepth 20000 in
theorem ggX3_faultAhead_X3_join : GoodIn wsX3_faultAhead wsX3_join := goodIn_r _ [18, 19, 20, 3, 21, 22, 2, 4, 23, 24, 25, 11, 26, 1, 7, 27, 6, 28, 29, 30, 31, 44, 45, 46, 47, 48, 49, 50, 51, 52, 53, 54, 55, 56, 57, 58, 59, 60, 61, 62, 63, 64, 65, 66, 67, 68, 69, 70] (by decide +kernel) (by decide +kernel)
set_option maxRecDepth 20000 in
theorem gX3_faultAhead_X3_join : GoodIn wsX3_faultAhead (wsV RX3 156 RX3 yX3_join wsX3_join) := goodIn_app (goodIn_of _ (by decide +kernel)) ggX3_faultAhead_X3_join
set_option maxRecDepth 20000 in
theorem ggX3_faultAhead_X2_fits : GoodIn wsX3_faultAhead wsX2_fits := goodIn_r _ [36, 37, 38, 39, 40, 41, 42, 35, 43, 71, 72, 63, 64, 65, 66, 67, 68, 69, 70] (by decide +kernel) (by decide +kernel)
set_option maxRecDepth 20000 in
theorem gX3_faultAhead_X2_fits : GoodIn wsX3_faultAhead (wsV RX3 160 RX2 yX2_fits wsX2_fits) := goodIn_app (goodIn_of _ (by decide +kernel)) ggX3_faultAhead_X2_fits
theorem dX3_faultAhead_0 : decode cX3_faultAhead 0 = .ok (.iload_n 3, 1) := by decide +kernel
theorem dX3_faultAhead_1 : decode cX3_faultAhead 1 = .ok (.ifCond .ne 16, 3) := by decide +kernel
theorem dX3_faultAhead_4 : decode cX3_faultAhead 4 = .ok (.aload_n 0, 1) := by decide +kernel
theorem dX3_faultAhead_5 : decode cX3_faultAhead 5 = .ok (.aload_n 0, 1) := by decide +kernel
theorem dX3_faultAhead_6 : decode cX3_faultAhead 6 = .ok (.getfield 50, 3) := by decide +kernel
theorem dX3_faultAhead_9 : decode cX3_faultAhead 9 = .ok (.invokevirtual 150, 3) := by decide +kernel
theorem dX3_faultAhead_12 : decode cX3_faultAhead 12 = .ok (.ifCond .ne 5, 3) := by decide +kernel
theorem dX3_faultAhead_15 : decode cX3_faultAhead 15 = .ok (.iconst 1, 1) := by decide +kernel
theorem dX3_faultAhead_16 : decode cX3_faultAhead 16 = .ok (.ireturn, 1) := by decide +kernel
theorem dX3_faultAhead_17 : decode cX3_faultAhead 17 = .ok (.iload_n 2, 1) := by decide +kernel
theorem dX3_faultAhead_18 : decode cX3_faultAhead 18 = .ok (.aload_n 1, 1) := by decide +kernel
theorem dX3_faultAhead_19 : decode cX3_faultAhead 19 = .ok (.getfield 153, 3) := by decide +kernel
theorem dX3_faultAhead_22 : decode cX3_faultAhead 22 = .ok (.if_icmp .le 5, 3) := by decide +kernel
theorem dX3_faultAhead_25 : decode cX3_faultAhead 25 = .ok (.iconst 3, 1) := by decide +kernel
theorem dX3_faultAhead_26 : decode cX3_faultAhead 26 = .ok (.ireturn, 1) := by decide +kernel
theorem dX3_faultAhead_27 : decode cX3_faultAhead 27 = .ok (.aload_n 0, 1) := by decide +kernel
theorem dX3_faultAhead_28 : decode cX3_faultAhead 28 = .ok (.getfield 60, 3) := by decide +kernel
theorem dX3_faultAhead_31 : decode cX3_faultAhead 31 = .ok (.ifCond .le 21, 3) := by decide +kernel
theorem dX3_faultAhead_34 : decode cX3_faultAhead 34 = .ok (.aload_n 0, 1) := by decide +kernel
theorem dX3_faultAhead_35 : decode cX3_faultAhead 35 = .ok (.getfield 66, 3) := by decide +kernel
theorem dX3_faultAhead_38 : decode cX3_faultAhead 38 = .ok (.iload_n 2, 1) := by decide +kernel
theorem dX3_faultAhead_39 : decode cX3_faultAhead 39 = .ok (.if_icmp .ge 13, 3) := by decide +kernel
theorem dX3_faultAhead_42 : decode cX3_faultAhead 42 = .ok (.aload_n 0, 1) := by decide +kernel
theorem dX3_faultAhead_43 : decode cX3_faultAhead 43 = .ok (.aload_n 1, 1) := by decide +kernel
theorem dX3_faultAhead_44 : decode cX3_faultAhead 44 = .ok (.invokevirtual 156, 3) := by decide +kernel
theorem dX3_faultAhead_47 : decode cX3_faultAhead 47 = .ok (.ifCond .ne 5, 3) := by decide +kernel
theorem dX3_faultAhead_50 : decode cX3_faultAhead 50 = .ok (.iconst 4, 1) := by decide +kernel
theorem dX3_faultAhead_51 : decode cX3_faultAhead 51 = .ok (.ireturn, 1) := by decide +kernel
theorem dX3_faultAhead_52 : decode cX3_faultAhead 52 = .ok (.aload_n 0, 1) := by decide +kernel
theorem dX3_faultAhead_53 : decode cX3_faultAhead 53 = .ok (.getfield 42, 3) := by decide +kernel
theorem dX3_faultAhead_56 : decode cX3_faultAhead 56 = .ok (.aload_n 1, 1) := by decide +kernel
theorem dX3_faultAhead_57 : decode cX3_faultAhead 57 = .ok (.aload_n 0, 1) := by decide +kernel
theorem dX3_faultAhead_58 : decode cX3_faultAhead 58 = .ok (.getfield 15, 3) := by decide +kernel
theorem dX3_faultAhead_61 : decode cX3_faultAhead 61 = .ok (.aload_n 0, 1) := by decide +kernel
theorem dX3_faultAhead_62 : decode cX3_faultAhead 62 = .ok (.getfield 21, 3) := by decide +kernel
theorem dX3_faultAhead_65 : decode cX3_faultAhead 65 = .ok (.invokevirtual 160, 3) := by decide +kernel
theorem dX3_faultAhead_68 : decode cX3_faultAhead 68 = .ok (.ifCond .eq 7, 3) := by decide +kernel
theorem dX3_faultAhead_71 : decode cX3_faultAhead 71 = .ok (.iconst 0, 1) := by decide +kernel
theorem dX3_faultAhead_72 : decode cX3_faultAhead 72 = .ok (.goto 4, 3) := by decide +kernel
theorem dX3_faultAhead_75 : decode cX3_faultAhead 75 = .ok (.iconst 2, 1) := by decide +kernel
theorem dX3_faultAhead_76 : decode cX3_faultAhead 76 = .ok (.ireturn, 1) := by decide +kernel
set_option maxRecDepth 20000 in
theorem ggX3_pickUp_X2_countInto : GoodIn wsX3_pickUp wsX2_countInto := goodIn_r _ [17, 18, 19, 47, 48] (by decide +kernel) (by decide +kernel)
set_option maxRecDepth 20000 in
theorem gX3_pickUp_X2_countInto : GoodIn wsX3_pickUp (wsV RX3 164 RX2 yX2_countInto wsX2_countInto) := goodIn_app (goodIn_of _ (by decide +kernel)) ggX3_pickUp_X2_countInto
theorem dX3_pickUp_0 : decode cX3_pickUp 0 = .ok (.aload_n 0, 1) := by decide +kernel
theorem dX3_pickUp_1 : decode cX3_pickUp 1 = .ok (.getfield 60, 3) := by decide +kernel
theorem dX3_pickUp_4 : decode cX3_pickUp 4 = .ok (.ifCond .ne 16, 3) := by decide +kernel
theorem dX3_pickUp_7 : decode cX3_pickUp 7 = .ok (.aload_n 0, 1) := by decide +kernel
theorem dX3_pickUp_8 : decode cX3_pickUp 8 = .ok (.iconst 1, 1) := by decide +kernel
theorem dX3_pickUp_9 : decode cX3_pickUp 9 = .ok (.putfield 60, 3) := by decide +kernel
theorem dX3_pickUp_12 : decode cX3_pickUp 12 = .ok (.aload_n 0, 1) := by decide +kernel
theorem dX3_pickUp_13 : decode cX3_pickUp 13 = .ok (.aload_n 1, 1) := by decide +kernel
theorem dX3_pickUp_14 : decode cX3_pickUp 14 = .ok (.getfield 153, 3) := by decide +kernel
theorem dX3_pickUp_17 : decode cX3_pickUp 17 = .ok (.putfield 66, 3) := by decide +kernel
theorem dX3_pickUp_20 : decode cX3_pickUp 20 = .ok (.aload_n 0, 1) := by decide +kernel
theorem dX3_pickUp_21 : decode cX3_pickUp 21 = .ok (.getfield 18, 3) := by decide +kernel
theorem dX3_pickUp_24 : decode cX3_pickUp 24 = .ok (.aload_n 0, 1) := by decide +kernel
theorem dX3_pickUp_25 : decode cX3_pickUp 25 = .ok (.getfield 50, 3) := by decide +kernel
theorem dX3_pickUp_28 : decode cX3_pickUp 28 = .ok (.aload_n 0, 1) := by decide +kernel
theorem dX3_pickUp_29 : decode cX3_pickUp 29 = .ok (.getfield 60, 3) := by decide +kernel
theorem dX3_pickUp_32 : decode cX3_pickUp 32 = .ok (.iconst 1, 1) := by decide +kernel
theorem dX3_pickUp_33 : decode cX3_pickUp 33 = .ok (.isub, 1) := by decide +kernel
theorem dX3_pickUp_34 : decode cX3_pickUp 34 = .ok (.iastore, 1) := by decide +kernel
theorem dX3_pickUp_35 : decode cX3_pickUp 35 = .ok (.aload_n 0, 1) := by decide +kernel
theorem dX3_pickUp_36 : decode cX3_pickUp 36 = .ok (.getfield 30, 3) := by decide +kernel
theorem dX3_pickUp_39 : decode cX3_pickUp 39 = .ok (.aload_n 0, 1) := by decide +kernel
theorem dX3_pickUp_40 : decode cX3_pickUp 40 = .ok (.getfield 9, 3) := by decide +kernel
theorem dX3_pickUp_43 : decode cX3_pickUp 43 = .ok (.aload_n 0, 1) := by decide +kernel
theorem dX3_pickUp_44 : decode cX3_pickUp 44 = .ok (.getfield 50, 3) := by decide +kernel
theorem dX3_pickUp_47 : decode cX3_pickUp 47 = .ok (.iaload, 1) := by decide +kernel
theorem dX3_pickUp_48 : decode cX3_pickUp 48 = .ok (.aload_n 0, 1) := by decide +kernel
theorem dX3_pickUp_49 : decode cX3_pickUp 49 = .ok (.getfield 50, 3) := by decide +kernel
theorem dX3_pickUp_52 : decode cX3_pickUp 52 = .ok (.iastore, 1) := by decide +kernel
theorem dX3_pickUp_53 : decode cX3_pickUp 53 = .ok (.aload_n 0, 1) := by decide +kernel
theorem dX3_pickUp_54 : decode cX3_pickUp 54 = .ok (.getfield 42, 3) := by decide +kernel
theorem dX3_pickUp_57 : decode cX3_pickUp 57 = .ok (.aload_n 0, 1) := by decide +kernel
theorem dX3_pickUp_58 : decode cX3_pickUp 58 = .ok (.getfield 21, 3) := by decide +kernel
theorem dX3_pickUp_61 : decode cX3_pickUp 61 = .ok (.invokevirtual 164, 3) := by decide +kernel
theorem dX3_pickUp_64 : decode cX3_pickUp 64 = .ok (.aload_n 0, 1) := by decide +kernel
theorem dX3_pickUp_65 : decode cX3_pickUp 65 = .ok (.dup, 1) := by decide +kernel
theorem dX3_pickUp_66 : decode cX3_pickUp 66 = .ok (.getfield 69, 3) := by decide +kernel
theorem dX3_pickUp_69 : decode cX3_pickUp 69 = .ok (.aload_n 0, 1) := by decide +kernel
theorem dX3_pickUp_70 : decode cX3_pickUp 70 = .ok (.getfield 42, 3) := by decide +kernel
theorem dX3_pickUp_73 : decode cX3_pickUp 73 = .ok (.getfield 168, 3) := by decide +kernel
theorem dX3_pickUp_76 : decode cX3_pickUp 76 = .ok (.iadd, 1) := by decide +kernel
theorem dX3_pickUp_77 : decode cX3_pickUp 77 = .ok (.putfield 69, 3) := by decide +kernel
theorem dX3_pickUp_80 : decode cX3_pickUp 80 = .ok (.aload_n 0, 1) := by decide +kernel
theorem dX3_pickUp_81 : decode cX3_pickUp 81 = .ok (.dup, 1) := by decide +kernel
theorem dX3_pickUp_82 : decode cX3_pickUp 82 = .ok (.getfield 66, 3) := by decide +kernel
theorem dX3_pickUp_85 : decode cX3_pickUp 85 = .ok (.iload_n 2, 1) := by decide +kernel
theorem dX3_pickUp_86 : decode cX3_pickUp 86 = .ok (.isub, 1) := by decide +kernel
theorem dX3_pickUp_87 : decode cX3_pickUp 87 = .ok (.putfield 66, 3) := by decide +kernel
theorem dX3_pickUp_90 : decode cX3_pickUp 90 = .ok (.aload_n 0, 1) := by decide +kernel
theorem dX3_pickUp_91 : decode cX3_pickUp 91 = .ok (.dup, 1) := by decide +kernel
theorem dX3_pickUp_92 : decode cX3_pickUp 92 = .ok (.getfield 63, 3) := by decide +kernel
theorem dX3_pickUp_95 : decode cX3_pickUp 95 = .ok (.iload_n 2, 1) := by decide +kernel
theorem dX3_pickUp_96 : decode cX3_pickUp 96 = .ok (.iadd, 1) := by decide +kernel
theorem dX3_pickUp_97 : decode cX3_pickUp 97 = .ok (.putfield 63, 3) := by decide +kernel
theorem dX3_pickUp_100 : decode cX3_pickUp 100 = .ok (.aload_n 0, 1) := by decide +kernel
theorem dX3_pickUp_101 : decode cX3_pickUp 101 = .ok (.dup, 1) := by decide +kernel
theorem dX3_pickUp_102 : decode cX3_pickUp 102 = .ok (.getfield 50, 3) := by decide +kernel
theorem dX3_pickUp_105 : decode cX3_pickUp 105 = .ok (.iconst 1, 1) := by decide +kernel
theorem dX3_pickUp_106 : decode cX3_pickUp 106 = .ok (.iadd, 1) := by decide +kernel
theorem dX3_pickUp_107 : decode cX3_pickUp 107 = .ok (.putfield 50, 3) := by decide +kernel
theorem dX3_pickUp_110 : decode cX3_pickUp 110 = .ok (.return_, 1) := by decide +kernel
set_option maxRecDepth 20000 in
theorem ggX3_join_X3_weaveThrough : GoodIn wsX3_join wsX3_weaveThrough := goodIn_r _ [12, 13, 2, 14, 15, 16, 21, 22, 23, 24, 25, 26, 27, 28, 29, 30, 31, 32, 33, 34, 35, 36, 37, 38, 39, 40, 41, 42, 43, 44, 45, 46, 47] (by decide +kernel) (by decide +kernel)
set_option maxRecDepth 20000 in
theorem gX3_join_X3_weaveThrough : GoodIn wsX3_join (wsV RX3 171 RX3 yX3_weaveThrough wsX3_weaveThrough) := goodIn_app (goodIn_of _ (by decide +kernel)) ggX3_join_X3_weaveThrough
set_option maxRecDepth 20000 in
theorem ggX3_join_X3_unweave : GoodIn wsX3_join wsX3_unweave := goodIn_r _ [20, 14, 21, 22, 23, 24, 25, 26, 27, 28, 29, 30, 31, 32, 33, 34, 35, 36, 37, 38, 39] (by decide +kernel) (by decide +kernel)
set_option maxRecDepth 20000 in
theorem gX3_join_X3_unweave : GoodIn wsX3_join (wsV RX3 175 RX3 yX3_unweave wsX3_unweave) := goodIn_app (goodIn_of _ (by decide +kernel)) ggX3_join_X3_unweave
theorem dX3_join_0 : decode cX3_join 0 = .ok (.aload_n 0, 1) := by decide +kernel
theorem dX3_join_1 : decode cX3_join 1 = .ok (.aload_n 1, 1) := by decide +kernel
theorem dX3_join_2 : decode cX3_join 2 = .ok (.aload_n 0, 1) := by decide +kernel
theorem dX3_join_3 : decode cX3_join 3 = .ok (.getfield 36, 3) := by decide +kernel
theorem dX3_join_6 : decode cX3_join 6 = .ok (.iconst 0, 1) := by decide +kernel
theorem dX3_join_7 : decode cX3_join 7 = .ok (.invokevirtual 171, 3) := by decide +kernel
theorem dX3_join_10 : decode cX3_join 10 = .ok (.istore_n 2, 1) := by decide +kernel
theorem dX3_join_11 : decode cX3_join 11 = .ok (.iload_n 2, 1) := by decide +kernel
theorem dX3_join_12 : decode cX3_join 12 = .ok (.aload_n 0, 1) := by decide +kernel
theorem dX3_join_13 : decode cX3_join 13 = .ok (.getfield 72, 3) := by decide +kernel
theorem dX3_join_16 : decode cX3_join 16 = .ok (.if_icmp .lt 13, 3) := by decide +kernel
theorem dX3_join_19 : decode cX3_join 19 = .ok (.aload_n 0, 1) := by decide +kernel
theorem dX3_join_20 : decode cX3_join 20 = .ok (.getfield 60, 3) := by decide +kernel
theorem dX3_join_23 : decode cX3_join 23 = .ok (.sipush 144, 3) := by decide +kernel
theorem dX3_join_26 : decode cX3_join 26 = .ok (.if_icmp .lt 15, 3) := by decide +kernel
theorem dX3_join_29 : decode cX3_join 29 = .ok (.aload_n 0, 1) := by decide +kernel
theorem dX3_join_30 : decode cX3_join 30 = .ok (.aload_n 0, 1) := by decide +kernel
theorem dX3_join_31 : decode cX3_join 31 = .ok (.getfield 36, 3) := by decide +kernel
theorem dX3_join_34 : decode cX3_join 34 = .ok (.iconst 0, 1) := by decide +kernel
theorem dX3_join_35 : decode cX3_join 35 = .ok (.iload_n 2, 1) := by decide +kernel
theorem dX3_join_36 : decode cX3_join 36 = .ok (.invokevirtual 175, 3) := by decide +kernel
theorem dX3_join_39 : decode cX3_join 39 = .ok (.iconst 0, 1) := by decide +kernel
theorem dX3_join_40 : decode cX3_join 40 = .ok (.ireturn, 1) := by decide +kernel
theorem dX3_join_41 : decode cX3_join 41 = .ok (.aload_n 0, 1) := by decide +kernel
theorem dX3_join_42 : decode cX3_join 42 = .ok (.getfield 60, 3) := by decide +kernel
theorem dX3_join_45 : decode cX3_join 45 = .ok (.bipush 6, 2) := by decide +kernel
theorem dX3_join_47 : decode cX3_join 47 = .ok (.imul, 1) := by decide +kernel
theorem dX3_join_48 : decode cX3_join 48 = .ok (.istore_n 3, 1) := by decide +kernel
theorem dX3_join_49 : decode cX3_join 49 = .ok (.aload_n 0, 1) := by decide +kernel
theorem dX3_join_50 : decode cX3_join 50 = .ok (.aload_n 1, 1) := by decide +kernel
theorem dX3_join_51 : decode cX3_join 51 = .ok (.aload_n 0, 1) := by decide +kernel
theorem dX3_join_52 : decode cX3_join 52 = .ok (.getfield 33, 3) := by decide +kernel
theorem dX3_join_55 : decode cX3_join 55 = .ok (.iload_n 3, 1) := by decide +kernel
theorem dX3_join_56 : decode cX3_join 56 = .ok (.invokevirtual 171, 3) := by decide +kernel
theorem dX3_join_59 : decode cX3_join 59 = .ok (.istore 4, 2) := by decide +kernel
theorem dX3_join_61 : decode cX3_join 61 = .ok (.iload 4, 2) := by decide +kernel
theorem dX3_join_63 : decode cX3_join 63 = .ok (.aload_n 0, 1) := by decide +kernel
theorem dX3_join_64 : decode cX3_join 64 = .ok (.getfield 72, 3) := by decide +kernel
theorem dX3_join_67 : decode cX3_join 67 = .ok (.if_icmp .ge 26, 3) := by decide +kernel
theorem dX3_join_70 : decode cX3_join 70 = .ok (.aload_n 0, 1) := by decide +kernel
theorem dX3_join_71 : decode cX3_join 71 = .ok (.aload_n 0, 1) := by decide +kernel
theorem dX3_join_72 : decode cX3_join 72 = .ok (.getfield 33, 3) := by decide +kernel
theorem dX3_join_75 : decode cX3_join 75 = .ok (.iload_n 3, 1) := by decide +kernel
theorem dX3_join_76 : decode cX3_join 76 = .ok (.iload 4, 2) := by decide +kernel
theorem dX3_join_78 : decode cX3_join 78 = .ok (.invokevirtual 175, 3) := by decide +kernel
theorem dX3_join_81 : decode cX3_join 81 = .ok (.aload_n 0, 1) := by decide +kernel
theorem dX3_join_82 : decode cX3_join 82 = .ok (.aload_n 0, 1) := by decide +kernel
theorem dX3_join_83 : decode cX3_join 83 = .ok (.getfield 36, 3) := by decide +kernel
theorem dX3_join_86 : decode cX3_join 86 = .ok (.iconst 0, 1) := by decide +kernel
theorem dX3_join_87 : decode cX3_join 87 = .ok (.iload_n 2, 1) := by decide +kernel
theorem dX3_join_88 : decode cX3_join 88 = .ok (.invokevirtual 175, 3) := by decide +kernel
theorem dX3_join_91 : decode cX3_join 91 = .ok (.iconst 0, 1) := by decide +kernel
theorem dX3_join_92 : decode cX3_join 92 = .ok (.ireturn, 1) := by decide +kernel
theorem dX3_join_93 : decode cX3_join 93 = .ok (.aload_n 0, 1) := by decide +kernel
theorem dX3_join_94 : decode cX3_join 94 = .ok (.dup, 1) := by decide +kernel
theorem dX3_join_95 : decode cX3_join 95 = .ok (.getfield 69, 3) := by decide +kernel
theorem dX3_join_98 : decode cX3_join 98 = .ok (.iload_n 2, 1) := by decide +kernel
theorem dX3_join_99 : decode cX3_join 99 = .ok (.iload 4, 2) := by decide +kernel
theorem dX3_join_101 : decode cX3_join 101 = .ok (.iadd, 1) := by decide +kernel
theorem dX3_join_102 : decode cX3_join 102 = .ok (.iadd, 1) := by decide +kernel
theorem dX3_join_103 : decode cX3_join 103 = .ok (.putfield 69, 3) := by decide +kernel
theorem dX3_join_106 : decode cX3_join 106 = .ok (.aload_n 0, 1) := by decide +kernel
theorem dX3_join_107 : decode cX3_join 107 = .ok (.dup, 1) := by decide +kernel
theorem dX3_join_108 : decode cX3_join 108 = .ok (.getfield 60, 3) := by decide +kernel
theorem dX3_join_111 : decode cX3_join 111 = .ok (.iconst 1, 1) := by decide +kernel
theorem dX3_join_112 : decode cX3_join 112 = .ok (.iadd, 1) := by decide +kernel
theorem dX3_join_113 : decode cX3_join 113 = .ok (.putfield 60, 3) := by decide +kernel
theorem dX3_join_116 : decode cX3_join 116 = .ok (.aload_n 0, 1) := by decide +kernel
theorem dX3_join_117 : decode cX3_join 117 = .ok (.aload_n 1, 1) := by decide +kernel
theorem dX3_join_118 : decode cX3_join 118 = .ok (.getfield 153, 3) := by decide +kernel
theorem dX3_join_121 : decode cX3_join 121 = .ok (.putfield 66, 3) := by decide +kernel
theorem dX3_join_124 : decode cX3_join 124 = .ok (.iconst 1, 1) := by decide +kernel
theorem dX3_join_125 : decode cX3_join 125 = .ok (.ireturn, 1) := by decide +kernel
theorem dX3_weaveThrough_0 : decode cX3_weaveThrough 0 = .ok (.iconst 0, 1) := by decide +kernel
theorem dX3_weaveThrough_1 : decode cX3_weaveThrough 1 = .ok (.istore 4, 2) := by decide +kernel
theorem dX3_weaveThrough_3 : decode cX3_weaveThrough 3 = .ok (.aload_n 0, 1) := by decide +kernel
theorem dX3_weaveThrough_4 : decode cX3_weaveThrough 4 = .ok (.getfield 50, 3) := by decide +kernel
theorem dX3_weaveThrough_7 : decode cX3_weaveThrough 7 = .ok (.iconst 1, 1) := by decide +kernel
theorem dX3_weaveThrough_8 : decode cX3_weaveThrough 8 = .ok (.isub, 1) := by decide +kernel
theorem dX3_weaveThrough_9 : decode cX3_weaveThrough 9 = .ok (.istore 5, 2) := by decide +kernel
theorem dX3_weaveThrough_11 : decode cX3_weaveThrough 11 = .ok (.iload 5, 2) := by decide +kernel
theorem dX3_weaveThrough_13 : decode cX3_weaveThrough 13 = .ok (.ifCond .lt 62, 3) := by decide +kernel
theorem dX3_weaveThrough_16 : decode cX3_weaveThrough 16 = .ok (.iload 4, 2) := by decide +kernel
theorem dX3_weaveThrough_18 : decode cX3_weaveThrough 18 = .ok (.aload_n 0, 1) := by decide +kernel
theorem dX3_weaveThrough_19 : decode cX3_weaveThrough 19 = .ok (.getfield 72, 3) := by decide +kernel
theorem dX3_weaveThrough_22 : decode cX3_weaveThrough 22 = .ok (.if_icmp .ge 53, 3) := by decide +kernel
theorem dX3_weaveThrough_25 : decode cX3_weaveThrough 25 = .ok (.aload_n 0, 1) := by decide +kernel
theorem dX3_weaveThrough_26 : decode cX3_weaveThrough 26 = .ok (.getfield 21, 3) := by decide +kernel
theorem dX3_weaveThrough_29 : decode cX3_weaveThrough 29 = .ok (.iload 5, 2) := by decide +kernel
theorem dX3_weaveThrough_31 : decode cX3_weaveThrough 31 = .ok (.iaload, 1) := by decide +kernel
theorem dX3_weaveThrough_32 : decode cX3_weaveThrough 32 = .ok (.aload_n 1, 1) := by decide +kernel
theorem dX3_weaveThrough_33 : decode cX3_weaveThrough 33 = .ok (.getfield 179, 3) := by decide +kernel
theorem dX3_weaveThrough_36 : decode cX3_weaveThrough 36 = .ok (.aload_n 0, 1) := by decide +kernel
theorem dX3_weaveThrough_37 : decode cX3_weaveThrough 37 = .ok (.getfield 15, 3) := by decide +kernel
theorem dX3_weaveThrough_40 : decode cX3_weaveThrough 40 = .ok (.iload 5, 2) := by decide +kernel
theorem dX3_weaveThrough_42 : decode cX3_weaveThrough 42 = .ok (.iaload, 1) := by decide +kernel
theorem dX3_weaveThrough_43 : decode cX3_weaveThrough 43 = .ok (.iaload, 1) := by decide +kernel
theorem dX3_weaveThrough_44 : decode cX3_weaveThrough 44 = .ok (.if_icmp .ge 25, 3) := by decide +kernel
theorem dX3_weaveThrough_47 : decode cX3_weaveThrough 47 = .ok (.aload_n 0, 1) := by decide +kernel
theorem dX3_weaveThrough_48 : decode cX3_weaveThrough 48 = .ok (.getfield 21, 3) := by decide +kernel
theorem dX3_weaveThrough_51 : decode cX3_weaveThrough 51 = .ok (.iload 5, 2) := by decide +kernel
theorem dX3_weaveThrough_53 : decode cX3_weaveThrough 53 = .ok (.dup2, 1) := by decide +kernel
theorem dX3_weaveThrough_54 : decode cX3_weaveThrough 54 = .ok (.iaload, 1) := by decide +kernel
theorem dX3_weaveThrough_55 : decode cX3_weaveThrough 55 = .ok (.iconst 1, 1) := by decide +kernel
theorem dX3_weaveThrough_56 : decode cX3_weaveThrough 56 = .ok (.iadd, 1) := by decide +kernel
theorem dX3_weaveThrough_57 : decode cX3_weaveThrough 57 = .ok (.iastore, 1) := by decide +kernel
theorem dX3_weaveThrough_58 : decode cX3_weaveThrough 58 = .ok (.aload_n 2, 1) := by decide +kernel
theorem dX3_weaveThrough_59 : decode cX3_weaveThrough 59 = .ok (.iload_n 3, 1) := by decide +kernel
theorem dX3_weaveThrough_60 : decode cX3_weaveThrough 60 = .ok (.iload 4, 2) := by decide +kernel
theorem dX3_weaveThrough_62 : decode cX3_weaveThrough 62 = .ok (.iadd, 1) := by decide +kernel
theorem dX3_weaveThrough_63 : decode cX3_weaveThrough 63 = .ok (.iload 5, 2) := by decide +kernel
theorem dX3_weaveThrough_65 : decode cX3_weaveThrough 65 = .ok (.iastore, 1) := by decide +kernel
theorem dX3_weaveThrough_66 : decode cX3_weaveThrough 66 = .ok (.iinc 4 1, 3) := by decide +kernel
theorem dX3_weaveThrough_69 : decode cX3_weaveThrough 69 = .ok (.iinc 5 (-1), 3) := by decide +kernel
theorem dX3_weaveThrough_72 : decode cX3_weaveThrough 72 = .ok (.goto (-61), 3) := by decide +kernel
theorem dX3_weaveThrough_75 : decode cX3_weaveThrough 75 = .ok (.iload 4, 2) := by decide +kernel
theorem dX3_weaveThrough_77 : decode cX3_weaveThrough 77 = .ok (.ireturn, 1) := by decide +kernel
theorem dX3_unweave_0 : decode cX3_unweave 0 = .ok (.iconst 0, 1) := by decide +kernel
theorem dX3_unweave_1 : decode cX3_unweave 1 = .ok (.istore 4, 2) := by decide +kernel
theorem dX3_unweave_3 : decode cX3_unweave 3 = .ok (.iload 4, 2) := by decide +kernel
theorem dX3_unweave_5 : decode cX3_unweave 5 = .ok (.iload_n 3, 1) := by decide +kernel
theorem dX3_unweave_6 : decode cX3_unweave 6 = .ok (.if_icmp .ge 24, 3) := by decide +kernel
theorem dX3_unweave_9 : decode cX3_unweave 9 = .ok (.aload_n 0, 1) := by decide +kernel
theorem dX3_unweave_10 : decode cX3_unweave 10 = .ok (.getfield 21, 3) := by decide +kernel
theorem dX3_unweave_13 : decode cX3_unweave 13 = .ok (.aload_n 1, 1) := by decide +kernel
theorem dX3_unweave_14 : decode cX3_unweave 14 = .ok (.iload_n 2, 1) := by decide +kernel
theorem dX3_unweave_15 : decode cX3_unweave 15 = .ok (.iload 4, 2) := by decide +kernel
theorem dX3_unweave_17 : decode cX3_unweave 17 = .ok (.iadd, 1) := by decide +kernel
theorem dX3_unweave_18 : decode cX3_unweave 18 = .ok (.iaload, 1) := by decide +kernel
theorem dX3_unweave_19 : decode cX3_unweave 19 = .ok (.dup2, 1) := by decide +kernel
theorem dX3_unweave_20 : decode cX3_unweave 20 = .ok (.iaload, 1) := by decide +kernel
theorem dX3_unweave_21 : decode cX3_unweave 21 = .ok (.iconst 1, 1) := by decide +kernel
theorem dX3_unweave_22 : decode cX3_unweave 22 = .ok (.isub, 1) := by decide +kernel
theorem dX3_unweave_23 : decode cX3_unweave 23 = .ok (.iastore, 1) := by decide +kernel
theorem dX3_unweave_24 : decode cX3_unweave 24 = .ok (.iinc 4 1, 3) := by decide +kernel
theorem dX3_unweave_27 : decode cX3_unweave 27 = .ok (.goto (-24), 3) := by decide +kernel
theorem dX3_unweave_30 : decode cX3_unweave 30 = .ok (.return_, 1) := by decide +kernel
set_option maxRecDepth 20000 in
theorem ggX4_init_X0_init : GoodIn wsX4_init wsX0_init := goodIn_r _ [19, 20, 2, 3, 21, 22, 23, 24, 25, 26, 27, 28, 29, 30, 31, 32, 33, 70, 71, 72, 73, 74, 75, 76, 77] (by decide +kernel) (by decide +kernel)
set_option maxRecDepth 20000 in
theorem gX4_init_X0_init : GoodIn wsX4_init (wsX0_init) := ggX4_init_X0_init
set_option maxRecDepth 20000 in
theorem ggX4_init_X3_init : GoodIn wsX4_init wsX3_init := goodIn_r _ [36, 37, 2, 3, 21, 38, 39, 40, 41, 42, 43, 44, 45, 46, 47, 48, 49, 50, 51, 52, 53, 54, 55, 56, 57, 58, 59, 60, 61, 62, 63, 64, 65, 31, 32, 33, 82, 83, 84, 85, 86, 87, 88, 89, 90, 91, 92, 93, 94, 95, 96, 97, 98, 99, 100, 102, 103] (by decide +kernel) (by decide +kernel)
set_option maxRecDepth 20000 in
theorem gX4_init_X3_init : GoodIn wsX4_init (wsX3_init) := ggX4_init_X3_init
set_option maxRecDepth 20000 in
theorem ggX4_init_X1_init : GoodIn wsX4_init wsX1_init := goodIn_r _ [67, 68, 2, 3, 21, 69, 101] (by decide +kernel) (by decide +kernel)
set_option maxRecDepth 20000 in
theorem gX4_init_X1_init_n28 : GoodIn wsX4_init (wsX1_init) := ggX4_init_X1_init
theorem dX4_init_0 : decode cX4_init 0 = .ok (.aload_n 0, 1) := by decide +kernel
theorem dX4_init_1 : decode cX4_init 1 = .ok (.invokespecial 3, 3) := by decide +kernel
theorem dX4_init_4 : decode cX4_init 4 = .ok (.aload_n 0, 1) := by decide +kernel
theorem dX4_init_5 : decode cX4_init 5 = .ok (.new 9, 3) := by decide +kernel
theorem dX4_init_8 : decode cX4_init 8 = .ok (.dup, 1) := by decide +kernel
theorem dX4_init_9 : decode cX4_init 9 = .ok (.invokespecial 11, 3) := by decide +kernel
theorem dX4_init_12 : decode cX4_init 12 = .ok (.putfield 12, 3) := by decide +kernel
theorem dX4_init_15 : decode cX4_init 15 = .ok (.aload_n 0, 1) := by decide +kernel
theorem dX4_init_16 : decode cX4_init 16 = .ok (.new 16, 3) := by decide +kernel
theorem dX4_init_19 : decode cX4_init 19 = .ok (.dup, 1) := by decide +kernel
theorem dX4_init_20 : decode cX4_init 20 = .ok (.invokespecial 18, 3) := by decide +kernel
theorem dX4_init_23 : decode cX4_init 23 = .ok (.putfield 19, 3) := by decide +kernel
theorem dX4_init_26 : decode cX4_init 26 = .ok (.aload_n 0, 1) := by decide +kernel
theorem dX4_init_27 : decode cX4_init 27 = .ok (.new 16, 3) := by decide +kernel
theorem dX4_init_30 : decode cX4_init 30 = .ok (.dup, 1) := by decide +kernel
theorem dX4_init_31 : decode cX4_init 31 = .ok (.invokespecial 18, 3) := by decide +kernel
theorem dX4_init_34 : decode cX4_init 34 = .ok (.putfield 23, 3) := by decide +kernel
theorem dX4_init_37 : decode cX4_init 37 = .ok (.aload_n 0, 1) := by decide +kernel
theorem dX4_init_38 : decode cX4_init 38 = .ok (.new 26, 3) := by decide +kernel
theorem dX4_init_41 : decode cX4_init 41 = .ok (.dup, 1) := by decide +kernel
theorem dX4_init_42 : decode cX4_init 42 = .ok (.invokespecial 28, 3) := by decide +kernel
theorem dX4_init_45 : decode cX4_init 45 = .ok (.putfield 29, 3) := by decide +kernel
theorem dX4_init_48 : decode cX4_init 48 = .ok (.return_, 1) := by decide +kernel
set_option maxRecDepth 20000 in
theorem ggX4_beads_X0_holdsRun : GoodIn wsX4_beads wsX0_holdsRun := goodIn_r _ [6, 7, 8, 9, 10, 11, 12, 13, 14, 15, 5, 16, 17, 28, 29, 30, 31, 32, 33, 34, 35] (by decide +kernel) (by decide +kernel)
set_option maxRecDepth 20000 in
theorem gX4_beads_X0_holdsRun : GoodIn wsX4_beads (wsV RX4 33 RX0 yX0_holdsRun wsX0_holdsRun) := goodIn_app (goodIn_of _ (by decide +kernel)) ggX4_beads_X0_holdsRun
set_option maxRecDepth 20000 in
theorem ggX4_beads_X0_putRun : GoodIn wsX4_beads wsX0_putRun := goodIn_r _ [21, 22, 23, 28, 29, 30, 31, 32, 33, 34, 35] (by decide +kernel) (by decide +kernel)
set_option maxRecDepth 20000 in
theorem gX4_beads_X0_putRun : GoodIn wsX4_beads (wsV RX4 37 RX0 yX0_putRun wsX0_putRun) := goodIn_app (goodIn_of _ (by decide +kernel)) ggX4_beads_X0_putRun
theorem dX4_beads_0 : decode cX4_beads 0 = .ok (.aload_n 0, 1) := by decide +kernel
theorem dX4_beads_1 : decode cX4_beads 1 = .ok (.getfield 12, 3) := by decide +kernel
theorem dX4_beads_4 : decode cX4_beads 4 = .ok (.iload_n 1, 1) := by decide +kernel
theorem dX4_beads_5 : decode cX4_beads 5 = .ok (.iload_n 2, 1) := by decide +kernel
theorem dX4_beads_6 : decode cX4_beads 6 = .ok (.iload_n 3, 1) := by decide +kernel
theorem dX4_beads_7 : decode cX4_beads 7 = .ok (.invokevirtual 33, 3) := by decide +kernel
theorem dX4_beads_10 : decode cX4_beads 10 = .ok (.ifCond .ne 5, 3) := by decide +kernel
theorem dX4_beads_13 : decode cX4_beads 13 = .ok (.iconst 0, 1) := by decide +kernel
theorem dX4_beads_14 : decode cX4_beads 14 = .ok (.ireturn, 1) := by decide +kernel
theorem dX4_beads_15 : decode cX4_beads 15 = .ok (.aload_n 0, 1) := by decide +kernel
theorem dX4_beads_16 : decode cX4_beads 16 = .ok (.getfield 12, 3) := by decide +kernel
theorem dX4_beads_19 : decode cX4_beads 19 = .ok (.iload_n 1, 1) := by decide +kernel
theorem dX4_beads_20 : decode cX4_beads 20 = .ok (.iload_n 2, 1) := by decide +kernel
theorem dX4_beads_21 : decode cX4_beads 21 = .ok (.iload_n 3, 1) := by decide +kernel
theorem dX4_beads_22 : decode cX4_beads 22 = .ok (.lload 4, 2) := by decide +kernel
theorem dX4_beads_24 : decode cX4_beads 24 = .ok (.invokevirtual 37, 3) := by decide +kernel
theorem dX4_beads_27 : decode cX4_beads 27 = .ok (.iconst 1, 1) := by decide +kernel
theorem dX4_beads_28 : decode cX4_beads 28 = .ok (.ireturn, 1) := by decide +kernel
theorem dX4_stitch_0 : decode cX4_stitch 0 = .ok (.iload_n 1, 1) := by decide +kernel
theorem dX4_stitch_1 : decode cX4_stitch 1 = .ok (.ifCond .eq 10, 3) := by decide +kernel
theorem dX4_stitch_4 : decode cX4_stitch 4 = .ok (.iload_n 1, 1) := by decide +kernel
theorem dX4_stitch_5 : decode cX4_stitch 5 = .ok (.iconst 1, 1) := by decide +kernel
theorem dX4_stitch_6 : decode cX4_stitch 6 = .ok (.if_icmp .eq 5, 3) := by decide +kernel
theorem dX4_stitch_9 : decode cX4_stitch 9 = .ok (.iconst (-1), 1) := by decide +kernel
theorem dX4_stitch_10 : decode cX4_stitch 10 = .ok (.ireturn, 1) := by decide +kernel
theorem dX4_stitch_11 : decode cX4_stitch 11 = .ok (.aload_n 0, 1) := by decide +kernel
theorem dX4_stitch_12 : decode cX4_stitch 12 = .ok (.getfield 12, 3) := by decide +kernel
theorem dX4_stitch_15 : decode cX4_stitch 15 = .ok (.getfield 41, 3) := by decide +kernel
theorem dX4_stitch_18 : decode cX4_stitch 18 = .ok (.istore_n 2, 1) := by decide +kernel
theorem dX4_stitch_19 : decode cX4_stitch 19 = .ok (.aload_n 0, 1) := by decide +kernel
theorem dX4_stitch_20 : decode cX4_stitch 20 = .ok (.getfield 12, 3) := by decide +kernel
theorem dX4_stitch_23 : decode cX4_stitch 23 = .ok (.iload_n 1, 1) := by decide +kernel
theorem dX4_stitch_24 : decode cX4_stitch 24 = .ok (.putfield 41, 3) := by decide +kernel
theorem dX4_stitch_27 : decode cX4_stitch 27 = .ok (.iload_n 2, 1) := by decide +kernel
theorem dX4_stitch_28 : decode cX4_stitch 28 = .ok (.ireturn, 1) := by decide +kernel
set_option maxRecDepth 20000 in
theorem ggX4_ring_X4_isWithin : GoodIn wsX4_ring wsX4_isWithin := goodIn_r _ [6] (by decide +kernel) (by decide +kernel)
set_option maxRecDepth 20000 in
theorem gX4_ring_X4_isWithin : GoodIn wsX4_ring (va_wsS RX4 45 yX4_isWithin wsX4_isWithin) := goodIn_app (goodIn_of _ (by decide +kernel)) ggX4_ring_X4_isWithin
set_option maxRecDepth 20000 in
theorem ggX4_ring_X0_hasBeadsFrom : GoodIn wsX4_ring wsX0_hasBeadsFrom := goodIn_r _ [11, 12, 17, 18, 19, 20, 21, 22, 23, 24] (by decide +kernel) (by decide +kernel)
set_option maxRecDepth 20000 in
theorem gX4_ring_X0_hasBeadsFrom : GoodIn wsX4_ring (wsV RX4 48 RX0 yX0_hasBeadsFrom wsX0_hasBeadsFrom) := goodIn_app (goodIn_of _ (by decide +kernel)) ggX4_ring_X0_hasBeadsFrom
theorem dX4_ring_0 : decode cX4_ring 0 = .ok (.iload_n 1, 1) := by decide +kernel
theorem dX4_ring_1 : decode cX4_ring 1 = .ok (.ifCond .eq 26, 3) := by decide +kernel
theorem dX4_ring_4 : decode cX4_ring 4 = .ok (.iload_n 1, 1) := by decide +kernel
theorem dX4_ring_5 : decode cX4_ring 5 = .ok (.iconst 3, 1) := by decide +kernel
theorem dX4_ring_6 : decode cX4_ring 6 = .ok (.bipush 12, 2) := by decide +kernel
theorem dX4_ring_8 : decode cX4_ring 8 = .ok (.invokestatic 45, 3) := by decide +kernel
theorem dX4_ring_11 : decode cX4_ring 11 = .ok (.ifCond .eq 14, 3) := by decide +kernel
theorem dX4_ring_14 : decode cX4_ring 14 = .ok (.aload_n 0, 1) := by decide +kernel
theorem dX4_ring_15 : decode cX4_ring 15 = .ok (.getfield 12, 3) := by decide +kernel
theorem dX4_ring_18 : decode cX4_ring 18 = .ok (.iload_n 1, 1) := by decide +kernel
theorem dX4_ring_19 : decode cX4_ring 19 = .ok (.invokevirtual 48, 3) := by decide +kernel
theorem dX4_ring_22 : decode cX4_ring 22 = .ok (.ifCond .eq 5, 3) := by decide +kernel
theorem dX4_ring_25 : decode cX4_ring 25 = .ok (.iconst 0, 1) := by decide +kernel
theorem dX4_ring_26 : decode cX4_ring 26 = .ok (.ireturn, 1) := by decide +kernel
theorem dX4_ring_27 : decode cX4_ring 27 = .ok (.aload_n 0, 1) := by decide +kernel
theorem dX4_ring_28 : decode cX4_ring 28 = .ok (.getfield 12, 3) := by decide +kernel
theorem dX4_ring_31 : decode cX4_ring 31 = .ok (.iload_n 1, 1) := by decide +kernel
theorem dX4_ring_32 : decode cX4_ring 32 = .ok (.putfield 52, 3) := by decide +kernel
theorem dX4_ring_35 : decode cX4_ring 35 = .ok (.iconst 1, 1) := by decide +kernel
theorem dX4_ring_36 : decode cX4_ring 36 = .ok (.ireturn, 1) := by decide +kernel
set_option maxRecDepth 20000 in
theorem ggX4_colour_X4_isColour : GoodIn wsX4_colour wsX4_isColour := goodIn_r _ [8, 9, 10, 7, 11] (by decide +kernel) (by decide +kernel)
set_option maxRecDepth 20000 in
theorem gX4_colour_X4_isColour : GoodIn wsX4_colour (va_wsS RX4 55 yX4_isColour wsX4_isColour) := goodIn_app (goodIn_of _ (by decide +kernel)) ggX4_colour_X4_isColour
set_option maxRecDepth 20000 in
theorem ggX4_colour_X4_isWithin : GoodIn wsX4_colour wsX4_isWithin := goodIn_r _ [11] (by decide +kernel) (by decide +kernel)
set_option maxRecDepth 20000 in
theorem gX4_colour_X4_isWithin : GoodIn wsX4_colour (va_wsS RX4 45 yX4_isWithin wsX4_isWithin) := goodIn_app (goodIn_of _ (by decide +kernel)) ggX4_colour_X4_isWithin
theorem dX4_colour_0 : decode cX4_colour 0 = .ok (.iload_n 1, 1) := by decide +kernel
theorem dX4_colour_1 : decode cX4_colour 1 = .ok (.invokestatic 55, 3) := by decide +kernel
theorem dX4_colour_4 : decode cX4_colour 4 = .ok (.ifCond .eq 34, 3) := by decide +kernel
theorem dX4_colour_7 : decode cX4_colour 7 = .ok (.iload_n 2, 1) := by decide +kernel
theorem dX4_colour_8 : decode cX4_colour 8 = .ok (.iconst 1, 1) := by decide +kernel
theorem dX4_colour_9 : decode cX4_colour 9 = .ok (.bipush 9, 2) := by decide +kernel
theorem dX4_colour_11 : decode cX4_colour 11 = .ok (.invokestatic 45, 3) := by decide +kernel
theorem dX4_colour_14 : decode cX4_colour 14 = .ok (.ifCond .eq 24, 3) := by decide +kernel
theorem dX4_colour_17 : decode cX4_colour 17 = .ok (.iload_n 3, 1) := by decide +kernel
theorem dX4_colour_18 : decode cX4_colour 18 = .ok (.iconst 1, 1) := by decide +kernel
theorem dX4_colour_19 : decode cX4_colour 19 = .ok (.bipush 20, 2) := by decide +kernel
theorem dX4_colour_21 : decode cX4_colour 21 = .ok (.invokestatic 45, 3) := by decide +kernel
theorem dX4_colour_24 : decode cX4_colour 24 = .ok (.ifCond .eq 14, 3) := by decide +kernel
theorem dX4_colour_27 : decode cX4_colour 27 = .ok (.iload 4, 2) := by decide +kernel
theorem dX4_colour_29 : decode cX4_colour 29 = .ok (.iconst 1, 1) := by decide +kernel
theorem dX4_colour_30 : decode cX4_colour 30 = .ok (.bipush 100, 2) := by decide +kernel
theorem dX4_colour_32 : decode cX4_colour 32 = .ok (.invokestatic 45, 3) := by decide +kernel
theorem dX4_colour_35 : decode cX4_colour 35 = .ok (.ifCond .ne 5, 3) := by decide +kernel
theorem dX4_colour_38 : decode cX4_colour 38 = .ok (.iconst 0, 1) := by decide +kernel
theorem dX4_colour_39 : decode cX4_colour 39 = .ok (.ireturn, 1) := by decide +kernel
theorem dX4_colour_40 : decode cX4_colour 40 = .ok (.aload_n 0, 1) := by decide +kernel
theorem dX4_colour_41 : decode cX4_colour 41 = .ok (.getfield 12, 3) := by decide +kernel
theorem dX4_colour_44 : decode cX4_colour 44 = .ok (.getfield 58, 3) := by decide +kernel
theorem dX4_colour_47 : decode cX4_colour 47 = .ok (.iload_n 1, 1) := by decide +kernel
theorem dX4_colour_48 : decode cX4_colour 48 = .ok (.iload_n 2, 1) := by decide +kernel
theorem dX4_colour_49 : decode cX4_colour 49 = .ok (.iastore, 1) := by decide +kernel
theorem dX4_colour_50 : decode cX4_colour 50 = .ok (.aload_n 0, 1) := by decide +kernel
theorem dX4_colour_51 : decode cX4_colour 51 = .ok (.getfield 12, 3) := by decide +kernel
theorem dX4_colour_54 : decode cX4_colour 54 = .ok (.getfield 62, 3) := by decide +kernel
theorem dX4_colour_57 : decode cX4_colour 57 = .ok (.iload_n 1, 1) := by decide +kernel
theorem dX4_colour_58 : decode cX4_colour 58 = .ok (.iload_n 3, 1) := by decide +kernel
theorem dX4_colour_59 : decode cX4_colour 59 = .ok (.iastore, 1) := by decide +kernel
theorem dX4_colour_60 : decode cX4_colour 60 = .ok (.aload_n 0, 1) := by decide +kernel
theorem dX4_colour_61 : decode cX4_colour 61 = .ok (.getfield 12, 3) := by decide +kernel
theorem dX4_colour_64 : decode cX4_colour 64 = .ok (.getfield 65, 3) := by decide +kernel
theorem dX4_colour_67 : decode cX4_colour 67 = .ok (.iload_n 1, 1) := by decide +kernel
theorem dX4_colour_68 : decode cX4_colour 68 = .ok (.iload 4, 2) := by decide +kernel
theorem dX4_colour_70 : decode cX4_colour 70 = .ok (.iastore, 1) := by decide +kernel
theorem dX4_colour_71 : decode cX4_colour 71 = .ok (.iconst 1, 1) := by decide +kernel
theorem dX4_colour_72 : decode cX4_colour 72 = .ok (.ireturn, 1) := by decide +kernel
set_option maxRecDepth 20000 in
theorem ggX4_thread_X4_isWithin : GoodIn wsX4_thread wsX4_isWithin := goodIn_r _ [7] (by decide +kernel) (by decide +kernel)
set_option maxRecDepth 20000 in
theorem gX4_thread_X4_isWithin : GoodIn wsX4_thread (va_wsS RX4 45 yX4_isWithin wsX4_isWithin) := goodIn_app (goodIn_of _ (by decide +kernel)) ggX4_thread_X4_isWithin
