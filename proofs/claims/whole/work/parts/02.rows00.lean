set_option maxRecDepth 20000 in
theorem ggX0_init_J7_fill_53178 : GoodIn wsX0_init wsJ7_fill_53178 := goodIn_r _ [16] (by decide +kernel) (by decide +kernel)
set_option maxRecDepth 20000 in
theorem gX0_init_J7_fill_53178 : GoodIn wsX0_init (va_wsS RX0 37 yJ7_fill_53178 wsJ7_fill_53178) := goodIn_app (goodIn_of _ (by decide +kernel)) ggX0_init_J7_fill_53178
theorem dX0_init_0 : decode cX0_init 0 = .ok (.aload_n 0, 1) := by decide +kernel
theorem dX0_init_1 : decode cX0_init 1 = .ok (.invokespecial 3, 3) := by decide +kernel
theorem dX0_init_4 : decode cX0_init 4 = .ok (.aload_n 0, 1) := by decide +kernel
theorem dX0_init_5 : decode cX0_init 5 = .ok (.sipush 144, 3) := by decide +kernel
theorem dX0_init_8 : decode cX0_init 8 = .ok (.newarray .int, 2) := by decide +kernel
theorem dX0_init_10 : decode cX0_init 10 = .ok (.putfield 9, 3) := by decide +kernel
theorem dX0_init_13 : decode cX0_init 13 = .ok (.aload_n 0, 1) := by decide +kernel
theorem dX0_init_14 : decode cX0_init 14 = .ok (.bipush 6, 2) := by decide +kernel
theorem dX0_init_16 : decode cX0_init 16 = .ok (.newarray .int, 2) := by decide +kernel
theorem dX0_init_18 : decode cX0_init 18 = .ok (.putfield 15, 3) := by decide +kernel
theorem dX0_init_21 : decode cX0_init 21 = .ok (.aload_n 0, 1) := by decide +kernel
theorem dX0_init_22 : decode cX0_init 22 = .ok (.bipush 6, 2) := by decide +kernel
theorem dX0_init_24 : decode cX0_init 24 = .ok (.newarray .int, 2) := by decide +kernel
theorem dX0_init_26 : decode cX0_init 26 = .ok (.putfield 18, 3) := by decide +kernel
theorem dX0_init_29 : decode cX0_init 29 = .ok (.aload_n 0, 1) := by decide +kernel
theorem dX0_init_30 : decode cX0_init 30 = .ok (.bipush 6, 2) := by decide +kernel
theorem dX0_init_32 : decode cX0_init 32 = .ok (.newarray .int, 2) := by decide +kernel
theorem dX0_init_34 : decode cX0_init 34 = .ok (.putfield 21, 3) := by decide +kernel
theorem dX0_init_37 : decode cX0_init 37 = .ok (.aload_n 0, 1) := by decide +kernel
theorem dX0_init_38 : decode cX0_init 38 = .ok (.iconst 0, 1) := by decide +kernel
theorem dX0_init_39 : decode cX0_init 39 = .ok (.putfield 24, 3) := by decide +kernel
theorem dX0_init_42 : decode cX0_init 42 = .ok (.aload_n 0, 1) := by decide +kernel
theorem dX0_init_43 : decode cX0_init 43 = .ok (.iconst 0, 1) := by decide +kernel
theorem dX0_init_44 : decode cX0_init 44 = .ok (.putfield 28, 3) := by decide +kernel
theorem dX0_init_47 : decode cX0_init 47 = .ok (.aload_n 0, 1) := by decide +kernel
theorem dX0_init_48 : decode cX0_init 48 = .ok (.sipush 1000, 3) := by decide +kernel
theorem dX0_init_51 : decode cX0_init 51 = .ok (.putfield 31, 3) := by decide +kernel
theorem dX0_init_54 : decode cX0_init 54 = .ok (.aload_n 0, 1) := by decide +kernel
theorem dX0_init_55 : decode cX0_init 55 = .ok (.iconst 2, 1) := by decide +kernel
theorem dX0_init_56 : decode cX0_init 56 = .ok (.putfield 34, 3) := by decide +kernel
theorem dX0_init_59 : decode cX0_init 59 = .ok (.aload_n 0, 1) := by decide +kernel
theorem dX0_init_60 : decode cX0_init 60 = .ok (.getfield 9, 3) := by decide +kernel
theorem dX0_init_63 : decode cX0_init 63 = .ok (.iconst (-1), 1) := by decide +kernel
theorem dX0_init_64 : decode cX0_init 64 = .ok (.invokestatic 37, 3) := by decide +kernel
theorem dX0_init_67 : decode cX0_init 67 = .ok (.aload_n 0, 1) := by decide +kernel
theorem dX0_init_68 : decode cX0_init 68 = .ok (.getfield 15, 3) := by decide +kernel
theorem dX0_init_71 : decode cX0_init 71 = .ok (.iconst 3, 1) := by decide +kernel
theorem dX0_init_72 : decode cX0_init 72 = .ok (.invokestatic 37, 3) := by decide +kernel
theorem dX0_init_75 : decode cX0_init 75 = .ok (.aload_n 0, 1) := by decide +kernel
theorem dX0_init_76 : decode cX0_init 76 = .ok (.getfield 18, 3) := by decide +kernel
theorem dX0_init_79 : decode cX0_init 79 = .ok (.iconst 1, 1) := by decide +kernel
theorem dX0_init_80 : decode cX0_init 80 = .ok (.invokestatic 37, 3) := by decide +kernel
theorem dX0_init_83 : decode cX0_init 83 = .ok (.aload_n 0, 1) := by decide +kernel
theorem dX0_init_84 : decode cX0_init 84 = .ok (.getfield 21, 3) := by decide +kernel
theorem dX0_init_87 : decode cX0_init 87 = .ok (.iconst 5, 1) := by decide +kernel
theorem dX0_init_88 : decode cX0_init 88 = .ok (.invokestatic 37, 3) := by decide +kernel
theorem dX0_init_91 : decode cX0_init 91 = .ok (.return_, 1) := by decide +kernel
theorem dX0_columnsInUse_0 : decode cX0_columnsInUse 0 = .ok (.aload_n 0, 1) := by decide +kernel
theorem dX0_columnsInUse_1 : decode cX0_columnsInUse 1 = .ok (.getfield 28, 3) := by decide +kernel
theorem dX0_columnsInUse_4 : decode cX0_columnsInUse 4 = .ok (.ifCond .ne 8, 3) := by decide +kernel
theorem dX0_columnsInUse_7 : decode cX0_columnsInUse 7 = .ok (.bipush 12, 2) := by decide +kernel
theorem dX0_columnsInUse_9 : decode cX0_columnsInUse 9 = .ok (.goto 7, 3) := by decide +kernel
theorem dX0_columnsInUse_12 : decode cX0_columnsInUse 12 = .ok (.aload_n 0, 1) := by decide +kernel
theorem dX0_columnsInUse_13 : decode cX0_columnsInUse 13 = .ok (.getfield 28, 3) := by decide +kernel
theorem dX0_columnsInUse_16 : decode cX0_columnsInUse 16 = .ok (.ireturn, 1) := by decide +kernel
set_option maxRecDepth 20000 in
theorem ggX0_holdsRun_X4_isCell : GoodIn wsX0_holdsRun wsX4_isCell := goodIn_r _ [3, 4, 5, 2, 6] (by decide +kernel) (by decide +kernel)
set_option maxRecDepth 20000 in
theorem gX0_holdsRun_X4_isCell_n43 : GoodIn wsX0_holdsRun (wsX4_isCell) := ggX0_holdsRun_X4_isCell
set_option maxRecDepth 20000 in
theorem ggX0_holdsRun_X4_isWithin : GoodIn wsX0_holdsRun wsX4_isWithin := goodIn_r _ [6] (by decide +kernel) (by decide +kernel)
set_option maxRecDepth 20000 in
theorem gX0_holdsRun_X4_isWithin_n47 : GoodIn wsX0_holdsRun (wsX4_isWithin) := ggX0_holdsRun_X4_isWithin
set_option maxRecDepth 20000 in
theorem ggX0_holdsRun_X0_columnsInUse : GoodIn wsX0_holdsRun wsX0_columnsInUse := goodIn_r _ [11, 12, 13, 14, 15, 16, 17, 18, 19, 20] (by decide +kernel) (by decide +kernel)
set_option maxRecDepth 20000 in
theorem gX0_holdsRun_X0_columnsInUse : GoodIn wsX0_holdsRun (wsV RX0 51 RX0 yX0_columnsInUse wsX0_columnsInUse) := goodIn_app (goodIn_of _ (by decide +kernel)) ggX0_holdsRun_X0_columnsInUse
theorem dX0_holdsRun_0 : decode cX0_holdsRun 0 = .ok (.iload_n 1, 1) := by decide +kernel
theorem dX0_holdsRun_1 : decode cX0_holdsRun 1 = .ok (.iload_n 2, 1) := by decide +kernel
theorem dX0_holdsRun_2 : decode cX0_holdsRun 2 = .ok (.invokestatic 43, 3) := by decide +kernel
theorem dX0_holdsRun_5 : decode cX0_holdsRun 5 = .ok (.ifCond .eq 27, 3) := by decide +kernel
theorem dX0_holdsRun_8 : decode cX0_holdsRun 8 = .ok (.iload_n 3, 1) := by decide +kernel
theorem dX0_holdsRun_9 : decode cX0_holdsRun 9 = .ok (.iconst 1, 1) := by decide +kernel
theorem dX0_holdsRun_10 : decode cX0_holdsRun 10 = .ok (.bipush 12, 2) := by decide +kernel
theorem dX0_holdsRun_12 : decode cX0_holdsRun 12 = .ok (.invokestatic 47, 3) := by decide +kernel
theorem dX0_holdsRun_15 : decode cX0_holdsRun 15 = .ok (.ifCond .eq 17, 3) := by decide +kernel
theorem dX0_holdsRun_18 : decode cX0_holdsRun 18 = .ok (.iload_n 2, 1) := by decide +kernel
theorem dX0_holdsRun_19 : decode cX0_holdsRun 19 = .ok (.iload_n 3, 1) := by decide +kernel
theorem dX0_holdsRun_20 : decode cX0_holdsRun 20 = .ok (.iadd, 1) := by decide +kernel
theorem dX0_holdsRun_21 : decode cX0_holdsRun 21 = .ok (.aload_n 0, 1) := by decide +kernel
theorem dX0_holdsRun_22 : decode cX0_holdsRun 22 = .ok (.invokevirtual 51, 3) := by decide +kernel
theorem dX0_holdsRun_25 : decode cX0_holdsRun 25 = .ok (.if_icmp .gt 7, 3) := by decide +kernel
theorem dX0_holdsRun_28 : decode cX0_holdsRun 28 = .ok (.iconst 1, 1) := by decide +kernel
theorem dX0_holdsRun_29 : decode cX0_holdsRun 29 = .ok (.goto 4, 3) := by decide +kernel
theorem dX0_holdsRun_32 : decode cX0_holdsRun 32 = .ok (.iconst 0, 1) := by decide +kernel
theorem dX0_holdsRun_33 : decode cX0_holdsRun 33 = .ok (.ireturn, 1) := by decide +kernel
theorem dX0_putRun_0 : decode cX0_putRun 0 = .ok (.iconst 0, 1) := by decide +kernel
theorem dX0_putRun_1 : decode cX0_putRun 1 = .ok (.istore 6, 2) := by decide +kernel
theorem dX0_putRun_3 : decode cX0_putRun 3 = .ok (.iload 6, 2) := by decide +kernel
theorem dX0_putRun_5 : decode cX0_putRun 5 = .ok (.iload_n 3, 1) := by decide +kernel
theorem dX0_putRun_6 : decode cX0_putRun 6 = .ok (.if_icmp .ge 57, 3) := by decide +kernel
theorem dX0_putRun_9 : decode cX0_putRun 9 = .ok (.lload 4, 2) := by decide +kernel
theorem dX0_putRun_11 : decode cX0_putRun 11 = .ok (.iconst 3, 1) := by decide +kernel
theorem dX0_putRun_12 : decode cX0_putRun 12 = .ok (.iload 6, 2) := by decide +kernel
theorem dX0_putRun_14 : decode cX0_putRun 14 = .ok (.imul, 1) := by decide +kernel
theorem dX0_putRun_15 : decode cX0_putRun 15 = .ok (.lushr, 1) := by decide +kernel
theorem dX0_putRun_16 : decode cX0_putRun 16 = .ok (.ldc2_w 55, 3) := by decide +kernel
theorem dX0_putRun_19 : decode cX0_putRun 19 = .ok (.land, 1) := by decide +kernel
theorem dX0_putRun_20 : decode cX0_putRun 20 = .ok (.l2i, 1) := by decide +kernel
theorem dX0_putRun_21 : decode cX0_putRun 21 = .ok (.istore 7, 2) := by decide +kernel
theorem dX0_putRun_23 : decode cX0_putRun 23 = .ok (.iload 7, 2) := by decide +kernel
theorem dX0_putRun_25 : decode cX0_putRun 25 = .ok (.bipush 7, 2) := by decide +kernel
theorem dX0_putRun_27 : decode cX0_putRun 27 = .ok (.if_icmp .eq 30, 3) := by decide +kernel
theorem dX0_putRun_30 : decode cX0_putRun 30 = .ok (.aload_n 0, 1) := by decide +kernel
theorem dX0_putRun_31 : decode cX0_putRun 31 = .ok (.getfield 9, 3) := by decide +kernel
theorem dX0_putRun_34 : decode cX0_putRun 34 = .ok (.iload_n 1, 1) := by decide +kernel
theorem dX0_putRun_35 : decode cX0_putRun 35 = .ok (.bipush 12, 2) := by decide +kernel
theorem dX0_putRun_37 : decode cX0_putRun 37 = .ok (.imul, 1) := by decide +kernel
theorem dX0_putRun_38 : decode cX0_putRun 38 = .ok (.iload_n 2, 1) := by decide +kernel
theorem dX0_putRun_39 : decode cX0_putRun 39 = .ok (.iadd, 1) := by decide +kernel
theorem dX0_putRun_40 : decode cX0_putRun 40 = .ok (.iload 6, 2) := by decide +kernel
theorem dX0_putRun_42 : decode cX0_putRun 42 = .ok (.iadd, 1) := by decide +kernel
theorem dX0_putRun_43 : decode cX0_putRun 43 = .ok (.iload 7, 2) := by decide +kernel
theorem dX0_putRun_45 : decode cX0_putRun 45 = .ok (.bipush 6, 2) := by decide +kernel
theorem dX0_putRun_47 : decode cX0_putRun 47 = .ok (.if_icmp .ne 7, 3) := by decide +kernel
theorem dX0_putRun_50 : decode cX0_putRun 50 = .ok (.iconst (-1), 1) := by decide +kernel
theorem dX0_putRun_51 : decode cX0_putRun 51 = .ok (.goto 5, 3) := by decide +kernel
theorem dX0_putRun_54 : decode cX0_putRun 54 = .ok (.iload 7, 2) := by decide +kernel
theorem dX0_putRun_56 : decode cX0_putRun 56 = .ok (.iastore, 1) := by decide +kernel
theorem dX0_putRun_57 : decode cX0_putRun 57 = .ok (.iinc 6 1, 3) := by decide +kernel
theorem dX0_putRun_60 : decode cX0_putRun 60 = .ok (.goto (-57), 3) := by decide +kernel
theorem dX0_putRun_63 : decode cX0_putRun 63 = .ok (.return_, 1) := by decide +kernel
set_option maxRecDepth 20000 in
theorem ggX0_colourAt_X4_isCell : GoodIn wsX0_colourAt wsX4_isCell := goodIn_r _ [4, 5, 6, 3, 7] (by decide +kernel) (by decide +kernel)
set_option maxRecDepth 20000 in
theorem gX0_colourAt_X4_isCell_n43 : GoodIn wsX0_colourAt (wsX4_isCell) := ggX0_colourAt_X4_isCell
theorem dX0_colourAt_0 : decode cX0_colourAt 0 = .ok (.iload_n 1, 1) := by decide +kernel
theorem dX0_colourAt_1 : decode cX0_colourAt 1 = .ok (.iload_n 2, 1) := by decide +kernel
theorem dX0_colourAt_2 : decode cX0_colourAt 2 = .ok (.invokestatic 43, 3) := by decide +kernel
theorem dX0_colourAt_5 : decode cX0_colourAt 5 = .ok (.ifCond .eq 17, 3) := by decide +kernel
theorem dX0_colourAt_8 : decode cX0_colourAt 8 = .ok (.aload_n 0, 1) := by decide +kernel
theorem dX0_colourAt_9 : decode cX0_colourAt 9 = .ok (.getfield 9, 3) := by decide +kernel
theorem dX0_colourAt_12 : decode cX0_colourAt 12 = .ok (.iload_n 1, 1) := by decide +kernel
theorem dX0_colourAt_13 : decode cX0_colourAt 13 = .ok (.bipush 12, 2) := by decide +kernel
theorem dX0_colourAt_15 : decode cX0_colourAt 15 = .ok (.imul, 1) := by decide +kernel
theorem dX0_colourAt_16 : decode cX0_colourAt 16 = .ok (.iload_n 2, 1) := by decide +kernel
theorem dX0_colourAt_17 : decode cX0_colourAt 17 = .ok (.iadd, 1) := by decide +kernel
theorem dX0_colourAt_18 : decode cX0_colourAt 18 = .ok (.iaload, 1) := by decide +kernel
theorem dX0_colourAt_19 : decode cX0_colourAt 19 = .ok (.goto 4, 3) := by decide +kernel
theorem dX0_colourAt_22 : decode cX0_colourAt 22 = .ok (.iconst (-1), 1) := by decide +kernel
theorem dX0_colourAt_23 : decode cX0_colourAt 23 = .ok (.ireturn, 1) := by decide +kernel
theorem dX0_hasBeadsFrom_0 : decode cX0_hasBeadsFrom 0 = .ok (.iconst 0, 1) := by decide +kernel
theorem dX0_hasBeadsFrom_1 : decode cX0_hasBeadsFrom 1 = .ok (.istore_n 2, 1) := by decide +kernel
theorem dX0_hasBeadsFrom_2 : decode cX0_hasBeadsFrom 2 = .ok (.iload_n 2, 1) := by decide +kernel
theorem dX0_hasBeadsFrom_3 : decode cX0_hasBeadsFrom 3 = .ok (.sipush 144, 3) := by decide +kernel
theorem dX0_hasBeadsFrom_6 : decode cX0_hasBeadsFrom 6 = .ok (.if_icmp .ge 29, 3) := by decide +kernel
theorem dX0_hasBeadsFrom_9 : decode cX0_hasBeadsFrom 9 = .ok (.iload_n 2, 1) := by decide +kernel
theorem dX0_hasBeadsFrom_10 : decode cX0_hasBeadsFrom 10 = .ok (.bipush 12, 2) := by decide +kernel
theorem dX0_hasBeadsFrom_12 : decode cX0_hasBeadsFrom 12 = .ok (.irem, 1) := by decide +kernel
theorem dX0_hasBeadsFrom_13 : decode cX0_hasBeadsFrom 13 = .ok (.iload_n 1, 1) := by decide +kernel
theorem dX0_hasBeadsFrom_14 : decode cX0_hasBeadsFrom 14 = .ok (.if_icmp .lt 15, 3) := by decide +kernel
theorem dX0_hasBeadsFrom_17 : decode cX0_hasBeadsFrom 17 = .ok (.aload_n 0, 1) := by decide +kernel
theorem dX0_hasBeadsFrom_18 : decode cX0_hasBeadsFrom 18 = .ok (.getfield 9, 3) := by decide +kernel
theorem dX0_hasBeadsFrom_21 : decode cX0_hasBeadsFrom 21 = .ok (.iload_n 2, 1) := by decide +kernel
theorem dX0_hasBeadsFrom_22 : decode cX0_hasBeadsFrom 22 = .ok (.iaload, 1) := by decide +kernel
theorem dX0_hasBeadsFrom_23 : decode cX0_hasBeadsFrom 23 = .ok (.iconst (-1), 1) := by decide +kernel
theorem dX0_hasBeadsFrom_24 : decode cX0_hasBeadsFrom 24 = .ok (.if_icmp .eq 5, 3) := by decide +kernel
theorem dX0_hasBeadsFrom_27 : decode cX0_hasBeadsFrom 27 = .ok (.iconst 1, 1) := by decide +kernel
theorem dX0_hasBeadsFrom_28 : decode cX0_hasBeadsFrom 28 = .ok (.ireturn, 1) := by decide +kernel
theorem dX0_hasBeadsFrom_29 : decode cX0_hasBeadsFrom 29 = .ok (.iinc 2 1, 3) := by decide +kernel
theorem dX0_hasBeadsFrom_32 : decode cX0_hasBeadsFrom 32 = .ok (.goto (-30), 3) := by decide +kernel
theorem dX0_hasBeadsFrom_35 : decode cX0_hasBeadsFrom 35 = .ok (.iconst 0, 1) := by decide +kernel
theorem dX0_hasBeadsFrom_36 : decode cX0_hasBeadsFrom 36 = .ok (.ireturn, 1) := by decide +kernel
set_option maxRecDepth 20000 in
theorem ggX0_beadsInRow_X0_colourAt : GoodIn wsX0_beadsInRow wsX0_colourAt := goodIn_r _ [5, 6, 7, 8, 9, 10, 11, 12, 13, 14, 15, 16, 17, 18, 19, 20] (by decide +kernel) (by decide +kernel)
set_option maxRecDepth 20000 in
theorem gX0_beadsInRow_X0_colourAt : GoodIn wsX0_beadsInRow (wsV RX0 57 RX0 yX0_colourAt wsX0_colourAt) := goodIn_app (goodIn_of _ (by decide +kernel)) ggX0_beadsInRow_X0_colourAt
theorem dX0_beadsInRow_0 : decode cX0_beadsInRow 0 = .ok (.iconst 0, 1) := by decide +kernel
theorem dX0_beadsInRow_1 : decode cX0_beadsInRow 1 = .ok (.istore_n 2, 1) := by decide +kernel
theorem dX0_beadsInRow_2 : decode cX0_beadsInRow 2 = .ok (.iconst 0, 1) := by decide +kernel
theorem dX0_beadsInRow_3 : decode cX0_beadsInRow 3 = .ok (.istore_n 3, 1) := by decide +kernel
theorem dX0_beadsInRow_4 : decode cX0_beadsInRow 4 = .ok (.iload_n 3, 1) := by decide +kernel
theorem dX0_beadsInRow_5 : decode cX0_beadsInRow 5 = .ok (.bipush 12, 2) := by decide +kernel
theorem dX0_beadsInRow_7 : decode cX0_beadsInRow 7 = .ok (.if_icmp .ge 22, 3) := by decide +kernel
theorem dX0_beadsInRow_10 : decode cX0_beadsInRow 10 = .ok (.aload_n 0, 1) := by decide +kernel
theorem dX0_beadsInRow_11 : decode cX0_beadsInRow 11 = .ok (.iload_n 1, 1) := by decide +kernel
theorem dX0_beadsInRow_12 : decode cX0_beadsInRow 12 = .ok (.iload_n 3, 1) := by decide +kernel
theorem dX0_beadsInRow_13 : decode cX0_beadsInRow 13 = .ok (.invokevirtual 57, 3) := by decide +kernel
theorem dX0_beadsInRow_16 : decode cX0_beadsInRow 16 = .ok (.iconst (-1), 1) := by decide +kernel
theorem dX0_beadsInRow_17 : decode cX0_beadsInRow 17 = .ok (.if_icmp .eq 6, 3) := by decide +kernel
theorem dX0_beadsInRow_20 : decode cX0_beadsInRow 20 = .ok (.iinc 2 1, 3) := by decide +kernel
theorem dX0_beadsInRow_23 : decode cX0_beadsInRow 23 = .ok (.iinc 3 1, 3) := by decide +kernel
theorem dX0_beadsInRow_26 : decode cX0_beadsInRow 26 = .ok (.goto (-22), 3) := by decide +kernel
theorem dX0_beadsInRow_29 : decode cX0_beadsInRow 29 = .ok (.iload_n 2, 1) := by decide +kernel
theorem dX0_beadsInRow_30 : decode cX0_beadsInRow 30 = .ok (.ireturn, 1) := by decide +kernel
set_option maxRecDepth 20000 in
theorem ggX0_rowsWithBeads_X0_beadsInRow : GoodIn wsX0_rowsWithBeads wsX0_beadsInRow := goodIn_r _ [5, 6, 7, 8, 4, 9, 10, 11, 12, 13, 14, 15, 16, 17, 18, 19, 20, 21, 22, 23, 24] (by decide +kernel) (by decide +kernel)
set_option maxRecDepth 20000 in
theorem gX0_rowsWithBeads_X0_beadsInRow : GoodIn wsX0_rowsWithBeads (wsV RX0 61 RX0 yX0_beadsInRow wsX0_beadsInRow) := goodIn_app (goodIn_of _ (by decide +kernel)) ggX0_rowsWithBeads_X0_beadsInRow
theorem dX0_rowsWithBeads_0 : decode cX0_rowsWithBeads 0 = .ok (.iconst 0, 1) := by decide +kernel
theorem dX0_rowsWithBeads_1 : decode cX0_rowsWithBeads 1 = .ok (.istore_n 1, 1) := by decide +kernel
theorem dX0_rowsWithBeads_2 : decode cX0_rowsWithBeads 2 = .ok (.iconst 0, 1) := by decide +kernel
theorem dX0_rowsWithBeads_3 : decode cX0_rowsWithBeads 3 = .ok (.istore_n 2, 1) := by decide +kernel
theorem dX0_rowsWithBeads_4 : decode cX0_rowsWithBeads 4 = .ok (.iload_n 2, 1) := by decide +kernel
theorem dX0_rowsWithBeads_5 : decode cX0_rowsWithBeads 5 = .ok (.bipush 12, 2) := by decide +kernel
theorem dX0_rowsWithBeads_7 : decode cX0_rowsWithBeads 7 = .ok (.if_icmp .ge 20, 3) := by decide +kernel
theorem dX0_rowsWithBeads_10 : decode cX0_rowsWithBeads 10 = .ok (.aload_n 0, 1) := by decide +kernel
theorem dX0_rowsWithBeads_11 : decode cX0_rowsWithBeads 11 = .ok (.iload_n 2, 1) := by decide +kernel
theorem dX0_rowsWithBeads_12 : decode cX0_rowsWithBeads 12 = .ok (.invokevirtual 61, 3) := by decide +kernel
theorem dX0_rowsWithBeads_15 : decode cX0_rowsWithBeads 15 = .ok (.ifCond .le 6, 3) := by decide +kernel
theorem dX0_rowsWithBeads_18 : decode cX0_rowsWithBeads 18 = .ok (.iinc 1 1, 3) := by decide +kernel
theorem dX0_rowsWithBeads_21 : decode cX0_rowsWithBeads 21 = .ok (.iinc 2 1, 3) := by decide +kernel
theorem dX0_rowsWithBeads_24 : decode cX0_rowsWithBeads 24 = .ok (.goto (-20), 3) := by decide +kernel
theorem dX0_rowsWithBeads_27 : decode cX0_rowsWithBeads 27 = .ok (.iload_n 1, 1) := by decide +kernel
theorem dX0_rowsWithBeads_28 : decode cX0_rowsWithBeads 28 = .ok (.ireturn, 1) := by decide +kernel
set_option maxRecDepth 20000 in
theorem ggX0_allBeads_X0_cellsThatHold : GoodIn wsX0_allBeads wsX0_cellsThatHold := goodIn_r _ [5, 6, 7, 8, 9, 10, 11, 12, 13, 14] (by decide +kernel) (by decide +kernel)
set_option maxRecDepth 20000 in
theorem gX0_allBeads_X0_cellsThatHold : GoodIn wsX0_allBeads (wsV RX0 65 RX0 yX0_cellsThatHold wsX0_cellsThatHold) := goodIn_app (goodIn_of _ (by decide +kernel)) ggX0_allBeads_X0_cellsThatHold
theorem dX0_allBeads_0 : decode cX0_allBeads 0 = .ok (.sipush 144, 3) := by decide +kernel
theorem dX0_allBeads_3 : decode cX0_allBeads 3 = .ok (.aload_n 0, 1) := by decide +kernel
theorem dX0_allBeads_4 : decode cX0_allBeads 4 = .ok (.iconst (-1), 1) := by decide +kernel
theorem dX0_allBeads_5 : decode cX0_allBeads 5 = .ok (.invokevirtual 65, 3) := by decide +kernel
theorem dX0_allBeads_8 : decode cX0_allBeads 8 = .ok (.isub, 1) := by decide +kernel
theorem dX0_allBeads_9 : decode cX0_allBeads 9 = .ok (.ireturn, 1) := by decide +kernel
set_option maxRecDepth 20000 in
theorem ggX0_beadsOfColour_X0_cellsThatHold : GoodIn wsX0_beadsOfColour wsX0_cellsThatHold := goodIn_r _ [5, 6, 7, 8, 9, 10, 11, 12, 13, 14] (by decide +kernel) (by decide +kernel)
set_option maxRecDepth 20000 in
theorem gX0_beadsOfColour_X0_cellsThatHold : GoodIn wsX0_beadsOfColour (wsV RX0 65 RX0 yX0_cellsThatHold wsX0_cellsThatHold) := goodIn_app (goodIn_of _ (by decide +kernel)) ggX0_beadsOfColour_X0_cellsThatHold
theorem dX0_beadsOfColour_0 : decode cX0_beadsOfColour 0 = .ok (.aload_n 0, 1) := by decide +kernel
theorem dX0_beadsOfColour_1 : decode cX0_beadsOfColour 1 = .ok (.iload_n 1, 1) := by decide +kernel
theorem dX0_beadsOfColour_2 : decode cX0_beadsOfColour 2 = .ok (.invokevirtual 65, 3) := by decide +kernel
theorem dX0_beadsOfColour_5 : decode cX0_beadsOfColour 5 = .ok (.ireturn, 1) := by decide +kernel
theorem dX0_cellsThatHold_0 : decode cX0_cellsThatHold 0 = .ok (.iconst 0, 1) := by decide +kernel
theorem dX0_cellsThatHold_1 : decode cX0_cellsThatHold 1 = .ok (.istore_n 2, 1) := by decide +kernel
theorem dX0_cellsThatHold_2 : decode cX0_cellsThatHold 2 = .ok (.iconst 0, 1) := by decide +kernel
theorem dX0_cellsThatHold_3 : decode cX0_cellsThatHold 3 = .ok (.istore_n 3, 1) := by decide +kernel
theorem dX0_cellsThatHold_4 : decode cX0_cellsThatHold 4 = .ok (.iload_n 3, 1) := by decide +kernel
theorem dX0_cellsThatHold_5 : decode cX0_cellsThatHold 5 = .ok (.sipush 144, 3) := by decide +kernel
theorem dX0_cellsThatHold_8 : decode cX0_cellsThatHold 8 = .ok (.if_icmp .ge 22, 3) := by decide +kernel
theorem dX0_cellsThatHold_11 : decode cX0_cellsThatHold 11 = .ok (.aload_n 0, 1) := by decide +kernel
theorem dX0_cellsThatHold_12 : decode cX0_cellsThatHold 12 = .ok (.getfield 9, 3) := by decide +kernel
theorem dX0_cellsThatHold_15 : decode cX0_cellsThatHold 15 = .ok (.iload_n 3, 1) := by decide +kernel
theorem dX0_cellsThatHold_16 : decode cX0_cellsThatHold 16 = .ok (.iaload, 1) := by decide +kernel
theorem dX0_cellsThatHold_17 : decode cX0_cellsThatHold 17 = .ok (.iload_n 1, 1) := by decide +kernel
theorem dX0_cellsThatHold_18 : decode cX0_cellsThatHold 18 = .ok (.if_icmp .ne 6, 3) := by decide +kernel
theorem dX0_cellsThatHold_21 : decode cX0_cellsThatHold 21 = .ok (.iinc 2 1, 3) := by decide +kernel
theorem dX0_cellsThatHold_24 : decode cX0_cellsThatHold 24 = .ok (.iinc 3 1, 3) := by decide +kernel
theorem dX0_cellsThatHold_27 : decode cX0_cellsThatHold 27 = .ok (.goto (-23), 3) := by decide +kernel
theorem dX0_cellsThatHold_30 : decode cX0_cellsThatHold 30 = .ok (.iload_n 2, 1) := by decide +kernel
theorem dX0_cellsThatHold_31 : decode cX0_cellsThatHold 31 = .ok (.ireturn, 1) := by decide +kernel
set_option maxRecDepth 20000 in
theorem ggX0_lowerCatch_X0_leftCatch : GoodIn wsX0_lowerCatch wsX0_leftCatch := goodIn_r _ [10, 11, 12, 13, 9, 14, 15, 20, 21, 22, 23, 24, 25, 26, 27] (by decide +kernel) (by decide +kernel)
set_option maxRecDepth 20000 in
theorem gX0_lowerCatch_X0_leftCatch : GoodIn wsX0_lowerCatch (wsV RX0 68 RX0 yX0_leftCatch wsX0_leftCatch) := goodIn_app (goodIn_of _ (by decide +kernel)) ggX0_lowerCatch_X0_leftCatch
set_option maxRecDepth 20000 in
theorem ggX0_lowerCatch_X0_rightCatch : GoodIn wsX0_lowerCatch wsX0_rightCatch := goodIn_r _ [19, 11, 12, 13, 9, 14, 15, 20, 21, 22, 23, 24, 25, 26, 27] (by decide +kernel) (by decide +kernel)
set_option maxRecDepth 20000 in
theorem gX0_lowerCatch_X0_rightCatch : GoodIn wsX0_lowerCatch (wsV RX0 71 RX0 yX0_rightCatch wsX0_rightCatch) := goodIn_app (goodIn_of _ (by decide +kernel)) ggX0_lowerCatch_X0_rightCatch
theorem dX0_lowerCatch_0 : decode cX0_lowerCatch 0 = .ok (.aload_n 0, 1) := by decide +kernel
theorem dX0_lowerCatch_1 : decode cX0_lowerCatch 1 = .ok (.getfield 24, 3) := by decide +kernel
theorem dX0_lowerCatch_4 : decode cX0_lowerCatch 4 = .ok (.ifCond .ne 5, 3) := by decide +kernel
theorem dX0_lowerCatch_7 : decode cX0_lowerCatch 7 = .ok (.iload_n 2, 1) := by decide +kernel
theorem dX0_lowerCatch_8 : decode cX0_lowerCatch 8 = .ok (.ireturn, 1) := by decide +kernel
theorem dX0_lowerCatch_9 : decode cX0_lowerCatch 9 = .ok (.aload_n 0, 1) := by decide +kernel
theorem dX0_lowerCatch_10 : decode cX0_lowerCatch 10 = .ok (.iload_n 1, 1) := by decide +kernel
theorem dX0_lowerCatch_11 : decode cX0_lowerCatch 11 = .ok (.iload_n 2, 1) := by decide +kernel
theorem dX0_lowerCatch_12 : decode cX0_lowerCatch 12 = .ok (.invokevirtual 68, 3) := by decide +kernel
theorem dX0_lowerCatch_15 : decode cX0_lowerCatch 15 = .ok (.aload_n 0, 1) := by decide +kernel
theorem dX0_lowerCatch_16 : decode cX0_lowerCatch 16 = .ok (.iload_n 1, 1) := by decide +kernel
theorem dX0_lowerCatch_17 : decode cX0_lowerCatch 17 = .ok (.iload_n 2, 1) := by decide +kernel
theorem dX0_lowerCatch_18 : decode cX0_lowerCatch 18 = .ok (.invokevirtual 71, 3) := by decide +kernel
theorem dX0_lowerCatch_21 : decode cX0_lowerCatch 21 = .ok (.invokestatic 74, 3) := by decide +kernel
theorem dX0_lowerCatch_24 : decode cX0_lowerCatch 24 = .ok (.ireturn, 1) := by decide +kernel
set_option maxRecDepth 20000 in
theorem ggX0_upperCatch_X0_leftCatch : GoodIn wsX0_upperCatch wsX0_leftCatch := goodIn_r _ [10, 11, 12, 13, 9, 14, 15, 20, 21, 22, 23, 24, 25, 26, 27] (by decide +kernel) (by decide +kernel)
set_option maxRecDepth 20000 in
theorem gX0_upperCatch_X0_leftCatch : GoodIn wsX0_upperCatch (wsV RX0 68 RX0 yX0_leftCatch wsX0_leftCatch) := goodIn_app (goodIn_of _ (by decide +kernel)) ggX0_upperCatch_X0_leftCatch
set_option maxRecDepth 20000 in
theorem ggX0_upperCatch_X0_rightCatch : GoodIn wsX0_upperCatch wsX0_rightCatch := goodIn_r _ [19, 11, 12, 13, 9, 14, 15, 20, 21, 22, 23, 24, 25, 26, 27] (by decide +kernel) (by decide +kernel)
set_option maxRecDepth 20000 in
theorem gX0_upperCatch_X0_rightCatch : GoodIn wsX0_upperCatch (wsV RX0 71 RX0 yX0_rightCatch wsX0_rightCatch) := goodIn_app (goodIn_of _ (by decide +kernel)) ggX0_upperCatch_X0_rightCatch
theorem dX0_upperCatch_0 : decode cX0_upperCatch 0 = .ok (.aload_n 0, 1) := by decide +kernel
theorem dX0_upperCatch_1 : decode cX0_upperCatch 1 = .ok (.getfield 24, 3) := by decide +kernel
theorem dX0_upperCatch_4 : decode cX0_upperCatch 4 = .ok (.ifCond .ne 5, 3) := by decide +kernel
theorem dX0_upperCatch_7 : decode cX0_upperCatch 7 = .ok (.iconst (-1), 1) := by decide +kernel
theorem dX0_upperCatch_8 : decode cX0_upperCatch 8 = .ok (.ireturn, 1) := by decide +kernel
theorem dX0_upperCatch_9 : decode cX0_upperCatch 9 = .ok (.aload_n 0, 1) := by decide +kernel
theorem dX0_upperCatch_10 : decode cX0_upperCatch 10 = .ok (.iload_n 1, 1) := by decide +kernel
theorem dX0_upperCatch_11 : decode cX0_upperCatch 11 = .ok (.iload_n 2, 1) := by decide +kernel
theorem dX0_upperCatch_12 : decode cX0_upperCatch 12 = .ok (.invokevirtual 68, 3) := by decide +kernel
theorem dX0_upperCatch_15 : decode cX0_upperCatch 15 = .ok (.aload_n 0, 1) := by decide +kernel
theorem dX0_upperCatch_16 : decode cX0_upperCatch 16 = .ok (.iload_n 1, 1) := by decide +kernel
theorem dX0_upperCatch_17 : decode cX0_upperCatch 17 = .ok (.iload_n 2, 1) := by decide +kernel
theorem dX0_upperCatch_18 : decode cX0_upperCatch 18 = .ok (.invokevirtual 71, 3) := by decide +kernel
theorem dX0_upperCatch_21 : decode cX0_upperCatch 21 = .ok (.invokestatic 79, 3) := by decide +kernel
theorem dX0_upperCatch_24 : decode cX0_upperCatch 24 = .ok (.ireturn, 1) := by decide +kernel
set_option maxRecDepth 20000 in
theorem ggX0_leftCatch_X0_aroundTheRing : GoodIn wsX0_leftCatch wsX0_aroundTheRing := goodIn_r _ [5, 6, 7, 8, 9, 10, 11, 12, 13, 14] (by decide +kernel) (by decide +kernel)
set_option maxRecDepth 20000 in
theorem gX0_leftCatch_X0_aroundTheRing : GoodIn wsX0_leftCatch (wsV RX0 82 RX0 yX0_aroundTheRing wsX0_aroundTheRing) := goodIn_app (goodIn_of _ (by decide +kernel)) ggX0_leftCatch_X0_aroundTheRing
theorem dX0_leftCatch_0 : decode cX0_leftCatch 0 = .ok (.aload_n 0, 1) := by decide +kernel
theorem dX0_leftCatch_1 : decode cX0_leftCatch 1 = .ok (.iload_n 2, 1) := by decide +kernel
theorem dX0_leftCatch_2 : decode cX0_leftCatch 2 = .ok (.iconst 1, 1) := by decide +kernel
theorem dX0_leftCatch_3 : decode cX0_leftCatch 3 = .ok (.isub, 1) := by decide +kernel
theorem dX0_leftCatch_4 : decode cX0_leftCatch 4 = .ok (.iload_n 1, 1) := by decide +kernel
theorem dX0_leftCatch_5 : decode cX0_leftCatch 5 = .ok (.iconst 2, 1) := by decide +kernel
theorem dX0_leftCatch_6 : decode cX0_leftCatch 6 = .ok (.irem, 1) := by decide +kernel
theorem dX0_leftCatch_7 : decode cX0_leftCatch 7 = .ok (.iadd, 1) := by decide +kernel
theorem dX0_leftCatch_8 : decode cX0_leftCatch 8 = .ok (.invokevirtual 82, 3) := by decide +kernel
theorem dX0_leftCatch_11 : decode cX0_leftCatch 11 = .ok (.ireturn, 1) := by decide +kernel
set_option maxRecDepth 20000 in
theorem ggX0_rightCatch_X0_aroundTheRing : GoodIn wsX0_rightCatch wsX0_aroundTheRing := goodIn_r _ [5, 6, 7, 8, 9, 10, 11, 12, 13, 14] (by decide +kernel) (by decide +kernel)
set_option maxRecDepth 20000 in
theorem gX0_rightCatch_X0_aroundTheRing : GoodIn wsX0_rightCatch (wsV RX0 82 RX0 yX0_aroundTheRing wsX0_aroundTheRing) := goodIn_app (goodIn_of _ (by decide +kernel)) ggX0_rightCatch_X0_aroundTheRing
theorem dX0_rightCatch_0 : decode cX0_rightCatch 0 = .ok (.aload_n 0, 1) := by decide +kernel
theorem dX0_rightCatch_1 : decode cX0_rightCatch 1 = .ok (.iload_n 2, 1) := by decide +kernel
theorem dX0_rightCatch_2 : decode cX0_rightCatch 2 = .ok (.iload_n 1, 1) := by decide +kernel
theorem dX0_rightCatch_3 : decode cX0_rightCatch 3 = .ok (.iconst 2, 1) := by decide +kernel
theorem dX0_rightCatch_4 : decode cX0_rightCatch 4 = .ok (.irem, 1) := by decide +kernel
theorem dX0_rightCatch_5 : decode cX0_rightCatch 5 = .ok (.iadd, 1) := by decide +kernel
theorem dX0_rightCatch_6 : decode cX0_rightCatch 6 = .ok (.invokevirtual 82, 3) := by decide +kernel
theorem dX0_rightCatch_9 : decode cX0_rightCatch 9 = .ok (.ireturn, 1) := by decide +kernel
theorem dX0_aroundTheRing_0 : decode cX0_aroundTheRing 0 = .ok (.aload_n 0, 1) := by decide +kernel
theorem dX0_aroundTheRing_1 : decode cX0_aroundTheRing 1 = .ok (.getfield 28, 3) := by decide +kernel
theorem dX0_aroundTheRing_4 : decode cX0_aroundTheRing 4 = .ok (.ifCond .ne 7, 3) := by decide +kernel
theorem dX0_aroundTheRing_7 : decode cX0_aroundTheRing 7 = .ok (.iload_n 1, 1) := by decide +kernel
theorem dX0_aroundTheRing_8 : decode cX0_aroundTheRing 8 = .ok (.goto 14, 3) := by decide +kernel
theorem dX0_aroundTheRing_11 : decode cX0_aroundTheRing 11 = .ok (.iload_n 1, 1) := by decide +kernel
theorem dX0_aroundTheRing_12 : decode cX0_aroundTheRing 12 = .ok (.aload_n 0, 1) := by decide +kernel
theorem dX0_aroundTheRing_13 : decode cX0_aroundTheRing 13 = .ok (.getfield 28, 3) := by decide +kernel
theorem dX0_aroundTheRing_16 : decode cX0_aroundTheRing 16 = .ok (.iadd, 1) := by decide +kernel
theorem dX0_aroundTheRing_17 : decode cX0_aroundTheRing 17 = .ok (.aload_n 0, 1) := by decide +kernel
theorem dX0_aroundTheRing_18 : decode cX0_aroundTheRing 18 = .ok (.getfield 28, 3) := by decide +kernel
theorem dX0_aroundTheRing_21 : decode cX0_aroundTheRing 21 = .ok (.irem, 1) := by decide +kernel
theorem dX0_aroundTheRing_22 : decode cX0_aroundTheRing 22 = .ok (.ireturn, 1) := by decide +kernel
theorem dX1_init_0 : decode cX1_init 0 = .ok (.aload_n 0, 1) := by decide +kernel
theorem dX1_init_1 : decode cX1_init 1 = .ok (.invokespecial 3, 3) := by decide +kernel
theorem dX1_init_4 : decode cX1_init 4 = .ok (.aload_n 0, 1) := by decide +kernel
theorem dX1_init_5 : decode cX1_init 5 = .ok (.sipush 144, 3) := by decide +kernel
theorem dX1_init_8 : decode cX1_init 8 = .ok (.newarray .int, 2) := by decide +kernel
theorem dX1_init_10 : decode cX1_init 10 = .ok (.putfield 9, 3) := by decide +kernel
theorem dX1_init_13 : decode cX1_init 13 = .ok (.return_, 1) := by decide +kernel
set_option maxRecDepth 20000 in
theorem ggX1_markHanging_X1_markOnly : GoodIn wsX1_markHanging wsX1_markOnly := goodIn_r _ [7, 2, 8, 9, 10, 11, 41] (by decide +kernel) (by decide +kernel)
set_option maxRecDepth 20000 in
theorem gX1_markHanging_X1_markOnly : GoodIn wsX1_markHanging (wsV RX1 15 RX1 yX1_markOnly wsX1_markOnly) := goodIn_app (goodIn_of _ (by decide +kernel)) ggX1_markHanging_X1_markOnly
set_option maxRecDepth 20000 in
theorem ggX1_markHanging_X1_isCaughtOnMarked : GoodIn wsX1_markHanging wsX1_isCaughtOnMarked := goodIn_r _ [15, 16, 17, 18, 19, 20, 6, 21, 2, 22, 23, 24, 25, 26, 27, 28, 29, 30, 31, 32, 33, 34, 35, 36, 37, 38, 39, 40, 41] (by decide +kernel) (by decide +kernel)
set_option maxRecDepth 20000 in
theorem gX1_markHanging_X1_isCaughtOnMarked : GoodIn wsX1_markHanging (wsV RX1 25 RX1 yX1_isCaughtOnMarked wsX1_isCaughtOnMarked) := goodIn_app (goodIn_of _ (by decide +kernel)) ggX1_markHanging_X1_isCaughtOnMarked
theorem dX1_markHanging_0 : decode cX1_markHanging 0 = .ok (.iconst 0, 1) := by decide +kernel
theorem dX1_markHanging_1 : decode cX1_markHanging 1 = .ok (.istore_n 3, 1) := by decide +kernel
theorem dX1_markHanging_2 : decode cX1_markHanging 2 = .ok (.aload_n 0, 1) := by decide +kernel
theorem dX1_markHanging_3 : decode cX1_markHanging 3 = .ok (.iload_n 2, 1) := by decide +kernel
theorem dX1_markHanging_4 : decode cX1_markHanging 4 = .ok (.invokevirtual 15, 3) := by decide +kernel
theorem dX1_markHanging_7 : decode cX1_markHanging 7 = .ok (.iload_n 2, 1) := by decide +kernel
theorem dX1_markHanging_8 : decode cX1_markHanging 8 = .ok (.iconst 1, 1) := by decide +kernel
theorem dX1_markHanging_9 : decode cX1_markHanging 9 = .ok (.iadd, 1) := by decide +kernel
theorem dX1_markHanging_10 : decode cX1_markHanging 10 = .ok (.istore 4, 2) := by decide +kernel
theorem dX1_markHanging_12 : decode cX1_markHanging 12 = .ok (.iload 4, 2) := by decide +kernel
theorem dX1_markHanging_14 : decode cX1_markHanging 14 = .ok (.aload_n 1, 1) := by decide +kernel
theorem dX1_markHanging_15 : decode cX1_markHanging 15 = .ok (.getfield 19, 3) := by decide +kernel
theorem dX1_markHanging_18 : decode cX1_markHanging 18 = .ok (.if_icmp .ge 30, 3) := by decide +kernel
theorem dX1_markHanging_21 : decode cX1_markHanging 21 = .ok (.aload_n 0, 1) := by decide +kernel
theorem dX1_markHanging_22 : decode cX1_markHanging 22 = .ok (.aload_n 1, 1) := by decide +kernel
theorem dX1_markHanging_23 : decode cX1_markHanging 23 = .ok (.iload 4, 2) := by decide +kernel
theorem dX1_markHanging_25 : decode cX1_markHanging 25 = .ok (.invokevirtual 25, 3) := by decide +kernel
theorem dX1_markHanging_28 : decode cX1_markHanging 28 = .ok (.ifCond .eq 14, 3) := by decide +kernel
theorem dX1_markHanging_31 : decode cX1_markHanging 31 = .ok (.aload_n 0, 1) := by decide +kernel
theorem dX1_markHanging_32 : decode cX1_markHanging 32 = .ok (.getfield 9, 3) := by decide +kernel
theorem dX1_markHanging_35 : decode cX1_markHanging 35 = .ok (.iload 4, 2) := by decide +kernel
theorem dX1_markHanging_37 : decode cX1_markHanging 37 = .ok (.iconst 1, 1) := by decide +kernel
theorem dX1_markHanging_38 : decode cX1_markHanging 38 = .ok (.iastore, 1) := by decide +kernel
theorem dX1_markHanging_39 : decode cX1_markHanging 39 = .ok (.iinc 3 1, 3) := by decide +kernel
theorem dX1_markHanging_42 : decode cX1_markHanging 42 = .ok (.iinc 4 1, 3) := by decide +kernel
theorem dX1_markHanging_45 : decode cX1_markHanging 45 = .ok (.goto (-33), 3) := by decide +kernel
theorem dX1_markHanging_48 : decode cX1_markHanging 48 = .ok (.iload_n 3, 1) := by decide +kernel
theorem dX1_markHanging_49 : decode cX1_markHanging 49 = .ok (.ireturn, 1) := by decide +kernel
set_option maxRecDepth 20000 in
theorem ggX1_markPulledOut_X1_markOnly : GoodIn wsX1_markPulledOut wsX1_markOnly := goodIn_r _ [7, 2, 8, 9, 10, 11, 59] (by decide +kernel) (by decide +kernel)
set_option maxRecDepth 20000 in
theorem gX1_markPulledOut_X1_markOnly : GoodIn wsX1_markPulledOut (wsV RX1 15 RX1 yX1_markOnly wsX1_markOnly) := goodIn_app (goodIn_of _ (by decide +kernel)) ggX1_markPulledOut_X1_markOnly
set_option maxRecDepth 20000 in
theorem ggX1_markPulledOut_X1_isBehindMarked : GoodIn wsX1_markPulledOut wsX1_isBehindMarked := goodIn_r _ [15, 16, 17, 18, 19, 6, 20, 2, 40, 41, 42, 43, 44, 45, 46, 47, 48, 49, 50, 51, 52, 53, 54, 55, 56, 57, 58, 59] (by decide +kernel) (by decide +kernel)
set_option maxRecDepth 20000 in
theorem gX1_markPulledOut_X1_isBehindMarked : GoodIn wsX1_markPulledOut (wsV RX1 29 RX1 yX1_isBehindMarked wsX1_isBehindMarked) := goodIn_app (goodIn_of _ (by decide +kernel)) ggX1_markPulledOut_X1_isBehindMarked
set_option maxRecDepth 20000 in
theorem ggX1_markPulledOut_X1_isCaughtOnMarked : GoodIn wsX1_markPulledOut wsX1_isCaughtOnMarked := goodIn_r _ [24, 25, 26, 17, 18, 19, 6, 20, 2, 40, 41, 42, 43, 44, 45, 46, 47, 48, 49, 50, 51, 52, 53, 54, 55, 56, 57, 58, 59] (by decide +kernel) (by decide +kernel)
set_option maxRecDepth 20000 in
theorem gX1_markPulledOut_X1_isCaughtOnMarked : GoodIn wsX1_markPulledOut (wsV RX1 25 RX1 yX1_isCaughtOnMarked wsX1_isCaughtOnMarked) := goodIn_app (goodIn_of _ (by decide +kernel)) ggX1_markPulledOut_X1_isCaughtOnMarked
set_option maxRecDepth 20000 in
theorem ggX1_markPulledOut_X1_isWovenInMarked : GoodIn wsX1_markPulledOut wsX1_isWovenInMarked := goodIn_r _ [30, 31, 16, 32, 33, 34, 35, 36, 37, 38, 39, 17, 18, 19, 6, 20, 2, 40, 41, 42, 43, 44, 45, 46, 47, 48, 49, 50, 51, 52, 53, 54, 55, 56, 57, 58, 59] (by decide +kernel) (by decide +kernel)
set_option maxRecDepth 20000 in
theorem gX1_markPulledOut_X1_isWovenInMarked : GoodIn wsX1_markPulledOut (wsV RX1 32 RX1 yX1_isWovenInMarked wsX1_isWovenInMarked) := goodIn_app (goodIn_of _ (by decide +kernel)) ggX1_markPulledOut_X1_isWovenInMarked
theorem dX1_markPulledOut_0 : decode cX1_markPulledOut 0 = .ok (.iconst 1, 1) := by decide +kernel
theorem dX1_markPulledOut_1 : decode cX1_markPulledOut 1 = .ok (.istore_n 3, 1) := by decide +kernel
theorem dX1_markPulledOut_2 : decode cX1_markPulledOut 2 = .ok (.aload_n 0, 1) := by decide +kernel
theorem dX1_markPulledOut_3 : decode cX1_markPulledOut 3 = .ok (.iload_n 2, 1) := by decide +kernel
theorem dX1_markPulledOut_4 : decode cX1_markPulledOut 4 = .ok (.invokevirtual 15, 3) := by decide +kernel
theorem dX1_markPulledOut_7 : decode cX1_markPulledOut 7 = .ok (.iload_n 2, 1) := by decide +kernel
theorem dX1_markPulledOut_8 : decode cX1_markPulledOut 8 = .ok (.iconst 1, 1) := by decide +kernel
theorem dX1_markPulledOut_9 : decode cX1_markPulledOut 9 = .ok (.iadd, 1) := by decide +kernel
theorem dX1_markPulledOut_10 : decode cX1_markPulledOut 10 = .ok (.istore 4, 2) := by decide +kernel
theorem dX1_markPulledOut_12 : decode cX1_markPulledOut 12 = .ok (.iload 4, 2) := by decide +kernel
theorem dX1_markPulledOut_14 : decode cX1_markPulledOut 14 = .ok (.aload_n 1, 1) := by decide +kernel
theorem dX1_markPulledOut_15 : decode cX1_markPulledOut 15 = .ok (.getfield 19, 3) := by decide +kernel
theorem dX1_markPulledOut_18 : decode cX1_markPulledOut 18 = .ok (.if_icmp .ge 50, 3) := by decide +kernel
theorem dX1_markPulledOut_21 : decode cX1_markPulledOut 21 = .ok (.aload_n 0, 1) := by decide +kernel
theorem dX1_markPulledOut_22 : decode cX1_markPulledOut 22 = .ok (.aload_n 1, 1) := by decide +kernel
theorem dX1_markPulledOut_23 : decode cX1_markPulledOut 23 = .ok (.iload 4, 2) := by decide +kernel
theorem dX1_markPulledOut_25 : decode cX1_markPulledOut 25 = .ok (.invokevirtual 29, 3) := by decide +kernel
theorem dX1_markPulledOut_28 : decode cX1_markPulledOut 28 = .ok (.ifCond .ne 23, 3) := by decide +kernel
theorem dX1_markPulledOut_31 : decode cX1_markPulledOut 31 = .ok (.aload_n 0, 1) := by decide +kernel
theorem dX1_markPulledOut_32 : decode cX1_markPulledOut 32 = .ok (.aload_n 1, 1) := by decide +kernel
theorem dX1_markPulledOut_33 : decode cX1_markPulledOut 33 = .ok (.iload 4, 2) := by decide +kernel
theorem dX1_markPulledOut_35 : decode cX1_markPulledOut 35 = .ok (.invokevirtual 25, 3) := by decide +kernel
theorem dX1_markPulledOut_38 : decode cX1_markPulledOut 38 = .ok (.ifCond .ne 13, 3) := by decide +kernel
theorem dX1_markPulledOut_41 : decode cX1_markPulledOut 41 = .ok (.aload_n 0, 1) := by decide +kernel
theorem dX1_markPulledOut_42 : decode cX1_markPulledOut 42 = .ok (.aload_n 1, 1) := by decide +kernel
theorem dX1_markPulledOut_43 : decode cX1_markPulledOut 43 = .ok (.iload 4, 2) := by decide +kernel
theorem dX1_markPulledOut_45 : decode cX1_markPulledOut 45 = .ok (.invokevirtual 32, 3) := by decide +kernel
theorem dX1_markPulledOut_48 : decode cX1_markPulledOut 48 = .ok (.ifCond .eq 14, 3) := by decide +kernel
theorem dX1_markPulledOut_51 : decode cX1_markPulledOut 51 = .ok (.aload_n 0, 1) := by decide +kernel
theorem dX1_markPulledOut_52 : decode cX1_markPulledOut 52 = .ok (.getfield 9, 3) := by decide +kernel
theorem dX1_markPulledOut_55 : decode cX1_markPulledOut 55 = .ok (.iload 4, 2) := by decide +kernel
theorem dX1_markPulledOut_57 : decode cX1_markPulledOut 57 = .ok (.iconst 1, 1) := by decide +kernel
theorem dX1_markPulledOut_58 : decode cX1_markPulledOut 58 = .ok (.iastore, 1) := by decide +kernel
theorem dX1_markPulledOut_59 : decode cX1_markPulledOut 59 = .ok (.iinc 3 1, 3) := by decide +kernel
theorem dX1_markPulledOut_62 : decode cX1_markPulledOut 62 = .ok (.iinc 4 1, 3) := by decide +kernel
theorem dX1_markPulledOut_65 : decode cX1_markPulledOut 65 = .ok (.goto (-53), 3) := by decide +kernel
theorem dX1_markPulledOut_68 : decode cX1_markPulledOut 68 = .ok (.iload_n 3, 1) := by decide +kernel
theorem dX1_markPulledOut_69 : decode cX1_markPulledOut 69 = .ok (.ireturn, 1) := by decide +kernel
set_option maxRecDepth 20000 in
theorem ggX1_markOnly_J7_fill_53178 : GoodIn wsX1_markOnly wsJ7_fill_53178 := goodIn_r _ [5] (by decide +kernel) (by decide +kernel)
set_option maxRecDepth 20000 in
theorem gX1_markOnly_J7_fill_53178 : GoodIn wsX1_markOnly (va_wsS RX1 35 yJ7_fill_53178 wsJ7_fill_53178) := goodIn_app (goodIn_of _ (by decide +kernel)) ggX1_markOnly_J7_fill_53178
theorem dX1_markOnly_0 : decode cX1_markOnly 0 = .ok (.aload_n 0, 1) := by decide +kernel
theorem dX1_markOnly_1 : decode cX1_markOnly 1 = .ok (.getfield 9, 3) := by decide +kernel
theorem dX1_markOnly_4 : decode cX1_markOnly 4 = .ok (.iconst 0, 1) := by decide +kernel
theorem dX1_markOnly_5 : decode cX1_markOnly 5 = .ok (.invokestatic 35, 3) := by decide +kernel
theorem dX1_markOnly_8 : decode cX1_markOnly 8 = .ok (.aload_n 0, 1) := by decide +kernel
theorem dX1_markOnly_9 : decode cX1_markOnly 9 = .ok (.getfield 9, 3) := by decide +kernel
theorem dX1_markOnly_12 : decode cX1_markOnly 12 = .ok (.iload_n 1, 1) := by decide +kernel
theorem dX1_markOnly_13 : decode cX1_markOnly 13 = .ok (.iconst 1, 1) := by decide +kernel
theorem dX1_markOnly_14 : decode cX1_markOnly 14 = .ok (.iastore, 1) := by decide +kernel
theorem dX1_markOnly_15 : decode cX1_markOnly 15 = .ok (.return_, 1) := by decide +kernel
theorem dX1_isMarked_0 : decode cX1_isMarked 0 = .ok (.iload_n 1, 1) := by decide +kernel
theorem dX1_isMarked_1 : decode cX1_isMarked 1 = .ok (.iconst (-1), 1) := by decide +kernel
theorem dX1_isMarked_2 : decode cX1_isMarked 2 = .ok (.if_icmp .eq 17, 3) := by decide +kernel
theorem dX1_isMarked_5 : decode cX1_isMarked 5 = .ok (.aload_n 0, 1) := by decide +kernel
theorem dX1_isMarked_6 : decode cX1_isMarked 6 = .ok (.getfield 9, 3) := by decide +kernel
theorem dX1_isMarked_9 : decode cX1_isMarked 9 = .ok (.iload_n 1, 1) := by decide +kernel
theorem dX1_isMarked_10 : decode cX1_isMarked 10 = .ok (.iaload, 1) := by decide +kernel
theorem dX1_isMarked_11 : decode cX1_isMarked 11 = .ok (.iconst 1, 1) := by decide +kernel
theorem dX1_isMarked_12 : decode cX1_isMarked 12 = .ok (.if_icmp .ne 7, 3) := by decide +kernel
theorem dX1_isMarked_15 : decode cX1_isMarked 15 = .ok (.iconst 1, 1) := by decide +kernel
theorem dX1_isMarked_16 : decode cX1_isMarked 16 = .ok (.goto 4, 3) := by decide +kernel
theorem dX1_isMarked_19 : decode cX1_isMarked 19 = .ok (.iconst 0, 1) := by decide +kernel
theorem dX1_isMarked_20 : decode cX1_isMarked 20 = .ok (.ireturn, 1) := by decide +kernel
set_option maxRecDepth 20000 in
theorem ggX1_isCaughtOnMarked_X1_isMarked : GoodIn wsX1_isCaughtOnMarked wsX1_isMarked := goodIn_r _ [7, 8, 28] (by decide +kernel) (by decide +kernel)
set_option maxRecDepth 20000 in
theorem gX1_isCaughtOnMarked_X1_isMarked : GoodIn wsX1_isCaughtOnMarked (wsV RX1 44 RX1 yX1_isMarked wsX1_isMarked) := goodIn_app (goodIn_of _ (by decide +kernel)) ggX1_isCaughtOnMarked_X1_isMarked
theorem dX1_isCaughtOnMarked_0 : decode cX1_isCaughtOnMarked 0 = .ok (.aload_n 0, 1) := by decide +kernel
theorem dX1_isCaughtOnMarked_1 : decode cX1_isCaughtOnMarked 1 = .ok (.aload_n 1, 1) := by decide +kernel
theorem dX1_isCaughtOnMarked_2 : decode cX1_isCaughtOnMarked 2 = .ok (.getfield 41, 3) := by decide +kernel
theorem dX1_isCaughtOnMarked_5 : decode cX1_isCaughtOnMarked 5 = .ok (.iload_n 2, 1) := by decide +kernel
theorem dX1_isCaughtOnMarked_6 : decode cX1_isCaughtOnMarked 6 = .ok (.iaload, 1) := by decide +kernel
theorem dX1_isCaughtOnMarked_7 : decode cX1_isCaughtOnMarked 7 = .ok (.invokevirtual 44, 3) := by decide +kernel
theorem dX1_isCaughtOnMarked_10 : decode cX1_isCaughtOnMarked 10 = .ok (.ifCond .ne 16, 3) := by decide +kernel
theorem dX1_isCaughtOnMarked_13 : decode cX1_isCaughtOnMarked 13 = .ok (.aload_n 0, 1) := by decide +kernel
theorem dX1_isCaughtOnMarked_14 : decode cX1_isCaughtOnMarked 14 = .ok (.aload_n 1, 1) := by decide +kernel
theorem dX1_isCaughtOnMarked_15 : decode cX1_isCaughtOnMarked 15 = .ok (.getfield 48, 3) := by decide +kernel
theorem dX1_isCaughtOnMarked_18 : decode cX1_isCaughtOnMarked 18 = .ok (.iload_n 2, 1) := by decide +kernel
theorem dX1_isCaughtOnMarked_19 : decode cX1_isCaughtOnMarked 19 = .ok (.iaload, 1) := by decide +kernel
theorem dX1_isCaughtOnMarked_20 : decode cX1_isCaughtOnMarked 20 = .ok (.invokevirtual 44, 3) := by decide +kernel
theorem dX1_isCaughtOnMarked_23 : decode cX1_isCaughtOnMarked 23 = .ok (.ifCond .eq 7, 3) := by decide +kernel
theorem dX1_isCaughtOnMarked_26 : decode cX1_isCaughtOnMarked 26 = .ok (.iconst 1, 1) := by decide +kernel
theorem dX1_isCaughtOnMarked_27 : decode cX1_isCaughtOnMarked 27 = .ok (.goto 4, 3) := by decide +kernel
theorem dX1_isCaughtOnMarked_30 : decode cX1_isCaughtOnMarked 30 = .ok (.iconst 0, 1) := by decide +kernel
theorem dX1_isCaughtOnMarked_31 : decode cX1_isCaughtOnMarked 31 = .ok (.ireturn, 1) := by decide +kernel
set_option maxRecDepth 20000 in
theorem ggX1_isBehindMarked_X1_isMarked : GoodIn wsX1_isBehindMarked wsX1_isMarked := goodIn_r _ [6, 7, 27] (by decide +kernel) (by decide +kernel)
set_option maxRecDepth 20000 in
theorem gX1_isBehindMarked_X1_isMarked : GoodIn wsX1_isBehindMarked (wsV RX1 44 RX1 yX1_isMarked wsX1_isMarked) := goodIn_app (goodIn_of _ (by decide +kernel)) ggX1_isBehindMarked_X1_isMarked
theorem dX1_isBehindMarked_0 : decode cX1_isBehindMarked 0 = .ok (.aload_n 1, 1) := by decide +kernel
theorem dX1_isBehindMarked_1 : decode cX1_isBehindMarked 1 = .ok (.getfield 51, 3) := by decide +kernel
theorem dX1_isBehindMarked_4 : decode cX1_isBehindMarked 4 = .ok (.iload_n 2, 1) := by decide +kernel
theorem dX1_isBehindMarked_5 : decode cX1_isBehindMarked 5 = .ok (.iconst 1, 1) := by decide +kernel
theorem dX1_isBehindMarked_6 : decode cX1_isBehindMarked 6 = .ok (.isub, 1) := by decide +kernel
theorem dX1_isBehindMarked_7 : decode cX1_isBehindMarked 7 = .ok (.iaload, 1) := by decide +kernel
theorem dX1_isBehindMarked_8 : decode cX1_isBehindMarked 8 = .ok (.aload_n 1, 1) := by decide +kernel
theorem dX1_isBehindMarked_9 : decode cX1_isBehindMarked 9 = .ok (.getfield 51, 3) := by decide +kernel
theorem dX1_isBehindMarked_12 : decode cX1_isBehindMarked 12 = .ok (.iload_n 2, 1) := by decide +kernel
theorem dX1_isBehindMarked_13 : decode cX1_isBehindMarked 13 = .ok (.iaload, 1) := by decide +kernel
theorem dX1_isBehindMarked_14 : decode cX1_isBehindMarked 14 = .ok (.if_icmp .ne 17, 3) := by decide +kernel
theorem dX1_isBehindMarked_17 : decode cX1_isBehindMarked 17 = .ok (.aload_n 0, 1) := by decide +kernel
theorem dX1_isBehindMarked_18 : decode cX1_isBehindMarked 18 = .ok (.iload_n 2, 1) := by decide +kernel
theorem dX1_isBehindMarked_19 : decode cX1_isBehindMarked 19 = .ok (.iconst 1, 1) := by decide +kernel
theorem dX1_isBehindMarked_20 : decode cX1_isBehindMarked 20 = .ok (.isub, 1) := by decide +kernel
theorem dX1_isBehindMarked_21 : decode cX1_isBehindMarked 21 = .ok (.invokevirtual 44, 3) := by decide +kernel
theorem dX1_isBehindMarked_24 : decode cX1_isBehindMarked 24 = .ok (.ifCond .eq 7, 3) := by decide +kernel
theorem dX1_isBehindMarked_27 : decode cX1_isBehindMarked 27 = .ok (.iconst 1, 1) := by decide +kernel
theorem dX1_isBehindMarked_28 : decode cX1_isBehindMarked 28 = .ok (.goto 4, 3) := by decide +kernel
theorem dX1_isBehindMarked_31 : decode cX1_isBehindMarked 31 = .ok (.iconst 0, 1) := by decide +kernel
theorem dX1_isBehindMarked_32 : decode cX1_isBehindMarked 32 = .ok (.ireturn, 1) := by decide +kernel
set_option maxRecDepth 20000 in
theorem ggX1_isWovenInMarked_X3_wovenIn : GoodIn wsX1_isWovenInMarked wsX3_wovenIn := goodIn_r _ [7, 8, 9, 10, 17, 18, 19, 20, 21, 22, 23, 24, 25, 26, 27, 28, 29, 30, 31, 32, 33, 34, 35] (by decide +kernel) (by decide +kernel)
set_option maxRecDepth 20000 in
theorem gX1_isWovenInMarked_X3_wovenIn : GoodIn wsX1_isWovenInMarked (wsV RX1 57 RX3 yX3_wovenIn wsX3_wovenIn) := goodIn_app (goodIn_of _ (by decide +kernel)) ggX1_isWovenInMarked_X3_wovenIn
set_option maxRecDepth 20000 in
theorem ggX1_isWovenInMarked_X1_isMarked : GoodIn wsX1_isWovenInMarked wsX1_isMarked := goodIn_r _ [15, 16, 36] (by decide +kernel) (by decide +kernel)
set_option maxRecDepth 20000 in
theorem gX1_isWovenInMarked_X1_isMarked : GoodIn wsX1_isWovenInMarked (wsV RX1 44 RX1 yX1_isMarked wsX1_isMarked) := goodIn_app (goodIn_of _ (by decide +kernel)) ggX1_isWovenInMarked_X1_isMarked
theorem dX1_isWovenInMarked_0 : decode cX1_isWovenInMarked 0 = .ok (.iconst 0, 1) := by decide +kernel
theorem dX1_isWovenInMarked_1 : decode cX1_isWovenInMarked 1 = .ok (.istore_n 3, 1) := by decide +kernel
theorem dX1_isWovenInMarked_2 : decode cX1_isWovenInMarked 2 = .ok (.iload_n 3, 1) := by decide +kernel
theorem dX1_isWovenInMarked_3 : decode cX1_isWovenInMarked 3 = .ok (.aload_n 1, 1) := by decide +kernel
theorem dX1_isWovenInMarked_4 : decode cX1_isWovenInMarked 4 = .ok (.getfield 54, 3) := by decide +kernel
theorem dX1_isWovenInMarked_7 : decode cX1_isWovenInMarked 7 = .ok (.if_icmp .ge 29, 3) := by decide +kernel
theorem dX1_isWovenInMarked_10 : decode cX1_isWovenInMarked 10 = .ok (.aload_n 0, 1) := by decide +kernel
theorem dX1_isWovenInMarked_11 : decode cX1_isWovenInMarked 11 = .ok (.aload_n 1, 1) := by decide +kernel
theorem dX1_isWovenInMarked_12 : decode cX1_isWovenInMarked 12 = .ok (.aload_n 1, 1) := by decide +kernel
theorem dX1_isWovenInMarked_13 : decode cX1_isWovenInMarked 13 = .ok (.getfield 51, 3) := by decide +kernel
theorem dX1_isWovenInMarked_16 : decode cX1_isWovenInMarked 16 = .ok (.iload_n 2, 1) := by decide +kernel
theorem dX1_isWovenInMarked_17 : decode cX1_isWovenInMarked 17 = .ok (.iaload, 1) := by decide +kernel
theorem dX1_isWovenInMarked_18 : decode cX1_isWovenInMarked 18 = .ok (.iload_n 3, 1) := by decide +kernel
theorem dX1_isWovenInMarked_19 : decode cX1_isWovenInMarked 19 = .ok (.invokevirtual 57, 3) := by decide +kernel
theorem dX1_isWovenInMarked_22 : decode cX1_isWovenInMarked 22 = .ok (.invokevirtual 44, 3) := by decide +kernel
theorem dX1_isWovenInMarked_25 : decode cX1_isWovenInMarked 25 = .ok (.ifCond .eq 5, 3) := by decide +kernel
theorem dX1_isWovenInMarked_28 : decode cX1_isWovenInMarked 28 = .ok (.iconst 1, 1) := by decide +kernel
theorem dX1_isWovenInMarked_29 : decode cX1_isWovenInMarked 29 = .ok (.ireturn, 1) := by decide +kernel
theorem dX1_isWovenInMarked_30 : decode cX1_isWovenInMarked 30 = .ok (.iinc 3 1, 3) := by decide +kernel
theorem dX1_isWovenInMarked_33 : decode cX1_isWovenInMarked 33 = .ok (.goto (-31), 3) := by decide +kernel
theorem dX1_isWovenInMarked_36 : decode cX1_isWovenInMarked 36 = .ok (.iconst 0, 1) := by decide +kernel
theorem dX1_isWovenInMarked_37 : decode cX1_isWovenInMarked 37 = .ok (.ireturn, 1) := by decide +kernel
theorem dX2_init_0 : decode cX2_init 0 = .ok (.aload_n 0, 1) := by decide +kernel
theorem dX2_init_1 : decode cX2_init 1 = .ok (.invokespecial 3, 3) := by decide +kernel
theorem dX2_init_4 : decode cX2_init 4 = .ok (.aload_n 0, 1) := by decide +kernel
theorem dX2_init_5 : decode cX2_init 5 = .ok (.iconst 4, 1) := by decide +kernel
theorem dX2_init_6 : decode cX2_init 6 = .ok (.newarray .int, 2) := by decide +kernel
theorem dX2_init_8 : decode cX2_init 8 = .ok (.putfield 9, 3) := by decide +kernel
theorem dX2_init_11 : decode cX2_init 11 = .ok (.aload_n 0, 1) := by decide +kernel
theorem dX2_init_12 : decode cX2_init 12 = .ok (.iconst 0, 1) := by decide +kernel
theorem dX2_init_13 : decode cX2_init 13 = .ok (.putfield 15, 3) := by decide +kernel
theorem dX2_init_16 : decode cX2_init 16 = .ok (.return_, 1) := by decide +kernel
theorem dX2_empty_0 : decode cX2_empty 0 = .ok (.aload_n 0, 1) := by decide +kernel
theorem dX2_empty_1 : decode cX2_empty 1 = .ok (.iconst 0, 1) := by decide +kernel
theorem dX2_empty_2 : decode cX2_empty 2 = .ok (.putfield 15, 3) := by decide +kernel
theorem dX2_empty_5 : decode cX2_empty 5 = .ok (.return_, 1) := by decide +kernel
theorem dX2_pass_0 : decode cX2_pass 0 = .ok (.iload_n 1, 1) := by decide +kernel
theorem dX2_pass_1 : decode cX2_pass 1 = .ok (.iconst (-1), 1) := by decide +kernel
theorem dX2_pass_2 : decode cX2_pass 2 = .ok (.if_icmp .eq 31, 3) := by decide +kernel
theorem dX2_pass_5 : decode cX2_pass 5 = .ok (.aload_n 0, 1) := by decide +kernel
theorem dX2_pass_6 : decode cX2_pass 6 = .ok (.getfield 15, 3) := by decide +kernel
theorem dX2_pass_9 : decode cX2_pass 9 = .ok (.iconst 4, 1) := by decide +kernel
theorem dX2_pass_10 : decode cX2_pass 10 = .ok (.if_icmp .ge 23, 3) := by decide +kernel
theorem dX2_pass_13 : decode cX2_pass 13 = .ok (.aload_n 0, 1) := by decide +kernel
theorem dX2_pass_14 : decode cX2_pass 14 = .ok (.getfield 9, 3) := by decide +kernel
theorem dX2_pass_17 : decode cX2_pass 17 = .ok (.aload_n 0, 1) := by decide +kernel
theorem dX2_pass_18 : decode cX2_pass 18 = .ok (.getfield 15, 3) := by decide +kernel
theorem dX2_pass_21 : decode cX2_pass 21 = .ok (.iload_n 1, 1) := by decide +kernel
theorem dX2_pass_22 : decode cX2_pass 22 = .ok (.iastore, 1) := by decide +kernel
theorem dX2_pass_23 : decode cX2_pass 23 = .ok (.aload_n 0, 1) := by decide +kernel
theorem dX2_pass_24 : decode cX2_pass 24 = .ok (.dup, 1) := by decide +kernel
