theorem dX5_needs_18 : decode cX5_needs 18 = .ok (.aload_n 0, 1) := by decide +kernel
theorem dX5_needs_19 : decode cX5_needs 19 = .ok (.getfield 56, 3) := by decide +kernel
theorem dX5_needs_22 : decode cX5_needs 22 = .ok (.iload_n 3, 1) := by decide +kernel
theorem dX5_needs_23 : decode cX5_needs 23 = .ok (.iaload, 1) := by decide +kernel
theorem dX5_needs_24 : decode cX5_needs 24 = .ok (.iload_n 1, 1) := by decide +kernel
theorem dX5_needs_25 : decode cX5_needs 25 = .ok (.invokevirtual 128, 3) := by decide +kernel
theorem dX5_needs_28 : decode cX5_needs 28 = .ok (.iaload, 1) := by decide +kernel
theorem dX5_needs_29 : decode cX5_needs 29 = .ok (.iadd, 1) := by decide +kernel
theorem dX5_needs_30 : decode cX5_needs 30 = .ok (.istore_n 2, 1) := by decide +kernel
theorem dX5_needs_31 : decode cX5_needs 31 = .ok (.iinc 3 1, 3) := by decide +kernel
theorem dX5_needs_34 : decode cX5_needs 34 = .ok (.goto (-30), 3) := by decide +kernel
theorem dX5_needs_37 : decode cX5_needs 37 = .ok (.iload_n 2, 1) := by decide +kernel
theorem dX5_needs_38 : decode cX5_needs 38 = .ok (.ireturn, 1) := by decide +kernel
theorem dX5_finds_0 : decode cX5_finds 0 = .ok (.iconst 0, 1) := by decide +kernel
theorem dX5_finds_1 : decode cX5_finds 1 = .ok (.istore_n 3, 1) := by decide +kernel
theorem dX5_finds_2 : decode cX5_finds 2 = .ok (.aload_n 0, 1) := by decide +kernel
theorem dX5_finds_3 : decode cX5_finds 3 = .ok (.getfield 122, 3) := by decide +kernel
theorem dX5_finds_6 : decode cX5_finds 6 = .ok (.iconst 1, 1) := by decide +kernel
theorem dX5_finds_7 : decode cX5_finds 7 = .ok (.isub, 1) := by decide +kernel
theorem dX5_finds_8 : decode cX5_finds 8 = .ok (.istore 4, 2) := by decide +kernel
theorem dX5_finds_10 : decode cX5_finds 10 = .ok (.iload 4, 2) := by decide +kernel
theorem dX5_finds_12 : decode cX5_finds 12 = .ok (.ifCond .lt 98, 3) := by decide +kernel
theorem dX5_finds_15 : decode cX5_finds 15 = .ok (.iload_n 3, 1) := by decide +kernel
theorem dX5_finds_16 : decode cX5_finds 16 = .ok (.aload_n 0, 1) := by decide +kernel
theorem dX5_finds_17 : decode cX5_finds 17 = .ok (.getfield 26, 3) := by decide +kernel
theorem dX5_finds_20 : decode cX5_finds 20 = .ok (.if_icmp .ge 90, 3) := by decide +kernel
theorem dX5_finds_23 : decode cX5_finds 23 = .ok (.aload_n 0, 1) := by decide +kernel
theorem dX5_finds_24 : decode cX5_finds 24 = .ok (.getfield 35, 3) := by decide +kernel
theorem dX5_finds_27 : decode cX5_finds 27 = .ok (.iload 4, 2) := by decide +kernel
theorem dX5_finds_29 : decode cX5_finds 29 = .ok (.iaload, 1) := by decide +kernel
theorem dX5_finds_30 : decode cX5_finds 30 = .ok (.istore 5, 2) := by decide +kernel
theorem dX5_finds_32 : decode cX5_finds 32 = .ok (.iconst 0, 1) := by decide +kernel
theorem dX5_finds_33 : decode cX5_finds 33 = .ok (.istore 6, 2) := by decide +kernel
theorem dX5_finds_35 : decode cX5_finds 35 = .ok (.iload_n 2, 1) := by decide +kernel
theorem dX5_finds_36 : decode cX5_finds 36 = .ok (.ifCond .eq 40, 3) := by decide +kernel
theorem dX5_finds_39 : decode cX5_finds 39 = .ok (.iload 6, 2) := by decide +kernel
theorem dX5_finds_41 : decode cX5_finds 41 = .ok (.aload_n 0, 1) := by decide +kernel
theorem dX5_finds_42 : decode cX5_finds 42 = .ok (.getfield 26, 3) := by decide +kernel
theorem dX5_finds_45 : decode cX5_finds 45 = .ok (.if_icmp .ge 31, 3) := by decide +kernel
theorem dX5_finds_48 : decode cX5_finds 48 = .ok (.iload 5, 2) := by decide +kernel
theorem dX5_finds_50 : decode cX5_finds 50 = .ok (.aload_n 0, 1) := by decide +kernel
theorem dX5_finds_51 : decode cX5_finds 51 = .ok (.getfield 59, 3) := by decide +kernel
theorem dX5_finds_54 : decode cX5_finds 54 = .ok (.iload 6, 2) := by decide +kernel
theorem dX5_finds_56 : decode cX5_finds 56 = .ok (.iaload, 1) := by decide +kernel
theorem dX5_finds_57 : decode cX5_finds 57 = .ok (.iload 4, 2) := by decide +kernel
theorem dX5_finds_59 : decode cX5_finds 59 = .ok (.if_icmp .ne 7, 3) := by decide +kernel
theorem dX5_finds_62 : decode cX5_finds 62 = .ok (.iconst 1, 1) := by decide +kernel
theorem dX5_finds_63 : decode cX5_finds 63 = .ok (.goto 4, 3) := by decide +kernel
theorem dX5_finds_66 : decode cX5_finds 66 = .ok (.iconst 0, 1) := by decide +kernel
theorem dX5_finds_67 : decode cX5_finds 67 = .ok (.iadd, 1) := by decide +kernel
theorem dX5_finds_68 : decode cX5_finds 68 = .ok (.istore 5, 2) := by decide +kernel
theorem dX5_finds_70 : decode cX5_finds 70 = .ok (.iinc 6 1, 3) := by decide +kernel
theorem dX5_finds_73 : decode cX5_finds 73 = .ok (.goto (-38), 3) := by decide +kernel
theorem dX5_finds_76 : decode cX5_finds 76 = .ok (.iload 5, 2) := by decide +kernel
theorem dX5_finds_78 : decode cX5_finds 78 = .ok (.aload_n 0, 1) := by decide +kernel
theorem dX5_finds_79 : decode cX5_finds 79 = .ok (.getfield 13, 3) := by decide +kernel
theorem dX5_finds_82 : decode cX5_finds 82 = .ok (.aload_n 0, 1) := by decide +kernel
theorem dX5_finds_83 : decode cX5_finds 83 = .ok (.getfield 44, 3) := by decide +kernel
theorem dX5_finds_86 : decode cX5_finds 86 = .ok (.iload 4, 2) := by decide +kernel
theorem dX5_finds_88 : decode cX5_finds 88 = .ok (.iaload, 1) := by decide +kernel
theorem dX5_finds_89 : decode cX5_finds 89 = .ok (.iaload, 1) := by decide +kernel
theorem dX5_finds_90 : decode cX5_finds 90 = .ok (.if_icmp .lt 6, 3) := by decide +kernel
theorem dX5_finds_93 : decode cX5_finds 93 = .ok (.goto 11, 3) := by decide +kernel
theorem dX5_finds_96 : decode cX5_finds 96 = .ok (.aload_n 1, 1) := by decide +kernel
theorem dX5_finds_97 : decode cX5_finds 97 = .ok (.iload_n 3, 1) := by decide +kernel
theorem dX5_finds_98 : decode cX5_finds 98 = .ok (.iload 4, 2) := by decide +kernel
theorem dX5_finds_100 : decode cX5_finds 100 = .ok (.iastore, 1) := by decide +kernel
theorem dX5_finds_101 : decode cX5_finds 101 = .ok (.iinc 3 1, 3) := by decide +kernel
theorem dX5_finds_104 : decode cX5_finds 104 = .ok (.iinc 4 (-1), 3) := by decide +kernel
theorem dX5_finds_107 : decode cX5_finds 107 = .ok (.goto (-97), 3) := by decide +kernel
theorem dX5_finds_110 : decode cX5_finds 110 = .ok (.iload_n 3, 1) := by decide +kernel
theorem dX5_finds_111 : decode cX5_finds 111 = .ok (.aload_n 0, 1) := by decide +kernel
theorem dX5_finds_112 : decode cX5_finds 112 = .ok (.getfield 26, 3) := by decide +kernel
theorem dX5_finds_115 : decode cX5_finds 115 = .ok (.if_icmp .ne 7, 3) := by decide +kernel
theorem dX5_finds_118 : decode cX5_finds 118 = .ok (.iconst 1, 1) := by decide +kernel
theorem dX5_finds_119 : decode cX5_finds 119 = .ok (.goto 4, 3) := by decide +kernel
theorem dX5_finds_122 : decode cX5_finds 122 = .ok (.iconst 0, 1) := by decide +kernel
theorem dX5_finds_123 : decode cX5_finds 123 = .ok (.ireturn, 1) := by decide +kernel
set_option maxRecDepth 20000 in
theorem ggX5_joins_X5_finds : GoodIn wsX5_joins wsX5_finds := goodIn_r _ [14, 15, 3, 4, 1, 16, 17, 18, 19, 20, 21, 22, 23, 24, 25, 26, 27, 28, 29, 30, 31, 32, 33, 34, 35, 36, 37, 38, 39, 40, 41, 42, 43, 44, 45, 46, 47, 48, 49, 50, 51, 52, 53, 54, 55, 56, 57, 58, 59, 60, 61, 62, 63, 64, 65] (by decide +kernel) (by decide +kernel)
set_option maxRecDepth 20000 in
theorem gX5_joins_X5_finds : GoodIn wsX5_joins (wsV RX5 131 RX5 yX5_finds wsX5_finds) := goodIn_app (goodIn_of _ (by decide +kernel)) ggX5_joins_X5_finds
theorem dX5_joins_0 : decode cX5_joins 0 = .ok (.aload_n 0, 1) := by decide +kernel
theorem dX5_joins_1 : decode cX5_joins 1 = .ok (.aload_n 0, 1) := by decide +kernel
theorem dX5_joins_2 : decode cX5_joins 2 = .ok (.getfield 59, 3) := by decide +kernel
theorem dX5_joins_5 : decode cX5_joins 5 = .ok (.iconst 0, 1) := by decide +kernel
theorem dX5_joins_6 : decode cX5_joins 6 = .ok (.invokevirtual 131, 3) := by decide +kernel
theorem dX5_joins_9 : decode cX5_joins 9 = .ok (.ifCond .eq 15, 3) := by decide +kernel
theorem dX5_joins_12 : decode cX5_joins 12 = .ok (.aload_n 0, 1) := by decide +kernel
theorem dX5_joins_13 : decode cX5_joins 13 = .ok (.aload_n 0, 1) := by decide +kernel
theorem dX5_joins_14 : decode cX5_joins 14 = .ok (.getfield 62, 3) := by decide +kernel
theorem dX5_joins_17 : decode cX5_joins 17 = .ok (.iconst 1, 1) := by decide +kernel
theorem dX5_joins_18 : decode cX5_joins 18 = .ok (.invokevirtual 131, 3) := by decide +kernel
theorem dX5_joins_21 : decode cX5_joins 21 = .ok (.ifCond .ne 5, 3) := by decide +kernel
theorem dX5_joins_24 : decode cX5_joins 24 = .ok (.iconst 0, 1) := by decide +kernel
theorem dX5_joins_25 : decode cX5_joins 25 = .ok (.ireturn, 1) := by decide +kernel
theorem dX5_joins_26 : decode cX5_joins 26 = .ok (.iconst 0, 1) := by decide +kernel
theorem dX5_joins_27 : decode cX5_joins 27 = .ok (.istore_n 1, 1) := by decide +kernel
theorem dX5_joins_28 : decode cX5_joins 28 = .ok (.iload_n 1, 1) := by decide +kernel
theorem dX5_joins_29 : decode cX5_joins 29 = .ok (.aload_n 0, 1) := by decide +kernel
theorem dX5_joins_30 : decode cX5_joins 30 = .ok (.getfield 26, 3) := by decide +kernel
theorem dX5_joins_33 : decode cX5_joins 33 = .ok (.if_icmp .ge 59, 3) := by decide +kernel
theorem dX5_joins_36 : decode cX5_joins 36 = .ok (.aload_n 0, 1) := by decide +kernel
theorem dX5_joins_37 : decode cX5_joins 37 = .ok (.getfield 35, 3) := by decide +kernel
theorem dX5_joins_40 : decode cX5_joins 40 = .ok (.aload_n 0, 1) := by decide +kernel
theorem dX5_joins_41 : decode cX5_joins 41 = .ok (.getfield 59, 3) := by decide +kernel
theorem dX5_joins_44 : decode cX5_joins 44 = .ok (.iload_n 1, 1) := by decide +kernel
theorem dX5_joins_45 : decode cX5_joins 45 = .ok (.iaload, 1) := by decide +kernel
theorem dX5_joins_46 : decode cX5_joins 46 = .ok (.dup2, 1) := by decide +kernel
theorem dX5_joins_47 : decode cX5_joins 47 = .ok (.iaload, 1) := by decide +kernel
theorem dX5_joins_48 : decode cX5_joins 48 = .ok (.iconst 1, 1) := by decide +kernel
theorem dX5_joins_49 : decode cX5_joins 49 = .ok (.iadd, 1) := by decide +kernel
theorem dX5_joins_50 : decode cX5_joins 50 = .ok (.iastore, 1) := by decide +kernel
theorem dX5_joins_51 : decode cX5_joins 51 = .ok (.aload_n 0, 1) := by decide +kernel
theorem dX5_joins_52 : decode cX5_joins 52 = .ok (.getfield 35, 3) := by decide +kernel
theorem dX5_joins_55 : decode cX5_joins 55 = .ok (.aload_n 0, 1) := by decide +kernel
theorem dX5_joins_56 : decode cX5_joins 56 = .ok (.getfield 62, 3) := by decide +kernel
theorem dX5_joins_59 : decode cX5_joins 59 = .ok (.iload_n 1, 1) := by decide +kernel
theorem dX5_joins_60 : decode cX5_joins 60 = .ok (.iaload, 1) := by decide +kernel
theorem dX5_joins_61 : decode cX5_joins 61 = .ok (.dup2, 1) := by decide +kernel
theorem dX5_joins_62 : decode cX5_joins 62 = .ok (.iaload, 1) := by decide +kernel
theorem dX5_joins_63 : decode cX5_joins 63 = .ok (.iconst 1, 1) := by decide +kernel
theorem dX5_joins_64 : decode cX5_joins 64 = .ok (.iadd, 1) := by decide +kernel
theorem dX5_joins_65 : decode cX5_joins 65 = .ok (.iastore, 1) := by decide +kernel
theorem dX5_joins_66 : decode cX5_joins 66 = .ok (.aload_n 0, 1) := by decide +kernel
theorem dX5_joins_67 : decode cX5_joins 67 = .ok (.getfield 53, 3) := by decide +kernel
theorem dX5_joins_70 : decode cX5_joins 70 = .ok (.bipush 6, 2) := by decide +kernel
theorem dX5_joins_72 : decode cX5_joins 72 = .ok (.aload_n 0, 1) := by decide +kernel
theorem dX5_joins_73 : decode cX5_joins 73 = .ok (.getfield 135, 3) := by decide +kernel
theorem dX5_joins_76 : decode cX5_joins 76 = .ok (.imul, 1) := by decide +kernel
theorem dX5_joins_77 : decode cX5_joins 77 = .ok (.iload_n 1, 1) := by decide +kernel
theorem dX5_joins_78 : decode cX5_joins 78 = .ok (.iadd, 1) := by decide +kernel
theorem dX5_joins_79 : decode cX5_joins 79 = .ok (.aload_n 0, 1) := by decide +kernel
theorem dX5_joins_80 : decode cX5_joins 80 = .ok (.getfield 62, 3) := by decide +kernel
theorem dX5_joins_83 : decode cX5_joins 83 = .ok (.iload_n 1, 1) := by decide +kernel
theorem dX5_joins_84 : decode cX5_joins 84 = .ok (.iaload, 1) := by decide +kernel
theorem dX5_joins_85 : decode cX5_joins 85 = .ok (.iastore, 1) := by decide +kernel
theorem dX5_joins_86 : decode cX5_joins 86 = .ok (.iinc 1 1, 3) := by decide +kernel
theorem dX5_joins_89 : decode cX5_joins 89 = .ok (.goto (-61), 3) := by decide +kernel
theorem dX5_joins_92 : decode cX5_joins 92 = .ok (.aload_n 0, 1) := by decide +kernel
theorem dX5_joins_93 : decode cX5_joins 93 = .ok (.getfield 50, 3) := by decide +kernel
theorem dX5_joins_96 : decode cX5_joins 96 = .ok (.aload_n 0, 1) := by decide +kernel
theorem dX5_joins_97 : decode cX5_joins 97 = .ok (.getfield 135, 3) := by decide +kernel
theorem dX5_joins_100 : decode cX5_joins 100 = .ok (.aload_n 0, 1) := by decide +kernel
theorem dX5_joins_101 : decode cX5_joins 101 = .ok (.getfield 26, 3) := by decide +kernel
theorem dX5_joins_104 : decode cX5_joins 104 = .ok (.iastore, 1) := by decide +kernel
theorem dX5_joins_105 : decode cX5_joins 105 = .ok (.aload_n 0, 1) := by decide +kernel
theorem dX5_joins_106 : decode cX5_joins 106 = .ok (.dup, 1) := by decide +kernel
theorem dX5_joins_107 : decode cX5_joins 107 = .ok (.getfield 135, 3) := by decide +kernel
theorem dX5_joins_110 : decode cX5_joins 110 = .ok (.iconst 1, 1) := by decide +kernel
theorem dX5_joins_111 : decode cX5_joins 111 = .ok (.iadd, 1) := by decide +kernel
theorem dX5_joins_112 : decode cX5_joins 112 = .ok (.putfield 135, 3) := by decide +kernel
theorem dX5_joins_115 : decode cX5_joins 115 = .ok (.aload_n 0, 1) := by decide +kernel
theorem dX5_joins_116 : decode cX5_joins 116 = .ok (.aload_n 0, 1) := by decide +kernel
theorem dX5_joins_117 : decode cX5_joins 117 = .ok (.getfield 22, 3) := by decide +kernel
theorem dX5_joins_120 : decode cX5_joins 120 = .ok (.putfield 138, 3) := by decide +kernel
theorem dX5_joins_123 : decode cX5_joins 123 = .ok (.iconst 1, 1) := by decide +kernel
theorem dX5_joins_124 : decode cX5_joins 124 = .ok (.ireturn, 1) := by decide +kernel
set_option maxRecDepth 20000 in
theorem ggX5_hasRoom_X5_colourAt : GoodIn wsX5_hasRoom wsX5_colourAt := goodIn_r _ [10, 3, 11, 12, 13, 14, 15, 16, 17, 18, 19, 20, 21, 22, 23, 24, 25, 26, 27, 28, 29, 30, 31, 32, 33, 34, 35, 36, 37, 38, 39, 40, 41, 42, 43, 44, 45, 46, 47, 48, 49, 50, 51, 52, 53, 54, 55, 56, 57, 58, 59, 60] (by decide +kernel) (by decide +kernel)
set_option maxRecDepth 20000 in
theorem gX5_hasRoom_X5_colourAt : GoodIn wsX5_hasRoom (wsV RX5 128 RX5 yX5_colourAt wsX5_colourAt) := goodIn_app (goodIn_of _ (by decide +kernel)) ggX5_hasRoom_X5_colourAt
theorem dX5_hasRoom_0 : decode cX5_hasRoom 0 = .ok (.iconst 0, 1) := by decide +kernel
theorem dX5_hasRoom_1 : decode cX5_hasRoom 1 = .ok (.istore_n 2, 1) := by decide +kernel
theorem dX5_hasRoom_2 : decode cX5_hasRoom 2 = .ok (.iload_n 2, 1) := by decide +kernel
theorem dX5_hasRoom_3 : decode cX5_hasRoom 3 = .ok (.aload_n 0, 1) := by decide +kernel
theorem dX5_hasRoom_4 : decode cX5_hasRoom 4 = .ok (.getfield 125, 3) := by decide +kernel
theorem dX5_hasRoom_7 : decode cX5_hasRoom 7 = .ok (.if_icmp .ge 90, 3) := by decide +kernel
theorem dX5_hasRoom_10 : decode cX5_hasRoom 10 = .ok (.aload_n 0, 1) := by decide +kernel
theorem dX5_hasRoom_11 : decode cX5_hasRoom 11 = .ok (.getfield 56, 3) := by decide +kernel
theorem dX5_hasRoom_14 : decode cX5_hasRoom 14 = .ok (.iload_n 2, 1) := by decide +kernel
theorem dX5_hasRoom_15 : decode cX5_hasRoom 15 = .ok (.iaload, 1) := by decide +kernel
theorem dX5_hasRoom_16 : decode cX5_hasRoom 16 = .ok (.istore_n 3, 1) := by decide +kernel
theorem dX5_hasRoom_17 : decode cX5_hasRoom 17 = .ok (.iload_n 3, 1) := by decide +kernel
theorem dX5_hasRoom_18 : decode cX5_hasRoom 18 = .ok (.aload_n 0, 1) := by decide +kernel
theorem dX5_hasRoom_19 : decode cX5_hasRoom 19 = .ok (.getfield 122, 3) := by decide +kernel
theorem dX5_hasRoom_22 : decode cX5_hasRoom 22 = .ok (.if_icmp .ne 7, 3) := by decide +kernel
theorem dX5_hasRoom_25 : decode cX5_hasRoom 25 = .ok (.iconst 0, 1) := by decide +kernel
theorem dX5_hasRoom_26 : decode cX5_hasRoom 26 = .ok (.goto 9, 3) := by decide +kernel
theorem dX5_hasRoom_29 : decode cX5_hasRoom 29 = .ok (.aload_n 0, 1) := by decide +kernel
theorem dX5_hasRoom_30 : decode cX5_hasRoom 30 = .ok (.getfield 35, 3) := by decide +kernel
theorem dX5_hasRoom_33 : decode cX5_hasRoom 33 = .ok (.iload_n 3, 1) := by decide +kernel
theorem dX5_hasRoom_34 : decode cX5_hasRoom 34 = .ok (.iaload, 1) := by decide +kernel
theorem dX5_hasRoom_35 : decode cX5_hasRoom 35 = .ok (.istore 4, 2) := by decide +kernel
theorem dX5_hasRoom_37 : decode cX5_hasRoom 37 = .ok (.iconst 0, 1) := by decide +kernel
theorem dX5_hasRoom_38 : decode cX5_hasRoom 38 = .ok (.istore 5, 2) := by decide +kernel
theorem dX5_hasRoom_40 : decode cX5_hasRoom 40 = .ok (.iload 5, 2) := by decide +kernel
theorem dX5_hasRoom_42 : decode cX5_hasRoom 42 = .ok (.iload_n 2, 1) := by decide +kernel
theorem dX5_hasRoom_43 : decode cX5_hasRoom 43 = .ok (.if_icmp .gt 30, 3) := by decide +kernel
theorem dX5_hasRoom_46 : decode cX5_hasRoom 46 = .ok (.iload 4, 2) := by decide +kernel
theorem dX5_hasRoom_48 : decode cX5_hasRoom 48 = .ok (.aload_n 0, 1) := by decide +kernel
theorem dX5_hasRoom_49 : decode cX5_hasRoom 49 = .ok (.getfield 56, 3) := by decide +kernel
theorem dX5_hasRoom_52 : decode cX5_hasRoom 52 = .ok (.iload 5, 2) := by decide +kernel
theorem dX5_hasRoom_54 : decode cX5_hasRoom 54 = .ok (.iaload, 1) := by decide +kernel
theorem dX5_hasRoom_55 : decode cX5_hasRoom 55 = .ok (.iload_n 3, 1) := by decide +kernel
theorem dX5_hasRoom_56 : decode cX5_hasRoom 56 = .ok (.if_icmp .ne 7, 3) := by decide +kernel
theorem dX5_hasRoom_59 : decode cX5_hasRoom 59 = .ok (.iconst 1, 1) := by decide +kernel
theorem dX5_hasRoom_60 : decode cX5_hasRoom 60 = .ok (.goto 4, 3) := by decide +kernel
theorem dX5_hasRoom_63 : decode cX5_hasRoom 63 = .ok (.iconst 0, 1) := by decide +kernel
theorem dX5_hasRoom_64 : decode cX5_hasRoom 64 = .ok (.iadd, 1) := by decide +kernel
theorem dX5_hasRoom_65 : decode cX5_hasRoom 65 = .ok (.istore 4, 2) := by decide +kernel
theorem dX5_hasRoom_67 : decode cX5_hasRoom 67 = .ok (.iinc 5 1, 3) := by decide +kernel
theorem dX5_hasRoom_70 : decode cX5_hasRoom 70 = .ok (.goto (-30), 3) := by decide +kernel
theorem dX5_hasRoom_73 : decode cX5_hasRoom 73 = .ok (.iload 4, 2) := by decide +kernel
theorem dX5_hasRoom_75 : decode cX5_hasRoom 75 = .ok (.aload_n 0, 1) := by decide +kernel
theorem dX5_hasRoom_76 : decode cX5_hasRoom 76 = .ok (.getfield 13, 3) := by decide +kernel
theorem dX5_hasRoom_79 : decode cX5_hasRoom 79 = .ok (.aload_n 0, 1) := by decide +kernel
theorem dX5_hasRoom_80 : decode cX5_hasRoom 80 = .ok (.iload_n 3, 1) := by decide +kernel
theorem dX5_hasRoom_81 : decode cX5_hasRoom 81 = .ok (.iload_n 1, 1) := by decide +kernel
theorem dX5_hasRoom_82 : decode cX5_hasRoom 82 = .ok (.invokevirtual 128, 3) := by decide +kernel
theorem dX5_hasRoom_85 : decode cX5_hasRoom 85 = .ok (.iaload, 1) := by decide +kernel
theorem dX5_hasRoom_86 : decode cX5_hasRoom 86 = .ok (.if_icmp .le 5, 3) := by decide +kernel
theorem dX5_hasRoom_89 : decode cX5_hasRoom 89 = .ok (.iconst 0, 1) := by decide +kernel
theorem dX5_hasRoom_90 : decode cX5_hasRoom 90 = .ok (.ireturn, 1) := by decide +kernel
theorem dX5_hasRoom_91 : decode cX5_hasRoom 91 = .ok (.iinc 2 1, 3) := by decide +kernel
theorem dX5_hasRoom_94 : decode cX5_hasRoom 94 = .ok (.goto (-92), 3) := by decide +kernel
theorem dX5_hasRoom_97 : decode cX5_hasRoom 97 = .ok (.iconst 1, 1) := by decide +kernel
theorem dX5_hasRoom_98 : decode cX5_hasRoom 98 = .ok (.ireturn, 1) := by decide +kernel
theorem dX5_fails_0 : decode cX5_fails 0 = .ok (.aload_n 0, 1) := by decide +kernel
theorem dX5_fails_1 : decode cX5_fails 1 = .ok (.iload_n 1, 1) := by decide +kernel
theorem dX5_fails_2 : decode cX5_fails 2 = .ok (.putfield 141, 3) := by decide +kernel
theorem dX5_fails_5 : decode cX5_fails 5 = .ok (.aload_n 0, 1) := by decide +kernel
theorem dX5_fails_6 : decode cX5_fails 6 = .ok (.iload_n 2, 1) := by decide +kernel
theorem dX5_fails_7 : decode cX5_fails 7 = .ok (.putfield 144, 3) := by decide +kernel
theorem dX5_fails_10 : decode cX5_fails 10 = .ok (.iconst 0, 1) := by decide +kernel
theorem dX5_fails_11 : decode cX5_fails 11 = .ok (.ireturn, 1) := by decide +kernel
set_option maxRecDepth 20000 in
theorem ggX5_picks_X5_catches : GoodIn wsX5_picks wsX5_catches := goodIn_r _ [26, 27, 16, 2, 3, 4, 28, 29, 30, 25, 31, 19, 32, 33, 34, 35, 7, 36, 37, 38, 75, 76, 77, 78, 79, 80, 81, 82, 83, 84, 85, 86, 87, 88, 89, 90, 91, 92, 93, 94, 95, 96, 97, 98, 99, 100, 101, 102, 103, 104, 105, 106, 107, 108, 109, 110, 111, 112, 113, 114, 115, 116, 117, 118, 119, 120, 121, 122] (by decide +kernel) (by decide +kernel)
set_option maxRecDepth 20000 in
theorem gX5_picks_X5_catches : GoodIn wsX5_picks (wsV RX5 151 RX5 yX5_catches wsX5_catches) := goodIn_app (goodIn_of _ (by decide +kernel)) ggX5_picks_X5_catches
set_option maxRecDepth 20000 in
theorem ggX5_picks_X5_fails : GoodIn wsX5_picks wsX5_fails := goodIn_r _ [42, 43, 44, 75, 76, 77, 78, 79, 80, 81, 82, 83, 84, 85, 86, 87, 88, 89, 90, 91, 92, 93, 94, 95, 96, 97, 98, 99, 100, 101, 102, 103, 104, 105, 106, 107, 108, 109, 110, 111, 112, 113, 114, 115, 116, 117, 118, 119, 120, 121, 122] (by decide +kernel) (by decide +kernel)
set_option maxRecDepth 20000 in
theorem gX5_picks_X5_fails : GoodIn wsX5_picks (wsV RX5 155 RX5 yX5_fails wsX5_fails) := goodIn_app (goodIn_of _ (by decide +kernel)) ggX5_picks_X5_fails
set_option maxRecDepth 20000 in
theorem ggX5_picks_X5_passesBy : GoodIn wsX5_picks wsX5_passesBy := goodIn_r _ [48, 18, 1, 75, 76, 77, 78, 79, 80, 81, 82, 83, 84, 85, 86, 87, 88, 89, 90, 91, 92, 93, 94, 95, 96, 97, 98, 99, 100, 101, 102, 103, 104, 105, 106, 107, 108, 109, 110, 111, 112, 113, 114, 115, 116, 117, 118, 119, 120, 121, 122] (by decide +kernel) (by decide +kernel)
set_option maxRecDepth 20000 in
theorem gX5_picks_X5_passesBy : GoodIn wsX5_picks (wsV RX5 165 RX5 yX5_passesBy wsX5_passesBy) := goodIn_app (goodIn_of _ (by decide +kernel)) ggX5_picks_X5_passesBy
set_option maxRecDepth 20000 in
theorem ggX5_picks_X5_needs : GoodIn wsX5_picks wsX5_needs := goodIn_r _ [52, 1, 53, 18, 54, 55, 56, 25, 57, 3, 15, 14, 75, 76, 77, 78, 79, 80, 81, 82, 83, 84, 85, 86, 87, 88, 89, 90, 91, 92, 93, 94, 95, 96, 97, 98, 99, 100, 101, 102, 103, 104, 105, 106, 107, 108, 109, 110, 111, 112, 113, 114, 115, 116, 117, 118, 119, 120, 121, 122] (by decide +kernel) (by decide +kernel)
set_option maxRecDepth 20000 in
theorem gX5_picks_X5_needs : GoodIn wsX5_picks (wsV RX5 169 RX5 yX5_needs wsX5_needs) := goodIn_app (goodIn_of _ (by decide +kernel)) ggX5_picks_X5_needs
set_option maxRecDepth 20000 in
theorem ggX5_picks_X5_joins : GoodIn wsX5_picks wsX5_joins := goodIn_r _ [61, 62, 63, 64, 13, 65, 10, 12, 9, 11, 66, 67, 68, 25, 69, 3, 70, 14, 75, 76, 77, 78, 79, 80, 81, 82, 83, 84, 85, 86, 87, 88, 89, 90, 91, 92, 93, 94, 95, 96, 97, 98, 99, 100, 101, 102, 103, 104, 105, 106, 107, 108, 109, 110, 111, 112, 113, 114, 115, 116, 117, 118, 119, 120, 121, 122] (by decide +kernel) (by decide +kernel)
set_option maxRecDepth 20000 in
theorem gX5_picks_X5_joins : GoodIn wsX5_picks (wsV RX5 172 RX5 yX5_joins wsX5_joins) := goodIn_app (goodIn_of _ (by decide +kernel)) ggX5_picks_X5_joins
set_option maxRecDepth 20000 in
theorem ggX5_picks_X5_hasRoom : GoodIn wsX5_picks wsX5_hasRoom := goodIn_r _ [74, 1, 18, 3, 13, 70, 54, 55, 56, 25, 57, 15, 14, 75, 76, 77, 78, 79, 80, 81, 82, 83, 84, 85, 86, 87, 88, 89, 90, 91, 92, 93, 94, 95, 96, 97, 98, 99, 100, 101, 102, 103, 104, 105, 106, 107, 108, 109, 110, 111, 112, 113, 114, 115, 116, 117, 118, 119, 120, 121, 122] (by decide +kernel) (by decide +kernel)
set_option maxRecDepth 20000 in
theorem gX5_picks_X5_hasRoom : GoodIn wsX5_picks (wsV RX5 176 RX5 yX5_hasRoom wsX5_hasRoom) := goodIn_app (goodIn_of _ (by decide +kernel)) ggX5_picks_X5_hasRoom
theorem dX5_picks_0 : decode cX5_picks 0 = .ok (.bipush 12, 2) := by decide +kernel
theorem dX5_picks_2 : decode cX5_picks 2 = .ok (.iload_n 1, 1) := by decide +kernel
theorem dX5_picks_3 : decode cX5_picks 3 = .ok (.imul, 1) := by decide +kernel
theorem dX5_picks_4 : decode cX5_picks 4 = .ok (.iload_n 2, 1) := by decide +kernel
theorem dX5_picks_5 : decode cX5_picks 5 = .ok (.iadd, 1) := by decide +kernel
theorem dX5_picks_6 : decode cX5_picks 6 = .ok (.istore 5, 2) := by decide +kernel
theorem dX5_picks_8 : decode cX5_picks 8 = .ok (.aload_n 0, 1) := by decide +kernel
theorem dX5_picks_9 : decode cX5_picks 9 = .ok (.iconst 0, 1) := by decide +kernel
theorem dX5_picks_10 : decode cX5_picks 10 = .ok (.putfield 125, 3) := by decide +kernel
theorem dX5_picks_13 : decode cX5_picks 13 = .ok (.aload_n 0, 1) := by decide +kernel
theorem dX5_picks_14 : decode cX5_picks 14 = .ok (.getfield 38, 3) := by decide +kernel
theorem dX5_picks_17 : decode cX5_picks 17 = .ok (.aload_n 0, 1) := by decide +kernel
theorem dX5_picks_18 : decode cX5_picks 18 = .ok (.getfield 122, 3) := by decide +kernel
theorem dX5_picks_21 : decode cX5_picks 21 = .ok (.iconst (-1), 1) := by decide +kernel
theorem dX5_picks_22 : decode cX5_picks 22 = .ok (.iastore, 1) := by decide +kernel
theorem dX5_picks_23 : decode cX5_picks 23 = .ok (.aload_n 0, 1) := by decide +kernel
theorem dX5_picks_24 : decode cX5_picks 24 = .ok (.getfield 41, 3) := by decide +kernel
theorem dX5_picks_27 : decode cX5_picks 27 = .ok (.aload_n 0, 1) := by decide +kernel
theorem dX5_picks_28 : decode cX5_picks 28 = .ok (.getfield 122, 3) := by decide +kernel
theorem dX5_picks_31 : decode cX5_picks 31 = .ok (.iconst (-1), 1) := by decide +kernel
theorem dX5_picks_32 : decode cX5_picks 32 = .ok (.iastore, 1) := by decide +kernel
theorem dX5_picks_33 : decode cX5_picks 33 = .ok (.aload_n 0, 1) := by decide +kernel
theorem dX5_picks_34 : decode cX5_picks 34 = .ok (.getfield 147, 3) := by decide +kernel
theorem dX5_picks_37 : decode cX5_picks 37 = .ok (.ifCond .ne 61, 3) := by decide +kernel
theorem dX5_picks_40 : decode cX5_picks 40 = .ok (.aload_n 0, 1) := by decide +kernel
theorem dX5_picks_41 : decode cX5_picks 41 = .ok (.iload_n 1, 1) := by decide +kernel
theorem dX5_picks_42 : decode cX5_picks 42 = .ok (.iload_n 2, 1) := by decide +kernel
theorem dX5_picks_43 : decode cX5_picks 43 = .ok (.iload_n 3, 1) := by decide +kernel
theorem dX5_picks_44 : decode cX5_picks 44 = .ok (.invokevirtual 151, 3) := by decide +kernel
theorem dX5_picks_47 : decode cX5_picks 47 = .ok (.aload_n 0, 1) := by decide +kernel
theorem dX5_picks_48 : decode cX5_picks 48 = .ok (.getfield 38, 3) := by decide +kernel
theorem dX5_picks_51 : decode cX5_picks 51 = .ok (.aload_n 0, 1) := by decide +kernel
theorem dX5_picks_52 : decode cX5_picks 52 = .ok (.getfield 122, 3) := by decide +kernel
theorem dX5_picks_55 : decode cX5_picks 55 = .ok (.iaload, 1) := by decide +kernel
theorem dX5_picks_56 : decode cX5_picks 56 = .ok (.ifCond .ge 11, 3) := by decide +kernel
theorem dX5_picks_59 : decode cX5_picks 59 = .ok (.aload_n 0, 1) := by decide +kernel
theorem dX5_picks_60 : decode cX5_picks 60 = .ok (.iconst 1, 1) := by decide +kernel
theorem dX5_picks_61 : decode cX5_picks 61 = .ok (.iload 5, 2) := by decide +kernel
theorem dX5_picks_63 : decode cX5_picks 63 = .ok (.invokevirtual 155, 3) := by decide +kernel
theorem dX5_picks_66 : decode cX5_picks 66 = .ok (.ireturn, 1) := by decide +kernel
theorem dX5_picks_67 : decode cX5_picks 67 = .ok (.aload_n 0, 1) := by decide +kernel
theorem dX5_picks_68 : decode cX5_picks 68 = .ok (.getfield 159, 3) := by decide +kernel
theorem dX5_picks_71 : decode cX5_picks 71 = .ok (.ifCond .ne 27, 3) := by decide +kernel
theorem dX5_picks_74 : decode cX5_picks 74 = .ok (.aload_n 0, 1) := by decide +kernel
theorem dX5_picks_75 : decode cX5_picks 75 = .ok (.aload_n 0, 1) := by decide +kernel
theorem dX5_picks_76 : decode cX5_picks 76 = .ok (.getfield 96, 3) := by decide +kernel
theorem dX5_picks_79 : decode cX5_picks 79 = .ok (.ifCond .ne 12, 3) := by decide +kernel
theorem dX5_picks_82 : decode cX5_picks 82 = .ok (.aload_n 0, 1) := by decide +kernel
theorem dX5_picks_83 : decode cX5_picks 83 = .ok (.getfield 122, 3) := by decide +kernel
theorem dX5_picks_86 : decode cX5_picks 86 = .ok (.iconst 1, 1) := by decide +kernel
theorem dX5_picks_87 : decode cX5_picks 87 = .ok (.isub, 1) := by decide +kernel
theorem dX5_picks_88 : decode cX5_picks 88 = .ok (.goto 7, 3) := by decide +kernel
theorem dX5_picks_91 : decode cX5_picks 91 = .ok (.aload_n 0, 1) := by decide +kernel
theorem dX5_picks_92 : decode cX5_picks 92 = .ok (.getfield 162, 3) := by decide +kernel
theorem dX5_picks_95 : decode cX5_picks 95 = .ok (.invokevirtual 165, 3) := by decide +kernel
theorem dX5_picks_98 : decode cX5_picks 98 = .ok (.aload_n 0, 1) := by decide +kernel
theorem dX5_picks_99 : decode cX5_picks 99 = .ok (.aload_n 0, 1) := by decide +kernel
theorem dX5_picks_100 : decode cX5_picks 100 = .ok (.getfield 122, 3) := by decide +kernel
theorem dX5_picks_103 : decode cX5_picks 103 = .ok (.invokevirtual 165, 3) := by decide +kernel
theorem dX5_picks_106 : decode cX5_picks 106 = .ok (.aload_n 0, 1) := by decide +kernel
theorem dX5_picks_107 : decode cX5_picks 107 = .ok (.getfield 147, 3) := by decide +kernel
theorem dX5_picks_110 : decode cX5_picks 110 = .ok (.ifCond .eq 20, 3) := by decide +kernel
theorem dX5_picks_113 : decode cX5_picks 113 = .ok (.aload_n 0, 1) := by decide +kernel
theorem dX5_picks_114 : decode cX5_picks 114 = .ok (.getfield 122, 3) := by decide +kernel
theorem dX5_picks_117 : decode cX5_picks 117 = .ok (.ifCond .le 13, 3) := by decide +kernel
theorem dX5_picks_120 : decode cX5_picks 120 = .ok (.aload_n 0, 1) := by decide +kernel
theorem dX5_picks_121 : decode cX5_picks 121 = .ok (.aload_n 0, 1) := by decide +kernel
theorem dX5_picks_122 : decode cX5_picks 122 = .ok (.getfield 122, 3) := by decide +kernel
theorem dX5_picks_125 : decode cX5_picks 125 = .ok (.iconst 1, 1) := by decide +kernel
theorem dX5_picks_126 : decode cX5_picks 126 = .ok (.isub, 1) := by decide +kernel
theorem dX5_picks_127 : decode cX5_picks 127 = .ok (.invokevirtual 165, 3) := by decide +kernel
theorem dX5_picks_130 : decode cX5_picks 130 = .ok (.aload_n 0, 1) := by decide +kernel
theorem dX5_picks_131 : decode cX5_picks 131 = .ok (.getfield 147, 3) := by decide +kernel
theorem dX5_picks_134 : decode cX5_picks 134 = .ok (.ifCond .ne 16, 3) := by decide +kernel
theorem dX5_picks_137 : decode cX5_picks 137 = .ok (.aload_n 0, 1) := by decide +kernel
theorem dX5_picks_138 : decode cX5_picks 138 = .ok (.aload_n 0, 1) := by decide +kernel
theorem dX5_picks_139 : decode cX5_picks 139 = .ok (.getfield 38, 3) := by decide +kernel
theorem dX5_picks_142 : decode cX5_picks 142 = .ok (.aload_n 0, 1) := by decide +kernel
theorem dX5_picks_143 : decode cX5_picks 143 = .ok (.getfield 122, 3) := by decide +kernel
theorem dX5_picks_146 : decode cX5_picks 146 = .ok (.iaload, 1) := by decide +kernel
theorem dX5_picks_147 : decode cX5_picks 147 = .ok (.invokevirtual 165, 3) := by decide +kernel
theorem dX5_picks_150 : decode cX5_picks 150 = .ok (.aload_n 0, 1) := by decide +kernel
theorem dX5_picks_151 : decode cX5_picks 151 = .ok (.getfield 147, 3) := by decide +kernel
theorem dX5_picks_154 : decode cX5_picks 154 = .ok (.ifCond .ne 28, 3) := by decide +kernel
theorem dX5_picks_157 : decode cX5_picks 157 = .ok (.aload_n 0, 1) := by decide +kernel
theorem dX5_picks_158 : decode cX5_picks 158 = .ok (.getfield 41, 3) := by decide +kernel
theorem dX5_picks_161 : decode cX5_picks 161 = .ok (.aload_n 0, 1) := by decide +kernel
theorem dX5_picks_162 : decode cX5_picks 162 = .ok (.getfield 122, 3) := by decide +kernel
theorem dX5_picks_165 : decode cX5_picks 165 = .ok (.iaload, 1) := by decide +kernel
theorem dX5_picks_166 : decode cX5_picks 166 = .ok (.ifCond .lt 16, 3) := by decide +kernel
theorem dX5_picks_169 : decode cX5_picks 169 = .ok (.aload_n 0, 1) := by decide +kernel
theorem dX5_picks_170 : decode cX5_picks 170 = .ok (.aload_n 0, 1) := by decide +kernel
theorem dX5_picks_171 : decode cX5_picks 171 = .ok (.getfield 41, 3) := by decide +kernel
theorem dX5_picks_174 : decode cX5_picks 174 = .ok (.aload_n 0, 1) := by decide +kernel
theorem dX5_picks_175 : decode cX5_picks 175 = .ok (.getfield 122, 3) := by decide +kernel
theorem dX5_picks_178 : decode cX5_picks 178 = .ok (.iaload, 1) := by decide +kernel
theorem dX5_picks_179 : decode cX5_picks 179 = .ok (.invokevirtual 165, 3) := by decide +kernel
theorem dX5_picks_182 : decode cX5_picks 182 = .ok (.aload_n 0, 1) := by decide +kernel
theorem dX5_picks_183 : decode cX5_picks 183 = .ok (.getfield 147, 3) := by decide +kernel
theorem dX5_picks_186 : decode cX5_picks 186 = .ok (.ifCond .eq 28, 3) := by decide +kernel
theorem dX5_picks_189 : decode cX5_picks 189 = .ok (.aload_n 0, 1) := by decide +kernel
theorem dX5_picks_190 : decode cX5_picks 190 = .ok (.getfield 96, 3) := by decide +kernel
theorem dX5_picks_193 : decode cX5_picks 193 = .ok (.ifCond .le 21, 3) := by decide +kernel
theorem dX5_picks_196 : decode cX5_picks 196 = .ok (.iload 4, 2) := by decide +kernel
theorem dX5_picks_198 : decode cX5_picks 198 = .ok (.ifCond .eq 16, 3) := by decide +kernel
theorem dX5_picks_201 : decode cX5_picks 201 = .ok (.aload_n 0, 1) := by decide +kernel
theorem dX5_picks_202 : decode cX5_picks 202 = .ok (.getfield 122, 3) := by decide +kernel
theorem dX5_picks_205 : decode cX5_picks 205 = .ok (.iconst 2, 1) := by decide +kernel
theorem dX5_picks_206 : decode cX5_picks 206 = .ok (.if_icmp .lt 8, 3) := by decide +kernel
theorem dX5_picks_209 : decode cX5_picks 209 = .ok (.aload_n 0, 1) := by decide +kernel
theorem dX5_picks_210 : decode cX5_picks 210 = .ok (.iconst 0, 1) := by decide +kernel
theorem dX5_picks_211 : decode cX5_picks 211 = .ok (.invokevirtual 165, 3) := by decide +kernel
theorem dX5_picks_214 : decode cX5_picks 214 = .ok (.aload_n 0, 1) := by decide +kernel
theorem dX5_picks_215 : decode cX5_picks 215 = .ok (.iload 5, 2) := by decide +kernel
theorem dX5_picks_217 : decode cX5_picks 217 = .ok (.invokevirtual 169, 3) := by decide +kernel
theorem dX5_picks_220 : decode cX5_picks 220 = .ok (.istore 6, 2) := by decide +kernel
theorem dX5_picks_222 : decode cX5_picks 222 = .ok (.iload 6, 2) := by decide +kernel
theorem dX5_picks_224 : decode cX5_picks 224 = .ok (.aload_n 0, 1) := by decide +kernel
theorem dX5_picks_225 : decode cX5_picks 225 = .ok (.getfield 22, 3) := by decide +kernel
theorem dX5_picks_228 : decode cX5_picks 228 = .ok (.if_icmp .le 11, 3) := by decide +kernel
theorem dX5_picks_231 : decode cX5_picks 231 = .ok (.aload_n 0, 1) := by decide +kernel
theorem dX5_picks_232 : decode cX5_picks 232 = .ok (.iconst 3, 1) := by decide +kernel
theorem dX5_picks_233 : decode cX5_picks 233 = .ok (.iload 5, 2) := by decide +kernel
theorem dX5_picks_235 : decode cX5_picks 235 = .ok (.invokevirtual 155, 3) := by decide +kernel
theorem dX5_picks_238 : decode cX5_picks 238 = .ok (.ireturn, 1) := by decide +kernel
theorem dX5_picks_239 : decode cX5_picks 239 = .ok (.aload_n 0, 1) := by decide +kernel
theorem dX5_picks_240 : decode cX5_picks 240 = .ok (.getfield 135, 3) := by decide +kernel
theorem dX5_picks_243 : decode cX5_picks 243 = .ok (.ifCond .ne 23, 3) := by decide +kernel
theorem dX5_picks_246 : decode cX5_picks 246 = .ok (.aload_n 0, 1) := by decide +kernel
theorem dX5_picks_247 : decode cX5_picks 247 = .ok (.aload_n 0, 1) := by decide +kernel
theorem dX5_picks_248 : decode cX5_picks 248 = .ok (.getfield 22, 3) := by decide +kernel
theorem dX5_picks_251 : decode cX5_picks 251 = .ok (.putfield 138, 3) := by decide +kernel
theorem dX5_picks_254 : decode cX5_picks 254 = .ok (.aload_n 0, 1) := by decide +kernel
theorem dX5_picks_255 : decode cX5_picks 255 = .ok (.iconst 1, 1) := by decide +kernel
theorem dX5_picks_256 : decode cX5_picks 256 = .ok (.putfield 135, 3) := by decide +kernel
theorem dX5_picks_259 : decode cX5_picks 259 = .ok (.aload_n 0, 1) := by decide +kernel
theorem dX5_picks_260 : decode cX5_picks 260 = .ok (.getfield 50, 3) := by decide +kernel
theorem dX5_picks_263 : decode cX5_picks 263 = .ok (.iconst 0, 1) := by decide +kernel
theorem dX5_picks_264 : decode cX5_picks 264 = .ok (.iconst 0, 1) := by decide +kernel
theorem dX5_picks_265 : decode cX5_picks 265 = .ok (.iastore, 1) := by decide +kernel
theorem dX5_picks_266 : decode cX5_picks 266 = .ok (.aload_n 0, 1) := by decide +kernel
theorem dX5_picks_267 : decode cX5_picks 267 = .ok (.getfield 138, 3) := by decide +kernel
theorem dX5_picks_270 : decode cX5_picks 270 = .ok (.iload 6, 2) := by decide +kernel
theorem dX5_picks_272 : decode cX5_picks 272 = .ok (.if_icmp .ge 18, 3) := by decide +kernel
theorem dX5_picks_275 : decode cX5_picks 275 = .ok (.aload_n 0, 1) := by decide +kernel
theorem dX5_picks_276 : decode cX5_picks 276 = .ok (.invokevirtual 172, 3) := by decide +kernel
theorem dX5_picks_279 : decode cX5_picks 279 = .ok (.ifCond .ne 11, 3) := by decide +kernel
theorem dX5_picks_282 : decode cX5_picks 282 = .ok (.aload_n 0, 1) := by decide +kernel
theorem dX5_picks_283 : decode cX5_picks 283 = .ok (.iconst 4, 1) := by decide +kernel
theorem dX5_picks_284 : decode cX5_picks 284 = .ok (.iload 5, 2) := by decide +kernel
theorem dX5_picks_286 : decode cX5_picks 286 = .ok (.invokevirtual 155, 3) := by decide +kernel
theorem dX5_picks_289 : decode cX5_picks 289 = .ok (.ireturn, 1) := by decide +kernel
theorem dX5_picks_290 : decode cX5_picks 290 = .ok (.aload_n 0, 1) := by decide +kernel
theorem dX5_picks_291 : decode cX5_picks 291 = .ok (.iload 5, 2) := by decide +kernel
theorem dX5_picks_293 : decode cX5_picks 293 = .ok (.invokevirtual 176, 3) := by decide +kernel
theorem dX5_picks_296 : decode cX5_picks 296 = .ok (.ifCond .ne 11, 3) := by decide +kernel
theorem dX5_picks_299 : decode cX5_picks 299 = .ok (.aload_n 0, 1) := by decide +kernel
theorem dX5_picks_300 : decode cX5_picks 300 = .ok (.iconst 2, 1) := by decide +kernel
theorem dX5_picks_301 : decode cX5_picks 301 = .ok (.iload 5, 2) := by decide +kernel
theorem dX5_picks_303 : decode cX5_picks 303 = .ok (.invokevirtual 155, 3) := by decide +kernel
theorem dX5_picks_306 : decode cX5_picks 306 = .ok (.ireturn, 1) := by decide +kernel
theorem dX5_picks_307 : decode cX5_picks 307 = .ok (.aload_n 0, 1) := by decide +kernel
theorem dX5_picks_308 : decode cX5_picks 308 = .ok (.getfield 35, 3) := by decide +kernel
theorem dX5_picks_311 : decode cX5_picks 311 = .ok (.aload_n 0, 1) := by decide +kernel
theorem dX5_picks_312 : decode cX5_picks 312 = .ok (.getfield 122, 3) := by decide +kernel
theorem dX5_picks_315 : decode cX5_picks 315 = .ok (.iconst 0, 1) := by decide +kernel
theorem dX5_picks_316 : decode cX5_picks 316 = .ok (.iastore, 1) := by decide +kernel
theorem dX5_picks_317 : decode cX5_picks 317 = .ok (.aload_n 0, 1) := by decide +kernel
theorem dX5_picks_318 : decode cX5_picks 318 = .ok (.getfield 44, 3) := by decide +kernel
theorem dX5_picks_321 : decode cX5_picks 321 = .ok (.aload_n 0, 1) := by decide +kernel
theorem dX5_picks_322 : decode cX5_picks 322 = .ok (.getfield 122, 3) := by decide +kernel
theorem dX5_picks_325 : decode cX5_picks 325 = .ok (.aload_n 0, 1) := by decide +kernel
theorem dX5_picks_326 : decode cX5_picks 326 = .ok (.getfield 7, 3) := by decide +kernel
theorem dX5_picks_329 : decode cX5_picks 329 = .ok (.iload 5, 2) := by decide +kernel
theorem dX5_picks_331 : decode cX5_picks 331 = .ok (.iaload, 1) := by decide +kernel
theorem dX5_picks_332 : decode cX5_picks 332 = .ok (.iastore, 1) := by decide +kernel
theorem dX5_picks_333 : decode cX5_picks 333 = .ok (.aload_n 0, 1) := by decide +kernel
theorem dX5_picks_334 : decode cX5_picks 334 = .ok (.getfield 29, 3) := by decide +kernel
theorem dX5_picks_337 : decode cX5_picks 337 = .ok (.aload_n 0, 1) := by decide +kernel
theorem dX5_picks_338 : decode cX5_picks 338 = .ok (.getfield 122, 3) := by decide +kernel
theorem dX5_picks_341 : decode cX5_picks 341 = .ok (.iload 5, 2) := by decide +kernel
theorem dX5_picks_343 : decode cX5_picks 343 = .ok (.iastore, 1) := by decide +kernel
theorem dX5_picks_344 : decode cX5_picks 344 = .ok (.aload_n 0, 1) := by decide +kernel
theorem dX5_picks_345 : decode cX5_picks 345 = .ok (.getfield 32, 3) := by decide +kernel
theorem dX5_picks_348 : decode cX5_picks 348 = .ok (.aload_n 0, 1) := by decide +kernel
theorem dX5_picks_349 : decode cX5_picks 349 = .ok (.getfield 122, 3) := by decide +kernel
theorem dX5_picks_352 : decode cX5_picks 352 = .ok (.aload_n 0, 1) := by decide +kernel
theorem dX5_picks_353 : decode cX5_picks 353 = .ok (.getfield 135, 3) := by decide +kernel
theorem dX5_picks_356 : decode cX5_picks 356 = .ok (.iconst 1, 1) := by decide +kernel
theorem dX5_picks_357 : decode cX5_picks 357 = .ok (.isub, 1) := by decide +kernel
theorem dX5_picks_358 : decode cX5_picks 358 = .ok (.iastore, 1) := by decide +kernel
theorem dX5_picks_359 : decode cX5_picks 359 = .ok (.iconst 0, 1) := by decide +kernel
theorem dX5_picks_360 : decode cX5_picks 360 = .ok (.istore 7, 2) := by decide +kernel
theorem dX5_picks_362 : decode cX5_picks 362 = .ok (.iload 7, 2) := by decide +kernel
theorem dX5_picks_364 : decode cX5_picks 364 = .ok (.aload_n 0, 1) := by decide +kernel
theorem dX5_picks_365 : decode cX5_picks 365 = .ok (.getfield 125, 3) := by decide +kernel
theorem dX5_picks_368 : decode cX5_picks 368 = .ok (.if_icmp .ge 25, 3) := by decide +kernel
theorem dX5_picks_371 : decode cX5_picks 371 = .ok (.aload_n 0, 1) := by decide +kernel
theorem dX5_picks_372 : decode cX5_picks 372 = .ok (.getfield 35, 3) := by decide +kernel
theorem dX5_picks_375 : decode cX5_picks 375 = .ok (.aload_n 0, 1) := by decide +kernel
theorem dX5_picks_376 : decode cX5_picks 376 = .ok (.getfield 56, 3) := by decide +kernel
theorem dX5_picks_379 : decode cX5_picks 379 = .ok (.iload 7, 2) := by decide +kernel
theorem dX5_picks_381 : decode cX5_picks 381 = .ok (.iaload, 1) := by decide +kernel
theorem dX5_picks_382 : decode cX5_picks 382 = .ok (.dup2, 1) := by decide +kernel
theorem dX5_picks_383 : decode cX5_picks 383 = .ok (.iaload, 1) := by decide +kernel
theorem dX5_picks_384 : decode cX5_picks 384 = .ok (.iconst 1, 1) := by decide +kernel
theorem dX5_picks_385 : decode cX5_picks 385 = .ok (.iadd, 1) := by decide +kernel
theorem dX5_picks_386 : decode cX5_picks 386 = .ok (.iastore, 1) := by decide +kernel
theorem dX5_picks_387 : decode cX5_picks 387 = .ok (.iinc 7 1, 3) := by decide +kernel
theorem dX5_picks_390 : decode cX5_picks 390 = .ok (.goto (-28), 3) := by decide +kernel
theorem dX5_picks_393 : decode cX5_picks 393 = .ok (.aload_n 0, 1) := by decide +kernel
theorem dX5_picks_394 : decode cX5_picks 394 = .ok (.getfield 47, 3) := by decide +kernel
theorem dX5_picks_397 : decode cX5_picks 397 = .ok (.iload 5, 2) := by decide +kernel
theorem dX5_picks_399 : decode cX5_picks 399 = .ok (.aload_n 0, 1) := by decide +kernel
theorem dX5_picks_400 : decode cX5_picks 400 = .ok (.getfield 122, 3) := by decide +kernel
theorem dX5_picks_403 : decode cX5_picks 403 = .ok (.iastore, 1) := by decide +kernel
theorem dX5_picks_404 : decode cX5_picks 404 = .ok (.aload_n 0, 1) := by decide +kernel
theorem dX5_picks_405 : decode cX5_picks 405 = .ok (.getfield 159, 3) := by decide +kernel
theorem dX5_picks_408 : decode cX5_picks 408 = .ok (.ifCond .ne 11, 3) := by decide +kernel
theorem dX5_picks_411 : decode cX5_picks 411 = .ok (.aload_n 0, 1) := by decide +kernel
theorem dX5_picks_412 : decode cX5_picks 412 = .ok (.aload_n 0, 1) := by decide +kernel
theorem dX5_picks_413 : decode cX5_picks 413 = .ok (.getfield 122, 3) := by decide +kernel
theorem dX5_picks_416 : decode cX5_picks 416 = .ok (.putfield 179, 3) := by decide +kernel
theorem dX5_picks_419 : decode cX5_picks 419 = .ok (.aload_n 0, 1) := by decide +kernel
theorem dX5_picks_420 : decode cX5_picks 420 = .ok (.dup, 1) := by decide +kernel
theorem dX5_picks_421 : decode cX5_picks 421 = .ok (.getfield 159, 3) := by decide +kernel
theorem dX5_picks_424 : decode cX5_picks 424 = .ok (.iconst 1, 1) := by decide +kernel
theorem dX5_picks_425 : decode cX5_picks 425 = .ok (.iadd, 1) := by decide +kernel
theorem dX5_picks_426 : decode cX5_picks 426 = .ok (.putfield 159, 3) := by decide +kernel
theorem dX5_picks_429 : decode cX5_picks 429 = .ok (.aload_n 0, 1) := by decide +kernel
theorem dX5_picks_430 : decode cX5_picks 430 = .ok (.dup, 1) := by decide +kernel
theorem dX5_picks_431 : decode cX5_picks 431 = .ok (.getfield 122, 3) := by decide +kernel
theorem dX5_picks_434 : decode cX5_picks 434 = .ok (.iconst 1, 1) := by decide +kernel
theorem dX5_picks_435 : decode cX5_picks 435 = .ok (.iadd, 1) := by decide +kernel
theorem dX5_picks_436 : decode cX5_picks 436 = .ok (.putfield 122, 3) := by decide +kernel
theorem dX5_picks_439 : decode cX5_picks 439 = .ok (.aload_n 0, 1) := by decide +kernel
theorem dX5_picks_440 : decode cX5_picks 440 = .ok (.dup, 1) := by decide +kernel
theorem dX5_picks_441 : decode cX5_picks 441 = .ok (.getfield 138, 3) := by decide +kernel
theorem dX5_picks_444 : decode cX5_picks 444 = .ok (.iload 6, 2) := by decide +kernel
theorem dX5_picks_446 : decode cX5_picks 446 = .ok (.isub, 1) := by decide +kernel
theorem dX5_picks_447 : decode cX5_picks 447 = .ok (.putfield 138, 3) := by decide +kernel
theorem dX5_picks_450 : decode cX5_picks 450 = .ok (.aload_n 0, 1) := by decide +kernel
theorem dX5_picks_451 : decode cX5_picks 451 = .ok (.dup, 1) := by decide +kernel
theorem dX5_picks_452 : decode cX5_picks 452 = .ok (.getfield 182, 3) := by decide +kernel
theorem dX5_picks_455 : decode cX5_picks 455 = .ok (.iload 6, 2) := by decide +kernel
theorem dX5_picks_457 : decode cX5_picks 457 = .ok (.iadd, 1) := by decide +kernel
theorem dX5_picks_458 : decode cX5_picks 458 = .ok (.putfield 182, 3) := by decide +kernel
theorem dX5_picks_461 : decode cX5_picks 461 = .ok (.iconst 1, 1) := by decide +kernel
theorem dX5_picks_462 : decode cX5_picks 462 = .ok (.ireturn, 1) := by decide +kernel
set_option maxRecDepth 20000 in
theorem ggX5_lastColumn_X5_columns : GoodIn wsX5_lastColumn wsX5_columns := goodIn_r _ [6, 7, 8, 9, 10, 11, 12, 13, 14, 15, 16, 17, 18, 19, 20, 21, 22, 23, 24, 25, 26, 27, 28, 29, 30, 31, 32, 33, 34, 35, 36, 37, 38, 39, 40, 41, 42, 43, 44, 45, 46, 47, 48, 49, 50, 51, 52, 53, 54, 55] (by decide +kernel) (by decide +kernel)
set_option maxRecDepth 20000 in
theorem gX5_lastColumn_X5_columns : GoodIn wsX5_lastColumn (wsV RX5 103 RX5 yX5_columns wsX5_columns) := goodIn_app (goodIn_of _ (by decide +kernel)) ggX5_lastColumn_X5_columns
theorem dX5_lastColumn_0 : decode cX5_lastColumn 0 = .ok (.iconst (-1), 1) := by decide +kernel
theorem dX5_lastColumn_1 : decode cX5_lastColumn 1 = .ok (.istore_n 3, 1) := by decide +kernel
theorem dX5_lastColumn_2 : decode cX5_lastColumn 2 = .ok (.iconst 0, 1) := by decide +kernel
theorem dX5_lastColumn_3 : decode cX5_lastColumn 3 = .ok (.istore 4, 2) := by decide +kernel
theorem dX5_lastColumn_5 : decode cX5_lastColumn 5 = .ok (.iload 4, 2) := by decide +kernel
theorem dX5_lastColumn_7 : decode cX5_lastColumn 7 = .ok (.aload_n 0, 1) := by decide +kernel
theorem dX5_lastColumn_8 : decode cX5_lastColumn 8 = .ok (.invokevirtual 103, 3) := by decide +kernel
theorem dX5_lastColumn_11 : decode cX5_lastColumn 11 = .ok (.if_icmp .ge 48, 3) := by decide +kernel
theorem dX5_lastColumn_14 : decode cX5_lastColumn 14 = .ok (.iload_n 2, 1) := by decide +kernel
theorem dX5_lastColumn_15 : decode cX5_lastColumn 15 = .ok (.ifCond .eq 8, 3) := by decide +kernel
theorem dX5_lastColumn_18 : decode cX5_lastColumn 18 = .ok (.iload 4, 2) := by decide +kernel
theorem dX5_lastColumn_20 : decode cX5_lastColumn 20 = .ok (.goto 12, 3) := by decide +kernel
theorem dX5_lastColumn_23 : decode cX5_lastColumn 23 = .ok (.aload_n 0, 1) := by decide +kernel
theorem dX5_lastColumn_24 : decode cX5_lastColumn 24 = .ok (.invokevirtual 103, 3) := by decide +kernel
theorem dX5_lastColumn_27 : decode cX5_lastColumn 27 = .ok (.iconst 1, 1) := by decide +kernel
theorem dX5_lastColumn_28 : decode cX5_lastColumn 28 = .ok (.isub, 1) := by decide +kernel
theorem dX5_lastColumn_29 : decode cX5_lastColumn 29 = .ok (.iload 4, 2) := by decide +kernel
theorem dX5_lastColumn_31 : decode cX5_lastColumn 31 = .ok (.isub, 1) := by decide +kernel
theorem dX5_lastColumn_32 : decode cX5_lastColumn 32 = .ok (.istore 5, 2) := by decide +kernel
theorem dX5_lastColumn_34 : decode cX5_lastColumn 34 = .ok (.aload_n 0, 1) := by decide +kernel
theorem dX5_lastColumn_35 : decode cX5_lastColumn 35 = .ok (.getfield 7, 3) := by decide +kernel
theorem dX5_lastColumn_38 : decode cX5_lastColumn 38 = .ok (.bipush 12, 2) := by decide +kernel
theorem dX5_lastColumn_40 : decode cX5_lastColumn 40 = .ok (.iload_n 1, 1) := by decide +kernel
theorem dX5_lastColumn_41 : decode cX5_lastColumn 41 = .ok (.imul, 1) := by decide +kernel
theorem dX5_lastColumn_42 : decode cX5_lastColumn 42 = .ok (.iload 5, 2) := by decide +kernel
theorem dX5_lastColumn_44 : decode cX5_lastColumn 44 = .ok (.iadd, 1) := by decide +kernel
theorem dX5_lastColumn_45 : decode cX5_lastColumn 45 = .ok (.iaload, 1) := by decide +kernel
theorem dX5_lastColumn_46 : decode cX5_lastColumn 46 = .ok (.iconst (-1), 1) := by decide +kernel
theorem dX5_lastColumn_47 : decode cX5_lastColumn 47 = .ok (.if_icmp .eq 6, 3) := by decide +kernel
theorem dX5_lastColumn_50 : decode cX5_lastColumn 50 = .ok (.iload 5, 2) := by decide +kernel
theorem dX5_lastColumn_52 : decode cX5_lastColumn 52 = .ok (.istore_n 3, 1) := by decide +kernel
theorem dX5_lastColumn_53 : decode cX5_lastColumn 53 = .ok (.iinc 4 1, 3) := by decide +kernel
theorem dX5_lastColumn_56 : decode cX5_lastColumn 56 = .ok (.goto (-51), 3) := by decide +kernel
theorem dX5_lastColumn_59 : decode cX5_lastColumn 59 = .ok (.iload_n 3, 1) := by decide +kernel
theorem dX5_lastColumn_60 : decode cX5_lastColumn 60 = .ok (.ireturn, 1) := by decide +kernel
set_option maxRecDepth 20000 in
theorem ggX5_worksRow_X5_lastColumn : GoodIn wsX5_worksRow wsX5_lastColumn := goodIn_r _ [7, 2, 8, 9, 10, 6, 11, 12, 87, 88, 89, 90, 91, 92, 93, 94, 95, 96, 97, 98, 99, 100, 101, 102, 103, 104, 105, 106, 107, 108, 109, 110, 111, 112, 113, 114, 115, 116, 117, 118, 119, 120, 121, 122, 123, 124, 125, 126, 127, 128, 129, 130, 131, 132, 133, 134] (by decide +kernel) (by decide +kernel)
set_option maxRecDepth 20000 in
theorem gX5_worksRow_X5_lastColumn : GoodIn wsX5_worksRow (wsV RX5 185 RX5 yX5_lastColumn wsX5_lastColumn) := goodIn_app (goodIn_of _ (by decide +kernel)) ggX5_worksRow_X5_lastColumn
set_option maxRecDepth 20000 in
theorem ggX5_worksRow_X5_columns : GoodIn wsX5_worksRow wsX5_columns := goodIn_r _ [11, 12, 87, 88, 89, 90, 91, 92, 93, 94, 95, 96, 97, 98, 99, 100, 101, 102, 103, 104, 105, 106, 107, 108, 109, 110, 111, 112, 113, 114, 115, 116, 117, 118, 119, 120, 121, 122, 123, 124, 125, 126, 127, 128, 129, 130, 131, 132, 133, 134] (by decide +kernel) (by decide +kernel)
set_option maxRecDepth 20000 in
theorem gX5_worksRow_X5_columns : GoodIn wsX5_worksRow (wsV RX5 103 RX5 yX5_columns wsX5_columns) := goodIn_app (goodIn_of _ (by decide +kernel)) ggX5_worksRow_X5_columns
set_option maxRecDepth 20000 in
theorem ggX5_worksRow_X5_picks : GoodIn wsX5_worksRow wsX5_picks := goodIn_r _ [16, 17, 18, 19, 20, 21, 1, 12, 22, 23, 24, 25, 26, 27, 28, 2, 29, 30, 31, 32, 33, 34, 35, 36, 37, 6, 38, 39, 40, 41, 42, 43, 44, 45, 46, 47, 48, 49, 50, 51, 52, 53, 54, 55, 56, 57, 58, 59, 60, 61, 62, 63, 64, 65, 66, 67, 68, 69, 70, 71, 72, 73, 74, 75, 76, 77, 78, 79, 80, 81, 82, 83, 84, 85, 86, 87, 88, 89, 90, 91, 92, 93, 94, 95, 96, 97, 98, 99, 100, 101, 102, 103, 104, 105, 106, 107, 108, 109, 110, 111, 112, 113, 114, 115, 116, 117, 118, 119, 120, 121, 122, 123, 124, 125, 126, 127, 128, 129, 130, 131, 132, 133, 134] (by decide +kernel) (by decide +kernel)
set_option maxRecDepth 20000 in
theorem gX5_worksRow_X5_picks : GoodIn wsX5_worksRow (wsV RX5 189 RX5 yX5_picks wsX5_picks) := goodIn_app (goodIn_of _ (by decide +kernel)) ggX5_worksRow_X5_picks
theorem dX5_worksRow_0 : decode cX5_worksRow 0 = .ok (.aload_n 0, 1) := by decide +kernel
theorem dX5_worksRow_1 : decode cX5_worksRow 1 = .ok (.iload_n 1, 1) := by decide +kernel
theorem dX5_worksRow_2 : decode cX5_worksRow 2 = .ok (.iload_n 3, 1) := by decide +kernel
theorem dX5_worksRow_3 : decode cX5_worksRow 3 = .ok (.invokevirtual 185, 3) := by decide +kernel
theorem dX5_worksRow_6 : decode cX5_worksRow 6 = .ok (.istore 4, 2) := by decide +kernel
theorem dX5_worksRow_8 : decode cX5_worksRow 8 = .ok (.aload_n 0, 1) := by decide +kernel
theorem dX5_worksRow_9 : decode cX5_worksRow 9 = .ok (.iconst 0, 1) := by decide +kernel
theorem dX5_worksRow_10 : decode cX5_worksRow 10 = .ok (.putfield 159, 3) := by decide +kernel
theorem dX5_worksRow_13 : decode cX5_worksRow 13 = .ok (.iconst 0, 1) := by decide +kernel
theorem dX5_worksRow_14 : decode cX5_worksRow 14 = .ok (.istore 5, 2) := by decide +kernel
