theorem dX5_worksRow_16 : decode cX5_worksRow 16 = .ok (.iload 5, 2) := by decide +kernel
theorem dX5_worksRow_18 : decode cX5_worksRow 18 = .ok (.aload_n 0, 1) := by decide +kernel
theorem dX5_worksRow_19 : decode cX5_worksRow 19 = .ok (.invokevirtual 103, 3) := by decide +kernel
theorem dX5_worksRow_22 : decode cX5_worksRow 22 = .ok (.if_icmp .ge 70, 3) := by decide +kernel
theorem dX5_worksRow_25 : decode cX5_worksRow 25 = .ok (.iload_n 3, 1) := by decide +kernel
theorem dX5_worksRow_26 : decode cX5_worksRow 26 = .ok (.ifCond .eq 8, 3) := by decide +kernel
theorem dX5_worksRow_29 : decode cX5_worksRow 29 = .ok (.iload 5, 2) := by decide +kernel
theorem dX5_worksRow_31 : decode cX5_worksRow 31 = .ok (.goto 12, 3) := by decide +kernel
theorem dX5_worksRow_34 : decode cX5_worksRow 34 = .ok (.aload_n 0, 1) := by decide +kernel
theorem dX5_worksRow_35 : decode cX5_worksRow 35 = .ok (.invokevirtual 103, 3) := by decide +kernel
theorem dX5_worksRow_38 : decode cX5_worksRow 38 = .ok (.iconst 1, 1) := by decide +kernel
theorem dX5_worksRow_39 : decode cX5_worksRow 39 = .ok (.isub, 1) := by decide +kernel
theorem dX5_worksRow_40 : decode cX5_worksRow 40 = .ok (.iload 5, 2) := by decide +kernel
theorem dX5_worksRow_42 : decode cX5_worksRow 42 = .ok (.isub, 1) := by decide +kernel
theorem dX5_worksRow_43 : decode cX5_worksRow 43 = .ok (.istore 6, 2) := by decide +kernel
theorem dX5_worksRow_45 : decode cX5_worksRow 45 = .ok (.aload_n 0, 1) := by decide +kernel
theorem dX5_worksRow_46 : decode cX5_worksRow 46 = .ok (.getfield 7, 3) := by decide +kernel
theorem dX5_worksRow_49 : decode cX5_worksRow 49 = .ok (.bipush 12, 2) := by decide +kernel
theorem dX5_worksRow_51 : decode cX5_worksRow 51 = .ok (.iload_n 1, 1) := by decide +kernel
theorem dX5_worksRow_52 : decode cX5_worksRow 52 = .ok (.imul, 1) := by decide +kernel
theorem dX5_worksRow_53 : decode cX5_worksRow 53 = .ok (.iload 6, 2) := by decide +kernel
theorem dX5_worksRow_55 : decode cX5_worksRow 55 = .ok (.iadd, 1) := by decide +kernel
theorem dX5_worksRow_56 : decode cX5_worksRow 56 = .ok (.iaload, 1) := by decide +kernel
theorem dX5_worksRow_57 : decode cX5_worksRow 57 = .ok (.iconst (-1), 1) := by decide +kernel
theorem dX5_worksRow_58 : decode cX5_worksRow 58 = .ok (.if_icmp .eq 28, 3) := by decide +kernel
theorem dX5_worksRow_61 : decode cX5_worksRow 61 = .ok (.aload_n 0, 1) := by decide +kernel
theorem dX5_worksRow_62 : decode cX5_worksRow 62 = .ok (.iload_n 1, 1) := by decide +kernel
theorem dX5_worksRow_63 : decode cX5_worksRow 63 = .ok (.iload 6, 2) := by decide +kernel
theorem dX5_worksRow_65 : decode cX5_worksRow 65 = .ok (.iload_n 2, 1) := by decide +kernel
theorem dX5_worksRow_66 : decode cX5_worksRow 66 = .ok (.iload 6, 2) := by decide +kernel
theorem dX5_worksRow_68 : decode cX5_worksRow 68 = .ok (.iload 4, 2) := by decide +kernel
theorem dX5_worksRow_70 : decode cX5_worksRow 70 = .ok (.if_icmp .ne 7, 3) := by decide +kernel
theorem dX5_worksRow_73 : decode cX5_worksRow 73 = .ok (.iconst 1, 1) := by decide +kernel
theorem dX5_worksRow_74 : decode cX5_worksRow 74 = .ok (.goto 4, 3) := by decide +kernel
theorem dX5_worksRow_77 : decode cX5_worksRow 77 = .ok (.iconst 0, 1) := by decide +kernel
theorem dX5_worksRow_78 : decode cX5_worksRow 78 = .ok (.invokevirtual 189, 3) := by decide +kernel
theorem dX5_worksRow_81 : decode cX5_worksRow 81 = .ok (.ifCond .ne 5, 3) := by decide +kernel
theorem dX5_worksRow_84 : decode cX5_worksRow 84 = .ok (.iconst 0, 1) := by decide +kernel
theorem dX5_worksRow_85 : decode cX5_worksRow 85 = .ok (.ireturn, 1) := by decide +kernel
theorem dX5_worksRow_86 : decode cX5_worksRow 86 = .ok (.iinc 5 1, 3) := by decide +kernel
theorem dX5_worksRow_89 : decode cX5_worksRow 89 = .ok (.goto (-73), 3) := by decide +kernel
theorem dX5_worksRow_92 : decode cX5_worksRow 92 = .ok (.iconst 1, 1) := by decide +kernel
theorem dX5_worksRow_93 : decode cX5_worksRow 93 = .ok (.ireturn, 1) := by decide +kernel
set_option maxRecDepth 20000 in
theorem ggX5_tries_X5_lastColumn : GoodIn wsX5_tries wsX5_lastColumn := goodIn_r _ [16, 17, 18, 19, 20, 15, 21, 11, 91, 92, 93, 94, 95, 96, 97, 98, 99, 100, 101, 102, 103, 104, 105, 106, 107, 108, 109, 110, 111, 112, 113, 114, 115, 116, 117, 118, 119, 120, 121, 122, 123, 124, 125, 126, 127, 128, 129, 130, 131, 132, 133, 134, 135, 136, 137, 138] (by decide +kernel) (by decide +kernel)
set_option maxRecDepth 20000 in
theorem gX5_tries_X5_lastColumn : GoodIn wsX5_tries (wsV RX5 185 RX5 yX5_lastColumn wsX5_lastColumn) := goodIn_app (goodIn_of _ (by decide +kernel)) ggX5_tries_X5_lastColumn
set_option maxRecDepth 20000 in
theorem ggX5_tries_X5_worksRow : GoodIn wsX5_tries wsX5_worksRow := goodIn_r _ [25, 26, 17, 12, 13, 14, 15, 16, 18, 19, 20, 21, 11, 27, 28, 29, 30, 31, 32, 1, 33, 8, 10, 34, 4, 6, 35, 36, 37, 38, 39, 40, 7, 9, 5, 41, 42, 43, 44, 45, 46, 47, 48, 49, 50, 51, 52, 53, 54, 55, 56, 57, 58, 59, 60, 2, 3, 61, 62, 63, 64, 65, 66, 67, 68, 69, 70, 71, 72, 73, 74, 75, 76, 77, 78, 79, 80, 81, 82, 83, 84, 85, 86, 87, 88, 89, 90, 91, 92, 93, 94, 95, 96, 97, 98, 99, 100, 101, 102, 103, 104, 105, 106, 107, 108, 109, 110, 111, 112, 113, 114, 115, 116, 117, 118, 119, 120, 121, 122, 123, 124, 125, 126, 127, 128, 129, 130, 131, 132, 133, 134, 135, 136, 137, 138] (by decide +kernel) (by decide +kernel)
set_option maxRecDepth 20000 in
theorem gX5_tries_X5_worksRow : GoodIn wsX5_tries (wsV RX5 193 RX5 yX5_worksRow wsX5_worksRow) := goodIn_app (goodIn_of _ (by decide +kernel)) ggX5_tries_X5_worksRow
theorem dX5_tries_0 : decode cX5_tries 0 = .ok (.aload_n 0, 1) := by decide +kernel
theorem dX5_tries_1 : decode cX5_tries 1 = .ok (.iconst 0, 1) := by decide +kernel
theorem dX5_tries_2 : decode cX5_tries 2 = .ok (.putfield 122, 3) := by decide +kernel
theorem dX5_tries_5 : decode cX5_tries 5 = .ok (.aload_n 0, 1) := by decide +kernel
theorem dX5_tries_6 : decode cX5_tries 6 = .ok (.iconst 0, 1) := by decide +kernel
theorem dX5_tries_7 : decode cX5_tries 7 = .ok (.putfield 141, 3) := by decide +kernel
theorem dX5_tries_10 : decode cX5_tries 10 = .ok (.aload_n 0, 1) := by decide +kernel
theorem dX5_tries_11 : decode cX5_tries 11 = .ok (.iconst (-1), 1) := by decide +kernel
theorem dX5_tries_12 : decode cX5_tries 12 = .ok (.putfield 144, 3) := by decide +kernel
theorem dX5_tries_15 : decode cX5_tries 15 = .ok (.aload_n 0, 1) := by decide +kernel
theorem dX5_tries_16 : decode cX5_tries 16 = .ok (.iconst 0, 1) := by decide +kernel
theorem dX5_tries_17 : decode cX5_tries 17 = .ok (.putfield 135, 3) := by decide +kernel
theorem dX5_tries_20 : decode cX5_tries 20 = .ok (.aload_n 0, 1) := by decide +kernel
theorem dX5_tries_21 : decode cX5_tries 21 = .ok (.iconst 0, 1) := by decide +kernel
theorem dX5_tries_22 : decode cX5_tries 22 = .ok (.putfield 182, 3) := by decide +kernel
theorem dX5_tries_25 : decode cX5_tries 25 = .ok (.aload_n 0, 1) := by decide +kernel
theorem dX5_tries_26 : decode cX5_tries 26 = .ok (.iconst 0, 1) := by decide +kernel
theorem dX5_tries_27 : decode cX5_tries 27 = .ok (.putfield 138, 3) := by decide +kernel
theorem dX5_tries_30 : decode cX5_tries 30 = .ok (.iconst 0, 1) := by decide +kernel
theorem dX5_tries_31 : decode cX5_tries 31 = .ok (.istore_n 2, 1) := by decide +kernel
theorem dX5_tries_32 : decode cX5_tries 32 = .ok (.iload_n 2, 1) := by decide +kernel
theorem dX5_tries_33 : decode cX5_tries 33 = .ok (.sipush 144, 3) := by decide +kernel
theorem dX5_tries_36 : decode cX5_tries 36 = .ok (.if_icmp .ge 16, 3) := by decide +kernel
theorem dX5_tries_39 : decode cX5_tries 39 = .ok (.aload_n 0, 1) := by decide +kernel
theorem dX5_tries_40 : decode cX5_tries 40 = .ok (.getfield 47, 3) := by decide +kernel
theorem dX5_tries_43 : decode cX5_tries 43 = .ok (.iload_n 2, 1) := by decide +kernel
theorem dX5_tries_44 : decode cX5_tries 44 = .ok (.iconst (-1), 1) := by decide +kernel
theorem dX5_tries_45 : decode cX5_tries 45 = .ok (.iastore, 1) := by decide +kernel
theorem dX5_tries_46 : decode cX5_tries 46 = .ok (.iinc 2 1, 3) := by decide +kernel
theorem dX5_tries_49 : decode cX5_tries 49 = .ok (.goto (-17), 3) := by decide +kernel
theorem dX5_tries_52 : decode cX5_tries 52 = .ok (.iload_n 1, 1) := by decide +kernel
theorem dX5_tries_53 : decode cX5_tries 53 = .ok (.iconst 2, 1) := by decide +kernel
theorem dX5_tries_54 : decode cX5_tries 54 = .ok (.if_icmp .ge 7, 3) := by decide +kernel
theorem dX5_tries_57 : decode cX5_tries 57 = .ok (.iconst 1, 1) := by decide +kernel
theorem dX5_tries_58 : decode cX5_tries 58 = .ok (.goto 4, 3) := by decide +kernel
theorem dX5_tries_61 : decode cX5_tries 61 = .ok (.iconst 0, 1) := by decide +kernel
theorem dX5_tries_62 : decode cX5_tries 62 = .ok (.istore_n 2, 1) := by decide +kernel
theorem dX5_tries_63 : decode cX5_tries 63 = .ok (.iload_n 1, 1) := by decide +kernel
theorem dX5_tries_64 : decode cX5_tries 64 = .ok (.iconst 2, 1) := by decide +kernel
theorem dX5_tries_65 : decode cX5_tries 65 = .ok (.irem, 1) := by decide +kernel
theorem dX5_tries_66 : decode cX5_tries 66 = .ok (.ifCond .ne 7, 3) := by decide +kernel
theorem dX5_tries_69 : decode cX5_tries 69 = .ok (.iconst 1, 1) := by decide +kernel
theorem dX5_tries_70 : decode cX5_tries 70 = .ok (.goto 4, 3) := by decide +kernel
theorem dX5_tries_73 : decode cX5_tries 73 = .ok (.iconst 0, 1) := by decide +kernel
theorem dX5_tries_74 : decode cX5_tries 74 = .ok (.istore_n 3, 1) := by decide +kernel
theorem dX5_tries_75 : decode cX5_tries 75 = .ok (.aload_n 0, 1) := by decide +kernel
theorem dX5_tries_76 : decode cX5_tries 76 = .ok (.iconst 1, 1) := by decide +kernel
theorem dX5_tries_77 : decode cX5_tries 77 = .ok (.putfield 147, 3) := by decide +kernel
theorem dX5_tries_80 : decode cX5_tries 80 = .ok (.iconst 1, 1) := by decide +kernel
theorem dX5_tries_81 : decode cX5_tries 81 = .ok (.istore 4, 2) := by decide +kernel
theorem dX5_tries_83 : decode cX5_tries 83 = .ok (.iconst 0, 1) := by decide +kernel
theorem dX5_tries_84 : decode cX5_tries 84 = .ok (.istore 5, 2) := by decide +kernel
theorem dX5_tries_86 : decode cX5_tries 86 = .ok (.iload 5, 2) := by decide +kernel
theorem dX5_tries_88 : decode cX5_tries 88 = .ok (.bipush 12, 2) := by decide +kernel
theorem dX5_tries_90 : decode cX5_tries 90 = .ok (.if_icmp .ge 98, 3) := by decide +kernel
theorem dX5_tries_93 : decode cX5_tries 93 = .ok (.iload 4, 2) := by decide +kernel
theorem dX5_tries_95 : decode cX5_tries 95 = .ok (.ifCond .eq 93, 3) := by decide +kernel
theorem dX5_tries_98 : decode cX5_tries 98 = .ok (.iload_n 2, 1) := by decide +kernel
theorem dX5_tries_99 : decode cX5_tries 99 = .ok (.ifCond .eq 8, 3) := by decide +kernel
theorem dX5_tries_102 : decode cX5_tries 102 = .ok (.iload 5, 2) := by decide +kernel
theorem dX5_tries_104 : decode cX5_tries 104 = .ok (.goto 8, 3) := by decide +kernel
theorem dX5_tries_107 : decode cX5_tries 107 = .ok (.bipush 11, 2) := by decide +kernel
theorem dX5_tries_109 : decode cX5_tries 109 = .ok (.iload 5, 2) := by decide +kernel
theorem dX5_tries_111 : decode cX5_tries 111 = .ok (.isub, 1) := by decide +kernel
theorem dX5_tries_112 : decode cX5_tries 112 = .ok (.istore 6, 2) := by decide +kernel
theorem dX5_tries_114 : decode cX5_tries 114 = .ok (.aload_n 0, 1) := by decide +kernel
theorem dX5_tries_115 : decode cX5_tries 115 = .ok (.iload 6, 2) := by decide +kernel
theorem dX5_tries_117 : decode cX5_tries 117 = .ok (.iconst 1, 1) := by decide +kernel
theorem dX5_tries_118 : decode cX5_tries 118 = .ok (.invokevirtual 185, 3) := by decide +kernel
theorem dX5_tries_121 : decode cX5_tries 121 = .ok (.iconst (-1), 1) := by decide +kernel
theorem dX5_tries_122 : decode cX5_tries 122 = .ok (.if_icmp .ne 6, 3) := by decide +kernel
theorem dX5_tries_125 : decode cX5_tries 125 = .ok (.goto 57, 3) := by decide +kernel
theorem dX5_tries_128 : decode cX5_tries 128 = .ok (.aload_n 0, 1) := by decide +kernel
theorem dX5_tries_129 : decode cX5_tries 129 = .ok (.iload 6, 2) := by decide +kernel
theorem dX5_tries_131 : decode cX5_tries 131 = .ok (.iload_n 2, 1) := by decide +kernel
theorem dX5_tries_132 : decode cX5_tries 132 = .ok (.ifCond .eq 10, 3) := by decide +kernel
theorem dX5_tries_135 : decode cX5_tries 135 = .ok (.iload 6, 2) := by decide +kernel
theorem dX5_tries_137 : decode cX5_tries 137 = .ok (.iconst 1, 1) := by decide +kernel
theorem dX5_tries_138 : decode cX5_tries 138 = .ok (.isub, 1) := by decide +kernel
theorem dX5_tries_139 : decode cX5_tries 139 = .ok (.goto 7, 3) := by decide +kernel
theorem dX5_tries_142 : decode cX5_tries 142 = .ok (.iload 6, 2) := by decide +kernel
theorem dX5_tries_144 : decode cX5_tries 144 = .ok (.iconst 1, 1) := by decide +kernel
theorem dX5_tries_145 : decode cX5_tries 145 = .ok (.iadd, 1) := by decide +kernel
theorem dX5_tries_146 : decode cX5_tries 146 = .ok (.iload_n 3, 1) := by decide +kernel
theorem dX5_tries_147 : decode cX5_tries 147 = .ok (.invokevirtual 193, 3) := by decide +kernel
theorem dX5_tries_150 : decode cX5_tries 150 = .ok (.istore 4, 2) := by decide +kernel
theorem dX5_tries_152 : decode cX5_tries 152 = .ok (.aload_n 0, 1) := by decide +kernel
theorem dX5_tries_153 : decode cX5_tries 153 = .ok (.aload_n 0, 1) := by decide +kernel
theorem dX5_tries_154 : decode cX5_tries 154 = .ok (.getfield 179, 3) := by decide +kernel
theorem dX5_tries_157 : decode cX5_tries 157 = .ok (.putfield 162, 3) := by decide +kernel
theorem dX5_tries_160 : decode cX5_tries 160 = .ok (.aload_n 0, 1) := by decide +kernel
theorem dX5_tries_161 : decode cX5_tries 161 = .ok (.iconst 0, 1) := by decide +kernel
theorem dX5_tries_162 : decode cX5_tries 162 = .ok (.putfield 147, 3) := by decide +kernel
theorem dX5_tries_165 : decode cX5_tries 165 = .ok (.aload_n 0, 1) := by decide +kernel
theorem dX5_tries_166 : decode cX5_tries 166 = .ok (.getfield 96, 3) := by decide +kernel
theorem dX5_tries_169 : decode cX5_tries 169 = .ok (.ifCond .ne 13, 3) := by decide +kernel
theorem dX5_tries_172 : decode cX5_tries 172 = .ok (.iload_n 3, 1) := by decide +kernel
theorem dX5_tries_173 : decode cX5_tries 173 = .ok (.ifCond .ne 7, 3) := by decide +kernel
theorem dX5_tries_176 : decode cX5_tries 176 = .ok (.iconst 1, 1) := by decide +kernel
theorem dX5_tries_177 : decode cX5_tries 177 = .ok (.goto 4, 3) := by decide +kernel
theorem dX5_tries_180 : decode cX5_tries 180 = .ok (.iconst 0, 1) := by decide +kernel
theorem dX5_tries_181 : decode cX5_tries 181 = .ok (.istore_n 3, 1) := by decide +kernel
theorem dX5_tries_182 : decode cX5_tries 182 = .ok (.iinc 5 1, 3) := by decide +kernel
theorem dX5_tries_185 : decode cX5_tries 185 = .ok (.goto (-99), 3) := by decide +kernel
theorem dX5_tries_188 : decode cX5_tries 188 = .ok (.return_, 1) := by decide +kernel
theorem dX5_keeps_0 : decode cX5_keeps 0 = .ok (.aload_n 0, 1) := by decide +kernel
theorem dX5_keeps_1 : decode cX5_keeps 1 = .ok (.iconst 1, 1) := by decide +kernel
theorem dX5_keeps_2 : decode cX5_keeps 2 = .ok (.putfield 197, 3) := by decide +kernel
theorem dX5_keeps_5 : decode cX5_keeps 5 = .ok (.aload_n 0, 1) := by decide +kernel
theorem dX5_keeps_6 : decode cX5_keeps 6 = .ok (.aload_n 0, 1) := by decide +kernel
theorem dX5_keeps_7 : decode cX5_keeps 7 = .ok (.getfield 122, 3) := by decide +kernel
theorem dX5_keeps_10 : decode cX5_keeps 10 = .ok (.putfield 200, 3) := by decide +kernel
theorem dX5_keeps_13 : decode cX5_keeps 13 = .ok (.aload_n 0, 1) := by decide +kernel
theorem dX5_keeps_14 : decode cX5_keeps 14 = .ok (.aload_n 0, 1) := by decide +kernel
theorem dX5_keeps_15 : decode cX5_keeps 15 = .ok (.getfield 141, 3) := by decide +kernel
theorem dX5_keeps_18 : decode cX5_keeps 18 = .ok (.putfield 203, 3) := by decide +kernel
theorem dX5_keeps_21 : decode cX5_keeps 21 = .ok (.aload_n 0, 1) := by decide +kernel
theorem dX5_keeps_22 : decode cX5_keeps 22 = .ok (.aload_n 0, 1) := by decide +kernel
theorem dX5_keeps_23 : decode cX5_keeps 23 = .ok (.getfield 144, 3) := by decide +kernel
theorem dX5_keeps_26 : decode cX5_keeps 26 = .ok (.putfield 206, 3) := by decide +kernel
theorem dX5_keeps_29 : decode cX5_keeps 29 = .ok (.aload_n 0, 1) := by decide +kernel
theorem dX5_keeps_30 : decode cX5_keeps 30 = .ok (.aload_n 0, 1) := by decide +kernel
theorem dX5_keeps_31 : decode cX5_keeps 31 = .ok (.getfield 135, 3) := by decide +kernel
theorem dX5_keeps_34 : decode cX5_keeps 34 = .ok (.putfield 209, 3) := by decide +kernel
theorem dX5_keeps_37 : decode cX5_keeps 37 = .ok (.aload_n 0, 1) := by decide +kernel
theorem dX5_keeps_38 : decode cX5_keeps 38 = .ok (.aload_n 0, 1) := by decide +kernel
theorem dX5_keeps_39 : decode cX5_keeps 39 = .ok (.getfield 182, 3) := by decide +kernel
theorem dX5_keeps_42 : decode cX5_keeps 42 = .ok (.putfield 212, 3) := by decide +kernel
theorem dX5_keeps_45 : decode cX5_keeps 45 = .ok (.aload_n 0, 1) := by decide +kernel
theorem dX5_keeps_46 : decode cX5_keeps 46 = .ok (.aload_n 0, 1) := by decide +kernel
theorem dX5_keeps_47 : decode cX5_keeps 47 = .ok (.getfield 138, 3) := by decide +kernel
theorem dX5_keeps_50 : decode cX5_keeps 50 = .ok (.putfield 215, 3) := by decide +kernel
theorem dX5_keeps_53 : decode cX5_keeps 53 = .ok (.iconst 0, 1) := by decide +kernel
theorem dX5_keeps_54 : decode cX5_keeps 54 = .ok (.istore_n 1, 1) := by decide +kernel
theorem dX5_keeps_55 : decode cX5_keeps 55 = .ok (.iload_n 1, 1) := by decide +kernel
theorem dX5_keeps_56 : decode cX5_keeps 56 = .ok (.sipush 144, 3) := by decide +kernel
theorem dX5_keeps_59 : decode cX5_keeps 59 = .ok (.if_icmp .ge 93, 3) := by decide +kernel
theorem dX5_keeps_62 : decode cX5_keeps 62 = .ok (.aload_n 0, 1) := by decide +kernel
theorem dX5_keeps_63 : decode cX5_keeps 63 = .ok (.getfield 83, 3) := by decide +kernel
theorem dX5_keeps_66 : decode cX5_keeps 66 = .ok (.iload_n 1, 1) := by decide +kernel
theorem dX5_keeps_67 : decode cX5_keeps 67 = .ok (.aload_n 0, 1) := by decide +kernel
theorem dX5_keeps_68 : decode cX5_keeps 68 = .ok (.getfield 47, 3) := by decide +kernel
theorem dX5_keeps_71 : decode cX5_keeps 71 = .ok (.iload_n 1, 1) := by decide +kernel
theorem dX5_keeps_72 : decode cX5_keeps 72 = .ok (.iaload, 1) := by decide +kernel
theorem dX5_keeps_73 : decode cX5_keeps 73 = .ok (.iastore, 1) := by decide +kernel
theorem dX5_keeps_74 : decode cX5_keeps 74 = .ok (.aload_n 0, 1) := by decide +kernel
theorem dX5_keeps_75 : decode cX5_keeps 75 = .ok (.getfield 65, 3) := by decide +kernel
theorem dX5_keeps_78 : decode cX5_keeps 78 = .ok (.iload_n 1, 1) := by decide +kernel
theorem dX5_keeps_79 : decode cX5_keeps 79 = .ok (.aload_n 0, 1) := by decide +kernel
theorem dX5_keeps_80 : decode cX5_keeps 80 = .ok (.getfield 29, 3) := by decide +kernel
theorem dX5_keeps_83 : decode cX5_keeps 83 = .ok (.iload_n 1, 1) := by decide +kernel
theorem dX5_keeps_84 : decode cX5_keeps 84 = .ok (.iaload, 1) := by decide +kernel
theorem dX5_keeps_85 : decode cX5_keeps 85 = .ok (.iastore, 1) := by decide +kernel
theorem dX5_keeps_86 : decode cX5_keeps 86 = .ok (.aload_n 0, 1) := by decide +kernel
theorem dX5_keeps_87 : decode cX5_keeps 87 = .ok (.getfield 68, 3) := by decide +kernel
theorem dX5_keeps_90 : decode cX5_keeps 90 = .ok (.iload_n 1, 1) := by decide +kernel
theorem dX5_keeps_91 : decode cX5_keeps 91 = .ok (.aload_n 0, 1) := by decide +kernel
theorem dX5_keeps_92 : decode cX5_keeps 92 = .ok (.getfield 32, 3) := by decide +kernel
theorem dX5_keeps_95 : decode cX5_keeps 95 = .ok (.iload_n 1, 1) := by decide +kernel
theorem dX5_keeps_96 : decode cX5_keeps 96 = .ok (.iaload, 1) := by decide +kernel
theorem dX5_keeps_97 : decode cX5_keeps 97 = .ok (.iastore, 1) := by decide +kernel
theorem dX5_keeps_98 : decode cX5_keeps 98 = .ok (.aload_n 0, 1) := by decide +kernel
theorem dX5_keeps_99 : decode cX5_keeps 99 = .ok (.getfield 71, 3) := by decide +kernel
theorem dX5_keeps_102 : decode cX5_keeps 102 = .ok (.iload_n 1, 1) := by decide +kernel
theorem dX5_keeps_103 : decode cX5_keeps 103 = .ok (.aload_n 0, 1) := by decide +kernel
theorem dX5_keeps_104 : decode cX5_keeps 104 = .ok (.getfield 35, 3) := by decide +kernel
theorem dX5_keeps_107 : decode cX5_keeps 107 = .ok (.iload_n 1, 1) := by decide +kernel
theorem dX5_keeps_108 : decode cX5_keeps 108 = .ok (.iaload, 1) := by decide +kernel
theorem dX5_keeps_109 : decode cX5_keeps 109 = .ok (.iastore, 1) := by decide +kernel
theorem dX5_keeps_110 : decode cX5_keeps 110 = .ok (.aload_n 0, 1) := by decide +kernel
theorem dX5_keeps_111 : decode cX5_keeps 111 = .ok (.getfield 74, 3) := by decide +kernel
theorem dX5_keeps_114 : decode cX5_keeps 114 = .ok (.iload_n 1, 1) := by decide +kernel
theorem dX5_keeps_115 : decode cX5_keeps 115 = .ok (.aload_n 0, 1) := by decide +kernel
theorem dX5_keeps_116 : decode cX5_keeps 116 = .ok (.getfield 38, 3) := by decide +kernel
theorem dX5_keeps_119 : decode cX5_keeps 119 = .ok (.iload_n 1, 1) := by decide +kernel
theorem dX5_keeps_120 : decode cX5_keeps 120 = .ok (.iaload, 1) := by decide +kernel
theorem dX5_keeps_121 : decode cX5_keeps 121 = .ok (.iastore, 1) := by decide +kernel
theorem dX5_keeps_122 : decode cX5_keeps 122 = .ok (.aload_n 0, 1) := by decide +kernel
theorem dX5_keeps_123 : decode cX5_keeps 123 = .ok (.getfield 77, 3) := by decide +kernel
theorem dX5_keeps_126 : decode cX5_keeps 126 = .ok (.iload_n 1, 1) := by decide +kernel
theorem dX5_keeps_127 : decode cX5_keeps 127 = .ok (.aload_n 0, 1) := by decide +kernel
theorem dX5_keeps_128 : decode cX5_keeps 128 = .ok (.getfield 41, 3) := by decide +kernel
theorem dX5_keeps_131 : decode cX5_keeps 131 = .ok (.iload_n 1, 1) := by decide +kernel
theorem dX5_keeps_132 : decode cX5_keeps 132 = .ok (.iaload, 1) := by decide +kernel
theorem dX5_keeps_133 : decode cX5_keeps 133 = .ok (.iastore, 1) := by decide +kernel
theorem dX5_keeps_134 : decode cX5_keeps 134 = .ok (.aload_n 0, 1) := by decide +kernel
theorem dX5_keeps_135 : decode cX5_keeps 135 = .ok (.getfield 80, 3) := by decide +kernel
theorem dX5_keeps_138 : decode cX5_keeps 138 = .ok (.iload_n 1, 1) := by decide +kernel
theorem dX5_keeps_139 : decode cX5_keeps 139 = .ok (.aload_n 0, 1) := by decide +kernel
theorem dX5_keeps_140 : decode cX5_keeps 140 = .ok (.getfield 44, 3) := by decide +kernel
theorem dX5_keeps_143 : decode cX5_keeps 143 = .ok (.iload_n 1, 1) := by decide +kernel
theorem dX5_keeps_144 : decode cX5_keeps 144 = .ok (.iaload, 1) := by decide +kernel
theorem dX5_keeps_145 : decode cX5_keeps 145 = .ok (.iastore, 1) := by decide +kernel
theorem dX5_keeps_146 : decode cX5_keeps 146 = .ok (.iinc 1 1, 3) := by decide +kernel
theorem dX5_keeps_149 : decode cX5_keeps 149 = .ok (.goto (-94), 3) := by decide +kernel
theorem dX5_keeps_152 : decode cX5_keeps 152 = .ok (.iconst 0, 1) := by decide +kernel
theorem dX5_keeps_153 : decode cX5_keeps 153 = .ok (.istore_n 1, 1) := by decide +kernel
theorem dX5_keeps_154 : decode cX5_keeps 154 = .ok (.iload_n 1, 1) := by decide +kernel
theorem dX5_keeps_155 : decode cX5_keeps 155 = .ok (.sipush 150, 3) := by decide +kernel
theorem dX5_keeps_158 : decode cX5_keeps 158 = .ok (.if_icmp .ge 21, 3) := by decide +kernel
theorem dX5_keeps_161 : decode cX5_keeps 161 = .ok (.aload_n 0, 1) := by decide +kernel
theorem dX5_keeps_162 : decode cX5_keeps 162 = .ok (.getfield 86, 3) := by decide +kernel
theorem dX5_keeps_165 : decode cX5_keeps 165 = .ok (.iload_n 1, 1) := by decide +kernel
theorem dX5_keeps_166 : decode cX5_keeps 166 = .ok (.aload_n 0, 1) := by decide +kernel
theorem dX5_keeps_167 : decode cX5_keeps 167 = .ok (.getfield 50, 3) := by decide +kernel
theorem dX5_keeps_170 : decode cX5_keeps 170 = .ok (.iload_n 1, 1) := by decide +kernel
theorem dX5_keeps_171 : decode cX5_keeps 171 = .ok (.iaload, 1) := by decide +kernel
theorem dX5_keeps_172 : decode cX5_keeps 172 = .ok (.iastore, 1) := by decide +kernel
theorem dX5_keeps_173 : decode cX5_keeps 173 = .ok (.iinc 1 1, 3) := by decide +kernel
theorem dX5_keeps_176 : decode cX5_keeps 176 = .ok (.goto (-22), 3) := by decide +kernel
theorem dX5_keeps_179 : decode cX5_keeps 179 = .ok (.iconst 0, 1) := by decide +kernel
theorem dX5_keeps_180 : decode cX5_keeps 180 = .ok (.istore_n 1, 1) := by decide +kernel
theorem dX5_keeps_181 : decode cX5_keeps 181 = .ok (.iload_n 1, 1) := by decide +kernel
theorem dX5_keeps_182 : decode cX5_keeps 182 = .ok (.sipush 900, 3) := by decide +kernel
theorem dX5_keeps_185 : decode cX5_keeps 185 = .ok (.if_icmp .ge 21, 3) := by decide +kernel
theorem dX5_keeps_188 : decode cX5_keeps 188 = .ok (.aload_n 0, 1) := by decide +kernel
theorem dX5_keeps_189 : decode cX5_keeps 189 = .ok (.getfield 89, 3) := by decide +kernel
theorem dX5_keeps_192 : decode cX5_keeps 192 = .ok (.iload_n 1, 1) := by decide +kernel
theorem dX5_keeps_193 : decode cX5_keeps 193 = .ok (.aload_n 0, 1) := by decide +kernel
theorem dX5_keeps_194 : decode cX5_keeps 194 = .ok (.getfield 53, 3) := by decide +kernel
theorem dX5_keeps_197 : decode cX5_keeps 197 = .ok (.iload_n 1, 1) := by decide +kernel
theorem dX5_keeps_198 : decode cX5_keeps 198 = .ok (.iaload, 1) := by decide +kernel
theorem dX5_keeps_199 : decode cX5_keeps 199 = .ok (.iastore, 1) := by decide +kernel
theorem dX5_keeps_200 : decode cX5_keeps 200 = .ok (.iinc 1 1, 3) := by decide +kernel
theorem dX5_keeps_203 : decode cX5_keeps 203 = .ok (.goto (-22), 3) := by decide +kernel
theorem dX5_keeps_206 : decode cX5_keeps 206 = .ok (.return_, 1) := by decide +kernel
set_option maxRecDepth 20000 in
theorem ggX5_work_X5_in : GoodIn wsX5_work wsX5_in := goodIn_r _ [5] (by decide +kernel) (by decide +kernel)
set_option maxRecDepth 20000 in
theorem gX5_work_X5_in : GoodIn wsX5_work (va_wsS RX5 99 yX5_in wsX5_in) := goodIn_app (goodIn_of _ (by decide +kernel)) ggX5_work_X5_in
set_option maxRecDepth 20000 in
theorem ggX5_work_X5_tries : GoodIn wsX5_work wsX5_tries := goodIn_r _ [9, 10, 11, 12, 13, 14, 15, 16, 17, 18, 19, 20, 21, 22, 23, 4, 24, 25, 26, 27, 28, 29, 30, 31, 32, 33, 34, 35, 36, 37, 38, 39, 40, 41, 42, 43, 44, 45, 46, 47, 48, 49, 50, 51, 52, 53, 54, 55, 56, 57, 58, 59, 60, 61, 2, 3, 5, 62, 63, 64, 65, 66, 67, 68, 69, 70, 71, 72, 73, 74, 75, 76, 77, 78, 79, 80, 81, 82, 83, 84, 85, 86, 87, 88, 89, 90, 91, 92, 93, 94, 95, 115, 116, 117, 118, 119, 120, 121, 122, 123, 124, 125, 126, 127, 128, 129, 130, 131, 132, 133, 134, 135, 136, 137, 138, 139, 140, 141, 142, 143, 144, 145, 146, 147, 148, 149, 150, 151, 152, 153, 154, 155, 156, 157, 158, 159, 160, 161, 162] (by decide +kernel) (by decide +kernel)
set_option maxRecDepth 20000 in
theorem gX5_work_X5_tries : GoodIn wsX5_work (wsV RX5 218 RX5 yX5_tries wsX5_tries) := goodIn_app (goodIn_of _ (by decide +kernel)) ggX5_work_X5_tries
set_option maxRecDepth 20000 in
theorem ggX5_work_X5_keeps : GoodIn wsX5_work wsX5_keeps := goodIn_r _ [99, 100, 10, 1, 11, 101, 12, 102, 13, 103, 14, 104, 15, 105, 106, 16, 107, 46, 108, 47, 109, 44, 110, 40, 111, 41, 112, 45, 113, 43, 114, 86, 115, 116, 117, 118, 119, 120, 121, 122, 123, 124, 125, 126, 127, 128, 129, 130, 131, 132, 133, 134, 135, 136, 137, 138, 139, 140, 141, 142, 143, 144, 145, 146, 147, 148, 149, 150, 151, 152, 153, 154, 155, 156, 157, 158, 159, 160, 161, 162] (by decide +kernel) (by decide +kernel)
set_option maxRecDepth 20000 in
theorem gX5_work_X5_keeps : GoodIn wsX5_work (wsV RX5 221 RX5 yX5_keeps wsX5_keeps) := goodIn_app (goodIn_of _ (by decide +kernel)) ggX5_work_X5_keeps
theorem dX5_work_0 : decode cX5_work 0 = .ok (.iload_n 1, 1) := by decide +kernel
theorem dX5_work_1 : decode cX5_work 1 = .ok (.iconst 0, 1) := by decide +kernel
theorem dX5_work_2 : decode cX5_work 2 = .ok (.iconst 3, 1) := by decide +kernel
theorem dX5_work_3 : decode cX5_work 3 = .ok (.invokestatic 99, 3) := by decide +kernel
theorem dX5_work_6 : decode cX5_work 6 = .ok (.ifCond .ne 5, 3) := by decide +kernel
theorem dX5_work_9 : decode cX5_work 9 = .ok (.iconst (-1), 1) := by decide +kernel
theorem dX5_work_10 : decode cX5_work 10 = .ok (.ireturn, 1) := by decide +kernel
theorem dX5_work_11 : decode cX5_work 11 = .ok (.aload_n 0, 1) := by decide +kernel
theorem dX5_work_12 : decode cX5_work 12 = .ok (.iload_n 1, 1) := by decide +kernel
theorem dX5_work_13 : decode cX5_work 13 = .ok (.invokevirtual 218, 3) := by decide +kernel
theorem dX5_work_16 : decode cX5_work 16 = .ok (.aload_n 0, 1) := by decide +kernel
theorem dX5_work_17 : decode cX5_work 17 = .ok (.invokevirtual 221, 3) := by decide +kernel
theorem dX5_work_20 : decode cX5_work 20 = .ok (.aload_n 0, 1) := by decide +kernel
theorem dX5_work_21 : decode cX5_work 21 = .ok (.getfield 200, 3) := by decide +kernel
theorem dX5_work_24 : decode cX5_work 24 = .ok (.ireturn, 1) := by decide +kernel
theorem dX5_worked_0 : decode cX5_worked 0 = .ok (.aload_n 0, 1) := by decide +kernel
theorem dX5_worked_1 : decode cX5_worked 1 = .ok (.getfield 197, 3) := by decide +kernel
theorem dX5_worked_4 : decode cX5_worked 4 = .ok (.ifCond .ne 5, 3) := by decide +kernel
theorem dX5_worked_7 : decode cX5_worked 7 = .ok (.iconst (-1), 1) := by decide +kernel
theorem dX5_worked_8 : decode cX5_worked 8 = .ok (.ireturn, 1) := by decide +kernel
theorem dX5_worked_9 : decode cX5_worked 9 = .ok (.iconst 0, 1) := by decide +kernel
theorem dX5_worked_10 : decode cX5_worked 10 = .ok (.istore_n 2, 1) := by decide +kernel
theorem dX5_worked_11 : decode cX5_worked 11 = .ok (.iload_n 1, 1) := by decide +kernel
theorem dX5_worked_12 : decode cX5_worked 12 = .ok (.tableswitch 131 0 6 #[44, 49, 69, 89, 94, 99, 104], 44) := by decide +kernel
theorem dX5_worked_56 : decode cX5_worked 56 = .ok (.aload_n 0, 1) := by decide +kernel
theorem dX5_worked_57 : decode cX5_worked 57 = .ok (.getfield 203, 3) := by decide +kernel
theorem dX5_worked_60 : decode cX5_worked 60 = .ok (.ireturn, 1) := by decide +kernel
theorem dX5_worked_61 : decode cX5_worked 61 = .ok (.aload_n 0, 1) := by decide +kernel
theorem dX5_worked_62 : decode cX5_worked 62 = .ok (.getfield 206, 3) := by decide +kernel
theorem dX5_worked_65 : decode cX5_worked 65 = .ok (.iconst (-1), 1) := by decide +kernel
theorem dX5_worked_66 : decode cX5_worked 66 = .ok (.if_icmp .ne 7, 3) := by decide +kernel
theorem dX5_worked_69 : decode cX5_worked 69 = .ok (.iconst (-1), 1) := by decide +kernel
theorem dX5_worked_70 : decode cX5_worked 70 = .ok (.goto 10, 3) := by decide +kernel
theorem dX5_worked_73 : decode cX5_worked 73 = .ok (.aload_n 0, 1) := by decide +kernel
theorem dX5_worked_74 : decode cX5_worked 74 = .ok (.getfield 206, 3) := by decide +kernel
theorem dX5_worked_77 : decode cX5_worked 77 = .ok (.bipush 12, 2) := by decide +kernel
theorem dX5_worked_79 : decode cX5_worked 79 = .ok (.idiv, 1) := by decide +kernel
theorem dX5_worked_80 : decode cX5_worked 80 = .ok (.ireturn, 1) := by decide +kernel
theorem dX5_worked_81 : decode cX5_worked 81 = .ok (.aload_n 0, 1) := by decide +kernel
theorem dX5_worked_82 : decode cX5_worked 82 = .ok (.getfield 206, 3) := by decide +kernel
theorem dX5_worked_85 : decode cX5_worked 85 = .ok (.iconst (-1), 1) := by decide +kernel
theorem dX5_worked_86 : decode cX5_worked 86 = .ok (.if_icmp .ne 7, 3) := by decide +kernel
theorem dX5_worked_89 : decode cX5_worked 89 = .ok (.iconst (-1), 1) := by decide +kernel
theorem dX5_worked_90 : decode cX5_worked 90 = .ok (.goto 10, 3) := by decide +kernel
theorem dX5_worked_93 : decode cX5_worked 93 = .ok (.aload_n 0, 1) := by decide +kernel
theorem dX5_worked_94 : decode cX5_worked 94 = .ok (.getfield 206, 3) := by decide +kernel
theorem dX5_worked_97 : decode cX5_worked 97 = .ok (.bipush 12, 2) := by decide +kernel
theorem dX5_worked_99 : decode cX5_worked 99 = .ok (.irem, 1) := by decide +kernel
theorem dX5_worked_100 : decode cX5_worked 100 = .ok (.ireturn, 1) := by decide +kernel
theorem dX5_worked_101 : decode cX5_worked 101 = .ok (.aload_n 0, 1) := by decide +kernel
theorem dX5_worked_102 : decode cX5_worked 102 = .ok (.getfield 209, 3) := by decide +kernel
theorem dX5_worked_105 : decode cX5_worked 105 = .ok (.ireturn, 1) := by decide +kernel
theorem dX5_worked_106 : decode cX5_worked 106 = .ok (.aload_n 0, 1) := by decide +kernel
theorem dX5_worked_107 : decode cX5_worked 107 = .ok (.getfield 212, 3) := by decide +kernel
theorem dX5_worked_110 : decode cX5_worked 110 = .ok (.ireturn, 1) := by decide +kernel
theorem dX5_worked_111 : decode cX5_worked 111 = .ok (.aload_n 0, 1) := by decide +kernel
theorem dX5_worked_112 : decode cX5_worked 112 = .ok (.getfield 215, 3) := by decide +kernel
theorem dX5_worked_115 : decode cX5_worked 115 = .ok (.ireturn, 1) := by decide +kernel
theorem dX5_worked_116 : decode cX5_worked 116 = .ok (.iconst 0, 1) := by decide +kernel
theorem dX5_worked_117 : decode cX5_worked 117 = .ok (.istore_n 3, 1) := by decide +kernel
theorem dX5_worked_118 : decode cX5_worked 118 = .ok (.iload_n 3, 1) := by decide +kernel
theorem dX5_worked_119 : decode cX5_worked 119 = .ok (.aload_n 0, 1) := by decide +kernel
theorem dX5_worked_120 : decode cX5_worked 120 = .ok (.getfield 200, 3) := by decide +kernel
theorem dX5_worked_123 : decode cX5_worked 123 = .ok (.if_icmp .ge 18, 3) := by decide +kernel
theorem dX5_worked_126 : decode cX5_worked 126 = .ok (.iload_n 2, 1) := by decide +kernel
theorem dX5_worked_127 : decode cX5_worked 127 = .ok (.aload_n 0, 1) := by decide +kernel
theorem dX5_worked_128 : decode cX5_worked 128 = .ok (.getfield 71, 3) := by decide +kernel
theorem dX5_worked_131 : decode cX5_worked 131 = .ok (.iload_n 3, 1) := by decide +kernel
theorem dX5_worked_132 : decode cX5_worked 132 = .ok (.iaload, 1) := by decide +kernel
theorem dX5_worked_133 : decode cX5_worked 133 = .ok (.iadd, 1) := by decide +kernel
theorem dX5_worked_134 : decode cX5_worked 134 = .ok (.istore_n 2, 1) := by decide +kernel
theorem dX5_worked_135 : decode cX5_worked 135 = .ok (.iinc 3 1, 3) := by decide +kernel
theorem dX5_worked_138 : decode cX5_worked 138 = .ok (.goto (-20), 3) := by decide +kernel
theorem dX5_worked_141 : decode cX5_worked 141 = .ok (.iload_n 2, 1) := by decide +kernel
theorem dX5_worked_142 : decode cX5_worked 142 = .ok (.ireturn, 1) := by decide +kernel
theorem dX5_worked_143 : decode cX5_worked 143 = .ok (.iconst (-1), 1) := by decide +kernel
theorem dX5_worked_144 : decode cX5_worked 144 = .ok (.ireturn, 1) := by decide +kernel
set_option maxRecDepth 20000 in
theorem ggX5_isPicked_X5_in : GoodIn wsX5_isPicked wsX5_in := goodIn_r _ [5] (by decide +kernel) (by decide +kernel)
set_option maxRecDepth 20000 in
theorem gX5_isPicked_X5_in : GoodIn wsX5_isPicked (va_wsS RX5 99 yX5_in wsX5_in) := goodIn_app (goodIn_of _ (by decide +kernel)) ggX5_isPicked_X5_in
theorem dX5_isPicked_0 : decode cX5_isPicked 0 = .ok (.iload_n 1, 1) := by decide +kernel
theorem dX5_isPicked_1 : decode cX5_isPicked 1 = .ok (.iconst 0, 1) := by decide +kernel
theorem dX5_isPicked_2 : decode cX5_isPicked 2 = .ok (.aload_n 0, 1) := by decide +kernel
theorem dX5_isPicked_3 : decode cX5_isPicked 3 = .ok (.getfield 200, 3) := by decide +kernel
theorem dX5_isPicked_6 : decode cX5_isPicked 6 = .ok (.iconst 1, 1) := by decide +kernel
theorem dX5_isPicked_7 : decode cX5_isPicked 7 = .ok (.isub, 1) := by decide +kernel
theorem dX5_isPicked_8 : decode cX5_isPicked 8 = .ok (.invokestatic 99, 3) := by decide +kernel
theorem dX5_isPicked_11 : decode cX5_isPicked 11 = .ok (.ireturn, 1) := by decide +kernel
set_option maxRecDepth 20000 in
theorem ggX5_picked_X5_isPicked : GoodIn wsX5_picked wsX5_isPicked := goodIn_r _ [11, 12, 13, 14, 10, 15, 16, 17, 18, 19, 20, 21, 22, 23, 24, 25, 26, 27, 28, 29, 30, 31, 32, 33, 34, 35, 36, 37, 38, 39, 40, 41, 42, 43, 44, 45, 46, 47, 48, 49, 50, 51, 52, 53, 54, 55, 56, 57, 58, 59, 60, 61, 62, 63] (by decide +kernel) (by decide +kernel)
set_option maxRecDepth 20000 in
theorem gX5_picked_X5_isPicked : GoodIn wsX5_picked (wsV RX5 224 RX5 yX5_isPicked wsX5_isPicked) := goodIn_app (goodIn_of _ (by decide +kernel)) ggX5_picked_X5_isPicked
theorem dX5_picked_0 : decode cX5_picked 0 = .ok (.aload_n 0, 1) := by decide +kernel
theorem dX5_picked_1 : decode cX5_picked 1 = .ok (.iload_n 1, 1) := by decide +kernel
theorem dX5_picked_2 : decode cX5_picked 2 = .ok (.invokevirtual 224, 3) := by decide +kernel
theorem dX5_picked_5 : decode cX5_picked 5 = .ok (.ifCond .ne 5, 3) := by decide +kernel
theorem dX5_picked_8 : decode cX5_picked 8 = .ok (.iconst (-1), 1) := by decide +kernel
theorem dX5_picked_9 : decode cX5_picked 9 = .ok (.ireturn, 1) := by decide +kernel
theorem dX5_picked_10 : decode cX5_picked 10 = .ok (.iload_n 2, 1) := by decide +kernel
theorem dX5_picked_11 : decode cX5_picked 11 = .ok (.tableswitch 108 0 5 #[37, 47, 57, 64, 71, 101], 37) := by decide +kernel
theorem dX5_picked_48 : decode cX5_picked 48 = .ok (.aload_n 0, 1) := by decide +kernel
theorem dX5_picked_49 : decode cX5_picked 49 = .ok (.getfield 65, 3) := by decide +kernel
theorem dX5_picked_52 : decode cX5_picked 52 = .ok (.iload_n 1, 1) := by decide +kernel
theorem dX5_picked_53 : decode cX5_picked 53 = .ok (.iaload, 1) := by decide +kernel
theorem dX5_picked_54 : decode cX5_picked 54 = .ok (.bipush 12, 2) := by decide +kernel
theorem dX5_picked_56 : decode cX5_picked 56 = .ok (.idiv, 1) := by decide +kernel
theorem dX5_picked_57 : decode cX5_picked 57 = .ok (.ireturn, 1) := by decide +kernel
theorem dX5_picked_58 : decode cX5_picked 58 = .ok (.aload_n 0, 1) := by decide +kernel
theorem dX5_picked_59 : decode cX5_picked 59 = .ok (.getfield 65, 3) := by decide +kernel
theorem dX5_picked_62 : decode cX5_picked 62 = .ok (.iload_n 1, 1) := by decide +kernel
theorem dX5_picked_63 : decode cX5_picked 63 = .ok (.iaload, 1) := by decide +kernel
theorem dX5_picked_64 : decode cX5_picked 64 = .ok (.bipush 12, 2) := by decide +kernel
theorem dX5_picked_66 : decode cX5_picked 66 = .ok (.irem, 1) := by decide +kernel
theorem dX5_picked_67 : decode cX5_picked 67 = .ok (.ireturn, 1) := by decide +kernel
theorem dX5_picked_68 : decode cX5_picked 68 = .ok (.aload_n 0, 1) := by decide +kernel
theorem dX5_picked_69 : decode cX5_picked 69 = .ok (.getfield 68, 3) := by decide +kernel
theorem dX5_picked_72 : decode cX5_picked 72 = .ok (.iload_n 1, 1) := by decide +kernel
theorem dX5_picked_73 : decode cX5_picked 73 = .ok (.iaload, 1) := by decide +kernel
theorem dX5_picked_74 : decode cX5_picked 74 = .ok (.ireturn, 1) := by decide +kernel
theorem dX5_picked_75 : decode cX5_picked 75 = .ok (.aload_n 0, 1) := by decide +kernel
theorem dX5_picked_76 : decode cX5_picked 76 = .ok (.getfield 71, 3) := by decide +kernel
theorem dX5_picked_79 : decode cX5_picked 79 = .ok (.iload_n 1, 1) := by decide +kernel
theorem dX5_picked_80 : decode cX5_picked 80 = .ok (.iaload, 1) := by decide +kernel
theorem dX5_picked_81 : decode cX5_picked 81 = .ok (.ireturn, 1) := by decide +kernel
theorem dX5_picked_82 : decode cX5_picked 82 = .ok (.aload_n 0, 1) := by decide +kernel
theorem dX5_picked_83 : decode cX5_picked 83 = .ok (.getfield 74, 3) := by decide +kernel
theorem dX5_picked_86 : decode cX5_picked 86 = .ok (.iload_n 1, 1) := by decide +kernel
theorem dX5_picked_87 : decode cX5_picked 87 = .ok (.iaload, 1) := by decide +kernel
theorem dX5_picked_88 : decode cX5_picked 88 = .ok (.ifCond .lt 7, 3) := by decide +kernel
theorem dX5_picked_91 : decode cX5_picked 91 = .ok (.iconst 1, 1) := by decide +kernel
theorem dX5_picked_92 : decode cX5_picked 92 = .ok (.goto 4, 3) := by decide +kernel
theorem dX5_picked_95 : decode cX5_picked 95 = .ok (.iconst 0, 1) := by decide +kernel
theorem dX5_picked_96 : decode cX5_picked 96 = .ok (.aload_n 0, 1) := by decide +kernel
theorem dX5_picked_97 : decode cX5_picked 97 = .ok (.getfield 77, 3) := by decide +kernel
theorem dX5_picked_100 : decode cX5_picked 100 = .ok (.iload_n 1, 1) := by decide +kernel
theorem dX5_picked_101 : decode cX5_picked 101 = .ok (.iaload, 1) := by decide +kernel
theorem dX5_picked_102 : decode cX5_picked 102 = .ok (.ifCond .lt 7, 3) := by decide +kernel
theorem dX5_picked_105 : decode cX5_picked 105 = .ok (.iconst 1, 1) := by decide +kernel
theorem dX5_picked_106 : decode cX5_picked 106 = .ok (.goto 4, 3) := by decide +kernel
theorem dX5_picked_109 : decode cX5_picked 109 = .ok (.iconst 0, 1) := by decide +kernel
theorem dX5_picked_110 : decode cX5_picked 110 = .ok (.iadd, 1) := by decide +kernel
theorem dX5_picked_111 : decode cX5_picked 111 = .ok (.ireturn, 1) := by decide +kernel
theorem dX5_picked_112 : decode cX5_picked 112 = .ok (.aload_n 0, 1) := by decide +kernel
theorem dX5_picked_113 : decode cX5_picked 113 = .ok (.getfield 80, 3) := by decide +kernel
theorem dX5_picked_116 : decode cX5_picked 116 = .ok (.iload_n 1, 1) := by decide +kernel
theorem dX5_picked_117 : decode cX5_picked 117 = .ok (.iaload, 1) := by decide +kernel
theorem dX5_picked_118 : decode cX5_picked 118 = .ok (.ireturn, 1) := by decide +kernel
theorem dX5_picked_119 : decode cX5_picked 119 = .ok (.iconst (-1), 1) := by decide +kernel
theorem dX5_picked_120 : decode cX5_picked 120 = .ok (.ireturn, 1) := by decide +kernel
set_option maxRecDepth 20000 in
theorem ggX5_order_X5_in : GoodIn wsX5_order wsX5_in := goodIn_r _ [5] (by decide +kernel) (by decide +kernel)
set_option maxRecDepth 20000 in
theorem gX5_order_X5_in : GoodIn wsX5_order (va_wsS RX5 99 yX5_in wsX5_in) := goodIn_app (goodIn_of _ (by decide +kernel)) ggX5_order_X5_in
theorem dX5_order_0 : decode cX5_order 0 = .ok (.iload_n 1, 1) := by decide +kernel
theorem dX5_order_1 : decode cX5_order 1 = .ok (.iconst 0, 1) := by decide +kernel
theorem dX5_order_2 : decode cX5_order 2 = .ok (.bipush 11, 2) := by decide +kernel
theorem dX5_order_4 : decode cX5_order 4 = .ok (.invokestatic 99, 3) := by decide +kernel
theorem dX5_order_7 : decode cX5_order 7 = .ok (.ifCond .eq 27, 3) := by decide +kernel
theorem dX5_order_10 : decode cX5_order 10 = .ok (.iload_n 2, 1) := by decide +kernel
theorem dX5_order_11 : decode cX5_order 11 = .ok (.iconst 0, 1) := by decide +kernel
theorem dX5_order_12 : decode cX5_order 12 = .ok (.bipush 11, 2) := by decide +kernel
theorem dX5_order_14 : decode cX5_order 14 = .ok (.invokestatic 99, 3) := by decide +kernel
theorem dX5_order_17 : decode cX5_order 17 = .ok (.ifCond .eq 17, 3) := by decide +kernel
theorem dX5_order_20 : decode cX5_order 20 = .ok (.aload_n 0, 1) := by decide +kernel
theorem dX5_order_21 : decode cX5_order 21 = .ok (.getfield 83, 3) := by decide +kernel
theorem dX5_order_24 : decode cX5_order 24 = .ok (.bipush 12, 2) := by decide +kernel
theorem dX5_order_26 : decode cX5_order 26 = .ok (.iload_n 1, 1) := by decide +kernel
theorem dX5_order_27 : decode cX5_order 27 = .ok (.imul, 1) := by decide +kernel
theorem dX5_order_28 : decode cX5_order 28 = .ok (.iload_n 2, 1) := by decide +kernel
theorem dX5_order_29 : decode cX5_order 29 = .ok (.iadd, 1) := by decide +kernel
theorem dX5_order_30 : decode cX5_order 30 = .ok (.iaload, 1) := by decide +kernel
theorem dX5_order_31 : decode cX5_order 31 = .ok (.goto 4, 3) := by decide +kernel
theorem dX5_order_34 : decode cX5_order 34 = .ok (.iconst (-1), 1) := by decide +kernel
theorem dX5_order_35 : decode cX5_order 35 = .ok (.ireturn, 1) := by decide +kernel
theorem dX5_isOn_0 : decode cX5_isOn 0 = .ok (.aload_n 0, 1) := by decide +kernel
theorem dX5_isOn_1 : decode cX5_isOn 1 = .ok (.getfield 74, 3) := by decide +kernel
theorem dX5_isOn_4 : decode cX5_isOn 4 = .ok (.iload_n 1, 1) := by decide +kernel
theorem dX5_isOn_5 : decode cX5_isOn 5 = .ok (.iaload, 1) := by decide +kernel
theorem dX5_isOn_6 : decode cX5_isOn 6 = .ok (.iload_n 2, 1) := by decide +kernel
theorem dX5_isOn_7 : decode cX5_isOn 7 = .ok (.if_icmp .eq 13, 3) := by decide +kernel
theorem dX5_isOn_10 : decode cX5_isOn 10 = .ok (.aload_n 0, 1) := by decide +kernel
theorem dX5_isOn_11 : decode cX5_isOn 11 = .ok (.getfield 77, 3) := by decide +kernel
theorem dX5_isOn_14 : decode cX5_isOn 14 = .ok (.iload_n 1, 1) := by decide +kernel
theorem dX5_isOn_15 : decode cX5_isOn 15 = .ok (.iaload, 1) := by decide +kernel
theorem dX5_isOn_16 : decode cX5_isOn 16 = .ok (.iload_n 2, 1) := by decide +kernel
theorem dX5_isOn_17 : decode cX5_isOn 17 = .ok (.if_icmp .ne 7, 3) := by decide +kernel
theorem dX5_isOn_20 : decode cX5_isOn 20 = .ok (.iconst 1, 1) := by decide +kernel
theorem dX5_isOn_21 : decode cX5_isOn 21 = .ok (.goto 4, 3) := by decide +kernel
theorem dX5_isOn_24 : decode cX5_isOn 24 = .ok (.iconst 0, 1) := by decide +kernel
theorem dX5_isOn_25 : decode cX5_isOn 25 = .ok (.ireturn, 1) := by decide +kernel
theorem dX5_manyIn_0 : decode cX5_manyIn 0 = .ok (.iconst 0, 1) := by decide +kernel
theorem dX5_manyIn_1 : decode cX5_manyIn 1 = .ok (.istore_n 1, 1) := by decide +kernel
theorem dX5_manyIn_2 : decode cX5_manyIn 2 = .ok (.iconst 0, 1) := by decide +kernel
theorem dX5_manyIn_3 : decode cX5_manyIn 3 = .ok (.istore_n 2, 1) := by decide +kernel
theorem dX5_manyIn_4 : decode cX5_manyIn 4 = .ok (.iload_n 2, 1) := by decide +kernel
theorem dX5_manyIn_5 : decode cX5_manyIn 5 = .ok (.aload_n 0, 1) := by decide +kernel
theorem dX5_manyIn_6 : decode cX5_manyIn 6 = .ok (.getfield 200, 3) := by decide +kernel
theorem dX5_manyIn_9 : decode cX5_manyIn 9 = .ok (.if_icmp .ge 26, 3) := by decide +kernel
theorem dX5_manyIn_12 : decode cX5_manyIn 12 = .ok (.iload_n 1, 1) := by decide +kernel
theorem dX5_manyIn_13 : decode cX5_manyIn 13 = .ok (.aload_n 0, 1) := by decide +kernel
theorem dX5_manyIn_14 : decode cX5_manyIn 14 = .ok (.getfield 92, 3) := by decide +kernel
theorem dX5_manyIn_17 : decode cX5_manyIn 17 = .ok (.iload_n 2, 1) := by decide +kernel
theorem dX5_manyIn_18 : decode cX5_manyIn 18 = .ok (.baload, 1) := by decide +kernel
theorem dX5_manyIn_19 : decode cX5_manyIn 19 = .ok (.ifCond .eq 7, 3) := by decide +kernel
theorem dX5_manyIn_22 : decode cX5_manyIn 22 = .ok (.iconst 1, 1) := by decide +kernel
theorem dX5_manyIn_23 : decode cX5_manyIn 23 = .ok (.goto 4, 3) := by decide +kernel
theorem dX5_manyIn_26 : decode cX5_manyIn 26 = .ok (.iconst 0, 1) := by decide +kernel
theorem dX5_manyIn_27 : decode cX5_manyIn 27 = .ok (.iadd, 1) := by decide +kernel
theorem dX5_manyIn_28 : decode cX5_manyIn 28 = .ok (.istore_n 1, 1) := by decide +kernel
theorem dX5_manyIn_29 : decode cX5_manyIn 29 = .ok (.iinc 2 1, 3) := by decide +kernel
theorem dX5_manyIn_32 : decode cX5_manyIn 32 = .ok (.goto (-28), 3) := by decide +kernel
theorem dX5_manyIn_35 : decode cX5_manyIn 35 = .ok (.iload_n 1, 1) := by decide +kernel
theorem dX5_manyIn_36 : decode cX5_manyIn 36 = .ok (.ireturn, 1) := by decide +kernel
set_option maxRecDepth 20000 in
theorem ggX5_hang_X5_isPicked : GoodIn wsX5_hang wsX5_isPicked := goodIn_r _ [9, 2, 10, 11, 8, 12, 21, 22, 23, 24, 25, 26, 27, 28, 29, 30, 31, 32, 33, 34, 35, 36, 37, 38, 39, 40, 41, 42, 43, 44, 45, 46, 47, 48, 49, 50, 51, 52, 53, 54, 55, 56, 57, 58, 59, 60, 61, 62, 63, 64, 65, 66, 67, 68] (by decide +kernel) (by decide +kernel)
set_option maxRecDepth 20000 in
theorem gX5_hang_X5_isPicked : GoodIn wsX5_hang (wsV RX5 224 RX5 yX5_isPicked wsX5_isPicked) := goodIn_app (goodIn_of _ (by decide +kernel)) ggX5_hang_X5_isPicked
set_option maxRecDepth 20000 in
theorem ggX5_hang_X5_isOn : GoodIn wsX5_hang wsX5_isOn := goodIn_r _ [16, 3, 4, 21, 22, 23, 24, 25, 26, 27, 28, 29, 30, 31, 32, 33, 34, 35, 36, 37, 38, 39, 40, 41, 42, 43, 44, 45, 46, 47, 48, 49, 50, 51, 52, 53, 54, 55, 56, 57, 58, 59, 60, 61, 62, 63, 64, 65, 66, 67, 68] (by decide +kernel) (by decide +kernel)
set_option maxRecDepth 20000 in
theorem gX5_hang_X5_isOn : GoodIn wsX5_hang (wsV RX5 227 RX5 yX5_isOn wsX5_isOn) := goodIn_app (goodIn_of _ (by decide +kernel)) ggX5_hang_X5_isOn
set_option maxRecDepth 20000 in
theorem ggX5_hang_X5_manyIn : GoodIn wsX5_hang wsX5_manyIn := goodIn_r _ [20, 2, 1, 21, 22, 23, 24, 25, 26, 27, 28, 29, 30, 31, 32, 33, 34, 35, 36, 37, 38, 39, 40, 41, 42, 43, 44, 45, 46, 47, 48, 49, 50, 51, 52, 53, 54, 55, 56, 57, 58, 59, 60, 61, 62, 63, 64, 65, 66, 67, 68] (by decide +kernel) (by decide +kernel)
set_option maxRecDepth 20000 in
theorem gX5_hang_X5_manyIn : GoodIn wsX5_hang (wsV RX5 230 RX5 yX5_manyIn wsX5_manyIn) := goodIn_app (goodIn_of _ (by decide +kernel)) ggX5_hang_X5_manyIn
theorem dX5_hang_0 : decode cX5_hang 0 = .ok (.aload_n 0, 1) := by decide +kernel
theorem dX5_hang_1 : decode cX5_hang 1 = .ok (.iload_n 1, 1) := by decide +kernel
theorem dX5_hang_2 : decode cX5_hang 2 = .ok (.invokevirtual 224, 3) := by decide +kernel
theorem dX5_hang_5 : decode cX5_hang 5 = .ok (.ifCond .ne 5, 3) := by decide +kernel
theorem dX5_hang_8 : decode cX5_hang 8 = .ok (.iconst (-1), 1) := by decide +kernel
theorem dX5_hang_9 : decode cX5_hang 9 = .ok (.ireturn, 1) := by decide +kernel
theorem dX5_hang_10 : decode cX5_hang 10 = .ok (.iconst 0, 1) := by decide +kernel
theorem dX5_hang_11 : decode cX5_hang 11 = .ok (.istore_n 2, 1) := by decide +kernel
theorem dX5_hang_12 : decode cX5_hang 12 = .ok (.iload_n 2, 1) := by decide +kernel
theorem dX5_hang_13 : decode cX5_hang 13 = .ok (.sipush 144, 3) := by decide +kernel
theorem dX5_hang_16 : decode cX5_hang 16 = .ok (.if_icmp .ge 16, 3) := by decide +kernel
theorem dX5_hang_19 : decode cX5_hang 19 = .ok (.aload_n 0, 1) := by decide +kernel
theorem dX5_hang_20 : decode cX5_hang 20 = .ok (.getfield 92, 3) := by decide +kernel
theorem dX5_hang_23 : decode cX5_hang 23 = .ok (.iload_n 2, 1) := by decide +kernel
theorem dX5_hang_24 : decode cX5_hang 24 = .ok (.iconst 0, 1) := by decide +kernel
theorem dX5_hang_25 : decode cX5_hang 25 = .ok (.bastore, 1) := by decide +kernel
theorem dX5_hang_26 : decode cX5_hang 26 = .ok (.iinc 2 1, 3) := by decide +kernel
theorem dX5_hang_29 : decode cX5_hang 29 = .ok (.goto (-17), 3) := by decide +kernel
theorem dX5_hang_32 : decode cX5_hang 32 = .ok (.iload_n 1, 1) := by decide +kernel
theorem dX5_hang_33 : decode cX5_hang 33 = .ok (.iconst 1, 1) := by decide +kernel
theorem dX5_hang_34 : decode cX5_hang 34 = .ok (.iadd, 1) := by decide +kernel
theorem dX5_hang_35 : decode cX5_hang 35 = .ok (.istore_n 2, 1) := by decide +kernel
theorem dX5_hang_36 : decode cX5_hang 36 = .ok (.iload_n 2, 1) := by decide +kernel
theorem dX5_hang_37 : decode cX5_hang 37 = .ok (.aload_n 0, 1) := by decide +kernel
theorem dX5_hang_38 : decode cX5_hang 38 = .ok (.getfield 200, 3) := by decide +kernel
theorem dX5_hang_41 : decode cX5_hang 41 = .ok (.if_icmp .ge 72, 3) := by decide +kernel
theorem dX5_hang_44 : decode cX5_hang 44 = .ok (.aload_n 0, 1) := by decide +kernel
theorem dX5_hang_45 : decode cX5_hang 45 = .ok (.getfield 74, 3) := by decide +kernel
theorem dX5_hang_48 : decode cX5_hang 48 = .ok (.iload_n 2, 1) := by decide +kernel
theorem dX5_hang_49 : decode cX5_hang 49 = .ok (.iaload, 1) := by decide +kernel
theorem dX5_hang_50 : decode cX5_hang 50 = .ok (.istore_n 3, 1) := by decide +kernel
theorem dX5_hang_51 : decode cX5_hang 51 = .ok (.aload_n 0, 1) := by decide +kernel
theorem dX5_hang_52 : decode cX5_hang 52 = .ok (.getfield 77, 3) := by decide +kernel
theorem dX5_hang_55 : decode cX5_hang 55 = .ok (.iload_n 2, 1) := by decide +kernel
theorem dX5_hang_56 : decode cX5_hang 56 = .ok (.iaload, 1) := by decide +kernel
theorem dX5_hang_57 : decode cX5_hang 57 = .ok (.istore 4, 2) := by decide +kernel
theorem dX5_hang_59 : decode cX5_hang 59 = .ok (.aload_n 0, 1) := by decide +kernel
theorem dX5_hang_60 : decode cX5_hang 60 = .ok (.getfield 92, 3) := by decide +kernel
theorem dX5_hang_63 : decode cX5_hang 63 = .ok (.iload_n 2, 1) := by decide +kernel
theorem dX5_hang_64 : decode cX5_hang 64 = .ok (.aload_n 0, 1) := by decide +kernel
theorem dX5_hang_65 : decode cX5_hang 65 = .ok (.iload_n 2, 1) := by decide +kernel
theorem dX5_hang_66 : decode cX5_hang 66 = .ok (.iload_n 1, 1) := by decide +kernel
theorem dX5_hang_67 : decode cX5_hang 67 = .ok (.invokevirtual 227, 3) := by decide +kernel
theorem dX5_hang_70 : decode cX5_hang 70 = .ok (.ifCond .ne 31, 3) := by decide +kernel
theorem dX5_hang_73 : decode cX5_hang 73 = .ok (.iload_n 3, 1) := by decide +kernel
