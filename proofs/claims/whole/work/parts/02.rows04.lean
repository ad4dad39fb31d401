theorem dX5_init_80 : decode cX5_init 80 = .ok (.newarray .int, 2) := by decide +kernel
theorem dX5_init_82 : decode cX5_init 82 = .ok (.dup, 1) := by decide +kernel
theorem dX5_init_83 : decode cX5_init 83 = .ok (.iconst 0, 1) := by decide +kernel
theorem dX5_init_84 : decode cX5_init 84 = .ok (.iconst 5, 1) := by decide +kernel
theorem dX5_init_85 : decode cX5_init 85 = .ok (.iastore, 1) := by decide +kernel
theorem dX5_init_86 : decode cX5_init 86 = .ok (.dup, 1) := by decide +kernel
theorem dX5_init_87 : decode cX5_init 87 = .ok (.iconst 1, 1) := by decide +kernel
theorem dX5_init_88 : decode cX5_init 88 = .ok (.iconst 5, 1) := by decide +kernel
theorem dX5_init_89 : decode cX5_init 89 = .ok (.iastore, 1) := by decide +kernel
theorem dX5_init_90 : decode cX5_init 90 = .ok (.dup, 1) := by decide +kernel
theorem dX5_init_91 : decode cX5_init 91 = .ok (.iconst 2, 1) := by decide +kernel
theorem dX5_init_92 : decode cX5_init 92 = .ok (.iconst 5, 1) := by decide +kernel
theorem dX5_init_93 : decode cX5_init 93 = .ok (.iastore, 1) := by decide +kernel
theorem dX5_init_94 : decode cX5_init 94 = .ok (.dup, 1) := by decide +kernel
theorem dX5_init_95 : decode cX5_init 95 = .ok (.iconst 3, 1) := by decide +kernel
theorem dX5_init_96 : decode cX5_init 96 = .ok (.iconst 5, 1) := by decide +kernel
theorem dX5_init_97 : decode cX5_init 97 = .ok (.iastore, 1) := by decide +kernel
theorem dX5_init_98 : decode cX5_init 98 = .ok (.dup, 1) := by decide +kernel
theorem dX5_init_99 : decode cX5_init 99 = .ok (.iconst 4, 1) := by decide +kernel
theorem dX5_init_100 : decode cX5_init 100 = .ok (.iconst 5, 1) := by decide +kernel
theorem dX5_init_101 : decode cX5_init 101 = .ok (.iastore, 1) := by decide +kernel
theorem dX5_init_102 : decode cX5_init 102 = .ok (.dup, 1) := by decide +kernel
theorem dX5_init_103 : decode cX5_init 103 = .ok (.iconst 5, 1) := by decide +kernel
theorem dX5_init_104 : decode cX5_init 104 = .ok (.iconst 5, 1) := by decide +kernel
theorem dX5_init_105 : decode cX5_init 105 = .ok (.iastore, 1) := by decide +kernel
theorem dX5_init_106 : decode cX5_init 106 = .ok (.putfield 19, 3) := by decide +kernel
theorem dX5_init_109 : decode cX5_init 109 = .ok (.aload_n 0, 1) := by decide +kernel
theorem dX5_init_110 : decode cX5_init 110 = .ok (.sipush 1000, 3) := by decide +kernel
theorem dX5_init_113 : decode cX5_init 113 = .ok (.putfield 22, 3) := by decide +kernel
theorem dX5_init_116 : decode cX5_init 116 = .ok (.aload_n 0, 1) := by decide +kernel
theorem dX5_init_117 : decode cX5_init 117 = .ok (.iconst 2, 1) := by decide +kernel
theorem dX5_init_118 : decode cX5_init 118 = .ok (.putfield 26, 3) := by decide +kernel
theorem dX5_init_121 : decode cX5_init 121 = .ok (.aload_n 0, 1) := by decide +kernel
theorem dX5_init_122 : decode cX5_init 122 = .ok (.sipush 144, 3) := by decide +kernel
theorem dX5_init_125 : decode cX5_init 125 = .ok (.newarray .int, 2) := by decide +kernel
theorem dX5_init_127 : decode cX5_init 127 = .ok (.putfield 29, 3) := by decide +kernel
theorem dX5_init_130 : decode cX5_init 130 = .ok (.aload_n 0, 1) := by decide +kernel
theorem dX5_init_131 : decode cX5_init 131 = .ok (.sipush 144, 3) := by decide +kernel
theorem dX5_init_134 : decode cX5_init 134 = .ok (.newarray .int, 2) := by decide +kernel
theorem dX5_init_136 : decode cX5_init 136 = .ok (.putfield 32, 3) := by decide +kernel
theorem dX5_init_139 : decode cX5_init 139 = .ok (.aload_n 0, 1) := by decide +kernel
theorem dX5_init_140 : decode cX5_init 140 = .ok (.sipush 144, 3) := by decide +kernel
theorem dX5_init_143 : decode cX5_init 143 = .ok (.newarray .int, 2) := by decide +kernel
theorem dX5_init_145 : decode cX5_init 145 = .ok (.putfield 35, 3) := by decide +kernel
theorem dX5_init_148 : decode cX5_init 148 = .ok (.aload_n 0, 1) := by decide +kernel
theorem dX5_init_149 : decode cX5_init 149 = .ok (.sipush 144, 3) := by decide +kernel
theorem dX5_init_152 : decode cX5_init 152 = .ok (.newarray .int, 2) := by decide +kernel
theorem dX5_init_154 : decode cX5_init 154 = .ok (.putfield 38, 3) := by decide +kernel
theorem dX5_init_157 : decode cX5_init 157 = .ok (.aload_n 0, 1) := by decide +kernel
theorem dX5_init_158 : decode cX5_init 158 = .ok (.sipush 144, 3) := by decide +kernel
theorem dX5_init_161 : decode cX5_init 161 = .ok (.newarray .int, 2) := by decide +kernel
theorem dX5_init_163 : decode cX5_init 163 = .ok (.putfield 41, 3) := by decide +kernel
theorem dX5_init_166 : decode cX5_init 166 = .ok (.aload_n 0, 1) := by decide +kernel
theorem dX5_init_167 : decode cX5_init 167 = .ok (.sipush 144, 3) := by decide +kernel
theorem dX5_init_170 : decode cX5_init 170 = .ok (.newarray .int, 2) := by decide +kernel
theorem dX5_init_172 : decode cX5_init 172 = .ok (.putfield 44, 3) := by decide +kernel
theorem dX5_init_175 : decode cX5_init 175 = .ok (.aload_n 0, 1) := by decide +kernel
theorem dX5_init_176 : decode cX5_init 176 = .ok (.sipush 144, 3) := by decide +kernel
theorem dX5_init_179 : decode cX5_init 179 = .ok (.newarray .int, 2) := by decide +kernel
theorem dX5_init_181 : decode cX5_init 181 = .ok (.putfield 47, 3) := by decide +kernel
theorem dX5_init_184 : decode cX5_init 184 = .ok (.aload_n 0, 1) := by decide +kernel
theorem dX5_init_185 : decode cX5_init 185 = .ok (.sipush 150, 3) := by decide +kernel
theorem dX5_init_188 : decode cX5_init 188 = .ok (.newarray .int, 2) := by decide +kernel
theorem dX5_init_190 : decode cX5_init 190 = .ok (.putfield 50, 3) := by decide +kernel
theorem dX5_init_193 : decode cX5_init 193 = .ok (.aload_n 0, 1) := by decide +kernel
theorem dX5_init_194 : decode cX5_init 194 = .ok (.sipush 900, 3) := by decide +kernel
theorem dX5_init_197 : decode cX5_init 197 = .ok (.newarray .int, 2) := by decide +kernel
theorem dX5_init_199 : decode cX5_init 199 = .ok (.putfield 53, 3) := by decide +kernel
theorem dX5_init_202 : decode cX5_init 202 = .ok (.aload_n 0, 1) := by decide +kernel
theorem dX5_init_203 : decode cX5_init 203 = .ok (.bipush 8, 2) := by decide +kernel
theorem dX5_init_205 : decode cX5_init 205 = .ok (.newarray .int, 2) := by decide +kernel
theorem dX5_init_207 : decode cX5_init 207 = .ok (.putfield 56, 3) := by decide +kernel
theorem dX5_init_210 : decode cX5_init 210 = .ok (.aload_n 0, 1) := by decide +kernel
theorem dX5_init_211 : decode cX5_init 211 = .ok (.bipush 6, 2) := by decide +kernel
theorem dX5_init_213 : decode cX5_init 213 = .ok (.newarray .int, 2) := by decide +kernel
theorem dX5_init_215 : decode cX5_init 215 = .ok (.putfield 59, 3) := by decide +kernel
theorem dX5_init_218 : decode cX5_init 218 = .ok (.aload_n 0, 1) := by decide +kernel
theorem dX5_init_219 : decode cX5_init 219 = .ok (.bipush 6, 2) := by decide +kernel
theorem dX5_init_221 : decode cX5_init 221 = .ok (.newarray .int, 2) := by decide +kernel
theorem dX5_init_223 : decode cX5_init 223 = .ok (.putfield 62, 3) := by decide +kernel
theorem dX5_init_226 : decode cX5_init 226 = .ok (.aload_n 0, 1) := by decide +kernel
theorem dX5_init_227 : decode cX5_init 227 = .ok (.sipush 144, 3) := by decide +kernel
theorem dX5_init_230 : decode cX5_init 230 = .ok (.newarray .int, 2) := by decide +kernel
theorem dX5_init_232 : decode cX5_init 232 = .ok (.putfield 65, 3) := by decide +kernel
theorem dX5_init_235 : decode cX5_init 235 = .ok (.aload_n 0, 1) := by decide +kernel
theorem dX5_init_236 : decode cX5_init 236 = .ok (.sipush 144, 3) := by decide +kernel
theorem dX5_init_239 : decode cX5_init 239 = .ok (.newarray .int, 2) := by decide +kernel
theorem dX5_init_241 : decode cX5_init 241 = .ok (.putfield 68, 3) := by decide +kernel
theorem dX5_init_244 : decode cX5_init 244 = .ok (.aload_n 0, 1) := by decide +kernel
theorem dX5_init_245 : decode cX5_init 245 = .ok (.sipush 144, 3) := by decide +kernel
theorem dX5_init_248 : decode cX5_init 248 = .ok (.newarray .int, 2) := by decide +kernel
theorem dX5_init_250 : decode cX5_init 250 = .ok (.putfield 71, 3) := by decide +kernel
theorem dX5_init_253 : decode cX5_init 253 = .ok (.aload_n 0, 1) := by decide +kernel
theorem dX5_init_254 : decode cX5_init 254 = .ok (.sipush 144, 3) := by decide +kernel
theorem dX5_init_257 : decode cX5_init 257 = .ok (.newarray .int, 2) := by decide +kernel
theorem dX5_init_259 : decode cX5_init 259 = .ok (.putfield 74, 3) := by decide +kernel
theorem dX5_init_262 : decode cX5_init 262 = .ok (.aload_n 0, 1) := by decide +kernel
theorem dX5_init_263 : decode cX5_init 263 = .ok (.sipush 144, 3) := by decide +kernel
theorem dX5_init_266 : decode cX5_init 266 = .ok (.newarray .int, 2) := by decide +kernel
theorem dX5_init_268 : decode cX5_init 268 = .ok (.putfield 77, 3) := by decide +kernel
theorem dX5_init_271 : decode cX5_init 271 = .ok (.aload_n 0, 1) := by decide +kernel
theorem dX5_init_272 : decode cX5_init 272 = .ok (.sipush 144, 3) := by decide +kernel
theorem dX5_init_275 : decode cX5_init 275 = .ok (.newarray .int, 2) := by decide +kernel
theorem dX5_init_277 : decode cX5_init 277 = .ok (.putfield 80, 3) := by decide +kernel
theorem dX5_init_280 : decode cX5_init 280 = .ok (.aload_n 0, 1) := by decide +kernel
theorem dX5_init_281 : decode cX5_init 281 = .ok (.sipush 144, 3) := by decide +kernel
theorem dX5_init_284 : decode cX5_init 284 = .ok (.newarray .int, 2) := by decide +kernel
theorem dX5_init_286 : decode cX5_init 286 = .ok (.putfield 83, 3) := by decide +kernel
theorem dX5_init_289 : decode cX5_init 289 = .ok (.aload_n 0, 1) := by decide +kernel
theorem dX5_init_290 : decode cX5_init 290 = .ok (.sipush 150, 3) := by decide +kernel
theorem dX5_init_293 : decode cX5_init 293 = .ok (.newarray .int, 2) := by decide +kernel
theorem dX5_init_295 : decode cX5_init 295 = .ok (.putfield 86, 3) := by decide +kernel
theorem dX5_init_298 : decode cX5_init 298 = .ok (.aload_n 0, 1) := by decide +kernel
theorem dX5_init_299 : decode cX5_init 299 = .ok (.sipush 900, 3) := by decide +kernel
theorem dX5_init_302 : decode cX5_init 302 = .ok (.newarray .int, 2) := by decide +kernel
theorem dX5_init_304 : decode cX5_init 304 = .ok (.putfield 89, 3) := by decide +kernel
theorem dX5_init_307 : decode cX5_init 307 = .ok (.aload_n 0, 1) := by decide +kernel
theorem dX5_init_308 : decode cX5_init 308 = .ok (.sipush 144, 3) := by decide +kernel
theorem dX5_init_311 : decode cX5_init 311 = .ok (.newarray .boolean, 2) := by decide +kernel
theorem dX5_init_313 : decode cX5_init 313 = .ok (.putfield 92, 3) := by decide +kernel
theorem dX5_init_316 : decode cX5_init 316 = .ok (.iconst 0, 1) := by decide +kernel
theorem dX5_init_317 : decode cX5_init 317 = .ok (.istore_n 1, 1) := by decide +kernel
theorem dX5_init_318 : decode cX5_init 318 = .ok (.iload_n 1, 1) := by decide +kernel
theorem dX5_init_319 : decode cX5_init 319 = .ok (.sipush 144, 3) := by decide +kernel
theorem dX5_init_322 : decode cX5_init 322 = .ok (.if_icmp .ge 23, 3) := by decide +kernel
theorem dX5_init_325 : decode cX5_init 325 = .ok (.aload_n 0, 1) := by decide +kernel
theorem dX5_init_326 : decode cX5_init 326 = .ok (.getfield 7, 3) := by decide +kernel
theorem dX5_init_329 : decode cX5_init 329 = .ok (.iload_n 1, 1) := by decide +kernel
theorem dX5_init_330 : decode cX5_init 330 = .ok (.iconst (-1), 1) := by decide +kernel
theorem dX5_init_331 : decode cX5_init 331 = .ok (.iastore, 1) := by decide +kernel
theorem dX5_init_332 : decode cX5_init 332 = .ok (.aload_n 0, 1) := by decide +kernel
theorem dX5_init_333 : decode cX5_init 333 = .ok (.getfield 83, 3) := by decide +kernel
theorem dX5_init_336 : decode cX5_init 336 = .ok (.iload_n 1, 1) := by decide +kernel
theorem dX5_init_337 : decode cX5_init 337 = .ok (.iconst (-1), 1) := by decide +kernel
theorem dX5_init_338 : decode cX5_init 338 = .ok (.iastore, 1) := by decide +kernel
theorem dX5_init_339 : decode cX5_init 339 = .ok (.iinc 1 1, 3) := by decide +kernel
theorem dX5_init_342 : decode cX5_init 342 = .ok (.goto (-24), 3) := by decide +kernel
theorem dX5_init_345 : decode cX5_init 345 = .ok (.return_, 1) := by decide +kernel
theorem dX5_in_0 : decode cX5_in 0 = .ok (.iload_n 0, 1) := by decide +kernel
theorem dX5_in_1 : decode cX5_in 1 = .ok (.iload_n 1, 1) := by decide +kernel
theorem dX5_in_2 : decode cX5_in 2 = .ok (.if_icmp .lt 12, 3) := by decide +kernel
theorem dX5_in_5 : decode cX5_in 5 = .ok (.iload_n 0, 1) := by decide +kernel
theorem dX5_in_6 : decode cX5_in 6 = .ok (.iload_n 2, 1) := by decide +kernel
theorem dX5_in_7 : decode cX5_in 7 = .ok (.if_icmp .gt 7, 3) := by decide +kernel
theorem dX5_in_10 : decode cX5_in 10 = .ok (.iconst 1, 1) := by decide +kernel
theorem dX5_in_11 : decode cX5_in 11 = .ok (.goto 4, 3) := by decide +kernel
theorem dX5_in_14 : decode cX5_in 14 = .ok (.iconst 0, 1) := by decide +kernel
theorem dX5_in_15 : decode cX5_in 15 = .ok (.ireturn, 1) := by decide +kernel
theorem dX5_columns_0 : decode cX5_columns 0 = .ok (.aload_n 0, 1) := by decide +kernel
theorem dX5_columns_1 : decode cX5_columns 1 = .ok (.getfield 96, 3) := by decide +kernel
theorem dX5_columns_4 : decode cX5_columns 4 = .ok (.ifCond .ne 8, 3) := by decide +kernel
theorem dX5_columns_7 : decode cX5_columns 7 = .ok (.bipush 12, 2) := by decide +kernel
theorem dX5_columns_9 : decode cX5_columns 9 = .ok (.goto 7, 3) := by decide +kernel
theorem dX5_columns_12 : decode cX5_columns 12 = .ok (.aload_n 0, 1) := by decide +kernel
theorem dX5_columns_13 : decode cX5_columns 13 = .ok (.getfield 96, 3) := by decide +kernel
theorem dX5_columns_16 : decode cX5_columns 16 = .ok (.ireturn, 1) := by decide +kernel
set_option maxRecDepth 20000 in
theorem ggX5_beads_X5_in : GoodIn wsX5_beads wsX5_in := goodIn_r _ [5] (by decide +kernel) (by decide +kernel)
set_option maxRecDepth 20000 in
theorem gX5_beads_X5_in : GoodIn wsX5_beads (va_wsS RX5 99 yX5_in wsX5_in) := goodIn_app (goodIn_of _ (by decide +kernel)) ggX5_beads_X5_in
set_option maxRecDepth 20000 in
theorem ggX5_beads_X5_columns : GoodIn wsX5_beads wsX5_columns := goodIn_r _ [9, 10, 11, 12, 13, 14, 15, 16, 17, 18, 19, 20, 21, 22, 23, 24, 25, 26, 27, 28, 29, 30, 31, 32, 33, 34, 35, 36, 37, 38, 39, 40, 41, 42, 43, 44, 45, 46, 47, 48, 49, 50, 51, 52, 53, 54, 55, 56, 57, 58] (by decide +kernel) (by decide +kernel)
set_option maxRecDepth 20000 in
theorem gX5_beads_X5_columns : GoodIn wsX5_beads (wsV RX5 103 RX5 yX5_columns wsX5_columns) := goodIn_app (goodIn_of _ (by decide +kernel)) ggX5_beads_X5_columns
theorem dX5_beads_0 : decode cX5_beads 0 = .ok (.iload_n 1, 1) := by decide +kernel
theorem dX5_beads_1 : decode cX5_beads 1 = .ok (.iconst 0, 1) := by decide +kernel
theorem dX5_beads_2 : decode cX5_beads 2 = .ok (.bipush 11, 2) := by decide +kernel
theorem dX5_beads_4 : decode cX5_beads 4 = .ok (.invokestatic 99, 3) := by decide +kernel
theorem dX5_beads_7 : decode cX5_beads 7 = .ok (.ifCond .eq 33, 3) := by decide +kernel
theorem dX5_beads_10 : decode cX5_beads 10 = .ok (.iload_n 2, 1) := by decide +kernel
theorem dX5_beads_11 : decode cX5_beads 11 = .ok (.iconst 0, 1) := by decide +kernel
theorem dX5_beads_12 : decode cX5_beads 12 = .ok (.bipush 11, 2) := by decide +kernel
theorem dX5_beads_14 : decode cX5_beads 14 = .ok (.invokestatic 99, 3) := by decide +kernel
theorem dX5_beads_17 : decode cX5_beads 17 = .ok (.ifCond .eq 23, 3) := by decide +kernel
theorem dX5_beads_20 : decode cX5_beads 20 = .ok (.iload_n 3, 1) := by decide +kernel
theorem dX5_beads_21 : decode cX5_beads 21 = .ok (.iconst 1, 1) := by decide +kernel
theorem dX5_beads_22 : decode cX5_beads 22 = .ok (.bipush 12, 2) := by decide +kernel
theorem dX5_beads_24 : decode cX5_beads 24 = .ok (.invokestatic 99, 3) := by decide +kernel
theorem dX5_beads_27 : decode cX5_beads 27 = .ok (.ifCond .eq 13, 3) := by decide +kernel
theorem dX5_beads_30 : decode cX5_beads 30 = .ok (.iload_n 2, 1) := by decide +kernel
theorem dX5_beads_31 : decode cX5_beads 31 = .ok (.iload_n 3, 1) := by decide +kernel
theorem dX5_beads_32 : decode cX5_beads 32 = .ok (.iadd, 1) := by decide +kernel
theorem dX5_beads_33 : decode cX5_beads 33 = .ok (.aload_n 0, 1) := by decide +kernel
theorem dX5_beads_34 : decode cX5_beads 34 = .ok (.invokevirtual 103, 3) := by decide +kernel
theorem dX5_beads_37 : decode cX5_beads 37 = .ok (.if_icmp .le 5, 3) := by decide +kernel
theorem dX5_beads_40 : decode cX5_beads 40 = .ok (.iconst 0, 1) := by decide +kernel
theorem dX5_beads_41 : decode cX5_beads 41 = .ok (.ireturn, 1) := by decide +kernel
theorem dX5_beads_42 : decode cX5_beads 42 = .ok (.iconst 0, 1) := by decide +kernel
theorem dX5_beads_43 : decode cX5_beads 43 = .ok (.istore 6, 2) := by decide +kernel
theorem dX5_beads_45 : decode cX5_beads 45 = .ok (.iload 6, 2) := by decide +kernel
theorem dX5_beads_47 : decode cX5_beads 47 = .ok (.iload_n 3, 1) := by decide +kernel
theorem dX5_beads_48 : decode cX5_beads 48 = .ok (.if_icmp .ge 56, 3) := by decide +kernel
theorem dX5_beads_51 : decode cX5_beads 51 = .ok (.lload 4, 2) := by decide +kernel
theorem dX5_beads_53 : decode cX5_beads 53 = .ok (.iconst 3, 1) := by decide +kernel
theorem dX5_beads_54 : decode cX5_beads 54 = .ok (.iload 6, 2) := by decide +kernel
theorem dX5_beads_56 : decode cX5_beads 56 = .ok (.imul, 1) := by decide +kernel
theorem dX5_beads_57 : decode cX5_beads 57 = .ok (.lshr, 1) := by decide +kernel
theorem dX5_beads_58 : decode cX5_beads 58 = .ok (.l2i, 1) := by decide +kernel
theorem dX5_beads_59 : decode cX5_beads 59 = .ok (.bipush 7, 2) := by decide +kernel
theorem dX5_beads_61 : decode cX5_beads 61 = .ok (.iand, 1) := by decide +kernel
theorem dX5_beads_62 : decode cX5_beads 62 = .ok (.istore 7, 2) := by decide +kernel
theorem dX5_beads_64 : decode cX5_beads 64 = .ok (.iload 7, 2) := by decide +kernel
theorem dX5_beads_66 : decode cX5_beads 66 = .ok (.bipush 7, 2) := by decide +kernel
theorem dX5_beads_68 : decode cX5_beads 68 = .ok (.if_icmp .ge 30, 3) := by decide +kernel
theorem dX5_beads_71 : decode cX5_beads 71 = .ok (.aload_n 0, 1) := by decide +kernel
theorem dX5_beads_72 : decode cX5_beads 72 = .ok (.getfield 7, 3) := by decide +kernel
theorem dX5_beads_75 : decode cX5_beads 75 = .ok (.bipush 12, 2) := by decide +kernel
theorem dX5_beads_77 : decode cX5_beads 77 = .ok (.iload_n 1, 1) := by decide +kernel
theorem dX5_beads_78 : decode cX5_beads 78 = .ok (.imul, 1) := by decide +kernel
theorem dX5_beads_79 : decode cX5_beads 79 = .ok (.iload_n 2, 1) := by decide +kernel
theorem dX5_beads_80 : decode cX5_beads 80 = .ok (.iadd, 1) := by decide +kernel
theorem dX5_beads_81 : decode cX5_beads 81 = .ok (.iload 6, 2) := by decide +kernel
theorem dX5_beads_83 : decode cX5_beads 83 = .ok (.iadd, 1) := by decide +kernel
theorem dX5_beads_84 : decode cX5_beads 84 = .ok (.iload 7, 2) := by decide +kernel
theorem dX5_beads_86 : decode cX5_beads 86 = .ok (.bipush 6, 2) := by decide +kernel
theorem dX5_beads_88 : decode cX5_beads 88 = .ok (.if_icmp .ne 7, 3) := by decide +kernel
theorem dX5_beads_91 : decode cX5_beads 91 = .ok (.iconst (-1), 1) := by decide +kernel
theorem dX5_beads_92 : decode cX5_beads 92 = .ok (.goto 5, 3) := by decide +kernel
theorem dX5_beads_95 : decode cX5_beads 95 = .ok (.iload 7, 2) := by decide +kernel
theorem dX5_beads_97 : decode cX5_beads 97 = .ok (.iastore, 1) := by decide +kernel
theorem dX5_beads_98 : decode cX5_beads 98 = .ok (.iinc 6 1, 3) := by decide +kernel
theorem dX5_beads_101 : decode cX5_beads 101 = .ok (.goto (-56), 3) := by decide +kernel
theorem dX5_beads_104 : decode cX5_beads 104 = .ok (.iconst 1, 1) := by decide +kernel
theorem dX5_beads_105 : decode cX5_beads 105 = .ok (.ireturn, 1) := by decide +kernel
set_option maxRecDepth 20000 in
theorem ggX5_stitch_X5_in : GoodIn wsX5_stitch wsX5_in := goodIn_r _ [5] (by decide +kernel) (by decide +kernel)
set_option maxRecDepth 20000 in
theorem gX5_stitch_X5_in : GoodIn wsX5_stitch (va_wsS RX5 99 yX5_in wsX5_in) := goodIn_app (goodIn_of _ (by decide +kernel)) ggX5_stitch_X5_in
theorem dX5_stitch_0 : decode cX5_stitch 0 = .ok (.iload_n 1, 1) := by decide +kernel
theorem dX5_stitch_1 : decode cX5_stitch 1 = .ok (.iconst 0, 1) := by decide +kernel
theorem dX5_stitch_2 : decode cX5_stitch 2 = .ok (.iconst 1, 1) := by decide +kernel
theorem dX5_stitch_3 : decode cX5_stitch 3 = .ok (.invokestatic 99, 3) := by decide +kernel
theorem dX5_stitch_6 : decode cX5_stitch 6 = .ok (.ifCond .ne 5, 3) := by decide +kernel
theorem dX5_stitch_9 : decode cX5_stitch 9 = .ok (.iconst (-1), 1) := by decide +kernel
theorem dX5_stitch_10 : decode cX5_stitch 10 = .ok (.ireturn, 1) := by decide +kernel
theorem dX5_stitch_11 : decode cX5_stitch 11 = .ok (.aload_n 0, 1) := by decide +kernel
theorem dX5_stitch_12 : decode cX5_stitch 12 = .ok (.getfield 107, 3) := by decide +kernel
theorem dX5_stitch_15 : decode cX5_stitch 15 = .ok (.istore_n 2, 1) := by decide +kernel
theorem dX5_stitch_16 : decode cX5_stitch 16 = .ok (.aload_n 0, 1) := by decide +kernel
theorem dX5_stitch_17 : decode cX5_stitch 17 = .ok (.iload_n 1, 1) := by decide +kernel
theorem dX5_stitch_18 : decode cX5_stitch 18 = .ok (.putfield 107, 3) := by decide +kernel
theorem dX5_stitch_21 : decode cX5_stitch 21 = .ok (.iload_n 2, 1) := by decide +kernel
theorem dX5_stitch_22 : decode cX5_stitch 22 = .ok (.ireturn, 1) := by decide +kernel
set_option maxRecDepth 20000 in
theorem ggX5_ring_X5_in : GoodIn wsX5_ring wsX5_in := goodIn_r _ [6] (by decide +kernel) (by decide +kernel)
set_option maxRecDepth 20000 in
theorem gX5_ring_X5_in : GoodIn wsX5_ring (va_wsS RX5 99 yX5_in wsX5_in) := goodIn_app (goodIn_of _ (by decide +kernel)) ggX5_ring_X5_in
theorem dX5_ring_0 : decode cX5_ring 0 = .ok (.iload_n 1, 1) := by decide +kernel
theorem dX5_ring_1 : decode cX5_ring 1 = .ok (.ifCond .eq 15, 3) := by decide +kernel
theorem dX5_ring_4 : decode cX5_ring 4 = .ok (.iload_n 1, 1) := by decide +kernel
theorem dX5_ring_5 : decode cX5_ring 5 = .ok (.iconst 3, 1) := by decide +kernel
theorem dX5_ring_6 : decode cX5_ring 6 = .ok (.bipush 12, 2) := by decide +kernel
theorem dX5_ring_8 : decode cX5_ring 8 = .ok (.invokestatic 99, 3) := by decide +kernel
theorem dX5_ring_11 : decode cX5_ring 11 = .ok (.ifCond .ne 5, 3) := by decide +kernel
theorem dX5_ring_14 : decode cX5_ring 14 = .ok (.iconst 0, 1) := by decide +kernel
theorem dX5_ring_15 : decode cX5_ring 15 = .ok (.ireturn, 1) := by decide +kernel
theorem dX5_ring_16 : decode cX5_ring 16 = .ok (.iconst 0, 1) := by decide +kernel
theorem dX5_ring_17 : decode cX5_ring 17 = .ok (.istore_n 2, 1) := by decide +kernel
theorem dX5_ring_18 : decode cX5_ring 18 = .ok (.iload_n 2, 1) := by decide +kernel
theorem dX5_ring_19 : decode cX5_ring 19 = .ok (.bipush 12, 2) := by decide +kernel
theorem dX5_ring_21 : decode cX5_ring 21 = .ok (.if_icmp .ge 44, 3) := by decide +kernel
theorem dX5_ring_24 : decode cX5_ring 24 = .ok (.iload_n 1, 1) := by decide +kernel
theorem dX5_ring_25 : decode cX5_ring 25 = .ok (.ifCond .le 40, 3) := by decide +kernel
theorem dX5_ring_28 : decode cX5_ring 28 = .ok (.iload_n 1, 1) := by decide +kernel
theorem dX5_ring_29 : decode cX5_ring 29 = .ok (.istore_n 3, 1) := by decide +kernel
theorem dX5_ring_30 : decode cX5_ring 30 = .ok (.iload_n 3, 1) := by decide +kernel
theorem dX5_ring_31 : decode cX5_ring 31 = .ok (.bipush 12, 2) := by decide +kernel
theorem dX5_ring_33 : decode cX5_ring 33 = .ok (.if_icmp .ge 26, 3) := by decide +kernel
theorem dX5_ring_36 : decode cX5_ring 36 = .ok (.aload_n 0, 1) := by decide +kernel
theorem dX5_ring_37 : decode cX5_ring 37 = .ok (.getfield 7, 3) := by decide +kernel
theorem dX5_ring_40 : decode cX5_ring 40 = .ok (.bipush 12, 2) := by decide +kernel
theorem dX5_ring_42 : decode cX5_ring 42 = .ok (.iload_n 2, 1) := by decide +kernel
theorem dX5_ring_43 : decode cX5_ring 43 = .ok (.imul, 1) := by decide +kernel
theorem dX5_ring_44 : decode cX5_ring 44 = .ok (.iload_n 3, 1) := by decide +kernel
theorem dX5_ring_45 : decode cX5_ring 45 = .ok (.iadd, 1) := by decide +kernel
theorem dX5_ring_46 : decode cX5_ring 46 = .ok (.iaload, 1) := by decide +kernel
theorem dX5_ring_47 : decode cX5_ring 47 = .ok (.iconst (-1), 1) := by decide +kernel
theorem dX5_ring_48 : decode cX5_ring 48 = .ok (.if_icmp .eq 5, 3) := by decide +kernel
theorem dX5_ring_51 : decode cX5_ring 51 = .ok (.iconst 0, 1) := by decide +kernel
theorem dX5_ring_52 : decode cX5_ring 52 = .ok (.ireturn, 1) := by decide +kernel
theorem dX5_ring_53 : decode cX5_ring 53 = .ok (.iinc 3 1, 3) := by decide +kernel
theorem dX5_ring_56 : decode cX5_ring 56 = .ok (.goto (-26), 3) := by decide +kernel
theorem dX5_ring_59 : decode cX5_ring 59 = .ok (.iinc 2 1, 3) := by decide +kernel
theorem dX5_ring_62 : decode cX5_ring 62 = .ok (.goto (-44), 3) := by decide +kernel
theorem dX5_ring_65 : decode cX5_ring 65 = .ok (.aload_n 0, 1) := by decide +kernel
theorem dX5_ring_66 : decode cX5_ring 66 = .ok (.iload_n 1, 1) := by decide +kernel
theorem dX5_ring_67 : decode cX5_ring 67 = .ok (.putfield 96, 3) := by decide +kernel
theorem dX5_ring_70 : decode cX5_ring 70 = .ok (.iconst 1, 1) := by decide +kernel
theorem dX5_ring_71 : decode cX5_ring 71 = .ok (.ireturn, 1) := by decide +kernel
set_option maxRecDepth 20000 in
theorem ggX5_isColour_X5_in : GoodIn wsX5_isColour wsX5_in := goodIn_r _ [4] (by decide +kernel) (by decide +kernel)
set_option maxRecDepth 20000 in
theorem gX5_isColour_X5_in : GoodIn wsX5_isColour (va_wsS RX5 99 yX5_in wsX5_in) := goodIn_app (goodIn_of _ (by decide +kernel)) ggX5_isColour_X5_in
theorem dX5_isColour_0 : decode cX5_isColour 0 = .ok (.iload_n 0, 1) := by decide +kernel
theorem dX5_isColour_1 : decode cX5_isColour 1 = .ok (.iconst 0, 1) := by decide +kernel
theorem dX5_isColour_2 : decode cX5_isColour 2 = .ok (.iconst 5, 1) := by decide +kernel
theorem dX5_isColour_3 : decode cX5_isColour 3 = .ok (.invokestatic 99, 3) := by decide +kernel
theorem dX5_isColour_6 : decode cX5_isColour 6 = .ok (.ireturn, 1) := by decide +kernel
set_option maxRecDepth 20000 in
theorem ggX5_colour_X5_isColour : GoodIn wsX5_colour wsX5_isColour := goodIn_r _ [7, 8, 9, 6, 10] (by decide +kernel) (by decide +kernel)
set_option maxRecDepth 20000 in
theorem gX5_colour_X5_isColour : GoodIn wsX5_colour (va_wsS RX5 110 yX5_isColour wsX5_isColour) := goodIn_app (goodIn_of _ (by decide +kernel)) ggX5_colour_X5_isColour
set_option maxRecDepth 20000 in
theorem ggX5_colour_X5_in : GoodIn wsX5_colour wsX5_in := goodIn_r _ [10] (by decide +kernel) (by decide +kernel)
set_option maxRecDepth 20000 in
theorem gX5_colour_X5_in : GoodIn wsX5_colour (va_wsS RX5 99 yX5_in wsX5_in) := goodIn_app (goodIn_of _ (by decide +kernel)) ggX5_colour_X5_in
theorem dX5_colour_0 : decode cX5_colour 0 = .ok (.iload_n 1, 1) := by decide +kernel
theorem dX5_colour_1 : decode cX5_colour 1 = .ok (.invokestatic 110, 3) := by decide +kernel
theorem dX5_colour_4 : decode cX5_colour 4 = .ok (.ifCond .eq 34, 3) := by decide +kernel
theorem dX5_colour_7 : decode cX5_colour 7 = .ok (.iload_n 2, 1) := by decide +kernel
theorem dX5_colour_8 : decode cX5_colour 8 = .ok (.iconst 1, 1) := by decide +kernel
theorem dX5_colour_9 : decode cX5_colour 9 = .ok (.bipush 9, 2) := by decide +kernel
theorem dX5_colour_11 : decode cX5_colour 11 = .ok (.invokestatic 99, 3) := by decide +kernel
theorem dX5_colour_14 : decode cX5_colour 14 = .ok (.ifCond .eq 24, 3) := by decide +kernel
theorem dX5_colour_17 : decode cX5_colour 17 = .ok (.iload_n 3, 1) := by decide +kernel
theorem dX5_colour_18 : decode cX5_colour 18 = .ok (.iconst 1, 1) := by decide +kernel
theorem dX5_colour_19 : decode cX5_colour 19 = .ok (.bipush 20, 2) := by decide +kernel
theorem dX5_colour_21 : decode cX5_colour 21 = .ok (.invokestatic 99, 3) := by decide +kernel
theorem dX5_colour_24 : decode cX5_colour 24 = .ok (.ifCond .eq 14, 3) := by decide +kernel
theorem dX5_colour_27 : decode cX5_colour 27 = .ok (.iload 4, 2) := by decide +kernel
theorem dX5_colour_29 : decode cX5_colour 29 = .ok (.iconst 1, 1) := by decide +kernel
theorem dX5_colour_30 : decode cX5_colour 30 = .ok (.bipush 100, 2) := by decide +kernel
theorem dX5_colour_32 : decode cX5_colour 32 = .ok (.invokestatic 99, 3) := by decide +kernel
theorem dX5_colour_35 : decode cX5_colour 35 = .ok (.ifCond .ne 5, 3) := by decide +kernel
theorem dX5_colour_38 : decode cX5_colour 38 = .ok (.iconst 0, 1) := by decide +kernel
theorem dX5_colour_39 : decode cX5_colour 39 = .ok (.ireturn, 1) := by decide +kernel
theorem dX5_colour_40 : decode cX5_colour 40 = .ok (.aload_n 0, 1) := by decide +kernel
theorem dX5_colour_41 : decode cX5_colour 41 = .ok (.getfield 13, 3) := by decide +kernel
theorem dX5_colour_44 : decode cX5_colour 44 = .ok (.iload_n 1, 1) := by decide +kernel
theorem dX5_colour_45 : decode cX5_colour 45 = .ok (.iload_n 2, 1) := by decide +kernel
theorem dX5_colour_46 : decode cX5_colour 46 = .ok (.iastore, 1) := by decide +kernel
theorem dX5_colour_47 : decode cX5_colour 47 = .ok (.aload_n 0, 1) := by decide +kernel
theorem dX5_colour_48 : decode cX5_colour 48 = .ok (.getfield 16, 3) := by decide +kernel
theorem dX5_colour_51 : decode cX5_colour 51 = .ok (.iload_n 1, 1) := by decide +kernel
theorem dX5_colour_52 : decode cX5_colour 52 = .ok (.iload_n 3, 1) := by decide +kernel
theorem dX5_colour_53 : decode cX5_colour 53 = .ok (.iastore, 1) := by decide +kernel
theorem dX5_colour_54 : decode cX5_colour 54 = .ok (.aload_n 0, 1) := by decide +kernel
theorem dX5_colour_55 : decode cX5_colour 55 = .ok (.getfield 19, 3) := by decide +kernel
theorem dX5_colour_58 : decode cX5_colour 58 = .ok (.iload_n 1, 1) := by decide +kernel
theorem dX5_colour_59 : decode cX5_colour 59 = .ok (.iload 4, 2) := by decide +kernel
theorem dX5_colour_61 : decode cX5_colour 61 = .ok (.iastore, 1) := by decide +kernel
theorem dX5_colour_62 : decode cX5_colour 62 = .ok (.iconst 1, 1) := by decide +kernel
theorem dX5_colour_63 : decode cX5_colour 63 = .ok (.ireturn, 1) := by decide +kernel
set_option maxRecDepth 20000 in
theorem ggX5_thread_X5_in : GoodIn wsX5_thread wsX5_in := goodIn_r _ [6] (by decide +kernel) (by decide +kernel)
set_option maxRecDepth 20000 in
theorem gX5_thread_X5_in : GoodIn wsX5_thread (va_wsS RX5 99 yX5_in wsX5_in) := goodIn_app (goodIn_of _ (by decide +kernel)) ggX5_thread_X5_in
theorem dX5_thread_0 : decode cX5_thread 0 = .ok (.iload_n 1, 1) := by decide +kernel
theorem dX5_thread_1 : decode cX5_thread 1 = .ok (.iconst 1, 1) := by decide +kernel
theorem dX5_thread_2 : decode cX5_thread 2 = .ok (.sipush 9999, 3) := by decide +kernel
theorem dX5_thread_5 : decode cX5_thread 5 = .ok (.invokestatic 99, 3) := by decide +kernel
theorem dX5_thread_8 : decode cX5_thread 8 = .ok (.ifCond .eq 13, 3) := by decide +kernel
theorem dX5_thread_11 : decode cX5_thread 11 = .ok (.iload_n 2, 1) := by decide +kernel
theorem dX5_thread_12 : decode cX5_thread 12 = .ok (.iconst 0, 1) := by decide +kernel
theorem dX5_thread_13 : decode cX5_thread 13 = .ok (.bipush 6, 2) := by decide +kernel
theorem dX5_thread_15 : decode cX5_thread 15 = .ok (.invokestatic 99, 3) := by decide +kernel
theorem dX5_thread_18 : decode cX5_thread 18 = .ok (.ifCond .ne 5, 3) := by decide +kernel
theorem dX5_thread_21 : decode cX5_thread 21 = .ok (.iconst 0, 1) := by decide +kernel
theorem dX5_thread_22 : decode cX5_thread 22 = .ok (.ireturn, 1) := by decide +kernel
theorem dX5_thread_23 : decode cX5_thread 23 = .ok (.aload_n 0, 1) := by decide +kernel
theorem dX5_thread_24 : decode cX5_thread 24 = .ok (.iload_n 1, 1) := by decide +kernel
theorem dX5_thread_25 : decode cX5_thread 25 = .ok (.putfield 22, 3) := by decide +kernel
theorem dX5_thread_28 : decode cX5_thread 28 = .ok (.aload_n 0, 1) := by decide +kernel
theorem dX5_thread_29 : decode cX5_thread 29 = .ok (.iload_n 2, 1) := by decide +kernel
theorem dX5_thread_30 : decode cX5_thread 30 = .ok (.putfield 26, 3) := by decide +kernel
theorem dX5_thread_33 : decode cX5_thread 33 = .ok (.iconst 1, 1) := by decide +kernel
theorem dX5_thread_34 : decode cX5_thread 34 = .ok (.ireturn, 1) := by decide +kernel
set_option maxRecDepth 20000 in
theorem ggX5_cell_X5_in : GoodIn wsX5_cell wsX5_in := goodIn_r _ [5] (by decide +kernel) (by decide +kernel)
set_option maxRecDepth 20000 in
theorem gX5_cell_X5_in : GoodIn wsX5_cell (va_wsS RX5 99 yX5_in wsX5_in) := goodIn_app (goodIn_of _ (by decide +kernel)) ggX5_cell_X5_in
theorem dX5_cell_0 : decode cX5_cell 0 = .ok (.iload_n 1, 1) := by decide +kernel
theorem dX5_cell_1 : decode cX5_cell 1 = .ok (.iconst 0, 1) := by decide +kernel
theorem dX5_cell_2 : decode cX5_cell 2 = .ok (.bipush 11, 2) := by decide +kernel
theorem dX5_cell_4 : decode cX5_cell 4 = .ok (.invokestatic 99, 3) := by decide +kernel
theorem dX5_cell_7 : decode cX5_cell 7 = .ok (.ifCond .eq 27, 3) := by decide +kernel
theorem dX5_cell_10 : decode cX5_cell 10 = .ok (.iload_n 2, 1) := by decide +kernel
theorem dX5_cell_11 : decode cX5_cell 11 = .ok (.iconst 0, 1) := by decide +kernel
theorem dX5_cell_12 : decode cX5_cell 12 = .ok (.bipush 11, 2) := by decide +kernel
theorem dX5_cell_14 : decode cX5_cell 14 = .ok (.invokestatic 99, 3) := by decide +kernel
theorem dX5_cell_17 : decode cX5_cell 17 = .ok (.ifCond .eq 17, 3) := by decide +kernel
theorem dX5_cell_20 : decode cX5_cell 20 = .ok (.aload_n 0, 1) := by decide +kernel
theorem dX5_cell_21 : decode cX5_cell 21 = .ok (.getfield 7, 3) := by decide +kernel
theorem dX5_cell_24 : decode cX5_cell 24 = .ok (.bipush 12, 2) := by decide +kernel
theorem dX5_cell_26 : decode cX5_cell 26 = .ok (.iload_n 1, 1) := by decide +kernel
theorem dX5_cell_27 : decode cX5_cell 27 = .ok (.imul, 1) := by decide +kernel
theorem dX5_cell_28 : decode cX5_cell 28 = .ok (.iload_n 2, 1) := by decide +kernel
theorem dX5_cell_29 : decode cX5_cell 29 = .ok (.iadd, 1) := by decide +kernel
theorem dX5_cell_30 : decode cX5_cell 30 = .ok (.iaload, 1) := by decide +kernel
theorem dX5_cell_31 : decode cX5_cell 31 = .ok (.goto 4, 3) := by decide +kernel
theorem dX5_cell_34 : decode cX5_cell 34 = .ok (.iconst (-1), 1) := by decide +kernel
theorem dX5_cell_35 : decode cX5_cell 35 = .ok (.ireturn, 1) := by decide +kernel
theorem dX5_columnOf_0 : decode cX5_columnOf 0 = .ok (.aload_n 0, 1) := by decide +kernel
theorem dX5_columnOf_1 : decode cX5_columnOf 1 = .ok (.getfield 96, 3) := by decide +kernel
theorem dX5_columnOf_4 : decode cX5_columnOf 4 = .ok (.ifCond .ne 5, 3) := by decide +kernel
theorem dX5_columnOf_7 : decode cX5_columnOf 7 = .ok (.iload_n 1, 1) := by decide +kernel
theorem dX5_columnOf_8 : decode cX5_columnOf 8 = .ok (.ireturn, 1) := by decide +kernel
theorem dX5_columnOf_9 : decode cX5_columnOf 9 = .ok (.iload_n 1, 1) := by decide +kernel
theorem dX5_columnOf_10 : decode cX5_columnOf 10 = .ok (.aload_n 0, 1) := by decide +kernel
theorem dX5_columnOf_11 : decode cX5_columnOf 11 = .ok (.getfield 96, 3) := by decide +kernel
theorem dX5_columnOf_14 : decode cX5_columnOf 14 = .ok (.irem, 1) := by decide +kernel
theorem dX5_columnOf_15 : decode cX5_columnOf 15 = .ok (.aload_n 0, 1) := by decide +kernel
theorem dX5_columnOf_16 : decode cX5_columnOf 16 = .ok (.getfield 96, 3) := by decide +kernel
theorem dX5_columnOf_19 : decode cX5_columnOf 19 = .ok (.iadd, 1) := by decide +kernel
theorem dX5_columnOf_20 : decode cX5_columnOf 20 = .ok (.aload_n 0, 1) := by decide +kernel
theorem dX5_columnOf_21 : decode cX5_columnOf 21 = .ok (.getfield 96, 3) := by decide +kernel
theorem dX5_columnOf_24 : decode cX5_columnOf 24 = .ok (.irem, 1) := by decide +kernel
theorem dX5_columnOf_25 : decode cX5_columnOf 25 = .ok (.ireturn, 1) := by decide +kernel
set_option maxRecDepth 20000 in
theorem ggX5_pickedAt_X5_columnOf : GoodIn wsX5_pickedAt wsX5_columnOf := goodIn_r _ [6, 7, 11, 12, 13, 14, 15, 16, 17, 18, 19, 20, 21, 22, 23, 24, 25, 26, 27, 28, 29, 30, 31, 32, 33, 34, 35, 36, 37, 38, 39, 40, 41, 42, 43, 44, 45, 46, 47, 48, 49, 50, 51, 52, 53, 54, 55, 56, 57, 58] (by decide +kernel) (by decide +kernel)
set_option maxRecDepth 20000 in
theorem gX5_pickedAt_X5_columnOf : GoodIn wsX5_pickedAt (wsV RX5 114 RX5 yX5_columnOf wsX5_columnOf) := goodIn_app (goodIn_of _ (by decide +kernel)) ggX5_pickedAt_X5_columnOf
set_option maxRecDepth 20000 in
theorem ggX5_pickedAt_X5_in : GoodIn wsX5_pickedAt wsX5_in := goodIn_r _ [10] (by decide +kernel) (by decide +kernel)
set_option maxRecDepth 20000 in
theorem gX5_pickedAt_X5_in : GoodIn wsX5_pickedAt (va_wsS RX5 99 yX5_in wsX5_in) := goodIn_app (goodIn_of _ (by decide +kernel)) ggX5_pickedAt_X5_in
theorem dX5_pickedAt_0 : decode cX5_pickedAt 0 = .ok (.aload_n 0, 1) := by decide +kernel
theorem dX5_pickedAt_1 : decode cX5_pickedAt 1 = .ok (.iload_n 2, 1) := by decide +kernel
theorem dX5_pickedAt_2 : decode cX5_pickedAt 2 = .ok (.invokevirtual 114, 3) := by decide +kernel
theorem dX5_pickedAt_5 : decode cX5_pickedAt 5 = .ok (.istore_n 3, 1) := by decide +kernel
theorem dX5_pickedAt_6 : decode cX5_pickedAt 6 = .ok (.iload_n 1, 1) := by decide +kernel
theorem dX5_pickedAt_7 : decode cX5_pickedAt 7 = .ok (.iconst 0, 1) := by decide +kernel
theorem dX5_pickedAt_8 : decode cX5_pickedAt 8 = .ok (.bipush 11, 2) := by decide +kernel
theorem dX5_pickedAt_10 : decode cX5_pickedAt 10 = .ok (.invokestatic 99, 3) := by decide +kernel
theorem dX5_pickedAt_13 : decode cX5_pickedAt 13 = .ok (.ifCond .eq 13, 3) := by decide +kernel
theorem dX5_pickedAt_16 : decode cX5_pickedAt 16 = .ok (.iload_n 3, 1) := by decide +kernel
theorem dX5_pickedAt_17 : decode cX5_pickedAt 17 = .ok (.iconst 0, 1) := by decide +kernel
theorem dX5_pickedAt_18 : decode cX5_pickedAt 18 = .ok (.bipush 11, 2) := by decide +kernel
theorem dX5_pickedAt_20 : decode cX5_pickedAt 20 = .ok (.invokestatic 99, 3) := by decide +kernel
theorem dX5_pickedAt_23 : decode cX5_pickedAt 23 = .ok (.ifCond .ne 5, 3) := by decide +kernel
theorem dX5_pickedAt_26 : decode cX5_pickedAt 26 = .ok (.iconst (-1), 1) := by decide +kernel
theorem dX5_pickedAt_27 : decode cX5_pickedAt 27 = .ok (.ireturn, 1) := by decide +kernel
theorem dX5_pickedAt_28 : decode cX5_pickedAt 28 = .ok (.aload_n 0, 1) := by decide +kernel
theorem dX5_pickedAt_29 : decode cX5_pickedAt 29 = .ok (.getfield 47, 3) := by decide +kernel
theorem dX5_pickedAt_32 : decode cX5_pickedAt 32 = .ok (.bipush 12, 2) := by decide +kernel
theorem dX5_pickedAt_34 : decode cX5_pickedAt 34 = .ok (.iload_n 1, 1) := by decide +kernel
theorem dX5_pickedAt_35 : decode cX5_pickedAt 35 = .ok (.imul, 1) := by decide +kernel
theorem dX5_pickedAt_36 : decode cX5_pickedAt 36 = .ok (.iload_n 3, 1) := by decide +kernel
theorem dX5_pickedAt_37 : decode cX5_pickedAt 37 = .ok (.iadd, 1) := by decide +kernel
theorem dX5_pickedAt_38 : decode cX5_pickedAt 38 = .ok (.iaload, 1) := by decide +kernel
theorem dX5_pickedAt_39 : decode cX5_pickedAt 39 = .ok (.ireturn, 1) := by decide +kernel
set_option maxRecDepth 20000 in
theorem ggX5_catches_X5_pickedAt : GoodIn wsX5_catches wsX5_pickedAt := goodIn_r _ [10, 11, 12, 13, 14, 9, 15, 16, 17, 18, 19, 20, 21, 22, 23, 24, 25, 26, 27, 28, 29, 30, 31, 32, 33, 34, 35, 36, 37, 38, 39, 40, 41, 42, 43, 44, 45, 46, 47, 48, 49, 50, 51, 52, 53, 54, 55, 56, 57, 58, 59, 60, 61, 62, 63, 64, 65, 66, 67] (by decide +kernel) (by decide +kernel)
set_option maxRecDepth 20000 in
theorem gX5_catches_X5_pickedAt : GoodIn wsX5_catches (wsV RX5 118 RX5 yX5_pickedAt wsX5_pickedAt) := goodIn_app (goodIn_of _ (by decide +kernel)) ggX5_catches_X5_pickedAt
theorem dX5_catches_0 : decode cX5_catches 0 = .ok (.iconst (-1), 1) := by decide +kernel
theorem dX5_catches_1 : decode cX5_catches 1 = .ok (.istore 4, 2) := by decide +kernel
theorem dX5_catches_3 : decode cX5_catches 3 = .ok (.iconst (-1), 1) := by decide +kernel
theorem dX5_catches_4 : decode cX5_catches 4 = .ok (.istore 5, 2) := by decide +kernel
theorem dX5_catches_6 : decode cX5_catches 6 = .ok (.aload_n 0, 1) := by decide +kernel
theorem dX5_catches_7 : decode cX5_catches 7 = .ok (.getfield 107, 3) := by decide +kernel
theorem dX5_catches_10 : decode cX5_catches 10 = .ok (.iconst 1, 1) := by decide +kernel
theorem dX5_catches_11 : decode cX5_catches 11 = .ok (.if_icmp .ne 83, 3) := by decide +kernel
theorem dX5_catches_14 : decode cX5_catches 14 = .ok (.aload_n 0, 1) := by decide +kernel
theorem dX5_catches_15 : decode cX5_catches 15 = .ok (.iload_n 3, 1) := by decide +kernel
theorem dX5_catches_16 : decode cX5_catches 16 = .ok (.iload_n 2, 1) := by decide +kernel
theorem dX5_catches_17 : decode cX5_catches 17 = .ok (.iconst 1, 1) := by decide +kernel
theorem dX5_catches_18 : decode cX5_catches 18 = .ok (.isub, 1) := by decide +kernel
theorem dX5_catches_19 : decode cX5_catches 19 = .ok (.iload_n 1, 1) := by decide +kernel
theorem dX5_catches_20 : decode cX5_catches 20 = .ok (.iconst 2, 1) := by decide +kernel
theorem dX5_catches_21 : decode cX5_catches 21 = .ok (.irem, 1) := by decide +kernel
theorem dX5_catches_22 : decode cX5_catches 22 = .ok (.iadd, 1) := by decide +kernel
theorem dX5_catches_23 : decode cX5_catches 23 = .ok (.invokevirtual 118, 3) := by decide +kernel
theorem dX5_catches_26 : decode cX5_catches 26 = .ok (.istore 4, 2) := by decide +kernel
theorem dX5_catches_28 : decode cX5_catches 28 = .ok (.aload_n 0, 1) := by decide +kernel
theorem dX5_catches_29 : decode cX5_catches 29 = .ok (.iload_n 3, 1) := by decide +kernel
theorem dX5_catches_30 : decode cX5_catches 30 = .ok (.iload_n 2, 1) := by decide +kernel
theorem dX5_catches_31 : decode cX5_catches 31 = .ok (.iload_n 1, 1) := by decide +kernel
theorem dX5_catches_32 : decode cX5_catches 32 = .ok (.iconst 2, 1) := by decide +kernel
theorem dX5_catches_33 : decode cX5_catches 33 = .ok (.irem, 1) := by decide +kernel
theorem dX5_catches_34 : decode cX5_catches 34 = .ok (.iadd, 1) := by decide +kernel
theorem dX5_catches_35 : decode cX5_catches 35 = .ok (.invokevirtual 118, 3) := by decide +kernel
theorem dX5_catches_38 : decode cX5_catches 38 = .ok (.istore 5, 2) := by decide +kernel
theorem dX5_catches_40 : decode cX5_catches 40 = .ok (.iload 4, 2) := by decide +kernel
theorem dX5_catches_42 : decode cX5_catches 42 = .ok (.ifCond .lt 37, 3) := by decide +kernel
theorem dX5_catches_45 : decode cX5_catches 45 = .ok (.iload 5, 2) := by decide +kernel
theorem dX5_catches_47 : decode cX5_catches 47 = .ok (.ifCond .lt 32, 3) := by decide +kernel
theorem dX5_catches_50 : decode cX5_catches 50 = .ok (.aload_n 0, 1) := by decide +kernel
theorem dX5_catches_51 : decode cX5_catches 51 = .ok (.getfield 29, 3) := by decide +kernel
theorem dX5_catches_54 : decode cX5_catches 54 = .ok (.iload 4, 2) := by decide +kernel
theorem dX5_catches_56 : decode cX5_catches 56 = .ok (.iaload, 1) := by decide +kernel
theorem dX5_catches_57 : decode cX5_catches 57 = .ok (.aload_n 0, 1) := by decide +kernel
theorem dX5_catches_58 : decode cX5_catches 58 = .ok (.getfield 29, 3) := by decide +kernel
theorem dX5_catches_61 : decode cX5_catches 61 = .ok (.iload 5, 2) := by decide +kernel
theorem dX5_catches_63 : decode cX5_catches 63 = .ok (.iaload, 1) := by decide +kernel
theorem dX5_catches_64 : decode cX5_catches 64 = .ok (.if_icmp .le 15, 3) := by decide +kernel
theorem dX5_catches_67 : decode cX5_catches 67 = .ok (.iload 4, 2) := by decide +kernel
theorem dX5_catches_69 : decode cX5_catches 69 = .ok (.istore 6, 2) := by decide +kernel
theorem dX5_catches_71 : decode cX5_catches 71 = .ok (.iload 5, 2) := by decide +kernel
theorem dX5_catches_73 : decode cX5_catches 73 = .ok (.istore 4, 2) := by decide +kernel
theorem dX5_catches_75 : decode cX5_catches 75 = .ok (.iload 6, 2) := by decide +kernel
theorem dX5_catches_77 : decode cX5_catches 77 = .ok (.istore 5, 2) := by decide +kernel
theorem dX5_catches_79 : decode cX5_catches 79 = .ok (.iload 4, 2) := by decide +kernel
theorem dX5_catches_81 : decode cX5_catches 81 = .ok (.ifCond .ge 21, 3) := by decide +kernel
theorem dX5_catches_84 : decode cX5_catches 84 = .ok (.iload 5, 2) := by decide +kernel
theorem dX5_catches_86 : decode cX5_catches 86 = .ok (.istore 4, 2) := by decide +kernel
theorem dX5_catches_88 : decode cX5_catches 88 = .ok (.iconst (-1), 1) := by decide +kernel
theorem dX5_catches_89 : decode cX5_catches 89 = .ok (.istore 5, 2) := by decide +kernel
theorem dX5_catches_91 : decode cX5_catches 91 = .ok (.goto 11, 3) := by decide +kernel
theorem dX5_catches_94 : decode cX5_catches 94 = .ok (.aload_n 0, 1) := by decide +kernel
theorem dX5_catches_95 : decode cX5_catches 95 = .ok (.iload_n 3, 1) := by decide +kernel
theorem dX5_catches_96 : decode cX5_catches 96 = .ok (.iload_n 2, 1) := by decide +kernel
theorem dX5_catches_97 : decode cX5_catches 97 = .ok (.invokevirtual 118, 3) := by decide +kernel
theorem dX5_catches_100 : decode cX5_catches 100 = .ok (.istore 4, 2) := by decide +kernel
theorem dX5_catches_102 : decode cX5_catches 102 = .ok (.aload_n 0, 1) := by decide +kernel
theorem dX5_catches_103 : decode cX5_catches 103 = .ok (.getfield 38, 3) := by decide +kernel
theorem dX5_catches_106 : decode cX5_catches 106 = .ok (.aload_n 0, 1) := by decide +kernel
theorem dX5_catches_107 : decode cX5_catches 107 = .ok (.getfield 122, 3) := by decide +kernel
theorem dX5_catches_110 : decode cX5_catches 110 = .ok (.iload 4, 2) := by decide +kernel
theorem dX5_catches_112 : decode cX5_catches 112 = .ok (.iastore, 1) := by decide +kernel
theorem dX5_catches_113 : decode cX5_catches 113 = .ok (.aload_n 0, 1) := by decide +kernel
theorem dX5_catches_114 : decode cX5_catches 114 = .ok (.getfield 41, 3) := by decide +kernel
theorem dX5_catches_117 : decode cX5_catches 117 = .ok (.aload_n 0, 1) := by decide +kernel
theorem dX5_catches_118 : decode cX5_catches 118 = .ok (.getfield 122, 3) := by decide +kernel
theorem dX5_catches_121 : decode cX5_catches 121 = .ok (.iload 5, 2) := by decide +kernel
theorem dX5_catches_123 : decode cX5_catches 123 = .ok (.iastore, 1) := by decide +kernel
theorem dX5_catches_124 : decode cX5_catches 124 = .ok (.return_, 1) := by decide +kernel
theorem dX5_passesBy_0 : decode cX5_passesBy 0 = .ok (.aload_n 0, 1) := by decide +kernel
theorem dX5_passesBy_1 : decode cX5_passesBy 1 = .ok (.getfield 56, 3) := by decide +kernel
theorem dX5_passesBy_4 : decode cX5_passesBy 4 = .ok (.aload_n 0, 1) := by decide +kernel
theorem dX5_passesBy_5 : decode cX5_passesBy 5 = .ok (.getfield 125, 3) := by decide +kernel
theorem dX5_passesBy_8 : decode cX5_passesBy 8 = .ok (.iload_n 1, 1) := by decide +kernel
theorem dX5_passesBy_9 : decode cX5_passesBy 9 = .ok (.iastore, 1) := by decide +kernel
theorem dX5_passesBy_10 : decode cX5_passesBy 10 = .ok (.aload_n 0, 1) := by decide +kernel
theorem dX5_passesBy_11 : decode cX5_passesBy 11 = .ok (.dup, 1) := by decide +kernel
theorem dX5_passesBy_12 : decode cX5_passesBy 12 = .ok (.getfield 125, 3) := by decide +kernel
theorem dX5_passesBy_15 : decode cX5_passesBy 15 = .ok (.iconst 1, 1) := by decide +kernel
theorem dX5_passesBy_16 : decode cX5_passesBy 16 = .ok (.iadd, 1) := by decide +kernel
theorem dX5_passesBy_17 : decode cX5_passesBy 17 = .ok (.putfield 125, 3) := by decide +kernel
theorem dX5_passesBy_20 : decode cX5_passesBy 20 = .ok (.return_, 1) := by decide +kernel
theorem dX5_colourAt_0 : decode cX5_colourAt 0 = .ok (.iload_n 1, 1) := by decide +kernel
theorem dX5_colourAt_1 : decode cX5_colourAt 1 = .ok (.aload_n 0, 1) := by decide +kernel
theorem dX5_colourAt_2 : decode cX5_colourAt 2 = .ok (.getfield 122, 3) := by decide +kernel
theorem dX5_colourAt_5 : decode cX5_colourAt 5 = .ok (.if_icmp .ne 12, 3) := by decide +kernel
theorem dX5_colourAt_8 : decode cX5_colourAt 8 = .ok (.aload_n 0, 1) := by decide +kernel
theorem dX5_colourAt_9 : decode cX5_colourAt 9 = .ok (.getfield 7, 3) := by decide +kernel
theorem dX5_colourAt_12 : decode cX5_colourAt 12 = .ok (.iload_n 2, 1) := by decide +kernel
theorem dX5_colourAt_13 : decode cX5_colourAt 13 = .ok (.iaload, 1) := by decide +kernel
theorem dX5_colourAt_14 : decode cX5_colourAt 14 = .ok (.goto 9, 3) := by decide +kernel
theorem dX5_colourAt_17 : decode cX5_colourAt 17 = .ok (.aload_n 0, 1) := by decide +kernel
theorem dX5_colourAt_18 : decode cX5_colourAt 18 = .ok (.getfield 44, 3) := by decide +kernel
theorem dX5_colourAt_21 : decode cX5_colourAt 21 = .ok (.iload_n 1, 1) := by decide +kernel
theorem dX5_colourAt_22 : decode cX5_colourAt 22 = .ok (.iaload, 1) := by decide +kernel
theorem dX5_colourAt_23 : decode cX5_colourAt 23 = .ok (.ireturn, 1) := by decide +kernel
set_option maxRecDepth 20000 in
theorem ggX5_needs_X5_colourAt : GoodIn wsX5_needs wsX5_colourAt := goodIn_r _ [8, 9, 10, 11, 12, 13, 14, 15, 16, 17, 18, 19, 20, 21, 22, 23, 24, 25, 26, 27, 28, 29, 30, 31, 32, 33, 34, 35, 36, 37, 38, 39, 40, 41, 42, 43, 44, 45, 46, 47, 48, 49, 50, 51, 52, 53, 54, 55, 56, 57, 58, 59] (by decide +kernel) (by decide +kernel)
set_option maxRecDepth 20000 in
theorem gX5_needs_X5_colourAt : GoodIn wsX5_needs (wsV RX5 128 RX5 yX5_colourAt wsX5_colourAt) := goodIn_app (goodIn_of _ (by decide +kernel)) ggX5_needs_X5_colourAt
theorem dX5_needs_0 : decode cX5_needs 0 = .ok (.iconst 0, 1) := by decide +kernel
theorem dX5_needs_1 : decode cX5_needs 1 = .ok (.istore_n 2, 1) := by decide +kernel
theorem dX5_needs_2 : decode cX5_needs 2 = .ok (.iconst 0, 1) := by decide +kernel
theorem dX5_needs_3 : decode cX5_needs 3 = .ok (.istore_n 3, 1) := by decide +kernel
theorem dX5_needs_4 : decode cX5_needs 4 = .ok (.iload_n 3, 1) := by decide +kernel
theorem dX5_needs_5 : decode cX5_needs 5 = .ok (.aload_n 0, 1) := by decide +kernel
theorem dX5_needs_6 : decode cX5_needs 6 = .ok (.getfield 125, 3) := by decide +kernel
theorem dX5_needs_9 : decode cX5_needs 9 = .ok (.if_icmp .ge 28, 3) := by decide +kernel
theorem dX5_needs_12 : decode cX5_needs 12 = .ok (.iload_n 2, 1) := by decide +kernel
theorem dX5_needs_13 : decode cX5_needs 13 = .ok (.aload_n 0, 1) := by decide +kernel
theorem dX5_needs_14 : decode cX5_needs 14 = .ok (.getfield 16, 3) := by decide +kernel
theorem dX5_needs_17 : decode cX5_needs 17 = .ok (.aload_n 0, 1) := by decide +kernel
