set_option maxRecDepth 20000 in
theorem gX6_next_X6_here : GoodIn wsX6_next (wsV RX6 76 RX6 yX6_here wsX6_here) := goodIn_app (goodIn_of _ (by decide +kernel)) ggX6_next_X6_here
set_option maxRecDepth 20000 in
theorem ggX6_next_X6_in : GoodIn wsX6_next wsX6_in := goodIn_r _ [17] (by decide +kernel) (by decide +kernel)
set_option maxRecDepth 20000 in
theorem gX6_next_X6_in : GoodIn wsX6_next (va_wsS RX6 63 yX6_in wsX6_in) := goodIn_app (goodIn_of _ (by decide +kernel)) ggX6_next_X6_in
theorem dX6_next_0 : decode cX6_next 0 = .ok (.aload_n 0, 1) := by decide +kernel
theorem dX6_next_1 : decode cX6_next 1 = .ok (.invokevirtual 76, 3) := by decide +kernel
theorem dX6_next_4 : decode cX6_next 4 = .ok (.bipush 32, 2) := by decide +kernel
theorem dX6_next_6 : decode cX6_next 6 = .ok (.if_icmp .ne 16, 3) := by decide +kernel
theorem dX6_next_9 : decode cX6_next 9 = .ok (.aload_n 0, 1) := by decide +kernel
theorem dX6_next_10 : decode cX6_next 10 = .ok (.dup, 1) := by decide +kernel
theorem dX6_next_11 : decode cX6_next 11 = .ok (.getfield 73, 3) := by decide +kernel
theorem dX6_next_14 : decode cX6_next 14 = .ok (.iconst 1, 1) := by decide +kernel
theorem dX6_next_15 : decode cX6_next 15 = .ok (.iadd, 1) := by decide +kernel
theorem dX6_next_16 : decode cX6_next 16 = .ok (.putfield 73, 3) := by decide +kernel
theorem dX6_next_19 : decode cX6_next 19 = .ok (.goto (-19), 3) := by decide +kernel
theorem dX6_next_22 : decode cX6_next 22 = .ok (.aload_n 0, 1) := by decide +kernel
theorem dX6_next_23 : decode cX6_next 23 = .ok (.aload_n 0, 1) := by decide +kernel
theorem dX6_next_24 : decode cX6_next 24 = .ok (.getfield 73, 3) := by decide +kernel
theorem dX6_next_27 : decode cX6_next 27 = .ok (.putfield 80, 3) := by decide +kernel
theorem dX6_next_30 : decode cX6_next 30 = .ok (.aload_n 0, 1) := by decide +kernel
theorem dX6_next_31 : decode cX6_next 31 = .ok (.iconst 0, 1) := by decide +kernel
theorem dX6_next_32 : decode cX6_next 32 = .ok (.putfield 83, 3) := by decide +kernel
theorem dX6_next_35 : decode cX6_next 35 = .ok (.aload_n 0, 1) := by decide +kernel
theorem dX6_next_36 : decode cX6_next 36 = .ok (.invokevirtual 76, 3) := by decide +kernel
theorem dX6_next_39 : decode cX6_next 39 = .ok (.istore_n 1, 1) := by decide +kernel
theorem dX6_next_40 : decode cX6_next 40 = .ok (.iload_n 1, 1) := by decide +kernel
theorem dX6_next_41 : decode cX6_next 41 = .ok (.ifCond .ge 11, 3) := by decide +kernel
theorem dX6_next_44 : decode cX6_next 44 = .ok (.aload_n 0, 1) := by decide +kernel
theorem dX6_next_45 : decode cX6_next 45 = .ok (.iconst 4, 1) := by decide +kernel
theorem dX6_next_46 : decode cX6_next 46 = .ok (.putfield 86, 3) := by decide +kernel
theorem dX6_next_49 : decode cX6_next 49 = .ok (.goto 317, 3) := by decide +kernel
theorem dX6_next_52 : decode cX6_next 52 = .ok (.iload_n 1, 1) := by decide +kernel
theorem dX6_next_53 : decode cX6_next 53 = .ok (.bipush 97, 2) := by decide +kernel
theorem dX6_next_55 : decode cX6_next 55 = .ok (.bipush 122, 2) := by decide +kernel
theorem dX6_next_57 : decode cX6_next 57 = .ok (.invokestatic 63, 3) := by decide +kernel
theorem dX6_next_60 : decode cX6_next 60 = .ok (.ifCond .eq 165, 3) := by decide +kernel
theorem dX6_next_63 : decode cX6_next 63 = .ok (.iconst 0, 1) := by decide +kernel
theorem dX6_next_64 : decode cX6_next 64 = .ok (.istore_n 2, 1) := by decide +kernel
theorem dX6_next_65 : decode cX6_next 65 = .ok (.iconst 0, 1) := by decide +kernel
theorem dX6_next_66 : decode cX6_next 66 = .ok (.istore_n 3, 1) := by decide +kernel
theorem dX6_next_67 : decode cX6_next 67 = .ok (.aload_n 0, 1) := by decide +kernel
theorem dX6_next_68 : decode cX6_next 68 = .ok (.invokevirtual 76, 3) := by decide +kernel
theorem dX6_next_71 : decode cX6_next 71 = .ok (.bipush 97, 2) := by decide +kernel
theorem dX6_next_73 : decode cX6_next 73 = .ok (.bipush 122, 2) := by decide +kernel
theorem dX6_next_75 : decode cX6_next 75 = .ok (.invokestatic 63, 3) := by decide +kernel
theorem dX6_next_78 : decode cX6_next 78 = .ok (.ifCond .eq 82, 3) := by decide +kernel
theorem dX6_next_81 : decode cX6_next 81 = .ok (.aload_n 0, 1) := by decide +kernel
theorem dX6_next_82 : decode cX6_next 82 = .ok (.getfield 73, 3) := by decide +kernel
theorem dX6_next_85 : decode cX6_next 85 = .ok (.aload_n 0, 1) := by decide +kernel
theorem dX6_next_86 : decode cX6_next 86 = .ok (.getfield 80, 3) := by decide +kernel
theorem dX6_next_89 : decode cX6_next 89 = .ok (.isub, 1) := by decide +kernel
theorem dX6_next_90 : decode cX6_next 90 = .ok (.istore 4, 2) := by decide +kernel
theorem dX6_next_92 : decode cX6_next 92 = .ok (.iload 4, 2) := by decide +kernel
theorem dX6_next_94 : decode cX6_next 94 = .ok (.bipush 6, 2) := by decide +kernel
theorem dX6_next_96 : decode cX6_next 96 = .ok (.if_icmp .ge 18, 3) := by decide +kernel
theorem dX6_next_99 : decode cX6_next 99 = .ok (.bipush 27, 2) := by decide +kernel
theorem dX6_next_101 : decode cX6_next 101 = .ok (.iload_n 2, 1) := by decide +kernel
theorem dX6_next_102 : decode cX6_next 102 = .ok (.imul, 1) := by decide +kernel
theorem dX6_next_103 : decode cX6_next 103 = .ok (.aload_n 0, 1) := by decide +kernel
theorem dX6_next_104 : decode cX6_next 104 = .ok (.invokevirtual 76, 3) := by decide +kernel
theorem dX6_next_107 : decode cX6_next 107 = .ok (.iadd, 1) := by decide +kernel
theorem dX6_next_108 : decode cX6_next 108 = .ok (.bipush 96, 2) := by decide +kernel
theorem dX6_next_110 : decode cX6_next 110 = .ok (.isub, 1) := by decide +kernel
theorem dX6_next_111 : decode cX6_next 111 = .ok (.goto 4, 3) := by decide +kernel
theorem dX6_next_114 : decode cX6_next 114 = .ok (.iload_n 2, 1) := by decide +kernel
theorem dX6_next_115 : decode cX6_next 115 = .ok (.istore_n 2, 1) := by decide +kernel
theorem dX6_next_116 : decode cX6_next 116 = .ok (.iload 4, 2) := by decide +kernel
theorem dX6_next_118 : decode cX6_next 118 = .ok (.bipush 6, 2) := by decide +kernel
theorem dX6_next_120 : decode cX6_next 120 = .ok (.if_icmp .ne 13, 3) := by decide +kernel
theorem dX6_next_123 : decode cX6_next 123 = .ok (.aload_n 0, 1) := by decide +kernel
theorem dX6_next_124 : decode cX6_next 124 = .ok (.invokevirtual 76, 3) := by decide +kernel
theorem dX6_next_127 : decode cX6_next 127 = .ok (.bipush 96, 2) := by decide +kernel
theorem dX6_next_129 : decode cX6_next 129 = .ok (.isub, 1) := by decide +kernel
theorem dX6_next_130 : decode cX6_next 130 = .ok (.goto 16, 3) := by decide +kernel
theorem dX6_next_133 : decode cX6_next 133 = .ok (.iload 4, 2) := by decide +kernel
theorem dX6_next_135 : decode cX6_next 135 = .ok (.bipush 6, 2) := by decide +kernel
theorem dX6_next_137 : decode cX6_next 137 = .ok (.if_icmp .le 8, 3) := by decide +kernel
theorem dX6_next_140 : decode cX6_next 140 = .ok (.bipush 99, 2) := by decide +kernel
theorem dX6_next_142 : decode cX6_next 142 = .ok (.goto 4, 3) := by decide +kernel
theorem dX6_next_145 : decode cX6_next 145 = .ok (.iload_n 3, 1) := by decide +kernel
theorem dX6_next_146 : decode cX6_next 146 = .ok (.istore_n 3, 1) := by decide +kernel
theorem dX6_next_147 : decode cX6_next 147 = .ok (.aload_n 0, 1) := by decide +kernel
theorem dX6_next_148 : decode cX6_next 148 = .ok (.dup, 1) := by decide +kernel
theorem dX6_next_149 : decode cX6_next 149 = .ok (.getfield 73, 3) := by decide +kernel
theorem dX6_next_152 : decode cX6_next 152 = .ok (.iconst 1, 1) := by decide +kernel
theorem dX6_next_153 : decode cX6_next 153 = .ok (.iadd, 1) := by decide +kernel
theorem dX6_next_154 : decode cX6_next 154 = .ok (.putfield 73, 3) := by decide +kernel
theorem dX6_next_157 : decode cX6_next 157 = .ok (.goto (-90), 3) := by decide +kernel
theorem dX6_next_160 : decode cX6_next 160 = .ok (.aload_n 0, 1) := by decide +kernel
theorem dX6_next_161 : decode cX6_next 161 = .ok (.iload_n 2, 1) := by decide +kernel
theorem dX6_next_162 : decode cX6_next 162 = .ok (.ldc 89, 2) := by decide +kernel
theorem dX6_next_164 : decode cX6_next 164 = .ok (.if_icmp .ne 13, 3) := by decide +kernel
theorem dX6_next_167 : decode cX6_next 167 = .ok (.iload_n 3, 1) := by decide +kernel
theorem dX6_next_168 : decode cX6_next 168 = .ok (.bipush 7, 2) := by decide +kernel
theorem dX6_next_170 : decode cX6_next 170 = .ok (.if_icmp .ne 7, 3) := by decide +kernel
theorem dX6_next_173 : decode cX6_next 173 = .ok (.iconst 0, 1) := by decide +kernel
theorem dX6_next_174 : decode cX6_next 174 = .ok (.goto 45, 3) := by decide +kernel
theorem dX6_next_177 : decode cX6_next 177 = .ok (.iload_n 3, 1) := by decide +kernel
theorem dX6_next_178 : decode cX6_next 178 = .ok (.ifCond .le 8, 3) := by decide +kernel
theorem dX6_next_181 : decode cX6_next 181 = .ok (.bipush 7, 2) := by decide +kernel
theorem dX6_next_183 : decode cX6_next 183 = .ok (.goto 36, 3) := by decide +kernel
theorem dX6_next_186 : decode cX6_next 186 = .ok (.iload_n 2, 1) := by decide +kernel
theorem dX6_next_187 : decode cX6_next 187 = .ok (.ldc 90, 2) := by decide +kernel
theorem dX6_next_189 : decode cX6_next 189 = .ok (.if_icmp .ne 7, 3) := by decide +kernel
theorem dX6_next_192 : decode cX6_next 192 = .ok (.iconst 1, 1) := by decide +kernel
theorem dX6_next_193 : decode cX6_next 193 = .ok (.goto 26, 3) := by decide +kernel
theorem dX6_next_196 : decode cX6_next 196 = .ok (.iload_n 2, 1) := by decide +kernel
theorem dX6_next_197 : decode cX6_next 197 = .ok (.ldc 91, 2) := by decide +kernel
theorem dX6_next_199 : decode cX6_next 199 = .ok (.if_icmp .ne 7, 3) := by decide +kernel
theorem dX6_next_202 : decode cX6_next 202 = .ok (.iconst 2, 1) := by decide +kernel
theorem dX6_next_203 : decode cX6_next 203 = .ok (.goto 16, 3) := by decide +kernel
theorem dX6_next_206 : decode cX6_next 206 = .ok (.iload_n 2, 1) := by decide +kernel
theorem dX6_next_207 : decode cX6_next 207 = .ok (.sipush 2770, 3) := by decide +kernel
theorem dX6_next_210 : decode cX6_next 210 = .ok (.if_icmp .ne 7, 3) := by decide +kernel
theorem dX6_next_213 : decode cX6_next 213 = .ok (.iconst 3, 1) := by decide +kernel
theorem dX6_next_214 : decode cX6_next 214 = .ok (.goto 5, 3) := by decide +kernel
theorem dX6_next_217 : decode cX6_next 217 = .ok (.bipush 7, 2) := by decide +kernel
theorem dX6_next_219 : decode cX6_next 219 = .ok (.putfield 86, 3) := by decide +kernel
theorem dX6_next_222 : decode cX6_next 222 = .ok (.goto 144, 3) := by decide +kernel
theorem dX6_next_225 : decode cX6_next 225 = .ok (.iload_n 1, 1) := by decide +kernel
theorem dX6_next_226 : decode cX6_next 226 = .ok (.bipush 48, 2) := by decide +kernel
theorem dX6_next_228 : decode cX6_next 228 = .ok (.bipush 57, 2) := by decide +kernel
theorem dX6_next_230 : decode cX6_next 230 = .ok (.invokestatic 63, 3) := by decide +kernel
theorem dX6_next_233 : decode cX6_next 233 = .ok (.ifCond .eq 106, 3) := by decide +kernel
theorem dX6_next_236 : decode cX6_next 236 = .ok (.aload_n 0, 1) := by decide +kernel
theorem dX6_next_237 : decode cX6_next 237 = .ok (.invokevirtual 76, 3) := by decide +kernel
theorem dX6_next_240 : decode cX6_next 240 = .ok (.bipush 48, 2) := by decide +kernel
theorem dX6_next_242 : decode cX6_next 242 = .ok (.bipush 57, 2) := by decide +kernel
theorem dX6_next_244 : decode cX6_next 244 = .ok (.invokestatic 63, 3) := by decide +kernel
theorem dX6_next_247 : decode cX6_next 247 = .ok (.ifCond .eq 51, 3) := by decide +kernel
theorem dX6_next_250 : decode cX6_next 250 = .ok (.aload_n 0, 1) := by decide +kernel
theorem dX6_next_251 : decode cX6_next 251 = .ok (.aload_n 0, 1) := by decide +kernel
theorem dX6_next_252 : decode cX6_next 252 = .ok (.getfield 83, 3) := by decide +kernel
theorem dX6_next_255 : decode cX6_next 255 = .ok (.bipush 99, 2) := by decide +kernel
theorem dX6_next_257 : decode cX6_next 257 = .ok (.if_icmp .le 10, 3) := by decide +kernel
theorem dX6_next_260 : decode cX6_next 260 = .ok (.aload_n 0, 1) := by decide +kernel
theorem dX6_next_261 : decode cX6_next 261 = .ok (.getfield 83, 3) := by decide +kernel
theorem dX6_next_264 : decode cX6_next 264 = .ok (.goto 18, 3) := by decide +kernel
theorem dX6_next_267 : decode cX6_next 267 = .ok (.bipush 10, 2) := by decide +kernel
theorem dX6_next_269 : decode cX6_next 269 = .ok (.aload_n 0, 1) := by decide +kernel
theorem dX6_next_270 : decode cX6_next 270 = .ok (.getfield 83, 3) := by decide +kernel
theorem dX6_next_273 : decode cX6_next 273 = .ok (.imul, 1) := by decide +kernel
theorem dX6_next_274 : decode cX6_next 274 = .ok (.aload_n 0, 1) := by decide +kernel
theorem dX6_next_275 : decode cX6_next 275 = .ok (.invokevirtual 76, 3) := by decide +kernel
theorem dX6_next_278 : decode cX6_next 278 = .ok (.iadd, 1) := by decide +kernel
theorem dX6_next_279 : decode cX6_next 279 = .ok (.bipush 48, 2) := by decide +kernel
theorem dX6_next_281 : decode cX6_next 281 = .ok (.isub, 1) := by decide +kernel
theorem dX6_next_282 : decode cX6_next 282 = .ok (.putfield 83, 3) := by decide +kernel
theorem dX6_next_285 : decode cX6_next 285 = .ok (.aload_n 0, 1) := by decide +kernel
theorem dX6_next_286 : decode cX6_next 286 = .ok (.dup, 1) := by decide +kernel
theorem dX6_next_287 : decode cX6_next 287 = .ok (.getfield 73, 3) := by decide +kernel
theorem dX6_next_290 : decode cX6_next 290 = .ok (.iconst 1, 1) := by decide +kernel
theorem dX6_next_291 : decode cX6_next 291 = .ok (.iadd, 1) := by decide +kernel
theorem dX6_next_292 : decode cX6_next 292 = .ok (.putfield 73, 3) := by decide +kernel
theorem dX6_next_295 : decode cX6_next 295 = .ok (.goto (-59), 3) := by decide +kernel
theorem dX6_next_298 : decode cX6_next 298 = .ok (.aload_n 0, 1) := by decide +kernel
theorem dX6_next_299 : decode cX6_next 299 = .ok (.aload_n 0, 1) := by decide +kernel
theorem dX6_next_300 : decode cX6_next 300 = .ok (.getfield 83, 3) := by decide +kernel
theorem dX6_next_303 : decode cX6_next 303 = .ok (.bipush 99, 2) := by decide +kernel
theorem dX6_next_305 : decode cX6_next 305 = .ok (.if_icmp .gt 22, 3) := by decide +kernel
theorem dX6_next_308 : decode cX6_next 308 = .ok (.iload_n 1, 1) := by decide +kernel
theorem dX6_next_309 : decode cX6_next 309 = .ok (.bipush 48, 2) := by decide +kernel
theorem dX6_next_311 : decode cX6_next 311 = .ok (.if_icmp .ne 21, 3) := by decide +kernel
theorem dX6_next_314 : decode cX6_next 314 = .ok (.aload_n 0, 1) := by decide +kernel
theorem dX6_next_315 : decode cX6_next 315 = .ok (.getfield 73, 3) := by decide +kernel
theorem dX6_next_318 : decode cX6_next 318 = .ok (.aload_n 0, 1) := by decide +kernel
theorem dX6_next_319 : decode cX6_next 319 = .ok (.getfield 80, 3) := by decide +kernel
theorem dX6_next_322 : decode cX6_next 322 = .ok (.isub, 1) := by decide +kernel
theorem dX6_next_323 : decode cX6_next 323 = .ok (.iconst 1, 1) := by decide +kernel
theorem dX6_next_324 : decode cX6_next 324 = .ok (.if_icmp .le 8, 3) := by decide +kernel
theorem dX6_next_327 : decode cX6_next 327 = .ok (.bipush 7, 2) := by decide +kernel
theorem dX6_next_329 : decode cX6_next 329 = .ok (.goto 4, 3) := by decide +kernel
theorem dX6_next_332 : decode cX6_next 332 = .ok (.iconst 5, 1) := by decide +kernel
theorem dX6_next_333 : decode cX6_next 333 = .ok (.putfield 86, 3) := by decide +kernel
theorem dX6_next_336 : decode cX6_next 336 = .ok (.goto 30, 3) := by decide +kernel
theorem dX6_next_339 : decode cX6_next 339 = .ok (.aload_n 0, 1) := by decide +kernel
theorem dX6_next_340 : decode cX6_next 340 = .ok (.dup, 1) := by decide +kernel
theorem dX6_next_341 : decode cX6_next 341 = .ok (.getfield 73, 3) := by decide +kernel
theorem dX6_next_344 : decode cX6_next 344 = .ok (.iconst 1, 1) := by decide +kernel
theorem dX6_next_345 : decode cX6_next 345 = .ok (.iadd, 1) := by decide +kernel
theorem dX6_next_346 : decode cX6_next 346 = .ok (.putfield 73, 3) := by decide +kernel
theorem dX6_next_349 : decode cX6_next 349 = .ok (.aload_n 0, 1) := by decide +kernel
theorem dX6_next_350 : decode cX6_next 350 = .ok (.iload_n 1, 1) := by decide +kernel
theorem dX6_next_351 : decode cX6_next 351 = .ok (.bipush 59, 2) := by decide +kernel
theorem dX6_next_353 : decode cX6_next 353 = .ok (.if_icmp .ne 8, 3) := by decide +kernel
theorem dX6_next_356 : decode cX6_next 356 = .ok (.bipush 6, 2) := by decide +kernel
theorem dX6_next_358 : decode cX6_next 358 = .ok (.goto 5, 3) := by decide +kernel
theorem dX6_next_361 : decode cX6_next 361 = .ok (.bipush 7, 2) := by decide +kernel
theorem dX6_next_363 : decode cX6_next 363 = .ok (.putfield 86, 3) := by decide +kernel
theorem dX6_next_366 : decode cX6_next 366 = .ok (.return_, 1) := by decide +kernel
set_option maxRecDepth 20000 in
theorem ggX6_due_X6_next : GoodIn wsX6_due wsX6_next := goodIn_r _ [8, 9, 3, 1, 10, 11, 12, 13, 14, 15, 16, 7, 17, 18, 19, 20, 21, 22, 23, 24, 25, 26, 27, 28, 29, 30, 31, 32, 33, 34, 35, 36, 37, 38, 39, 40, 41, 42, 43, 44, 45, 46, 47, 48, 49, 50] (by decide +kernel) (by decide +kernel)
set_option maxRecDepth 20000 in
theorem gX6_due_X6_next : GoodIn wsX6_due (wsV RX6 95 RX6 yX6_next wsX6_next) := goodIn_app (goodIn_of _ (by decide +kernel)) ggX6_due_X6_next
theorem dX6_due_0 : decode cX6_due 0 = .ok (.aload_n 0, 1) := by decide +kernel
theorem dX6_due_1 : decode cX6_due 1 = .ok (.getfield 83, 3) := by decide +kernel
theorem dX6_due_4 : decode cX6_due 4 = .ok (.istore_n 2, 1) := by decide +kernel
theorem dX6_due_5 : decode cX6_due 5 = .ok (.aload_n 0, 1) := by decide +kernel
theorem dX6_due_6 : decode cX6_due 6 = .ok (.getfield 92, 3) := by decide +kernel
theorem dX6_due_9 : decode cX6_due 9 = .ok (.bipush (-9), 2) := by decide +kernel
theorem dX6_due_11 : decode cX6_due 11 = .ok (.if_icmp .ne 22, 3) := by decide +kernel
theorem dX6_due_14 : decode cX6_due 14 = .ok (.iload_n 1, 1) := by decide +kernel
theorem dX6_due_15 : decode cX6_due 15 = .ok (.ifCond .eq 10, 3) := by decide +kernel
theorem dX6_due_18 : decode cX6_due 18 = .ok (.aload_n 0, 1) := by decide +kernel
theorem dX6_due_19 : decode cX6_due 19 = .ok (.invokevirtual 95, 3) := by decide +kernel
theorem dX6_due_22 : decode cX6_due 22 = .ok (.goto 11, 3) := by decide +kernel
theorem dX6_due_25 : decode cX6_due 25 = .ok (.aload_n 0, 1) := by decide +kernel
theorem dX6_due_26 : decode cX6_due 26 = .ok (.aload_n 0, 1) := by decide +kernel
theorem dX6_due_27 : decode cX6_due 27 = .ok (.getfield 80, 3) := by decide +kernel
theorem dX6_due_30 : decode cX6_due 30 = .ok (.putfield 92, 3) := by decide +kernel
theorem dX6_due_33 : decode cX6_due 33 = .ok (.iload_n 2, 1) := by decide +kernel
theorem dX6_due_34 : decode cX6_due 34 = .ok (.ireturn, 1) := by decide +kernel
set_option maxRecDepth 20000 in
theorem ggX6_number_X6_in : GoodIn wsX6_number wsX6_in := goodIn_r _ [6] (by decide +kernel) (by decide +kernel)
set_option maxRecDepth 20000 in
theorem gX6_number_X6_in : GoodIn wsX6_number (va_wsS RX6 63 yX6_in wsX6_in) := goodIn_app (goodIn_of _ (by decide +kernel)) ggX6_number_X6_in
set_option maxRecDepth 20000 in
theorem ggX6_number_X6_due : GoodIn wsX6_number wsX6_due := goodIn_r _ [10, 2, 11, 12, 13, 14, 15, 5, 16, 17, 1, 18, 19, 20, 21, 22, 23, 24, 25, 26, 3, 4, 6, 27, 28, 29, 30, 31, 32, 33, 34, 35, 36, 37, 38, 39, 40, 41, 42, 43, 44, 45, 46, 47, 48, 49, 50, 51, 52, 53, 54] (by decide +kernel) (by decide +kernel)
set_option maxRecDepth 20000 in
theorem gX6_number_X6_due : GoodIn wsX6_number (wsV RX6 98 RX6 yX6_due wsX6_due) := goodIn_app (goodIn_of _ (by decide +kernel)) ggX6_number_X6_due
theorem dX6_number_0 : decode cX6_number 0 = .ok (.aload_n 0, 1) := by decide +kernel
theorem dX6_number_1 : decode cX6_number 1 = .ok (.aload_n 0, 1) := by decide +kernel
theorem dX6_number_2 : decode cX6_number 2 = .ok (.getfield 86, 3) := by decide +kernel
theorem dX6_number_5 : decode cX6_number 5 = .ok (.iconst 5, 1) := by decide +kernel
theorem dX6_number_6 : decode cX6_number 6 = .ok (.if_icmp .ne 19, 3) := by decide +kernel
theorem dX6_number_9 : decode cX6_number 9 = .ok (.aload_n 0, 1) := by decide +kernel
theorem dX6_number_10 : decode cX6_number 10 = .ok (.getfield 83, 3) := by decide +kernel
theorem dX6_number_13 : decode cX6_number 13 = .ok (.iload_n 1, 1) := by decide +kernel
theorem dX6_number_14 : decode cX6_number 14 = .ok (.iload_n 2, 1) := by decide +kernel
theorem dX6_number_15 : decode cX6_number 15 = .ok (.invokestatic 63, 3) := by decide +kernel
theorem dX6_number_18 : decode cX6_number 18 = .ok (.ifCond .eq 7, 3) := by decide +kernel
theorem dX6_number_21 : decode cX6_number 21 = .ok (.iconst 1, 1) := by decide +kernel
theorem dX6_number_22 : decode cX6_number 22 = .ok (.goto 4, 3) := by decide +kernel
theorem dX6_number_25 : decode cX6_number 25 = .ok (.iconst 0, 1) := by decide +kernel
theorem dX6_number_26 : decode cX6_number 26 = .ok (.invokevirtual 98, 3) := by decide +kernel
theorem dX6_number_29 : decode cX6_number 29 = .ok (.ireturn, 1) := by decide +kernel
set_option maxRecDepth 20000 in
theorem ggX6_readItem_X6_due : GoodIn wsX6_readItem wsX6_due := goodIn_r _ [12, 13, 3, 14, 15, 16, 17, 11, 18, 19, 1, 20, 21, 22, 23, 24, 25, 26, 27, 28, 29, 30, 31, 36, 37, 38, 39, 40, 41, 42, 43, 44, 45, 46, 47, 48, 49, 50, 51, 52, 53, 54, 55, 56, 57, 58, 59, 60, 61, 62, 63] (by decide +kernel) (by decide +kernel)
set_option maxRecDepth 20000 in
theorem gX6_readItem_X6_due : GoodIn wsX6_readItem (wsV RX6 98 RX6 yX6_due wsX6_due) := goodIn_app (goodIn_of _ (by decide +kernel)) ggX6_readItem_X6_due
set_option maxRecDepth 20000 in
theorem ggX6_readItem_X6_number : GoodIn wsX6_readItem wsX6_number := goodIn_r _ [35, 1, 13, 29, 30, 11, 31, 8, 9, 10, 12, 3, 14, 15, 16, 17, 18, 19, 20, 21, 22, 23, 24, 25, 26, 27, 28, 36, 37, 38, 39, 40, 41, 42, 43, 44, 45, 46, 47, 48, 49, 50, 51, 52, 53, 54, 55, 56, 57, 58, 59, 60, 61, 62, 63] (by decide +kernel) (by decide +kernel)
set_option maxRecDepth 20000 in
theorem gX6_readItem_X6_number : GoodIn wsX6_readItem (wsV RX6 102 RX6 yX6_number wsX6_number) := goodIn_app (goodIn_of _ (by decide +kernel)) ggX6_readItem_X6_number
theorem dX6_readItem_0 : decode cX6_readItem 0 = .ok (.aload_n 0, 1) := by decide +kernel
theorem dX6_readItem_1 : decode cX6_readItem 1 = .ok (.getfield 86, 3) := by decide +kernel
theorem dX6_readItem_4 : decode cX6_readItem 4 = .ok (.istore_n 1, 1) := by decide +kernel
theorem dX6_readItem_5 : decode cX6_readItem 5 = .ok (.aload_n 0, 1) := by decide +kernel
theorem dX6_readItem_6 : decode cX6_readItem 6 = .ok (.iload_n 1, 1) := by decide +kernel
theorem dX6_readItem_7 : decode cX6_readItem 7 = .ok (.iconst 3, 1) := by decide +kernel
theorem dX6_readItem_8 : decode cX6_readItem 8 = .ok (.if_icmp .gt 18, 3) := by decide +kernel
theorem dX6_readItem_11 : decode cX6_readItem 11 = .ok (.aload_n 0, 1) := by decide +kernel
theorem dX6_readItem_12 : decode cX6_readItem 12 = .ok (.getfield 13, 3) := by decide +kernel
theorem dX6_readItem_15 : decode cX6_readItem 15 = .ok (.iconst 1, 1) := by decide +kernel
theorem dX6_readItem_16 : decode cX6_readItem 16 = .ok (.iaload, 1) := by decide +kernel
theorem dX6_readItem_17 : decode cX6_readItem 17 = .ok (.bipush 9, 2) := by decide +kernel
theorem dX6_readItem_19 : decode cX6_readItem 19 = .ok (.if_icmp .ge 7, 3) := by decide +kernel
theorem dX6_readItem_22 : decode cX6_readItem 22 = .ok (.iconst 1, 1) := by decide +kernel
theorem dX6_readItem_23 : decode cX6_readItem 23 = .ok (.goto 4, 3) := by decide +kernel
theorem dX6_readItem_26 : decode cX6_readItem 26 = .ok (.iconst 0, 1) := by decide +kernel
theorem dX6_readItem_27 : decode cX6_readItem 27 = .ok (.invokevirtual 98, 3) := by decide +kernel
theorem dX6_readItem_30 : decode cX6_readItem 30 = .ok (.pop, 1) := by decide +kernel
theorem dX6_readItem_31 : decode cX6_readItem 31 = .ok (.aload_n 0, 1) := by decide +kernel
theorem dX6_readItem_32 : decode cX6_readItem 32 = .ok (.getfield 92, 3) := by decide +kernel
theorem dX6_readItem_35 : decode cX6_readItem 35 = .ok (.bipush (-9), 2) := by decide +kernel
theorem dX6_readItem_37 : decode cX6_readItem 37 = .ok (.if_icmp .eq 4, 3) := by decide +kernel
theorem dX6_readItem_40 : decode cX6_readItem 40 = .ok (.return_, 1) := by decide +kernel
theorem dX6_readItem_41 : decode cX6_readItem 41 = .ok (.bipush 9, 2) := by decide +kernel
theorem dX6_readItem_43 : decode cX6_readItem 43 = .ok (.aload_n 0, 1) := by decide +kernel
theorem dX6_readItem_44 : decode cX6_readItem 44 = .ok (.getfield 13, 3) := by decide +kernel
theorem dX6_readItem_47 : decode cX6_readItem 47 = .ok (.iconst 1, 1) := by decide +kernel
theorem dX6_readItem_48 : decode cX6_readItem 48 = .ok (.iaload, 1) := by decide +kernel
theorem dX6_readItem_49 : decode cX6_readItem 49 = .ok (.iadd, 1) := by decide +kernel
theorem dX6_readItem_50 : decode cX6_readItem 50 = .ok (.istore_n 2, 1) := by decide +kernel
theorem dX6_readItem_51 : decode cX6_readItem 51 = .ok (.aload_n 0, 1) := by decide +kernel
theorem dX6_readItem_52 : decode cX6_readItem 52 = .ok (.getfield 17, 3) := by decide +kernel
theorem dX6_readItem_55 : decode cX6_readItem 55 = .ok (.iload_n 2, 1) := by decide +kernel
theorem dX6_readItem_56 : decode cX6_readItem 56 = .ok (.iload_n 1, 1) := by decide +kernel
theorem dX6_readItem_57 : decode cX6_readItem 57 = .ok (.iastore, 1) := by decide +kernel
theorem dX6_readItem_58 : decode cX6_readItem 58 = .ok (.aload_n 0, 1) := by decide +kernel
theorem dX6_readItem_59 : decode cX6_readItem 59 = .ok (.getfield 20, 3) := by decide +kernel
theorem dX6_readItem_62 : decode cX6_readItem 62 = .ok (.iload_n 2, 1) := by decide +kernel
theorem dX6_readItem_63 : decode cX6_readItem 63 = .ok (.iload_n 1, 1) := by decide +kernel
theorem dX6_readItem_64 : decode cX6_readItem 64 = .ok (.ifCond .ne 8, 3) := by decide +kernel
theorem dX6_readItem_67 : decode cX6_readItem 67 = .ok (.bipush (-9), 2) := by decide +kernel
theorem dX6_readItem_69 : decode cX6_readItem 69 = .ok (.goto 16, 3) := by decide +kernel
theorem dX6_readItem_72 : decode cX6_readItem 72 = .ok (.aload_n 0, 1) := by decide +kernel
theorem dX6_readItem_73 : decode cX6_readItem 73 = .ok (.iconst 0, 1) := by decide +kernel
theorem dX6_readItem_74 : decode cX6_readItem 74 = .ok (.aload_n 0, 1) := by decide +kernel
theorem dX6_readItem_75 : decode cX6_readItem 75 = .ok (.getfield 13, 3) := by decide +kernel
theorem dX6_readItem_78 : decode cX6_readItem 78 = .ok (.iconst 1, 1) := by decide +kernel
theorem dX6_readItem_79 : decode cX6_readItem 79 = .ok (.iaload, 1) := by decide +kernel
theorem dX6_readItem_80 : decode cX6_readItem 80 = .ok (.iconst 1, 1) := by decide +kernel
theorem dX6_readItem_81 : decode cX6_readItem 81 = .ok (.isub, 1) := by decide +kernel
theorem dX6_readItem_82 : decode cX6_readItem 82 = .ok (.invokevirtual 102, 3) := by decide +kernel
theorem dX6_readItem_85 : decode cX6_readItem 85 = .ok (.iastore, 1) := by decide +kernel
theorem dX6_readItem_86 : decode cX6_readItem 86 = .ok (.aload_n 0, 1) := by decide +kernel
theorem dX6_readItem_87 : decode cX6_readItem 87 = .ok (.getfield 23, 3) := by decide +kernel
theorem dX6_readItem_90 : decode cX6_readItem 90 = .ok (.iload_n 2, 1) := by decide +kernel
theorem dX6_readItem_91 : decode cX6_readItem 91 = .ok (.iload_n 1, 1) := by decide +kernel
theorem dX6_readItem_92 : decode cX6_readItem 92 = .ok (.iconst 1, 1) := by decide +kernel
theorem dX6_readItem_93 : decode cX6_readItem 93 = .ok (.if_icmp .eq 8, 3) := by decide +kernel
theorem dX6_readItem_96 : decode cX6_readItem 96 = .ok (.iload_n 1, 1) := by decide +kernel
theorem dX6_readItem_97 : decode cX6_readItem 97 = .ok (.iconst 2, 1) := by decide +kernel
theorem dX6_readItem_98 : decode cX6_readItem 98 = .ok (.if_icmp .ne 19, 3) := by decide +kernel
theorem dX6_readItem_101 : decode cX6_readItem 101 = .ok (.aload_n 0, 1) := by decide +kernel
theorem dX6_readItem_102 : decode cX6_readItem 102 = .ok (.iconst 0, 1) := by decide +kernel
theorem dX6_readItem_103 : decode cX6_readItem 103 = .ok (.aload_n 0, 1) := by decide +kernel
theorem dX6_readItem_104 : decode cX6_readItem 104 = .ok (.getfield 13, 3) := by decide +kernel
theorem dX6_readItem_107 : decode cX6_readItem 107 = .ok (.iconst 1, 1) := by decide +kernel
theorem dX6_readItem_108 : decode cX6_readItem 108 = .ok (.iaload, 1) := by decide +kernel
theorem dX6_readItem_109 : decode cX6_readItem 109 = .ok (.iconst 1, 1) := by decide +kernel
theorem dX6_readItem_110 : decode cX6_readItem 110 = .ok (.isub, 1) := by decide +kernel
theorem dX6_readItem_111 : decode cX6_readItem 111 = .ok (.invokevirtual 102, 3) := by decide +kernel
theorem dX6_readItem_114 : decode cX6_readItem 114 = .ok (.goto 5, 3) := by decide +kernel
theorem dX6_readItem_117 : decode cX6_readItem 117 = .ok (.bipush (-9), 2) := by decide +kernel
theorem dX6_readItem_119 : decode cX6_readItem 119 = .ok (.iastore, 1) := by decide +kernel
theorem dX6_readItem_120 : decode cX6_readItem 120 = .ok (.aload_n 0, 1) := by decide +kernel
theorem dX6_readItem_121 : decode cX6_readItem 121 = .ok (.getfield 26, 3) := by decide +kernel
theorem dX6_readItem_124 : decode cX6_readItem 124 = .ok (.iload_n 2, 1) := by decide +kernel
theorem dX6_readItem_125 : decode cX6_readItem 125 = .ok (.iload_n 1, 1) := by decide +kernel
theorem dX6_readItem_126 : decode cX6_readItem 126 = .ok (.iconst 1, 1) := by decide +kernel
theorem dX6_readItem_127 : decode cX6_readItem 127 = .ok (.if_icmp .ne 12, 3) := by decide +kernel
theorem dX6_readItem_130 : decode cX6_readItem 130 = .ok (.aload_n 0, 1) := by decide +kernel
theorem dX6_readItem_131 : decode cX6_readItem 131 = .ok (.iconst 1, 1) := by decide +kernel
theorem dX6_readItem_132 : decode cX6_readItem 132 = .ok (.iconst 3, 1) := by decide +kernel
theorem dX6_readItem_133 : decode cX6_readItem 133 = .ok (.invokevirtual 102, 3) := by decide +kernel
theorem dX6_readItem_136 : decode cX6_readItem 136 = .ok (.goto 18, 3) := by decide +kernel
theorem dX6_readItem_139 : decode cX6_readItem 139 = .ok (.iload_n 1, 1) := by decide +kernel
theorem dX6_readItem_140 : decode cX6_readItem 140 = .ok (.iconst 3, 1) := by decide +kernel
theorem dX6_readItem_141 : decode cX6_readItem 141 = .ok (.if_icmp .ne 12, 3) := by decide +kernel
theorem dX6_readItem_144 : decode cX6_readItem 144 = .ok (.aload_n 0, 1) := by decide +kernel
theorem dX6_readItem_145 : decode cX6_readItem 145 = .ok (.iconst 2, 1) := by decide +kernel
theorem dX6_readItem_146 : decode cX6_readItem 146 = .ok (.iconst 4, 1) := by decide +kernel
theorem dX6_readItem_147 : decode cX6_readItem 147 = .ok (.invokevirtual 102, 3) := by decide +kernel
theorem dX6_readItem_150 : decode cX6_readItem 150 = .ok (.goto 4, 3) := by decide +kernel
theorem dX6_readItem_153 : decode cX6_readItem 153 = .ok (.iconst 0, 1) := by decide +kernel
theorem dX6_readItem_154 : decode cX6_readItem 154 = .ok (.iastore, 1) := by decide +kernel
theorem dX6_readItem_155 : decode cX6_readItem 155 = .ok (.aload_n 0, 1) := by decide +kernel
theorem dX6_readItem_156 : decode cX6_readItem 156 = .ok (.getfield 13, 3) := by decide +kernel
theorem dX6_readItem_159 : decode cX6_readItem 159 = .ok (.iconst 1, 1) := by decide +kernel
theorem dX6_readItem_160 : decode cX6_readItem 160 = .ok (.dup2, 1) := by decide +kernel
theorem dX6_readItem_161 : decode cX6_readItem 161 = .ok (.iaload, 1) := by decide +kernel
theorem dX6_readItem_162 : decode cX6_readItem 162 = .ok (.iconst 1, 1) := by decide +kernel
theorem dX6_readItem_163 : decode cX6_readItem 163 = .ok (.iadd, 1) := by decide +kernel
theorem dX6_readItem_164 : decode cX6_readItem 164 = .ok (.iastore, 1) := by decide +kernel
theorem dX6_readItem_165 : decode cX6_readItem 165 = .ok (.aload_n 0, 1) := by decide +kernel
theorem dX6_readItem_166 : decode cX6_readItem 166 = .ok (.aload_n 0, 1) := by decide +kernel
theorem dX6_readItem_167 : decode cX6_readItem 167 = .ok (.getfield 86, 3) := by decide +kernel
theorem dX6_readItem_170 : decode cX6_readItem 170 = .ok (.bipush 6, 2) := by decide +kernel
theorem dX6_readItem_172 : decode cX6_readItem 172 = .ok (.if_icmp .ne 7, 3) := by decide +kernel
theorem dX6_readItem_175 : decode cX6_readItem 175 = .ok (.iconst 1, 1) := by decide +kernel
theorem dX6_readItem_176 : decode cX6_readItem 176 = .ok (.goto 4, 3) := by decide +kernel
theorem dX6_readItem_179 : decode cX6_readItem 179 = .ok (.iconst 0, 1) := by decide +kernel
theorem dX6_readItem_180 : decode cX6_readItem 180 = .ok (.invokevirtual 98, 3) := by decide +kernel
theorem dX6_readItem_183 : decode cX6_readItem 183 = .ok (.pop, 1) := by decide +kernel
theorem dX6_readItem_184 : decode cX6_readItem 184 = .ok (.return_, 1) := by decide +kernel
set_option maxRecDepth 20000 in
theorem ggX6_house_X6_next : GoodIn wsX6_house wsX6_next := goodIn_r _ [17, 1, 18, 19, 4, 20, 21, 22, 23, 24, 25, 16, 26, 12, 27, 28, 29, 30, 43, 44, 45, 46, 47, 48, 49, 50, 51, 52, 53, 54, 55, 56, 57, 58, 59, 60, 61, 62, 63, 64, 65, 66, 67, 68, 69, 70] (by decide +kernel) (by decide +kernel)
set_option maxRecDepth 20000 in
theorem gX6_house_X6_next : GoodIn wsX6_house (wsV RX6 95 RX6 yX6_next wsX6_next) := goodIn_app (goodIn_of _ (by decide +kernel)) ggX6_house_X6_next
set_option maxRecDepth 20000 in
theorem ggX6_house_X6_readItem : GoodIn wsX6_house wsX6_readItem := goodIn_r _ [34, 4, 3, 2, 5, 6, 7, 8, 35, 36, 37, 16, 38, 19, 18, 13, 14, 15, 17, 1, 20, 21, 22, 23, 24, 25, 26, 12, 27, 28, 29, 30, 39, 40, 41, 42, 43, 44, 45, 46, 47, 48, 49, 50, 51, 52, 53, 54, 55, 56, 57, 58, 59, 60, 61, 62, 63, 64, 65, 66, 67, 68, 69, 70] (by decide +kernel) (by decide +kernel)
set_option maxRecDepth 20000 in
theorem gX6_house_X6_readItem : GoodIn wsX6_house (wsV RX6 106 RX6 yX6_readItem wsX6_readItem) := goodIn_app (goodIn_of _ (by decide +kernel)) ggX6_house_X6_readItem
theorem dX6_house_0 : decode cX6_house 0 = .ok (.aload_n 0, 1) := by decide +kernel
theorem dX6_house_1 : decode cX6_house 1 = .ok (.iconst 0, 1) := by decide +kernel
theorem dX6_house_2 : decode cX6_house 2 = .ok (.putfield 73, 3) := by decide +kernel
theorem dX6_house_5 : decode cX6_house 5 = .ok (.aload_n 0, 1) := by decide +kernel
theorem dX6_house_6 : decode cX6_house 6 = .ok (.bipush (-9), 2) := by decide +kernel
theorem dX6_house_8 : decode cX6_house 8 = .ok (.putfield 92, 3) := by decide +kernel
theorem dX6_house_11 : decode cX6_house 11 = .ok (.aload_n 0, 1) := by decide +kernel
theorem dX6_house_12 : decode cX6_house 12 = .ok (.getfield 13, 3) := by decide +kernel
theorem dX6_house_15 : decode cX6_house 15 = .ok (.iconst 1, 1) := by decide +kernel
theorem dX6_house_16 : decode cX6_house 16 = .ok (.iconst 0, 1) := by decide +kernel
theorem dX6_house_17 : decode cX6_house 17 = .ok (.iastore, 1) := by decide +kernel
theorem dX6_house_18 : decode cX6_house 18 = .ok (.iconst 0, 1) := by decide +kernel
theorem dX6_house_19 : decode cX6_house 19 = .ok (.istore_n 1, 1) := by decide +kernel
theorem dX6_house_20 : decode cX6_house 20 = .ok (.aload_n 0, 1) := by decide +kernel
theorem dX6_house_21 : decode cX6_house 21 = .ok (.invokevirtual 95, 3) := by decide +kernel
theorem dX6_house_24 : decode cX6_house 24 = .ok (.aload_n 0, 1) := by decide +kernel
theorem dX6_house_25 : decode cX6_house 25 = .ok (.getfield 92, 3) := by decide +kernel
theorem dX6_house_28 : decode cX6_house 28 = .ok (.bipush (-9), 2) := by decide +kernel
theorem dX6_house_30 : decode cX6_house 30 = .ok (.if_icmp .ne 21, 3) := by decide +kernel
theorem dX6_house_33 : decode cX6_house 33 = .ok (.aload_n 0, 1) := by decide +kernel
theorem dX6_house_34 : decode cX6_house 34 = .ok (.getfield 86, 3) := by decide +kernel
theorem dX6_house_37 : decode cX6_house 37 = .ok (.iconst 4, 1) := by decide +kernel
theorem dX6_house_38 : decode cX6_house 38 = .ok (.if_icmp .eq 13, 3) := by decide +kernel
theorem dX6_house_41 : decode cX6_house 41 = .ok (.aload_n 0, 1) := by decide +kernel
theorem dX6_house_42 : decode cX6_house 42 = .ok (.invokevirtual 106, 3) := by decide +kernel
theorem dX6_house_45 : decode cX6_house 45 = .ok (.iinc 1 1, 3) := by decide +kernel
theorem dX6_house_48 : decode cX6_house 48 = .ok (.goto (-24), 3) := by decide +kernel
theorem dX6_house_51 : decode cX6_house 51 = .ok (.aload_n 0, 1) := by decide +kernel
theorem dX6_house_52 : decode cX6_house 52 = .ok (.getfield 92, 3) := by decide +kernel
theorem dX6_house_55 : decode cX6_house 55 = .ok (.bipush (-9), 2) := by decide +kernel
theorem dX6_house_57 : decode cX6_house 57 = .ok (.if_icmp .eq 11, 3) := by decide +kernel
theorem dX6_house_60 : decode cX6_house 60 = .ok (.bipush (-10), 2) := by decide +kernel
theorem dX6_house_62 : decode cX6_house 62 = .ok (.aload_n 0, 1) := by decide +kernel
theorem dX6_house_63 : decode cX6_house 63 = .ok (.getfield 92, 3) := by decide +kernel
theorem dX6_house_66 : decode cX6_house 66 = .ok (.isub, 1) := by decide +kernel
theorem dX6_house_67 : decode cX6_house 67 = .ok (.ireturn, 1) := by decide +kernel
theorem dX6_house_68 : decode cX6_house 68 = .ok (.aload_n 0, 1) := by decide +kernel
theorem dX6_house_69 : decode cX6_house 69 = .ok (.getfield 13, 3) := by decide +kernel
theorem dX6_house_72 : decode cX6_house 72 = .ok (.iconst 0, 1) := by decide +kernel
theorem dX6_house_73 : decode cX6_house 73 = .ok (.aload_n 0, 1) := by decide +kernel
theorem dX6_house_74 : decode cX6_house 74 = .ok (.getfield 13, 3) := by decide +kernel
theorem dX6_house_77 : decode cX6_house 77 = .ok (.iconst 1, 1) := by decide +kernel
theorem dX6_house_78 : decode cX6_house 78 = .ok (.iaload, 1) := by decide +kernel
theorem dX6_house_79 : decode cX6_house 79 = .ok (.iastore, 1) := by decide +kernel
theorem dX6_house_80 : decode cX6_house 80 = .ok (.iconst 0, 1) := by decide +kernel
theorem dX6_house_81 : decode cX6_house 81 = .ok (.istore_n 2, 1) := by decide +kernel
theorem dX6_house_82 : decode cX6_house 82 = .ok (.iload_n 2, 1) := by decide +kernel
theorem dX6_house_83 : decode cX6_house 83 = .ok (.bipush 9, 2) := by decide +kernel
theorem dX6_house_85 : decode cX6_house 85 = .ok (.if_icmp .ge 69, 3) := by decide +kernel
theorem dX6_house_88 : decode cX6_house 88 = .ok (.aload_n 0, 1) := by decide +kernel
theorem dX6_house_89 : decode cX6_house 89 = .ok (.getfield 17, 3) := by decide +kernel
theorem dX6_house_92 : decode cX6_house 92 = .ok (.iload_n 2, 1) := by decide +kernel
theorem dX6_house_93 : decode cX6_house 93 = .ok (.aload_n 0, 1) := by decide +kernel
theorem dX6_house_94 : decode cX6_house 94 = .ok (.getfield 17, 3) := by decide +kernel
theorem dX6_house_97 : decode cX6_house 97 = .ok (.bipush 9, 2) := by decide +kernel
theorem dX6_house_99 : decode cX6_house 99 = .ok (.iload_n 2, 1) := by decide +kernel
theorem dX6_house_100 : decode cX6_house 100 = .ok (.iadd, 1) := by decide +kernel
theorem dX6_house_101 : decode cX6_house 101 = .ok (.iaload, 1) := by decide +kernel
theorem dX6_house_102 : decode cX6_house 102 = .ok (.iastore, 1) := by decide +kernel
theorem dX6_house_103 : decode cX6_house 103 = .ok (.aload_n 0, 1) := by decide +kernel
theorem dX6_house_104 : decode cX6_house 104 = .ok (.getfield 20, 3) := by decide +kernel
theorem dX6_house_107 : decode cX6_house 107 = .ok (.iload_n 2, 1) := by decide +kernel
theorem dX6_house_108 : decode cX6_house 108 = .ok (.aload_n 0, 1) := by decide +kernel
theorem dX6_house_109 : decode cX6_house 109 = .ok (.getfield 20, 3) := by decide +kernel
theorem dX6_house_112 : decode cX6_house 112 = .ok (.bipush 9, 2) := by decide +kernel
theorem dX6_house_114 : decode cX6_house 114 = .ok (.iload_n 2, 1) := by decide +kernel
theorem dX6_house_115 : decode cX6_house 115 = .ok (.iadd, 1) := by decide +kernel
theorem dX6_house_116 : decode cX6_house 116 = .ok (.iaload, 1) := by decide +kernel
theorem dX6_house_117 : decode cX6_house 117 = .ok (.iastore, 1) := by decide +kernel
theorem dX6_house_118 : decode cX6_house 118 = .ok (.aload_n 0, 1) := by decide +kernel
theorem dX6_house_119 : decode cX6_house 119 = .ok (.getfield 23, 3) := by decide +kernel
theorem dX6_house_122 : decode cX6_house 122 = .ok (.iload_n 2, 1) := by decide +kernel
theorem dX6_house_123 : decode cX6_house 123 = .ok (.aload_n 0, 1) := by decide +kernel
theorem dX6_house_124 : decode cX6_house 124 = .ok (.getfield 23, 3) := by decide +kernel
theorem dX6_house_127 : decode cX6_house 127 = .ok (.bipush 9, 2) := by decide +kernel
theorem dX6_house_129 : decode cX6_house 129 = .ok (.iload_n 2, 1) := by decide +kernel
theorem dX6_house_130 : decode cX6_house 130 = .ok (.iadd, 1) := by decide +kernel
theorem dX6_house_131 : decode cX6_house 131 = .ok (.iaload, 1) := by decide +kernel
theorem dX6_house_132 : decode cX6_house 132 = .ok (.iastore, 1) := by decide +kernel
theorem dX6_house_133 : decode cX6_house 133 = .ok (.aload_n 0, 1) := by decide +kernel
theorem dX6_house_134 : decode cX6_house 134 = .ok (.getfield 26, 3) := by decide +kernel
theorem dX6_house_137 : decode cX6_house 137 = .ok (.iload_n 2, 1) := by decide +kernel
theorem dX6_house_138 : decode cX6_house 138 = .ok (.aload_n 0, 1) := by decide +kernel
theorem dX6_house_139 : decode cX6_house 139 = .ok (.getfield 26, 3) := by decide +kernel
theorem dX6_house_142 : decode cX6_house 142 = .ok (.bipush 9, 2) := by decide +kernel
theorem dX6_house_144 : decode cX6_house 144 = .ok (.iload_n 2, 1) := by decide +kernel
theorem dX6_house_145 : decode cX6_house 145 = .ok (.iadd, 1) := by decide +kernel
theorem dX6_house_146 : decode cX6_house 146 = .ok (.iaload, 1) := by decide +kernel
theorem dX6_house_147 : decode cX6_house 147 = .ok (.iastore, 1) := by decide +kernel
theorem dX6_house_148 : decode cX6_house 148 = .ok (.iinc 2 1, 3) := by decide +kernel
theorem dX6_house_151 : decode cX6_house 151 = .ok (.goto (-69), 3) := by decide +kernel
theorem dX6_house_154 : decode cX6_house 154 = .ok (.iconst 0, 1) := by decide +kernel
theorem dX6_house_155 : decode cX6_house 155 = .ok (.istore_n 2, 1) := by decide +kernel
theorem dX6_house_156 : decode cX6_house 156 = .ok (.iload_n 2, 1) := by decide +kernel
theorem dX6_house_157 : decode cX6_house 157 = .ok (.sipush 381, 3) := by decide +kernel
theorem dX6_house_160 : decode cX6_house 160 = .ok (.if_icmp .ge 16, 3) := by decide +kernel
theorem dX6_house_163 : decode cX6_house 163 = .ok (.aload_n 0, 1) := by decide +kernel
theorem dX6_house_164 : decode cX6_house 164 = .ok (.getfield 29, 3) := by decide +kernel
theorem dX6_house_167 : decode cX6_house 167 = .ok (.iload_n 2, 1) := by decide +kernel
theorem dX6_house_168 : decode cX6_house 168 = .ok (.iconst 0, 1) := by decide +kernel
