theorem dX11_turned_1 : decode cX11_turned 1 = .ok (.iconst 0, 1) := by decide +kernel
theorem dX11_turned_2 : decode cX11_turned 2 = .ok (.putfield 50, 3) := by decide +kernel
theorem dX11_turned_5 : decode cX11_turned 5 = .ok (.iload_n 2, 1) := by decide +kernel
theorem dX11_turned_6 : decode cX11_turned 6 = .ok (.i2l, 1) := by decide +kernel
theorem dX11_turned_7 : decode cX11_turned 7 = .ok (.lconst 0, 1) := by decide +kernel
theorem dX11_turned_8 : decode cX11_turned 8 = .ok (.ldc2_w 108, 3) := by decide +kernel
theorem dX11_turned_11 : decode cX11_turned 11 = .ok (.invokestatic 78, 3) := by decide +kernel
theorem dX11_turned_14 : decode cX11_turned 14 = .ok (.ifCond .ne 7, 3) := by decide +kernel
theorem dX11_turned_17 : decode cX11_turned 17 = .ok (.ldc2_w 90, 3) := by decide +kernel
theorem dX11_turned_20 : decode cX11_turned 20 = .ok (.lreturn, 1) := by decide +kernel
theorem dX11_turned_21 : decode cX11_turned 21 = .ok (.aload_n 0, 1) := by decide +kernel
theorem dX11_turned_22 : decode cX11_turned 22 = .ok (.iload_n 1, 1) := by decide +kernel
theorem dX11_turned_23 : decode cX11_turned 23 = .ok (.invokevirtual 124, 3) := by decide +kernel
theorem dX11_turned_26 : decode cX11_turned 26 = .ok (.iconst 0, 1) := by decide +kernel
theorem dX11_turned_27 : decode cX11_turned 27 = .ok (.istore_n 3, 1) := by decide +kernel
theorem dX11_turned_28 : decode cX11_turned 28 = .ok (.iconst 0, 1) := by decide +kernel
theorem dX11_turned_29 : decode cX11_turned 29 = .ok (.istore 4, 2) := by decide +kernel
theorem dX11_turned_31 : decode cX11_turned 31 = .ok (.iconst 0, 1) := by decide +kernel
theorem dX11_turned_32 : decode cX11_turned 32 = .ok (.istore 5, 2) := by decide +kernel
theorem dX11_turned_34 : decode cX11_turned 34 = .ok (.iload 5, 2) := by decide +kernel
theorem dX11_turned_36 : decode cX11_turned 36 = .ok (.sipush 6000, 3) := by decide +kernel
theorem dX11_turned_39 : decode cX11_turned 39 = .ok (.if_icmp .gt 29, 3) := by decide +kernel
theorem dX11_turned_42 : decode cX11_turned 42 = .ok (.aload_n 0, 1) := by decide +kernel
theorem dX11_turned_43 : decode cX11_turned 43 = .ok (.getfield 31, 3) := by decide +kernel
theorem dX11_turned_46 : decode cX11_turned 46 = .ok (.iload 5, 2) := by decide +kernel
theorem dX11_turned_48 : decode cX11_turned 48 = .ok (.iload 5, 2) := by decide +kernel
theorem dX11_turned_50 : decode cX11_turned 50 = .ok (.sipush 3000, 3) := by decide +kernel
theorem dX11_turned_53 : decode cX11_turned 53 = .ok (.if_icmp .ne 7, 3) := by decide +kernel
theorem dX11_turned_56 : decode cX11_turned 56 = .ok (.lconst 1, 1) := by decide +kernel
theorem dX11_turned_57 : decode cX11_turned 57 = .ok (.goto 4, 3) := by decide +kernel
theorem dX11_turned_60 : decode cX11_turned 60 = .ok (.lconst 0, 1) := by decide +kernel
theorem dX11_turned_61 : decode cX11_turned 61 = .ok (.lastore, 1) := by decide +kernel
theorem dX11_turned_62 : decode cX11_turned 62 = .ok (.iinc 5 1, 3) := by decide +kernel
theorem dX11_turned_65 : decode cX11_turned 65 = .ok (.goto (-31), 3) := by decide +kernel
theorem dX11_turned_68 : decode cX11_turned 68 = .ok (.iconst 0, 1) := by decide +kernel
theorem dX11_turned_69 : decode cX11_turned 69 = .ok (.istore 5, 2) := by decide +kernel
theorem dX11_turned_71 : decode cX11_turned 71 = .ok (.iload 5, 2) := by decide +kernel
theorem dX11_turned_73 : decode cX11_turned 73 = .ok (.aload_n 0, 1) := by decide +kernel
theorem dX11_turned_74 : decode cX11_turned 74 = .ok (.getfield 114, 3) := by decide +kernel
theorem dX11_turned_77 : decode cX11_turned 77 = .ok (.if_icmp .ge 149, 3) := by decide +kernel
theorem dX11_turned_80 : decode cX11_turned 80 = .ok (.aload_n 0, 1) := by decide +kernel
theorem dX11_turned_81 : decode cX11_turned 81 = .ok (.getfield 25, 3) := by decide +kernel
theorem dX11_turned_84 : decode cX11_turned 84 = .ok (.iload 5, 2) := by decide +kernel
theorem dX11_turned_86 : decode cX11_turned 86 = .ok (.iaload, 1) := by decide +kernel
theorem dX11_turned_87 : decode cX11_turned 87 = .ok (.istore 6, 2) := by decide +kernel
theorem dX11_turned_89 : decode cX11_turned 89 = .ok (.iload 4, 2) := by decide +kernel
theorem dX11_turned_91 : decode cX11_turned 91 = .ok (.iload 6, 2) := by decide +kernel
theorem dX11_turned_93 : decode cX11_turned 93 = .ok (.iadd, 1) := by decide +kernel
theorem dX11_turned_94 : decode cX11_turned 94 = .ok (.istore 4, 2) := by decide +kernel
theorem dX11_turned_96 : decode cX11_turned 96 = .ok (.iload 6, 2) := by decide +kernel
theorem dX11_turned_98 : decode cX11_turned 98 = .ok (.ifCond .eq 122, 3) := by decide +kernel
theorem dX11_turned_101 : decode cX11_turned 101 = .ok (.iinc 3 1, 3) := by decide +kernel
theorem dX11_turned_104 : decode cX11_turned 104 = .ok (.iconst 0, 1) := by decide +kernel
theorem dX11_turned_105 : decode cX11_turned 105 = .ok (.istore 7, 2) := by decide +kernel
theorem dX11_turned_107 : decode cX11_turned 107 = .ok (.iload 7, 2) := by decide +kernel
theorem dX11_turned_109 : decode cX11_turned 109 = .ok (.sipush 6000, 3) := by decide +kernel
theorem dX11_turned_112 : decode cX11_turned 112 = .ok (.if_icmp .gt 77, 3) := by decide +kernel
theorem dX11_turned_115 : decode cX11_turned 115 = .ok (.aload_n 0, 1) := by decide +kernel
theorem dX11_turned_116 : decode cX11_turned 116 = .ok (.getfield 35, 3) := by decide +kernel
theorem dX11_turned_119 : decode cX11_turned 119 = .ok (.iload 7, 2) := by decide +kernel
theorem dX11_turned_121 : decode cX11_turned 121 = .ok (.iload 7, 2) := by decide +kernel
theorem dX11_turned_123 : decode cX11_turned 123 = .ok (.iload 6, 2) := by decide +kernel
theorem dX11_turned_125 : decode cX11_turned 125 = .ok (.isub, 1) := by decide +kernel
theorem dX11_turned_126 : decode cX11_turned 126 = .ok (.i2l, 1) := by decide +kernel
theorem dX11_turned_127 : decode cX11_turned 127 = .ok (.lconst 0, 1) := by decide +kernel
theorem dX11_turned_128 : decode cX11_turned 128 = .ok (.ldc2_w 128, 3) := by decide +kernel
theorem dX11_turned_131 : decode cX11_turned 131 = .ok (.invokestatic 78, 3) := by decide +kernel
theorem dX11_turned_134 : decode cX11_turned 134 = .ok (.ifCond .eq 16, 3) := by decide +kernel
theorem dX11_turned_137 : decode cX11_turned 137 = .ok (.aload_n 0, 1) := by decide +kernel
theorem dX11_turned_138 : decode cX11_turned 138 = .ok (.getfield 31, 3) := by decide +kernel
theorem dX11_turned_141 : decode cX11_turned 141 = .ok (.iload 7, 2) := by decide +kernel
theorem dX11_turned_143 : decode cX11_turned 143 = .ok (.iload 6, 2) := by decide +kernel
theorem dX11_turned_145 : decode cX11_turned 145 = .ok (.isub, 1) := by decide +kernel
theorem dX11_turned_146 : decode cX11_turned 146 = .ok (.laload, 1) := by decide +kernel
theorem dX11_turned_147 : decode cX11_turned 147 = .ok (.goto 4, 3) := by decide +kernel
theorem dX11_turned_150 : decode cX11_turned 150 = .ok (.lconst 0, 1) := by decide +kernel
theorem dX11_turned_151 : decode cX11_turned 151 = .ok (.iload 7, 2) := by decide +kernel
theorem dX11_turned_153 : decode cX11_turned 153 = .ok (.iload 6, 2) := by decide +kernel
theorem dX11_turned_155 : decode cX11_turned 155 = .ok (.iadd, 1) := by decide +kernel
theorem dX11_turned_156 : decode cX11_turned 156 = .ok (.i2l, 1) := by decide +kernel
theorem dX11_turned_157 : decode cX11_turned 157 = .ok (.lconst 0, 1) := by decide +kernel
theorem dX11_turned_158 : decode cX11_turned 158 = .ok (.ldc2_w 128, 3) := by decide +kernel
theorem dX11_turned_161 : decode cX11_turned 161 = .ok (.invokestatic 78, 3) := by decide +kernel
theorem dX11_turned_164 : decode cX11_turned 164 = .ok (.ifCond .eq 16, 3) := by decide +kernel
theorem dX11_turned_167 : decode cX11_turned 167 = .ok (.aload_n 0, 1) := by decide +kernel
theorem dX11_turned_168 : decode cX11_turned 168 = .ok (.getfield 31, 3) := by decide +kernel
theorem dX11_turned_171 : decode cX11_turned 171 = .ok (.iload 7, 2) := by decide +kernel
theorem dX11_turned_173 : decode cX11_turned 173 = .ok (.iload 6, 2) := by decide +kernel
theorem dX11_turned_175 : decode cX11_turned 175 = .ok (.iadd, 1) := by decide +kernel
theorem dX11_turned_176 : decode cX11_turned 176 = .ok (.laload, 1) := by decide +kernel
theorem dX11_turned_177 : decode cX11_turned 177 = .ok (.goto 4, 3) := by decide +kernel
theorem dX11_turned_180 : decode cX11_turned 180 = .ok (.lconst 0, 1) := by decide +kernel
theorem dX11_turned_181 : decode cX11_turned 181 = .ok (.ladd, 1) := by decide +kernel
theorem dX11_turned_182 : decode cX11_turned 182 = .ok (.lastore, 1) := by decide +kernel
theorem dX11_turned_183 : decode cX11_turned 183 = .ok (.iinc 7 1, 3) := by decide +kernel
theorem dX11_turned_186 : decode cX11_turned 186 = .ok (.goto (-79), 3) := by decide +kernel
theorem dX11_turned_189 : decode cX11_turned 189 = .ok (.iconst 0, 1) := by decide +kernel
theorem dX11_turned_190 : decode cX11_turned 190 = .ok (.istore 7, 2) := by decide +kernel
theorem dX11_turned_192 : decode cX11_turned 192 = .ok (.iload 7, 2) := by decide +kernel
theorem dX11_turned_194 : decode cX11_turned 194 = .ok (.sipush 6000, 3) := by decide +kernel
theorem dX11_turned_197 : decode cX11_turned 197 = .ok (.if_icmp .gt 23, 3) := by decide +kernel
theorem dX11_turned_200 : decode cX11_turned 200 = .ok (.aload_n 0, 1) := by decide +kernel
theorem dX11_turned_201 : decode cX11_turned 201 = .ok (.getfield 31, 3) := by decide +kernel
theorem dX11_turned_204 : decode cX11_turned 204 = .ok (.iload 7, 2) := by decide +kernel
theorem dX11_turned_206 : decode cX11_turned 206 = .ok (.aload_n 0, 1) := by decide +kernel
theorem dX11_turned_207 : decode cX11_turned 207 = .ok (.getfield 35, 3) := by decide +kernel
theorem dX11_turned_210 : decode cX11_turned 210 = .ok (.iload 7, 2) := by decide +kernel
theorem dX11_turned_212 : decode cX11_turned 212 = .ok (.laload, 1) := by decide +kernel
theorem dX11_turned_213 : decode cX11_turned 213 = .ok (.lastore, 1) := by decide +kernel
theorem dX11_turned_214 : decode cX11_turned 214 = .ok (.iinc 7 1, 3) := by decide +kernel
theorem dX11_turned_217 : decode cX11_turned 217 = .ok (.goto (-25), 3) := by decide +kernel
theorem dX11_turned_220 : decode cX11_turned 220 = .ok (.iinc 5 1, 3) := by decide +kernel
theorem dX11_turned_223 : decode cX11_turned 223 = .ok (.goto (-152), 3) := by decide +kernel
theorem dX11_turned_226 : decode cX11_turned 226 = .ok (.iload_n 2, 1) := by decide +kernel
theorem dX11_turned_227 : decode cX11_turned 227 = .ok (.ifCond .ne 6, 3) := by decide +kernel
theorem dX11_turned_230 : decode cX11_turned 230 = .ok (.iload_n 3, 1) := by decide +kernel
theorem dX11_turned_231 : decode cX11_turned 231 = .ok (.i2l, 1) := by decide +kernel
theorem dX11_turned_232 : decode cX11_turned 232 = .ok (.lreturn, 1) := by decide +kernel
theorem dX11_turned_233 : decode cX11_turned 233 = .ok (.lconst 0, 1) := by decide +kernel
theorem dX11_turned_234 : decode cX11_turned 234 = .ok (.lstore 5, 2) := by decide +kernel
theorem dX11_turned_236 : decode cX11_turned 236 = .ok (.iload 4, 2) := by decide +kernel
theorem dX11_turned_238 : decode cX11_turned 238 = .ok (.ifCond .ge 9, 3) := by decide +kernel
theorem dX11_turned_241 : decode cX11_turned 241 = .ok (.iload 4, 2) := by decide +kernel
theorem dX11_turned_243 : decode cX11_turned 243 = .ok (.ineg, 1) := by decide +kernel
theorem dX11_turned_244 : decode cX11_turned 244 = .ok (.goto 5, 3) := by decide +kernel
theorem dX11_turned_247 : decode cX11_turned 247 = .ok (.iload 4, 2) := by decide +kernel
theorem dX11_turned_249 : decode cX11_turned 249 = .ok (.istore 7, 2) := by decide +kernel
theorem dX11_turned_251 : decode cX11_turned 251 = .ok (.sipush (-3000), 3) := by decide +kernel
theorem dX11_turned_254 : decode cX11_turned 254 = .ok (.istore 8, 2) := by decide +kernel
theorem dX11_turned_256 : decode cX11_turned 256 = .ok (.iload 8, 2) := by decide +kernel
theorem dX11_turned_258 : decode cX11_turned 258 = .ok (.sipush 3000, 3) := by decide +kernel
theorem dX11_turned_261 : decode cX11_turned 261 = .ok (.if_icmp .gt 76, 3) := by decide +kernel
theorem dX11_turned_264 : decode cX11_turned 264 = .ok (.iload_n 2, 1) := by decide +kernel
theorem dX11_turned_265 : decode cX11_turned 265 = .ok (.iconst 1, 1) := by decide +kernel
theorem dX11_turned_266 : decode cX11_turned 266 = .ok (.if_icmp .ne 18, 3) := by decide +kernel
theorem dX11_turned_269 : decode cX11_turned 269 = .ok (.iload 8, 2) := by decide +kernel
theorem dX11_turned_271 : decode cX11_turned 271 = .ok (.iload 4, 2) := by decide +kernel
theorem dX11_turned_273 : decode cX11_turned 273 = .ok (.if_icmp .lt 7, 3) := by decide +kernel
theorem dX11_turned_276 : decode cX11_turned 276 = .ok (.iconst 1, 1) := by decide +kernel
theorem dX11_turned_277 : decode cX11_turned 277 = .ok (.goto 27, 3) := by decide +kernel
theorem dX11_turned_280 : decode cX11_turned 280 = .ok (.iconst 0, 1) := by decide +kernel
theorem dX11_turned_281 : decode cX11_turned 281 = .ok (.goto 23, 3) := by decide +kernel
theorem dX11_turned_284 : decode cX11_turned 284 = .ok (.iload 8, 2) := by decide +kernel
theorem dX11_turned_286 : decode cX11_turned 286 = .ok (.iload 7, 2) := by decide +kernel
theorem dX11_turned_288 : decode cX11_turned 288 = .ok (.if_icmp .ge 11, 3) := by decide +kernel
theorem dX11_turned_291 : decode cX11_turned 291 = .ok (.iload 8, 2) := by decide +kernel
theorem dX11_turned_293 : decode cX11_turned 293 = .ok (.iload 7, 2) := by decide +kernel
theorem dX11_turned_295 : decode cX11_turned 295 = .ok (.ineg, 1) := by decide +kernel
theorem dX11_turned_296 : decode cX11_turned 296 = .ok (.if_icmp .gt 7, 3) := by decide +kernel
theorem dX11_turned_299 : decode cX11_turned 299 = .ok (.iconst 1, 1) := by decide +kernel
theorem dX11_turned_300 : decode cX11_turned 300 = .ok (.goto 4, 3) := by decide +kernel
theorem dX11_turned_303 : decode cX11_turned 303 = .ok (.iconst 0, 1) := by decide +kernel
theorem dX11_turned_304 : decode cX11_turned 304 = .ok (.istore 9, 2) := by decide +kernel
theorem dX11_turned_306 : decode cX11_turned 306 = .ok (.lload 5, 2) := by decide +kernel
theorem dX11_turned_308 : decode cX11_turned 308 = .ok (.iload 9, 2) := by decide +kernel
theorem dX11_turned_310 : decode cX11_turned 310 = .ok (.ifCond .eq 17, 3) := by decide +kernel
theorem dX11_turned_313 : decode cX11_turned 313 = .ok (.aload_n 0, 1) := by decide +kernel
theorem dX11_turned_314 : decode cX11_turned 314 = .ok (.getfield 31, 3) := by decide +kernel
theorem dX11_turned_317 : decode cX11_turned 317 = .ok (.iload 8, 2) := by decide +kernel
theorem dX11_turned_319 : decode cX11_turned 319 = .ok (.sipush 3000, 3) := by decide +kernel
theorem dX11_turned_322 : decode cX11_turned 322 = .ok (.iadd, 1) := by decide +kernel
theorem dX11_turned_323 : decode cX11_turned 323 = .ok (.laload, 1) := by decide +kernel
theorem dX11_turned_324 : decode cX11_turned 324 = .ok (.goto 4, 3) := by decide +kernel
theorem dX11_turned_327 : decode cX11_turned 327 = .ok (.lconst 0, 1) := by decide +kernel
theorem dX11_turned_328 : decode cX11_turned 328 = .ok (.ladd, 1) := by decide +kernel
theorem dX11_turned_329 : decode cX11_turned 329 = .ok (.lstore 5, 2) := by decide +kernel
theorem dX11_turned_331 : decode cX11_turned 331 = .ok (.iinc 8 1, 3) := by decide +kernel
theorem dX11_turned_334 : decode cX11_turned 334 = .ok (.goto (-78), 3) := by decide +kernel
theorem dX11_turned_337 : decode cX11_turned 337 = .ok (.lload 5, 2) := by decide +kernel
theorem dX11_turned_339 : decode cX11_turned 339 = .ok (.lreturn, 1) := by decide +kernel
theorem dX11_count_0 : decode cX11_count 0 = .ok (.iconst 0, 1) := by decide +kernel
theorem dX11_count_1 : decode cX11_count 1 = .ok (.istore_n 3, 1) := by decide +kernel
theorem dX11_count_2 : decode cX11_count 2 = .ok (.iconst 0, 1) := by decide +kernel
theorem dX11_count_3 : decode cX11_count 3 = .ok (.istore 4, 2) := by decide +kernel
theorem dX11_count_5 : decode cX11_count 5 = .ok (.iload 4, 2) := by decide +kernel
theorem dX11_count_7 : decode cX11_count 7 = .ok (.aload_n 0, 1) := by decide +kernel
theorem dX11_count_8 : decode cX11_count 8 = .ok (.getfield 117, 3) := by decide +kernel
theorem dX11_count_11 : decode cX11_count 11 = .ok (.if_icmp .ge 66, 3) := by decide +kernel
theorem dX11_count_14 : decode cX11_count 14 = .ok (.aload_n 0, 1) := by decide +kernel
theorem dX11_count_15 : decode cX11_count 15 = .ok (.getfield 19, 3) := by decide +kernel
theorem dX11_count_18 : decode cX11_count 18 = .ok (.iload 4, 2) := by decide +kernel
theorem dX11_count_20 : decode cX11_count 20 = .ok (.iaload, 1) := by decide +kernel
theorem dX11_count_21 : decode cX11_count 21 = .ok (.iload_n 1, 1) := by decide +kernel
theorem dX11_count_22 : decode cX11_count 22 = .ok (.if_icmp .lt 7, 3) := by decide +kernel
theorem dX11_count_25 : decode cX11_count 25 = .ok (.iconst 1, 1) := by decide +kernel
theorem dX11_count_26 : decode cX11_count 26 = .ok (.goto 4, 3) := by decide +kernel
theorem dX11_count_29 : decode cX11_count 29 = .ok (.iconst 0, 1) := by decide +kernel
theorem dX11_count_30 : decode cX11_count 30 = .ok (.istore 5, 2) := by decide +kernel
theorem dX11_count_32 : decode cX11_count 32 = .ok (.aload_n 0, 1) := by decide +kernel
theorem dX11_count_33 : decode cX11_count 33 = .ok (.getfield 22, 3) := by decide +kernel
theorem dX11_count_36 : decode cX11_count 36 = .ok (.iload 4, 2) := by decide +kernel
theorem dX11_count_38 : decode cX11_count 38 = .ok (.iaload, 1) := by decide +kernel
theorem dX11_count_39 : decode cX11_count 39 = .ok (.iload_n 1, 1) := by decide +kernel
theorem dX11_count_40 : decode cX11_count 40 = .ok (.if_icmp .lt 7, 3) := by decide +kernel
theorem dX11_count_43 : decode cX11_count 43 = .ok (.iconst 1, 1) := by decide +kernel
theorem dX11_count_44 : decode cX11_count 44 = .ok (.goto 4, 3) := by decide +kernel
theorem dX11_count_47 : decode cX11_count 47 = .ok (.iconst 0, 1) := by decide +kernel
theorem dX11_count_48 : decode cX11_count 48 = .ok (.istore 6, 2) := by decide +kernel
theorem dX11_count_50 : decode cX11_count 50 = .ok (.iload_n 3, 1) := by decide +kernel
theorem dX11_count_51 : decode cX11_count 51 = .ok (.iload 5, 2) := by decide +kernel
theorem dX11_count_53 : decode cX11_count 53 = .ok (.iload 6, 2) := by decide +kernel
theorem dX11_count_55 : decode cX11_count 55 = .ok (.if_icmp .eq 13, 3) := by decide +kernel
theorem dX11_count_58 : decode cX11_count 58 = .ok (.iload 5, 2) := by decide +kernel
theorem dX11_count_60 : decode cX11_count 60 = .ok (.iload_n 2, 1) := by decide +kernel
theorem dX11_count_61 : decode cX11_count 61 = .ok (.if_icmp .ne 7, 3) := by decide +kernel
theorem dX11_count_64 : decode cX11_count 64 = .ok (.iconst 1, 1) := by decide +kernel
theorem dX11_count_65 : decode cX11_count 65 = .ok (.goto 4, 3) := by decide +kernel
theorem dX11_count_68 : decode cX11_count 68 = .ok (.iconst 0, 1) := by decide +kernel
theorem dX11_count_69 : decode cX11_count 69 = .ok (.iadd, 1) := by decide +kernel
theorem dX11_count_70 : decode cX11_count 70 = .ok (.istore_n 3, 1) := by decide +kernel
theorem dX11_count_71 : decode cX11_count 71 = .ok (.iinc 4 1, 3) := by decide +kernel
theorem dX11_count_74 : decode cX11_count 74 = .ok (.goto (-69), 3) := by decide +kernel
theorem dX11_count_77 : decode cX11_count 77 = .ok (.iload_n 3, 1) := by decide +kernel
theorem dX11_count_78 : decode cX11_count 78 = .ok (.ireturn, 1) := by decide +kernel
set_option maxRecDepth 20000 in
theorem ggX11_wins_X11_in : GoodIn wsX11_wins wsX11_in := goodIn_r _ [6] (by decide +kernel) (by decide +kernel)
set_option maxRecDepth 20000 in
theorem gX11_wins_X11_in : GoodIn wsX11_wins (va_wsS RX11 78 yX11_in wsX11_in) := goodIn_app (goodIn_of _ (by decide +kernel)) ggX11_wins_X11_in
set_option maxRecDepth 20000 in
theorem ggX11_wins_X11_count : GoodIn wsX11_wins wsX11_count := goodIn_r _ [10, 11, 12, 13, 14, 15, 16, 17, 18, 19, 20, 21, 22, 23, 24, 25, 26, 27, 28, 29, 30, 31, 32, 33, 34, 35, 36, 37, 38, 39] (by decide +kernel) (by decide +kernel)
set_option maxRecDepth 20000 in
theorem gX11_wins_X11_count : GoodIn wsX11_wins (wsV RX11 132 RX11 yX11_count wsX11_count) := goodIn_app (goodIn_of _ (by decide +kernel)) ggX11_wins_X11_count
theorem dX11_wins_0 : decode cX11_wins 0 = .ok (.aload_n 0, 1) := by decide +kernel
theorem dX11_wins_1 : decode cX11_wins 1 = .ok (.iconst 0, 1) := by decide +kernel
theorem dX11_wins_2 : decode cX11_wins 2 = .ok (.putfield 50, 3) := by decide +kernel
theorem dX11_wins_5 : decode cX11_wins 5 = .ok (.iload_n 1, 1) := by decide +kernel
theorem dX11_wins_6 : decode cX11_wins 6 = .ok (.i2l, 1) := by decide +kernel
theorem dX11_wins_7 : decode cX11_wins 7 = .ok (.lconst 0, 1) := by decide +kernel
theorem dX11_wins_8 : decode cX11_wins 8 = .ok (.ldc2_w 130, 3) := by decide +kernel
theorem dX11_wins_11 : decode cX11_wins 11 = .ok (.invokestatic 78, 3) := by decide +kernel
theorem dX11_wins_14 : decode cX11_wins 14 = .ok (.ifCond .eq 13, 3) := by decide +kernel
theorem dX11_wins_17 : decode cX11_wins 17 = .ok (.iload_n 2, 1) := by decide +kernel
theorem dX11_wins_18 : decode cX11_wins 18 = .ok (.i2l, 1) := by decide +kernel
theorem dX11_wins_19 : decode cX11_wins 19 = .ok (.lconst 0, 1) := by decide +kernel
theorem dX11_wins_20 : decode cX11_wins 20 = .ok (.lconst 1, 1) := by decide +kernel
theorem dX11_wins_21 : decode cX11_wins 21 = .ok (.invokestatic 78, 3) := by decide +kernel
theorem dX11_wins_24 : decode cX11_wins 24 = .ok (.ifCond .ne 7, 3) := by decide +kernel
theorem dX11_wins_27 : decode cX11_wins 27 = .ok (.iconst (-1), 1) := by decide +kernel
theorem dX11_wins_28 : decode cX11_wins 28 = .ok (.goto 17, 3) := by decide +kernel
theorem dX11_wins_31 : decode cX11_wins 31 = .ok (.aload_n 0, 1) := by decide +kernel
theorem dX11_wins_32 : decode cX11_wins 32 = .ok (.iload_n 1, 1) := by decide +kernel
theorem dX11_wins_33 : decode cX11_wins 33 = .ok (.iload_n 2, 1) := by decide +kernel
theorem dX11_wins_34 : decode cX11_wins 34 = .ok (.ifCond .ne 7, 3) := by decide +kernel
theorem dX11_wins_37 : decode cX11_wins 37 = .ok (.iconst 1, 1) := by decide +kernel
theorem dX11_wins_38 : decode cX11_wins 38 = .ok (.goto 4, 3) := by decide +kernel
theorem dX11_wins_41 : decode cX11_wins 41 = .ok (.iconst 0, 1) := by decide +kernel
theorem dX11_wins_42 : decode cX11_wins 42 = .ok (.invokevirtual 132, 3) := by decide +kernel
theorem dX11_wins_45 : decode cX11_wins 45 = .ok (.ireturn, 1) := by decide +kernel
theorem dX11_common_0 : decode cX11_common 0 = .ok (.lload_n 0, 1) := by decide +kernel
theorem dX11_common_1 : decode cX11_common 1 = .ok (.lconst 0, 1) := by decide +kernel
theorem dX11_common_2 : decode cX11_common 2 = .ok (.lcmp, 1) := by decide +kernel
theorem dX11_common_3 : decode cX11_common 3 = .ok (.ifCond .ge 8, 3) := by decide +kernel
theorem dX11_common_6 : decode cX11_common 6 = .ok (.lload_n 0, 1) := by decide +kernel
theorem dX11_common_7 : decode cX11_common 7 = .ok (.lneg, 1) := by decide +kernel
theorem dX11_common_8 : decode cX11_common 8 = .ok (.goto 4, 3) := by decide +kernel
theorem dX11_common_11 : decode cX11_common 11 = .ok (.lload_n 0, 1) := by decide +kernel
theorem dX11_common_12 : decode cX11_common 12 = .ok (.lstore 4, 2) := by decide +kernel
theorem dX11_common_14 : decode cX11_common 14 = .ok (.lload_n 2, 1) := by decide +kernel
theorem dX11_common_15 : decode cX11_common 15 = .ok (.lstore 6, 2) := by decide +kernel
theorem dX11_common_17 : decode cX11_common 17 = .ok (.lload 6, 2) := by decide +kernel
theorem dX11_common_19 : decode cX11_common 19 = .ok (.lconst 0, 1) := by decide +kernel
theorem dX11_common_20 : decode cX11_common 20 = .ok (.lcmp, 1) := by decide +kernel
theorem dX11_common_21 : decode cX11_common 21 = .ok (.ifCond .eq 21, 3) := by decide +kernel
theorem dX11_common_24 : decode cX11_common 24 = .ok (.lload 4, 2) := by decide +kernel
theorem dX11_common_26 : decode cX11_common 26 = .ok (.lload 6, 2) := by decide +kernel
theorem dX11_common_28 : decode cX11_common 28 = .ok (.lrem, 1) := by decide +kernel
theorem dX11_common_29 : decode cX11_common 29 = .ok (.lstore 8, 2) := by decide +kernel
theorem dX11_common_31 : decode cX11_common 31 = .ok (.lload 6, 2) := by decide +kernel
theorem dX11_common_33 : decode cX11_common 33 = .ok (.lstore 4, 2) := by decide +kernel
theorem dX11_common_35 : decode cX11_common 35 = .ok (.lload 8, 2) := by decide +kernel
theorem dX11_common_37 : decode cX11_common 37 = .ok (.lstore 6, 2) := by decide +kernel
theorem dX11_common_39 : decode cX11_common 39 = .ok (.goto (-22), 3) := by decide +kernel
theorem dX11_common_42 : decode cX11_common 42 = .ok (.lload 4, 2) := by decide +kernel
theorem dX11_common_44 : decode cX11_common 44 = .ok (.lreturn, 1) := by decide +kernel
set_option maxRecDepth 20000 in
theorem ggX11_told_X11_common : GoodIn wsX11_told wsX11_common := goodIn_r _ [4] (by decide +kernel) (by decide +kernel)
set_option maxRecDepth 20000 in
theorem gX11_told_X11_common : GoodIn wsX11_told (va_wsS RX11 136 yX11_common wsX11_common) := goodIn_app (goodIn_of _ (by decide +kernel)) ggX11_told_X11_common
theorem dX11_told_0 : decode cX11_told 0 = .ok (.lload_n 0, 1) := by decide +kernel
theorem dX11_told_1 : decode cX11_told 1 = .ok (.lload_n 2, 1) := by decide +kernel
theorem dX11_told_2 : decode cX11_told 2 = .ok (.invokestatic 136, 3) := by decide +kernel
theorem dX11_told_5 : decode cX11_told 5 = .ok (.lstore 5, 2) := by decide +kernel
theorem dX11_told_7 : decode cX11_told 7 = .ok (.iload 4, 2) := by decide +kernel
theorem dX11_told_9 : decode cX11_told 9 = .ok (.ifCond .ne 10, 3) := by decide +kernel
theorem dX11_told_12 : decode cX11_told 12 = .ok (.lload_n 0, 1) := by decide +kernel
theorem dX11_told_13 : decode cX11_told 13 = .ok (.lload 5, 2) := by decide +kernel
theorem dX11_told_15 : decode cX11_told 15 = .ok (.ldiv, 1) := by decide +kernel
theorem dX11_told_16 : decode cX11_told 16 = .ok (.goto 7, 3) := by decide +kernel
theorem dX11_told_19 : decode cX11_told 19 = .ok (.lload_n 2, 1) := by decide +kernel
theorem dX11_told_20 : decode cX11_told 20 = .ok (.lload 5, 2) := by decide +kernel
theorem dX11_told_22 : decode cX11_told 22 = .ok (.ldiv, 1) := by decide +kernel
theorem dX11_told_23 : decode cX11_told 23 = .ok (.lreturn, 1) := by decide +kernel
set_option maxRecDepth 20000 in
theorem ggX11_even_X11_in : GoodIn wsX11_even wsX11_in := goodIn_r _ [8] (by decide +kernel) (by decide +kernel)
set_option maxRecDepth 20000 in
theorem gX11_even_X11_in : GoodIn wsX11_even (va_wsS RX11 78 yX11_in wsX11_in) := goodIn_app (goodIn_of _ (by decide +kernel)) ggX11_even_X11_in
set_option maxRecDepth 20000 in
theorem ggX11_even_X11_count : GoodIn wsX11_even wsX11_count := goodIn_r _ [12, 13, 14, 15, 22, 23, 24, 25, 26, 27, 28, 29, 30, 31, 32, 33, 34, 35, 36, 37, 38, 39, 40, 41, 42, 43, 44, 45, 46, 47] (by decide +kernel) (by decide +kernel)
set_option maxRecDepth 20000 in
theorem gX11_even_X11_count : GoodIn wsX11_even (wsV RX11 132 RX11 yX11_count wsX11_count) := goodIn_app (goodIn_of _ (by decide +kernel)) ggX11_even_X11_count
set_option maxRecDepth 20000 in
theorem ggX11_even_X11_told : GoodIn wsX11_even wsX11_told := goodIn_r _ [18, 19, 20, 7, 21] (by decide +kernel) (by decide +kernel)
set_option maxRecDepth 20000 in
theorem gX11_even_X11_told : GoodIn wsX11_even (va_wsS RX11 140 yX11_told wsX11_told) := goodIn_app (goodIn_of _ (by decide +kernel)) ggX11_even_X11_told
theorem dX11_even_0 : decode cX11_even 0 = .ok (.aload_n 0, 1) := by decide +kernel
theorem dX11_even_1 : decode cX11_even 1 = .ok (.iconst 0, 1) := by decide +kernel
theorem dX11_even_2 : decode cX11_even 2 = .ok (.putfield 50, 3) := by decide +kernel
theorem dX11_even_5 : decode cX11_even 5 = .ok (.iload_n 1, 1) := by decide +kernel
theorem dX11_even_6 : decode cX11_even 6 = .ok (.i2l, 1) := by decide +kernel
theorem dX11_even_7 : decode cX11_even 7 = .ok (.lconst 0, 1) := by decide +kernel
theorem dX11_even_8 : decode cX11_even 8 = .ok (.ldc2_w 130, 3) := by decide +kernel
theorem dX11_even_11 : decode cX11_even 11 = .ok (.invokestatic 78, 3) := by decide +kernel
theorem dX11_even_14 : decode cX11_even 14 = .ok (.ifCond .eq 13, 3) := by decide +kernel
theorem dX11_even_17 : decode cX11_even 17 = .ok (.iload_n 2, 1) := by decide +kernel
theorem dX11_even_18 : decode cX11_even 18 = .ok (.i2l, 1) := by decide +kernel
theorem dX11_even_19 : decode cX11_even 19 = .ok (.lconst 0, 1) := by decide +kernel
theorem dX11_even_20 : decode cX11_even 20 = .ok (.lconst 1, 1) := by decide +kernel
theorem dX11_even_21 : decode cX11_even 21 = .ok (.invokestatic 78, 3) := by decide +kernel
theorem dX11_even_24 : decode cX11_even 24 = .ok (.ifCond .ne 7, 3) := by decide +kernel
theorem dX11_even_27 : decode cX11_even 27 = .ok (.ldc2_w 90, 3) := by decide +kernel
theorem dX11_even_30 : decode cX11_even 30 = .ok (.lreturn, 1) := by decide +kernel
theorem dX11_even_31 : decode cX11_even 31 = .ok (.aload_n 0, 1) := by decide +kernel
theorem dX11_even_32 : decode cX11_even 32 = .ok (.iload_n 1, 1) := by decide +kernel
theorem dX11_even_33 : decode cX11_even 33 = .ok (.iconst 1, 1) := by decide +kernel
theorem dX11_even_34 : decode cX11_even 34 = .ok (.invokevirtual 132, 3) := by decide +kernel
theorem dX11_even_37 : decode cX11_even 37 = .ok (.istore_n 3, 1) := by decide +kernel
theorem dX11_even_38 : decode cX11_even 38 = .ok (.aload_n 0, 1) := by decide +kernel
theorem dX11_even_39 : decode cX11_even 39 = .ok (.iload_n 1, 1) := by decide +kernel
theorem dX11_even_40 : decode cX11_even 40 = .ok (.iconst 0, 1) := by decide +kernel
theorem dX11_even_41 : decode cX11_even 41 = .ok (.invokevirtual 132, 3) := by decide +kernel
theorem dX11_even_44 : decode cX11_even 44 = .ok (.istore 4, 2) := by decide +kernel
theorem dX11_even_46 : decode cX11_even 46 = .ok (.lconst 0, 1) := by decide +kernel
theorem dX11_even_47 : decode cX11_even 47 = .ok (.lstore 5, 2) := by decide +kernel
theorem dX11_even_49 : decode cX11_even 49 = .ok (.lconst 1, 1) := by decide +kernel
theorem dX11_even_50 : decode cX11_even 50 = .ok (.lstore 7, 2) := by decide +kernel
theorem dX11_even_52 : decode cX11_even 52 = .ok (.iload_n 3, 1) := by decide +kernel
theorem dX11_even_53 : decode cX11_even 53 = .ok (.iload 4, 2) := by decide +kernel
theorem dX11_even_55 : decode cX11_even 55 = .ok (.iadd, 1) := by decide +kernel
theorem dX11_even_56 : decode cX11_even 56 = .ok (.istore 9, 2) := by decide +kernel
theorem dX11_even_58 : decode cX11_even 58 = .ok (.iconst 0, 1) := by decide +kernel
theorem dX11_even_59 : decode cX11_even 59 = .ok (.istore 10, 2) := by decide +kernel
theorem dX11_even_61 : decode cX11_even 61 = .ok (.iload 10, 2) := by decide +kernel
theorem dX11_even_63 : decode cX11_even 63 = .ok (.iload_n 3, 1) := by decide +kernel
theorem dX11_even_64 : decode cX11_even 64 = .ok (.iload 4, 2) := by decide +kernel
theorem dX11_even_66 : decode cX11_even 66 = .ok (.if_icmp .ge 7, 3) := by decide +kernel
theorem dX11_even_69 : decode cX11_even 69 = .ok (.iload_n 3, 1) := by decide +kernel
theorem dX11_even_70 : decode cX11_even 70 = .ok (.goto 5, 3) := by decide +kernel
theorem dX11_even_73 : decode cX11_even 73 = .ok (.iload 4, 2) := by decide +kernel
theorem dX11_even_75 : decode cX11_even 75 = .ok (.if_icmp .gt 33, 3) := by decide +kernel
theorem dX11_even_78 : decode cX11_even 78 = .ok (.lload 5, 2) := by decide +kernel
theorem dX11_even_80 : decode cX11_even 80 = .ok (.lload 7, 2) := by decide +kernel
theorem dX11_even_82 : decode cX11_even 82 = .ok (.ladd, 1) := by decide +kernel
theorem dX11_even_83 : decode cX11_even 83 = .ok (.lstore 5, 2) := by decide +kernel
theorem dX11_even_85 : decode cX11_even 85 = .ok (.lload 7, 2) := by decide +kernel
theorem dX11_even_87 : decode cX11_even 87 = .ok (.iload 9, 2) := by decide +kernel
theorem dX11_even_89 : decode cX11_even 89 = .ok (.iload 10, 2) := by decide +kernel
theorem dX11_even_91 : decode cX11_even 91 = .ok (.isub, 1) := by decide +kernel
theorem dX11_even_92 : decode cX11_even 92 = .ok (.i2l, 1) := by decide +kernel
theorem dX11_even_93 : decode cX11_even 93 = .ok (.lmul, 1) := by decide +kernel
theorem dX11_even_94 : decode cX11_even 94 = .ok (.iload 10, 2) := by decide +kernel
theorem dX11_even_96 : decode cX11_even 96 = .ok (.iconst 1, 1) := by decide +kernel
theorem dX11_even_97 : decode cX11_even 97 = .ok (.iadd, 1) := by decide +kernel
theorem dX11_even_98 : decode cX11_even 98 = .ok (.i2l, 1) := by decide +kernel
theorem dX11_even_99 : decode cX11_even 99 = .ok (.ldiv, 1) := by decide +kernel
theorem dX11_even_100 : decode cX11_even 100 = .ok (.lstore 7, 2) := by decide +kernel
theorem dX11_even_102 : decode cX11_even 102 = .ok (.iinc 10 1, 3) := by decide +kernel
theorem dX11_even_105 : decode cX11_even 105 = .ok (.goto (-44), 3) := by decide +kernel
theorem dX11_even_108 : decode cX11_even 108 = .ok (.ldc2_w 108, 3) := by decide +kernel
theorem dX11_even_111 : decode cX11_even 111 = .ok (.lload 5, 2) := by decide +kernel
theorem dX11_even_113 : decode cX11_even 113 = .ok (.lmul, 1) := by decide +kernel
theorem dX11_even_114 : decode cX11_even 114 = .ok (.lstore 5, 2) := by decide +kernel
theorem dX11_even_116 : decode cX11_even 116 = .ok (.lconst 1, 1) := by decide +kernel
theorem dX11_even_117 : decode cX11_even 117 = .ok (.iload 9, 2) := by decide +kernel
theorem dX11_even_119 : decode cX11_even 119 = .ok (.lshl, 1) := by decide +kernel
theorem dX11_even_120 : decode cX11_even 120 = .ok (.lstore 10, 2) := by decide +kernel
theorem dX11_even_122 : decode cX11_even 122 = .ok (.lload 5, 2) := by decide +kernel
theorem dX11_even_124 : decode cX11_even 124 = .ok (.lload 10, 2) := by decide +kernel
theorem dX11_even_126 : decode cX11_even 126 = .ok (.lcmp, 1) := by decide +kernel
theorem dX11_even_127 : decode cX11_even 127 = .ok (.ifCond .le 8, 3) := by decide +kernel
theorem dX11_even_130 : decode cX11_even 130 = .ok (.lload 10, 2) := by decide +kernel
theorem dX11_even_132 : decode cX11_even 132 = .ok (.goto 5, 3) := by decide +kernel
theorem dX11_even_135 : decode cX11_even 135 = .ok (.lload 5, 2) := by decide +kernel
theorem dX11_even_137 : decode cX11_even 137 = .ok (.lload 10, 2) := by decide +kernel
theorem dX11_even_139 : decode cX11_even 139 = .ok (.iload_n 2, 1) := by decide +kernel
theorem dX11_even_140 : decode cX11_even 140 = .ok (.invokestatic 140, 3) := by decide +kernel
theorem dX11_even_143 : decode cX11_even 143 = .ok (.lreturn, 1) := by decide +kernel
set_option maxRecDepth 20000 in
theorem ggX11_draw_X11_in : GoodIn wsX11_draw wsX11_in := goodIn_r _ [15] (by decide +kernel) (by decide +kernel)
set_option maxRecDepth 20000 in
theorem gX11_draw_X11_in : GoodIn wsX11_draw (va_wsS RX11 78 yX11_in wsX11_in) := goodIn_app (goodIn_of _ (by decide +kernel)) ggX11_draw_X11_in
set_option maxRecDepth 20000 in
theorem ggX11_draw_X11_unite : GoodIn wsX11_draw wsX11_unite := goodIn_r _ [19, 5, 3, 20, 21, 22, 8, 9, 23, 24, 25, 26, 27, 28, 29, 30, 31, 32, 33, 34, 35, 36, 37, 38, 39, 40, 41, 42, 43, 44, 45, 46, 47, 48] (by decide +kernel) (by decide +kernel)
set_option maxRecDepth 20000 in
theorem gX11_draw_X11_unite : GoodIn wsX11_draw (wsV RX11 124 RX11 yX11_unite wsX11_unite) := goodIn_app (goodIn_of _ (by decide +kernel)) ggX11_draw_X11_unite
theorem dX11_draw_0 : decode cX11_draw 0 = .ok (.aload_n 0, 1) := by decide +kernel
theorem dX11_draw_1 : decode cX11_draw 1 = .ok (.iconst 0, 1) := by decide +kernel
theorem dX11_draw_2 : decode cX11_draw 2 = .ok (.putfield 50, 3) := by decide +kernel
theorem dX11_draw_5 : decode cX11_draw 5 = .ok (.iload_n 3, 1) := by decide +kernel
theorem dX11_draw_6 : decode cX11_draw 6 = .ok (.i2l, 1) := by decide +kernel
theorem dX11_draw_7 : decode cX11_draw 7 = .ok (.lconst 1, 1) := by decide +kernel
theorem dX11_draw_8 : decode cX11_draw 8 = .ok (.ldc2_w 144, 3) := by decide +kernel
theorem dX11_draw_11 : decode cX11_draw 11 = .ok (.invokestatic 78, 3) := by decide +kernel
theorem dX11_draw_14 : decode cX11_draw 14 = .ok (.ifCond .ne 5, 3) := by decide +kernel
theorem dX11_draw_17 : decode cX11_draw 17 = .ok (.iconst (-1), 1) := by decide +kernel
theorem dX11_draw_18 : decode cX11_draw 18 = .ok (.ireturn, 1) := by decide +kernel
theorem dX11_draw_19 : decode cX11_draw 19 = .ok (.aload_n 0, 1) := by decide +kernel
theorem dX11_draw_20 : decode cX11_draw 20 = .ok (.getfield 117, 3) := by decide +kernel
theorem dX11_draw_23 : decode cX11_draw 23 = .ok (.ifCond .ne 6, 3) := by decide +kernel
theorem dX11_draw_26 : decode cX11_draw 26 = .ok (.bipush (-3), 2) := by decide +kernel
theorem dX11_draw_28 : decode cX11_draw 28 = .ok (.ireturn, 1) := by decide +kernel
theorem dX11_draw_29 : decode cX11_draw 29 = .ok (.aload_n 0, 1) := by decide +kernel
theorem dX11_draw_30 : decode cX11_draw 30 = .ok (.iload 4, 2) := by decide +kernel
theorem dX11_draw_32 : decode cX11_draw 32 = .ok (.invokevirtual 124, 3) := by decide +kernel
theorem dX11_draw_35 : decode cX11_draw 35 = .ok (.aload_n 0, 1) := by decide +kernel
theorem dX11_draw_36 : decode cX11_draw 36 = .ok (.iconst 0, 1) := by decide +kernel
theorem dX11_draw_37 : decode cX11_draw 37 = .ok (.putfield 146, 3) := by decide +kernel
theorem dX11_draw_40 : decode cX11_draw 40 = .ok (.lload_n 1, 1) := by decide +kernel
theorem dX11_draw_41 : decode cX11_draw 41 = .ok (.lstore 5, 2) := by decide +kernel
theorem dX11_draw_43 : decode cX11_draw 43 = .ok (.iconst 0, 1) := by decide +kernel
theorem dX11_draw_44 : decode cX11_draw 44 = .ok (.istore 7, 2) := by decide +kernel
theorem dX11_draw_46 : decode cX11_draw 46 = .ok (.iload 7, 2) := by decide +kernel
theorem dX11_draw_48 : decode cX11_draw 48 = .ok (.iload_n 3, 1) := by decide +kernel
theorem dX11_draw_49 : decode cX11_draw 49 = .ok (.if_icmp .ge 192, 3) := by decide +kernel
theorem dX11_draw_52 : decode cX11_draw 52 = .ok (.iconst 0, 1) := by decide +kernel
theorem dX11_draw_53 : decode cX11_draw 53 = .ok (.istore 8, 2) := by decide +kernel
theorem dX11_draw_55 : decode cX11_draw 55 = .ok (.iconst 0, 1) := by decide +kernel
theorem dX11_draw_56 : decode cX11_draw 56 = .ok (.istore 9, 2) := by decide +kernel
theorem dX11_draw_58 : decode cX11_draw 58 = .ok (.iconst 0, 1) := by decide +kernel
theorem dX11_draw_59 : decode cX11_draw 59 = .ok (.istore 10, 2) := by decide +kernel
theorem dX11_draw_61 : decode cX11_draw 61 = .ok (.iload 10, 2) := by decide +kernel
theorem dX11_draw_63 : decode cX11_draw 63 = .ok (.aload_n 0, 1) := by decide +kernel
theorem dX11_draw_64 : decode cX11_draw 64 = .ok (.getfield 114, 3) := by decide +kernel
theorem dX11_draw_67 : decode cX11_draw 67 = .ok (.if_icmp .ge 59, 3) := by decide +kernel
theorem dX11_draw_70 : decode cX11_draw 70 = .ok (.lload 5, 2) := by decide +kernel
theorem dX11_draw_72 : decode cX11_draw 72 = .ok (.ldc2_w 149, 3) := by decide +kernel
theorem dX11_draw_75 : decode cX11_draw 75 = .ok (.lmul, 1) := by decide +kernel
theorem dX11_draw_76 : decode cX11_draw 76 = .ok (.ldc2_w 151, 3) := by decide +kernel
theorem dX11_draw_79 : decode cX11_draw 79 = .ok (.ladd, 1) := by decide +kernel
theorem dX11_draw_80 : decode cX11_draw 80 = .ok (.lstore 5, 2) := by decide +kernel
theorem dX11_draw_82 : decode cX11_draw 82 = .ok (.lload 5, 2) := by decide +kernel
theorem dX11_draw_84 : decode cX11_draw 84 = .ok (.bipush 33, 2) := by decide +kernel
theorem dX11_draw_86 : decode cX11_draw 86 = .ok (.lushr, 1) := by decide +kernel
theorem dX11_draw_87 : decode cX11_draw 87 = .ok (.aload_n 0, 1) := by decide +kernel
theorem dX11_draw_88 : decode cX11_draw 88 = .ok (.getfield 114, 3) := by decide +kernel
theorem dX11_draw_91 : decode cX11_draw 91 = .ok (.i2l, 1) := by decide +kernel
theorem dX11_draw_92 : decode cX11_draw 92 = .ok (.lrem, 1) := by decide +kernel
theorem dX11_draw_93 : decode cX11_draw 93 = .ok (.l2i, 1) := by decide +kernel
theorem dX11_draw_94 : decode cX11_draw 94 = .ok (.istore 11, 2) := by decide +kernel
theorem dX11_draw_96 : decode cX11_draw 96 = .ok (.iload 8, 2) := by decide +kernel
theorem dX11_draw_98 : decode cX11_draw 98 = .ok (.aload_n 0, 1) := by decide +kernel
theorem dX11_draw_99 : decode cX11_draw 99 = .ok (.getfield 25, 3) := by decide +kernel
theorem dX11_draw_102 : decode cX11_draw 102 = .ok (.iload 11, 2) := by decide +kernel
theorem dX11_draw_104 : decode cX11_draw 104 = .ok (.iaload, 1) := by decide +kernel
theorem dX11_draw_105 : decode cX11_draw 105 = .ok (.iadd, 1) := by decide +kernel
theorem dX11_draw_106 : decode cX11_draw 106 = .ok (.istore 8, 2) := by decide +kernel
theorem dX11_draw_108 : decode cX11_draw 108 = .ok (.iload 9, 2) := by decide +kernel
theorem dX11_draw_110 : decode cX11_draw 110 = .ok (.aload_n 0, 1) := by decide +kernel
theorem dX11_draw_111 : decode cX11_draw 111 = .ok (.getfield 28, 3) := by decide +kernel
theorem dX11_draw_114 : decode cX11_draw 114 = .ok (.iload 11, 2) := by decide +kernel
theorem dX11_draw_116 : decode cX11_draw 116 = .ok (.iaload, 1) := by decide +kernel
theorem dX11_draw_117 : decode cX11_draw 117 = .ok (.iadd, 1) := by decide +kernel
theorem dX11_draw_118 : decode cX11_draw 118 = .ok (.istore 9, 2) := by decide +kernel
theorem dX11_draw_120 : decode cX11_draw 120 = .ok (.iinc 10 1, 3) := by decide +kernel
theorem dX11_draw_123 : decode cX11_draw 123 = .ok (.goto (-62), 3) := by decide +kernel
theorem dX11_draw_126 : decode cX11_draw 126 = .ok (.aload_n 0, 1) := by decide +kernel
theorem dX11_draw_127 : decode cX11_draw 127 = .ok (.getfield 146, 3) := by decide +kernel
theorem dX11_draw_130 : decode cX11_draw 130 = .ok (.istore 10, 2) := by decide +kernel
theorem dX11_draw_132 : decode cX11_draw 132 = .ok (.iload 10, 2) := by decide +kernel
theorem dX11_draw_134 : decode cX11_draw 134 = .ok (.ifCond .le 73, 3) := by decide +kernel
theorem dX11_draw_137 : decode cX11_draw 137 = .ok (.aload_n 0, 1) := by decide +kernel
theorem dX11_draw_138 : decode cX11_draw 138 = .ok (.getfield 38, 3) := by decide +kernel
theorem dX11_draw_141 : decode cX11_draw 141 = .ok (.iload 10, 2) := by decide +kernel
theorem dX11_draw_143 : decode cX11_draw 143 = .ok (.iconst 1, 1) := by decide +kernel
theorem dX11_draw_144 : decode cX11_draw 144 = .ok (.isub, 1) := by decide +kernel
theorem dX11_draw_145 : decode cX11_draw 145 = .ok (.iaload, 1) := by decide +kernel
theorem dX11_draw_146 : decode cX11_draw 146 = .ok (.i2l, 1) := by decide +kernel
theorem dX11_draw_147 : decode cX11_draw 147 = .ok (.iload 9, 2) := by decide +kernel
theorem dX11_draw_149 : decode cX11_draw 149 = .ok (.i2l, 1) := by decide +kernel
theorem dX11_draw_150 : decode cX11_draw 150 = .ok (.lmul, 1) := by decide +kernel
theorem dX11_draw_151 : decode cX11_draw 151 = .ok (.iload 8, 2) := by decide +kernel
theorem dX11_draw_153 : decode cX11_draw 153 = .ok (.i2l, 1) := by decide +kernel
theorem dX11_draw_154 : decode cX11_draw 154 = .ok (.aload_n 0, 1) := by decide +kernel
theorem dX11_draw_155 : decode cX11_draw 155 = .ok (.getfield 41, 3) := by decide +kernel
theorem dX11_draw_158 : decode cX11_draw 158 = .ok (.iload 10, 2) := by decide +kernel
theorem dX11_draw_160 : decode cX11_draw 160 = .ok (.iconst 1, 1) := by decide +kernel
theorem dX11_draw_161 : decode cX11_draw 161 = .ok (.isub, 1) := by decide +kernel
theorem dX11_draw_162 : decode cX11_draw 162 = .ok (.iaload, 1) := by decide +kernel
theorem dX11_draw_163 : decode cX11_draw 163 = .ok (.i2l, 1) := by decide +kernel
theorem dX11_draw_164 : decode cX11_draw 164 = .ok (.lmul, 1) := by decide +kernel
theorem dX11_draw_165 : decode cX11_draw 165 = .ok (.lcmp, 1) := by decide +kernel
theorem dX11_draw_166 : decode cX11_draw 166 = .ok (.ifCond .le 41, 3) := by decide +kernel
theorem dX11_draw_169 : decode cX11_draw 169 = .ok (.aload_n 0, 1) := by decide +kernel
theorem dX11_draw_170 : decode cX11_draw 170 = .ok (.getfield 38, 3) := by decide +kernel
theorem dX11_draw_173 : decode cX11_draw 173 = .ok (.iload 10, 2) := by decide +kernel
theorem dX11_draw_175 : decode cX11_draw 175 = .ok (.aload_n 0, 1) := by decide +kernel
theorem dX11_draw_176 : decode cX11_draw 176 = .ok (.getfield 38, 3) := by decide +kernel
theorem dX11_draw_179 : decode cX11_draw 179 = .ok (.iload 10, 2) := by decide +kernel
theorem dX11_draw_181 : decode cX11_draw 181 = .ok (.iconst 1, 1) := by decide +kernel
theorem dX11_draw_182 : decode cX11_draw 182 = .ok (.isub, 1) := by decide +kernel
theorem dX11_draw_183 : decode cX11_draw 183 = .ok (.iaload, 1) := by decide +kernel
theorem dX11_draw_184 : decode cX11_draw 184 = .ok (.iastore, 1) := by decide +kernel
theorem dX11_draw_185 : decode cX11_draw 185 = .ok (.aload_n 0, 1) := by decide +kernel
theorem dX11_draw_186 : decode cX11_draw 186 = .ok (.getfield 41, 3) := by decide +kernel
theorem dX11_draw_189 : decode cX11_draw 189 = .ok (.iload 10, 2) := by decide +kernel
theorem dX11_draw_191 : decode cX11_draw 191 = .ok (.aload_n 0, 1) := by decide +kernel
theorem dX11_draw_192 : decode cX11_draw 192 = .ok (.getfield 41, 3) := by decide +kernel
theorem dX11_draw_195 : decode cX11_draw 195 = .ok (.iload 10, 2) := by decide +kernel
theorem dX11_draw_197 : decode cX11_draw 197 = .ok (.iconst 1, 1) := by decide +kernel
theorem dX11_draw_198 : decode cX11_draw 198 = .ok (.isub, 1) := by decide +kernel
theorem dX11_draw_199 : decode cX11_draw 199 = .ok (.iaload, 1) := by decide +kernel
theorem dX11_draw_200 : decode cX11_draw 200 = .ok (.iastore, 1) := by decide +kernel
theorem dX11_draw_201 : decode cX11_draw 201 = .ok (.iinc 10 (-1), 3) := by decide +kernel
theorem dX11_draw_204 : decode cX11_draw 204 = .ok (.goto (-72), 3) := by decide +kernel
theorem dX11_draw_207 : decode cX11_draw 207 = .ok (.aload_n 0, 1) := by decide +kernel
theorem dX11_draw_208 : decode cX11_draw 208 = .ok (.getfield 38, 3) := by decide +kernel
theorem dX11_draw_211 : decode cX11_draw 211 = .ok (.iload 10, 2) := by decide +kernel
theorem dX11_draw_213 : decode cX11_draw 213 = .ok (.iload 8, 2) := by decide +kernel
theorem dX11_draw_215 : decode cX11_draw 215 = .ok (.iastore, 1) := by decide +kernel
theorem dX11_draw_216 : decode cX11_draw 216 = .ok (.aload_n 0, 1) := by decide +kernel
theorem dX11_draw_217 : decode cX11_draw 217 = .ok (.getfield 41, 3) := by decide +kernel
theorem dX11_draw_220 : decode cX11_draw 220 = .ok (.iload 10, 2) := by decide +kernel
theorem dX11_draw_222 : decode cX11_draw 222 = .ok (.iload 9, 2) := by decide +kernel
theorem dX11_draw_224 : decode cX11_draw 224 = .ok (.iastore, 1) := by decide +kernel
theorem dX11_draw_225 : decode cX11_draw 225 = .ok (.aload_n 0, 1) := by decide +kernel
theorem dX11_draw_226 : decode cX11_draw 226 = .ok (.dup, 1) := by decide +kernel
theorem dX11_draw_227 : decode cX11_draw 227 = .ok (.getfield 146, 3) := by decide +kernel
theorem dX11_draw_230 : decode cX11_draw 230 = .ok (.iconst 1, 1) := by decide +kernel
theorem dX11_draw_231 : decode cX11_draw 231 = .ok (.iadd, 1) := by decide +kernel
theorem dX11_draw_232 : decode cX11_draw 232 = .ok (.putfield 146, 3) := by decide +kernel
theorem dX11_draw_235 : decode cX11_draw 235 = .ok (.iinc 7 1, 3) := by decide +kernel
theorem dX11_draw_238 : decode cX11_draw 238 = .ok (.goto (-192), 3) := by decide +kernel
theorem dX11_draw_241 : decode cX11_draw 241 = .ok (.aload_n 0, 1) := by decide +kernel
theorem dX11_draw_242 : decode cX11_draw 242 = .ok (.getfield 114, 3) := by decide +kernel
theorem dX11_draw_245 : decode cX11_draw 245 = .ok (.ireturn, 1) := by decide +kernel
set_option maxRecDepth 20000 in
theorem ggX11_drawn_X11_in : GoodIn wsX11_drawn wsX11_in := goodIn_r _ [9] (by decide +kernel) (by decide +kernel)
set_option maxRecDepth 20000 in
theorem gX11_drawn_X11_in : GoodIn wsX11_drawn (va_wsS RX11 78 yX11_in wsX11_in) := goodIn_app (goodIn_of _ (by decide +kernel)) ggX11_drawn_X11_in
set_option maxRecDepth 20000 in
theorem ggX11_drawn_X11_told : GoodIn wsX11_drawn wsX11_told := goodIn_r _ [12, 13, 14, 8, 15] (by decide +kernel) (by decide +kernel)
set_option maxRecDepth 20000 in
theorem gX11_drawn_X11_told : GoodIn wsX11_drawn (va_wsS RX11 140 yX11_told wsX11_told) := goodIn_app (goodIn_of _ (by decide +kernel)) ggX11_drawn_X11_told
theorem dX11_drawn_0 : decode cX11_drawn 0 = .ok (.aload_n 0, 1) := by decide +kernel
theorem dX11_drawn_1 : decode cX11_drawn 1 = .ok (.iconst 0, 1) := by decide +kernel
theorem dX11_drawn_2 : decode cX11_drawn 2 = .ok (.putfield 50, 3) := by decide +kernel
theorem dX11_drawn_5 : decode cX11_drawn 5 = .ok (.iload_n 2, 1) := by decide +kernel
theorem dX11_drawn_6 : decode cX11_drawn 6 = .ok (.i2l, 1) := by decide +kernel
theorem dX11_drawn_7 : decode cX11_drawn 7 = .ok (.lconst 0, 1) := by decide +kernel
theorem dX11_drawn_8 : decode cX11_drawn 8 = .ok (.lconst 1, 1) := by decide +kernel
theorem dX11_drawn_9 : decode cX11_drawn 9 = .ok (.invokestatic 78, 3) := by decide +kernel
theorem dX11_drawn_12 : decode cX11_drawn 12 = .ok (.ifCond .ne 7, 3) := by decide +kernel
theorem dX11_drawn_15 : decode cX11_drawn 15 = .ok (.ldc2_w 90, 3) := by decide +kernel
theorem dX11_drawn_18 : decode cX11_drawn 18 = .ok (.lreturn, 1) := by decide +kernel
theorem dX11_drawn_19 : decode cX11_drawn 19 = .ok (.aload_n 0, 1) := by decide +kernel
theorem dX11_drawn_20 : decode cX11_drawn 20 = .ok (.iload_n 1, 1) := by decide +kernel
theorem dX11_drawn_21 : decode cX11_drawn 21 = .ok (.i2l, 1) := by decide +kernel
theorem dX11_drawn_22 : decode cX11_drawn 22 = .ok (.lconst 0, 1) := by decide +kernel
theorem dX11_drawn_23 : decode cX11_drawn 23 = .ok (.aload_n 0, 1) := by decide +kernel
theorem dX11_drawn_24 : decode cX11_drawn 24 = .ok (.getfield 146, 3) := by decide +kernel
theorem dX11_drawn_27 : decode cX11_drawn 27 = .ok (.iconst 1, 1) := by decide +kernel
theorem dX11_drawn_28 : decode cX11_drawn 28 = .ok (.isub, 1) := by decide +kernel
theorem dX11_drawn_29 : decode cX11_drawn 29 = .ok (.i2l, 1) := by decide +kernel
theorem dX11_drawn_30 : decode cX11_drawn 30 = .ok (.invokestatic 78, 3) := by decide +kernel
theorem dX11_drawn_33 : decode cX11_drawn 33 = .ok (.ifCond .eq 7, 3) := by decide +kernel
theorem dX11_drawn_36 : decode cX11_drawn 36 = .ok (.iconst 0, 1) := by decide +kernel
theorem dX11_drawn_37 : decode cX11_drawn 37 = .ok (.goto 4, 3) := by decide +kernel
theorem dX11_drawn_40 : decode cX11_drawn 40 = .ok (.iconst 1, 1) := by decide +kernel
theorem dX11_drawn_41 : decode cX11_drawn 41 = .ok (.putfield 50, 3) := by decide +kernel
theorem dX11_drawn_44 : decode cX11_drawn 44 = .ok (.aload_n 0, 1) := by decide +kernel
theorem dX11_drawn_45 : decode cX11_drawn 45 = .ok (.getfield 50, 3) := by decide +kernel
theorem dX11_drawn_48 : decode cX11_drawn 48 = .ok (.ifCond .le 7, 3) := by decide +kernel
theorem dX11_drawn_51 : decode cX11_drawn 51 = .ok (.lconst 0, 1) := by decide +kernel
theorem dX11_drawn_52 : decode cX11_drawn 52 = .ok (.goto 21, 3) := by decide +kernel
theorem dX11_drawn_55 : decode cX11_drawn 55 = .ok (.aload_n 0, 1) := by decide +kernel
theorem dX11_drawn_56 : decode cX11_drawn 56 = .ok (.getfield 38, 3) := by decide +kernel
theorem dX11_drawn_59 : decode cX11_drawn 59 = .ok (.iload_n 1, 1) := by decide +kernel
theorem dX11_drawn_60 : decode cX11_drawn 60 = .ok (.iaload, 1) := by decide +kernel
theorem dX11_drawn_61 : decode cX11_drawn 61 = .ok (.i2l, 1) := by decide +kernel
theorem dX11_drawn_62 : decode cX11_drawn 62 = .ok (.aload_n 0, 1) := by decide +kernel
theorem dX11_drawn_63 : decode cX11_drawn 63 = .ok (.getfield 41, 3) := by decide +kernel
theorem dX11_drawn_66 : decode cX11_drawn 66 = .ok (.iload_n 1, 1) := by decide +kernel
theorem dX11_drawn_67 : decode cX11_drawn 67 = .ok (.iaload, 1) := by decide +kernel
theorem dX11_drawn_68 : decode cX11_drawn 68 = .ok (.i2l, 1) := by decide +kernel
theorem dX11_drawn_69 : decode cX11_drawn 69 = .ok (.iload_n 2, 1) := by decide +kernel
theorem dX11_drawn_70 : decode cX11_drawn 70 = .ok (.invokestatic 140, 3) := by decide +kernel
theorem dX11_drawn_73 : decode cX11_drawn 73 = .ok (.lreturn, 1) := by decide +kernel
set_option maxRecDepth 20000 in
theorem ggX11_percentile_X11_in : GoodIn wsX11_percentile wsX11_in := goodIn_r _ [11] (by decide +kernel) (by decide +kernel)
set_option maxRecDepth 20000 in
theorem gX11_percentile_X11_in : GoodIn wsX11_percentile (va_wsS RX11 78 yX11_in wsX11_in) := goodIn_app (goodIn_of _ (by decide +kernel)) ggX11_percentile_X11_in
set_option maxRecDepth 20000 in
theorem ggX11_percentile_X11_told : GoodIn wsX11_percentile wsX11_told := goodIn_r _ [14, 15, 16, 10, 17] (by decide +kernel) (by decide +kernel)
set_option maxRecDepth 20000 in
theorem gX11_percentile_X11_told : GoodIn wsX11_percentile (va_wsS RX11 140 yX11_told wsX11_told) := goodIn_app (goodIn_of _ (by decide +kernel)) ggX11_percentile_X11_told
theorem dX11_percentile_0 : decode cX11_percentile 0 = .ok (.aload_n 0, 1) := by decide +kernel
theorem dX11_percentile_1 : decode cX11_percentile 1 = .ok (.iconst 0, 1) := by decide +kernel
theorem dX11_percentile_2 : decode cX11_percentile 2 = .ok (.putfield 50, 3) := by decide +kernel
theorem dX11_percentile_5 : decode cX11_percentile 5 = .ok (.iload_n 2, 1) := by decide +kernel
theorem dX11_percentile_6 : decode cX11_percentile 6 = .ok (.i2l, 1) := by decide +kernel
theorem dX11_percentile_7 : decode cX11_percentile 7 = .ok (.lconst 1, 1) := by decide +kernel
