theorem dX11_status_0 : decode cX11_status 0 = .ok (.aload_n 0, 1) := by decide +kernel
theorem dX11_status_1 : decode cX11_status 1 = .ok (.iconst 0, 1) := by decide +kernel
theorem dX11_status_2 : decode cX11_status 2 = .ok (.putfield 146, 3) := by decide +kernel
theorem dX11_status_5 : decode cX11_status 5 = .ok (.aload_n 0, 1) := by decide +kernel
theorem dX11_status_6 : decode cX11_status 6 = .ok (.getfield 149, 3) := by decide +kernel
theorem dX11_status_9 : decode cX11_status 9 = .ok (.ireturn, 1) := by decide +kernel
theorem dX11_refuse_0 : decode cX11_refuse 0 = .ok (.aload_n 0, 1) := by decide +kernel
theorem dX11_refuse_1 : decode cX11_refuse 1 = .ok (.iload_n 1, 1) := by decide +kernel
theorem dX11_refuse_2 : decode cX11_refuse 2 = .ok (.putfield 149, 3) := by decide +kernel
theorem dX11_refuse_5 : decode cX11_refuse 5 = .ok (.iconst (-1), 1) := by decide +kernel
theorem dX11_refuse_6 : decode cX11_refuse 6 = .ok (.ireturn, 1) := by decide +kernel
theorem dX11_no_0 : decode cX11_no 0 = .ok (.aload_n 0, 1) := by decide +kernel
theorem dX11_no_1 : decode cX11_no 1 = .ok (.iload_n 1, 1) := by decide +kernel
theorem dX11_no_2 : decode cX11_no 2 = .ok (.putfield 149, 3) := by decide +kernel
theorem dX11_no_5 : decode cX11_no 5 = .ok (.iconst 0, 1) := by decide +kernel
theorem dX11_no_6 : decode cX11_no 6 = .ok (.ireturn, 1) := by decide +kernel
theorem dX11_next_0 : decode cX11_next 0 = .ok (.aload_n 0, 1) := by decide +kernel
theorem dX11_next_1 : decode cX11_next 1 = .ok (.aload_n 0, 1) := by decide +kernel
theorem dX11_next_2 : decode cX11_next 2 = .ok (.getfield 155, 3) := by decide +kernel
theorem dX11_next_5 : decode cX11_next 5 = .ok (.putfield 158, 3) := by decide +kernel
theorem dX11_next_8 : decode cX11_next 8 = .ok (.aload_n 0, 1) := by decide +kernel
theorem dX11_next_9 : decode cX11_next 9 = .ok (.getfield 158, 3) := by decide +kernel
theorem dX11_next_12 : decode cX11_next 12 = .ok (.aload_n 0, 1) := by decide +kernel
theorem dX11_next_13 : decode cX11_next 13 = .ok (.getfield 152, 3) := by decide +kernel
theorem dX11_next_16 : decode cX11_next 16 = .ok (.if_icmp .ge 42, 3) := by decide +kernel
theorem dX11_next_19 : decode cX11_next 19 = .ok (.aload_n 0, 1) := by decide +kernel
theorem dX11_next_20 : decode cX11_next 20 = .ok (.aload_n 0, 1) := by decide +kernel
theorem dX11_next_21 : decode cX11_next 21 = .ok (.getfield 158, 3) := by decide +kernel
theorem dX11_next_24 : decode cX11_next 24 = .ok (.invokevirtual 161, 3) := by decide +kernel
theorem dX11_next_27 : decode cX11_next 27 = .ok (.bipush 10, 2) := by decide +kernel
theorem dX11_next_29 : decode cX11_next 29 = .ok (.if_icmp .eq 16, 3) := by decide +kernel
theorem dX11_next_32 : decode cX11_next 32 = .ok (.aload_n 0, 1) := by decide +kernel
theorem dX11_next_33 : decode cX11_next 33 = .ok (.aload_n 0, 1) := by decide +kernel
theorem dX11_next_34 : decode cX11_next 34 = .ok (.getfield 158, 3) := by decide +kernel
theorem dX11_next_37 : decode cX11_next 37 = .ok (.invokevirtual 161, 3) := by decide +kernel
theorem dX11_next_40 : decode cX11_next 40 = .ok (.bipush 32, 2) := by decide +kernel
theorem dX11_next_42 : decode cX11_next 42 = .ok (.if_icmp .ne 16, 3) := by decide +kernel
theorem dX11_next_45 : decode cX11_next 45 = .ok (.aload_n 0, 1) := by decide +kernel
theorem dX11_next_46 : decode cX11_next 46 = .ok (.dup, 1) := by decide +kernel
theorem dX11_next_47 : decode cX11_next 47 = .ok (.getfield 158, 3) := by decide +kernel
theorem dX11_next_50 : decode cX11_next 50 = .ok (.iconst 1, 1) := by decide +kernel
theorem dX11_next_51 : decode cX11_next 51 = .ok (.iadd, 1) := by decide +kernel
theorem dX11_next_52 : decode cX11_next 52 = .ok (.putfield 158, 3) := by decide +kernel
theorem dX11_next_55 : decode cX11_next 55 = .ok (.goto (-47), 3) := by decide +kernel
theorem dX11_next_58 : decode cX11_next 58 = .ok (.aload_n 0, 1) := by decide +kernel
theorem dX11_next_59 : decode cX11_next 59 = .ok (.aload_n 0, 1) := by decide +kernel
theorem dX11_next_60 : decode cX11_next 60 = .ok (.getfield 158, 3) := by decide +kernel
theorem dX11_next_63 : decode cX11_next 63 = .ok (.putfield 155, 3) := by decide +kernel
theorem dX11_next_66 : decode cX11_next 66 = .ok (.aload_n 0, 1) := by decide +kernel
theorem dX11_next_67 : decode cX11_next 67 = .ok (.getfield 158, 3) := by decide +kernel
theorem dX11_next_70 : decode cX11_next 70 = .ok (.aload_n 0, 1) := by decide +kernel
theorem dX11_next_71 : decode cX11_next 71 = .ok (.getfield 152, 3) := by decide +kernel
theorem dX11_next_74 : decode cX11_next 74 = .ok (.if_icmp .lt 9, 3) := by decide +kernel
theorem dX11_next_77 : decode cX11_next 77 = .ok (.aload_n 0, 1) := by decide +kernel
theorem dX11_next_78 : decode cX11_next 78 = .ok (.iconst 0, 1) := by decide +kernel
theorem dX11_next_79 : decode cX11_next 79 = .ok (.putfield 165, 3) := by decide +kernel
theorem dX11_next_82 : decode cX11_next 82 = .ok (.return_, 1) := by decide +kernel
theorem dX11_next_83 : decode cX11_next 83 = .ok (.aload_n 0, 1) := by decide +kernel
theorem dX11_next_84 : decode cX11_next 84 = .ok (.aload_n 0, 1) := by decide +kernel
theorem dX11_next_85 : decode cX11_next 85 = .ok (.getfield 158, 3) := by decide +kernel
theorem dX11_next_88 : decode cX11_next 88 = .ok (.invokevirtual 161, 3) := by decide +kernel
theorem dX11_next_91 : decode cX11_next 91 = .ok (.istore_n 1, 1) := by decide +kernel
theorem dX11_next_92 : decode cX11_next 92 = .ok (.iload_n 1, 1) := by decide +kernel
theorem dX11_next_93 : decode cX11_next 93 = .ok (.invokestatic 168, 3) := by decide +kernel
theorem dX11_next_96 : decode cX11_next 96 = .ok (.ifCond .eq 86, 3) := by decide +kernel
theorem dX11_next_99 : decode cX11_next 99 = .ok (.aload_n 0, 1) := by decide +kernel
theorem dX11_next_100 : decode cX11_next 100 = .ok (.iconst 1, 1) := by decide +kernel
theorem dX11_next_101 : decode cX11_next 101 = .ok (.putfield 165, 3) := by decide +kernel
theorem dX11_next_104 : decode cX11_next 104 = .ok (.aload_n 0, 1) := by decide +kernel
theorem dX11_next_105 : decode cX11_next 105 = .ok (.lconst 0, 1) := by decide +kernel
theorem dX11_next_106 : decode cX11_next 106 = .ok (.putfield 172, 3) := by decide +kernel
theorem dX11_next_109 : decode cX11_next 109 = .ok (.aload_n 0, 1) := by decide +kernel
theorem dX11_next_110 : decode cX11_next 110 = .ok (.aload_n 0, 1) := by decide +kernel
theorem dX11_next_111 : decode cX11_next 111 = .ok (.getfield 155, 3) := by decide +kernel
theorem dX11_next_114 : decode cX11_next 114 = .ok (.invokevirtual 161, 3) := by decide +kernel
theorem dX11_next_117 : decode cX11_next 117 = .ok (.invokestatic 168, 3) := by decide +kernel
theorem dX11_next_120 : decode cX11_next 120 = .ok (.ifCond .eq 230, 3) := by decide +kernel
theorem dX11_next_123 : decode cX11_next 123 = .ok (.aload_n 0, 1) := by decide +kernel
theorem dX11_next_124 : decode cX11_next 124 = .ok (.aload_n 0, 1) := by decide +kernel
theorem dX11_next_125 : decode cX11_next 125 = .ok (.getfield 155, 3) := by decide +kernel
theorem dX11_next_128 : decode cX11_next 128 = .ok (.aload_n 0, 1) := by decide +kernel
theorem dX11_next_129 : decode cX11_next 129 = .ok (.getfield 158, 3) := by decide +kernel
theorem dX11_next_132 : decode cX11_next 132 = .ok (.isub, 1) := by decide +kernel
theorem dX11_next_133 : decode cX11_next 133 = .ok (.bipush 12, 2) := by decide +kernel
theorem dX11_next_135 : decode cX11_next 135 = .ok (.if_icmp .ge 28, 3) := by decide +kernel
theorem dX11_next_138 : decode cX11_next 138 = .ok (.aload_n 0, 1) := by decide +kernel
theorem dX11_next_139 : decode cX11_next 139 = .ok (.getfield 172, 3) := by decide +kernel
theorem dX11_next_142 : decode cX11_next 142 = .ok (.ldc2_w 176, 3) := by decide +kernel
theorem dX11_next_145 : decode cX11_next 145 = .ok (.lmul, 1) := by decide +kernel
theorem dX11_next_146 : decode cX11_next 146 = .ok (.aload_n 0, 1) := by decide +kernel
theorem dX11_next_147 : decode cX11_next 147 = .ok (.aload_n 0, 1) := by decide +kernel
theorem dX11_next_148 : decode cX11_next 148 = .ok (.getfield 155, 3) := by decide +kernel
theorem dX11_next_151 : decode cX11_next 151 = .ok (.invokevirtual 161, 3) := by decide +kernel
theorem dX11_next_154 : decode cX11_next 154 = .ok (.i2l, 1) := by decide +kernel
theorem dX11_next_155 : decode cX11_next 155 = .ok (.ladd, 1) := by decide +kernel
theorem dX11_next_156 : decode cX11_next 156 = .ok (.ldc2_w 178, 3) := by decide +kernel
theorem dX11_next_159 : decode cX11_next 159 = .ok (.lsub, 1) := by decide +kernel
theorem dX11_next_160 : decode cX11_next 160 = .ok (.goto 6, 3) := by decide +kernel
theorem dX11_next_163 : decode cX11_next 163 = .ok (.ldc2_w 180, 3) := by decide +kernel
theorem dX11_next_166 : decode cX11_next 166 = .ok (.putfield 172, 3) := by decide +kernel
theorem dX11_next_169 : decode cX11_next 169 = .ok (.aload_n 0, 1) := by decide +kernel
theorem dX11_next_170 : decode cX11_next 170 = .ok (.dup, 1) := by decide +kernel
theorem dX11_next_171 : decode cX11_next 171 = .ok (.getfield 155, 3) := by decide +kernel
theorem dX11_next_174 : decode cX11_next 174 = .ok (.iconst 1, 1) := by decide +kernel
theorem dX11_next_175 : decode cX11_next 175 = .ok (.iadd, 1) := by decide +kernel
theorem dX11_next_176 : decode cX11_next 176 = .ok (.putfield 155, 3) := by decide +kernel
theorem dX11_next_179 : decode cX11_next 179 = .ok (.goto (-70), 3) := by decide +kernel
theorem dX11_next_182 : decode cX11_next 182 = .ok (.iload_n 1, 1) := by decide +kernel
theorem dX11_next_183 : decode cX11_next 183 = .ok (.invokestatic 182, 3) := by decide +kernel
theorem dX11_next_186 : decode cX11_next 186 = .ok (.ifCond .eq 98, 3) := by decide +kernel
theorem dX11_next_189 : decode cX11_next 189 = .ok (.aload_n 0, 1) := by decide +kernel
theorem dX11_next_190 : decode cX11_next 190 = .ok (.iconst 0, 1) := by decide +kernel
theorem dX11_next_191 : decode cX11_next 191 = .ok (.putfield 185, 3) := by decide +kernel
theorem dX11_next_194 : decode cX11_next 194 = .ok (.aload_n 0, 1) := by decide +kernel
theorem dX11_next_195 : decode cX11_next 195 = .ok (.aload_n 0, 1) := by decide +kernel
theorem dX11_next_196 : decode cX11_next 196 = .ok (.getfield 155, 3) := by decide +kernel
theorem dX11_next_199 : decode cX11_next 199 = .ok (.invokevirtual 161, 3) := by decide +kernel
theorem dX11_next_202 : decode cX11_next 202 = .ok (.invokestatic 182, 3) := by decide +kernel
theorem dX11_next_205 : decode cX11_next 205 = .ok (.ifCond .eq 53, 3) := by decide +kernel
theorem dX11_next_208 : decode cX11_next 208 = .ok (.aload_n 0, 1) := by decide +kernel
theorem dX11_next_209 : decode cX11_next 209 = .ok (.getfield 155, 3) := by decide +kernel
theorem dX11_next_212 : decode cX11_next 212 = .ok (.aload_n 0, 1) := by decide +kernel
theorem dX11_next_213 : decode cX11_next 213 = .ok (.getfield 158, 3) := by decide +kernel
theorem dX11_next_216 : decode cX11_next 216 = .ok (.isub, 1) := by decide +kernel
theorem dX11_next_217 : decode cX11_next 217 = .ok (.bipush 6, 2) := by decide +kernel
theorem dX11_next_219 : decode cX11_next 219 = .ok (.if_icmp .ge 26, 3) := by decide +kernel
theorem dX11_next_222 : decode cX11_next 222 = .ok (.aload_n 0, 1) := by decide +kernel
theorem dX11_next_223 : decode cX11_next 223 = .ok (.bipush 10, 2) := by decide +kernel
theorem dX11_next_225 : decode cX11_next 225 = .ok (.aload_n 0, 1) := by decide +kernel
theorem dX11_next_226 : decode cX11_next 226 = .ok (.getfield 185, 3) := by decide +kernel
theorem dX11_next_229 : decode cX11_next 229 = .ok (.imul, 1) := by decide +kernel
theorem dX11_next_230 : decode cX11_next 230 = .ok (.aload_n 0, 1) := by decide +kernel
theorem dX11_next_231 : decode cX11_next 231 = .ok (.aload_n 0, 1) := by decide +kernel
theorem dX11_next_232 : decode cX11_next 232 = .ok (.getfield 155, 3) := by decide +kernel
theorem dX11_next_235 : decode cX11_next 235 = .ok (.invokevirtual 161, 3) := by decide +kernel
theorem dX11_next_238 : decode cX11_next 238 = .ok (.iadd, 1) := by decide +kernel
theorem dX11_next_239 : decode cX11_next 239 = .ok (.bipush 48, 2) := by decide +kernel
theorem dX11_next_241 : decode cX11_next 241 = .ok (.isub, 1) := by decide +kernel
theorem dX11_next_242 : decode cX11_next 242 = .ok (.putfield 185, 3) := by decide +kernel
theorem dX11_next_245 : decode cX11_next 245 = .ok (.aload_n 0, 1) := by decide +kernel
theorem dX11_next_246 : decode cX11_next 246 = .ok (.dup, 1) := by decide +kernel
theorem dX11_next_247 : decode cX11_next 247 = .ok (.getfield 155, 3) := by decide +kernel
theorem dX11_next_250 : decode cX11_next 250 = .ok (.iconst 1, 1) := by decide +kernel
theorem dX11_next_251 : decode cX11_next 251 = .ok (.iadd, 1) := by decide +kernel
theorem dX11_next_252 : decode cX11_next 252 = .ok (.putfield 155, 3) := by decide +kernel
theorem dX11_next_255 : decode cX11_next 255 = .ok (.goto (-61), 3) := by decide +kernel
theorem dX11_next_258 : decode cX11_next 258 = .ok (.aload_n 0, 1) := by decide +kernel
theorem dX11_next_259 : decode cX11_next 259 = .ok (.aload_n 0, 1) := by decide +kernel
theorem dX11_next_260 : decode cX11_next 260 = .ok (.getfield 155, 3) := by decide +kernel
theorem dX11_next_263 : decode cX11_next 263 = .ok (.aload_n 0, 1) := by decide +kernel
theorem dX11_next_264 : decode cX11_next 264 = .ok (.getfield 158, 3) := by decide +kernel
theorem dX11_next_267 : decode cX11_next 267 = .ok (.isub, 1) := by decide +kernel
theorem dX11_next_268 : decode cX11_next 268 = .ok (.bipush 6, 2) := by decide +kernel
theorem dX11_next_270 : decode cX11_next 270 = .ok (.if_icmp .le 7, 3) := by decide +kernel
theorem dX11_next_273 : decode cX11_next 273 = .ok (.iconst 4, 1) := by decide +kernel
theorem dX11_next_274 : decode cX11_next 274 = .ok (.goto 4, 3) := by decide +kernel
theorem dX11_next_277 : decode cX11_next 277 = .ok (.iconst 2, 1) := by decide +kernel
theorem dX11_next_278 : decode cX11_next 278 = .ok (.putfield 165, 3) := by decide +kernel
theorem dX11_next_281 : decode cX11_next 281 = .ok (.goto 69, 3) := by decide +kernel
theorem dX11_next_284 : decode cX11_next 284 = .ok (.aload_n 0, 1) := by decide +kernel
theorem dX11_next_285 : decode cX11_next 285 = .ok (.aload_n 0, 1) := by decide +kernel
theorem dX11_next_286 : decode cX11_next 286 = .ok (.getfield 158, 3) := by decide +kernel
theorem dX11_next_289 : decode cX11_next 289 = .ok (.iconst 1, 1) := by decide +kernel
theorem dX11_next_290 : decode cX11_next 290 = .ok (.iadd, 1) := by decide +kernel
theorem dX11_next_291 : decode cX11_next 291 = .ok (.putfield 155, 3) := by decide +kernel
theorem dX11_next_294 : decode cX11_next 294 = .ok (.aload_n 0, 1) := by decide +kernel
theorem dX11_next_295 : decode cX11_next 295 = .ok (.iload_n 1, 1) := by decide +kernel
theorem dX11_next_296 : decode cX11_next 296 = .ok (.putfield 185, 3) := by decide +kernel
theorem dX11_next_299 : decode cX11_next 299 = .ok (.aload_n 0, 1) := by decide +kernel
theorem dX11_next_300 : decode cX11_next 300 = .ok (.iload_n 1, 1) := by decide +kernel
theorem dX11_next_301 : decode cX11_next 301 = .ok (.bipush 43, 2) := by decide +kernel
theorem dX11_next_303 : decode cX11_next 303 = .ok (.if_icmp .eq 39, 3) := by decide +kernel
theorem dX11_next_306 : decode cX11_next 306 = .ok (.iload_n 1, 1) := by decide +kernel
theorem dX11_next_307 : decode cX11_next 307 = .ok (.bipush 45, 2) := by decide +kernel
theorem dX11_next_309 : decode cX11_next 309 = .ok (.if_icmp .eq 33, 3) := by decide +kernel
theorem dX11_next_312 : decode cX11_next 312 = .ok (.iload_n 1, 1) := by decide +kernel
theorem dX11_next_313 : decode cX11_next 313 = .ok (.bipush 42, 2) := by decide +kernel
theorem dX11_next_315 : decode cX11_next 315 = .ok (.if_icmp .eq 27, 3) := by decide +kernel
theorem dX11_next_318 : decode cX11_next 318 = .ok (.iload_n 1, 1) := by decide +kernel
theorem dX11_next_319 : decode cX11_next 319 = .ok (.bipush 40, 2) := by decide +kernel
theorem dX11_next_321 : decode cX11_next 321 = .ok (.if_icmp .eq 21, 3) := by decide +kernel
theorem dX11_next_324 : decode cX11_next 324 = .ok (.iload_n 1, 1) := by decide +kernel
theorem dX11_next_325 : decode cX11_next 325 = .ok (.bipush 41, 2) := by decide +kernel
theorem dX11_next_327 : decode cX11_next 327 = .ok (.if_icmp .eq 15, 3) := by decide +kernel
theorem dX11_next_330 : decode cX11_next 330 = .ok (.iload_n 1, 1) := by decide +kernel
theorem dX11_next_331 : decode cX11_next 331 = .ok (.bipush 44, 2) := by decide +kernel
theorem dX11_next_333 : decode cX11_next 333 = .ok (.if_icmp .eq 9, 3) := by decide +kernel
theorem dX11_next_336 : decode cX11_next 336 = .ok (.iload_n 1, 1) := by decide +kernel
theorem dX11_next_337 : decode cX11_next 337 = .ok (.bipush 59, 2) := by decide +kernel
theorem dX11_next_339 : decode cX11_next 339 = .ok (.if_icmp .ne 7, 3) := by decide +kernel
theorem dX11_next_342 : decode cX11_next 342 = .ok (.iconst 3, 1) := by decide +kernel
theorem dX11_next_343 : decode cX11_next 343 = .ok (.goto 4, 3) := by decide +kernel
theorem dX11_next_346 : decode cX11_next 346 = .ok (.iconst 4, 1) := by decide +kernel
theorem dX11_next_347 : decode cX11_next 347 = .ok (.putfield 165, 3) := by decide +kernel
theorem dX11_next_350 : decode cX11_next 350 = .ok (.return_, 1) := by decide +kernel
theorem dX11_readText_0 : decode cX11_readText 0 = .ok (.aload_n 0, 1) := by decide +kernel
theorem dX11_readText_1 : decode cX11_readText 1 = .ok (.iconst 0, 1) := by decide +kernel
theorem dX11_readText_2 : decode cX11_readText 2 = .ok (.putfield 207, 3) := by decide +kernel
theorem dX11_readText_5 : decode cX11_readText 5 = .ok (.aload_n 0, 1) := by decide +kernel
theorem dX11_readText_6 : decode cX11_readText 6 = .ok (.iconst 0, 1) := by decide +kernel
theorem dX11_readText_7 : decode cX11_readText 7 = .ok (.putfield 210, 3) := by decide +kernel
theorem dX11_readText_10 : decode cX11_readText 10 = .ok (.aload_n 0, 1) := by decide +kernel
theorem dX11_readText_11 : decode cX11_readText 11 = .ok (.iconst 1, 1) := by decide +kernel
theorem dX11_readText_12 : decode cX11_readText 12 = .ok (.putfield 214, 3) := by decide +kernel
theorem dX11_readText_15 : decode cX11_readText 15 = .ok (.aload_n 0, 1) := by decide +kernel
theorem dX11_readText_16 : decode cX11_readText 16 = .ok (.getfield 60, 3) := by decide +kernel
theorem dX11_readText_19 : decode cX11_readText 19 = .ok (.iconst 0, 1) := by decide +kernel
theorem dX11_readText_20 : decode cX11_readText 20 = .ok (.iconst 0, 1) := by decide +kernel
theorem dX11_readText_21 : decode cX11_readText 21 = .ok (.iastore, 1) := by decide +kernel
theorem dX11_readText_22 : decode cX11_readText 22 = .ok (.aload_n 0, 1) := by decide +kernel
theorem dX11_readText_23 : decode cX11_readText 23 = .ok (.getfield 67, 3) := by decide +kernel
theorem dX11_readText_26 : decode cX11_readText 26 = .ok (.iconst 0, 1) := by decide +kernel
theorem dX11_readText_27 : decode cX11_readText 27 = .ok (.iconst 0, 1) := by decide +kernel
theorem dX11_readText_28 : decode cX11_readText 28 = .ok (.bastore, 1) := by decide +kernel
theorem dX11_readText_29 : decode cX11_readText 29 = .ok (.aload_n 0, 1) := by decide +kernel
theorem dX11_readText_30 : decode cX11_readText 30 = .ok (.iconst 5, 1) := by decide +kernel
theorem dX11_readText_31 : decode cX11_readText 31 = .ok (.putfield 217, 3) := by decide +kernel
theorem dX11_readText_34 : decode cX11_readText 34 = .ok (.aload_n 0, 1) := by decide +kernel
theorem dX11_readText_35 : decode cX11_readText 35 = .ok (.getfield 51, 3) := by decide +kernel
theorem dX11_readText_38 : decode cX11_readText 38 = .ok (.iconst 0, 1) := by decide +kernel
theorem dX11_readText_39 : decode cX11_readText 39 = .ok (.iconst 0, 1) := by decide +kernel
theorem dX11_readText_40 : decode cX11_readText 40 = .ok (.iastore, 1) := by decide +kernel
theorem dX11_readText_41 : decode cX11_readText 41 = .ok (.aload_n 0, 1) := by decide +kernel
theorem dX11_readText_42 : decode cX11_readText 42 = .ok (.getfield 54, 3) := by decide +kernel
theorem dX11_readText_45 : decode cX11_readText 45 = .ok (.iconst 0, 1) := by decide +kernel
theorem dX11_readText_46 : decode cX11_readText 46 = .ok (.bipush 100, 2) := by decide +kernel
theorem dX11_readText_48 : decode cX11_readText 48 = .ok (.iastore, 1) := by decide +kernel
theorem dX11_readText_49 : decode cX11_readText 49 = .ok (.aload_n 0, 1) := by decide +kernel
theorem dX11_readText_50 : decode cX11_readText 50 = .ok (.getfield 51, 3) := by decide +kernel
theorem dX11_readText_53 : decode cX11_readText 53 = .ok (.iconst 1, 1) := by decide +kernel
theorem dX11_readText_54 : decode cX11_readText 54 = .ok (.iconst 1, 1) := by decide +kernel
theorem dX11_readText_55 : decode cX11_readText 55 = .ok (.iastore, 1) := by decide +kernel
theorem dX11_readText_56 : decode cX11_readText 56 = .ok (.aload_n 0, 1) := by decide +kernel
theorem dX11_readText_57 : decode cX11_readText 57 = .ok (.getfield 51, 3) := by decide +kernel
theorem dX11_readText_60 : decode cX11_readText 60 = .ok (.iconst 2, 1) := by decide +kernel
theorem dX11_readText_61 : decode cX11_readText 61 = .ok (.bipush 9, 2) := by decide +kernel
theorem dX11_readText_63 : decode cX11_readText 63 = .ok (.iastore, 1) := by decide +kernel
theorem dX11_readText_64 : decode cX11_readText 64 = .ok (.aload_n 0, 1) := by decide +kernel
theorem dX11_readText_65 : decode cX11_readText 65 = .ok (.getfield 51, 3) := by decide +kernel
theorem dX11_readText_68 : decode cX11_readText 68 = .ok (.iconst 3, 1) := by decide +kernel
theorem dX11_readText_69 : decode cX11_readText 69 = .ok (.iconst 2, 1) := by decide +kernel
theorem dX11_readText_70 : decode cX11_readText 70 = .ok (.iastore, 1) := by decide +kernel
theorem dX11_readText_71 : decode cX11_readText 71 = .ok (.aload_n 0, 1) := by decide +kernel
theorem dX11_readText_72 : decode cX11_readText 72 = .ok (.getfield 51, 3) := by decide +kernel
theorem dX11_readText_75 : decode cX11_readText 75 = .ok (.iconst 4, 1) := by decide +kernel
theorem dX11_readText_76 : decode cX11_readText 76 = .ok (.bipush 7, 2) := by decide +kernel
theorem dX11_readText_78 : decode cX11_readText 78 = .ok (.iastore, 1) := by decide +kernel
theorem dX11_readText_79 : decode cX11_readText 79 = .ok (.iconst 0, 1) := by decide +kernel
theorem dX11_readText_80 : decode cX11_readText 80 = .ok (.istore_n 1, 1) := by decide +kernel
theorem dX11_readText_81 : decode cX11_readText 81 = .ok (.aload_n 0, 1) := by decide +kernel
theorem dX11_readText_82 : decode cX11_readText 82 = .ok (.invokevirtual 201, 3) := by decide +kernel
theorem dX11_readText_85 : decode cX11_readText 85 = .ok (.aload_n 0, 1) := by decide +kernel
theorem dX11_readText_86 : decode cX11_readText 86 = .ok (.getfield 188, 3) := by decide +kernel
theorem dX11_readText_89 : decode cX11_readText 89 = .ok (.ifCond .ne 77, 3) := by decide +kernel
theorem dX11_readText_92 : decode cX11_readText 92 = .ok (.aload_n 0, 1) := by decide +kernel
theorem dX11_readText_93 : decode cX11_readText 93 = .ok (.getfield 165, 3) := by decide +kernel
theorem dX11_readText_96 : decode cX11_readText 96 = .ok (.ifCond .eq 70, 3) := by decide +kernel
theorem dX11_readText_99 : decode cX11_readText 99 = .ok (.aload_n 0, 1) := by decide +kernel
theorem dX11_readText_100 : decode cX11_readText 100 = .ok (.invokevirtual 220, 3) := by decide +kernel
theorem dX11_readText_103 : decode cX11_readText 103 = .ok (.istore_n 2, 1) := by decide +kernel
theorem dX11_readText_104 : decode cX11_readText 104 = .ok (.iload_n 2, 1) := by decide +kernel
theorem dX11_readText_105 : decode cX11_readText 105 = .ok (.ifCond .ge 10, 3) := by decide +kernel
theorem dX11_readText_108 : decode cX11_readText 108 = .ok (.aload_n 0, 1) := by decide +kernel
theorem dX11_readText_109 : decode cX11_readText 109 = .ok (.invokevirtual 198, 3) := by decide +kernel
theorem dX11_readText_112 : decode cX11_readText 112 = .ok (.goto 25, 3) := by decide +kernel
theorem dX11_readText_115 : decode cX11_readText 115 = .ok (.iload_n 2, 1) := by decide +kernel
theorem dX11_readText_116 : decode cX11_readText 116 = .ok (.ifCond .le 21, 3) := by decide +kernel
theorem dX11_readText_119 : decode cX11_readText 119 = .ok (.iload_n 1, 1) := by decide +kernel
theorem dX11_readText_120 : decode cX11_readText 120 = .ok (.iload_n 2, 1) := by decide +kernel
theorem dX11_readText_121 : decode cX11_readText 121 = .ok (.ishr, 1) := by decide +kernel
theorem dX11_readText_122 : decode cX11_readText 122 = .ok (.iconst 1, 1) := by decide +kernel
theorem dX11_readText_123 : decode cX11_readText 123 = .ok (.iand, 1) := by decide +kernel
theorem dX11_readText_124 : decode cX11_readText 124 = .ok (.iconst 1, 1) := by decide +kernel
theorem dX11_readText_125 : decode cX11_readText 125 = .ok (.if_icmp .ne 12, 3) := by decide +kernel
theorem dX11_readText_128 : decode cX11_readText 128 = .ok (.aload_n 0, 1) := by decide +kernel
theorem dX11_readText_129 : decode cX11_readText 129 = .ok (.iconst 5, 1) := by decide +kernel
theorem dX11_readText_130 : decode cX11_readText 130 = .ok (.aload_n 0, 1) := by decide +kernel
theorem dX11_readText_131 : decode cX11_readText 131 = .ok (.getfield 158, 3) := by decide +kernel
theorem dX11_readText_134 : decode cX11_readText 134 = .ok (.invokevirtual 194, 3) := by decide +kernel
theorem dX11_readText_137 : decode cX11_readText 137 = .ok (.iload_n 1, 1) := by decide +kernel
theorem dX11_readText_138 : decode cX11_readText 138 = .ok (.iload_n 2, 1) := by decide +kernel
theorem dX11_readText_139 : decode cX11_readText 139 = .ok (.ifCond .le 9, 3) := by decide +kernel
theorem dX11_readText_142 : decode cX11_readText 142 = .ok (.iconst 1, 1) := by decide +kernel
theorem dX11_readText_143 : decode cX11_readText 143 = .ok (.iload_n 2, 1) := by decide +kernel
theorem dX11_readText_144 : decode cX11_readText 144 = .ok (.ishl, 1) := by decide +kernel
theorem dX11_readText_145 : decode cX11_readText 145 = .ok (.goto 4, 3) := by decide +kernel
theorem dX11_readText_148 : decode cX11_readText 148 = .ok (.iconst 0, 1) := by decide +kernel
theorem dX11_readText_149 : decode cX11_readText 149 = .ok (.ior, 1) := by decide +kernel
theorem dX11_readText_150 : decode cX11_readText 150 = .ok (.istore_n 1, 1) := by decide +kernel
theorem dX11_readText_151 : decode cX11_readText 151 = .ok (.aload_n 0, 1) := by decide +kernel
theorem dX11_readText_152 : decode cX11_readText 152 = .ok (.getfield 188, 3) := by decide +kernel
theorem dX11_readText_155 : decode cX11_readText 155 = .ok (.ifCond .ne 8, 3) := by decide +kernel
theorem dX11_readText_158 : decode cX11_readText 158 = .ok (.aload_n 0, 1) := by decide +kernel
theorem dX11_readText_159 : decode cX11_readText 159 = .ok (.iload_n 2, 1) := by decide +kernel
theorem dX11_readText_160 : decode cX11_readText 160 = .ok (.invokevirtual 224, 3) := by decide +kernel
theorem dX11_readText_163 : decode cX11_readText 163 = .ok (.goto (-78), 3) := by decide +kernel
theorem dX11_readText_166 : decode cX11_readText 166 = .ok (.return_, 1) := by decide +kernel
theorem dX11_feed_0 : decode cX11_feed 0 = .ok (.aload_n 0, 1) := by decide +kernel
theorem dX11_feed_1 : decode cX11_feed 1 = .ok (.iconst 0, 1) := by decide +kernel
theorem dX11_feed_2 : decode cX11_feed 2 = .ok (.putfield 146, 3) := by decide +kernel
theorem dX11_feed_5 : decode cX11_feed 5 = .ok (.aload_n 0, 1) := by decide +kernel
theorem dX11_feed_6 : decode cX11_feed 6 = .ok (.getfield 289, 3) := by decide +kernel
theorem dX11_feed_9 : decode cX11_feed 9 = .ok (.bipush 20, 2) := by decide +kernel
theorem dX11_feed_11 : decode cX11_feed 11 = .ok (.iadd, 1) := by decide +kernel
theorem dX11_feed_12 : decode cX11_feed 12 = .ok (.sipush 700, 3) := by decide +kernel
theorem dX11_feed_15 : decode cX11_feed 15 = .ok (.if_icmp .le 5, 3) := by decide +kernel
theorem dX11_feed_18 : decode cX11_feed 18 = .ok (.iconst (-1), 1) := by decide +kernel
theorem dX11_feed_19 : decode cX11_feed 19 = .ok (.ireturn, 1) := by decide +kernel
theorem dX11_feed_20 : decode cX11_feed 20 = .ok (.aload_n 0, 1) := by decide +kernel
theorem dX11_feed_21 : decode cX11_feed 21 = .ok (.iload_n 1, 1) := by decide +kernel
theorem dX11_feed_22 : decode cX11_feed 22 = .ok (.invokevirtual 292, 3) := by decide +kernel
theorem dX11_feed_25 : decode cX11_feed 25 = .ok (.aload_n 0, 1) := by decide +kernel
theorem dX11_feed_26 : decode cX11_feed 26 = .ok (.iload_n 2, 1) := by decide +kernel
theorem dX11_feed_27 : decode cX11_feed 27 = .ok (.invokevirtual 292, 3) := by decide +kernel
theorem dX11_feed_30 : decode cX11_feed 30 = .ok (.aload_n 0, 1) := by decide +kernel
theorem dX11_feed_31 : decode cX11_feed 31 = .ok (.iload_n 3, 1) := by decide +kernel
theorem dX11_feed_32 : decode cX11_feed 32 = .ok (.invokevirtual 292, 3) := by decide +kernel
theorem dX11_feed_35 : decode cX11_feed 35 = .ok (.aload_n 0, 1) := by decide +kernel
theorem dX11_feed_36 : decode cX11_feed 36 = .ok (.iload 4, 2) := by decide +kernel
theorem dX11_feed_38 : decode cX11_feed 38 = .ok (.invokevirtual 292, 3) := by decide +kernel
theorem dX11_feed_41 : decode cX11_feed 41 = .ok (.aload_n 0, 1) := by decide +kernel
theorem dX11_feed_42 : decode cX11_feed 42 = .ok (.iload 5, 2) := by decide +kernel
theorem dX11_feed_44 : decode cX11_feed 44 = .ok (.invokevirtual 292, 3) := by decide +kernel
theorem dX11_feed_47 : decode cX11_feed 47 = .ok (.aload_n 0, 1) := by decide +kernel
theorem dX11_feed_48 : decode cX11_feed 48 = .ok (.getfield 289, 3) := by decide +kernel
theorem dX11_feed_51 : decode cX11_feed 51 = .ok (.ireturn, 1) := by decide +kernel
theorem dX11_lay_0 : decode cX11_lay 0 = .ok (.iconst 3, 1) := by decide +kernel
theorem dX11_lay_1 : decode cX11_lay 1 = .ok (.istore_n 2, 1) := by decide +kernel
theorem dX11_lay_2 : decode cX11_lay 2 = .ok (.iload_n 2, 1) := by decide +kernel
theorem dX11_lay_3 : decode cX11_lay 3 = .ok (.ifCond .lt 35, 3) := by decide +kernel
theorem dX11_lay_6 : decode cX11_lay 6 = .ok (.aload_n 0, 1) := by decide +kernel
theorem dX11_lay_7 : decode cX11_lay 7 = .ok (.getfield 7, 3) := by decide +kernel
theorem dX11_lay_10 : decode cX11_lay 10 = .ok (.aload_n 0, 1) := by decide +kernel
theorem dX11_lay_11 : decode cX11_lay 11 = .ok (.getfield 289, 3) := by decide +kernel
theorem dX11_lay_14 : decode cX11_lay 14 = .ok (.iload_n 1, 1) := by decide +kernel
theorem dX11_lay_15 : decode cX11_lay 15 = .ok (.bipush 8, 2) := by decide +kernel
theorem dX11_lay_17 : decode cX11_lay 17 = .ok (.iload_n 2, 1) := by decide +kernel
theorem dX11_lay_18 : decode cX11_lay 18 = .ok (.imul, 1) := by decide +kernel
theorem dX11_lay_19 : decode cX11_lay 19 = .ok (.ishr, 1) := by decide +kernel
theorem dX11_lay_20 : decode cX11_lay 20 = .ok (.i2b, 1) := by decide +kernel
theorem dX11_lay_21 : decode cX11_lay 21 = .ok (.bastore, 1) := by decide +kernel
theorem dX11_lay_22 : decode cX11_lay 22 = .ok (.aload_n 0, 1) := by decide +kernel
theorem dX11_lay_23 : decode cX11_lay 23 = .ok (.dup, 1) := by decide +kernel
theorem dX11_lay_24 : decode cX11_lay 24 = .ok (.getfield 289, 3) := by decide +kernel
theorem dX11_lay_27 : decode cX11_lay 27 = .ok (.iconst 1, 1) := by decide +kernel
theorem dX11_lay_28 : decode cX11_lay 28 = .ok (.iadd, 1) := by decide +kernel
theorem dX11_lay_29 : decode cX11_lay 29 = .ok (.putfield 289, 3) := by decide +kernel
theorem dX11_lay_32 : decode cX11_lay 32 = .ok (.iinc 2 (-1), 3) := by decide +kernel
theorem dX11_lay_35 : decode cX11_lay 35 = .ok (.goto (-33), 3) := by decide +kernel
theorem dX11_lay_38 : decode cX11_lay 38 = .ok (.return_, 1) := by decide +kernel
theorem dX11_load_0 : decode cX11_load 0 = .ok (.aload_n 0, 1) := by decide +kernel
theorem dX11_load_1 : decode cX11_load 1 = .ok (.iconst 0, 1) := by decide +kernel
theorem dX11_load_2 : decode cX11_load 2 = .ok (.putfield 146, 3) := by decide +kernel
theorem dX11_load_5 : decode cX11_load 5 = .ok (.aload_n 0, 1) := by decide +kernel
theorem dX11_load_6 : decode cX11_load 6 = .ok (.iconst 0, 1) := by decide +kernel
theorem dX11_load_7 : decode cX11_load 7 = .ok (.putfield 149, 3) := by decide +kernel
theorem dX11_load_10 : decode cX11_load 10 = .ok (.iload_n 1, 1) := by decide +kernel
theorem dX11_load_11 : decode cX11_load 11 = .ok (.ifCond .lt 11, 3) := by decide +kernel
theorem dX11_load_14 : decode cX11_load 14 = .ok (.iload_n 1, 1) := by decide +kernel
theorem dX11_load_15 : decode cX11_load 15 = .ok (.aload_n 0, 1) := by decide +kernel
theorem dX11_load_16 : decode cX11_load 16 = .ok (.getfield 289, 3) := by decide +kernel
theorem dX11_load_19 : decode cX11_load 19 = .ok (.if_icmp .le 9, 3) := by decide +kernel
theorem dX11_load_22 : decode cX11_load 22 = .ok (.aload_n 0, 1) := by decide +kernel
theorem dX11_load_23 : decode cX11_load 23 = .ok (.iconst 2, 1) := by decide +kernel
theorem dX11_load_24 : decode cX11_load 24 = .ok (.invokevirtual 295, 3) := by decide +kernel
theorem dX11_load_27 : decode cX11_load 27 = .ok (.ireturn, 1) := by decide +kernel
theorem dX11_load_28 : decode cX11_load 28 = .ok (.aload_n 0, 1) := by decide +kernel
theorem dX11_load_29 : decode cX11_load 29 = .ok (.iload_n 1, 1) := by decide +kernel
theorem dX11_load_30 : decode cX11_load 30 = .ok (.putfield 152, 3) := by decide +kernel
theorem dX11_load_33 : decode cX11_load 33 = .ok (.aload_n 0, 1) := by decide +kernel
theorem dX11_load_34 : decode cX11_load 34 = .ok (.iconst 0, 1) := by decide +kernel
theorem dX11_load_35 : decode cX11_load 35 = .ok (.putfield 289, 3) := by decide +kernel
theorem dX11_load_38 : decode cX11_load 38 = .ok (.aload_n 0, 1) := by decide +kernel
theorem dX11_load_39 : decode cX11_load 39 = .ok (.iconst 0, 1) := by decide +kernel
theorem dX11_load_40 : decode cX11_load 40 = .ok (.putfield 155, 3) := by decide +kernel
theorem dX11_load_43 : decode cX11_load 43 = .ok (.aload_n 0, 1) := by decide +kernel
theorem dX11_load_44 : decode cX11_load 44 = .ok (.iconst 0, 1) := by decide +kernel
theorem dX11_load_45 : decode cX11_load 45 = .ok (.putfield 188, 3) := by decide +kernel
theorem dX11_load_48 : decode cX11_load 48 = .ok (.aload_n 0, 1) := by decide +kernel
theorem dX11_load_49 : decode cX11_load 49 = .ok (.invokevirtual 298, 3) := by decide +kernel
theorem dX11_load_52 : decode cX11_load 52 = .ok (.aload_n 0, 1) := by decide +kernel
theorem dX11_load_53 : decode cX11_load 53 = .ok (.aload_n 0, 1) := by decide +kernel
theorem dX11_load_54 : decode cX11_load 54 = .ok (.getfield 188, 3) := by decide +kernel
theorem dX11_load_57 : decode cX11_load 57 = .ok (.putfield 13, 3) := by decide +kernel
theorem dX11_load_60 : decode cX11_load 60 = .ok (.aload_n 0, 1) := by decide +kernel
theorem dX11_load_61 : decode cX11_load 61 = .ok (.aload_n 0, 1) := by decide +kernel
theorem dX11_load_62 : decode cX11_load 62 = .ok (.getfield 188, 3) := by decide +kernel
theorem dX11_load_65 : decode cX11_load 65 = .ok (.ifCond .ne 7, 3) := by decide +kernel
theorem dX11_load_68 : decode cX11_load 68 = .ok (.iconst (-1), 1) := by decide +kernel
theorem dX11_load_69 : decode cX11_load 69 = .ok (.goto 7, 3) := by decide +kernel
theorem dX11_load_72 : decode cX11_load 72 = .ok (.aload_n 0, 1) := by decide +kernel
theorem dX11_load_73 : decode cX11_load 73 = .ok (.getfield 191, 3) := by decide +kernel
theorem dX11_load_76 : decode cX11_load 76 = .ok (.putfield 17, 3) := by decide +kernel
theorem dX11_load_79 : decode cX11_load 79 = .ok (.aload_n 0, 1) := by decide +kernel
theorem dX11_load_80 : decode cX11_load 80 = .ok (.getfield 188, 3) := by decide +kernel
theorem dX11_load_83 : decode cX11_load 83 = .ok (.ifCond .le 10, 3) := by decide +kernel
theorem dX11_load_86 : decode cX11_load 86 = .ok (.aload_n 0, 1) := by decide +kernel
theorem dX11_load_87 : decode cX11_load 87 = .ok (.bipush 10, 2) := by decide +kernel
theorem dX11_load_89 : decode cX11_load 89 = .ok (.invokevirtual 295, 3) := by decide +kernel
theorem dX11_load_92 : decode cX11_load 92 = .ok (.ireturn, 1) := by decide +kernel
theorem dX11_load_93 : decode cX11_load 93 = .ok (.aload_n 0, 1) := by decide +kernel
theorem dX11_load_94 : decode cX11_load 94 = .ok (.aload_n 0, 1) := by decide +kernel
theorem dX11_load_95 : decode cX11_load 95 = .ok (.getfield 207, 3) := by decide +kernel
theorem dX11_load_98 : decode cX11_load 98 = .ok (.putfield 301, 3) := by decide +kernel
theorem dX11_load_101 : decode cX11_load 101 = .ok (.aload_n 0, 1) := by decide +kernel
theorem dX11_load_102 : decode cX11_load 102 = .ok (.aload_n 0, 1) := by decide +kernel
theorem dX11_load_103 : decode cX11_load 103 = .ok (.getfield 217, 3) := by decide +kernel
theorem dX11_load_106 : decode cX11_load 106 = .ok (.putfield 304, 3) := by decide +kernel
theorem dX11_load_109 : decode cX11_load 109 = .ok (.aload_n 0, 1) := by decide +kernel
theorem dX11_load_110 : decode cX11_load 110 = .ok (.aload_n 0, 1) := by decide +kernel
theorem dX11_load_111 : decode cX11_load 111 = .ok (.getfield 214, 3) := by decide +kernel
theorem dX11_load_114 : decode cX11_load 114 = .ok (.putfield 307, 3) := by decide +kernel
theorem dX11_load_117 : decode cX11_load 117 = .ok (.aload_n 0, 1) := by decide +kernel
theorem dX11_load_118 : decode cX11_load 118 = .ok (.aload_n 0, 1) := by decide +kernel
theorem dX11_load_119 : decode cX11_load 119 = .ok (.getfield 210, 3) := by decide +kernel
theorem dX11_load_122 : decode cX11_load 122 = .ok (.putfield 310, 3) := by decide +kernel
theorem dX11_load_125 : decode cX11_load 125 = .ok (.iconst 0, 1) := by decide +kernel
theorem dX11_load_126 : decode cX11_load 126 = .ok (.istore_n 2, 1) := by decide +kernel
theorem dX11_load_127 : decode cX11_load 127 = .ok (.iload_n 2, 1) := by decide +kernel
theorem dX11_load_128 : decode cX11_load 128 = .ok (.aload_n 0, 1) := by decide +kernel
theorem dX11_load_129 : decode cX11_load 129 = .ok (.getfield 301, 3) := by decide +kernel
theorem dX11_load_132 : decode cX11_load 132 = .ok (.if_icmp .ge 57, 3) := by decide +kernel
theorem dX11_load_135 : decode cX11_load 135 = .ok (.aload_n 0, 1) := by decide +kernel
theorem dX11_load_136 : decode cX11_load 136 = .ok (.getfield 20, 3) := by decide +kernel
theorem dX11_load_139 : decode cX11_load 139 = .ok (.iload_n 2, 1) := by decide +kernel
theorem dX11_load_140 : decode cX11_load 140 = .ok (.aload_n 0, 1) := by decide +kernel
theorem dX11_load_141 : decode cX11_load 141 = .ok (.getfield 33, 3) := by decide +kernel
theorem dX11_load_144 : decode cX11_load 144 = .ok (.iload_n 2, 1) := by decide +kernel
theorem dX11_load_145 : decode cX11_load 145 = .ok (.iaload, 1) := by decide +kernel
theorem dX11_load_146 : decode cX11_load 146 = .ok (.iastore, 1) := by decide +kernel
theorem dX11_load_147 : decode cX11_load 147 = .ok (.aload_n 0, 1) := by decide +kernel
theorem dX11_load_148 : decode cX11_load 148 = .ok (.getfield 24, 3) := by decide +kernel
theorem dX11_load_151 : decode cX11_load 151 = .ok (.iload_n 2, 1) := by decide +kernel
theorem dX11_load_152 : decode cX11_load 152 = .ok (.aload_n 0, 1) := by decide +kernel
theorem dX11_load_153 : decode cX11_load 153 = .ok (.getfield 36, 3) := by decide +kernel
theorem dX11_load_156 : decode cX11_load 156 = .ok (.iload_n 2, 1) := by decide +kernel
theorem dX11_load_157 : decode cX11_load 157 = .ok (.iaload, 1) := by decide +kernel
theorem dX11_load_158 : decode cX11_load 158 = .ok (.iastore, 1) := by decide +kernel
theorem dX11_load_159 : decode cX11_load 159 = .ok (.aload_n 0, 1) := by decide +kernel
theorem dX11_load_160 : decode cX11_load 160 = .ok (.getfield 27, 3) := by decide +kernel
theorem dX11_load_163 : decode cX11_load 163 = .ok (.iload_n 2, 1) := by decide +kernel
theorem dX11_load_164 : decode cX11_load 164 = .ok (.aload_n 0, 1) := by decide +kernel
theorem dX11_load_165 : decode cX11_load 165 = .ok (.getfield 39, 3) := by decide +kernel
theorem dX11_load_168 : decode cX11_load 168 = .ok (.iload_n 2, 1) := by decide +kernel
theorem dX11_load_169 : decode cX11_load 169 = .ok (.iaload, 1) := by decide +kernel
theorem dX11_load_170 : decode cX11_load 170 = .ok (.iastore, 1) := by decide +kernel
theorem dX11_load_171 : decode cX11_load 171 = .ok (.aload_n 0, 1) := by decide +kernel
theorem dX11_load_172 : decode cX11_load 172 = .ok (.getfield 30, 3) := by decide +kernel
theorem dX11_load_175 : decode cX11_load 175 = .ok (.iload_n 2, 1) := by decide +kernel
theorem dX11_load_176 : decode cX11_load 176 = .ok (.aload_n 0, 1) := by decide +kernel
theorem dX11_load_177 : decode cX11_load 177 = .ok (.getfield 42, 3) := by decide +kernel
theorem dX11_load_180 : decode cX11_load 180 = .ok (.iload_n 2, 1) := by decide +kernel
theorem dX11_load_181 : decode cX11_load 181 = .ok (.iaload, 1) := by decide +kernel
theorem dX11_load_182 : decode cX11_load 182 = .ok (.iastore, 1) := by decide +kernel
theorem dX11_load_183 : decode cX11_load 183 = .ok (.iinc 2 1, 3) := by decide +kernel
theorem dX11_load_186 : decode cX11_load 186 = .ok (.goto (-59), 3) := by decide +kernel
theorem dX11_load_189 : decode cX11_load 189 = .ok (.iconst 0, 1) := by decide +kernel
theorem dX11_load_190 : decode cX11_load 190 = .ok (.istore_n 2, 1) := by decide +kernel
theorem dX11_load_191 : decode cX11_load 191 = .ok (.iload_n 2, 1) := by decide +kernel
theorem dX11_load_192 : decode cX11_load 192 = .ok (.aload_n 0, 1) := by decide +kernel
theorem dX11_load_193 : decode cX11_load 193 = .ok (.getfield 304, 3) := by decide +kernel
theorem dX11_load_196 : decode cX11_load 196 = .ok (.if_icmp .ge 33, 3) := by decide +kernel
theorem dX11_load_199 : decode cX11_load 199 = .ok (.aload_n 0, 1) := by decide +kernel
theorem dX11_load_200 : decode cX11_load 200 = .ok (.getfield 45, 3) := by decide +kernel
theorem dX11_load_203 : decode cX11_load 203 = .ok (.iload_n 2, 1) := by decide +kernel
theorem dX11_load_204 : decode cX11_load 204 = .ok (.aload_n 0, 1) := by decide +kernel
theorem dX11_load_205 : decode cX11_load 205 = .ok (.getfield 51, 3) := by decide +kernel
theorem dX11_load_208 : decode cX11_load 208 = .ok (.iload_n 2, 1) := by decide +kernel
theorem dX11_load_209 : decode cX11_load 209 = .ok (.iaload, 1) := by decide +kernel
theorem dX11_load_210 : decode cX11_load 210 = .ok (.iastore, 1) := by decide +kernel
theorem dX11_load_211 : decode cX11_load 211 = .ok (.aload_n 0, 1) := by decide +kernel
theorem dX11_load_212 : decode cX11_load 212 = .ok (.getfield 48, 3) := by decide +kernel
theorem dX11_load_215 : decode cX11_load 215 = .ok (.iload_n 2, 1) := by decide +kernel
theorem dX11_load_216 : decode cX11_load 216 = .ok (.aload_n 0, 1) := by decide +kernel
theorem dX11_load_217 : decode cX11_load 217 = .ok (.getfield 54, 3) := by decide +kernel
theorem dX11_load_220 : decode cX11_load 220 = .ok (.iload_n 2, 1) := by decide +kernel
theorem dX11_load_221 : decode cX11_load 221 = .ok (.iaload, 1) := by decide +kernel
theorem dX11_load_222 : decode cX11_load 222 = .ok (.iastore, 1) := by decide +kernel
theorem dX11_load_223 : decode cX11_load 223 = .ok (.iinc 2 1, 3) := by decide +kernel
theorem dX11_load_226 : decode cX11_load 226 = .ok (.goto (-35), 3) := by decide +kernel
theorem dX11_load_229 : decode cX11_load 229 = .ok (.iconst 0, 1) := by decide +kernel
theorem dX11_load_230 : decode cX11_load 230 = .ok (.istore_n 2, 1) := by decide +kernel
theorem dX11_load_231 : decode cX11_load 231 = .ok (.iload_n 2, 1) := by decide +kernel
theorem dX11_load_232 : decode cX11_load 232 = .ok (.aload_n 0, 1) := by decide +kernel
theorem dX11_load_233 : decode cX11_load 233 = .ok (.getfield 307, 3) := by decide +kernel
theorem dX11_load_236 : decode cX11_load 236 = .ok (.if_icmp .ge 33, 3) := by decide +kernel
theorem dX11_load_239 : decode cX11_load 239 = .ok (.aload_n 0, 1) := by decide +kernel
theorem dX11_load_240 : decode cX11_load 240 = .ok (.getfield 57, 3) := by decide +kernel
theorem dX11_load_243 : decode cX11_load 243 = .ok (.iload_n 2, 1) := by decide +kernel
theorem dX11_load_244 : decode cX11_load 244 = .ok (.aload_n 0, 1) := by decide +kernel
theorem dX11_load_245 : decode cX11_load 245 = .ok (.getfield 60, 3) := by decide +kernel
theorem dX11_load_248 : decode cX11_load 248 = .ok (.iload_n 2, 1) := by decide +kernel
theorem dX11_load_249 : decode cX11_load 249 = .ok (.iaload, 1) := by decide +kernel
theorem dX11_load_250 : decode cX11_load 250 = .ok (.iastore, 1) := by decide +kernel
theorem dX11_load_251 : decode cX11_load 251 = .ok (.aload_n 0, 1) := by decide +kernel
theorem dX11_load_252 : decode cX11_load 252 = .ok (.getfield 63, 3) := by decide +kernel
theorem dX11_load_255 : decode cX11_load 255 = .ok (.iload_n 2, 1) := by decide +kernel
theorem dX11_load_256 : decode cX11_load 256 = .ok (.aload_n 0, 1) := by decide +kernel
theorem dX11_load_257 : decode cX11_load 257 = .ok (.getfield 67, 3) := by decide +kernel
theorem dX11_load_260 : decode cX11_load 260 = .ok (.iload_n 2, 1) := by decide +kernel
theorem dX11_load_261 : decode cX11_load 261 = .ok (.baload, 1) := by decide +kernel
theorem dX11_load_262 : decode cX11_load 262 = .ok (.bastore, 1) := by decide +kernel
theorem dX11_load_263 : decode cX11_load 263 = .ok (.iinc 2 1, 3) := by decide +kernel
theorem dX11_load_266 : decode cX11_load 266 = .ok (.goto (-35), 3) := by decide +kernel
theorem dX11_load_269 : decode cX11_load 269 = .ok (.iconst 0, 1) := by decide +kernel
theorem dX11_load_270 : decode cX11_load 270 = .ok (.istore_n 2, 1) := by decide +kernel
theorem dX11_load_271 : decode cX11_load 271 = .ok (.iload_n 2, 1) := by decide +kernel
theorem dX11_load_272 : decode cX11_load 272 = .ok (.bipush 20, 2) := by decide +kernel
theorem dX11_load_274 : decode cX11_load 274 = .ok (.if_icmp .ge 48, 3) := by decide +kernel
theorem dX11_load_277 : decode cX11_load 277 = .ok (.aload_n 0, 1) := by decide +kernel
theorem dX11_load_278 : decode cX11_load 278 = .ok (.getfield 73, 3) := by decide +kernel
theorem dX11_load_281 : decode cX11_load 281 = .ok (.iload_n 2, 1) := by decide +kernel
theorem dX11_load_282 : decode cX11_load 282 = .ok (.bipush 10, 2) := by decide +kernel
theorem dX11_load_284 : decode cX11_load 284 = .ok (.iastore, 1) := by decide +kernel
theorem dX11_load_285 : decode cX11_load 285 = .ok (.aload_n 0, 1) := by decide +kernel
theorem dX11_load_286 : decode cX11_load 286 = .ok (.getfield 79, 3) := by decide +kernel
theorem dX11_load_289 : decode cX11_load 289 = .ok (.iload_n 2, 1) := by decide +kernel
theorem dX11_load_290 : decode cX11_load 290 = .ok (.iconst 0, 1) := by decide +kernel
theorem dX11_load_291 : decode cX11_load 291 = .ok (.iastore, 1) := by decide +kernel
theorem dX11_load_292 : decode cX11_load 292 = .ok (.iconst 0, 1) := by decide +kernel
theorem dX11_load_293 : decode cX11_load 293 = .ok (.istore_n 3, 1) := by decide +kernel
theorem dX11_load_294 : decode cX11_load 294 = .ok (.iload_n 3, 1) := by decide +kernel
theorem dX11_load_295 : decode cX11_load 295 = .ok (.iconst 3, 1) := by decide +kernel
theorem dX11_load_296 : decode cX11_load 296 = .ok (.if_icmp .ge 20, 3) := by decide +kernel
theorem dX11_load_299 : decode cX11_load 299 = .ok (.aload_n 0, 1) := by decide +kernel
theorem dX11_load_300 : decode cX11_load 300 = .ok (.getfield 76, 3) := by decide +kernel
theorem dX11_load_303 : decode cX11_load 303 = .ok (.iconst 3, 1) := by decide +kernel
theorem dX11_load_304 : decode cX11_load 304 = .ok (.iload_n 2, 1) := by decide +kernel
theorem dX11_load_305 : decode cX11_load 305 = .ok (.imul, 1) := by decide +kernel
theorem dX11_load_306 : decode cX11_load 306 = .ok (.iload_n 3, 1) := by decide +kernel
theorem dX11_load_307 : decode cX11_load 307 = .ok (.iadd, 1) := by decide +kernel
theorem dX11_load_308 : decode cX11_load 308 = .ok (.iconst 0, 1) := by decide +kernel
theorem dX11_load_309 : decode cX11_load 309 = .ok (.iastore, 1) := by decide +kernel
theorem dX11_load_310 : decode cX11_load 310 = .ok (.iinc 3 1, 3) := by decide +kernel
theorem dX11_load_313 : decode cX11_load 313 = .ok (.goto (-19), 3) := by decide +kernel
theorem dX11_load_316 : decode cX11_load 316 = .ok (.iinc 2 1, 3) := by decide +kernel
theorem dX11_load_319 : decode cX11_load 319 = .ok (.goto (-48), 3) := by decide +kernel
theorem dX11_load_322 : decode cX11_load 322 = .ok (.aload_n 0, 1) := by decide +kernel
theorem dX11_load_323 : decode cX11_load 323 = .ok (.iconst 0, 1) := by decide +kernel
theorem dX11_load_324 : decode cX11_load 324 = .ok (.putfield 313, 3) := by decide +kernel
theorem dX11_load_327 : decode cX11_load 327 = .ok (.aload_n 0, 1) := by decide +kernel
theorem dX11_load_328 : decode cX11_load 328 = .ok (.iconst (-1), 1) := by decide +kernel
theorem dX11_load_329 : decode cX11_load 329 = .ok (.putfield 82, 3) := by decide +kernel
theorem dX11_load_332 : decode cX11_load 332 = .ok (.aload_n 0, 1) := by decide +kernel
theorem dX11_load_333 : decode cX11_load 333 = .ok (.iconst 0, 1) := by decide +kernel
theorem dX11_load_334 : decode cX11_load 334 = .ok (.putfield 316, 3) := by decide +kernel
theorem dX11_load_337 : decode cX11_load 337 = .ok (.aload_n 0, 1) := by decide +kernel
theorem dX11_load_338 : decode cX11_load 338 = .ok (.iconst 0, 1) := by decide +kernel
theorem dX11_load_339 : decode cX11_load 339 = .ok (.putfield 319, 3) := by decide +kernel
theorem dX11_load_342 : decode cX11_load 342 = .ok (.aload_n 0, 1) := by decide +kernel
theorem dX11_load_343 : decode cX11_load 343 = .ok (.iconst 0, 1) := by decide +kernel
theorem dX11_load_344 : decode cX11_load 344 = .ok (.putfield 322, 3) := by decide +kernel
theorem dX11_load_347 : decode cX11_load 347 = .ok (.iconst 0, 1) := by decide +kernel
theorem dX11_load_348 : decode cX11_load 348 = .ok (.istore_n 2, 1) := by decide +kernel
theorem dX11_load_349 : decode cX11_load 349 = .ok (.iload_n 2, 1) := by decide +kernel
theorem dX11_load_350 : decode cX11_load 350 = .ok (.bipush 64, 2) := by decide +kernel
theorem dX11_load_352 : decode cX11_load 352 = .ok (.if_icmp .ge 16, 3) := by decide +kernel
theorem dX11_load_355 : decode cX11_load 355 = .ok (.aload_n 0, 1) := by decide +kernel
theorem dX11_load_356 : decode cX11_load 356 = .ok (.getfield 85, 3) := by decide +kernel
theorem dX11_load_359 : decode cX11_load 359 = .ok (.iload_n 2, 1) := by decide +kernel
theorem dX11_load_360 : decode cX11_load 360 = .ok (.iconst 0, 1) := by decide +kernel
theorem dX11_load_361 : decode cX11_load 361 = .ok (.bastore, 1) := by decide +kernel
theorem dX11_load_362 : decode cX11_load 362 = .ok (.iinc 2 1, 3) := by decide +kernel
theorem dX11_load_365 : decode cX11_load 365 = .ok (.goto (-16), 3) := by decide +kernel
theorem dX11_load_368 : decode cX11_load 368 = .ok (.iconst 0, 1) := by decide +kernel
theorem dX11_load_369 : decode cX11_load 369 = .ok (.istore_n 2, 1) := by decide +kernel
theorem dX11_load_370 : decode cX11_load 370 = .ok (.iload_n 2, 1) := by decide +kernel
theorem dX11_load_371 : decode cX11_load 371 = .ok (.iconst 4, 1) := by decide +kernel
theorem dX11_load_372 : decode cX11_load 372 = .ok (.if_icmp .ge 16, 3) := by decide +kernel
theorem dX11_load_375 : decode cX11_load 375 = .ok (.aload_n 0, 1) := by decide +kernel
theorem dX11_load_376 : decode cX11_load 376 = .ok (.getfield 91, 3) := by decide +kernel
theorem dX11_load_379 : decode cX11_load 379 = .ok (.iload_n 2, 1) := by decide +kernel
theorem dX11_load_380 : decode cX11_load 380 = .ok (.iconst 0, 1) := by decide +kernel
theorem dX11_load_381 : decode cX11_load 381 = .ok (.iastore, 1) := by decide +kernel
theorem dX11_load_382 : decode cX11_load 382 = .ok (.iinc 2 1, 3) := by decide +kernel
theorem dX11_load_385 : decode cX11_load 385 = .ok (.goto (-15), 3) := by decide +kernel
theorem dX11_load_388 : decode cX11_load 388 = .ok (.aload_n 0, 1) := by decide +kernel
theorem dX11_load_389 : decode cX11_load 389 = .ok (.getfield 301, 3) := by decide +kernel
theorem dX11_load_392 : decode cX11_load 392 = .ok (.ireturn, 1) := by decide +kernel
theorem dX11_fault_0 : decode cX11_fault 0 = .ok (.aload_n 0, 1) := by decide +kernel
theorem dX11_fault_1 : decode cX11_fault 1 = .ok (.iconst 0, 1) := by decide +kernel
theorem dX11_fault_2 : decode cX11_fault 2 = .ok (.putfield 146, 3) := by decide +kernel
theorem dX11_fault_5 : decode cX11_fault 5 = .ok (.iload_n 1, 1) := by decide +kernel
theorem dX11_fault_6 : decode cX11_fault 6 = .ok (.ifCond .ne 10, 3) := by decide +kernel
theorem dX11_fault_9 : decode cX11_fault 9 = .ok (.aload_n 0, 1) := by decide +kernel
theorem dX11_fault_10 : decode cX11_fault 10 = .ok (.getfield 13, 3) := by decide +kernel
theorem dX11_fault_13 : decode cX11_fault 13 = .ok (.goto 16, 3) := by decide +kernel
theorem dX11_fault_16 : decode cX11_fault 16 = .ok (.iload_n 1, 1) := by decide +kernel
theorem dX11_fault_17 : decode cX11_fault 17 = .ok (.iconst 1, 1) := by decide +kernel
theorem dX11_fault_18 : decode cX11_fault 18 = .ok (.if_icmp .ne 10, 3) := by decide +kernel
theorem dX11_fault_21 : decode cX11_fault 21 = .ok (.aload_n 0, 1) := by decide +kernel
theorem dX11_fault_22 : decode cX11_fault 22 = .ok (.getfield 17, 3) := by decide +kernel
theorem dX11_fault_25 : decode cX11_fault 25 = .ok (.goto 4, 3) := by decide +kernel
theorem dX11_fault_28 : decode cX11_fault 28 = .ok (.iconst (-1), 1) := by decide +kernel
theorem dX11_fault_29 : decode cX11_fault 29 = .ok (.ireturn, 1) := by decide +kernel
theorem dX11_isRound_0 : decode cX11_isRound 0 = .ok (.iload_n 1, 1) := by decide +kernel
theorem dX11_isRound_1 : decode cX11_isRound 1 = .ok (.ifCond .lt 15, 3) := by decide +kernel
theorem dX11_isRound_4 : decode cX11_isRound 4 = .ok (.iload_n 1, 1) := by decide +kernel
theorem dX11_isRound_5 : decode cX11_isRound 5 = .ok (.aload_n 0, 1) := by decide +kernel
theorem dX11_isRound_6 : decode cX11_isRound 6 = .ok (.getfield 301, 3) := by decide +kernel
theorem dX11_isRound_9 : decode cX11_isRound 9 = .ok (.if_icmp .ge 7, 3) := by decide +kernel
theorem dX11_isRound_12 : decode cX11_isRound 12 = .ok (.iconst 1, 1) := by decide +kernel
theorem dX11_isRound_13 : decode cX11_isRound 13 = .ok (.goto 4, 3) := by decide +kernel
theorem dX11_isRound_16 : decode cX11_isRound 16 = .ok (.iconst 0, 1) := by decide +kernel
theorem dX11_isRound_17 : decode cX11_isRound 17 = .ok (.ireturn, 1) := by decide +kernel
theorem dX11_isRoute_0 : decode cX11_isRoute 0 = .ok (.aload_n 0, 1) := by decide +kernel
theorem dX11_isRoute_1 : decode cX11_isRoute 1 = .ok (.iload_n 1, 1) := by decide +kernel
theorem dX11_isRoute_2 : decode cX11_isRoute 2 = .ok (.invokevirtual 325, 3) := by decide +kernel
theorem dX11_isRoute_5 : decode cX11_isRoute 5 = .ok (.ifCond .eq 21, 3) := by decide +kernel
theorem dX11_isRoute_8 : decode cX11_isRoute 8 = .ok (.iload_n 2, 1) := by decide +kernel
theorem dX11_isRoute_9 : decode cX11_isRoute 9 = .ok (.ifCond .lt 17, 3) := by decide +kernel
theorem dX11_isRoute_12 : decode cX11_isRoute 12 = .ok (.iload_n 2, 1) := by decide +kernel
theorem dX11_isRoute_13 : decode cX11_isRoute 13 = .ok (.aload_n 0, 1) := by decide +kernel
theorem dX11_isRoute_14 : decode cX11_isRoute 14 = .ok (.getfield 20, 3) := by decide +kernel
theorem dX11_isRoute_17 : decode cX11_isRoute 17 = .ok (.iload_n 1, 1) := by decide +kernel
theorem dX11_isRoute_18 : decode cX11_isRoute 18 = .ok (.iaload, 1) := by decide +kernel
theorem dX11_isRoute_19 : decode cX11_isRoute 19 = .ok (.if_icmp .ge 7, 3) := by decide +kernel
theorem dX11_isRoute_22 : decode cX11_isRoute 22 = .ok (.iconst 1, 1) := by decide +kernel
theorem dX11_isRoute_23 : decode cX11_isRoute 23 = .ok (.goto 4, 3) := by decide +kernel
theorem dX11_isRoute_26 : decode cX11_isRoute 26 = .ok (.iconst 0, 1) := by decide +kernel
theorem dX11_isRoute_27 : decode cX11_isRoute 27 = .ok (.ireturn, 1) := by decide +kernel
theorem dX11_isClimber_0 : decode cX11_isClimber 0 = .ok (.iload_n 1, 1) := by decide +kernel
theorem dX11_isClimber_1 : decode cX11_isClimber 1 = .ok (.ifCond .lt 15, 3) := by decide +kernel
theorem dX11_isClimber_4 : decode cX11_isClimber 4 = .ok (.iload_n 1, 1) := by decide +kernel
theorem dX11_isClimber_5 : decode cX11_isClimber 5 = .ok (.aload_n 0, 1) := by decide +kernel
theorem dX11_isClimber_6 : decode cX11_isClimber 6 = .ok (.getfield 313, 3) := by decide +kernel
theorem dX11_isClimber_9 : decode cX11_isClimber 9 = .ok (.if_icmp .ge 7, 3) := by decide +kernel
theorem dX11_isClimber_12 : decode cX11_isClimber 12 = .ok (.iconst 1, 1) := by decide +kernel
theorem dX11_isClimber_13 : decode cX11_isClimber 13 = .ok (.goto 4, 3) := by decide +kernel
theorem dX11_isClimber_16 : decode cX11_isClimber 16 = .ok (.iconst 0, 1) := by decide +kernel
theorem dX11_isClimber_17 : decode cX11_isClimber 17 = .ok (.ireturn, 1) := by decide +kernel
theorem dX11_climber_0 : decode cX11_climber 0 = .ok (.aload_n 0, 1) := by decide +kernel
theorem dX11_climber_1 : decode cX11_climber 1 = .ok (.iconst 0, 1) := by decide +kernel
theorem dX11_climber_2 : decode cX11_climber 2 = .ok (.putfield 146, 3) := by decide +kernel
theorem dX11_climber_5 : decode cX11_climber 5 = .ok (.aload_n 0, 1) := by decide +kernel
theorem dX11_climber_6 : decode cX11_climber 6 = .ok (.iconst 0, 1) := by decide +kernel
theorem dX11_climber_7 : decode cX11_climber 7 = .ok (.putfield 149, 3) := by decide +kernel
theorem dX11_climber_10 : decode cX11_climber 10 = .ok (.aload_n 0, 1) := by decide +kernel
theorem dX11_climber_11 : decode cX11_climber 11 = .ok (.getfield 301, 3) := by decide +kernel
theorem dX11_climber_14 : decode cX11_climber 14 = .ok (.ifCond .ne 9, 3) := by decide +kernel
theorem dX11_climber_17 : decode cX11_climber 17 = .ok (.aload_n 0, 1) := by decide +kernel
theorem dX11_climber_18 : decode cX11_climber 18 = .ok (.iconst 1, 1) := by decide +kernel
theorem dX11_climber_19 : decode cX11_climber 19 = .ok (.invokevirtual 295, 3) := by decide +kernel
theorem dX11_climber_22 : decode cX11_climber 22 = .ok (.ireturn, 1) := by decide +kernel
theorem dX11_climber_23 : decode cX11_climber 23 = .ok (.aload_n 0, 1) := by decide +kernel
theorem dX11_climber_24 : decode cX11_climber 24 = .ok (.getfield 313, 3) := by decide +kernel
theorem dX11_climber_27 : decode cX11_climber 27 = .ok (.bipush 16, 2) := by decide +kernel
theorem dX11_climber_29 : decode cX11_climber 29 = .ok (.if_icmp .ne 9, 3) := by decide +kernel
theorem dX11_climber_32 : decode cX11_climber 32 = .ok (.aload_n 0, 1) := by decide +kernel
theorem dX11_climber_33 : decode cX11_climber 33 = .ok (.iconst 3, 1) := by decide +kernel
theorem dX11_climber_34 : decode cX11_climber 34 = .ok (.invokevirtual 295, 3) := by decide +kernel
theorem dX11_climber_37 : decode cX11_climber 37 = .ok (.ireturn, 1) := by decide +kernel
theorem dX11_climber_38 : decode cX11_climber 38 = .ok (.aload_n 0, 1) := by decide +kernel
theorem dX11_climber_39 : decode cX11_climber 39 = .ok (.getfield 319, 3) := by decide +kernel
theorem dX11_climber_42 : decode cX11_climber 42 = .ok (.ifCond .gt 10, 3) := by decide +kernel
theorem dX11_climber_45 : decode cX11_climber 45 = .ok (.aload_n 0, 1) := by decide +kernel
theorem dX11_climber_46 : decode cX11_climber 46 = .ok (.getfield 82, 3) := by decide +kernel
theorem dX11_climber_49 : decode cX11_climber 49 = .ok (.ifCond .le 10, 3) := by decide +kernel
theorem dX11_climber_52 : decode cX11_climber 52 = .ok (.aload_n 0, 1) := by decide +kernel
theorem dX11_climber_53 : decode cX11_climber 53 = .ok (.bipush 10, 2) := by decide +kernel
theorem dX11_climber_55 : decode cX11_climber 55 = .ok (.invokevirtual 295, 3) := by decide +kernel
theorem dX11_climber_58 : decode cX11_climber 58 = .ok (.ireturn, 1) := by decide +kernel
theorem dX11_climber_59 : decode cX11_climber 59 = .ok (.aload_n 0, 1) := by decide +kernel
theorem dX11_climber_60 : decode cX11_climber 60 = .ok (.getfield 85, 3) := by decide +kernel
theorem dX11_climber_63 : decode cX11_climber 63 = .ok (.aload_n 0, 1) := by decide +kernel
theorem dX11_climber_64 : decode cX11_climber 64 = .ok (.getfield 313, 3) := by decide +kernel
theorem dX11_climber_67 : decode cX11_climber 67 = .ok (.iconst 1, 1) := by decide +kernel
theorem dX11_climber_68 : decode cX11_climber 68 = .ok (.bastore, 1) := by decide +kernel
theorem dX11_climber_69 : decode cX11_climber 69 = .ok (.aload_n 0, 1) := by decide +kernel
theorem dX11_climber_70 : decode cX11_climber 70 = .ok (.getfield 88, 3) := by decide +kernel
theorem dX11_climber_73 : decode cX11_climber 73 = .ok (.aload_n 0, 1) := by decide +kernel
theorem dX11_climber_74 : decode cX11_climber 74 = .ok (.getfield 313, 3) := by decide +kernel
theorem dX11_climber_77 : decode cX11_climber 77 = .ok (.aload_n 0, 1) := by decide +kernel
theorem dX11_climber_78 : decode cX11_climber 78 = .ok (.getfield 313, 3) := by decide +kernel
theorem dX11_climber_81 : decode cX11_climber 81 = .ok (.iastore, 1) := by decide +kernel
theorem dX11_climber_82 : decode cX11_climber 82 = .ok (.aload_n 0, 1) := by decide +kernel
theorem dX11_climber_83 : decode cX11_climber 83 = .ok (.getfield 124, 3) := by decide +kernel
theorem dX11_climber_86 : decode cX11_climber 86 = .ok (.aload_n 0, 1) := by decide +kernel
theorem dX11_climber_87 : decode cX11_climber 87 = .ok (.getfield 313, 3) := by decide +kernel
theorem dX11_climber_90 : decode cX11_climber 90 = .ok (.iconst 0, 1) := by decide +kernel
theorem dX11_climber_91 : decode cX11_climber 91 = .ok (.iastore, 1) := by decide +kernel
theorem dX11_climber_92 : decode cX11_climber 92 = .ok (.aload_n 0, 1) := by decide +kernel
theorem dX11_climber_93 : decode cX11_climber 93 = .ok (.dup, 1) := by decide +kernel
theorem dX11_climber_94 : decode cX11_climber 94 = .ok (.getfield 313, 3) := by decide +kernel
theorem dX11_climber_97 : decode cX11_climber 97 = .ok (.iconst 1, 1) := by decide +kernel
theorem dX11_climber_98 : decode cX11_climber 98 = .ok (.iadd, 1) := by decide +kernel
theorem dX11_climber_99 : decode cX11_climber 99 = .ok (.putfield 313, 3) := by decide +kernel
theorem dX11_climber_102 : decode cX11_climber 102 = .ok (.aload_n 0, 1) := by decide +kernel
theorem dX11_climber_103 : decode cX11_climber 103 = .ok (.getfield 91, 3) := by decide +kernel
theorem dX11_climber_106 : decode cX11_climber 106 = .ok (.iconst 0, 1) := by decide +kernel
theorem dX11_climber_107 : decode cX11_climber 107 = .ok (.aload_n 0, 1) := by decide +kernel
theorem dX11_climber_108 : decode cX11_climber 108 = .ok (.getfield 313, 3) := by decide +kernel
theorem dX11_climber_111 : decode cX11_climber 111 = .ok (.iastore, 1) := by decide +kernel
theorem dX11_climber_112 : decode cX11_climber 112 = .ok (.aload_n 0, 1) := by decide +kernel
theorem dX11_climber_113 : decode cX11_climber 113 = .ok (.iconst 0, 1) := by decide +kernel
theorem dX11_climber_114 : decode cX11_climber 114 = .ok (.putfield 82, 3) := by decide +kernel
theorem dX11_climber_117 : decode cX11_climber 117 = .ok (.aload_n 0, 1) := by decide +kernel
theorem dX11_climber_118 : decode cX11_climber 118 = .ok (.getfield 313, 3) := by decide +kernel
theorem dX11_climber_121 : decode cX11_climber 121 = .ok (.iconst 1, 1) := by decide +kernel
theorem dX11_climber_122 : decode cX11_climber 122 = .ok (.isub, 1) := by decide +kernel
theorem dX11_climber_123 : decode cX11_climber 123 = .ok (.ireturn, 1) := by decide +kernel
theorem dX11_route_0 : decode cX11_route 0 = .ok (.aload_n 0, 1) := by decide +kernel
theorem dX11_route_1 : decode cX11_route 1 = .ok (.iconst 0, 1) := by decide +kernel
theorem dX11_route_2 : decode cX11_route 2 = .ok (.putfield 146, 3) := by decide +kernel
theorem dX11_route_5 : decode cX11_route 5 = .ok (.aload_n 0, 1) := by decide +kernel
theorem dX11_route_6 : decode cX11_route 6 = .ok (.iconst 0, 1) := by decide +kernel
theorem dX11_route_7 : decode cX11_route 7 = .ok (.putfield 149, 3) := by decide +kernel
theorem dX11_route_10 : decode cX11_route 10 = .ok (.aload_n 0, 1) := by decide +kernel
theorem dX11_route_11 : decode cX11_route 11 = .ok (.iload_n 1, 1) := by decide +kernel
theorem dX11_route_12 : decode cX11_route 12 = .ok (.iload_n 2, 1) := by decide +kernel
theorem dX11_route_13 : decode cX11_route 13 = .ok (.invokevirtual 328, 3) := by decide +kernel
theorem dX11_route_16 : decode cX11_route 16 = .ok (.ifCond .ne 9, 3) := by decide +kernel
theorem dX11_route_19 : decode cX11_route 19 = .ok (.aload_n 0, 1) := by decide +kernel
theorem dX11_route_20 : decode cX11_route 20 = .ok (.iconst 1, 1) := by decide +kernel
theorem dX11_route_21 : decode cX11_route 21 = .ok (.invokevirtual 332, 3) := by decide +kernel
theorem dX11_route_24 : decode cX11_route 24 = .ok (.ireturn, 1) := by decide +kernel
theorem dX11_route_25 : decode cX11_route 25 = .ok (.iload_n 3, 1) := by decide +kernel
theorem dX11_route_26 : decode cX11_route 26 = .ok (.iconst 2, 1) := by decide +kernel
theorem dX11_route_27 : decode cX11_route 27 = .ok (.if_icmp .lt 46, 3) := by decide +kernel
theorem dX11_route_30 : decode cX11_route 30 = .ok (.iload_n 3, 1) := by decide +kernel
theorem dX11_route_31 : decode cX11_route 31 = .ok (.bipush 60, 2) := by decide +kernel
theorem dX11_route_33 : decode cX11_route 33 = .ok (.if_icmp .gt 40, 3) := by decide +kernel
theorem dX11_route_36 : decode cX11_route 36 = .ok (.iload 4, 2) := by decide +kernel
theorem dX11_route_38 : decode cX11_route 38 = .ok (.ifCond .lt 35, 3) := by decide +kernel
theorem dX11_route_41 : decode cX11_route 41 = .ok (.iload 5, 2) := by decide +kernel
theorem dX11_route_43 : decode cX11_route 43 = .ok (.ifCond .lt 30, 3) := by decide +kernel
theorem dX11_route_46 : decode cX11_route 46 = .ok (.iload 6, 2) := by decide +kernel
theorem dX11_route_48 : decode cX11_route 48 = .ok (.ifCond .lt 25, 3) := by decide +kernel
theorem dX11_route_51 : decode cX11_route 51 = .ok (.iload 4, 2) := by decide +kernel
theorem dX11_route_53 : decode cX11_route 53 = .ok (.iload_n 3, 1) := by decide +kernel
theorem dX11_route_54 : decode cX11_route 54 = .ok (.if_icmp .gt 19, 3) := by decide +kernel
theorem dX11_route_57 : decode cX11_route 57 = .ok (.iload 5, 2) := by decide +kernel
theorem dX11_route_59 : decode cX11_route 59 = .ok (.iload_n 3, 1) := by decide +kernel
theorem dX11_route_60 : decode cX11_route 60 = .ok (.if_icmp .gt 13, 3) := by decide +kernel
theorem dX11_route_63 : decode cX11_route 63 = .ok (.iload 6, 2) := by decide +kernel
theorem dX11_route_65 : decode cX11_route 65 = .ok (.iload_n 3, 1) := by decide +kernel
theorem dX11_route_66 : decode cX11_route 66 = .ok (.if_icmp .gt 7, 3) := by decide +kernel
theorem dX11_route_69 : decode cX11_route 69 = .ok (.iconst 1, 1) := by decide +kernel
theorem dX11_route_70 : decode cX11_route 70 = .ok (.goto 4, 3) := by decide +kernel
theorem dX11_route_73 : decode cX11_route 73 = .ok (.iconst 0, 1) := by decide +kernel
theorem dX11_route_74 : decode cX11_route 74 = .ok (.istore 7, 2) := by decide +kernel
theorem dX11_route_76 : decode cX11_route 76 = .ok (.iload 7, 2) := by decide +kernel
theorem dX11_route_78 : decode cX11_route 78 = .ok (.ifCond .eq 57, 3) := by decide +kernel
theorem dX11_route_81 : decode cX11_route 81 = .ok (.iload 4, 2) := by decide +kernel
theorem dX11_route_83 : decode cX11_route 83 = .ok (.ifCond .ne 11, 3) := by decide +kernel
theorem dX11_route_86 : decode cX11_route 86 = .ok (.iload 5, 2) := by decide +kernel
theorem dX11_route_88 : decode cX11_route 88 = .ok (.ifCond .ne 47, 3) := by decide +kernel
theorem dX11_route_91 : decode cX11_route 91 = .ok (.goto 15, 3) := by decide +kernel
theorem dX11_route_94 : decode cX11_route 94 = .ok (.iload 5, 2) := by decide +kernel
theorem dX11_route_96 : decode cX11_route 96 = .ok (.ifCond .eq 10, 3) := by decide +kernel
theorem dX11_route_99 : decode cX11_route 99 = .ok (.iload 5, 2) := by decide +kernel
theorem dX11_route_101 : decode cX11_route 101 = .ok (.iload 4, 2) := by decide +kernel
theorem dX11_route_103 : decode cX11_route 103 = .ok (.if_icmp .le 32, 3) := by decide +kernel
theorem dX11_route_106 : decode cX11_route 106 = .ok (.iload 5, 2) := by decide +kernel
theorem dX11_route_108 : decode cX11_route 108 = .ok (.ifCond .ne 11, 3) := by decide +kernel
theorem dX11_route_111 : decode cX11_route 111 = .ok (.iload 6, 2) := by decide +kernel
theorem dX11_route_113 : decode cX11_route 113 = .ok (.ifCond .ne 22, 3) := by decide +kernel
theorem dX11_route_116 : decode cX11_route 116 = .ok (.goto 15, 3) := by decide +kernel
theorem dX11_route_119 : decode cX11_route 119 = .ok (.iload 6, 2) := by decide +kernel
theorem dX11_route_121 : decode cX11_route 121 = .ok (.ifCond .eq 10, 3) := by decide +kernel
theorem dX11_route_124 : decode cX11_route 124 = .ok (.iload 6, 2) := by decide +kernel
theorem dX11_route_126 : decode cX11_route 126 = .ok (.iload 5, 2) := by decide +kernel
theorem dX11_route_128 : decode cX11_route 128 = .ok (.if_icmp .le 7, 3) := by decide +kernel
theorem dX11_route_131 : decode cX11_route 131 = .ok (.iconst 1, 1) := by decide +kernel
theorem dX11_route_132 : decode cX11_route 132 = .ok (.goto 4, 3) := by decide +kernel
theorem dX11_route_135 : decode cX11_route 135 = .ok (.iconst 0, 1) := by decide +kernel
theorem dX11_route_136 : decode cX11_route 136 = .ok (.istore 7, 2) := by decide +kernel
theorem dX11_route_138 : decode cX11_route 138 = .ok (.iload 7, 2) := by decide +kernel
theorem dX11_route_140 : decode cX11_route 140 = .ok (.ifCond .ne 9, 3) := by decide +kernel
theorem dX11_route_143 : decode cX11_route 143 = .ok (.aload_n 0, 1) := by decide +kernel
theorem dX11_route_144 : decode cX11_route 144 = .ok (.iconst 2, 1) := by decide +kernel
theorem dX11_route_145 : decode cX11_route 145 = .ok (.invokevirtual 332, 3) := by decide +kernel
theorem dX11_route_148 : decode cX11_route 148 = .ok (.ireturn, 1) := by decide +kernel
theorem dX11_route_149 : decode cX11_route 149 = .ok (.iload_n 1, 1) := by decide +kernel
theorem dX11_route_150 : decode cX11_route 150 = .ok (.iload_n 2, 1) := by decide +kernel
theorem dX11_route_151 : decode cX11_route 151 = .ok (.invokestatic 335, 3) := by decide +kernel
theorem dX11_route_154 : decode cX11_route 154 = .ok (.istore 8, 2) := by decide +kernel
theorem dX11_route_156 : decode cX11_route 156 = .ok (.aload_n 0, 1) := by decide +kernel
theorem dX11_route_157 : decode cX11_route 157 = .ok (.getfield 79, 3) := by decide +kernel
theorem dX11_route_160 : decode cX11_route 160 = .ok (.iload 8, 2) := by decide +kernel
theorem dX11_route_162 : decode cX11_route 162 = .ok (.iaload, 1) := by decide +kernel
theorem dX11_route_163 : decode cX11_route 163 = .ok (.ifCond .le 10, 3) := by decide +kernel
theorem dX11_route_166 : decode cX11_route 166 = .ok (.aload_n 0, 1) := by decide +kernel
theorem dX11_route_167 : decode cX11_route 167 = .ok (.bipush 10, 2) := by decide +kernel
theorem dX11_route_169 : decode cX11_route 169 = .ok (.invokevirtual 332, 3) := by decide +kernel
theorem dX11_route_172 : decode cX11_route 172 = .ok (.ireturn, 1) := by decide +kernel
theorem dX11_route_173 : decode cX11_route 173 = .ok (.aload_n 0, 1) := by decide +kernel
theorem dX11_route_174 : decode cX11_route 174 = .ok (.getfield 73, 3) := by decide +kernel
theorem dX11_route_177 : decode cX11_route 177 = .ok (.iload 8, 2) := by decide +kernel
theorem dX11_route_179 : decode cX11_route 179 = .ok (.iload_n 3, 1) := by decide +kernel
theorem dX11_route_180 : decode cX11_route 180 = .ok (.iastore, 1) := by decide +kernel
theorem dX11_route_181 : decode cX11_route 181 = .ok (.aload_n 0, 1) := by decide +kernel
theorem dX11_route_182 : decode cX11_route 182 = .ok (.getfield 76, 3) := by decide +kernel
theorem dX11_route_185 : decode cX11_route 185 = .ok (.iconst 3, 1) := by decide +kernel
theorem dX11_route_186 : decode cX11_route 186 = .ok (.iload 8, 2) := by decide +kernel
theorem dX11_route_188 : decode cX11_route 188 = .ok (.imul, 1) := by decide +kernel
theorem dX11_route_189 : decode cX11_route 189 = .ok (.iload 4, 2) := by decide +kernel
theorem dX11_route_191 : decode cX11_route 191 = .ok (.iastore, 1) := by decide +kernel
theorem dX11_route_192 : decode cX11_route 192 = .ok (.aload_n 0, 1) := by decide +kernel
theorem dX11_route_193 : decode cX11_route 193 = .ok (.getfield 76, 3) := by decide +kernel
theorem dX11_route_196 : decode cX11_route 196 = .ok (.iconst 3, 1) := by decide +kernel
theorem dX11_route_197 : decode cX11_route 197 = .ok (.iload 8, 2) := by decide +kernel
theorem dX11_route_199 : decode cX11_route 199 = .ok (.imul, 1) := by decide +kernel
theorem dX11_route_200 : decode cX11_route 200 = .ok (.iconst 1, 1) := by decide +kernel
theorem dX11_route_201 : decode cX11_route 201 = .ok (.iadd, 1) := by decide +kernel
theorem dX11_route_202 : decode cX11_route 202 = .ok (.iload 5, 2) := by decide +kernel
theorem dX11_route_204 : decode cX11_route 204 = .ok (.iastore, 1) := by decide +kernel
theorem dX11_route_205 : decode cX11_route 205 = .ok (.aload_n 0, 1) := by decide +kernel
theorem dX11_route_206 : decode cX11_route 206 = .ok (.getfield 76, 3) := by decide +kernel
theorem dX11_route_209 : decode cX11_route 209 = .ok (.iconst 3, 1) := by decide +kernel
theorem dX11_route_210 : decode cX11_route 210 = .ok (.iload 8, 2) := by decide +kernel
theorem dX11_route_212 : decode cX11_route 212 = .ok (.imul, 1) := by decide +kernel
theorem dX11_route_213 : decode cX11_route 213 = .ok (.iconst 2, 1) := by decide +kernel
theorem dX11_route_214 : decode cX11_route 214 = .ok (.iadd, 1) := by decide +kernel
theorem dX11_route_215 : decode cX11_route 215 = .ok (.iload 6, 2) := by decide +kernel
theorem dX11_route_217 : decode cX11_route 217 = .ok (.iastore, 1) := by decide +kernel
theorem dX11_route_218 : decode cX11_route 218 = .ok (.iconst 1, 1) := by decide +kernel
theorem dX11_route_219 : decode cX11_route 219 = .ok (.ireturn, 1) := by decide +kernel
theorem dX11_told_0 : decode cX11_told 0 = .ok (.aload_n 0, 1) := by decide +kernel
theorem dX11_told_1 : decode cX11_told 1 = .ok (.iconst 0, 1) := by decide +kernel
theorem dX11_told_2 : decode cX11_told 2 = .ok (.putfield 146, 3) := by decide +kernel
theorem dX11_told_5 : decode cX11_told 5 = .ok (.aload_n 0, 1) := by decide +kernel
theorem dX11_told_6 : decode cX11_told 6 = .ok (.iconst 0, 1) := by decide +kernel
theorem dX11_told_7 : decode cX11_told 7 = .ok (.putfield 149, 3) := by decide +kernel
theorem dX11_told_10 : decode cX11_told 10 = .ok (.aload_n 0, 1) := by decide +kernel
theorem dX11_told_11 : decode cX11_told 11 = .ok (.iload_n 1, 1) := by decide +kernel
theorem dX11_told_12 : decode cX11_told 12 = .ok (.invokevirtual 325, 3) := by decide +kernel
theorem dX11_told_15 : decode cX11_told 15 = .ok (.ifCond .eq 17, 3) := by decide +kernel
theorem dX11_told_18 : decode cX11_told 18 = .ok (.iload_n 2, 1) := by decide +kernel
theorem dX11_told_19 : decode cX11_told 19 = .ok (.iconst (-1), 1) := by decide +kernel
theorem dX11_told_20 : decode cX11_told 20 = .ok (.if_icmp .eq 18, 3) := by decide +kernel
theorem dX11_told_23 : decode cX11_told 23 = .ok (.aload_n 0, 1) := by decide +kernel
theorem dX11_told_24 : decode cX11_told 24 = .ok (.iload_n 1, 1) := by decide +kernel
theorem dX11_told_25 : decode cX11_told 25 = .ok (.iload_n 2, 1) := by decide +kernel
theorem dX11_told_26 : decode cX11_told 26 = .ok (.invokevirtual 328, 3) := by decide +kernel
theorem dX11_told_29 : decode cX11_told 29 = .ok (.ifCond .ne 9, 3) := by decide +kernel
theorem dX11_told_32 : decode cX11_told 32 = .ok (.aload_n 0, 1) := by decide +kernel
theorem dX11_told_33 : decode cX11_told 33 = .ok (.iconst 1, 1) := by decide +kernel
theorem dX11_told_34 : decode cX11_told 34 = .ok (.invokevirtual 295, 3) := by decide +kernel
theorem dX11_told_37 : decode cX11_told 37 = .ok (.ireturn, 1) := by decide +kernel
theorem dX11_told_38 : decode cX11_told 38 = .ok (.iload_n 3, 1) := by decide +kernel
theorem dX11_told_39 : decode cX11_told 39 = .ok (.ifCond .lt 8, 3) := by decide +kernel
theorem dX11_told_42 : decode cX11_told 42 = .ok (.iload_n 3, 1) := by decide +kernel
theorem dX11_told_43 : decode cX11_told 43 = .ok (.iconst 4, 1) := by decide +kernel
theorem dX11_told_44 : decode cX11_told 44 = .ok (.if_icmp .le 9, 3) := by decide +kernel
theorem dX11_told_47 : decode cX11_told 47 = .ok (.aload_n 0, 1) := by decide +kernel
theorem dX11_told_48 : decode cX11_told 48 = .ok (.iconst 2, 1) := by decide +kernel
theorem dX11_told_49 : decode cX11_told 49 = .ok (.invokevirtual 295, 3) := by decide +kernel
theorem dX11_told_52 : decode cX11_told 52 = .ok (.ireturn, 1) := by decide +kernel
theorem dX11_told_53 : decode cX11_told 53 = .ok (.iload_n 2, 1) := by decide +kernel
theorem dX11_told_54 : decode cX11_told 54 = .ok (.iconst (-1), 1) := by decide +kernel
theorem dX11_told_55 : decode cX11_told 55 = .ok (.if_icmp .ne 65, 3) := by decide +kernel
theorem dX11_told_58 : decode cX11_told 58 = .ok (.iload_n 3, 1) := by decide +kernel
theorem dX11_told_59 : decode cX11_told 59 = .ok (.ifCond .ne 12, 3) := by decide +kernel
theorem dX11_told_62 : decode cX11_told 62 = .ok (.aload_n 0, 1) := by decide +kernel
theorem dX11_told_63 : decode cX11_told 63 = .ok (.getfield 20, 3) := by decide +kernel
theorem dX11_told_66 : decode cX11_told 66 = .ok (.iload_n 1, 1) := by decide +kernel
theorem dX11_told_67 : decode cX11_told 67 = .ok (.iaload, 1) := by decide +kernel
theorem dX11_told_68 : decode cX11_told 68 = .ok (.goto 51, 3) := by decide +kernel
theorem dX11_told_71 : decode cX11_told 71 = .ok (.iload_n 3, 1) := by decide +kernel
theorem dX11_told_72 : decode cX11_told 72 = .ok (.iconst 1, 1) := by decide +kernel
theorem dX11_told_73 : decode cX11_told 73 = .ok (.if_icmp .ne 12, 3) := by decide +kernel
theorem dX11_told_76 : decode cX11_told 76 = .ok (.aload_n 0, 1) := by decide +kernel
theorem dX11_told_77 : decode cX11_told 77 = .ok (.getfield 24, 3) := by decide +kernel
theorem dX11_told_80 : decode cX11_told 80 = .ok (.iload_n 1, 1) := by decide +kernel
theorem dX11_told_81 : decode cX11_told 81 = .ok (.iaload, 1) := by decide +kernel
theorem dX11_told_82 : decode cX11_told 82 = .ok (.goto 37, 3) := by decide +kernel
theorem dX11_told_85 : decode cX11_told 85 = .ok (.iload_n 3, 1) := by decide +kernel
theorem dX11_told_86 : decode cX11_told 86 = .ok (.iconst 2, 1) := by decide +kernel
theorem dX11_told_87 : decode cX11_told 87 = .ok (.if_icmp .ne 12, 3) := by decide +kernel
theorem dX11_told_90 : decode cX11_told 90 = .ok (.aload_n 0, 1) := by decide +kernel
theorem dX11_told_91 : decode cX11_told 91 = .ok (.getfield 27, 3) := by decide +kernel
theorem dX11_told_94 : decode cX11_told 94 = .ok (.iload_n 1, 1) := by decide +kernel
theorem dX11_told_95 : decode cX11_told 95 = .ok (.iaload, 1) := by decide +kernel
theorem dX11_told_96 : decode cX11_told 96 = .ok (.goto 23, 3) := by decide +kernel
theorem dX11_told_99 : decode cX11_told 99 = .ok (.iload_n 3, 1) := by decide +kernel
theorem dX11_told_100 : decode cX11_told 100 = .ok (.iconst 3, 1) := by decide +kernel
theorem dX11_told_101 : decode cX11_told 101 = .ok (.if_icmp .ne 12, 3) := by decide +kernel
theorem dX11_told_104 : decode cX11_told 104 = .ok (.aload_n 0, 1) := by decide +kernel
theorem dX11_told_105 : decode cX11_told 105 = .ok (.getfield 30, 3) := by decide +kernel
theorem dX11_told_108 : decode cX11_told 108 = .ok (.iload_n 1, 1) := by decide +kernel
theorem dX11_told_109 : decode cX11_told 109 = .ok (.iaload, 1) := by decide +kernel
theorem dX11_told_110 : decode cX11_told 110 = .ok (.goto 9, 3) := by decide +kernel
theorem dX11_told_113 : decode cX11_told 113 = .ok (.aload_n 0, 1) := by decide +kernel
theorem dX11_told_114 : decode cX11_told 114 = .ok (.getfield 91, 3) := by decide +kernel
theorem dX11_told_117 : decode cX11_told 117 = .ok (.iload_n 1, 1) := by decide +kernel
theorem dX11_told_118 : decode cX11_told 118 = .ok (.iaload, 1) := by decide +kernel
theorem dX11_told_119 : decode cX11_told 119 = .ok (.ireturn, 1) := by decide +kernel
theorem dX11_told_120 : decode cX11_told 120 = .ok (.iload_n 1, 1) := by decide +kernel
theorem dX11_told_121 : decode cX11_told 121 = .ok (.iload_n 2, 1) := by decide +kernel
theorem dX11_told_122 : decode cX11_told 122 = .ok (.invokestatic 335, 3) := by decide +kernel
theorem dX11_told_125 : decode cX11_told 125 = .ok (.istore 4, 2) := by decide +kernel
theorem dX11_told_127 : decode cX11_told 127 = .ok (.iload_n 3, 1) := by decide +kernel
theorem dX11_told_128 : decode cX11_told 128 = .ok (.ifCond .ne 13, 3) := by decide +kernel
theorem dX11_told_131 : decode cX11_told 131 = .ok (.aload_n 0, 1) := by decide +kernel
theorem dX11_told_132 : decode cX11_told 132 = .ok (.getfield 73, 3) := by decide +kernel
theorem dX11_told_135 : decode cX11_told 135 = .ok (.iload 4, 2) := by decide +kernel
theorem dX11_told_137 : decode cX11_told 137 = .ok (.iaload, 1) := by decide +kernel
theorem dX11_told_138 : decode cX11_told 138 = .ok (.goto 31, 3) := by decide +kernel
theorem dX11_told_141 : decode cX11_told 141 = .ok (.iload_n 3, 1) := by decide +kernel
theorem dX11_told_142 : decode cX11_told 142 = .ok (.iconst 4, 1) := by decide +kernel
theorem dX11_told_143 : decode cX11_told 143 = .ok (.if_icmp .ne 13, 3) := by decide +kernel
theorem dX11_told_146 : decode cX11_told 146 = .ok (.aload_n 0, 1) := by decide +kernel
theorem dX11_told_147 : decode cX11_told 147 = .ok (.getfield 79, 3) := by decide +kernel
theorem dX11_told_150 : decode cX11_told 150 = .ok (.iload 4, 2) := by decide +kernel
theorem dX11_told_152 : decode cX11_told 152 = .ok (.iaload, 1) := by decide +kernel
theorem dX11_told_153 : decode cX11_told 153 = .ok (.goto 16, 3) := by decide +kernel
theorem dX11_told_156 : decode cX11_told 156 = .ok (.aload_n 0, 1) := by decide +kernel
theorem dX11_told_157 : decode cX11_told 157 = .ok (.getfield 76, 3) := by decide +kernel
theorem dX11_told_160 : decode cX11_told 160 = .ok (.iconst 3, 1) := by decide +kernel
theorem dX11_told_161 : decode cX11_told 161 = .ok (.iload 4, 2) := by decide +kernel
theorem dX11_told_163 : decode cX11_told 163 = .ok (.imul, 1) := by decide +kernel
theorem dX11_told_164 : decode cX11_told 164 = .ok (.iload_n 3, 1) := by decide +kernel
theorem dX11_told_165 : decode cX11_told 165 = .ok (.iadd, 1) := by decide +kernel
theorem dX11_told_166 : decode cX11_told 166 = .ok (.iconst 1, 1) := by decide +kernel
theorem dX11_told_167 : decode cX11_told 167 = .ok (.isub, 1) := by decide +kernel
theorem dX11_told_168 : decode cX11_told 168 = .ok (.iaload, 1) := by decide +kernel
theorem dX11_told_169 : decode cX11_told 169 = .ok (.ireturn, 1) := by decide +kernel
theorem dX11_goesTo_0 : decode cX11_goesTo 0 = .ok (.aload_n 0, 1) := by decide +kernel
theorem dX11_goesTo_1 : decode cX11_goesTo 1 = .ok (.iload_n 1, 1) := by decide +kernel
theorem dX11_goesTo_2 : decode cX11_goesTo 2 = .ok (.putfield 316, 3) := by decide +kernel
theorem dX11_goesTo_5 : decode cX11_goesTo 5 = .ok (.iconst 0, 1) := by decide +kernel
theorem dX11_goesTo_6 : decode cX11_goesTo 6 = .ok (.istore_n 2, 1) := by decide +kernel
theorem dX11_goesTo_7 : decode cX11_goesTo 7 = .ok (.iload_n 2, 1) := by decide +kernel
theorem dX11_goesTo_8 : decode cX11_goesTo 8 = .ok (.aload_n 0, 1) := by decide +kernel
theorem dX11_goesTo_9 : decode cX11_goesTo 9 = .ok (.getfield 319, 3) := by decide +kernel
theorem dX11_goesTo_12 : decode cX11_goesTo 12 = .ok (.if_icmp .ge 74, 3) := by decide +kernel
theorem dX11_goesTo_15 : decode cX11_goesTo 15 = .ok (.aload_n 0, 1) := by decide +kernel
theorem dX11_goesTo_16 : decode cX11_goesTo 16 = .ok (.getfield 112, 3) := by decide +kernel
theorem dX11_goesTo_19 : decode cX11_goesTo 19 = .ok (.iload_n 2, 1) := by decide +kernel
theorem dX11_goesTo_20 : decode cX11_goesTo 20 = .ok (.iaload, 1) := by decide +kernel
theorem dX11_goesTo_21 : decode cX11_goesTo 21 = .ok (.ifCond .ne 59, 3) := by decide +kernel
theorem dX11_goesTo_24 : decode cX11_goesTo 24 = .ok (.aload_n 0, 1) := by decide +kernel
theorem dX11_goesTo_25 : decode cX11_goesTo 25 = .ok (.getfield 103, 3) := by decide +kernel
theorem dX11_goesTo_28 : decode cX11_goesTo 28 = .ok (.iload_n 2, 1) := by decide +kernel
theorem dX11_goesTo_29 : decode cX11_goesTo 29 = .ok (.iaload, 1) := by decide +kernel
theorem dX11_goesTo_30 : decode cX11_goesTo 30 = .ok (.aload_n 0, 1) := by decide +kernel
theorem dX11_goesTo_31 : decode cX11_goesTo 31 = .ok (.getfield 27, 3) := by decide +kernel
theorem dX11_goesTo_34 : decode cX11_goesTo 34 = .ok (.aload_n 0, 1) := by decide +kernel
theorem dX11_goesTo_35 : decode cX11_goesTo 35 = .ok (.getfield 97, 3) := by decide +kernel
theorem dX11_goesTo_38 : decode cX11_goesTo 38 = .ok (.iload_n 2, 1) := by decide +kernel
theorem dX11_goesTo_39 : decode cX11_goesTo 39 = .ok (.iaload, 1) := by decide +kernel
theorem dX11_goesTo_40 : decode cX11_goesTo 40 = .ok (.iaload, 1) := by decide +kernel
theorem dX11_goesTo_41 : decode cX11_goesTo 41 = .ok (.iadd, 1) := by decide +kernel
theorem dX11_goesTo_42 : decode cX11_goesTo 42 = .ok (.iload_n 1, 1) := by decide +kernel
theorem dX11_goesTo_43 : decode cX11_goesTo 43 = .ok (.if_icmp .le 6, 3) := by decide +kernel
theorem dX11_goesTo_46 : decode cX11_goesTo 46 = .ok (.goto 34, 3) := by decide +kernel
theorem dX11_goesTo_49 : decode cX11_goesTo 49 = .ok (.aload_n 0, 1) := by decide +kernel
theorem dX11_goesTo_50 : decode cX11_goesTo 50 = .ok (.getfield 112, 3) := by decide +kernel
theorem dX11_goesTo_53 : decode cX11_goesTo 53 = .ok (.iload_n 2, 1) := by decide +kernel
theorem dX11_goesTo_54 : decode cX11_goesTo 54 = .ok (.iconst 3, 1) := by decide +kernel
theorem dX11_goesTo_55 : decode cX11_goesTo 55 = .ok (.iastore, 1) := by decide +kernel
theorem dX11_goesTo_56 : decode cX11_goesTo 56 = .ok (.aload_n 0, 1) := by decide +kernel
theorem dX11_goesTo_57 : decode cX11_goesTo 57 = .ok (.getfield 106, 3) := by decide +kernel
theorem dX11_goesTo_60 : decode cX11_goesTo 60 = .ok (.iload_n 2, 1) := by decide +kernel
theorem dX11_goesTo_61 : decode cX11_goesTo 61 = .ok (.aload_n 0, 1) := by decide +kernel
theorem dX11_goesTo_62 : decode cX11_goesTo 62 = .ok (.getfield 103, 3) := by decide +kernel
theorem dX11_goesTo_65 : decode cX11_goesTo 65 = .ok (.iload_n 2, 1) := by decide +kernel
theorem dX11_goesTo_66 : decode cX11_goesTo 66 = .ok (.iaload, 1) := by decide +kernel
theorem dX11_goesTo_67 : decode cX11_goesTo 67 = .ok (.aload_n 0, 1) := by decide +kernel
theorem dX11_goesTo_68 : decode cX11_goesTo 68 = .ok (.getfield 27, 3) := by decide +kernel
theorem dX11_goesTo_71 : decode cX11_goesTo 71 = .ok (.aload_n 0, 1) := by decide +kernel
theorem dX11_goesTo_72 : decode cX11_goesTo 72 = .ok (.getfield 97, 3) := by decide +kernel
theorem dX11_goesTo_75 : decode cX11_goesTo 75 = .ok (.iload_n 2, 1) := by decide +kernel
theorem dX11_goesTo_76 : decode cX11_goesTo 76 = .ok (.iaload, 1) := by decide +kernel
theorem dX11_goesTo_77 : decode cX11_goesTo 77 = .ok (.iaload, 1) := by decide +kernel
theorem dX11_goesTo_78 : decode cX11_goesTo 78 = .ok (.iadd, 1) := by decide +kernel
theorem dX11_goesTo_79 : decode cX11_goesTo 79 = .ok (.iastore, 1) := by decide +kernel
theorem dX11_goesTo_80 : decode cX11_goesTo 80 = .ok (.iinc 2 1, 3) := by decide +kernel
theorem dX11_goesTo_83 : decode cX11_goesTo 83 = .ok (.goto (-76), 3) := by decide +kernel
theorem dX11_goesTo_86 : decode cX11_goesTo 86 = .ok (.return_, 1) := by decide +kernel
theorem dX11_clocked_0 : decode cX11_clocked 0 = .ok (.iload_n 1, 1) := by decide +kernel
theorem dX11_clocked_1 : decode cX11_clocked 1 = .ok (.ifCond .lt 10, 3) := by decide +kernel
theorem dX11_clocked_4 : decode cX11_clocked 4 = .ok (.iload_n 1, 1) := by decide +kernel
theorem dX11_clocked_5 : decode cX11_clocked 5 = .ok (.ldc_w 337, 3) := by decide +kernel
theorem dX11_clocked_8 : decode cX11_clocked 8 = .ok (.if_icmp .le 5, 3) := by decide +kernel
theorem dX11_clocked_11 : decode cX11_clocked 11 = .ok (.iconst 2, 1) := by decide +kernel
theorem dX11_clocked_12 : decode cX11_clocked 12 = .ok (.ireturn, 1) := by decide +kernel
theorem dX11_clocked_13 : decode cX11_clocked 13 = .ok (.iload_n 1, 1) := by decide +kernel
theorem dX11_clocked_14 : decode cX11_clocked 14 = .ok (.aload_n 0, 1) := by decide +kernel
theorem dX11_clocked_15 : decode cX11_clocked 15 = .ok (.getfield 316, 3) := by decide +kernel
theorem dX11_clocked_18 : decode cX11_clocked 18 = .ok (.if_icmp .ge 6, 3) := by decide +kernel
theorem dX11_clocked_21 : decode cX11_clocked 21 = .ok (.bipush 9, 2) := by decide +kernel
theorem dX11_clocked_23 : decode cX11_clocked 23 = .ok (.ireturn, 1) := by decide +kernel
theorem dX11_clocked_24 : decode cX11_clocked 24 = .ok (.aload_n 0, 1) := by decide +kernel
theorem dX11_clocked_25 : decode cX11_clocked 25 = .ok (.iload_n 1, 1) := by decide +kernel
theorem dX11_clocked_26 : decode cX11_clocked 26 = .ok (.invokevirtual 338, 3) := by decide +kernel
theorem dX11_clocked_29 : decode cX11_clocked 29 = .ok (.iconst 0, 1) := by decide +kernel
theorem dX11_clocked_30 : decode cX11_clocked 30 = .ok (.ireturn, 1) := by decide +kernel
theorem dX11_openTry_0 : decode cX11_openTry 0 = .ok (.iconst 0, 1) := by decide +kernel
theorem dX11_openTry_1 : decode cX11_openTry 1 = .ok (.istore_n 2, 1) := by decide +kernel
theorem dX11_openTry_2 : decode cX11_openTry 2 = .ok (.iload_n 2, 1) := by decide +kernel
theorem dX11_openTry_3 : decode cX11_openTry 3 = .ok (.aload_n 0, 1) := by decide +kernel
theorem dX11_openTry_4 : decode cX11_openTry 4 = .ok (.getfield 319, 3) := by decide +kernel
theorem dX11_openTry_7 : decode cX11_openTry 7 = .ok (.if_icmp .ge 30, 3) := by decide +kernel
theorem dX11_openTry_10 : decode cX11_openTry 10 = .ok (.aload_n 0, 1) := by decide +kernel
theorem dX11_openTry_11 : decode cX11_openTry 11 = .ok (.getfield 94, 3) := by decide +kernel
theorem dX11_openTry_14 : decode cX11_openTry 14 = .ok (.iload_n 2, 1) := by decide +kernel
theorem dX11_openTry_15 : decode cX11_openTry 15 = .ok (.iaload, 1) := by decide +kernel
theorem dX11_openTry_16 : decode cX11_openTry 16 = .ok (.iload_n 1, 1) := by decide +kernel
theorem dX11_openTry_17 : decode cX11_openTry 17 = .ok (.if_icmp .ne 14, 3) := by decide +kernel
theorem dX11_openTry_20 : decode cX11_openTry 20 = .ok (.aload_n 0, 1) := by decide +kernel
theorem dX11_openTry_21 : decode cX11_openTry 21 = .ok (.getfield 112, 3) := by decide +kernel
theorem dX11_openTry_24 : decode cX11_openTry 24 = .ok (.iload_n 2, 1) := by decide +kernel
theorem dX11_openTry_25 : decode cX11_openTry 25 = .ok (.iaload, 1) := by decide +kernel
theorem dX11_openTry_26 : decode cX11_openTry 26 = .ok (.ifCond .ne 5, 3) := by decide +kernel
theorem dX11_openTry_29 : decode cX11_openTry 29 = .ok (.iload_n 2, 1) := by decide +kernel
theorem dX11_openTry_30 : decode cX11_openTry 30 = .ok (.ireturn, 1) := by decide +kernel
theorem dX11_openTry_31 : decode cX11_openTry 31 = .ok (.iinc 2 1, 3) := by decide +kernel
theorem dX11_openTry_34 : decode cX11_openTry 34 = .ok (.goto (-32), 3) := by decide +kernel
theorem dX11_openTry_37 : decode cX11_openTry 37 = .ok (.iconst (-1), 1) := by decide +kernel
theorem dX11_openTry_38 : decode cX11_openTry 38 = .ok (.ireturn, 1) := by decide +kernel
theorem dX11_begin_0 : decode cX11_begin 0 = .ok (.aload_n 0, 1) := by decide +kernel
theorem dX11_begin_1 : decode cX11_begin 1 = .ok (.iconst 0, 1) := by decide +kernel
theorem dX11_begin_2 : decode cX11_begin 2 = .ok (.putfield 146, 3) := by decide +kernel
theorem dX11_begin_5 : decode cX11_begin 5 = .ok (.aload_n 0, 1) := by decide +kernel
theorem dX11_begin_6 : decode cX11_begin 6 = .ok (.iconst 0, 1) := by decide +kernel
theorem dX11_begin_7 : decode cX11_begin 7 = .ok (.putfield 149, 3) := by decide +kernel
theorem dX11_begin_10 : decode cX11_begin 10 = .ok (.aload_n 0, 1) := by decide +kernel
theorem dX11_begin_11 : decode cX11_begin 11 = .ok (.iload_n 1, 1) := by decide +kernel
theorem dX11_begin_12 : decode cX11_begin 12 = .ok (.invokevirtual 349, 3) := by decide +kernel
theorem dX11_begin_15 : decode cX11_begin 15 = .ok (.ifCond .eq 22, 3) := by decide +kernel
theorem dX11_begin_18 : decode cX11_begin 18 = .ok (.aload_n 0, 1) := by decide +kernel
theorem dX11_begin_19 : decode cX11_begin 19 = .ok (.getfield 82, 3) := by decide +kernel
theorem dX11_begin_22 : decode cX11_begin 22 = .ok (.ifCond .lt 15, 3) := by decide +kernel
theorem dX11_begin_25 : decode cX11_begin 25 = .ok (.aload_n 0, 1) := by decide +kernel
theorem dX11_begin_26 : decode cX11_begin 26 = .ok (.aload_n 0, 1) := by decide +kernel
theorem dX11_begin_27 : decode cX11_begin 27 = .ok (.getfield 82, 3) := by decide +kernel
theorem dX11_begin_30 : decode cX11_begin 30 = .ok (.iload_n 2, 1) := by decide +kernel
theorem dX11_begin_31 : decode cX11_begin 31 = .ok (.invokevirtual 328, 3) := by decide +kernel
theorem dX11_begin_34 : decode cX11_begin 34 = .ok (.ifCond .ne 9, 3) := by decide +kernel
theorem dX11_begin_37 : decode cX11_begin 37 = .ok (.aload_n 0, 1) := by decide +kernel
theorem dX11_begin_38 : decode cX11_begin 38 = .ok (.iconst 1, 1) := by decide +kernel
theorem dX11_begin_39 : decode cX11_begin 39 = .ok (.invokevirtual 295, 3) := by decide +kernel
theorem dX11_begin_42 : decode cX11_begin 42 = .ok (.ireturn, 1) := by decide +kernel
theorem dX11_begin_43 : decode cX11_begin 43 = .ok (.aload_n 0, 1) := by decide +kernel
theorem dX11_begin_44 : decode cX11_begin 44 = .ok (.iload_n 3, 1) := by decide +kernel
theorem dX11_begin_45 : decode cX11_begin 45 = .ok (.invokevirtual 352, 3) := by decide +kernel
theorem dX11_begin_48 : decode cX11_begin 48 = .ok (.istore 4, 2) := by decide +kernel
theorem dX11_begin_50 : decode cX11_begin 50 = .ok (.iload 4, 2) := by decide +kernel
theorem dX11_begin_52 : decode cX11_begin 52 = .ok (.ifCond .le 10, 3) := by decide +kernel
theorem dX11_begin_55 : decode cX11_begin 55 = .ok (.aload_n 0, 1) := by decide +kernel
theorem dX11_begin_56 : decode cX11_begin 56 = .ok (.iload 4, 2) := by decide +kernel
theorem dX11_begin_58 : decode cX11_begin 58 = .ok (.invokevirtual 295, 3) := by decide +kernel
theorem dX11_begin_61 : decode cX11_begin 61 = .ok (.ireturn, 1) := by decide +kernel
theorem dX11_begin_62 : decode cX11_begin 62 = .ok (.aload_n 0, 1) := by decide +kernel
theorem dX11_begin_63 : decode cX11_begin 63 = .ok (.getfield 85, 3) := by decide +kernel
theorem dX11_begin_66 : decode cX11_begin 66 = .ok (.bipush 16, 2) := by decide +kernel
theorem dX11_begin_68 : decode cX11_begin 68 = .ok (.aload_n 0, 1) := by decide +kernel
theorem dX11_begin_69 : decode cX11_begin 69 = .ok (.getfield 82, 3) := by decide +kernel
theorem dX11_begin_72 : decode cX11_begin 72 = .ok (.imul, 1) := by decide +kernel
theorem dX11_begin_73 : decode cX11_begin 73 = .ok (.iload_n 1, 1) := by decide +kernel
theorem dX11_begin_74 : decode cX11_begin 74 = .ok (.iadd, 1) := by decide +kernel
theorem dX11_begin_75 : decode cX11_begin 75 = .ok (.baload, 1) := by decide +kernel
theorem dX11_begin_76 : decode cX11_begin 76 = .ok (.ifCond .ne 9, 3) := by decide +kernel
theorem dX11_begin_79 : decode cX11_begin 79 = .ok (.aload_n 0, 1) := by decide +kernel
theorem dX11_begin_80 : decode cX11_begin 80 = .ok (.iconst 4, 1) := by decide +kernel
theorem dX11_begin_81 : decode cX11_begin 81 = .ok (.invokevirtual 295, 3) := by decide +kernel
theorem dX11_begin_84 : decode cX11_begin 84 = .ok (.ireturn, 1) := by decide +kernel
theorem dX11_begin_85 : decode cX11_begin 85 = .ok (.aload_n 0, 1) := by decide +kernel
theorem dX11_begin_86 : decode cX11_begin 86 = .ok (.iload_n 1, 1) := by decide +kernel
theorem dX11_begin_87 : decode cX11_begin 87 = .ok (.invokevirtual 355, 3) := by decide +kernel
theorem dX11_begin_90 : decode cX11_begin 90 = .ok (.ifCond .lt 9, 3) := by decide +kernel
theorem dX11_begin_93 : decode cX11_begin 93 = .ok (.aload_n 0, 1) := by decide +kernel
theorem dX11_begin_94 : decode cX11_begin 94 = .ok (.iconst 5, 1) := by decide +kernel
theorem dX11_begin_95 : decode cX11_begin 95 = .ok (.invokevirtual 295, 3) := by decide +kernel
theorem dX11_begin_98 : decode cX11_begin 98 = .ok (.ireturn, 1) := by decide +kernel
theorem dX11_begin_99 : decode cX11_begin 99 = .ok (.iconst 0, 1) := by decide +kernel
theorem dX11_begin_100 : decode cX11_begin 100 = .ok (.istore 5, 2) := by decide +kernel
theorem dX11_begin_102 : decode cX11_begin 102 = .ok (.iconst 0, 1) := by decide +kernel
theorem dX11_begin_103 : decode cX11_begin 103 = .ok (.istore 6, 2) := by decide +kernel
theorem dX11_begin_105 : decode cX11_begin 105 = .ok (.iconst 0, 1) := by decide +kernel
theorem dX11_begin_106 : decode cX11_begin 106 = .ok (.istore 7, 2) := by decide +kernel
theorem dX11_begin_108 : decode cX11_begin 108 = .ok (.iload 7, 2) := by decide +kernel
theorem dX11_begin_110 : decode cX11_begin 110 = .ok (.aload_n 0, 1) := by decide +kernel
theorem dX11_begin_111 : decode cX11_begin 111 = .ok (.getfield 319, 3) := by decide +kernel
theorem dX11_begin_114 : decode cX11_begin 114 = .ok (.if_icmp .ge 85, 3) := by decide +kernel
theorem dX11_begin_117 : decode cX11_begin 117 = .ok (.aload_n 0, 1) := by decide +kernel
theorem dX11_begin_118 : decode cX11_begin 118 = .ok (.getfield 94, 3) := by decide +kernel
theorem dX11_begin_121 : decode cX11_begin 121 = .ok (.iload 7, 2) := by decide +kernel
theorem dX11_begin_123 : decode cX11_begin 123 = .ok (.iaload, 1) := by decide +kernel
theorem dX11_begin_124 : decode cX11_begin 124 = .ok (.iload_n 1, 1) := by decide +kernel
theorem dX11_begin_125 : decode cX11_begin 125 = .ok (.if_icmp .ne 68, 3) := by decide +kernel
theorem dX11_begin_128 : decode cX11_begin 128 = .ok (.aload_n 0, 1) := by decide +kernel
theorem dX11_begin_129 : decode cX11_begin 129 = .ok (.getfield 97, 3) := by decide +kernel
theorem dX11_begin_132 : decode cX11_begin 132 = .ok (.iload 7, 2) := by decide +kernel
theorem dX11_begin_134 : decode cX11_begin 134 = .ok (.iaload, 1) := by decide +kernel
theorem dX11_begin_135 : decode cX11_begin 135 = .ok (.aload_n 0, 1) := by decide +kernel
theorem dX11_begin_136 : decode cX11_begin 136 = .ok (.getfield 82, 3) := by decide +kernel
theorem dX11_begin_139 : decode cX11_begin 139 = .ok (.if_icmp .ne 54, 3) := by decide +kernel
theorem dX11_begin_142 : decode cX11_begin 142 = .ok (.aload_n 0, 1) := by decide +kernel
theorem dX11_begin_143 : decode cX11_begin 143 = .ok (.getfield 100, 3) := by decide +kernel
theorem dX11_begin_146 : decode cX11_begin 146 = .ok (.iload 7, 2) := by decide +kernel
theorem dX11_begin_148 : decode cX11_begin 148 = .ok (.iaload, 1) := by decide +kernel
theorem dX11_begin_149 : decode cX11_begin 149 = .ok (.iload_n 2, 1) := by decide +kernel
theorem dX11_begin_150 : decode cX11_begin 150 = .ok (.if_icmp .ne 43, 3) := by decide +kernel
theorem dX11_begin_153 : decode cX11_begin 153 = .ok (.aload_n 0, 1) := by decide +kernel
theorem dX11_begin_154 : decode cX11_begin 154 = .ok (.getfield 112, 3) := by decide +kernel
theorem dX11_begin_157 : decode cX11_begin 157 = .ok (.iload 7, 2) := by decide +kernel
theorem dX11_begin_159 : decode cX11_begin 159 = .ok (.iaload, 1) := by decide +kernel
theorem dX11_begin_160 : decode cX11_begin 160 = .ok (.iconst 4, 1) := by decide +kernel
theorem dX11_begin_161 : decode cX11_begin 161 = .ok (.if_icmp .ne 6, 3) := by decide +kernel
theorem dX11_begin_164 : decode cX11_begin 164 = .ok (.goto 29, 3) := by decide +kernel
theorem dX11_begin_167 : decode cX11_begin 167 = .ok (.iinc 5 1, 3) := by decide +kernel
theorem dX11_begin_170 : decode cX11_begin 170 = .ok (.iload 6, 2) := by decide +kernel
theorem dX11_begin_172 : decode cX11_begin 172 = .ok (.ifCond .ne 14, 3) := by decide +kernel
theorem dX11_begin_175 : decode cX11_begin 175 = .ok (.aload_n 0, 1) := by decide +kernel
theorem dX11_begin_176 : decode cX11_begin 176 = .ok (.getfield 112, 3) := by decide +kernel
theorem dX11_begin_179 : decode cX11_begin 179 = .ok (.iload 7, 2) := by decide +kernel
theorem dX11_begin_181 : decode cX11_begin 181 = .ok (.iaload, 1) := by decide +kernel
theorem dX11_begin_182 : decode cX11_begin 182 = .ok (.iconst 1, 1) := by decide +kernel
theorem dX11_begin_183 : decode cX11_begin 183 = .ok (.if_icmp .ne 7, 3) := by decide +kernel
theorem dX11_begin_186 : decode cX11_begin 186 = .ok (.iconst 1, 1) := by decide +kernel
theorem dX11_begin_187 : decode cX11_begin 187 = .ok (.goto 4, 3) := by decide +kernel
theorem dX11_begin_190 : decode cX11_begin 190 = .ok (.iconst 0, 1) := by decide +kernel
theorem dX11_begin_191 : decode cX11_begin 191 = .ok (.istore 6, 2) := by decide +kernel
theorem dX11_begin_193 : decode cX11_begin 193 = .ok (.iinc 7 1, 3) := by decide +kernel
theorem dX11_begin_196 : decode cX11_begin 196 = .ok (.goto (-88), 3) := by decide +kernel
theorem dX11_begin_199 : decode cX11_begin 199 = .ok (.iload 6, 2) := by decide +kernel
theorem dX11_begin_201 : decode cX11_begin 201 = .ok (.ifCond .ne 17, 3) := by decide +kernel
theorem dX11_begin_204 : decode cX11_begin 204 = .ok (.iload 5, 2) := by decide +kernel
theorem dX11_begin_206 : decode cX11_begin 206 = .ok (.aload_n 0, 1) := by decide +kernel
theorem dX11_begin_207 : decode cX11_begin 207 = .ok (.getfield 24, 3) := by decide +kernel
theorem dX11_begin_210 : decode cX11_begin 210 = .ok (.aload_n 0, 1) := by decide +kernel
theorem dX11_begin_211 : decode cX11_begin 211 = .ok (.getfield 82, 3) := by decide +kernel
theorem dX11_begin_214 : decode cX11_begin 214 = .ok (.iaload, 1) := by decide +kernel
theorem dX11_begin_215 : decode cX11_begin 215 = .ok (.if_icmp .lt 10, 3) := by decide +kernel
theorem dX11_begin_218 : decode cX11_begin 218 = .ok (.aload_n 0, 1) := by decide +kernel
theorem dX11_begin_219 : decode cX11_begin 219 = .ok (.bipush 6, 2) := by decide +kernel
theorem dX11_begin_221 : decode cX11_begin 221 = .ok (.invokevirtual 295, 3) := by decide +kernel
theorem dX11_begin_224 : decode cX11_begin 224 = .ok (.ireturn, 1) := by decide +kernel
theorem dX11_begin_225 : decode cX11_begin 225 = .ok (.aload_n 0, 1) := by decide +kernel
theorem dX11_begin_226 : decode cX11_begin 226 = .ok (.getfield 319, 3) := by decide +kernel
theorem dX11_begin_229 : decode cX11_begin 229 = .ok (.sipush 300, 3) := by decide +kernel
theorem dX11_begin_232 : decode cX11_begin 232 = .ok (.if_icmp .ne 9, 3) := by decide +kernel
theorem dX11_begin_235 : decode cX11_begin 235 = .ok (.aload_n 0, 1) := by decide +kernel
theorem dX11_begin_236 : decode cX11_begin 236 = .ok (.iconst 3, 1) := by decide +kernel
theorem dX11_begin_237 : decode cX11_begin 237 = .ok (.invokevirtual 295, 3) := by decide +kernel
theorem dX11_begin_240 : decode cX11_begin 240 = .ok (.ireturn, 1) := by decide +kernel
theorem dX11_begin_241 : decode cX11_begin 241 = .ok (.aload_n 0, 1) := by decide +kernel
theorem dX11_begin_242 : decode cX11_begin 242 = .ok (.iload_n 1, 1) := by decide +kernel
theorem dX11_begin_243 : decode cX11_begin 243 = .ok (.iload_n 2, 1) := by decide +kernel
theorem dX11_begin_244 : decode cX11_begin 244 = .ok (.invokevirtual 358, 3) := by decide +kernel
theorem dX11_begin_247 : decode cX11_begin 247 = .ok (.ifCond .eq 10, 3) := by decide +kernel
theorem dX11_begin_250 : decode cX11_begin 250 = .ok (.aload_n 0, 1) := by decide +kernel
theorem dX11_begin_251 : decode cX11_begin 251 = .ok (.bipush 7, 2) := by decide +kernel
theorem dX11_begin_253 : decode cX11_begin 253 = .ok (.invokevirtual 295, 3) := by decide +kernel
theorem dX11_begin_256 : decode cX11_begin 256 = .ok (.ireturn, 1) := by decide +kernel
theorem dX11_begin_257 : decode cX11_begin 257 = .ok (.iload_n 3, 1) := by decide +kernel
theorem dX11_begin_258 : decode cX11_begin 258 = .ok (.aload_n 0, 1) := by decide +kernel
theorem dX11_begin_259 : decode cX11_begin 259 = .ok (.iload_n 1, 1) := by decide +kernel
theorem dX11_begin_260 : decode cX11_begin 260 = .ok (.invokevirtual 361, 3) := by decide +kernel
theorem dX11_begin_263 : decode cX11_begin 263 = .ok (.if_icmp .ge 10, 3) := by decide +kernel
theorem dX11_begin_266 : decode cX11_begin 266 = .ok (.aload_n 0, 1) := by decide +kernel
theorem dX11_begin_267 : decode cX11_begin 267 = .ok (.bipush 8, 2) := by decide +kernel
theorem dX11_begin_269 : decode cX11_begin 269 = .ok (.invokevirtual 295, 3) := by decide +kernel
theorem dX11_begin_272 : decode cX11_begin 272 = .ok (.ireturn, 1) := by decide +kernel
theorem dX11_begin_273 : decode cX11_begin 273 = .ok (.aload_n 0, 1) := by decide +kernel
theorem dX11_begin_274 : decode cX11_begin 274 = .ok (.getfield 94, 3) := by decide +kernel
theorem dX11_begin_277 : decode cX11_begin 277 = .ok (.aload_n 0, 1) := by decide +kernel
theorem dX11_begin_278 : decode cX11_begin 278 = .ok (.getfield 319, 3) := by decide +kernel
theorem dX11_begin_281 : decode cX11_begin 281 = .ok (.iload_n 1, 1) := by decide +kernel
theorem dX11_begin_282 : decode cX11_begin 282 = .ok (.iastore, 1) := by decide +kernel
theorem dX11_begin_283 : decode cX11_begin 283 = .ok (.aload_n 0, 1) := by decide +kernel
theorem dX11_begin_284 : decode cX11_begin 284 = .ok (.getfield 97, 3) := by decide +kernel
theorem dX11_begin_287 : decode cX11_begin 287 = .ok (.aload_n 0, 1) := by decide +kernel
theorem dX11_begin_288 : decode cX11_begin 288 = .ok (.getfield 319, 3) := by decide +kernel
theorem dX11_begin_291 : decode cX11_begin 291 = .ok (.aload_n 0, 1) := by decide +kernel
theorem dX11_begin_292 : decode cX11_begin 292 = .ok (.getfield 82, 3) := by decide +kernel
theorem dX11_begin_295 : decode cX11_begin 295 = .ok (.iastore, 1) := by decide +kernel
theorem dX11_begin_296 : decode cX11_begin 296 = .ok (.aload_n 0, 1) := by decide +kernel
theorem dX11_begin_297 : decode cX11_begin 297 = .ok (.getfield 100, 3) := by decide +kernel
theorem dX11_begin_300 : decode cX11_begin 300 = .ok (.aload_n 0, 1) := by decide +kernel
theorem dX11_begin_301 : decode cX11_begin 301 = .ok (.getfield 319, 3) := by decide +kernel
theorem dX11_begin_304 : decode cX11_begin 304 = .ok (.iload_n 2, 1) := by decide +kernel
theorem dX11_begin_305 : decode cX11_begin 305 = .ok (.iastore, 1) := by decide +kernel
theorem dX11_begin_306 : decode cX11_begin 306 = .ok (.aload_n 0, 1) := by decide +kernel
theorem dX11_begin_307 : decode cX11_begin 307 = .ok (.getfield 103, 3) := by decide +kernel
theorem dX11_begin_310 : decode cX11_begin 310 = .ok (.aload_n 0, 1) := by decide +kernel
theorem dX11_begin_311 : decode cX11_begin 311 = .ok (.getfield 319, 3) := by decide +kernel
theorem dX11_begin_314 : decode cX11_begin 314 = .ok (.iload_n 3, 1) := by decide +kernel
theorem dX11_begin_315 : decode cX11_begin 315 = .ok (.iastore, 1) := by decide +kernel
theorem dX11_begin_316 : decode cX11_begin 316 = .ok (.aload_n 0, 1) := by decide +kernel
theorem dX11_begin_317 : decode cX11_begin 317 = .ok (.getfield 106, 3) := by decide +kernel
theorem dX11_begin_320 : decode cX11_begin 320 = .ok (.aload_n 0, 1) := by decide +kernel
theorem dX11_begin_321 : decode cX11_begin 321 = .ok (.getfield 319, 3) := by decide +kernel
theorem dX11_begin_324 : decode cX11_begin 324 = .ok (.iconst (-1), 1) := by decide +kernel
theorem dX11_begin_325 : decode cX11_begin 325 = .ok (.iastore, 1) := by decide +kernel
theorem dX11_begin_326 : decode cX11_begin 326 = .ok (.aload_n 0, 1) := by decide +kernel
theorem dX11_begin_327 : decode cX11_begin 327 = .ok (.getfield 109, 3) := by decide +kernel
theorem dX11_begin_330 : decode cX11_begin 330 = .ok (.aload_n 0, 1) := by decide +kernel
theorem dX11_begin_331 : decode cX11_begin 331 = .ok (.getfield 319, 3) := by decide +kernel
theorem dX11_begin_334 : decode cX11_begin 334 = .ok (.iconst 0, 1) := by decide +kernel
theorem dX11_begin_335 : decode cX11_begin 335 = .ok (.iastore, 1) := by decide +kernel
theorem dX11_begin_336 : decode cX11_begin 336 = .ok (.aload_n 0, 1) := by decide +kernel
theorem dX11_begin_337 : decode cX11_begin 337 = .ok (.getfield 112, 3) := by decide +kernel
theorem dX11_begin_340 : decode cX11_begin 340 = .ok (.aload_n 0, 1) := by decide +kernel
theorem dX11_begin_341 : decode cX11_begin 341 = .ok (.getfield 319, 3) := by decide +kernel
theorem dX11_begin_344 : decode cX11_begin 344 = .ok (.iconst 0, 1) := by decide +kernel
theorem dX11_begin_345 : decode cX11_begin 345 = .ok (.iastore, 1) := by decide +kernel
theorem dX11_begin_346 : decode cX11_begin 346 = .ok (.aload_n 0, 1) := by decide +kernel
theorem dX11_begin_347 : decode cX11_begin 347 = .ok (.getfield 79, 3) := by decide +kernel
theorem dX11_begin_350 : decode cX11_begin 350 = .ok (.aload_n 0, 1) := by decide +kernel
theorem dX11_begin_351 : decode cX11_begin 351 = .ok (.getfield 82, 3) := by decide +kernel
theorem dX11_begin_354 : decode cX11_begin 354 = .ok (.iload_n 2, 1) := by decide +kernel
theorem dX11_begin_355 : decode cX11_begin 355 = .ok (.invokestatic 335, 3) := by decide +kernel
theorem dX11_begin_358 : decode cX11_begin 358 = .ok (.dup2, 1) := by decide +kernel
theorem dX11_begin_359 : decode cX11_begin 359 = .ok (.iaload, 1) := by decide +kernel
theorem dX11_begin_360 : decode cX11_begin 360 = .ok (.iconst 1, 1) := by decide +kernel
theorem dX11_begin_361 : decode cX11_begin 361 = .ok (.iadd, 1) := by decide +kernel
theorem dX11_begin_362 : decode cX11_begin 362 = .ok (.iastore, 1) := by decide +kernel
theorem dX11_begin_363 : decode cX11_begin 363 = .ok (.aload_n 0, 1) := by decide +kernel
theorem dX11_begin_364 : decode cX11_begin 364 = .ok (.dup, 1) := by decide +kernel
theorem dX11_begin_365 : decode cX11_begin 365 = .ok (.getfield 319, 3) := by decide +kernel
theorem dX11_begin_368 : decode cX11_begin 368 = .ok (.iconst 1, 1) := by decide +kernel
theorem dX11_begin_369 : decode cX11_begin 369 = .ok (.iadd, 1) := by decide +kernel
theorem dX11_begin_370 : decode cX11_begin 370 = .ok (.putfield 319, 3) := by decide +kernel
theorem dX11_begin_373 : decode cX11_begin 373 = .ok (.aload_n 0, 1) := by decide +kernel
theorem dX11_begin_374 : decode cX11_begin 374 = .ok (.getfield 319, 3) := by decide +kernel
theorem dX11_begin_377 : decode cX11_begin 377 = .ok (.iconst 1, 1) := by decide +kernel
theorem dX11_begin_378 : decode cX11_begin 378 = .ok (.isub, 1) := by decide +kernel
theorem dX11_begin_379 : decode cX11_begin 379 = .ok (.ireturn, 1) := by decide +kernel
theorem dX11_reach_0 : decode cX11_reach 0 = .ok (.aload_n 0, 1) := by decide +kernel
theorem dX11_reach_1 : decode cX11_reach 1 = .ok (.iconst 0, 1) := by decide +kernel
theorem dX11_reach_2 : decode cX11_reach 2 = .ok (.putfield 146, 3) := by decide +kernel
theorem dX11_reach_5 : decode cX11_reach 5 = .ok (.aload_n 0, 1) := by decide +kernel
theorem dX11_reach_6 : decode cX11_reach 6 = .ok (.iconst 0, 1) := by decide +kernel
theorem dX11_reach_7 : decode cX11_reach 7 = .ok (.putfield 149, 3) := by decide +kernel
theorem dX11_reach_10 : decode cX11_reach 10 = .ok (.aload_n 0, 1) := by decide +kernel
theorem dX11_reach_11 : decode cX11_reach 11 = .ok (.iload_n 1, 1) := by decide +kernel
theorem dX11_reach_12 : decode cX11_reach 12 = .ok (.invokevirtual 349, 3) := by decide +kernel
theorem dX11_reach_15 : decode cX11_reach 15 = .ok (.ifCond .ne 9, 3) := by decide +kernel
theorem dX11_reach_18 : decode cX11_reach 18 = .ok (.aload_n 0, 1) := by decide +kernel
theorem dX11_reach_19 : decode cX11_reach 19 = .ok (.iconst 1, 1) := by decide +kernel
theorem dX11_reach_20 : decode cX11_reach 20 = .ok (.invokevirtual 295, 3) := by decide +kernel
theorem dX11_reach_23 : decode cX11_reach 23 = .ok (.ireturn, 1) := by decide +kernel
theorem dX11_reach_24 : decode cX11_reach 24 = .ok (.iload_n 2, 1) := by decide +kernel
theorem dX11_reach_25 : decode cX11_reach 25 = .ok (.iconst 1, 1) := by decide +kernel
theorem dX11_reach_26 : decode cX11_reach 26 = .ok (.if_icmp .lt 9, 3) := by decide +kernel
theorem dX11_reach_29 : decode cX11_reach 29 = .ok (.iload_n 2, 1) := by decide +kernel
theorem dX11_reach_30 : decode cX11_reach 30 = .ok (.bipush 60, 2) := by decide +kernel
theorem dX11_reach_32 : decode cX11_reach 32 = .ok (.if_icmp .le 9, 3) := by decide +kernel
theorem dX11_reach_35 : decode cX11_reach 35 = .ok (.aload_n 0, 1) := by decide +kernel
theorem dX11_reach_36 : decode cX11_reach 36 = .ok (.iconst 2, 1) := by decide +kernel
theorem dX11_reach_37 : decode cX11_reach 37 = .ok (.invokevirtual 295, 3) := by decide +kernel
theorem dX11_reach_40 : decode cX11_reach 40 = .ok (.ireturn, 1) := by decide +kernel
theorem dX11_reach_41 : decode cX11_reach 41 = .ok (.aload_n 0, 1) := by decide +kernel
theorem dX11_reach_42 : decode cX11_reach 42 = .ok (.iload_n 3, 1) := by decide +kernel
theorem dX11_reach_43 : decode cX11_reach 43 = .ok (.invokevirtual 352, 3) := by decide +kernel
theorem dX11_reach_46 : decode cX11_reach 46 = .ok (.istore 4, 2) := by decide +kernel
theorem dX11_reach_48 : decode cX11_reach 48 = .ok (.iload 4, 2) := by decide +kernel
theorem dX11_reach_50 : decode cX11_reach 50 = .ok (.ifCond .le 10, 3) := by decide +kernel
theorem dX11_reach_53 : decode cX11_reach 53 = .ok (.aload_n 0, 1) := by decide +kernel
theorem dX11_reach_54 : decode cX11_reach 54 = .ok (.iload 4, 2) := by decide +kernel
theorem dX11_reach_56 : decode cX11_reach 56 = .ok (.invokevirtual 295, 3) := by decide +kernel
theorem dX11_reach_59 : decode cX11_reach 59 = .ok (.ireturn, 1) := by decide +kernel
theorem dX11_reach_60 : decode cX11_reach 60 = .ok (.aload_n 0, 1) := by decide +kernel
theorem dX11_reach_61 : decode cX11_reach 61 = .ok (.iload_n 1, 1) := by decide +kernel
theorem dX11_reach_62 : decode cX11_reach 62 = .ok (.invokevirtual 355, 3) := by decide +kernel
theorem dX11_reach_65 : decode cX11_reach 65 = .ok (.istore 5, 2) := by decide +kernel
theorem dX11_reach_67 : decode cX11_reach 67 = .ok (.iload 5, 2) := by decide +kernel
theorem dX11_reach_69 : decode cX11_reach 69 = .ok (.ifCond .ge 9, 3) := by decide +kernel
theorem dX11_reach_72 : decode cX11_reach 72 = .ok (.aload_n 0, 1) := by decide +kernel
theorem dX11_reach_73 : decode cX11_reach 73 = .ok (.iconst 5, 1) := by decide +kernel
theorem dX11_reach_74 : decode cX11_reach 74 = .ok (.invokevirtual 295, 3) := by decide +kernel
theorem dX11_reach_77 : decode cX11_reach 77 = .ok (.ireturn, 1) := by decide +kernel
theorem dX11_reach_78 : decode cX11_reach 78 = .ok (.aload_n 0, 1) := by decide +kernel
theorem dX11_reach_79 : decode cX11_reach 79 = .ok (.getfield 73, 3) := by decide +kernel
theorem dX11_reach_82 : decode cX11_reach 82 = .ok (.aload_n 0, 1) := by decide +kernel
theorem dX11_reach_83 : decode cX11_reach 83 = .ok (.getfield 97, 3) := by decide +kernel
theorem dX11_reach_86 : decode cX11_reach 86 = .ok (.iload 5, 2) := by decide +kernel
theorem dX11_reach_88 : decode cX11_reach 88 = .ok (.iaload, 1) := by decide +kernel
theorem dX11_reach_89 : decode cX11_reach 89 = .ok (.aload_n 0, 1) := by decide +kernel
theorem dX11_reach_90 : decode cX11_reach 90 = .ok (.getfield 100, 3) := by decide +kernel
theorem dX11_reach_93 : decode cX11_reach 93 = .ok (.iload 5, 2) := by decide +kernel
theorem dX11_reach_95 : decode cX11_reach 95 = .ok (.iaload, 1) := by decide +kernel
theorem dX11_reach_96 : decode cX11_reach 96 = .ok (.invokestatic 335, 3) := by decide +kernel
theorem dX11_reach_99 : decode cX11_reach 99 = .ok (.iaload, 1) := by decide +kernel
theorem dX11_reach_100 : decode cX11_reach 100 = .ok (.istore 6, 2) := by decide +kernel
theorem dX11_reach_102 : decode cX11_reach 102 = .ok (.iload_n 2, 1) := by decide +kernel
theorem dX11_reach_103 : decode cX11_reach 103 = .ok (.aload_n 0, 1) := by decide +kernel
theorem dX11_reach_104 : decode cX11_reach 104 = .ok (.getfield 109, 3) := by decide +kernel
theorem dX11_reach_107 : decode cX11_reach 107 = .ok (.iload 5, 2) := by decide +kernel
theorem dX11_reach_109 : decode cX11_reach 109 = .ok (.iaload, 1) := by decide +kernel
theorem dX11_reach_110 : decode cX11_reach 110 = .ok (.if_icmp .le 9, 3) := by decide +kernel
theorem dX11_reach_113 : decode cX11_reach 113 = .ok (.iload_n 2, 1) := by decide +kernel
theorem dX11_reach_114 : decode cX11_reach 114 = .ok (.iload 6, 2) := by decide +kernel
theorem dX11_reach_116 : decode cX11_reach 116 = .ok (.if_icmp .le 10, 3) := by decide +kernel
theorem dX11_reach_119 : decode cX11_reach 119 = .ok (.aload_n 0, 1) := by decide +kernel
theorem dX11_reach_120 : decode cX11_reach 120 = .ok (.bipush 10, 2) := by decide +kernel
theorem dX11_reach_122 : decode cX11_reach 122 = .ok (.invokevirtual 295, 3) := by decide +kernel
theorem dX11_reach_125 : decode cX11_reach 125 = .ok (.ireturn, 1) := by decide +kernel
theorem dX11_reach_126 : decode cX11_reach 126 = .ok (.aload_n 0, 1) := by decide +kernel
theorem dX11_reach_127 : decode cX11_reach 127 = .ok (.getfield 109, 3) := by decide +kernel
theorem dX11_reach_130 : decode cX11_reach 130 = .ok (.iload 5, 2) := by decide +kernel
theorem dX11_reach_132 : decode cX11_reach 132 = .ok (.iload_n 2, 1) := by decide +kernel
theorem dX11_reach_133 : decode cX11_reach 133 = .ok (.iastore, 1) := by decide +kernel
theorem dX11_reach_134 : decode cX11_reach 134 = .ok (.iload_n 2, 1) := by decide +kernel
theorem dX11_reach_135 : decode cX11_reach 135 = .ok (.iload 6, 2) := by decide +kernel
theorem dX11_reach_137 : decode cX11_reach 137 = .ok (.if_icmp .ge 5, 3) := by decide +kernel
theorem dX11_reach_140 : decode cX11_reach 140 = .ok (.iconst 0, 1) := by decide +kernel
theorem dX11_reach_141 : decode cX11_reach 141 = .ok (.ireturn, 1) := by decide +kernel
theorem dX11_reach_142 : decode cX11_reach 142 = .ok (.aload_n 0, 1) := by decide +kernel
theorem dX11_reach_143 : decode cX11_reach 143 = .ok (.getfield 112, 3) := by decide +kernel
theorem dX11_reach_146 : decode cX11_reach 146 = .ok (.iload 5, 2) := by decide +kernel
theorem dX11_reach_148 : decode cX11_reach 148 = .ok (.iconst 1, 1) := by decide +kernel
theorem dX11_reach_149 : decode cX11_reach 149 = .ok (.iastore, 1) := by decide +kernel
theorem dX11_reach_150 : decode cX11_reach 150 = .ok (.aload_n 0, 1) := by decide +kernel
theorem dX11_reach_151 : decode cX11_reach 151 = .ok (.getfield 106, 3) := by decide +kernel
theorem dX11_reach_154 : decode cX11_reach 154 = .ok (.iload 5, 2) := by decide +kernel
theorem dX11_reach_156 : decode cX11_reach 156 = .ok (.iload_n 3, 1) := by decide +kernel
theorem dX11_reach_157 : decode cX11_reach 157 = .ok (.iastore, 1) := by decide +kernel
theorem dX11_reach_158 : decode cX11_reach 158 = .ok (.iconst 1, 1) := by decide +kernel
theorem dX11_reach_159 : decode cX11_reach 159 = .ok (.ireturn, 1) := by decide +kernel
theorem dX11_fall_0 : decode cX11_fall 0 = .ok (.aload_n 0, 1) := by decide +kernel
theorem dX11_fall_1 : decode cX11_fall 1 = .ok (.iconst 0, 1) := by decide +kernel
theorem dX11_fall_2 : decode cX11_fall 2 = .ok (.putfield 146, 3) := by decide +kernel
theorem dX11_fall_5 : decode cX11_fall 5 = .ok (.aload_n 0, 1) := by decide +kernel
theorem dX11_fall_6 : decode cX11_fall 6 = .ok (.iconst 0, 1) := by decide +kernel
theorem dX11_fall_7 : decode cX11_fall 7 = .ok (.putfield 149, 3) := by decide +kernel
theorem dX11_fall_10 : decode cX11_fall 10 = .ok (.aload_n 0, 1) := by decide +kernel
theorem dX11_fall_11 : decode cX11_fall 11 = .ok (.iload_n 1, 1) := by decide +kernel
theorem dX11_fall_12 : decode cX11_fall 12 = .ok (.invokevirtual 349, 3) := by decide +kernel
theorem dX11_fall_15 : decode cX11_fall 15 = .ok (.ifCond .ne 9, 3) := by decide +kernel
theorem dX11_fall_18 : decode cX11_fall 18 = .ok (.aload_n 0, 1) := by decide +kernel
theorem dX11_fall_19 : decode cX11_fall 19 = .ok (.iconst 1, 1) := by decide +kernel
theorem dX11_fall_20 : decode cX11_fall 20 = .ok (.invokevirtual 332, 3) := by decide +kernel
theorem dX11_fall_23 : decode cX11_fall 23 = .ok (.ireturn, 1) := by decide +kernel
theorem dX11_fall_24 : decode cX11_fall 24 = .ok (.aload_n 0, 1) := by decide +kernel
theorem dX11_fall_25 : decode cX11_fall 25 = .ok (.iload_n 2, 1) := by decide +kernel
theorem dX11_fall_26 : decode cX11_fall 26 = .ok (.invokevirtual 352, 3) := by decide +kernel
theorem dX11_fall_29 : decode cX11_fall 29 = .ok (.istore 4, 2) := by decide +kernel
theorem dX11_fall_31 : decode cX11_fall 31 = .ok (.iload 4, 2) := by decide +kernel
theorem dX11_fall_33 : decode cX11_fall 33 = .ok (.ifCond .le 10, 3) := by decide +kernel
theorem dX11_fall_36 : decode cX11_fall 36 = .ok (.aload_n 0, 1) := by decide +kernel
theorem dX11_fall_37 : decode cX11_fall 37 = .ok (.iload 4, 2) := by decide +kernel
theorem dX11_fall_39 : decode cX11_fall 39 = .ok (.invokevirtual 332, 3) := by decide +kernel
theorem dX11_fall_42 : decode cX11_fall 42 = .ok (.ireturn, 1) := by decide +kernel
theorem dX11_fall_43 : decode cX11_fall 43 = .ok (.aload_n 0, 1) := by decide +kernel
theorem dX11_fall_44 : decode cX11_fall 44 = .ok (.iload_n 1, 1) := by decide +kernel
theorem dX11_fall_45 : decode cX11_fall 45 = .ok (.invokevirtual 355, 3) := by decide +kernel
theorem dX11_fall_48 : decode cX11_fall 48 = .ok (.istore 5, 2) := by decide +kernel
theorem dX11_fall_50 : decode cX11_fall 50 = .ok (.iload 5, 2) := by decide +kernel
theorem dX11_fall_52 : decode cX11_fall 52 = .ok (.ifCond .ge 9, 3) := by decide +kernel
theorem dX11_fall_55 : decode cX11_fall 55 = .ok (.aload_n 0, 1) := by decide +kernel
theorem dX11_fall_56 : decode cX11_fall 56 = .ok (.iconst 5, 1) := by decide +kernel
theorem dX11_fall_57 : decode cX11_fall 57 = .ok (.invokevirtual 332, 3) := by decide +kernel
theorem dX11_fall_60 : decode cX11_fall 60 = .ok (.ireturn, 1) := by decide +kernel
theorem dX11_fall_61 : decode cX11_fall 61 = .ok (.aload_n 0, 1) := by decide +kernel
theorem dX11_fall_62 : decode cX11_fall 62 = .ok (.getfield 112, 3) := by decide +kernel
theorem dX11_fall_65 : decode cX11_fall 65 = .ok (.iload 5, 2) := by decide +kernel
theorem dX11_fall_67 : decode cX11_fall 67 = .ok (.iload_n 3, 1) := by decide +kernel
theorem dX11_fall_68 : decode cX11_fall 68 = .ok (.ifCond .eq 7, 3) := by decide +kernel
theorem dX11_fall_71 : decode cX11_fall 71 = .ok (.iconst 4, 1) := by decide +kernel
theorem dX11_fall_72 : decode cX11_fall 72 = .ok (.goto 4, 3) := by decide +kernel
theorem dX11_fall_75 : decode cX11_fall 75 = .ok (.iconst 2, 1) := by decide +kernel
theorem dX11_fall_76 : decode cX11_fall 76 = .ok (.iastore, 1) := by decide +kernel
theorem dX11_fall_77 : decode cX11_fall 77 = .ok (.aload_n 0, 1) := by decide +kernel
theorem dX11_fall_78 : decode cX11_fall 78 = .ok (.getfield 106, 3) := by decide +kernel
theorem dX11_fall_81 : decode cX11_fall 81 = .ok (.iload 5, 2) := by decide +kernel
theorem dX11_fall_83 : decode cX11_fall 83 = .ok (.iload_n 2, 1) := by decide +kernel
theorem dX11_fall_84 : decode cX11_fall 84 = .ok (.iastore, 1) := by decide +kernel
theorem dX11_fall_85 : decode cX11_fall 85 = .ok (.iconst 1, 1) := by decide +kernel
theorem dX11_fall_86 : decode cX11_fall 86 = .ok (.ireturn, 1) := by decide +kernel
theorem dX11_out_0 : decode cX11_out 0 = .ok (.aload_n 0, 1) := by decide +kernel
theorem dX11_out_1 : decode cX11_out 1 = .ok (.iconst 0, 1) := by decide +kernel
theorem dX11_out_2 : decode cX11_out 2 = .ok (.putfield 146, 3) := by decide +kernel
theorem dX11_out_5 : decode cX11_out 5 = .ok (.aload_n 0, 1) := by decide +kernel
theorem dX11_out_6 : decode cX11_out 6 = .ok (.iconst 0, 1) := by decide +kernel
theorem dX11_out_7 : decode cX11_out 7 = .ok (.putfield 149, 3) := by decide +kernel
theorem dX11_out_10 : decode cX11_out 10 = .ok (.aload_n 0, 1) := by decide +kernel
theorem dX11_out_11 : decode cX11_out 11 = .ok (.iload_n 1, 1) := by decide +kernel
theorem dX11_out_12 : decode cX11_out 12 = .ok (.invokevirtual 349, 3) := by decide +kernel
theorem dX11_out_15 : decode cX11_out 15 = .ok (.ifCond .ne 9, 3) := by decide +kernel
theorem dX11_out_18 : decode cX11_out 18 = .ok (.aload_n 0, 1) := by decide +kernel
theorem dX11_out_19 : decode cX11_out 19 = .ok (.iconst 1, 1) := by decide +kernel
theorem dX11_out_20 : decode cX11_out 20 = .ok (.invokevirtual 332, 3) := by decide +kernel
theorem dX11_out_23 : decode cX11_out 23 = .ok (.ireturn, 1) := by decide +kernel
theorem dX11_out_24 : decode cX11_out 24 = .ok (.aload_n 0, 1) := by decide +kernel
theorem dX11_out_25 : decode cX11_out 25 = .ok (.iload_n 2, 1) := by decide +kernel
theorem dX11_out_26 : decode cX11_out 26 = .ok (.invokevirtual 352, 3) := by decide +kernel
theorem dX11_out_29 : decode cX11_out 29 = .ok (.istore 4, 2) := by decide +kernel
theorem dX11_out_31 : decode cX11_out 31 = .ok (.iload 4, 2) := by decide +kernel
theorem dX11_out_33 : decode cX11_out 33 = .ok (.ifCond .le 10, 3) := by decide +kernel
theorem dX11_out_36 : decode cX11_out 36 = .ok (.aload_n 0, 1) := by decide +kernel
theorem dX11_out_37 : decode cX11_out 37 = .ok (.iload 4, 2) := by decide +kernel
theorem dX11_out_39 : decode cX11_out 39 = .ok (.invokevirtual 332, 3) := by decide +kernel
theorem dX11_out_42 : decode cX11_out 42 = .ok (.ireturn, 1) := by decide +kernel
theorem dX11_out_43 : decode cX11_out 43 = .ok (.aload_n 0, 1) := by decide +kernel
theorem dX11_out_44 : decode cX11_out 44 = .ok (.getfield 124, 3) := by decide +kernel
theorem dX11_out_47 : decode cX11_out 47 = .ok (.iload_n 1, 1) := by decide +kernel
theorem dX11_out_48 : decode cX11_out 48 = .ok (.iaload, 1) := by decide +kernel
theorem dX11_out_49 : decode cX11_out 49 = .ok (.istore 5, 2) := by decide +kernel
theorem dX11_out_51 : decode cX11_out 51 = .ok (.iload 5, 2) := by decide +kernel
theorem dX11_out_53 : decode cX11_out 53 = .ok (.ifCond .le 24, 3) := by decide +kernel
theorem dX11_out_56 : decode cX11_out 56 = .ok (.aload_n 0, 1) := by decide +kernel
theorem dX11_out_57 : decode cX11_out 57 = .ok (.getfield 130, 3) := by decide +kernel
theorem dX11_out_60 : decode cX11_out 60 = .ok (.bipush 20, 2) := by decide +kernel
theorem dX11_out_62 : decode cX11_out 62 = .ok (.iload_n 1, 1) := by decide +kernel
theorem dX11_out_63 : decode cX11_out 63 = .ok (.imul, 1) := by decide +kernel
theorem dX11_out_64 : decode cX11_out 64 = .ok (.iload 5, 2) := by decide +kernel
theorem dX11_out_66 : decode cX11_out 66 = .ok (.iadd, 1) := by decide +kernel
theorem dX11_out_67 : decode cX11_out 67 = .ok (.iconst 1, 1) := by decide +kernel
theorem dX11_out_68 : decode cX11_out 68 = .ok (.isub, 1) := by decide +kernel
theorem dX11_out_69 : decode cX11_out 69 = .ok (.iaload, 1) := by decide +kernel
theorem dX11_out_70 : decode cX11_out 70 = .ok (.ifCond .ge 7, 3) := by decide +kernel
theorem dX11_out_73 : decode cX11_out 73 = .ok (.iconst 1, 1) := by decide +kernel
theorem dX11_out_74 : decode cX11_out 74 = .ok (.goto 4, 3) := by decide +kernel
theorem dX11_out_77 : decode cX11_out 77 = .ok (.iconst 0, 1) := by decide +kernel
theorem dX11_out_78 : decode cX11_out 78 = .ok (.istore 6, 2) := by decide +kernel
theorem dX11_out_80 : decode cX11_out 80 = .ok (.iload 6, 2) := by decide +kernel
theorem dX11_out_82 : decode cX11_out 82 = .ok (.iload_n 3, 1) := by decide +kernel
theorem dX11_out_83 : decode cX11_out 83 = .ok (.if_icmp .ne 10, 3) := by decide +kernel
theorem dX11_out_86 : decode cX11_out 86 = .ok (.aload_n 0, 1) := by decide +kernel
theorem dX11_out_87 : decode cX11_out 87 = .ok (.bipush 10, 2) := by decide +kernel
theorem dX11_out_89 : decode cX11_out 89 = .ok (.invokevirtual 332, 3) := by decide +kernel
theorem dX11_out_92 : decode cX11_out 92 = .ok (.ireturn, 1) := by decide +kernel
theorem dX11_out_93 : decode cX11_out 93 = .ok (.iload_n 3, 1) := by decide +kernel
theorem dX11_out_94 : decode cX11_out 94 = .ok (.ifCond .eq 16, 3) := by decide +kernel
theorem dX11_out_97 : decode cX11_out 97 = .ok (.iload 5, 2) := by decide +kernel
theorem dX11_out_99 : decode cX11_out 99 = .ok (.bipush 20, 2) := by decide +kernel
theorem dX11_out_101 : decode cX11_out 101 = .ok (.if_icmp .ne 9, 3) := by decide +kernel
theorem dX11_out_104 : decode cX11_out 104 = .ok (.aload_n 0, 1) := by decide +kernel
theorem dX11_out_105 : decode cX11_out 105 = .ok (.iconst 3, 1) := by decide +kernel
theorem dX11_out_106 : decode cX11_out 106 = .ok (.invokevirtual 332, 3) := by decide +kernel
theorem dX11_out_109 : decode cX11_out 109 = .ok (.ireturn, 1) := by decide +kernel
theorem dX11_out_110 : decode cX11_out 110 = .ok (.iload_n 3, 1) := by decide +kernel
theorem dX11_out_111 : decode cX11_out 111 = .ok (.ifCond .eq 42, 3) := by decide +kernel
theorem dX11_out_114 : decode cX11_out 114 = .ok (.aload_n 0, 1) := by decide +kernel
theorem dX11_out_115 : decode cX11_out 115 = .ok (.getfield 127, 3) := by decide +kernel
theorem dX11_out_118 : decode cX11_out 118 = .ok (.bipush 20, 2) := by decide +kernel
theorem dX11_out_120 : decode cX11_out 120 = .ok (.iload_n 1, 1) := by decide +kernel
theorem dX11_out_121 : decode cX11_out 121 = .ok (.imul, 1) := by decide +kernel
theorem dX11_out_122 : decode cX11_out 122 = .ok (.iload 5, 2) := by decide +kernel
theorem dX11_out_124 : decode cX11_out 124 = .ok (.iadd, 1) := by decide +kernel
theorem dX11_out_125 : decode cX11_out 125 = .ok (.iload_n 2, 1) := by decide +kernel
theorem dX11_out_126 : decode cX11_out 126 = .ok (.iastore, 1) := by decide +kernel
theorem dX11_out_127 : decode cX11_out 127 = .ok (.aload_n 0, 1) := by decide +kernel
theorem dX11_out_128 : decode cX11_out 128 = .ok (.getfield 130, 3) := by decide +kernel
theorem dX11_out_131 : decode cX11_out 131 = .ok (.bipush 20, 2) := by decide +kernel
theorem dX11_out_133 : decode cX11_out 133 = .ok (.iload_n 1, 1) := by decide +kernel
theorem dX11_out_134 : decode cX11_out 134 = .ok (.imul, 1) := by decide +kernel
theorem dX11_out_135 : decode cX11_out 135 = .ok (.iload 5, 2) := by decide +kernel
theorem dX11_out_137 : decode cX11_out 137 = .ok (.iadd, 1) := by decide +kernel
theorem dX11_out_138 : decode cX11_out 138 = .ok (.iconst (-1), 1) := by decide +kernel
theorem dX11_out_139 : decode cX11_out 139 = .ok (.iastore, 1) := by decide +kernel
theorem dX11_out_140 : decode cX11_out 140 = .ok (.aload_n 0, 1) := by decide +kernel
theorem dX11_out_141 : decode cX11_out 141 = .ok (.getfield 124, 3) := by decide +kernel
theorem dX11_out_144 : decode cX11_out 144 = .ok (.iload_n 1, 1) := by decide +kernel
theorem dX11_out_145 : decode cX11_out 145 = .ok (.dup2, 1) := by decide +kernel
theorem dX11_out_146 : decode cX11_out 146 = .ok (.iaload, 1) := by decide +kernel
theorem dX11_out_147 : decode cX11_out 147 = .ok (.iconst 1, 1) := by decide +kernel
theorem dX11_out_148 : decode cX11_out 148 = .ok (.iadd, 1) := by decide +kernel
theorem dX11_out_149 : decode cX11_out 149 = .ok (.iastore, 1) := by decide +kernel
theorem dX11_out_150 : decode cX11_out 150 = .ok (.goto 18, 3) := by decide +kernel
theorem dX11_out_153 : decode cX11_out 153 = .ok (.aload_n 0, 1) := by decide +kernel
theorem dX11_out_154 : decode cX11_out 154 = .ok (.getfield 130, 3) := by decide +kernel
theorem dX11_out_157 : decode cX11_out 157 = .ok (.bipush 20, 2) := by decide +kernel
theorem dX11_out_159 : decode cX11_out 159 = .ok (.iload_n 1, 1) := by decide +kernel
theorem dX11_out_160 : decode cX11_out 160 = .ok (.imul, 1) := by decide +kernel
theorem dX11_out_161 : decode cX11_out 161 = .ok (.iload 5, 2) := by decide +kernel
theorem dX11_out_163 : decode cX11_out 163 = .ok (.iadd, 1) := by decide +kernel
theorem dX11_out_164 : decode cX11_out 164 = .ok (.iconst 1, 1) := by decide +kernel
theorem dX11_out_165 : decode cX11_out 165 = .ok (.isub, 1) := by decide +kernel
theorem dX11_out_166 : decode cX11_out 166 = .ok (.iload_n 2, 1) := by decide +kernel
theorem dX11_out_167 : decode cX11_out 167 = .ok (.iastore, 1) := by decide +kernel
theorem dX11_out_168 : decode cX11_out 168 = .ok (.iconst 1, 1) := by decide +kernel
theorem dX11_out_169 : decode cX11_out 169 = .ok (.ireturn, 1) := by decide +kernel
theorem dX11_clock_0 : decode cX11_clock 0 = .ok (.aload_n 0, 1) := by decide +kernel
theorem dX11_clock_1 : decode cX11_clock 1 = .ok (.iconst 0, 1) := by decide +kernel
theorem dX11_clock_2 : decode cX11_clock 2 = .ok (.putfield 146, 3) := by decide +kernel
theorem dX11_clock_5 : decode cX11_clock 5 = .ok (.aload_n 0, 1) := by decide +kernel
theorem dX11_clock_6 : decode cX11_clock 6 = .ok (.aload_n 0, 1) := by decide +kernel
theorem dX11_clock_7 : decode cX11_clock 7 = .ok (.iload_n 1, 1) := by decide +kernel
theorem dX11_clock_8 : decode cX11_clock 8 = .ok (.invokevirtual 352, 3) := by decide +kernel
theorem dX11_clock_11 : decode cX11_clock 11 = .ok (.putfield 149, 3) := by decide +kernel
theorem dX11_clock_14 : decode cX11_clock 14 = .ok (.aload_n 0, 1) := by decide +kernel
theorem dX11_clock_15 : decode cX11_clock 15 = .ok (.getfield 149, 3) := by decide +kernel
theorem dX11_clock_18 : decode cX11_clock 18 = .ok (.ifCond .ne 7, 3) := by decide +kernel
theorem dX11_clock_21 : decode cX11_clock 21 = .ok (.iconst 1, 1) := by decide +kernel
theorem dX11_clock_22 : decode cX11_clock 22 = .ok (.goto 4, 3) := by decide +kernel
theorem dX11_clock_25 : decode cX11_clock 25 = .ok (.iconst 0, 1) := by decide +kernel
theorem dX11_clock_26 : decode cX11_clock 26 = .ok (.ireturn, 1) := by decide +kernel
theorem dX11_now_0 : decode cX11_now 0 = .ok (.aload_n 0, 1) := by decide +kernel
theorem dX11_now_1 : decode cX11_now 1 = .ok (.iconst 0, 1) := by decide +kernel
theorem dX11_now_2 : decode cX11_now 2 = .ok (.putfield 146, 3) := by decide +kernel
theorem dX11_now_5 : decode cX11_now 5 = .ok (.aload_n 0, 1) := by decide +kernel
theorem dX11_now_6 : decode cX11_now 6 = .ok (.iconst 0, 1) := by decide +kernel
theorem dX11_now_7 : decode cX11_now 7 = .ok (.putfield 149, 3) := by decide +kernel
theorem dX11_now_10 : decode cX11_now 10 = .ok (.aload_n 0, 1) := by decide +kernel
theorem dX11_now_11 : decode cX11_now 11 = .ok (.getfield 316, 3) := by decide +kernel
theorem dX11_now_14 : decode cX11_now 14 = .ok (.ireturn, 1) := by decide +kernel
theorem dX11_tried_0 : decode cX11_tried 0 = .ok (.aload_n 0, 1) := by decide +kernel
theorem dX11_tried_1 : decode cX11_tried 1 = .ok (.iconst 0, 1) := by decide +kernel
theorem dX11_tried_2 : decode cX11_tried 2 = .ok (.putfield 146, 3) := by decide +kernel
theorem dX11_tried_5 : decode cX11_tried 5 = .ok (.aload_n 0, 1) := by decide +kernel
theorem dX11_tried_6 : decode cX11_tried 6 = .ok (.iconst 0, 1) := by decide +kernel
theorem dX11_tried_7 : decode cX11_tried 7 = .ok (.putfield 149, 3) := by decide +kernel
theorem dX11_tried_10 : decode cX11_tried 10 = .ok (.iload_n 1, 1) := by decide +kernel
theorem dX11_tried_11 : decode cX11_tried 11 = .ok (.ifCond .lt 11, 3) := by decide +kernel
theorem dX11_tried_14 : decode cX11_tried 14 = .ok (.iload_n 1, 1) := by decide +kernel
theorem dX11_tried_15 : decode cX11_tried 15 = .ok (.aload_n 0, 1) := by decide +kernel
theorem dX11_tried_16 : decode cX11_tried 16 = .ok (.getfield 319, 3) := by decide +kernel
theorem dX11_tried_19 : decode cX11_tried 19 = .ok (.if_icmp .lt 9, 3) := by decide +kernel
theorem dX11_tried_22 : decode cX11_tried 22 = .ok (.aload_n 0, 1) := by decide +kernel
theorem dX11_tried_23 : decode cX11_tried 23 = .ok (.iconst 1, 1) := by decide +kernel
theorem dX11_tried_24 : decode cX11_tried 24 = .ok (.invokevirtual 295, 3) := by decide +kernel
theorem dX11_tried_27 : decode cX11_tried 27 = .ok (.ireturn, 1) := by decide +kernel
theorem dX11_tried_28 : decode cX11_tried 28 = .ok (.iload_n 2, 1) := by decide +kernel
theorem dX11_tried_29 : decode cX11_tried 29 = .ok (.tableswitch 92 0 6 #[43, 50, 57, 64, 71, 78, 85], 43) := by decide +kernel
theorem dX11_tried_72 : decode cX11_tried 72 = .ok (.aload_n 0, 1) := by decide +kernel
theorem dX11_tried_73 : decode cX11_tried 73 = .ok (.getfield 94, 3) := by decide +kernel
theorem dX11_tried_76 : decode cX11_tried 76 = .ok (.iload_n 1, 1) := by decide +kernel
theorem dX11_tried_77 : decode cX11_tried 77 = .ok (.iaload, 1) := by decide +kernel
theorem dX11_tried_78 : decode cX11_tried 78 = .ok (.ireturn, 1) := by decide +kernel
theorem dX11_tried_79 : decode cX11_tried 79 = .ok (.aload_n 0, 1) := by decide +kernel
theorem dX11_tried_80 : decode cX11_tried 80 = .ok (.getfield 97, 3) := by decide +kernel
theorem dX11_tried_83 : decode cX11_tried 83 = .ok (.iload_n 1, 1) := by decide +kernel
theorem dX11_tried_84 : decode cX11_tried 84 = .ok (.iaload, 1) := by decide +kernel
theorem dX11_tried_85 : decode cX11_tried 85 = .ok (.ireturn, 1) := by decide +kernel
theorem dX11_tried_86 : decode cX11_tried 86 = .ok (.aload_n 0, 1) := by decide +kernel
theorem dX11_tried_87 : decode cX11_tried 87 = .ok (.getfield 100, 3) := by decide +kernel
theorem dX11_tried_90 : decode cX11_tried 90 = .ok (.iload_n 1, 1) := by decide +kernel
theorem dX11_tried_91 : decode cX11_tried 91 = .ok (.iaload, 1) := by decide +kernel
theorem dX11_tried_92 : decode cX11_tried 92 = .ok (.ireturn, 1) := by decide +kernel
theorem dX11_tried_93 : decode cX11_tried 93 = .ok (.aload_n 0, 1) := by decide +kernel
theorem dX11_tried_94 : decode cX11_tried 94 = .ok (.getfield 103, 3) := by decide +kernel
theorem dX11_tried_97 : decode cX11_tried 97 = .ok (.iload_n 1, 1) := by decide +kernel
theorem dX11_tried_98 : decode cX11_tried 98 = .ok (.iaload, 1) := by decide +kernel
theorem dX11_tried_99 : decode cX11_tried 99 = .ok (.ireturn, 1) := by decide +kernel
theorem dX11_tried_100 : decode cX11_tried 100 = .ok (.aload_n 0, 1) := by decide +kernel
theorem dX11_tried_101 : decode cX11_tried 101 = .ok (.getfield 106, 3) := by decide +kernel
theorem dX11_tried_104 : decode cX11_tried 104 = .ok (.iload_n 1, 1) := by decide +kernel
theorem dX11_tried_105 : decode cX11_tried 105 = .ok (.iaload, 1) := by decide +kernel
theorem dX11_tried_106 : decode cX11_tried 106 = .ok (.ireturn, 1) := by decide +kernel
theorem dX11_tried_107 : decode cX11_tried 107 = .ok (.aload_n 0, 1) := by decide +kernel
theorem dX11_tried_108 : decode cX11_tried 108 = .ok (.getfield 109, 3) := by decide +kernel
theorem dX11_tried_111 : decode cX11_tried 111 = .ok (.iload_n 1, 1) := by decide +kernel
theorem dX11_tried_112 : decode cX11_tried 112 = .ok (.iaload, 1) := by decide +kernel
theorem dX11_tried_113 : decode cX11_tried 113 = .ok (.ireturn, 1) := by decide +kernel
theorem dX11_tried_114 : decode cX11_tried 114 = .ok (.aload_n 0, 1) := by decide +kernel
theorem dX11_tried_115 : decode cX11_tried 115 = .ok (.getfield 112, 3) := by decide +kernel
theorem dX11_tried_118 : decode cX11_tried 118 = .ok (.iload_n 1, 1) := by decide +kernel
theorem dX11_tried_119 : decode cX11_tried 119 = .ok (.iaload, 1) := by decide +kernel
theorem dX11_tried_120 : decode cX11_tried 120 = .ok (.ireturn, 1) := by decide +kernel
theorem dX11_tried_121 : decode cX11_tried 121 = .ok (.aload_n 0, 1) := by decide +kernel
theorem dX11_tried_122 : decode cX11_tried 122 = .ok (.iconst 2, 1) := by decide +kernel
theorem dX11_tried_123 : decode cX11_tried 123 = .ok (.invokevirtual 295, 3) := by decide +kernel
theorem dX11_tried_126 : decode cX11_tried 126 = .ok (.ireturn, 1) := by decide +kernel
theorem dX11_seen_0 : decode cX11_seen 0 = .ok (.aload_n 0, 1) := by decide +kernel
theorem dX11_seen_1 : decode cX11_seen 1 = .ok (.iconst 0, 1) := by decide +kernel
theorem dX11_seen_2 : decode cX11_seen 2 = .ok (.putfield 146, 3) := by decide +kernel
theorem dX11_seen_5 : decode cX11_seen 5 = .ok (.aload_n 0, 1) := by decide +kernel
theorem dX11_seen_6 : decode cX11_seen 6 = .ok (.iconst 0, 1) := by decide +kernel
theorem dX11_seen_7 : decode cX11_seen 7 = .ok (.putfield 149, 3) := by decide +kernel
theorem dX11_seen_10 : decode cX11_seen 10 = .ok (.aload_n 0, 1) := by decide +kernel
theorem dX11_seen_11 : decode cX11_seen 11 = .ok (.iload_n 1, 1) := by decide +kernel
theorem dX11_seen_12 : decode cX11_seen 12 = .ok (.invokevirtual 349, 3) := by decide +kernel
theorem dX11_seen_15 : decode cX11_seen 15 = .ok (.ifCond .eq 22, 3) := by decide +kernel
theorem dX11_seen_18 : decode cX11_seen 18 = .ok (.aload_n 0, 1) := by decide +kernel
theorem dX11_seen_19 : decode cX11_seen 19 = .ok (.getfield 82, 3) := by decide +kernel
theorem dX11_seen_22 : decode cX11_seen 22 = .ok (.ifCond .lt 15, 3) := by decide +kernel
theorem dX11_seen_25 : decode cX11_seen 25 = .ok (.aload_n 0, 1) := by decide +kernel
theorem dX11_seen_26 : decode cX11_seen 26 = .ok (.aload_n 0, 1) := by decide +kernel
theorem dX11_seen_27 : decode cX11_seen 27 = .ok (.getfield 82, 3) := by decide +kernel
theorem dX11_seen_30 : decode cX11_seen 30 = .ok (.iload_n 2, 1) := by decide +kernel
theorem dX11_seen_31 : decode cX11_seen 31 = .ok (.invokevirtual 328, 3) := by decide +kernel
theorem dX11_seen_34 : decode cX11_seen 34 = .ok (.ifCond .ne 9, 3) := by decide +kernel
theorem dX11_seen_37 : decode cX11_seen 37 = .ok (.aload_n 0, 1) := by decide +kernel
theorem dX11_seen_38 : decode cX11_seen 38 = .ok (.iconst 1, 1) := by decide +kernel
theorem dX11_seen_39 : decode cX11_seen 39 = .ok (.invokevirtual 295, 3) := by decide +kernel
theorem dX11_seen_42 : decode cX11_seen 42 = .ok (.ireturn, 1) := by decide +kernel
theorem dX11_seen_43 : decode cX11_seen 43 = .ok (.aload_n 0, 1) := by decide +kernel
theorem dX11_seen_44 : decode cX11_seen 44 = .ok (.iload_n 1, 1) := by decide +kernel
theorem dX11_seen_45 : decode cX11_seen 45 = .ok (.iload_n 2, 1) := by decide +kernel
theorem dX11_seen_46 : decode cX11_seen 46 = .ok (.invokevirtual 358, 3) := by decide +kernel
theorem dX11_seen_49 : decode cX11_seen 49 = .ok (.ifCond .eq 7, 3) := by decide +kernel
theorem dX11_seen_52 : decode cX11_seen 52 = .ok (.iconst 1, 1) := by decide +kernel
theorem dX11_seen_53 : decode cX11_seen 53 = .ok (.goto 4, 3) := by decide +kernel
theorem dX11_seen_56 : decode cX11_seen 56 = .ok (.iconst 0, 1) := by decide +kernel
theorem dX11_seen_57 : decode cX11_seen 57 = .ok (.ireturn, 1) := by decide +kernel
theorem dX11_ready_0 : decode cX11_ready 0 = .ok (.aload_n 0, 1) := by decide +kernel
theorem dX11_ready_1 : decode cX11_ready 1 = .ok (.iconst 0, 1) := by decide +kernel
theorem dX11_ready_2 : decode cX11_ready 2 = .ok (.putfield 146, 3) := by decide +kernel
theorem dX11_ready_5 : decode cX11_ready 5 = .ok (.aload_n 0, 1) := by decide +kernel
theorem dX11_ready_6 : decode cX11_ready 6 = .ok (.iconst 0, 1) := by decide +kernel
theorem dX11_ready_7 : decode cX11_ready 7 = .ok (.putfield 149, 3) := by decide +kernel
theorem dX11_ready_10 : decode cX11_ready 10 = .ok (.aload_n 0, 1) := by decide +kernel
theorem dX11_ready_11 : decode cX11_ready 11 = .ok (.iload_n 1, 1) := by decide +kernel
theorem dX11_ready_12 : decode cX11_ready 12 = .ok (.invokevirtual 349, 3) := by decide +kernel
theorem dX11_ready_15 : decode cX11_ready 15 = .ok (.ifCond .ne 9, 3) := by decide +kernel
theorem dX11_ready_18 : decode cX11_ready 18 = .ok (.aload_n 0, 1) := by decide +kernel
theorem dX11_ready_19 : decode cX11_ready 19 = .ok (.iconst 1, 1) := by decide +kernel
theorem dX11_ready_20 : decode cX11_ready 20 = .ok (.invokevirtual 295, 3) := by decide +kernel
theorem dX11_ready_23 : decode cX11_ready 23 = .ok (.ireturn, 1) := by decide +kernel
theorem dX11_ready_24 : decode cX11_ready 24 = .ok (.aload_n 0, 1) := by decide +kernel
theorem dX11_ready_25 : decode cX11_ready 25 = .ok (.iload_n 1, 1) := by decide +kernel
theorem dX11_ready_26 : decode cX11_ready 26 = .ok (.invokevirtual 355, 3) := by decide +kernel
theorem dX11_ready_29 : decode cX11_ready 29 = .ok (.ifCond .lt 9, 3) := by decide +kernel
theorem dX11_ready_32 : decode cX11_ready 32 = .ok (.aload_n 0, 1) := by decide +kernel
theorem dX11_ready_33 : decode cX11_ready 33 = .ok (.iconst 5, 1) := by decide +kernel
theorem dX11_ready_34 : decode cX11_ready 34 = .ok (.invokevirtual 295, 3) := by decide +kernel
theorem dX11_ready_37 : decode cX11_ready 37 = .ok (.ireturn, 1) := by decide +kernel
theorem dX11_ready_38 : decode cX11_ready 38 = .ok (.aload_n 0, 1) := by decide +kernel
theorem dX11_ready_39 : decode cX11_ready 39 = .ok (.getfield 316, 3) := by decide +kernel
theorem dX11_ready_42 : decode cX11_ready 42 = .ok (.aload_n 0, 1) := by decide +kernel
theorem dX11_ready_43 : decode cX11_ready 43 = .ok (.iload_n 1, 1) := by decide +kernel
theorem dX11_ready_44 : decode cX11_ready 44 = .ok (.invokevirtual 361, 3) := by decide +kernel
theorem dX11_ready_47 : decode cX11_ready 47 = .ok (.invokestatic 341, 3) := by decide +kernel
theorem dX11_ready_50 : decode cX11_ready 50 = .ok (.ireturn, 1) := by decide +kernel
theorem dX11_isDay_0 : decode cX11_isDay 0 = .ok (.iload_n 0, 1) := by decide +kernel
theorem dX11_isDay_1 : decode cX11_isDay 1 = .ok (.ifCond .lt 14, 3) := by decide +kernel
theorem dX11_isDay_4 : decode cX11_isDay 4 = .ok (.iload_n 0, 1) := by decide +kernel
theorem dX11_isDay_5 : decode cX11_isDay 5 = .ok (.sipush 999, 3) := by decide +kernel
theorem dX11_isDay_8 : decode cX11_isDay 8 = .ok (.if_icmp .gt 7, 3) := by decide +kernel
theorem dX11_isDay_11 : decode cX11_isDay 11 = .ok (.iconst 1, 1) := by decide +kernel
theorem dX11_isDay_12 : decode cX11_isDay 12 = .ok (.goto 4, 3) := by decide +kernel
theorem dX11_isDay_15 : decode cX11_isDay 15 = .ok (.iconst 0, 1) := by decide +kernel
theorem dX11_isDay_16 : decode cX11_isDay 16 = .ok (.ireturn, 1) := by decide +kernel
theorem dX11_appeal_0 : decode cX11_appeal 0 = .ok (.aload_n 0, 1) := by decide +kernel
theorem dX11_appeal_1 : decode cX11_appeal 1 = .ok (.iconst 0, 1) := by decide +kernel
theorem dX11_appeal_2 : decode cX11_appeal 2 = .ok (.putfield 146, 3) := by decide +kernel
theorem dX11_appeal_5 : decode cX11_appeal 5 = .ok (.aload_n 0, 1) := by decide +kernel
theorem dX11_appeal_6 : decode cX11_appeal 6 = .ok (.iconst 0, 1) := by decide +kernel
theorem dX11_appeal_7 : decode cX11_appeal 7 = .ok (.putfield 149, 3) := by decide +kernel
theorem dX11_appeal_10 : decode cX11_appeal 10 = .ok (.iload_n 1, 1) := by decide +kernel
theorem dX11_appeal_11 : decode cX11_appeal 11 = .ok (.ifCond .lt 11, 3) := by decide +kernel
theorem dX11_appeal_14 : decode cX11_appeal 14 = .ok (.iload_n 1, 1) := by decide +kernel
theorem dX11_appeal_15 : decode cX11_appeal 15 = .ok (.aload_n 0, 1) := by decide +kernel
theorem dX11_appeal_16 : decode cX11_appeal 16 = .ok (.getfield 319, 3) := by decide +kernel
theorem dX11_appeal_19 : decode cX11_appeal 19 = .ok (.if_icmp .lt 9, 3) := by decide +kernel
theorem dX11_appeal_22 : decode cX11_appeal 22 = .ok (.aload_n 0, 1) := by decide +kernel
theorem dX11_appeal_23 : decode cX11_appeal 23 = .ok (.iconst 1, 1) := by decide +kernel
theorem dX11_appeal_24 : decode cX11_appeal 24 = .ok (.invokevirtual 332, 3) := by decide +kernel
theorem dX11_appeal_27 : decode cX11_appeal 27 = .ok (.ireturn, 1) := by decide +kernel
theorem dX11_appeal_28 : decode cX11_appeal 28 = .ok (.iload_n 2, 1) := by decide +kernel
theorem dX11_appeal_29 : decode cX11_appeal 29 = .ok (.ifCond .lt 34, 3) := by decide +kernel
theorem dX11_appeal_32 : decode cX11_appeal 32 = .ok (.iload_n 2, 1) := by decide +kernel
theorem dX11_appeal_33 : decode cX11_appeal 33 = .ok (.aload_n 0, 1) := by decide +kernel
theorem dX11_appeal_34 : decode cX11_appeal 34 = .ok (.getfield 73, 3) := by decide +kernel
theorem dX11_appeal_37 : decode cX11_appeal 37 = .ok (.aload_n 0, 1) := by decide +kernel
theorem dX11_appeal_38 : decode cX11_appeal 38 = .ok (.getfield 97, 3) := by decide +kernel
theorem dX11_appeal_41 : decode cX11_appeal 41 = .ok (.iload_n 1, 1) := by decide +kernel
theorem dX11_appeal_42 : decode cX11_appeal 42 = .ok (.iaload, 1) := by decide +kernel
theorem dX11_appeal_43 : decode cX11_appeal 43 = .ok (.aload_n 0, 1) := by decide +kernel
theorem dX11_appeal_44 : decode cX11_appeal 44 = .ok (.getfield 100, 3) := by decide +kernel
theorem dX11_appeal_47 : decode cX11_appeal 47 = .ok (.iload_n 1, 1) := by decide +kernel
theorem dX11_appeal_48 : decode cX11_appeal 48 = .ok (.iaload, 1) := by decide +kernel
theorem dX11_appeal_49 : decode cX11_appeal 49 = .ok (.invokestatic 335, 3) := by decide +kernel
theorem dX11_appeal_52 : decode cX11_appeal 52 = .ok (.iaload, 1) := by decide +kernel
theorem dX11_appeal_53 : decode cX11_appeal 53 = .ok (.if_icmp .gt 10, 3) := by decide +kernel
theorem dX11_appeal_56 : decode cX11_appeal 56 = .ok (.iload_n 3, 1) := by decide +kernel
theorem dX11_appeal_57 : decode cX11_appeal 57 = .ok (.invokestatic 364, 3) := by decide +kernel
theorem dX11_appeal_60 : decode cX11_appeal 60 = .ok (.ifCond .ne 9, 3) := by decide +kernel
theorem dX11_appeal_63 : decode cX11_appeal 63 = .ok (.aload_n 0, 1) := by decide +kernel
theorem dX11_appeal_64 : decode cX11_appeal 64 = .ok (.iconst 2, 1) := by decide +kernel
theorem dX11_appeal_65 : decode cX11_appeal 65 = .ok (.invokevirtual 332, 3) := by decide +kernel
theorem dX11_appeal_68 : decode cX11_appeal 68 = .ok (.ireturn, 1) := by decide +kernel
theorem dX11_appeal_69 : decode cX11_appeal 69 = .ok (.aload_n 0, 1) := by decide +kernel
theorem dX11_appeal_70 : decode cX11_appeal 70 = .ok (.getfield 112, 3) := by decide +kernel
theorem dX11_appeal_73 : decode cX11_appeal 73 = .ok (.iload_n 1, 1) := by decide +kernel
theorem dX11_appeal_74 : decode cX11_appeal 74 = .ok (.iaload, 1) := by decide +kernel
theorem dX11_appeal_75 : decode cX11_appeal 75 = .ok (.ifCond .eq 13, 3) := by decide +kernel
theorem dX11_appeal_78 : decode cX11_appeal 78 = .ok (.aload_n 0, 1) := by decide +kernel
theorem dX11_appeal_79 : decode cX11_appeal 79 = .ok (.getfield 112, 3) := by decide +kernel
theorem dX11_appeal_82 : decode cX11_appeal 82 = .ok (.iload_n 1, 1) := by decide +kernel
theorem dX11_appeal_83 : decode cX11_appeal 83 = .ok (.iaload, 1) := by decide +kernel
theorem dX11_appeal_84 : decode cX11_appeal 84 = .ok (.iconst 4, 1) := by decide +kernel
theorem dX11_appeal_85 : decode cX11_appeal 85 = .ok (.if_icmp .ne 10, 3) := by decide +kernel
theorem dX11_appeal_88 : decode cX11_appeal 88 = .ok (.aload_n 0, 1) := by decide +kernel
theorem dX11_appeal_89 : decode cX11_appeal 89 = .ok (.bipush 10, 2) := by decide +kernel
theorem dX11_appeal_91 : decode cX11_appeal 91 = .ok (.invokevirtual 332, 3) := by decide +kernel
theorem dX11_appeal_94 : decode cX11_appeal 94 = .ok (.ireturn, 1) := by decide +kernel
theorem dX11_appeal_95 : decode cX11_appeal 95 = .ok (.aload_n 0, 1) := by decide +kernel
theorem dX11_appeal_96 : decode cX11_appeal 96 = .ok (.getfield 322, 3) := by decide +kernel
theorem dX11_appeal_99 : decode cX11_appeal 99 = .ok (.bipush 40, 2) := by decide +kernel
theorem dX11_appeal_101 : decode cX11_appeal 101 = .ok (.if_icmp .ne 9, 3) := by decide +kernel
theorem dX11_appeal_104 : decode cX11_appeal 104 = .ok (.aload_n 0, 1) := by decide +kernel
theorem dX11_appeal_105 : decode cX11_appeal 105 = .ok (.iconst 3, 1) := by decide +kernel
theorem dX11_appeal_106 : decode cX11_appeal 106 = .ok (.invokevirtual 332, 3) := by decide +kernel
theorem dX11_appeal_109 : decode cX11_appeal 109 = .ok (.ireturn, 1) := by decide +kernel
theorem dX11_appeal_110 : decode cX11_appeal 110 = .ok (.aload_n 0, 1) := by decide +kernel
theorem dX11_appeal_111 : decode cX11_appeal 111 = .ok (.getfield 115, 3) := by decide +kernel
theorem dX11_appeal_114 : decode cX11_appeal 114 = .ok (.aload_n 0, 1) := by decide +kernel
theorem dX11_appeal_115 : decode cX11_appeal 115 = .ok (.getfield 322, 3) := by decide +kernel
theorem dX11_appeal_118 : decode cX11_appeal 118 = .ok (.iload_n 1, 1) := by decide +kernel
theorem dX11_appeal_119 : decode cX11_appeal 119 = .ok (.iastore, 1) := by decide +kernel
theorem dX11_appeal_120 : decode cX11_appeal 120 = .ok (.aload_n 0, 1) := by decide +kernel
theorem dX11_appeal_121 : decode cX11_appeal 121 = .ok (.getfield 118, 3) := by decide +kernel
theorem dX11_appeal_124 : decode cX11_appeal 124 = .ok (.aload_n 0, 1) := by decide +kernel
theorem dX11_appeal_125 : decode cX11_appeal 125 = .ok (.getfield 322, 3) := by decide +kernel
theorem dX11_appeal_128 : decode cX11_appeal 128 = .ok (.iload_n 2, 1) := by decide +kernel
theorem dX11_appeal_129 : decode cX11_appeal 129 = .ok (.iastore, 1) := by decide +kernel
theorem dX11_appeal_130 : decode cX11_appeal 130 = .ok (.aload_n 0, 1) := by decide +kernel
theorem dX11_appeal_131 : decode cX11_appeal 131 = .ok (.getfield 121, 3) := by decide +kernel
theorem dX11_appeal_134 : decode cX11_appeal 134 = .ok (.aload_n 0, 1) := by decide +kernel
theorem dX11_appeal_135 : decode cX11_appeal 135 = .ok (.getfield 322, 3) := by decide +kernel
theorem dX11_appeal_138 : decode cX11_appeal 138 = .ok (.iload_n 3, 1) := by decide +kernel
theorem dX11_appeal_139 : decode cX11_appeal 139 = .ok (.iastore, 1) := by decide +kernel
theorem dX11_appeal_140 : decode cX11_appeal 140 = .ok (.aload_n 0, 1) := by decide +kernel
theorem dX11_appeal_141 : decode cX11_appeal 141 = .ok (.dup, 1) := by decide +kernel
theorem dX11_appeal_142 : decode cX11_appeal 142 = .ok (.getfield 322, 3) := by decide +kernel
theorem dX11_appeal_145 : decode cX11_appeal 145 = .ok (.iconst 1, 1) := by decide +kernel
theorem dX11_appeal_146 : decode cX11_appeal 146 = .ok (.iadd, 1) := by decide +kernel
theorem dX11_appeal_147 : decode cX11_appeal 147 = .ok (.putfield 322, 3) := by decide +kernel
theorem dX11_appeal_150 : decode cX11_appeal 150 = .ok (.iconst 1, 1) := by decide +kernel
theorem dX11_appeal_151 : decode cX11_appeal 151 = .ok (.ireturn, 1) := by decide +kernel
theorem dX11_of_0 : decode cX11_of 0 = .ok (.aload_n 0, 1) := by decide +kernel
theorem dX11_of_1 : decode cX11_of 1 = .ok (.iconst 0, 1) := by decide +kernel
theorem dX11_of_2 : decode cX11_of 2 = .ok (.putfield 146, 3) := by decide +kernel
theorem dX11_of_5 : decode cX11_of 5 = .ok (.aload_n 0, 1) := by decide +kernel
theorem dX11_of_6 : decode cX11_of 6 = .ok (.iconst 0, 1) := by decide +kernel
theorem dX11_of_7 : decode cX11_of 7 = .ok (.putfield 149, 3) := by decide +kernel
theorem dX11_of_10 : decode cX11_of 10 = .ok (.aload_n 0, 1) := by decide +kernel
theorem dX11_of_11 : decode cX11_of 11 = .ok (.iload_n 1, 1) := by decide +kernel
theorem dX11_of_12 : decode cX11_of 12 = .ok (.iload_n 2, 1) := by decide +kernel
theorem dX11_of_13 : decode cX11_of 13 = .ok (.invokevirtual 328, 3) := by decide +kernel
theorem dX11_of_16 : decode cX11_of 16 = .ok (.ifCond .eq 11, 3) := by decide +kernel
theorem dX11_of_19 : decode cX11_of 19 = .ok (.aload_n 0, 1) := by decide +kernel
theorem dX11_of_20 : decode cX11_of 20 = .ok (.iload_n 3, 1) := by decide +kernel
theorem dX11_of_21 : decode cX11_of 21 = .ok (.invokevirtual 349, 3) := by decide +kernel
theorem dX11_of_24 : decode cX11_of 24 = .ok (.ifCond .ne 9, 3) := by decide +kernel
theorem dX11_of_27 : decode cX11_of 27 = .ok (.aload_n 0, 1) := by decide +kernel
theorem dX11_of_28 : decode cX11_of 28 = .ok (.iconst 1, 1) := by decide +kernel
theorem dX11_of_29 : decode cX11_of 29 = .ok (.invokevirtual 295, 3) := by decide +kernel
theorem dX11_of_32 : decode cX11_of 32 = .ok (.ireturn, 1) := by decide +kernel
theorem dX11_of_33 : decode cX11_of 33 = .ok (.iload 4, 2) := by decide +kernel
theorem dX11_of_35 : decode cX11_of 35 = .ok (.invokestatic 364, 3) := by decide +kernel
theorem dX11_of_38 : decode cX11_of 38 = .ok (.ifCond .eq 15, 3) := by decide +kernel
theorem dX11_of_41 : decode cX11_of 41 = .ok (.iload 5, 2) := by decide +kernel
theorem dX11_of_43 : decode cX11_of 43 = .ok (.ifCond .lt 10, 3) := by decide +kernel
theorem dX11_of_46 : decode cX11_of 46 = .ok (.iload 5, 2) := by decide +kernel
theorem dX11_of_48 : decode cX11_of 48 = .ok (.bipush 6, 2) := by decide +kernel
theorem dX11_of_50 : decode cX11_of 50 = .ok (.if_icmp .le 9, 3) := by decide +kernel
theorem dX11_of_53 : decode cX11_of 53 = .ok (.aload_n 0, 1) := by decide +kernel
theorem dX11_of_54 : decode cX11_of 54 = .ok (.iconst 2, 1) := by decide +kernel
theorem dX11_of_55 : decode cX11_of 55 = .ok (.invokevirtual 295, 3) := by decide +kernel
theorem dX11_of_58 : decode cX11_of 58 = .ok (.ireturn, 1) := by decide +kernel
theorem dX11_of_59 : decode cX11_of 59 = .ok (.aload_n 0, 1) := by decide +kernel
theorem dX11_of_60 : decode cX11_of 60 = .ok (.iload_n 1, 1) := by decide +kernel
theorem dX11_of_61 : decode cX11_of 61 = .ok (.iload_n 2, 1) := by decide +kernel
theorem dX11_of_62 : decode cX11_of 62 = .ok (.iload_n 3, 1) := by decide +kernel
theorem dX11_of_63 : decode cX11_of 63 = .ok (.iload 4, 2) := by decide +kernel
theorem dX11_of_65 : decode cX11_of 65 = .ok (.invokevirtual 387, 3) := by decide +kernel
theorem dX11_of_68 : decode cX11_of 68 = .ok (.istore 6, 2) := by decide +kernel
theorem dX11_of_70 : decode cX11_of 70 = .ok (.iload 5, 2) := by decide +kernel
theorem dX11_of_72 : decode cX11_of 72 = .ok (.bipush 6, 2) := by decide +kernel
theorem dX11_of_74 : decode cX11_of 74 = .ok (.if_icmp .ne 8, 3) := by decide +kernel
theorem dX11_of_77 : decode cX11_of 77 = .ok (.iload 6, 2) := by decide +kernel
theorem dX11_of_79 : decode cX11_of 79 = .ok (.goto 10, 3) := by decide +kernel
theorem dX11_of_82 : decode cX11_of 82 = .ok (.aload_n 0, 1) := by decide +kernel
theorem dX11_of_83 : decode cX11_of 83 = .ok (.getfield 133, 3) := by decide +kernel
theorem dX11_of_86 : decode cX11_of 86 = .ok (.iload 5, 2) := by decide +kernel
theorem dX11_of_88 : decode cX11_of 88 = .ok (.iaload, 1) := by decide +kernel
theorem dX11_of_89 : decode cX11_of 89 = .ok (.ireturn, 1) := by decide +kernel
theorem dX11_isIn_0 : decode cX11_isIn 0 = .ok (.aload_n 0, 1) := by decide +kernel
theorem dX11_isIn_1 : decode cX11_isIn 1 = .ok (.iload_n 1, 1) := by decide +kernel
theorem dX11_isIn_2 : decode cX11_isIn 2 = .ok (.invokevirtual 325, 3) := by decide +kernel
theorem dX11_isIn_5 : decode cX11_isIn 5 = .ok (.ifCond .eq 29, 3) := by decide +kernel
theorem dX11_isIn_8 : decode cX11_isIn 8 = .ok (.aload_n 0, 1) := by decide +kernel
theorem dX11_isIn_9 : decode cX11_isIn 9 = .ok (.iload_n 2, 1) := by decide +kernel
theorem dX11_isIn_10 : decode cX11_isIn 10 = .ok (.invokevirtual 349, 3) := by decide +kernel
theorem dX11_isIn_13 : decode cX11_isIn 13 = .ok (.ifCond .eq 21, 3) := by decide +kernel
theorem dX11_isIn_16 : decode cX11_isIn 16 = .ok (.aload_n 0, 1) := by decide +kernel
theorem dX11_isIn_17 : decode cX11_isIn 17 = .ok (.getfield 85, 3) := by decide +kernel
theorem dX11_isIn_20 : decode cX11_isIn 20 = .ok (.bipush 16, 2) := by decide +kernel
theorem dX11_isIn_22 : decode cX11_isIn 22 = .ok (.iload_n 1, 1) := by decide +kernel
theorem dX11_isIn_23 : decode cX11_isIn 23 = .ok (.imul, 1) := by decide +kernel
theorem dX11_isIn_24 : decode cX11_isIn 24 = .ok (.iload_n 2, 1) := by decide +kernel
theorem dX11_isIn_25 : decode cX11_isIn 25 = .ok (.iadd, 1) := by decide +kernel
theorem dX11_isIn_26 : decode cX11_isIn 26 = .ok (.baload, 1) := by decide +kernel
theorem dX11_isIn_27 : decode cX11_isIn 27 = .ok (.ifCond .eq 7, 3) := by decide +kernel
theorem dX11_isIn_30 : decode cX11_isIn 30 = .ok (.iconst 1, 1) := by decide +kernel
theorem dX11_isIn_31 : decode cX11_isIn 31 = .ok (.goto 4, 3) := by decide +kernel
theorem dX11_isIn_34 : decode cX11_isIn 34 = .ok (.iconst 0, 1) := by decide +kernel
theorem dX11_isIn_35 : decode cX11_isIn 35 = .ok (.ireturn, 1) := by decide +kernel
theorem dX11_key_0 : decode cX11_key 0 = .ok (.aload_n 0, 1) := by decide +kernel
theorem dX11_key_1 : decode cX11_key 1 = .ok (.iconst 0, 1) := by decide +kernel
theorem dX11_key_2 : decode cX11_key 2 = .ok (.putfield 146, 3) := by decide +kernel
theorem dX11_key_5 : decode cX11_key 5 = .ok (.aload_n 0, 1) := by decide +kernel
theorem dX11_key_6 : decode cX11_key 6 = .ok (.iconst 0, 1) := by decide +kernel
theorem dX11_key_7 : decode cX11_key 7 = .ok (.putfield 149, 3) := by decide +kernel
theorem dX11_key_10 : decode cX11_key 10 = .ok (.aload_n 0, 1) := by decide +kernel
theorem dX11_key_11 : decode cX11_key 11 = .ok (.iload_n 1, 1) := by decide +kernel
theorem dX11_key_12 : decode cX11_key 12 = .ok (.iload_n 2, 1) := by decide +kernel
theorem dX11_key_13 : decode cX11_key 13 = .ok (.invokevirtual 391, 3) := by decide +kernel
theorem dX11_key_16 : decode cX11_key 16 = .ok (.ifCond .eq 17, 3) := by decide +kernel
theorem dX11_key_19 : decode cX11_key 19 = .ok (.iload 4, 2) := by decide +kernel
theorem dX11_key_21 : decode cX11_key 21 = .ok (.ifCond .lt 12, 3) := by decide +kernel
theorem dX11_key_24 : decode cX11_key 24 = .ok (.iload 4, 2) := by decide +kernel
theorem dX11_key_26 : decode cX11_key 26 = .ok (.aload_n 0, 1) := by decide +kernel
theorem dX11_key_27 : decode cX11_key 27 = .ok (.getfield 307, 3) := by decide +kernel
theorem dX11_key_30 : decode cX11_key 30 = .ok (.if_icmp .lt 10, 3) := by decide +kernel
theorem dX11_key_33 : decode cX11_key 33 = .ok (.aload_n 0, 1) := by decide +kernel
theorem dX11_key_34 : decode cX11_key 34 = .ok (.iconst 1, 1) := by decide +kernel
theorem dX11_key_35 : decode cX11_key 35 = .ok (.invokevirtual 295, 3) := by decide +kernel
theorem dX11_key_38 : decode cX11_key 38 = .ok (.i2l, 1) := by decide +kernel
theorem dX11_key_39 : decode cX11_key 39 = .ok (.lreturn, 1) := by decide +kernel
theorem dX11_key_40 : decode cX11_key 40 = .ok (.iload_n 3, 1) := by decide +kernel
theorem dX11_key_41 : decode cX11_key 41 = .ok (.invokestatic 364, 3) := by decide +kernel
theorem dX11_key_44 : decode cX11_key 44 = .ok (.ifCond .ne 10, 3) := by decide +kernel
theorem dX11_key_47 : decode cX11_key 47 = .ok (.aload_n 0, 1) := by decide +kernel
theorem dX11_key_48 : decode cX11_key 48 = .ok (.iconst 2, 1) := by decide +kernel
theorem dX11_key_49 : decode cX11_key 49 = .ok (.invokevirtual 295, 3) := by decide +kernel
theorem dX11_key_52 : decode cX11_key 52 = .ok (.i2l, 1) := by decide +kernel
theorem dX11_key_53 : decode cX11_key 53 = .ok (.lreturn, 1) := by decide +kernel
theorem dX11_key_54 : decode cX11_key 54 = .ok (.aload_n 0, 1) := by decide +kernel
theorem dX11_key_55 : decode cX11_key 55 = .ok (.iload_n 1, 1) := by decide +kernel
theorem dX11_key_56 : decode cX11_key 56 = .ok (.iload_n 2, 1) := by decide +kernel
theorem dX11_key_57 : decode cX11_key 57 = .ok (.iload_n 3, 1) := by decide +kernel
theorem dX11_key_58 : decode cX11_key 58 = .ok (.iload 4, 2) := by decide +kernel
theorem dX11_key_60 : decode cX11_key 60 = .ok (.invokevirtual 393, 3) := by decide +kernel
theorem dX11_key_63 : decode cX11_key 63 = .ok (.lreturn, 1) := by decide +kernel
theorem dX11_rank_0 : decode cX11_rank 0 = .ok (.aload_n 0, 1) := by decide +kernel
theorem dX11_rank_1 : decode cX11_rank 1 = .ok (.iconst 0, 1) := by decide +kernel
theorem dX11_rank_2 : decode cX11_rank 2 = .ok (.putfield 146, 3) := by decide +kernel
theorem dX11_rank_5 : decode cX11_rank 5 = .ok (.aload_n 0, 1) := by decide +kernel
theorem dX11_rank_6 : decode cX11_rank 6 = .ok (.iconst 0, 1) := by decide +kernel
theorem dX11_rank_7 : decode cX11_rank 7 = .ok (.putfield 149, 3) := by decide +kernel
theorem dX11_rank_10 : decode cX11_rank 10 = .ok (.aload_n 0, 1) := by decide +kernel
theorem dX11_rank_11 : decode cX11_rank 11 = .ok (.iload_n 1, 1) := by decide +kernel
theorem dX11_rank_12 : decode cX11_rank 12 = .ok (.iload_n 2, 1) := by decide +kernel
theorem dX11_rank_13 : decode cX11_rank 13 = .ok (.invokevirtual 391, 3) := by decide +kernel
theorem dX11_rank_16 : decode cX11_rank 16 = .ok (.ifCond .ne 9, 3) := by decide +kernel
theorem dX11_rank_19 : decode cX11_rank 19 = .ok (.aload_n 0, 1) := by decide +kernel
theorem dX11_rank_20 : decode cX11_rank 20 = .ok (.iconst 1, 1) := by decide +kernel
theorem dX11_rank_21 : decode cX11_rank 21 = .ok (.invokevirtual 295, 3) := by decide +kernel
theorem dX11_rank_24 : decode cX11_rank 24 = .ok (.ireturn, 1) := by decide +kernel
theorem dX11_rank_25 : decode cX11_rank 25 = .ok (.iload_n 3, 1) := by decide +kernel
theorem dX11_rank_26 : decode cX11_rank 26 = .ok (.invokestatic 364, 3) := by decide +kernel
theorem dX11_rank_29 : decode cX11_rank 29 = .ok (.ifCond .ne 9, 3) := by decide +kernel
theorem dX11_rank_32 : decode cX11_rank 32 = .ok (.aload_n 0, 1) := by decide +kernel
theorem dX11_rank_33 : decode cX11_rank 33 = .ok (.iconst 2, 1) := by decide +kernel
theorem dX11_rank_34 : decode cX11_rank 34 = .ok (.invokevirtual 295, 3) := by decide +kernel
theorem dX11_rank_37 : decode cX11_rank 37 = .ok (.ireturn, 1) := by decide +kernel
theorem dX11_rank_38 : decode cX11_rank 38 = .ok (.aload_n 0, 1) := by decide +kernel
theorem dX11_rank_39 : decode cX11_rank 39 = .ok (.iload_n 1, 1) := by decide +kernel
theorem dX11_rank_40 : decode cX11_rank 40 = .ok (.iload_n 2, 1) := by decide +kernel
theorem dX11_rank_41 : decode cX11_rank 41 = .ok (.iload_n 3, 1) := by decide +kernel
theorem dX11_rank_42 : decode cX11_rank 42 = .ok (.invokevirtual 401, 3) := by decide +kernel
theorem dX11_rank_45 : decode cX11_rank 45 = .ok (.ireturn, 1) := by decide +kernel
theorem dX11_advance_0 : decode cX11_advance 0 = .ok (.aload_n 0, 1) := by decide +kernel
theorem dX11_advance_1 : decode cX11_advance 1 = .ok (.iconst 0, 1) := by decide +kernel
theorem dX11_advance_2 : decode cX11_advance 2 = .ok (.putfield 146, 3) := by decide +kernel
theorem dX11_advance_5 : decode cX11_advance 5 = .ok (.aload_n 0, 1) := by decide +kernel
theorem dX11_advance_6 : decode cX11_advance 6 = .ok (.iconst 0, 1) := by decide +kernel
theorem dX11_advance_7 : decode cX11_advance 7 = .ok (.putfield 149, 3) := by decide +kernel
theorem dX11_advance_10 : decode cX11_advance 10 = .ok (.iload_n 1, 1) := by decide +kernel
theorem dX11_advance_11 : decode cX11_advance 11 = .ok (.iconst 1, 1) := by decide +kernel
theorem dX11_advance_12 : decode cX11_advance 12 = .ok (.if_icmp .lt 16, 3) := by decide +kernel
theorem dX11_advance_15 : decode cX11_advance 15 = .ok (.iload_n 1, 1) := by decide +kernel
theorem dX11_advance_16 : decode cX11_advance 16 = .ok (.bipush 16, 2) := by decide +kernel
theorem dX11_advance_18 : decode cX11_advance 18 = .ok (.if_icmp .gt 10, 3) := by decide +kernel
theorem dX11_advance_21 : decode cX11_advance 21 = .ok (.iload_n 2, 1) := by decide +kernel
theorem dX11_advance_22 : decode cX11_advance 22 = .ok (.invokestatic 364, 3) := by decide +kernel
theorem dX11_advance_25 : decode cX11_advance 25 = .ok (.ifCond .ne 9, 3) := by decide +kernel
theorem dX11_advance_28 : decode cX11_advance 28 = .ok (.aload_n 0, 1) := by decide +kernel
theorem dX11_advance_29 : decode cX11_advance 29 = .ok (.iconst 2, 1) := by decide +kernel
theorem dX11_advance_30 : decode cX11_advance 30 = .ok (.invokevirtual 295, 3) := by decide +kernel
theorem dX11_advance_33 : decode cX11_advance 33 = .ok (.ireturn, 1) := by decide +kernel
theorem dX11_advance_34 : decode cX11_advance 34 = .ok (.iconst 0, 1) := by decide +kernel
theorem dX11_advance_35 : decode cX11_advance 35 = .ok (.istore_n 3, 1) := by decide +kernel
theorem dX11_advance_36 : decode cX11_advance 36 = .ok (.iload_n 3, 1) := by decide +kernel
theorem dX11_advance_37 : decode cX11_advance 37 = .ok (.aload_n 0, 1) := by decide +kernel
theorem dX11_advance_38 : decode cX11_advance 38 = .ok (.getfield 313, 3) := by decide +kernel
theorem dX11_advance_41 : decode cX11_advance 41 = .ok (.if_icmp .ge 23, 3) := by decide +kernel
theorem dX11_advance_44 : decode cX11_advance 44 = .ok (.aload_n 0, 1) := by decide +kernel
theorem dX11_advance_45 : decode cX11_advance 45 = .ok (.iload_n 3, 1) := by decide +kernel
theorem dX11_advance_46 : decode cX11_advance 46 = .ok (.invokevirtual 355, 3) := by decide +kernel
theorem dX11_advance_49 : decode cX11_advance 49 = .ok (.ifCond .lt 9, 3) := by decide +kernel
theorem dX11_advance_52 : decode cX11_advance 52 = .ok (.aload_n 0, 1) := by decide +kernel
theorem dX11_advance_53 : decode cX11_advance 53 = .ok (.iconst 5, 1) := by decide +kernel
theorem dX11_advance_54 : decode cX11_advance 54 = .ok (.invokevirtual 295, 3) := by decide +kernel
theorem dX11_advance_57 : decode cX11_advance 57 = .ok (.ireturn, 1) := by decide +kernel
theorem dX11_advance_58 : decode cX11_advance 58 = .ok (.iinc 3 1, 3) := by decide +kernel
theorem dX11_advance_61 : decode cX11_advance 61 = .ok (.goto (-25), 3) := by decide +kernel
theorem dX11_advance_64 : decode cX11_advance 64 = .ok (.aload_n 0, 1) := by decide +kernel
theorem dX11_advance_65 : decode cX11_advance 65 = .ok (.getfield 82, 3) := by decide +kernel
theorem dX11_advance_68 : decode cX11_advance 68 = .ok (.ifCond .lt 16, 3) := by decide +kernel
theorem dX11_advance_71 : decode cX11_advance 71 = .ok (.aload_n 0, 1) := by decide +kernel
theorem dX11_advance_72 : decode cX11_advance 72 = .ok (.getfield 82, 3) := by decide +kernel
theorem dX11_advance_75 : decode cX11_advance 75 = .ok (.iconst 1, 1) := by decide +kernel
theorem dX11_advance_76 : decode cX11_advance 76 = .ok (.iadd, 1) := by decide +kernel
theorem dX11_advance_77 : decode cX11_advance 77 = .ok (.aload_n 0, 1) := by decide +kernel
theorem dX11_advance_78 : decode cX11_advance 78 = .ok (.getfield 301, 3) := by decide +kernel
theorem dX11_advance_81 : decode cX11_advance 81 = .ok (.if_icmp .lt 10, 3) := by decide +kernel
theorem dX11_advance_84 : decode cX11_advance 84 = .ok (.aload_n 0, 1) := by decide +kernel
theorem dX11_advance_85 : decode cX11_advance 85 = .ok (.bipush 10, 2) := by decide +kernel
theorem dX11_advance_87 : decode cX11_advance 87 = .ok (.invokevirtual 295, 3) := by decide +kernel
theorem dX11_advance_90 : decode cX11_advance 90 = .ok (.ireturn, 1) := by decide +kernel
theorem dX11_advance_91 : decode cX11_advance 91 = .ok (.iconst 0, 1) := by decide +kernel
theorem dX11_advance_92 : decode cX11_advance 92 = .ok (.istore_n 3, 1) := by decide +kernel
theorem dX11_advance_93 : decode cX11_advance 93 = .ok (.iload_n 3, 1) := by decide +kernel
theorem dX11_advance_94 : decode cX11_advance 94 = .ok (.aload_n 0, 1) := by decide +kernel
theorem dX11_advance_95 : decode cX11_advance 95 = .ok (.getfield 313, 3) := by decide +kernel
theorem dX11_advance_98 : decode cX11_advance 98 = .ok (.if_icmp .ge 46, 3) := by decide +kernel
theorem dX11_advance_101 : decode cX11_advance 101 = .ok (.aload_n 0, 1) := by decide +kernel
theorem dX11_advance_102 : decode cX11_advance 102 = .ok (.getfield 140, 3) := by decide +kernel
theorem dX11_advance_105 : decode cX11_advance 105 = .ok (.iload_n 3, 1) := by decide +kernel
theorem dX11_advance_106 : decode cX11_advance 106 = .ok (.aload_n 0, 1) := by decide +kernel
theorem dX11_advance_107 : decode cX11_advance 107 = .ok (.getfield 85, 3) := by decide +kernel
theorem dX11_advance_110 : decode cX11_advance 110 = .ok (.bipush 16, 2) := by decide +kernel
theorem dX11_advance_112 : decode cX11_advance 112 = .ok (.aload_n 0, 1) := by decide +kernel
theorem dX11_advance_113 : decode cX11_advance 113 = .ok (.getfield 82, 3) := by decide +kernel
theorem dX11_advance_116 : decode cX11_advance 116 = .ok (.imul, 1) := by decide +kernel
theorem dX11_advance_117 : decode cX11_advance 117 = .ok (.iload_n 3, 1) := by decide +kernel
theorem dX11_advance_118 : decode cX11_advance 118 = .ok (.iadd, 1) := by decide +kernel
theorem dX11_advance_119 : decode cX11_advance 119 = .ok (.baload, 1) := by decide +kernel
theorem dX11_advance_120 : decode cX11_advance 120 = .ok (.ifCond .eq 16, 3) := by decide +kernel
theorem dX11_advance_123 : decode cX11_advance 123 = .ok (.aload_n 0, 1) := by decide +kernel
theorem dX11_advance_124 : decode cX11_advance 124 = .ok (.aload_n 0, 1) := by decide +kernel
theorem dX11_advance_125 : decode cX11_advance 125 = .ok (.getfield 82, 3) := by decide +kernel
theorem dX11_advance_128 : decode cX11_advance 128 = .ok (.iload_n 3, 1) := by decide +kernel
theorem dX11_advance_129 : decode cX11_advance 129 = .ok (.iload_n 2, 1) := by decide +kernel
theorem dX11_advance_130 : decode cX11_advance 130 = .ok (.invokevirtual 401, 3) := by decide +kernel
theorem dX11_advance_133 : decode cX11_advance 133 = .ok (.goto 4, 3) := by decide +kernel
theorem dX11_advance_136 : decode cX11_advance 136 = .ok (.iconst (-1), 1) := by decide +kernel
theorem dX11_advance_137 : decode cX11_advance 137 = .ok (.iastore, 1) := by decide +kernel
theorem dX11_advance_138 : decode cX11_advance 138 = .ok (.iinc 3 1, 3) := by decide +kernel
theorem dX11_advance_141 : decode cX11_advance 141 = .ok (.goto (-48), 3) := by decide +kernel
theorem dX11_advance_144 : decode cX11_advance 144 = .ok (.aload_n 0, 1) := by decide +kernel
theorem dX11_advance_145 : decode cX11_advance 145 = .ok (.getfield 82, 3) := by decide +kernel
theorem dX11_advance_148 : decode cX11_advance 148 = .ok (.iconst 1, 1) := by decide +kernel
theorem dX11_advance_149 : decode cX11_advance 149 = .ok (.iadd, 1) := by decide +kernel
theorem dX11_advance_150 : decode cX11_advance 150 = .ok (.istore_n 3, 1) := by decide +kernel
theorem dX11_advance_151 : decode cX11_advance 151 = .ok (.iconst 0, 1) := by decide +kernel
theorem dX11_advance_152 : decode cX11_advance 152 = .ok (.istore 4, 2) := by decide +kernel
theorem dX11_advance_154 : decode cX11_advance 154 = .ok (.iload_n 1, 1) := by decide +kernel
theorem dX11_advance_155 : decode cX11_advance 155 = .ok (.istore 5, 2) := by decide +kernel
theorem dX11_advance_157 : decode cX11_advance 157 = .ok (.iload 5, 2) := by decide +kernel
theorem dX11_advance_159 : decode cX11_advance 159 = .ok (.iconst 1, 1) := by decide +kernel
theorem dX11_advance_160 : decode cX11_advance 160 = .ok (.if_icmp .lt 73, 3) := by decide +kernel
theorem dX11_advance_163 : decode cX11_advance 163 = .ok (.aload_n 0, 1) := by decide +kernel
theorem dX11_advance_164 : decode cX11_advance 164 = .ok (.getfield 313, 3) := by decide +kernel
theorem dX11_advance_167 : decode cX11_advance 167 = .ok (.iconst 1, 1) := by decide +kernel
theorem dX11_advance_168 : decode cX11_advance 168 = .ok (.isub, 1) := by decide +kernel
theorem dX11_advance_169 : decode cX11_advance 169 = .ok (.istore 6, 2) := by decide +kernel
theorem dX11_advance_171 : decode cX11_advance 171 = .ok (.iload 6, 2) := by decide +kernel
theorem dX11_advance_173 : decode cX11_advance 173 = .ok (.ifCond .lt 54, 3) := by decide +kernel
theorem dX11_advance_176 : decode cX11_advance 176 = .ok (.aload_n 0, 1) := by decide +kernel
theorem dX11_advance_177 : decode cX11_advance 177 = .ok (.getfield 140, 3) := by decide +kernel
theorem dX11_advance_180 : decode cX11_advance 180 = .ok (.iload 6, 2) := by decide +kernel
theorem dX11_advance_182 : decode cX11_advance 182 = .ok (.iaload, 1) := by decide +kernel
theorem dX11_advance_183 : decode cX11_advance 183 = .ok (.iload 5, 2) := by decide +kernel
theorem dX11_advance_185 : decode cX11_advance 185 = .ok (.if_icmp .eq 6, 3) := by decide +kernel
theorem dX11_advance_188 : decode cX11_advance 188 = .ok (.goto 33, 3) := by decide +kernel
theorem dX11_advance_191 : decode cX11_advance 191 = .ok (.aload_n 0, 1) := by decide +kernel
theorem dX11_advance_192 : decode cX11_advance 192 = .ok (.getfield 85, 3) := by decide +kernel
theorem dX11_advance_195 : decode cX11_advance 195 = .ok (.bipush 16, 2) := by decide +kernel
theorem dX11_advance_197 : decode cX11_advance 197 = .ok (.iload_n 3, 1) := by decide +kernel
theorem dX11_advance_198 : decode cX11_advance 198 = .ok (.imul, 1) := by decide +kernel
theorem dX11_advance_199 : decode cX11_advance 199 = .ok (.iload 6, 2) := by decide +kernel
theorem dX11_advance_201 : decode cX11_advance 201 = .ok (.iadd, 1) := by decide +kernel
theorem dX11_advance_202 : decode cX11_advance 202 = .ok (.iconst 1, 1) := by decide +kernel
theorem dX11_advance_203 : decode cX11_advance 203 = .ok (.bastore, 1) := by decide +kernel
theorem dX11_advance_204 : decode cX11_advance 204 = .ok (.aload_n 0, 1) := by decide +kernel
theorem dX11_advance_205 : decode cX11_advance 205 = .ok (.getfield 88, 3) := by decide +kernel
theorem dX11_advance_208 : decode cX11_advance 208 = .ok (.bipush 16, 2) := by decide +kernel
theorem dX11_advance_210 : decode cX11_advance 210 = .ok (.iload_n 3, 1) := by decide +kernel
theorem dX11_advance_211 : decode cX11_advance 211 = .ok (.imul, 1) := by decide +kernel
theorem dX11_advance_212 : decode cX11_advance 212 = .ok (.iload 4, 2) := by decide +kernel
theorem dX11_advance_214 : decode cX11_advance 214 = .ok (.iadd, 1) := by decide +kernel
theorem dX11_advance_215 : decode cX11_advance 215 = .ok (.iload 6, 2) := by decide +kernel
theorem dX11_advance_217 : decode cX11_advance 217 = .ok (.iastore, 1) := by decide +kernel
theorem dX11_advance_218 : decode cX11_advance 218 = .ok (.iinc 4 1, 3) := by decide +kernel
theorem dX11_advance_221 : decode cX11_advance 221 = .ok (.iinc 6 (-1), 3) := by decide +kernel
theorem dX11_advance_224 : decode cX11_advance 224 = .ok (.goto (-53), 3) := by decide +kernel
theorem dX11_advance_227 : decode cX11_advance 227 = .ok (.iinc 5 (-1), 3) := by decide +kernel
theorem dX11_advance_230 : decode cX11_advance 230 = .ok (.goto (-73), 3) := by decide +kernel
theorem dX11_advance_233 : decode cX11_advance 233 = .ok (.aload_n 0, 1) := by decide +kernel
theorem dX11_advance_234 : decode cX11_advance 234 = .ok (.getfield 91, 3) := by decide +kernel
theorem dX11_advance_237 : decode cX11_advance 237 = .ok (.iload_n 3, 1) := by decide +kernel
theorem dX11_advance_238 : decode cX11_advance 238 = .ok (.iload 4, 2) := by decide +kernel
theorem dX11_advance_240 : decode cX11_advance 240 = .ok (.iastore, 1) := by decide +kernel
theorem dX11_advance_241 : decode cX11_advance 241 = .ok (.aload_n 0, 1) := by decide +kernel
theorem dX11_advance_242 : decode cX11_advance 242 = .ok (.iload_n 3, 1) := by decide +kernel
theorem dX11_advance_243 : decode cX11_advance 243 = .ok (.putfield 82, 3) := by decide +kernel
theorem dX11_advance_246 : decode cX11_advance 246 = .ok (.iconst 0, 1) := by decide +kernel
theorem dX11_advance_247 : decode cX11_advance 247 = .ok (.istore 5, 2) := by decide +kernel
theorem dX11_advance_249 : decode cX11_advance 249 = .ok (.iload 5, 2) := by decide +kernel
theorem dX11_advance_251 : decode cX11_advance 251 = .ok (.aload_n 0, 1) := by decide +kernel
theorem dX11_advance_252 : decode cX11_advance 252 = .ok (.getfield 313, 3) := by decide +kernel
theorem dX11_advance_255 : decode cX11_advance 255 = .ok (.if_icmp .ge 17, 3) := by decide +kernel
theorem dX11_advance_258 : decode cX11_advance 258 = .ok (.aload_n 0, 1) := by decide +kernel
theorem dX11_advance_259 : decode cX11_advance 259 = .ok (.getfield 124, 3) := by decide +kernel
theorem dX11_advance_262 : decode cX11_advance 262 = .ok (.iload 5, 2) := by decide +kernel
theorem dX11_advance_264 : decode cX11_advance 264 = .ok (.iconst 0, 1) := by decide +kernel
theorem dX11_advance_265 : decode cX11_advance 265 = .ok (.iastore, 1) := by decide +kernel
theorem dX11_advance_266 : decode cX11_advance 266 = .ok (.iinc 5 1, 3) := by decide +kernel
theorem dX11_advance_269 : decode cX11_advance 269 = .ok (.goto (-20), 3) := by decide +kernel
theorem dX11_advance_272 : decode cX11_advance 272 = .ok (.iload 4, 2) := by decide +kernel
theorem dX11_advance_274 : decode cX11_advance 274 = .ok (.ireturn, 1) := by decide +kernel
theorem dX11_order_0 : decode cX11_order 0 = .ok (.aload_n 0, 1) := by decide +kernel
theorem dX11_order_1 : decode cX11_order 1 = .ok (.iconst 0, 1) := by decide +kernel
theorem dX11_order_2 : decode cX11_order 2 = .ok (.putfield 146, 3) := by decide +kernel
theorem dX11_order_5 : decode cX11_order 5 = .ok (.aload_n 0, 1) := by decide +kernel
theorem dX11_order_6 : decode cX11_order 6 = .ok (.iconst 0, 1) := by decide +kernel
theorem dX11_order_7 : decode cX11_order 7 = .ok (.putfield 149, 3) := by decide +kernel
theorem dX11_order_10 : decode cX11_order 10 = .ok (.aload_n 0, 1) := by decide +kernel
theorem dX11_order_11 : decode cX11_order 11 = .ok (.iload_n 1, 1) := by decide +kernel
theorem dX11_order_12 : decode cX11_order 12 = .ok (.invokevirtual 325, 3) := by decide +kernel
theorem dX11_order_15 : decode cX11_order 15 = .ok (.ifCond .eq 17, 3) := by decide +kernel
theorem dX11_order_18 : decode cX11_order 18 = .ok (.iload_n 2, 1) := by decide +kernel
theorem dX11_order_19 : decode cX11_order 19 = .ok (.ifCond .lt 13, 3) := by decide +kernel
theorem dX11_order_22 : decode cX11_order 22 = .ok (.iload_n 2, 1) := by decide +kernel
theorem dX11_order_23 : decode cX11_order 23 = .ok (.aload_n 0, 1) := by decide +kernel
theorem dX11_order_24 : decode cX11_order 24 = .ok (.getfield 91, 3) := by decide +kernel
theorem dX11_order_27 : decode cX11_order 27 = .ok (.iload_n 1, 1) := by decide +kernel
theorem dX11_order_28 : decode cX11_order 28 = .ok (.iaload, 1) := by decide +kernel
theorem dX11_order_29 : decode cX11_order 29 = .ok (.if_icmp .lt 9, 3) := by decide +kernel
theorem dX11_order_32 : decode cX11_order 32 = .ok (.aload_n 0, 1) := by decide +kernel
theorem dX11_order_33 : decode cX11_order 33 = .ok (.iconst 1, 1) := by decide +kernel
theorem dX11_order_34 : decode cX11_order 34 = .ok (.invokevirtual 295, 3) := by decide +kernel
theorem dX11_order_37 : decode cX11_order 37 = .ok (.ireturn, 1) := by decide +kernel
theorem dX11_order_38 : decode cX11_order 38 = .ok (.aload_n 0, 1) := by decide +kernel
theorem dX11_order_39 : decode cX11_order 39 = .ok (.getfield 88, 3) := by decide +kernel
theorem dX11_order_42 : decode cX11_order 42 = .ok (.bipush 16, 2) := by decide +kernel
theorem dX11_order_44 : decode cX11_order 44 = .ok (.iload_n 1, 1) := by decide +kernel
theorem dX11_order_45 : decode cX11_order 45 = .ok (.imul, 1) := by decide +kernel
theorem dX11_order_46 : decode cX11_order 46 = .ok (.iload_n 2, 1) := by decide +kernel
theorem dX11_order_47 : decode cX11_order 47 = .ok (.iadd, 1) := by decide +kernel
theorem dX11_order_48 : decode cX11_order 48 = .ok (.iaload, 1) := by decide +kernel
theorem dX11_order_49 : decode cX11_order 49 = .ok (.ireturn, 1) := by decide +kernel
theorem dX11_parts_0 : decode cX11_parts 0 = .ok (.aload_n 0, 1) := by decide +kernel
theorem dX11_parts_1 : decode cX11_parts 1 = .ok (.iconst 0, 1) := by decide +kernel
theorem dX11_parts_2 : decode cX11_parts 2 = .ok (.putfield 146, 3) := by decide +kernel
theorem dX11_parts_5 : decode cX11_parts 5 = .ok (.aload_n 0, 1) := by decide +kernel
theorem dX11_parts_6 : decode cX11_parts 6 = .ok (.iconst 0, 1) := by decide +kernel
theorem dX11_parts_7 : decode cX11_parts 7 = .ok (.putfield 149, 3) := by decide +kernel
theorem dX11_parts_10 : decode cX11_parts 10 = .ok (.aload_n 0, 1) := by decide +kernel
theorem dX11_parts_11 : decode cX11_parts 11 = .ok (.iload_n 1, 1) := by decide +kernel
theorem dX11_parts_12 : decode cX11_parts 12 = .ok (.invokevirtual 325, 3) := by decide +kernel
theorem dX11_parts_15 : decode cX11_parts 15 = .ok (.ifCond .ne 9, 3) := by decide +kernel
theorem dX11_parts_18 : decode cX11_parts 18 = .ok (.aload_n 0, 1) := by decide +kernel
theorem dX11_parts_19 : decode cX11_parts 19 = .ok (.iconst 1, 1) := by decide +kernel
theorem dX11_parts_20 : decode cX11_parts 20 = .ok (.invokevirtual 295, 3) := by decide +kernel
theorem dX11_parts_23 : decode cX11_parts 23 = .ok (.ireturn, 1) := by decide +kernel
theorem dX11_parts_24 : decode cX11_parts 24 = .ok (.iload_n 2, 1) := by decide +kernel
theorem dX11_parts_25 : decode cX11_parts 25 = .ok (.ifCond .lt 22, 3) := by decide +kernel
theorem dX11_parts_28 : decode cX11_parts 28 = .ok (.iload_n 2, 1) := by decide +kernel
theorem dX11_parts_29 : decode cX11_parts 29 = .ok (.iconst 1, 1) := by decide +kernel
theorem dX11_parts_30 : decode cX11_parts 30 = .ok (.aload_n 0, 1) := by decide +kernel
theorem dX11_parts_31 : decode cX11_parts 31 = .ok (.getfield 20, 3) := by decide +kernel
theorem dX11_parts_34 : decode cX11_parts 34 = .ok (.iload_n 1, 1) := by decide +kernel
theorem dX11_parts_35 : decode cX11_parts 35 = .ok (.iaload, 1) := by decide +kernel
theorem dX11_parts_36 : decode cX11_parts 36 = .ok (.ishl, 1) := by decide +kernel
theorem dX11_parts_37 : decode cX11_parts 37 = .ok (.if_icmp .ge 10, 3) := by decide +kernel
theorem dX11_parts_40 : decode cX11_parts 40 = .ok (.iload_n 3, 1) := by decide +kernel
theorem dX11_parts_41 : decode cX11_parts 41 = .ok (.invokestatic 364, 3) := by decide +kernel
theorem dX11_parts_44 : decode cX11_parts 44 = .ok (.ifCond .ne 9, 3) := by decide +kernel
theorem dX11_parts_47 : decode cX11_parts 47 = .ok (.aload_n 0, 1) := by decide +kernel
theorem dX11_parts_48 : decode cX11_parts 48 = .ok (.iconst 2, 1) := by decide +kernel
theorem dX11_parts_49 : decode cX11_parts 49 = .ok (.invokevirtual 295, 3) := by decide +kernel
theorem dX11_parts_52 : decode cX11_parts 52 = .ok (.ireturn, 1) := by decide +kernel
theorem dX11_parts_53 : decode cX11_parts 53 = .ok (.aload_n 0, 1) := by decide +kernel
theorem dX11_parts_54 : decode cX11_parts 54 = .ok (.iload_n 1, 1) := by decide +kernel
theorem dX11_parts_55 : decode cX11_parts 55 = .ok (.iload_n 2, 1) := by decide +kernel
theorem dX11_parts_56 : decode cX11_parts 56 = .ok (.iload_n 3, 1) := by decide +kernel
theorem dX11_parts_57 : decode cX11_parts 57 = .ok (.invokevirtual 405, 3) := by decide +kernel
theorem dX11_parts_60 : decode cX11_parts 60 = .ok (.ireturn, 1) := by decide +kernel
theorem dX11_choose_0 : decode cX11_choose 0 = .ok (.aload_n 0, 1) := by decide +kernel
theorem dX11_choose_1 : decode cX11_choose 1 = .ok (.iconst 0, 1) := by decide +kernel
theorem dX11_choose_2 : decode cX11_choose 2 = .ok (.putfield 146, 3) := by decide +kernel
theorem dX11_choose_5 : decode cX11_choose 5 = .ok (.aload_n 0, 1) := by decide +kernel
theorem dX11_choose_6 : decode cX11_choose 6 = .ok (.iconst 0, 1) := by decide +kernel
theorem dX11_choose_7 : decode cX11_choose 7 = .ok (.putfield 149, 3) := by decide +kernel
theorem dX11_choose_10 : decode cX11_choose 10 = .ok (.aload_n 0, 1) := by decide +kernel
theorem dX11_choose_11 : decode cX11_choose 11 = .ok (.iload_n 1, 1) := by decide +kernel
theorem dX11_choose_12 : decode cX11_choose 12 = .ok (.invokevirtual 325, 3) := by decide +kernel
theorem dX11_choose_15 : decode cX11_choose 15 = .ok (.ifCond .ne 9, 3) := by decide +kernel
theorem dX11_choose_18 : decode cX11_choose 18 = .ok (.aload_n 0, 1) := by decide +kernel
theorem dX11_choose_19 : decode cX11_choose 19 = .ok (.iconst 1, 1) := by decide +kernel
theorem dX11_choose_20 : decode cX11_choose 20 = .ok (.invokevirtual 295, 3) := by decide +kernel
theorem dX11_choose_23 : decode cX11_choose 23 = .ok (.ireturn, 1) := by decide +kernel
theorem dX11_choose_24 : decode cX11_choose 24 = .ok (.iload_n 2, 1) := by decide +kernel
theorem dX11_choose_25 : decode cX11_choose 25 = .ok (.iconst 1, 1) := by decide +kernel
theorem dX11_choose_26 : decode cX11_choose 26 = .ok (.if_icmp .lt 20, 3) := by decide +kernel
theorem dX11_choose_29 : decode cX11_choose 29 = .ok (.iload_n 2, 1) := by decide +kernel
theorem dX11_choose_30 : decode cX11_choose 30 = .ok (.aload_n 0, 1) := by decide +kernel
theorem dX11_choose_31 : decode cX11_choose 31 = .ok (.getfield 20, 3) := by decide +kernel
theorem dX11_choose_34 : decode cX11_choose 34 = .ok (.iload_n 1, 1) := by decide +kernel
theorem dX11_choose_35 : decode cX11_choose 35 = .ok (.iaload, 1) := by decide +kernel
theorem dX11_choose_36 : decode cX11_choose 36 = .ok (.if_icmp .gt 10, 3) := by decide +kernel
theorem dX11_choose_39 : decode cX11_choose 39 = .ok (.iload_n 3, 1) := by decide +kernel
theorem dX11_choose_40 : decode cX11_choose 40 = .ok (.invokestatic 364, 3) := by decide +kernel
theorem dX11_choose_43 : decode cX11_choose 43 = .ok (.ifCond .ne 9, 3) := by decide +kernel
theorem dX11_choose_46 : decode cX11_choose 46 = .ok (.aload_n 0, 1) := by decide +kernel
theorem dX11_choose_47 : decode cX11_choose 47 = .ok (.iconst 2, 1) := by decide +kernel
theorem dX11_choose_48 : decode cX11_choose 48 = .ok (.invokevirtual 295, 3) := by decide +kernel
theorem dX11_choose_51 : decode cX11_choose 51 = .ok (.ireturn, 1) := by decide +kernel
theorem dX11_choose_52 : decode cX11_choose 52 = .ok (.iconst (-1), 1) := by decide +kernel
theorem dX11_choose_53 : decode cX11_choose 53 = .ok (.istore 4, 2) := by decide +kernel
theorem dX11_choose_55 : decode cX11_choose 55 = .ok (.iconst (-1), 1) := by decide +kernel
theorem dX11_choose_56 : decode cX11_choose 56 = .ok (.istore 5, 2) := by decide +kernel
theorem dX11_choose_58 : decode cX11_choose 58 = .ok (.iconst 0, 1) := by decide +kernel
theorem dX11_choose_59 : decode cX11_choose 59 = .ok (.istore 6, 2) := by decide +kernel
theorem dX11_choose_61 : decode cX11_choose 61 = .ok (.iload 6, 2) := by decide +kernel
theorem dX11_choose_63 : decode cX11_choose 63 = .ok (.iconst 1, 1) := by decide +kernel
theorem dX11_choose_64 : decode cX11_choose 64 = .ok (.aload_n 0, 1) := by decide +kernel
theorem dX11_choose_65 : decode cX11_choose 65 = .ok (.getfield 20, 3) := by decide +kernel
theorem dX11_choose_68 : decode cX11_choose 68 = .ok (.iload_n 1, 1) := by decide +kernel
theorem dX11_choose_69 : decode cX11_choose 69 = .ok (.iaload, 1) := by decide +kernel
theorem dX11_choose_70 : decode cX11_choose 70 = .ok (.ishl, 1) := by decide +kernel
theorem dX11_choose_71 : decode cX11_choose 71 = .ok (.if_icmp .ge 49, 3) := by decide +kernel
theorem dX11_choose_74 : decode cX11_choose 74 = .ok (.iload 6, 2) := by decide +kernel
theorem dX11_choose_76 : decode cX11_choose 76 = .ok (.invokestatic 408, 3) := by decide +kernel
theorem dX11_choose_79 : decode cX11_choose 79 = .ok (.iload_n 2, 1) := by decide +kernel
theorem dX11_choose_80 : decode cX11_choose 80 = .ok (.if_icmp .eq 6, 3) := by decide +kernel
theorem dX11_choose_83 : decode cX11_choose 83 = .ok (.goto 31, 3) := by decide +kernel
theorem dX11_choose_86 : decode cX11_choose 86 = .ok (.aload_n 0, 1) := by decide +kernel
theorem dX11_choose_87 : decode cX11_choose 87 = .ok (.iload_n 1, 1) := by decide +kernel
theorem dX11_choose_88 : decode cX11_choose 88 = .ok (.iload 6, 2) := by decide +kernel
theorem dX11_choose_90 : decode cX11_choose 90 = .ok (.iload_n 3, 1) := by decide +kernel
theorem dX11_choose_91 : decode cX11_choose 91 = .ok (.invokevirtual 405, 3) := by decide +kernel
theorem dX11_choose_94 : decode cX11_choose 94 = .ok (.istore 7, 2) := by decide +kernel
theorem dX11_choose_96 : decode cX11_choose 96 = .ok (.iload 7, 2) := by decide +kernel
theorem dX11_choose_98 : decode cX11_choose 98 = .ok (.iload 5, 2) := by decide +kernel
theorem dX11_choose_100 : decode cX11_choose 100 = .ok (.if_icmp .gt 6, 3) := by decide +kernel
theorem dX11_choose_103 : decode cX11_choose 103 = .ok (.goto 11, 3) := by decide +kernel
theorem dX11_choose_106 : decode cX11_choose 106 = .ok (.iload 7, 2) := by decide +kernel
theorem dX11_choose_108 : decode cX11_choose 108 = .ok (.istore 5, 2) := by decide +kernel
theorem dX11_choose_110 : decode cX11_choose 110 = .ok (.iload 6, 2) := by decide +kernel
theorem dX11_choose_112 : decode cX11_choose 112 = .ok (.istore 4, 2) := by decide +kernel
theorem dX11_choose_114 : decode cX11_choose 114 = .ok (.iinc 6 1, 3) := by decide +kernel
theorem dX11_choose_117 : decode cX11_choose 117 = .ok (.goto (-56), 3) := by decide +kernel
theorem dX11_choose_120 : decode cX11_choose 120 = .ok (.iload 4, 2) := by decide +kernel
theorem dX11_choose_122 : decode cX11_choose 122 = .ok (.ireturn, 1) := by decide +kernel
