theorem dX11_look_0 : decode cX11_look 0 = .ok (.iload_n 1, 1) := by decide +kernel
theorem dX11_look_1 : decode cX11_look 1 = .ok (.aload_n 0, 1) := by decide +kernel
theorem dX11_look_2 : decode cX11_look 2 = .ok (.getfield 152, 3) := by decide +kernel
theorem dX11_look_5 : decode cX11_look 5 = .ok (.if_icmp .ge 16, 3) := by decide +kernel
theorem dX11_look_8 : decode cX11_look 8 = .ok (.aload_n 0, 1) := by decide +kernel
theorem dX11_look_9 : decode cX11_look 9 = .ok (.getfield 7, 3) := by decide +kernel
theorem dX11_look_12 : decode cX11_look 12 = .ok (.iload_n 1, 1) := by decide +kernel
theorem dX11_look_13 : decode cX11_look 13 = .ok (.baload, 1) := by decide +kernel
theorem dX11_look_14 : decode cX11_look 14 = .ok (.sipush 255, 3) := by decide +kernel
theorem dX11_look_17 : decode cX11_look 17 = .ok (.iand, 1) := by decide +kernel
theorem dX11_look_18 : decode cX11_look 18 = .ok (.goto 4, 3) := by decide +kernel
theorem dX11_look_21 : decode cX11_look 21 = .ok (.iconst 0, 1) := by decide +kernel
theorem dX11_look_22 : decode cX11_look 22 = .ok (.ireturn, 1) := by decide +kernel
theorem dX11_isLetter_0 : decode cX11_isLetter 0 = .ok (.iload_n 0, 1) := by decide +kernel
theorem dX11_isLetter_1 : decode cX11_isLetter 1 = .ok (.bipush 97, 2) := by decide +kernel
theorem dX11_isLetter_3 : decode cX11_isLetter 3 = .ok (.if_icmp .lt 13, 3) := by decide +kernel
theorem dX11_isLetter_6 : decode cX11_isLetter 6 = .ok (.iload_n 0, 1) := by decide +kernel
theorem dX11_isLetter_7 : decode cX11_isLetter 7 = .ok (.bipush 122, 2) := by decide +kernel
theorem dX11_isLetter_9 : decode cX11_isLetter 9 = .ok (.if_icmp .gt 7, 3) := by decide +kernel
theorem dX11_isLetter_12 : decode cX11_isLetter 12 = .ok (.iconst 1, 1) := by decide +kernel
theorem dX11_isLetter_13 : decode cX11_isLetter 13 = .ok (.goto 4, 3) := by decide +kernel
theorem dX11_isLetter_16 : decode cX11_isLetter 16 = .ok (.iconst 0, 1) := by decide +kernel
theorem dX11_isLetter_17 : decode cX11_isLetter 17 = .ok (.ireturn, 1) := by decide +kernel
theorem dX11_isDigit_0 : decode cX11_isDigit 0 = .ok (.iload_n 0, 1) := by decide +kernel
theorem dX11_isDigit_1 : decode cX11_isDigit 1 = .ok (.bipush 48, 2) := by decide +kernel
theorem dX11_isDigit_3 : decode cX11_isDigit 3 = .ok (.if_icmp .lt 13, 3) := by decide +kernel
theorem dX11_isDigit_6 : decode cX11_isDigit 6 = .ok (.iload_n 0, 1) := by decide +kernel
theorem dX11_isDigit_7 : decode cX11_isDigit 7 = .ok (.bipush 57, 2) := by decide +kernel
theorem dX11_isDigit_9 : decode cX11_isDigit 9 = .ok (.if_icmp .gt 7, 3) := by decide +kernel
theorem dX11_isDigit_12 : decode cX11_isDigit 12 = .ok (.iconst 1, 1) := by decide +kernel
theorem dX11_isDigit_13 : decode cX11_isDigit 13 = .ok (.goto 4, 3) := by decide +kernel
theorem dX11_isDigit_16 : decode cX11_isDigit 16 = .ok (.iconst 0, 1) := by decide +kernel
theorem dX11_isDigit_17 : decode cX11_isDigit 17 = .ok (.ireturn, 1) := by decide +kernel
theorem dX11_next_0 : decode cX11_next 0 = .ok (.aload_n 0, 1) := by decide +kernel
theorem dX11_next_1 : decode cX11_next 1 = .ok (.aload_n 0, 1) := by decide +kernel
theorem dX11_next_2 : decode cX11_next 2 = .ok (.getfield 155, 3) := by decide +kernel
theorem dX11_next_5 : decode cX11_next 5 = .ok (.putfield 158, 3) := by decide +kernel
theorem dX11_next_8 : decode cX11_next 8 = .ok (.aload_n 0, 1) := by decide +kernel
theorem dX11_next_9 : decode cX11_next 9 = .ok (.getfield 158, 3) := by decide +kernel
theorem dX11_next_12 : decode cX11_next 12 = .ok (.aload_n 0, 1) := by decide +kernel
theorem dX11_next_13 : decode cX11_next 13 = .ok (.getfield 152, 3) := by decide +kernel
theorem dX11_next_16 : decode cX11_next 16 = .ok (.if_icmp .ge 42, 3) := by decide +kernel
theorem dX11_next_19 : decode cX11_next 19 = .ok (.aload_n 0, 1) := by decide +kernel
theorem dX11_next_20 : decode cX11_next 20 = .ok (.aload_n 0, 1) := by decide +kernel
theorem dX11_next_21 : decode cX11_next 21 = .ok (.getfield 158, 3) := by decide +kernel
theorem dX11_next_24 : decode cX11_next 24 = .ok (.invokevirtual 161, 3) := by decide +kernel
theorem dX11_next_27 : decode cX11_next 27 = .ok (.bipush 10, 2) := by decide +kernel
theorem dX11_next_29 : decode cX11_next 29 = .ok (.if_icmp .eq 16, 3) := by decide +kernel
theorem dX11_next_32 : decode cX11_next 32 = .ok (.aload_n 0, 1) := by decide +kernel
theorem dX11_next_33 : decode cX11_next 33 = .ok (.aload_n 0, 1) := by decide +kernel
theorem dX11_next_34 : decode cX11_next 34 = .ok (.getfield 158, 3) := by decide +kernel
theorem dX11_next_37 : decode cX11_next 37 = .ok (.invokevirtual 161, 3) := by decide +kernel
theorem dX11_next_40 : decode cX11_next 40 = .ok (.bipush 32, 2) := by decide +kernel
theorem dX11_next_42 : decode cX11_next 42 = .ok (.if_icmp .ne 16, 3) := by decide +kernel
theorem dX11_next_45 : decode cX11_next 45 = .ok (.aload_n 0, 1) := by decide +kernel
theorem dX11_next_46 : decode cX11_next 46 = .ok (.dup, 1) := by decide +kernel
theorem dX11_next_47 : decode cX11_next 47 = .ok (.getfield 158, 3) := by decide +kernel
theorem dX11_next_50 : decode cX11_next 50 = .ok (.iconst 1, 1) := by decide +kernel
theorem dX11_next_51 : decode cX11_next 51 = .ok (.iadd, 1) := by decide +kernel
theorem dX11_next_52 : decode cX11_next 52 = .ok (.putfield 158, 3) := by decide +kernel
theorem dX11_next_55 : decode cX11_next 55 = .ok (.goto (-47), 3) := by decide +kernel
theorem dX11_next_58 : decode cX11_next 58 = .ok (.aload_n 0, 1) := by decide +kernel
theorem dX11_next_59 : decode cX11_next 59 = .ok (.aload_n 0, 1) := by decide +kernel
theorem dX11_next_60 : decode cX11_next 60 = .ok (.getfield 158, 3) := by decide +kernel
theorem dX11_next_63 : decode cX11_next 63 = .ok (.putfield 155, 3) := by decide +kernel
theorem dX11_next_66 : decode cX11_next 66 = .ok (.aload_n 0, 1) := by decide +kernel
theorem dX11_next_67 : decode cX11_next 67 = .ok (.getfield 158, 3) := by decide +kernel
theorem dX11_next_70 : decode cX11_next 70 = .ok (.aload_n 0, 1) := by decide +kernel
theorem dX11_next_71 : decode cX11_next 71 = .ok (.getfield 152, 3) := by decide +kernel
theorem dX11_next_74 : decode cX11_next 74 = .ok (.if_icmp .lt 9, 3) := by decide +kernel
theorem dX11_next_77 : decode cX11_next 77 = .ok (.aload_n 0, 1) := by decide +kernel
theorem dX11_next_78 : decode cX11_next 78 = .ok (.iconst 0, 1) := by decide +kernel
theorem dX11_next_79 : decode cX11_next 79 = .ok (.putfield 165, 3) := by decide +kernel
theorem dX11_next_82 : decode cX11_next 82 = .ok (.return_, 1) := by decide +kernel
theorem dX11_next_83 : decode cX11_next 83 = .ok (.aload_n 0, 1) := by decide +kernel
theorem dX11_next_84 : decode cX11_next 84 = .ok (.aload_n 0, 1) := by decide +kernel
theorem dX11_next_85 : decode cX11_next 85 = .ok (.getfield 158, 3) := by decide +kernel
theorem dX11_next_88 : decode cX11_next 88 = .ok (.invokevirtual 161, 3) := by decide +kernel
theorem dX11_next_91 : decode cX11_next 91 = .ok (.istore_n 1, 1) := by decide +kernel
theorem dX11_next_92 : decode cX11_next 92 = .ok (.iload_n 1, 1) := by decide +kernel
theorem dX11_next_93 : decode cX11_next 93 = .ok (.invokestatic 168, 3) := by decide +kernel
theorem dX11_next_96 : decode cX11_next 96 = .ok (.ifCond .eq 86, 3) := by decide +kernel
theorem dX11_next_99 : decode cX11_next 99 = .ok (.aload_n 0, 1) := by decide +kernel
theorem dX11_next_100 : decode cX11_next 100 = .ok (.iconst 1, 1) := by decide +kernel
theorem dX11_next_101 : decode cX11_next 101 = .ok (.putfield 165, 3) := by decide +kernel
theorem dX11_next_104 : decode cX11_next 104 = .ok (.aload_n 0, 1) := by decide +kernel
theorem dX11_next_105 : decode cX11_next 105 = .ok (.lconst 0, 1) := by decide +kernel
theorem dX11_next_106 : decode cX11_next 106 = .ok (.putfield 172, 3) := by decide +kernel
theorem dX11_next_109 : decode cX11_next 109 = .ok (.aload_n 0, 1) := by decide +kernel
theorem dX11_next_110 : decode cX11_next 110 = .ok (.aload_n 0, 1) := by decide +kernel
theorem dX11_next_111 : decode cX11_next 111 = .ok (.getfield 155, 3) := by decide +kernel
theorem dX11_next_114 : decode cX11_next 114 = .ok (.invokevirtual 161, 3) := by decide +kernel
theorem dX11_next_117 : decode cX11_next 117 = .ok (.invokestatic 168, 3) := by decide +kernel
theorem dX11_next_120 : decode cX11_next 120 = .ok (.ifCond .eq 230, 3) := by decide +kernel
theorem dX11_next_123 : decode cX11_next 123 = .ok (.aload_n 0, 1) := by decide +kernel
theorem dX11_next_124 : decode cX11_next 124 = .ok (.aload_n 0, 1) := by decide +kernel
theorem dX11_next_125 : decode cX11_next 125 = .ok (.getfield 155, 3) := by decide +kernel
theorem dX11_next_128 : decode cX11_next 128 = .ok (.aload_n 0, 1) := by decide +kernel
theorem dX11_next_129 : decode cX11_next 129 = .ok (.getfield 158, 3) := by decide +kernel
theorem dX11_next_132 : decode cX11_next 132 = .ok (.isub, 1) := by decide +kernel
theorem dX11_next_133 : decode cX11_next 133 = .ok (.bipush 12, 2) := by decide +kernel
theorem dX11_next_135 : decode cX11_next 135 = .ok (.if_icmp .ge 28, 3) := by decide +kernel
theorem dX11_next_138 : decode cX11_next 138 = .ok (.aload_n 0, 1) := by decide +kernel
theorem dX11_next_139 : decode cX11_next 139 = .ok (.getfield 172, 3) := by decide +kernel
theorem dX11_next_142 : decode cX11_next 142 = .ok (.ldc2_w 176, 3) := by decide +kernel
theorem dX11_next_145 : decode cX11_next 145 = .ok (.lmul, 1) := by decide +kernel
theorem dX11_next_146 : decode cX11_next 146 = .ok (.aload_n 0, 1) := by decide +kernel
theorem dX11_next_147 : decode cX11_next 147 = .ok (.aload_n 0, 1) := by decide +kernel
theorem dX11_next_148 : decode cX11_next 148 = .ok (.getfield 155, 3) := by decide +kernel
theorem dX11_next_151 : decode cX11_next 151 = .ok (.invokevirtual 161, 3) := by decide +kernel
theorem dX11_next_154 : decode cX11_next 154 = .ok (.i2l, 1) := by decide +kernel
theorem dX11_next_155 : decode cX11_next 155 = .ok (.ladd, 1) := by decide +kernel
theorem dX11_next_156 : decode cX11_next 156 = .ok (.ldc2_w 178, 3) := by decide +kernel
theorem dX11_next_159 : decode cX11_next 159 = .ok (.lsub, 1) := by decide +kernel
theorem dX11_next_160 : decode cX11_next 160 = .ok (.goto 6, 3) := by decide +kernel
theorem dX11_next_163 : decode cX11_next 163 = .ok (.ldc2_w 180, 3) := by decide +kernel
theorem dX11_next_166 : decode cX11_next 166 = .ok (.putfield 172, 3) := by decide +kernel
theorem dX11_next_169 : decode cX11_next 169 = .ok (.aload_n 0, 1) := by decide +kernel
theorem dX11_next_170 : decode cX11_next 170 = .ok (.dup, 1) := by decide +kernel
theorem dX11_next_171 : decode cX11_next 171 = .ok (.getfield 155, 3) := by decide +kernel
theorem dX11_next_174 : decode cX11_next 174 = .ok (.iconst 1, 1) := by decide +kernel
theorem dX11_next_175 : decode cX11_next 175 = .ok (.iadd, 1) := by decide +kernel
theorem dX11_next_176 : decode cX11_next 176 = .ok (.putfield 155, 3) := by decide +kernel
theorem dX11_next_179 : decode cX11_next 179 = .ok (.goto (-70), 3) := by decide +kernel
theorem dX11_next_182 : decode cX11_next 182 = .ok (.iload_n 1, 1) := by decide +kernel
theorem dX11_next_183 : decode cX11_next 183 = .ok (.invokestatic 182, 3) := by decide +kernel
theorem dX11_next_186 : decode cX11_next 186 = .ok (.ifCond .eq 98, 3) := by decide +kernel
theorem dX11_next_189 : decode cX11_next 189 = .ok (.aload_n 0, 1) := by decide +kernel
theorem dX11_next_190 : decode cX11_next 190 = .ok (.iconst 0, 1) := by decide +kernel
theorem dX11_next_191 : decode cX11_next 191 = .ok (.putfield 185, 3) := by decide +kernel
theorem dX11_next_194 : decode cX11_next 194 = .ok (.aload_n 0, 1) := by decide +kernel
theorem dX11_next_195 : decode cX11_next 195 = .ok (.aload_n 0, 1) := by decide +kernel
theorem dX11_next_196 : decode cX11_next 196 = .ok (.getfield 155, 3) := by decide +kernel
theorem dX11_next_199 : decode cX11_next 199 = .ok (.invokevirtual 161, 3) := by decide +kernel
theorem dX11_next_202 : decode cX11_next 202 = .ok (.invokestatic 182, 3) := by decide +kernel
theorem dX11_next_205 : decode cX11_next 205 = .ok (.ifCond .eq 53, 3) := by decide +kernel
theorem dX11_next_208 : decode cX11_next 208 = .ok (.aload_n 0, 1) := by decide +kernel
theorem dX11_next_209 : decode cX11_next 209 = .ok (.getfield 155, 3) := by decide +kernel
theorem dX11_next_212 : decode cX11_next 212 = .ok (.aload_n 0, 1) := by decide +kernel
theorem dX11_next_213 : decode cX11_next 213 = .ok (.getfield 158, 3) := by decide +kernel
theorem dX11_next_216 : decode cX11_next 216 = .ok (.isub, 1) := by decide +kernel
theorem dX11_next_217 : decode cX11_next 217 = .ok (.bipush 6, 2) := by decide +kernel
theorem dX11_next_219 : decode cX11_next 219 = .ok (.if_icmp .ge 26, 3) := by decide +kernel
theorem dX11_next_222 : decode cX11_next 222 = .ok (.aload_n 0, 1) := by decide +kernel
theorem dX11_next_223 : decode cX11_next 223 = .ok (.bipush 10, 2) := by decide +kernel
theorem dX11_next_225 : decode cX11_next 225 = .ok (.aload_n 0, 1) := by decide +kernel
theorem dX11_next_226 : decode cX11_next 226 = .ok (.getfield 185, 3) := by decide +kernel
theorem dX11_next_229 : decode cX11_next 229 = .ok (.imul, 1) := by decide +kernel
theorem dX11_next_230 : decode cX11_next 230 = .ok (.aload_n 0, 1) := by decide +kernel
theorem dX11_next_231 : decode cX11_next 231 = .ok (.aload_n 0, 1) := by decide +kernel
theorem dX11_next_232 : decode cX11_next 232 = .ok (.getfield 155, 3) := by decide +kernel
theorem dX11_next_235 : decode cX11_next 235 = .ok (.invokevirtual 161, 3) := by decide +kernel
theorem dX11_next_238 : decode cX11_next 238 = .ok (.iadd, 1) := by decide +kernel
theorem dX11_next_239 : decode cX11_next 239 = .ok (.bipush 48, 2) := by decide +kernel
theorem dX11_next_241 : decode cX11_next 241 = .ok (.isub, 1) := by decide +kernel
theorem dX11_next_242 : decode cX11_next 242 = .ok (.putfield 185, 3) := by decide +kernel
theorem dX11_next_245 : decode cX11_next 245 = .ok (.aload_n 0, 1) := by decide +kernel
theorem dX11_next_246 : decode cX11_next 246 = .ok (.dup, 1) := by decide +kernel
theorem dX11_next_247 : decode cX11_next 247 = .ok (.getfield 155, 3) := by decide +kernel
theorem dX11_next_250 : decode cX11_next 250 = .ok (.iconst 1, 1) := by decide +kernel
theorem dX11_next_251 : decode cX11_next 251 = .ok (.iadd, 1) := by decide +kernel
theorem dX11_next_252 : decode cX11_next 252 = .ok (.putfield 155, 3) := by decide +kernel
theorem dX11_next_255 : decode cX11_next 255 = .ok (.goto (-61), 3) := by decide +kernel
theorem dX11_next_258 : decode cX11_next 258 = .ok (.aload_n 0, 1) := by decide +kernel
theorem dX11_next_259 : decode cX11_next 259 = .ok (.aload_n 0, 1) := by decide +kernel
theorem dX11_next_260 : decode cX11_next 260 = .ok (.getfield 155, 3) := by decide +kernel
theorem dX11_next_263 : decode cX11_next 263 = .ok (.aload_n 0, 1) := by decide +kernel
theorem dX11_next_264 : decode cX11_next 264 = .ok (.getfield 158, 3) := by decide +kernel
theorem dX11_next_267 : decode cX11_next 267 = .ok (.isub, 1) := by decide +kernel
theorem dX11_next_268 : decode cX11_next 268 = .ok (.bipush 6, 2) := by decide +kernel
theorem dX11_next_270 : decode cX11_next 270 = .ok (.if_icmp .le 7, 3) := by decide +kernel
theorem dX11_next_273 : decode cX11_next 273 = .ok (.iconst 4, 1) := by decide +kernel
theorem dX11_next_274 : decode cX11_next 274 = .ok (.goto 4, 3) := by decide +kernel
theorem dX11_next_277 : decode cX11_next 277 = .ok (.iconst 2, 1) := by decide +kernel
theorem dX11_next_278 : decode cX11_next 278 = .ok (.putfield 165, 3) := by decide +kernel
theorem dX11_next_281 : decode cX11_next 281 = .ok (.goto 69, 3) := by decide +kernel
theorem dX11_next_284 : decode cX11_next 284 = .ok (.aload_n 0, 1) := by decide +kernel
theorem dX11_next_285 : decode cX11_next 285 = .ok (.aload_n 0, 1) := by decide +kernel
theorem dX11_next_286 : decode cX11_next 286 = .ok (.getfield 158, 3) := by decide +kernel
theorem dX11_next_289 : decode cX11_next 289 = .ok (.iconst 1, 1) := by decide +kernel
theorem dX11_next_290 : decode cX11_next 290 = .ok (.iadd, 1) := by decide +kernel
theorem dX11_next_291 : decode cX11_next 291 = .ok (.putfield 155, 3) := by decide +kernel
theorem dX11_next_294 : decode cX11_next 294 = .ok (.aload_n 0, 1) := by decide +kernel
theorem dX11_next_295 : decode cX11_next 295 = .ok (.iload_n 1, 1) := by decide +kernel
theorem dX11_next_296 : decode cX11_next 296 = .ok (.putfield 185, 3) := by decide +kernel
theorem dX11_next_299 : decode cX11_next 299 = .ok (.aload_n 0, 1) := by decide +kernel
theorem dX11_next_300 : decode cX11_next 300 = .ok (.iload_n 1, 1) := by decide +kernel
theorem dX11_next_301 : decode cX11_next 301 = .ok (.bipush 43, 2) := by decide +kernel
theorem dX11_next_303 : decode cX11_next 303 = .ok (.if_icmp .eq 39, 3) := by decide +kernel
theorem dX11_next_306 : decode cX11_next 306 = .ok (.iload_n 1, 1) := by decide +kernel
theorem dX11_next_307 : decode cX11_next 307 = .ok (.bipush 45, 2) := by decide +kernel
theorem dX11_next_309 : decode cX11_next 309 = .ok (.if_icmp .eq 33, 3) := by decide +kernel
theorem dX11_next_312 : decode cX11_next 312 = .ok (.iload_n 1, 1) := by decide +kernel
theorem dX11_next_313 : decode cX11_next 313 = .ok (.bipush 42, 2) := by decide +kernel
theorem dX11_next_315 : decode cX11_next 315 = .ok (.if_icmp .eq 27, 3) := by decide +kernel
theorem dX11_next_318 : decode cX11_next 318 = .ok (.iload_n 1, 1) := by decide +kernel
theorem dX11_next_319 : decode cX11_next 319 = .ok (.bipush 40, 2) := by decide +kernel
theorem dX11_next_321 : decode cX11_next 321 = .ok (.if_icmp .eq 21, 3) := by decide +kernel
theorem dX11_next_324 : decode cX11_next 324 = .ok (.iload_n 1, 1) := by decide +kernel
theorem dX11_next_325 : decode cX11_next 325 = .ok (.bipush 41, 2) := by decide +kernel
theorem dX11_next_327 : decode cX11_next 327 = .ok (.if_icmp .eq 15, 3) := by decide +kernel
theorem dX11_next_330 : decode cX11_next 330 = .ok (.iload_n 1, 1) := by decide +kernel
theorem dX11_next_331 : decode cX11_next 331 = .ok (.bipush 44, 2) := by decide +kernel
theorem dX11_next_333 : decode cX11_next 333 = .ok (.if_icmp .eq 9, 3) := by decide +kernel
theorem dX11_next_336 : decode cX11_next 336 = .ok (.iload_n 1, 1) := by decide +kernel
theorem dX11_next_337 : decode cX11_next 337 = .ok (.bipush 59, 2) := by decide +kernel
theorem dX11_next_339 : decode cX11_next 339 = .ok (.if_icmp .ne 7, 3) := by decide +kernel
theorem dX11_next_342 : decode cX11_next 342 = .ok (.iconst 3, 1) := by decide +kernel
theorem dX11_next_343 : decode cX11_next 343 = .ok (.goto 4, 3) := by decide +kernel
theorem dX11_next_346 : decode cX11_next 346 = .ok (.iconst 4, 1) := by decide +kernel
theorem dX11_next_347 : decode cX11_next 347 = .ok (.putfield 165, 3) := by decide +kernel
theorem dX11_next_350 : decode cX11_next 350 = .ok (.return_, 1) := by decide +kernel
theorem dX11_spelled_0 : decode cX11_spelled 0 = .ok (.iload_n 0, 1) := by decide +kernel
theorem dX11_spelled_1 : decode cX11_spelled 1 = .ok (.i2l, 1) := by decide +kernel
theorem dX11_spelled_2 : decode cX11_spelled 2 = .ok (.ldc2_w 178, 3) := by decide +kernel
theorem dX11_spelled_5 : decode cX11_spelled 5 = .ok (.lsub, 1) := by decide +kernel
theorem dX11_spelled_6 : decode cX11_spelled 6 = .ok (.lstore 7, 2) := by decide +kernel
theorem dX11_spelled_8 : decode cX11_spelled 8 = .ok (.iload_n 1, 1) := by decide +kernel
theorem dX11_spelled_9 : decode cX11_spelled 9 = .ok (.ifCond .le 19, 3) := by decide +kernel
theorem dX11_spelled_12 : decode cX11_spelled 12 = .ok (.lload 7, 2) := by decide +kernel
theorem dX11_spelled_14 : decode cX11_spelled 14 = .ok (.ldc2_w 176, 3) := by decide +kernel
theorem dX11_spelled_17 : decode cX11_spelled 17 = .ok (.lmul, 1) := by decide +kernel
theorem dX11_spelled_18 : decode cX11_spelled 18 = .ok (.iload_n 1, 1) := by decide +kernel
theorem dX11_spelled_19 : decode cX11_spelled 19 = .ok (.i2l, 1) := by decide +kernel
theorem dX11_spelled_20 : decode cX11_spelled 20 = .ok (.ladd, 1) := by decide +kernel
theorem dX11_spelled_21 : decode cX11_spelled 21 = .ok (.ldc2_w 178, 3) := by decide +kernel
theorem dX11_spelled_24 : decode cX11_spelled 24 = .ok (.lsub, 1) := by decide +kernel
theorem dX11_spelled_25 : decode cX11_spelled 25 = .ok (.goto 5, 3) := by decide +kernel
theorem dX11_spelled_28 : decode cX11_spelled 28 = .ok (.lload 7, 2) := by decide +kernel
theorem dX11_spelled_30 : decode cX11_spelled 30 = .ok (.lstore 7, 2) := by decide +kernel
theorem dX11_spelled_32 : decode cX11_spelled 32 = .ok (.iload_n 2, 1) := by decide +kernel
theorem dX11_spelled_33 : decode cX11_spelled 33 = .ok (.ifCond .le 19, 3) := by decide +kernel
theorem dX11_spelled_36 : decode cX11_spelled 36 = .ok (.lload 7, 2) := by decide +kernel
theorem dX11_spelled_38 : decode cX11_spelled 38 = .ok (.ldc2_w 176, 3) := by decide +kernel
theorem dX11_spelled_41 : decode cX11_spelled 41 = .ok (.lmul, 1) := by decide +kernel
theorem dX11_spelled_42 : decode cX11_spelled 42 = .ok (.iload_n 2, 1) := by decide +kernel
theorem dX11_spelled_43 : decode cX11_spelled 43 = .ok (.i2l, 1) := by decide +kernel
theorem dX11_spelled_44 : decode cX11_spelled 44 = .ok (.ladd, 1) := by decide +kernel
theorem dX11_spelled_45 : decode cX11_spelled 45 = .ok (.ldc2_w 178, 3) := by decide +kernel
theorem dX11_spelled_48 : decode cX11_spelled 48 = .ok (.lsub, 1) := by decide +kernel
theorem dX11_spelled_49 : decode cX11_spelled 49 = .ok (.goto 5, 3) := by decide +kernel
theorem dX11_spelled_52 : decode cX11_spelled 52 = .ok (.lload 7, 2) := by decide +kernel
theorem dX11_spelled_54 : decode cX11_spelled 54 = .ok (.lstore 7, 2) := by decide +kernel
theorem dX11_spelled_56 : decode cX11_spelled 56 = .ok (.iload_n 3, 1) := by decide +kernel
theorem dX11_spelled_57 : decode cX11_spelled 57 = .ok (.ifCond .le 19, 3) := by decide +kernel
theorem dX11_spelled_60 : decode cX11_spelled 60 = .ok (.lload 7, 2) := by decide +kernel
theorem dX11_spelled_62 : decode cX11_spelled 62 = .ok (.ldc2_w 176, 3) := by decide +kernel
theorem dX11_spelled_65 : decode cX11_spelled 65 = .ok (.lmul, 1) := by decide +kernel
theorem dX11_spelled_66 : decode cX11_spelled 66 = .ok (.iload_n 3, 1) := by decide +kernel
theorem dX11_spelled_67 : decode cX11_spelled 67 = .ok (.i2l, 1) := by decide +kernel
theorem dX11_spelled_68 : decode cX11_spelled 68 = .ok (.ladd, 1) := by decide +kernel
theorem dX11_spelled_69 : decode cX11_spelled 69 = .ok (.ldc2_w 178, 3) := by decide +kernel
theorem dX11_spelled_72 : decode cX11_spelled 72 = .ok (.lsub, 1) := by decide +kernel
theorem dX11_spelled_73 : decode cX11_spelled 73 = .ok (.goto 5, 3) := by decide +kernel
theorem dX11_spelled_76 : decode cX11_spelled 76 = .ok (.lload 7, 2) := by decide +kernel
theorem dX11_spelled_78 : decode cX11_spelled 78 = .ok (.lstore 7, 2) := by decide +kernel
theorem dX11_spelled_80 : decode cX11_spelled 80 = .ok (.iload 4, 2) := by decide +kernel
theorem dX11_spelled_82 : decode cX11_spelled 82 = .ok (.ifCond .le 20, 3) := by decide +kernel
theorem dX11_spelled_85 : decode cX11_spelled 85 = .ok (.lload 7, 2) := by decide +kernel
theorem dX11_spelled_87 : decode cX11_spelled 87 = .ok (.ldc2_w 176, 3) := by decide +kernel
theorem dX11_spelled_90 : decode cX11_spelled 90 = .ok (.lmul, 1) := by decide +kernel
theorem dX11_spelled_91 : decode cX11_spelled 91 = .ok (.iload 4, 2) := by decide +kernel
theorem dX11_spelled_93 : decode cX11_spelled 93 = .ok (.i2l, 1) := by decide +kernel
theorem dX11_spelled_94 : decode cX11_spelled 94 = .ok (.ladd, 1) := by decide +kernel
theorem dX11_spelled_95 : decode cX11_spelled 95 = .ok (.ldc2_w 178, 3) := by decide +kernel
theorem dX11_spelled_98 : decode cX11_spelled 98 = .ok (.lsub, 1) := by decide +kernel
theorem dX11_spelled_99 : decode cX11_spelled 99 = .ok (.goto 5, 3) := by decide +kernel
theorem dX11_spelled_102 : decode cX11_spelled 102 = .ok (.lload 7, 2) := by decide +kernel
theorem dX11_spelled_104 : decode cX11_spelled 104 = .ok (.lstore 7, 2) := by decide +kernel
theorem dX11_spelled_106 : decode cX11_spelled 106 = .ok (.iload 5, 2) := by decide +kernel
theorem dX11_spelled_108 : decode cX11_spelled 108 = .ok (.ifCond .le 20, 3) := by decide +kernel
theorem dX11_spelled_111 : decode cX11_spelled 111 = .ok (.lload 7, 2) := by decide +kernel
theorem dX11_spelled_113 : decode cX11_spelled 113 = .ok (.ldc2_w 176, 3) := by decide +kernel
theorem dX11_spelled_116 : decode cX11_spelled 116 = .ok (.lmul, 1) := by decide +kernel
theorem dX11_spelled_117 : decode cX11_spelled 117 = .ok (.iload 5, 2) := by decide +kernel
theorem dX11_spelled_119 : decode cX11_spelled 119 = .ok (.i2l, 1) := by decide +kernel
theorem dX11_spelled_120 : decode cX11_spelled 120 = .ok (.ladd, 1) := by decide +kernel
theorem dX11_spelled_121 : decode cX11_spelled 121 = .ok (.ldc2_w 178, 3) := by decide +kernel
theorem dX11_spelled_124 : decode cX11_spelled 124 = .ok (.lsub, 1) := by decide +kernel
theorem dX11_spelled_125 : decode cX11_spelled 125 = .ok (.goto 5, 3) := by decide +kernel
theorem dX11_spelled_128 : decode cX11_spelled 128 = .ok (.lload 7, 2) := by decide +kernel
theorem dX11_spelled_130 : decode cX11_spelled 130 = .ok (.lstore 7, 2) := by decide +kernel
theorem dX11_spelled_132 : decode cX11_spelled 132 = .ok (.iload 6, 2) := by decide +kernel
theorem dX11_spelled_134 : decode cX11_spelled 134 = .ok (.ifCond .le 20, 3) := by decide +kernel
theorem dX11_spelled_137 : decode cX11_spelled 137 = .ok (.lload 7, 2) := by decide +kernel
theorem dX11_spelled_139 : decode cX11_spelled 139 = .ok (.ldc2_w 176, 3) := by decide +kernel
theorem dX11_spelled_142 : decode cX11_spelled 142 = .ok (.lmul, 1) := by decide +kernel
theorem dX11_spelled_143 : decode cX11_spelled 143 = .ok (.iload 6, 2) := by decide +kernel
theorem dX11_spelled_145 : decode cX11_spelled 145 = .ok (.i2l, 1) := by decide +kernel
theorem dX11_spelled_146 : decode cX11_spelled 146 = .ok (.ladd, 1) := by decide +kernel
theorem dX11_spelled_147 : decode cX11_spelled 147 = .ok (.ldc2_w 178, 3) := by decide +kernel
theorem dX11_spelled_150 : decode cX11_spelled 150 = .ok (.lsub, 1) := by decide +kernel
theorem dX11_spelled_151 : decode cX11_spelled 151 = .ok (.goto 5, 3) := by decide +kernel
theorem dX11_spelled_154 : decode cX11_spelled 154 = .ok (.lload 7, 2) := by decide +kernel
theorem dX11_spelled_156 : decode cX11_spelled 156 = .ok (.lreturn, 1) := by decide +kernel
theorem dX11_isWord_0 : decode cX11_isWord 0 = .ok (.aload_n 0, 1) := by decide +kernel
theorem dX11_isWord_1 : decode cX11_isWord 1 = .ok (.getfield 165, 3) := by decide +kernel
theorem dX11_isWord_4 : decode cX11_isWord 4 = .ok (.iconst 1, 1) := by decide +kernel
theorem dX11_isWord_5 : decode cX11_isWord 5 = .ok (.if_icmp .ne 16, 3) := by decide +kernel
theorem dX11_isWord_8 : decode cX11_isWord 8 = .ok (.aload_n 0, 1) := by decide +kernel
theorem dX11_isWord_9 : decode cX11_isWord 9 = .ok (.getfield 172, 3) := by decide +kernel
theorem dX11_isWord_12 : decode cX11_isWord 12 = .ok (.lload_n 1, 1) := by decide +kernel
theorem dX11_isWord_13 : decode cX11_isWord 13 = .ok (.lcmp, 1) := by decide +kernel
theorem dX11_isWord_14 : decode cX11_isWord 14 = .ok (.ifCond .ne 7, 3) := by decide +kernel
theorem dX11_isWord_17 : decode cX11_isWord 17 = .ok (.iconst 1, 1) := by decide +kernel
theorem dX11_isWord_18 : decode cX11_isWord 18 = .ok (.goto 4, 3) := by decide +kernel
theorem dX11_isWord_21 : decode cX11_isWord 21 = .ok (.iconst 0, 1) := by decide +kernel
theorem dX11_isWord_22 : decode cX11_isWord 22 = .ok (.ireturn, 1) := by decide +kernel
theorem dX11_isSign_0 : decode cX11_isSign 0 = .ok (.aload_n 0, 1) := by decide +kernel
theorem dX11_isSign_1 : decode cX11_isSign 1 = .ok (.getfield 165, 3) := by decide +kernel
theorem dX11_isSign_4 : decode cX11_isSign 4 = .ok (.iconst 3, 1) := by decide +kernel
theorem dX11_isSign_5 : decode cX11_isSign 5 = .ok (.if_icmp .ne 15, 3) := by decide +kernel
theorem dX11_isSign_8 : decode cX11_isSign 8 = .ok (.aload_n 0, 1) := by decide +kernel
theorem dX11_isSign_9 : decode cX11_isSign 9 = .ok (.getfield 185, 3) := by decide +kernel
theorem dX11_isSign_12 : decode cX11_isSign 12 = .ok (.iload_n 1, 1) := by decide +kernel
theorem dX11_isSign_13 : decode cX11_isSign 13 = .ok (.if_icmp .ne 7, 3) := by decide +kernel
theorem dX11_isSign_16 : decode cX11_isSign 16 = .ok (.iconst 1, 1) := by decide +kernel
theorem dX11_isSign_17 : decode cX11_isSign 17 = .ok (.goto 4, 3) := by decide +kernel
theorem dX11_isSign_20 : decode cX11_isSign 20 = .ok (.iconst 0, 1) := by decide +kernel
theorem dX11_isSign_21 : decode cX11_isSign 21 = .ok (.ireturn, 1) := by decide +kernel
theorem dX11_fail_0 : decode cX11_fail 0 = .ok (.aload_n 0, 1) := by decide +kernel
theorem dX11_fail_1 : decode cX11_fail 1 = .ok (.getfield 188, 3) := by decide +kernel
theorem dX11_fail_4 : decode cX11_fail 4 = .ok (.ifCond .le 4, 3) := by decide +kernel
theorem dX11_fail_7 : decode cX11_fail 7 = .ok (.return_, 1) := by decide +kernel
theorem dX11_fail_8 : decode cX11_fail 8 = .ok (.aload_n 0, 1) := by decide +kernel
theorem dX11_fail_9 : decode cX11_fail 9 = .ok (.iload_n 1, 1) := by decide +kernel
theorem dX11_fail_10 : decode cX11_fail 10 = .ok (.putfield 188, 3) := by decide +kernel
theorem dX11_fail_13 : decode cX11_fail 13 = .ok (.aload_n 0, 1) := by decide +kernel
theorem dX11_fail_14 : decode cX11_fail 14 = .ok (.iload_n 2, 1) := by decide +kernel
theorem dX11_fail_15 : decode cX11_fail 15 = .ok (.putfield 191, 3) := by decide +kernel
theorem dX11_fail_18 : decode cX11_fail 18 = .ok (.return_, 1) := by decide +kernel
theorem dX11_wrong_0 : decode cX11_wrong 0 = .ok (.aload_n 0, 1) := by decide +kernel
theorem dX11_wrong_1 : decode cX11_wrong 1 = .ok (.aload_n 0, 1) := by decide +kernel
theorem dX11_wrong_2 : decode cX11_wrong 2 = .ok (.getfield 165, 3) := by decide +kernel
theorem dX11_wrong_5 : decode cX11_wrong 5 = .ok (.iconst 4, 1) := by decide +kernel
theorem dX11_wrong_6 : decode cX11_wrong 6 = .ok (.if_icmp .ne 7, 3) := by decide +kernel
theorem dX11_wrong_9 : decode cX11_wrong 9 = .ok (.iconst 1, 1) := by decide +kernel
theorem dX11_wrong_10 : decode cX11_wrong 10 = .ok (.goto 4, 3) := by decide +kernel
theorem dX11_wrong_13 : decode cX11_wrong 13 = .ok (.iconst 2, 1) := by decide +kernel
theorem dX11_wrong_14 : decode cX11_wrong 14 = .ok (.aload_n 0, 1) := by decide +kernel
theorem dX11_wrong_15 : decode cX11_wrong 15 = .ok (.getfield 158, 3) := by decide +kernel
theorem dX11_wrong_18 : decode cX11_wrong 18 = .ok (.invokevirtual 194, 3) := by decide +kernel
theorem dX11_wrong_21 : decode cX11_wrong 21 = .ok (.return_, 1) := by decide +kernel
