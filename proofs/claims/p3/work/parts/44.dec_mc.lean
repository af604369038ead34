theorem dX11_look_0 : decode cX11_look 0 = .ok (.iload_n 1, 1) := by decide +kernel
theorem dX11_look_1 : decode cX11_look 1 = .ok (.aload_n 0, 1) := by decide +kernel
theorem dX11_look_2 : decode cX11_look 2 = .ok (.getfield 152, 3) := by decide +kernel
theorem dX11_look_5 : decode cX11_look 5 = .ok (.if_icmp .ge 16, 3) := by decide +kernel
theorem dX11_look_8 : decode cX11_look 8 = .ok (.aload_n 0, 1) := by decide +kernel
theorem dX11_look_9 : decode cX11_look 9 = .ok (.getfield 7, 3) := by decide +kernel
theorem dX11_look_12 : decode cX11_look 12 = .ok (.iload_n 1, 1) := by decide +kernel
theorem dX11_look_13 : decode cX11_look 13 = .ok (.baload, 1) := by decide +kernel
theorem dX11_look_14 : decode cX11_look 14 = .ok (.sipush 255, 3) := by decide +kernel
theorem dX11_look_17 : decode cX11_look 17 = .ok (.iand, 1) := by decide +kernel
theorem dX11_look_18 : decode cX11_look 18 = .ok (.goto 4, 3) := by decide +kernel
theorem dX11_look_21 : decode cX11_look 21 = .ok (.iconst 0, 1) := by decide +kernel
theorem dX11_look_22 : decode cX11_look 22 = .ok (.ireturn, 1) := by decide +kernel
theorem dX11_next_0 : decode cX11_next 0 = .ok (.aload_n 0, 1) := by decide +kernel
theorem dX11_next_1 : decode cX11_next 1 = .ok (.aload_n 0, 1) := by decide +kernel
theorem dX11_next_2 : decode cX11_next 2 = .ok (.getfield 155, 3) := by decide +kernel
theorem dX11_next_5 : decode cX11_next 5 = .ok (.putfield 158, 3) := by decide +kernel
theorem dX11_next_8 : decode cX11_next 8 = .ok (.aload_n 0, 1) := by decide +kernel
theorem dX11_next_9 : decode cX11_next 9 = .ok (.getfield 158, 3) := by decide +kernel
theorem dX11_next_12 : decode cX11_next 12 = .ok (.aload_n 0, 1) := by decide +kernel
theorem dX11_next_13 : decode cX11_next 13 = .ok (.getfield 152, 3) := by decide +kernel
theorem dX11_next_16 : decode cX11_next 16 = .ok (.if_icmp .ge 42, 3) := by decide +kernel
theorem dX11_next_19 : decode cX11_next 19 = .ok (.aload_n 0, 1) := by decide +kernel
theorem dX11_next_20 : decode cX11_next 20 = .ok (.aload_n 0, 1) := by decide +kernel
theorem dX11_next_21 : decode cX11_next 21 = .ok (.getfield 158, 3) := by decide +kernel
theorem dX11_next_24 : decode cX11_next 24 = .ok (.invokevirtual 161, 3) := by decide +kernel
theorem dX11_next_27 : decode cX11_next 27 = .ok (.bipush 10, 2) := by decide +kernel
theorem dX11_next_29 : decode cX11_next 29 = .ok (.if_icmp .eq 16, 3) := by decide +kernel
theorem dX11_next_32 : decode cX11_next 32 = .ok (.aload_n 0, 1) := by decide +kernel
theorem dX11_next_33 : decode cX11_next 33 = .ok (.aload_n 0, 1) := by decide +kernel
theorem dX11_next_34 : decode cX11_next 34 = .ok (.getfield 158, 3) := by decide +kernel
theorem dX11_next_37 : decode cX11_next 37 = .ok (.invokevirtual 161, 3) := by decide +kernel
theorem dX11_next_40 : decode cX11_next 40 = .ok (.bipush 32, 2) := by decide +kernel
theorem dX11_next_42 : decode cX11_next 42 = .ok (.if_icmp .ne 16, 3) := by decide +kernel
theorem dX11_next_45 : decode cX11_next 45 = .ok (.aload_n 0, 1) := by decide +kernel
theorem dX11_next_46 : decode cX11_next 46 = .ok (.dup, 1) := by decide +kernel
theorem dX11_next_47 : decode cX11_next 47 = .ok (.getfield 158, 3) := by decide +kernel
theorem dX11_next_50 : decode cX11_next 50 = .ok (.iconst 1, 1) := by decide +kernel
theorem dX11_next_51 : decode cX11_next 51 = .ok (.iadd, 1) := by decide +kernel
theorem dX11_next_52 : decode cX11_next 52 = .ok (.putfield 158, 3) := by decide +kernel
theorem dX11_next_55 : decode cX11_next 55 = .ok (.goto (-47), 3) := by decide +kernel
theorem dX11_next_58 : decode cX11_next 58 = .ok (.aload_n 0, 1) := by decide +kernel
theorem dX11_next_59 : decode cX11_next 59 = .ok (.aload_n 0, 1) := by decide +kernel
theorem dX11_next_60 : decode cX11_next 60 = .ok (.getfield 158, 3) := by decide +kernel
theorem dX11_next_63 : decode cX11_next 63 = .ok (.putfield 155, 3) := by decide +kernel
theorem dX11_next_66 : decode cX11_next 66 = .ok (.aload_n 0, 1) := by decide +kernel
theorem dX11_next_67 : decode cX11_next 67 = .ok (.getfield 158, 3) := by decide +kernel
theorem dX11_next_70 : decode cX11_next 70 = .ok (.aload_n 0, 1) := by decide +kernel
theorem dX11_next_71 : decode cX11_next 71 = .ok (.getfield 152, 3) := by decide +kernel
theorem dX11_next_74 : decode cX11_next 74 = .ok (.if_icmp .lt 9, 3) := by decide +kernel
theorem dX11_next_77 : decode cX11_next 77 = .ok (.aload_n 0, 1) := by decide +kernel
theorem dX11_next_78 : decode cX11_next 78 = .ok (.iconst 0, 1) := by decide +kernel
theorem dX11_next_79 : decode cX11_next 79 = .ok (.putfield 165, 3) := by decide +kernel
theorem dX11_next_82 : decode cX11_next 82 = .ok (.return_, 1) := by decide +kernel
theorem dX11_next_83 : decode cX11_next 83 = .ok (.aload_n 0, 1) := by decide +kernel
theorem dX11_next_84 : decode cX11_next 84 = .ok (.aload_n 0, 1) := by decide +kernel
theorem dX11_next_85 : decode cX11_next 85 = .ok (.getfield 158, 3) := by decide +kernel
theorem dX11_next_88 : decode cX11_next 88 = .ok (.invokevirtual 161, 3) := by decide +kernel
theorem dX11_next_91 : decode cX11_next 91 = .ok (.istore_n 1, 1) := by decide +kernel
theorem dX11_next_92 : decode cX11_next 92 = .ok (.iload_n 1, 1) := by decide +kernel
theorem dX11_next_93 : decode cX11_next 93 = .ok (.invokestatic 168, 3) := by decide +kernel
theorem dX11_next_96 : decode cX11_next 96 = .ok (.ifCond .eq 86, 3) := by decide +kernel
theorem dX11_next_99 : decode cX11_next 99 = .ok (.aload_n 0, 1) := by decide +kernel
theorem dX11_next_100 : decode cX11_next 100 = .ok (.iconst 1, 1) := by decide +kernel
theorem dX11_next_101 : decode cX11_next 101 = .ok (.putfield 165, 3) := by decide +kernel
theorem dX11_next_104 : decode cX11_next 104 = .ok (.aload_n 0, 1) := by decide +kernel
theorem dX11_next_105 : decode cX11_next 105 = .ok (.lconst 0, 1) := by decide +kernel
theorem dX11_next_106 : decode cX11_next 106 = .ok (.putfield 172, 3) := by decide +kernel
theorem dX11_next_109 : decode cX11_next 109 = .ok (.aload_n 0, 1) := by decide +kernel
theorem dX11_next_110 : decode cX11_next 110 = .ok (.aload_n 0, 1) := by decide +kernel
theorem dX11_next_111 : decode cX11_next 111 = .ok (.getfield 155, 3) := by decide +kernel
theorem dX11_next_114 : decode cX11_next 114 = .ok (.invokevirtual 161, 3) := by decide +kernel
theorem dX11_next_117 : decode cX11_next 117 = .ok (.invokestatic 168, 3) := by decide +kernel
theorem dX11_next_120 : decode cX11_next 120 = .ok (.ifCond .eq 230, 3) := by decide +kernel
theorem dX11_next_123 : decode cX11_next 123 = .ok (.aload_n 0, 1) := by decide +kernel
theorem dX11_next_124 : decode cX11_next 124 = .ok (.aload_n 0, 1) := by decide +kernel
theorem dX11_next_125 : decode cX11_next 125 = .ok (.getfield 155, 3) := by decide +kernel
theorem dX11_next_128 : decode cX11_next 128 = .ok (.aload_n 0, 1) := by decide +kernel
theorem dX11_next_129 : decode cX11_next 129 = .ok (.getfield 158, 3) := by decide +kernel
theorem dX11_next_132 : decode cX11_next 132 = .ok (.isub, 1) := by decide +kernel
theorem dX11_next_133 : decode cX11_next 133 = .ok (.bipush 12, 2) := by decide +kernel
theorem dX11_next_135 : decode cX11_next 135 = .ok (.if_icmp .ge 28, 3) := by decide +kernel
theorem dX11_next_138 : decode cX11_next 138 = .ok (.aload_n 0, 1) := by decide +kernel
theorem dX11_next_139 : decode cX11_next 139 = .ok (.getfield 172, 3) := by decide +kernel
theorem dX11_next_142 : decode cX11_next 142 = .ok (.ldc2_w 176, 3) := by decide +kernel
theorem dX11_next_145 : decode cX11_next 145 = .ok (.lmul, 1) := by decide +kernel
theorem dX11_next_146 : decode cX11_next 146 = .ok (.aload_n 0, 1) := by decide +kernel
theorem dX11_next_147 : decode cX11_next 147 = .ok (.aload_n 0, 1) := by decide +kernel
theorem dX11_next_148 : decode cX11_next 148 = .ok (.getfield 155, 3) := by decide +kernel
theorem dX11_next_151 : decode cX11_next 151 = .ok (.invokevirtual 161, 3) := by decide +kernel
theorem dX11_next_154 : decode cX11_next 154 = .ok (.i2l, 1) := by decide +kernel
theorem dX11_next_155 : decode cX11_next 155 = .ok (.ladd, 1) := by decide +kernel
theorem dX11_next_156 : decode cX11_next 156 = .ok (.ldc2_w 178, 3) := by decide +kernel
theorem dX11_next_159 : decode cX11_next 159 = .ok (.lsub, 1) := by decide +kernel
theorem dX11_next_160 : decode cX11_next 160 = .ok (.goto 6, 3) := by decide +kernel
theorem dX11_next_163 : decode cX11_next 163 = .ok (.ldc2_w 180, 3) := by decide +kernel
theorem dX11_next_166 : decode cX11_next 166 = .ok (.putfield 172, 3) := by decide +kernel
theorem dX11_next_169 : decode cX11_next 169 = .ok (.aload_n 0, 1) := by decide +kernel
theorem dX11_next_170 : decode cX11_next 170 = .ok (.dup, 1) := by decide +kernel
theorem dX11_next_171 : decode cX11_next 171 = .ok (.getfield 155, 3) := by decide +kernel
theorem dX11_next_174 : decode cX11_next 174 = .ok (.iconst 1, 1) := by decide +kernel
theorem dX11_next_175 : decode cX11_next 175 = .ok (.iadd, 1) := by decide +kernel
theorem dX11_next_176 : decode cX11_next 176 = .ok (.putfield 155, 3) := by decide +kernel
theorem dX11_next_179 : decode cX11_next 179 = .ok (.goto (-70), 3) := by decide +kernel
theorem dX11_next_182 : decode cX11_next 182 = .ok (.iload_n 1, 1) := by decide +kernel
theorem dX11_next_183 : decode cX11_next 183 = .ok (.invokestatic 182, 3) := by decide +kernel
theorem dX11_next_186 : decode cX11_next 186 = .ok (.ifCond .eq 98, 3) := by decide +kernel
theorem dX11_next_189 : decode cX11_next 189 = .ok (.aload_n 0, 1) := by decide +kernel
theorem dX11_next_190 : decode cX11_next 190 = .ok (.iconst 0, 1) := by decide +kernel
theorem dX11_next_191 : decode cX11_next 191 = .ok (.putfield 185, 3) := by decide +kernel
theorem dX11_next_194 : decode cX11_next 194 = .ok (.aload_n 0, 1) := by decide +kernel
theorem dX11_next_195 : decode cX11_next 195 = .ok (.aload_n 0, 1) := by decide +kernel
theorem dX11_next_196 : decode cX11_next 196 = .ok (.getfield 155, 3) := by decide +kernel
theorem dX11_next_199 : decode cX11_next 199 = .ok (.invokevirtual 161, 3) := by decide +kernel
theorem dX11_next_202 : decode cX11_next 202 = .ok (.invokestatic 182, 3) := by decide +kernel
theorem dX11_next_205 : decode cX11_next 205 = .ok (.ifCond .eq 53, 3) := by decide +kernel
theorem dX11_next_208 : decode cX11_next 208 = .ok (.aload_n 0, 1) := by decide +kernel
theorem dX11_next_209 : decode cX11_next 209 = .ok (.getfield 155, 3) := by decide +kernel
theorem dX11_next_212 : decode cX11_next 212 = .ok (.aload_n 0, 1) := by decide +kernel
theorem dX11_next_213 : decode cX11_next 213 = .ok (.getfield 158, 3) := by decide +kernel
theorem dX11_next_216 : decode cX11_next 216 = .ok (.isub, 1) := by decide +kernel
theorem dX11_next_217 : decode cX11_next 217 = .ok (.bipush 6, 2) := by decide +kernel
theorem dX11_next_219 : decode cX11_next 219 = .ok (.if_icmp .ge 26, 3) := by decide +kernel
theorem dX11_next_222 : decode cX11_next 222 = .ok (.aload_n 0, 1) := by decide +kernel
theorem dX11_next_223 : decode cX11_next 223 = .ok (.bipush 10, 2) := by decide +kernel
theorem dX11_next_225 : decode cX11_next 225 = .ok (.aload_n 0, 1) := by decide +kernel
theorem dX11_next_226 : decode cX11_next 226 = .ok (.getfield 185, 3) := by decide +kernel
theorem dX11_next_229 : decode cX11_next 229 = .ok (.imul, 1) := by decide +kernel
theorem dX11_next_230 : decode cX11_next 230 = .ok (.aload_n 0, 1) := by decide +kernel
theorem dX11_next_231 : decode cX11_next 231 = .ok (.aload_n 0, 1) := by decide +kernel
theorem dX11_next_232 : decode cX11_next 232 = .ok (.getfield 155, 3) := by decide +kernel
theorem dX11_next_235 : decode cX11_next 235 = .ok (.invokevirtual 161, 3) := by decide +kernel
theorem dX11_next_238 : decode cX11_next 238 = .ok (.iadd, 1) := by decide +kernel
theorem dX11_next_239 : decode cX11_next 239 = .ok (.bipush 48, 2) := by decide +kernel
theorem dX11_next_241 : decode cX11_next 241 = .ok (.isub, 1) := by decide +kernel
theorem dX11_next_242 : decode cX11_next 242 = .ok (.putfield 185, 3) := by decide +kernel
theorem dX11_next_245 : decode cX11_next 245 = .ok (.aload_n 0, 1) := by decide +kernel
theorem dX11_next_246 : decode cX11_next 246 = .ok (.dup, 1) := by decide +kernel
theorem dX11_next_247 : decode cX11_next 247 = .ok (.getfield 155, 3) := by decide +kernel
theorem dX11_next_250 : decode cX11_next 250 = .ok (.iconst 1, 1) := by decide +kernel
theorem dX11_next_251 : decode cX11_next 251 = .ok (.iadd, 1) := by decide +kernel
theorem dX11_next_252 : decode cX11_next 252 = .ok (.putfield 155, 3) := by decide +kernel
theorem dX11_next_255 : decode cX11_next 255 = .ok (.goto (-61), 3) := by decide +kernel
theorem dX11_next_258 : decode cX11_next 258 = .ok (.aload_n 0, 1) := by decide +kernel
theorem dX11_next_259 : decode cX11_next 259 = .ok (.aload_n 0, 1) := by decide +kernel
theorem dX11_next_260 : decode cX11_next 260 = .ok (.getfield 155, 3) := by decide +kernel
theorem dX11_next_263 : decode cX11_next 263 = .ok (.aload_n 0, 1) := by decide +kernel
theorem dX11_next_264 : decode cX11_next 264 = .ok (.getfield 158, 3) := by decide +kernel
theorem dX11_next_267 : decode cX11_next 267 = .ok (.isub, 1) := by decide +kernel
theorem dX11_next_268 : decode cX11_next 268 = .ok (.bipush 6, 2) := by decide +kernel
theorem dX11_next_270 : decode cX11_next 270 = .ok (.if_icmp .le 7, 3) := by decide +kernel
theorem dX11_next_273 : decode cX11_next 273 = .ok (.iconst 4, 1) := by decide +kernel
theorem dX11_next_274 : decode cX11_next 274 = .ok (.goto 4, 3) := by decide +kernel
theorem dX11_next_277 : decode cX11_next 277 = .ok (.iconst 2, 1) := by decide +kernel
theorem dX11_next_278 : decode cX11_next 278 = .ok (.putfield 165, 3) := by decide +kernel
theorem dX11_next_281 : decode cX11_next 281 = .ok (.goto 69, 3) := by decide +kernel
theorem dX11_next_284 : decode cX11_next 284 = .ok (.aload_n 0, 1) := by decide +kernel
theorem dX11_next_285 : decode cX11_next 285 = .ok (.aload_n 0, 1) := by decide +kernel
theorem dX11_next_286 : decode cX11_next 286 = .ok (.getfield 158, 3) := by decide +kernel
theorem dX11_next_289 : decode cX11_next 289 = .ok (.iconst 1, 1) := by decide +kernel
theorem dX11_next_290 : decode cX11_next 290 = .ok (.iadd, 1) := by decide +kernel
theorem dX11_next_291 : decode cX11_next 291 = .ok (.putfield 155, 3) := by decide +kernel
theorem dX11_next_294 : decode cX11_next 294 = .ok (.aload_n 0, 1) := by decide +kernel
theorem dX11_next_295 : decode cX11_next 295 = .ok (.iload_n 1, 1) := by decide +kernel
theorem dX11_next_296 : decode cX11_next 296 = .ok (.putfield 185, 3) := by decide +kernel
theorem dX11_next_299 : decode cX11_next 299 = .ok (.aload_n 0, 1) := by decide +kernel
theorem dX11_next_300 : decode cX11_next 300 = .ok (.iload_n 1, 1) := by decide +kernel
theorem dX11_next_301 : decode cX11_next 301 = .ok (.bipush 43, 2) := by decide +kernel
theorem dX11_next_303 : decode cX11_next 303 = .ok (.if_icmp .eq 39, 3) := by decide +kernel
theorem dX11_next_306 : decode cX11_next 306 = .ok (.iload_n 1, 1) := by decide +kernel
theorem dX11_next_307 : decode cX11_next 307 = .ok (.bipush 45, 2) := by decide +kernel
theorem dX11_next_309 : decode cX11_next 309 = .ok (.if_icmp .eq 33, 3) := by decide +kernel
theorem dX11_next_312 : decode cX11_next 312 = .ok (.iload_n 1, 1) := by decide +kernel
theorem dX11_next_313 : decode cX11_next 313 = .ok (.bipush 42, 2) := by decide +kernel
theorem dX11_next_315 : decode cX11_next 315 = .ok (.if_icmp .eq 27, 3) := by decide +kernel
theorem dX11_next_318 : decode cX11_next 318 = .ok (.iload_n 1, 1) := by decide +kernel
theorem dX11_next_319 : decode cX11_next 319 = .ok (.bipush 40, 2) := by decide +kernel
theorem dX11_next_321 : decode cX11_next 321 = .ok (.if_icmp .eq 21, 3) := by decide +kernel
theorem dX11_next_324 : decode cX11_next 324 = .ok (.iload_n 1, 1) := by decide +kernel
theorem dX11_next_325 : decode cX11_next 325 = .ok (.bipush 41, 2) := by decide +kernel
theorem dX11_next_327 : decode cX11_next 327 = .ok (.if_icmp .eq 15, 3) := by decide +kernel
theorem dX11_next_330 : decode cX11_next 330 = .ok (.iload_n 1, 1) := by decide +kernel
theorem dX11_next_331 : decode cX11_next 331 = .ok (.bipush 44, 2) := by decide +kernel
theorem dX11_next_333 : decode cX11_next 333 = .ok (.if_icmp .eq 9, 3) := by decide +kernel
theorem dX11_next_336 : decode cX11_next 336 = .ok (.iload_n 1, 1) := by decide +kernel
theorem dX11_next_337 : decode cX11_next 337 = .ok (.bipush 59, 2) := by decide +kernel
theorem dX11_next_339 : decode cX11_next 339 = .ok (.if_icmp .ne 7, 3) := by decide +kernel
theorem dX11_next_342 : decode cX11_next 342 = .ok (.iconst 3, 1) := by decide +kernel
theorem dX11_next_343 : decode cX11_next 343 = .ok (.goto 4, 3) := by decide +kernel
theorem dX11_next_346 : decode cX11_next 346 = .ok (.iconst 4, 1) := by decide +kernel
theorem dX11_next_347 : decode cX11_next 347 = .ok (.putfield 165, 3) := by decide +kernel
theorem dX11_next_350 : decode cX11_next 350 = .ok (.return_, 1) := by decide +kernel
theorem dX11_spelled_0 : decode cX11_spelled 0 = .ok (.iload_n 0, 1) := by decide +kernel
theorem dX11_spelled_1 : decode cX11_spelled 1 = .ok (.i2l, 1) := by decide +kernel
theorem dX11_spelled_2 : decode cX11_spelled 2 = .ok (.ldc2_w 178, 3) := by decide +kernel
theorem dX11_spelled_5 : decode cX11_spelled 5 = .ok (.lsub, 1) := by decide +kernel
theorem dX11_spelled_6 : decode cX11_spelled 6 = .ok (.lstore 7, 2) := by decide +kernel
theorem dX11_spelled_8 : decode cX11_spelled 8 = .ok (.iload_n 1, 1) := by decide +kernel
theorem dX11_spelled_9 : decode cX11_spelled 9 = .ok (.ifCond .le 19, 3) := by decide +kernel
theorem dX11_spelled_12 : decode cX11_spelled 12 = .ok (.lload 7, 2) := by decide +kernel
theorem dX11_spelled_14 : decode cX11_spelled 14 = .ok (.ldc2_w 176, 3) := by decide +kernel
theorem dX11_spelled_17 : decode cX11_spelled 17 = .ok (.lmul, 1) := by decide +kernel
theorem dX11_spelled_18 : decode cX11_spelled 18 = .ok (.iload_n 1, 1) := by decide +kernel
theorem dX11_spelled_19 : decode cX11_spelled 19 = .ok (.i2l, 1) := by decide +kernel
theorem dX11_spelled_20 : decode cX11_spelled 20 = .ok (.ladd, 1) := by decide +kernel
theorem dX11_spelled_21 : decode cX11_spelled 21 = .ok (.ldc2_w 178, 3) := by decide +kernel
theorem dX11_spelled_24 : decode cX11_spelled 24 = .ok (.lsub, 1) := by decide +kernel
theorem dX11_spelled_25 : decode cX11_spelled 25 = .ok (.goto 5, 3) := by decide +kernel
theorem dX11_spelled_28 : decode cX11_spelled 28 = .ok (.lload 7, 2) := by decide +kernel
theorem dX11_spelled_30 : decode cX11_spelled 30 = .ok (.lstore 7, 2) := by decide +kernel
theorem dX11_spelled_32 : decode cX11_spelled 32 = .ok (.iload_n 2, 1) := by decide +kernel
theorem dX11_spelled_33 : decode cX11_spelled 33 = .ok (.ifCond .le 19, 3) := by decide +kernel
theorem dX11_spelled_36 : decode cX11_spelled 36 = .ok (.lload 7, 2) := by decide +kernel
theorem dX11_spelled_38 : decode cX11_spelled 38 = .ok (.ldc2_w 176, 3) := by decide +kernel
theorem dX11_spelled_41 : decode cX11_spelled 41 = .ok (.lmul, 1) := by decide +kernel
theorem dX11_spelled_42 : decode cX11_spelled 42 = .ok (.iload_n 2, 1) := by decide +kernel
theorem dX11_spelled_43 : decode cX11_spelled 43 = .ok (.i2l, 1) := by decide +kernel
theorem dX11_spelled_44 : decode cX11_spelled 44 = .ok (.ladd, 1) := by decide +kernel
theorem dX11_spelled_45 : decode cX11_spelled 45 = .ok (.ldc2_w 178, 3) := by decide +kernel
theorem dX11_spelled_48 : decode cX11_spelled 48 = .ok (.lsub, 1) := by decide +kernel
theorem dX11_spelled_49 : decode cX11_spelled 49 = .ok (.goto 5, 3) := by decide +kernel
theorem dX11_spelled_52 : decode cX11_spelled 52 = .ok (.lload 7, 2) := by decide +kernel
theorem dX11_spelled_54 : decode cX11_spelled 54 = .ok (.lstore 7, 2) := by decide +kernel
theorem dX11_spelled_56 : decode cX11_spelled 56 = .ok (.iload_n 3, 1) := by decide +kernel
theorem dX11_spelled_57 : decode cX11_spelled 57 = .ok (.ifCond .le 19, 3) := by decide +kernel
theorem dX11_spelled_60 : decode cX11_spelled 60 = .ok (.lload 7, 2) := by decide +kernel
theorem dX11_spelled_62 : decode cX11_spelled 62 = .ok (.ldc2_w 176, 3) := by decide +kernel
theorem dX11_spelled_65 : decode cX11_spelled 65 = .ok (.lmul, 1) := by decide +kernel
theorem dX11_spelled_66 : decode cX11_spelled 66 = .ok (.iload_n 3, 1) := by decide +kernel
theorem dX11_spelled_67 : decode cX11_spelled 67 = .ok (.i2l, 1) := by decide +kernel
theorem dX11_spelled_68 : decode cX11_spelled 68 = .ok (.ladd, 1) := by decide +kernel
theorem dX11_spelled_69 : decode cX11_spelled 69 = .ok (.ldc2_w 178, 3) := by decide +kernel
theorem dX11_spelled_72 : decode cX11_spelled 72 = .ok (.lsub, 1) := by decide +kernel
theorem dX11_spelled_73 : decode cX11_spelled 73 = .ok (.goto 5, 3) := by decide +kernel
theorem dX11_spelled_76 : decode cX11_spelled 76 = .ok (.lload 7, 2) := by decide +kernel
theorem dX11_spelled_78 : decode cX11_spelled 78 = .ok (.lstore 7, 2) := by decide +kernel
theorem dX11_spelled_80 : decode cX11_spelled 80 = .ok (.iload 4, 2) := by decide +kernel
theorem dX11_spelled_82 : decode cX11_spelled 82 = .ok (.ifCond .le 20, 3) := by decide +kernel
theorem dX11_spelled_85 : decode cX11_spelled 85 = .ok (.lload 7, 2) := by decide +kernel
theorem dX11_spelled_87 : decode cX11_spelled 87 = .ok (.ldc2_w 176, 3) := by decide +kernel
theorem dX11_spelled_90 : decode cX11_spelled 90 = .ok (.lmul, 1) := by decide +kernel
theorem dX11_spelled_91 : decode cX11_spelled 91 = .ok (.iload 4, 2) := by decide +kernel
theorem dX11_spelled_93 : decode cX11_spelled 93 = .ok (.i2l, 1) := by decide +kernel
theorem dX11_spelled_94 : decode cX11_spelled 94 = .ok (.ladd, 1) := by decide +kernel
theorem dX11_spelled_95 : decode cX11_spelled 95 = .ok (.ldc2_w 178, 3) := by decide +kernel
theorem dX11_spelled_98 : decode cX11_spelled 98 = .ok (.lsub, 1) := by decide +kernel
theorem dX11_spelled_99 : decode cX11_spelled 99 = .ok (.goto 5, 3) := by decide +kernel
theorem dX11_spelled_102 : decode cX11_spelled 102 = .ok (.lload 7, 2) := by decide +kernel
theorem dX11_spelled_104 : decode cX11_spelled 104 = .ok (.lstore 7, 2) := by decide +kernel
theorem dX11_spelled_106 : decode cX11_spelled 106 = .ok (.iload 5, 2) := by decide +kernel
theorem dX11_spelled_108 : decode cX11_spelled 108 = .ok (.ifCond .le 20, 3) := by decide +kernel
theorem dX11_spelled_111 : decode cX11_spelled 111 = .ok (.lload 7, 2) := by decide +kernel
theorem dX11_spelled_113 : decode cX11_spelled 113 = .ok (.ldc2_w 176, 3) := by decide +kernel
theorem dX11_spelled_116 : decode cX11_spelled 116 = .ok (.lmul, 1) := by decide +kernel
theorem dX11_spelled_117 : decode cX11_spelled 117 = .ok (.iload 5, 2) := by decide +kernel
theorem dX11_spelled_119 : decode cX11_spelled 119 = .ok (.i2l, 1) := by decide +kernel
theorem dX11_spelled_120 : decode cX11_spelled 120 = .ok (.ladd, 1) := by decide +kernel
theorem dX11_spelled_121 : decode cX11_spelled 121 = .ok (.ldc2_w 178, 3) := by decide +kernel
theorem dX11_spelled_124 : decode cX11_spelled 124 = .ok (.lsub, 1) := by decide +kernel
theorem dX11_spelled_125 : decode cX11_spelled 125 = .ok (.goto 5, 3) := by decide +kernel
theorem dX11_spelled_128 : decode cX11_spelled 128 = .ok (.lload 7, 2) := by decide +kernel
theorem dX11_spelled_130 : decode cX11_spelled 130 = .ok (.lstore 7, 2) := by decide +kernel
theorem dX11_spelled_132 : decode cX11_spelled 132 = .ok (.iload 6, 2) := by decide +kernel
theorem dX11_spelled_134 : decode cX11_spelled 134 = .ok (.ifCond .le 20, 3) := by decide +kernel
theorem dX11_spelled_137 : decode cX11_spelled 137 = .ok (.lload 7, 2) := by decide +kernel
theorem dX11_spelled_139 : decode cX11_spelled 139 = .ok (.ldc2_w 176, 3) := by decide +kernel
theorem dX11_spelled_142 : decode cX11_spelled 142 = .ok (.lmul, 1) := by decide +kernel
theorem dX11_spelled_143 : decode cX11_spelled 143 = .ok (.iload 6, 2) := by decide +kernel
theorem dX11_spelled_145 : decode cX11_spelled 145 = .ok (.i2l, 1) := by decide +kernel
theorem dX11_spelled_146 : decode cX11_spelled 146 = .ok (.ladd, 1) := by decide +kernel
theorem dX11_spelled_147 : decode cX11_spelled 147 = .ok (.ldc2_w 178, 3) := by decide +kernel
theorem dX11_spelled_150 : decode cX11_spelled 150 = .ok (.lsub, 1) := by decide +kernel
theorem dX11_spelled_151 : decode cX11_spelled 151 = .ok (.goto 5, 3) := by decide +kernel
theorem dX11_spelled_154 : decode cX11_spelled 154 = .ok (.lload 7, 2) := by decide +kernel
theorem dX11_spelled_156 : decode cX11_spelled 156 = .ok (.lreturn, 1) := by decide +kernel
theorem dX11_isWord_0 : decode cX11_isWord 0 = .ok (.aload_n 0, 1) := by decide +kernel
theorem dX11_isWord_1 : decode cX11_isWord 1 = .ok (.getfield 165, 3) := by decide +kernel
theorem dX11_isWord_4 : decode cX11_isWord 4 = .ok (.iconst 1, 1) := by decide +kernel
theorem dX11_isWord_5 : decode cX11_isWord 5 = .ok (.if_icmp .ne 16, 3) := by decide +kernel
theorem dX11_isWord_8 : decode cX11_isWord 8 = .ok (.aload_n 0, 1) := by decide +kernel
theorem dX11_isWord_9 : decode cX11_isWord 9 = .ok (.getfield 172, 3) := by decide +kernel
theorem dX11_isWord_12 : decode cX11_isWord 12 = .ok (.lload_n 1, 1) := by decide +kernel
theorem dX11_isWord_13 : decode cX11_isWord 13 = .ok (.lcmp, 1) := by decide +kernel
theorem dX11_isWord_14 : decode cX11_isWord 14 = .ok (.ifCond .ne 7, 3) := by decide +kernel
theorem dX11_isWord_17 : decode cX11_isWord 17 = .ok (.iconst 1, 1) := by decide +kernel
theorem dX11_isWord_18 : decode cX11_isWord 18 = .ok (.goto 4, 3) := by decide +kernel
theorem dX11_isWord_21 : decode cX11_isWord 21 = .ok (.iconst 0, 1) := by decide +kernel
theorem dX11_isWord_22 : decode cX11_isWord 22 = .ok (.ireturn, 1) := by decide +kernel
theorem dX11_isSign_0 : decode cX11_isSign 0 = .ok (.aload_n 0, 1) := by decide +kernel
theorem dX11_isSign_1 : decode cX11_isSign 1 = .ok (.getfield 165, 3) := by decide +kernel
theorem dX11_isSign_4 : decode cX11_isSign 4 = .ok (.iconst 3, 1) := by decide +kernel
theorem dX11_isSign_5 : decode cX11_isSign 5 = .ok (.if_icmp .ne 15, 3) := by decide +kernel
theorem dX11_isSign_8 : decode cX11_isSign 8 = .ok (.aload_n 0, 1) := by decide +kernel
theorem dX11_isSign_9 : decode cX11_isSign 9 = .ok (.getfield 185, 3) := by decide +kernel
theorem dX11_isSign_12 : decode cX11_isSign 12 = .ok (.iload_n 1, 1) := by decide +kernel
theorem dX11_isSign_13 : decode cX11_isSign 13 = .ok (.if_icmp .ne 7, 3) := by decide +kernel
theorem dX11_isSign_16 : decode cX11_isSign 16 = .ok (.iconst 1, 1) := by decide +kernel
theorem dX11_isSign_17 : decode cX11_isSign 17 = .ok (.goto 4, 3) := by decide +kernel
theorem dX11_isSign_20 : decode cX11_isSign 20 = .ok (.iconst 0, 1) := by decide +kernel
theorem dX11_isSign_21 : decode cX11_isSign 21 = .ok (.ireturn, 1) := by decide +kernel
theorem dX11_fail_0 : decode cX11_fail 0 = .ok (.aload_n 0, 1) := by decide +kernel
theorem dX11_fail_1 : decode cX11_fail 1 = .ok (.getfield 188, 3) := by decide +kernel
theorem dX11_fail_4 : decode cX11_fail 4 = .ok (.ifCond .le 4, 3) := by decide +kernel
theorem dX11_fail_7 : decode cX11_fail 7 = .ok (.return_, 1) := by decide +kernel
theorem dX11_fail_8 : decode cX11_fail 8 = .ok (.aload_n 0, 1) := by decide +kernel
theorem dX11_fail_9 : decode cX11_fail 9 = .ok (.iload_n 1, 1) := by decide +kernel
theorem dX11_fail_10 : decode cX11_fail 10 = .ok (.putfield 188, 3) := by decide +kernel
theorem dX11_fail_13 : decode cX11_fail 13 = .ok (.aload_n 0, 1) := by decide +kernel
theorem dX11_fail_14 : decode cX11_fail 14 = .ok (.iload_n 2, 1) := by decide +kernel
theorem dX11_fail_15 : decode cX11_fail 15 = .ok (.putfield 191, 3) := by decide +kernel
theorem dX11_fail_18 : decode cX11_fail 18 = .ok (.return_, 1) := by decide +kernel
theorem dX11_wrong_0 : decode cX11_wrong 0 = .ok (.aload_n 0, 1) := by decide +kernel
theorem dX11_wrong_1 : decode cX11_wrong 1 = .ok (.aload_n 0, 1) := by decide +kernel
theorem dX11_wrong_2 : decode cX11_wrong 2 = .ok (.getfield 165, 3) := by decide +kernel
theorem dX11_wrong_5 : decode cX11_wrong 5 = .ok (.iconst 4, 1) := by decide +kernel
theorem dX11_wrong_6 : decode cX11_wrong 6 = .ok (.if_icmp .ne 7, 3) := by decide +kernel
theorem dX11_wrong_9 : decode cX11_wrong 9 = .ok (.iconst 1, 1) := by decide +kernel
theorem dX11_wrong_10 : decode cX11_wrong 10 = .ok (.goto 4, 3) := by decide +kernel
theorem dX11_wrong_13 : decode cX11_wrong 13 = .ok (.iconst 2, 1) := by decide +kernel
theorem dX11_wrong_14 : decode cX11_wrong 14 = .ok (.aload_n 0, 1) := by decide +kernel
theorem dX11_wrong_15 : decode cX11_wrong 15 = .ok (.getfield 158, 3) := by decide +kernel
theorem dX11_wrong_18 : decode cX11_wrong 18 = .ok (.invokevirtual 194, 3) := by decide +kernel
theorem dX11_wrong_21 : decode cX11_wrong 21 = .ok (.return_, 1) := by decide +kernel
theorem dX11_numberOf_0 : decode cX11_numberOf 0 = .ok (.aload_n 0, 1) := by decide +kernel
theorem dX11_numberOf_1 : decode cX11_numberOf 1 = .ok (.getfield 165, 3) := by decide +kernel
theorem dX11_numberOf_4 : decode cX11_numberOf 4 = .ok (.iconst 2, 1) := by decide +kernel
theorem dX11_numberOf_5 : decode cX11_numberOf 5 = .ok (.if_icmp .eq 9, 3) := by decide +kernel
theorem dX11_numberOf_8 : decode cX11_numberOf 8 = .ok (.aload_n 0, 1) := by decide +kernel
theorem dX11_numberOf_9 : decode cX11_numberOf 9 = .ok (.invokevirtual 198, 3) := by decide +kernel
theorem dX11_numberOf_12 : decode cX11_numberOf 12 = .ok (.iload_n 1, 1) := by decide +kernel
theorem dX11_numberOf_13 : decode cX11_numberOf 13 = .ok (.ireturn, 1) := by decide +kernel
theorem dX11_numberOf_14 : decode cX11_numberOf 14 = .ok (.aload_n 0, 1) := by decide +kernel
theorem dX11_numberOf_15 : decode cX11_numberOf 15 = .ok (.getfield 185, 3) := by decide +kernel
theorem dX11_numberOf_18 : decode cX11_numberOf 18 = .ok (.istore_n 3, 1) := by decide +kernel
theorem dX11_numberOf_19 : decode cX11_numberOf 19 = .ok (.iload_n 3, 1) := by decide +kernel
theorem dX11_numberOf_20 : decode cX11_numberOf 20 = .ok (.iload_n 1, 1) := by decide +kernel
theorem dX11_numberOf_21 : decode cX11_numberOf 21 = .ok (.if_icmp .lt 8, 3) := by decide +kernel
theorem dX11_numberOf_24 : decode cX11_numberOf 24 = .ok (.iload_n 3, 1) := by decide +kernel
theorem dX11_numberOf_25 : decode cX11_numberOf 25 = .ok (.iload_n 2, 1) := by decide +kernel
theorem dX11_numberOf_26 : decode cX11_numberOf 26 = .ok (.if_icmp .le 12, 3) := by decide +kernel
theorem dX11_numberOf_29 : decode cX11_numberOf 29 = .ok (.aload_n 0, 1) := by decide +kernel
theorem dX11_numberOf_30 : decode cX11_numberOf 30 = .ok (.iconst 4, 1) := by decide +kernel
theorem dX11_numberOf_31 : decode cX11_numberOf 31 = .ok (.aload_n 0, 1) := by decide +kernel
theorem dX11_numberOf_32 : decode cX11_numberOf 32 = .ok (.getfield 158, 3) := by decide +kernel
theorem dX11_numberOf_35 : decode cX11_numberOf 35 = .ok (.invokevirtual 194, 3) := by decide +kernel
theorem dX11_numberOf_38 : decode cX11_numberOf 38 = .ok (.aload_n 0, 1) := by decide +kernel
theorem dX11_numberOf_39 : decode cX11_numberOf 39 = .ok (.getfield 188, 3) := by decide +kernel
theorem dX11_numberOf_42 : decode cX11_numberOf 42 = .ok (.ifCond .ne 7, 3) := by decide +kernel
theorem dX11_numberOf_45 : decode cX11_numberOf 45 = .ok (.aload_n 0, 1) := by decide +kernel
theorem dX11_numberOf_46 : decode cX11_numberOf 46 = .ok (.invokevirtual 201, 3) := by decide +kernel
theorem dX11_numberOf_49 : decode cX11_numberOf 49 = .ok (.aload_n 0, 1) := by decide +kernel
theorem dX11_numberOf_50 : decode cX11_numberOf 50 = .ok (.getfield 188, 3) := by decide +kernel
theorem dX11_numberOf_53 : decode cX11_numberOf 53 = .ok (.ifCond .ne 7, 3) := by decide +kernel
theorem dX11_numberOf_56 : decode cX11_numberOf 56 = .ok (.iload_n 3, 1) := by decide +kernel
theorem dX11_numberOf_57 : decode cX11_numberOf 57 = .ok (.goto 4, 3) := by decide +kernel
theorem dX11_numberOf_60 : decode cX11_numberOf 60 = .ok (.iload_n 1, 1) := by decide +kernel
theorem dX11_numberOf_61 : decode cX11_numberOf 61 = .ok (.ireturn, 1) := by decide +kernel
theorem dX11_ends_0 : decode cX11_ends 0 = .ok (.aload_n 0, 1) := by decide +kernel
theorem dX11_ends_1 : decode cX11_ends 1 = .ok (.bipush 59, 2) := by decide +kernel
theorem dX11_ends_3 : decode cX11_ends 3 = .ok (.invokevirtual 204, 3) := by decide +kernel
theorem dX11_ends_6 : decode cX11_ends 6 = .ok (.ifCond .ne 10, 3) := by decide +kernel
theorem dX11_ends_9 : decode cX11_ends 9 = .ok (.aload_n 0, 1) := by decide +kernel
theorem dX11_ends_10 : decode cX11_ends 10 = .ok (.invokevirtual 198, 3) := by decide +kernel
theorem dX11_ends_13 : decode cX11_ends 13 = .ok (.goto 7, 3) := by decide +kernel
theorem dX11_ends_16 : decode cX11_ends 16 = .ok (.aload_n 0, 1) := by decide +kernel
theorem dX11_ends_17 : decode cX11_ends 17 = .ok (.invokevirtual 201, 3) := by decide +kernel
theorem dX11_ends_20 : decode cX11_ends 20 = .ok (.return_, 1) := by decide +kernel
theorem dX11_lawOf_0 : decode cX11_lawOf 0 = .ok (.aload_n 0, 1) := by decide +kernel
theorem dX11_lawOf_1 : decode cX11_lawOf 1 = .ok (.bipush 114, 2) := by decide +kernel
theorem dX11_lawOf_3 : decode cX11_lawOf 3 = .ok (.bipush 111, 2) := by decide +kernel
theorem dX11_lawOf_5 : decode cX11_lawOf 5 = .ok (.bipush 117, 2) := by decide +kernel
theorem dX11_lawOf_7 : decode cX11_lawOf 7 = .ok (.bipush 110, 2) := by decide +kernel
theorem dX11_lawOf_9 : decode cX11_lawOf 9 = .ok (.bipush 100, 2) := by decide +kernel
theorem dX11_lawOf_11 : decode cX11_lawOf 11 = .ok (.iconst 0, 1) := by decide +kernel
theorem dX11_lawOf_12 : decode cX11_lawOf 12 = .ok (.iconst 0, 1) := by decide +kernel
theorem dX11_lawOf_13 : decode cX11_lawOf 13 = .ok (.invokestatic 228, 3) := by decide +kernel
theorem dX11_lawOf_16 : decode cX11_lawOf 16 = .ok (.invokevirtual 232, 3) := by decide +kernel
theorem dX11_lawOf_19 : decode cX11_lawOf 19 = .ok (.ifCond .eq 5, 3) := by decide +kernel
theorem dX11_lawOf_22 : decode cX11_lawOf 22 = .ok (.iconst 0, 1) := by decide +kernel
theorem dX11_lawOf_23 : decode cX11_lawOf 23 = .ok (.ireturn, 1) := by decide +kernel
theorem dX11_lawOf_24 : decode cX11_lawOf 24 = .ok (.aload_n 0, 1) := by decide +kernel
theorem dX11_lawOf_25 : decode cX11_lawOf 25 = .ok (.bipush 112, 2) := by decide +kernel
theorem dX11_lawOf_27 : decode cX11_lawOf 27 = .ok (.bipush 111, 2) := by decide +kernel
theorem dX11_lawOf_29 : decode cX11_lawOf 29 = .ok (.bipush 105, 2) := by decide +kernel
theorem dX11_lawOf_31 : decode cX11_lawOf 31 = .ok (.bipush 110, 2) := by decide +kernel
theorem dX11_lawOf_33 : decode cX11_lawOf 33 = .ok (.bipush 116, 2) := by decide +kernel
theorem dX11_lawOf_35 : decode cX11_lawOf 35 = .ok (.bipush 115, 2) := by decide +kernel
theorem dX11_lawOf_37 : decode cX11_lawOf 37 = .ok (.iconst 0, 1) := by decide +kernel
theorem dX11_lawOf_38 : decode cX11_lawOf 38 = .ok (.invokestatic 228, 3) := by decide +kernel
theorem dX11_lawOf_41 : decode cX11_lawOf 41 = .ok (.invokevirtual 232, 3) := by decide +kernel
theorem dX11_lawOf_44 : decode cX11_lawOf 44 = .ok (.ifCond .eq 5, 3) := by decide +kernel
theorem dX11_lawOf_47 : decode cX11_lawOf 47 = .ok (.iconst 1, 1) := by decide +kernel
theorem dX11_lawOf_48 : decode cX11_lawOf 48 = .ok (.ireturn, 1) := by decide +kernel
theorem dX11_lawOf_49 : decode cX11_lawOf 49 = .ok (.aload_n 0, 1) := by decide +kernel
theorem dX11_lawOf_50 : decode cX11_lawOf 50 = .ok (.bipush 107, 2) := by decide +kernel
theorem dX11_lawOf_52 : decode cX11_lawOf 52 = .ok (.bipush 101, 2) := by decide +kernel
theorem dX11_lawOf_54 : decode cX11_lawOf 54 = .ok (.bipush 121, 2) := by decide +kernel
theorem dX11_lawOf_56 : decode cX11_lawOf 56 = .ok (.bipush 115, 2) := by decide +kernel
theorem dX11_lawOf_58 : decode cX11_lawOf 58 = .ok (.iconst 0, 1) := by decide +kernel
theorem dX11_lawOf_59 : decode cX11_lawOf 59 = .ok (.iconst 0, 1) := by decide +kernel
theorem dX11_lawOf_60 : decode cX11_lawOf 60 = .ok (.iconst 0, 1) := by decide +kernel
theorem dX11_lawOf_61 : decode cX11_lawOf 61 = .ok (.invokestatic 228, 3) := by decide +kernel
theorem dX11_lawOf_64 : decode cX11_lawOf 64 = .ok (.invokevirtual 232, 3) := by decide +kernel
theorem dX11_lawOf_67 : decode cX11_lawOf 67 = .ok (.ifCond .eq 5, 3) := by decide +kernel
theorem dX11_lawOf_70 : decode cX11_lawOf 70 = .ok (.iconst 2, 1) := by decide +kernel
theorem dX11_lawOf_71 : decode cX11_lawOf 71 = .ok (.ireturn, 1) := by decide +kernel
theorem dX11_lawOf_72 : decode cX11_lawOf 72 = .ok (.aload_n 0, 1) := by decide +kernel
theorem dX11_lawOf_73 : decode cX11_lawOf 73 = .ok (.bipush 116, 2) := by decide +kernel
theorem dX11_lawOf_75 : decode cX11_lawOf 75 = .ok (.bipush 105, 2) := by decide +kernel
theorem dX11_lawOf_77 : decode cX11_lawOf 77 = .ok (.bipush 101, 2) := by decide +kernel
theorem dX11_lawOf_79 : decode cX11_lawOf 79 = .ok (.bipush 115, 2) := by decide +kernel
theorem dX11_lawOf_81 : decode cX11_lawOf 81 = .ok (.iconst 0, 1) := by decide +kernel
theorem dX11_lawOf_82 : decode cX11_lawOf 82 = .ok (.iconst 0, 1) := by decide +kernel
theorem dX11_lawOf_83 : decode cX11_lawOf 83 = .ok (.iconst 0, 1) := by decide +kernel
theorem dX11_lawOf_84 : decode cX11_lawOf 84 = .ok (.invokestatic 228, 3) := by decide +kernel
theorem dX11_lawOf_87 : decode cX11_lawOf 87 = .ok (.invokevirtual 232, 3) := by decide +kernel
theorem dX11_lawOf_90 : decode cX11_lawOf 90 = .ok (.ifCond .eq 7, 3) := by decide +kernel
theorem dX11_lawOf_93 : decode cX11_lawOf 93 = .ok (.iconst 3, 1) := by decide +kernel
theorem dX11_lawOf_94 : decode cX11_lawOf 94 = .ok (.goto 4, 3) := by decide +kernel
theorem dX11_lawOf_97 : decode cX11_lawOf 97 = .ok (.iconst (-1), 1) := by decide +kernel
theorem dX11_lawOf_98 : decode cX11_lawOf 98 = .ok (.ireturn, 1) := by decide +kernel
theorem dX11_nameOf_0 : decode cX11_nameOf 0 = .ok (.aload_n 0, 1) := by decide +kernel
theorem dX11_nameOf_1 : decode cX11_nameOf 1 = .ok (.bipush 116, 2) := by decide +kernel
theorem dX11_nameOf_3 : decode cX11_nameOf 3 = .ok (.bipush 111, 2) := by decide +kernel
theorem dX11_nameOf_5 : decode cX11_nameOf 5 = .ok (.bipush 112, 2) := by decide +kernel
theorem dX11_nameOf_7 : decode cX11_nameOf 7 = .ok (.iconst 0, 1) := by decide +kernel
theorem dX11_nameOf_8 : decode cX11_nameOf 8 = .ok (.iconst 0, 1) := by decide +kernel
theorem dX11_nameOf_9 : decode cX11_nameOf 9 = .ok (.iconst 0, 1) := by decide +kernel
theorem dX11_nameOf_10 : decode cX11_nameOf 10 = .ok (.iconst 0, 1) := by decide +kernel
theorem dX11_nameOf_11 : decode cX11_nameOf 11 = .ok (.invokestatic 228, 3) := by decide +kernel
theorem dX11_nameOf_14 : decode cX11_nameOf 14 = .ok (.invokevirtual 232, 3) := by decide +kernel
theorem dX11_nameOf_17 : decode cX11_nameOf 17 = .ok (.ifCond .eq 5, 3) := by decide +kernel
theorem dX11_nameOf_20 : decode cX11_nameOf 20 = .ok (.iconst 1, 1) := by decide +kernel
theorem dX11_nameOf_21 : decode cX11_nameOf 21 = .ok (.ireturn, 1) := by decide +kernel
theorem dX11_nameOf_22 : decode cX11_nameOf 22 = .ok (.aload_n 0, 1) := by decide +kernel
theorem dX11_nameOf_23 : decode cX11_nameOf 23 = .ok (.bipush 122, 2) := by decide +kernel
theorem dX11_nameOf_25 : decode cX11_nameOf 25 = .ok (.bipush 111, 2) := by decide +kernel
theorem dX11_nameOf_27 : decode cX11_nameOf 27 = .ok (.bipush 110, 2) := by decide +kernel
theorem dX11_nameOf_29 : decode cX11_nameOf 29 = .ok (.bipush 101, 2) := by decide +kernel
theorem dX11_nameOf_31 : decode cX11_nameOf 31 = .ok (.iconst 0, 1) := by decide +kernel
theorem dX11_nameOf_32 : decode cX11_nameOf 32 = .ok (.iconst 0, 1) := by decide +kernel
theorem dX11_nameOf_33 : decode cX11_nameOf 33 = .ok (.iconst 0, 1) := by decide +kernel
theorem dX11_nameOf_34 : decode cX11_nameOf 34 = .ok (.invokestatic 228, 3) := by decide +kernel
theorem dX11_nameOf_37 : decode cX11_nameOf 37 = .ok (.invokevirtual 232, 3) := by decide +kernel
theorem dX11_nameOf_40 : decode cX11_nameOf 40 = .ok (.ifCond .eq 5, 3) := by decide +kernel
theorem dX11_nameOf_43 : decode cX11_nameOf 43 = .ok (.iconst 2, 1) := by decide +kernel
theorem dX11_nameOf_44 : decode cX11_nameOf 44 = .ok (.ireturn, 1) := by decide +kernel
theorem dX11_nameOf_45 : decode cX11_nameOf 45 = .ok (.aload_n 0, 1) := by decide +kernel
theorem dX11_nameOf_46 : decode cX11_nameOf 46 = .ok (.bipush 104, 2) := by decide +kernel
theorem dX11_nameOf_48 : decode cX11_nameOf 48 = .ok (.bipush 111, 2) := by decide +kernel
theorem dX11_nameOf_50 : decode cX11_nameOf 50 = .ok (.bipush 108, 2) := by decide +kernel
theorem dX11_nameOf_52 : decode cX11_nameOf 52 = .ok (.bipush 100, 2) := by decide +kernel
theorem dX11_nameOf_54 : decode cX11_nameOf 54 = .ok (.iconst 0, 1) := by decide +kernel
theorem dX11_nameOf_55 : decode cX11_nameOf 55 = .ok (.iconst 0, 1) := by decide +kernel
theorem dX11_nameOf_56 : decode cX11_nameOf 56 = .ok (.iconst 0, 1) := by decide +kernel
theorem dX11_nameOf_57 : decode cX11_nameOf 57 = .ok (.invokestatic 228, 3) := by decide +kernel
theorem dX11_nameOf_60 : decode cX11_nameOf 60 = .ok (.invokevirtual 232, 3) := by decide +kernel
theorem dX11_nameOf_63 : decode cX11_nameOf 63 = .ok (.ifCond .eq 5, 3) := by decide +kernel
theorem dX11_nameOf_66 : decode cX11_nameOf 66 = .ok (.iconst 3, 1) := by decide +kernel
theorem dX11_nameOf_67 : decode cX11_nameOf 67 = .ok (.ireturn, 1) := by decide +kernel
theorem dX11_nameOf_68 : decode cX11_nameOf 68 = .ok (.aload_n 0, 1) := by decide +kernel
theorem dX11_nameOf_69 : decode cX11_nameOf 69 = .ok (.bipush 116, 2) := by decide +kernel
theorem dX11_nameOf_71 : decode cX11_nameOf 71 = .ok (.bipush 114, 2) := by decide +kernel
theorem dX11_nameOf_73 : decode cX11_nameOf 73 = .ok (.bipush 105, 2) := by decide +kernel
theorem dX11_nameOf_75 : decode cX11_nameOf 75 = .ok (.bipush 101, 2) := by decide +kernel
theorem dX11_nameOf_77 : decode cX11_nameOf 77 = .ok (.bipush 115, 2) := by decide +kernel
theorem dX11_nameOf_79 : decode cX11_nameOf 79 = .ok (.iconst 0, 1) := by decide +kernel
theorem dX11_nameOf_80 : decode cX11_nameOf 80 = .ok (.iconst 0, 1) := by decide +kernel
theorem dX11_nameOf_81 : decode cX11_nameOf 81 = .ok (.invokestatic 228, 3) := by decide +kernel
theorem dX11_nameOf_84 : decode cX11_nameOf 84 = .ok (.invokevirtual 232, 3) := by decide +kernel
theorem dX11_nameOf_87 : decode cX11_nameOf 87 = .ok (.ifCond .eq 5, 3) := by decide +kernel
theorem dX11_nameOf_90 : decode cX11_nameOf 90 = .ok (.iconst 4, 1) := by decide +kernel
theorem dX11_nameOf_91 : decode cX11_nameOf 91 = .ok (.ireturn, 1) := by decide +kernel
theorem dX11_nameOf_92 : decode cX11_nameOf 92 = .ok (.aload_n 0, 1) := by decide +kernel
theorem dX11_nameOf_93 : decode cX11_nameOf 93 = .ok (.bipush 115, 2) := by decide +kernel
theorem dX11_nameOf_95 : decode cX11_nameOf 95 = .ok (.bipush 101, 2) := by decide +kernel
theorem dX11_nameOf_97 : decode cX11_nameOf 97 = .ok (.bipush 99, 2) := by decide +kernel
theorem dX11_nameOf_99 : decode cX11_nameOf 99 = .ok (.bipush 111, 2) := by decide +kernel
theorem dX11_nameOf_101 : decode cX11_nameOf 101 = .ok (.bipush 110, 2) := by decide +kernel
theorem dX11_nameOf_103 : decode cX11_nameOf 103 = .ok (.bipush 100, 2) := by decide +kernel
theorem dX11_nameOf_105 : decode cX11_nameOf 105 = .ok (.bipush 115, 2) := by decide +kernel
theorem dX11_nameOf_107 : decode cX11_nameOf 107 = .ok (.invokestatic 228, 3) := by decide +kernel
theorem dX11_nameOf_110 : decode cX11_nameOf 110 = .ok (.invokevirtual 232, 3) := by decide +kernel
theorem dX11_nameOf_113 : decode cX11_nameOf 113 = .ok (.ifCond .eq 5, 3) := by decide +kernel
theorem dX11_nameOf_116 : decode cX11_nameOf 116 = .ok (.iconst 5, 1) := by decide +kernel
theorem dX11_nameOf_117 : decode cX11_nameOf 117 = .ok (.ireturn, 1) := by decide +kernel
theorem dX11_nameOf_118 : decode cX11_nameOf 118 = .ok (.aload_n 0, 1) := by decide +kernel
theorem dX11_nameOf_119 : decode cX11_nameOf 119 = .ok (.bipush 102, 2) := by decide +kernel
theorem dX11_nameOf_121 : decode cX11_nameOf 121 = .ok (.bipush 108, 2) := by decide +kernel
theorem dX11_nameOf_123 : decode cX11_nameOf 123 = .ok (.bipush 97, 2) := by decide +kernel
theorem dX11_nameOf_125 : decode cX11_nameOf 125 = .ok (.bipush 115, 2) := by decide +kernel
theorem dX11_nameOf_127 : decode cX11_nameOf 127 = .ok (.bipush 104, 2) := by decide +kernel
theorem dX11_nameOf_129 : decode cX11_nameOf 129 = .ok (.iconst 0, 1) := by decide +kernel
theorem dX11_nameOf_130 : decode cX11_nameOf 130 = .ok (.iconst 0, 1) := by decide +kernel
theorem dX11_nameOf_131 : decode cX11_nameOf 131 = .ok (.invokestatic 228, 3) := by decide +kernel
theorem dX11_nameOf_134 : decode cX11_nameOf 134 = .ok (.invokevirtual 232, 3) := by decide +kernel
theorem dX11_nameOf_137 : decode cX11_nameOf 137 = .ok (.ifCond .eq 8, 3) := by decide +kernel
theorem dX11_nameOf_140 : decode cX11_nameOf 140 = .ok (.bipush 6, 2) := by decide +kernel
theorem dX11_nameOf_142 : decode cX11_nameOf 142 = .ok (.goto 4, 3) := by decide +kernel
theorem dX11_nameOf_145 : decode cX11_nameOf 145 = .ok (.iconst (-1), 1) := by decide +kernel
theorem dX11_nameOf_146 : decode cX11_nameOf 146 = .ok (.ireturn, 1) := by decide +kernel
theorem dX11_counts_0 : decode cX11_counts 0 = .ok (.aload_n 0, 1) := by decide +kernel
theorem dX11_counts_1 : decode cX11_counts 1 = .ok (.getfield 249, 3) := by decide +kernel
theorem dX11_counts_4 : decode cX11_counts 4 = .ok (.bipush 40, 2) := by decide +kernel
theorem dX11_counts_6 : decode cX11_counts 6 = .ok (.if_icmp .ne 12, 3) := by decide +kernel
theorem dX11_counts_9 : decode cX11_counts 9 = .ok (.aload_n 0, 1) := by decide +kernel
theorem dX11_counts_10 : decode cX11_counts 10 = .ok (.iconst 3, 1) := by decide +kernel
theorem dX11_counts_11 : decode cX11_counts 11 = .ok (.aload_n 0, 1) := by decide +kernel
theorem dX11_counts_12 : decode cX11_counts 12 = .ok (.getfield 158, 3) := by decide +kernel
theorem dX11_counts_15 : decode cX11_counts 15 = .ok (.invokevirtual 194, 3) := by decide +kernel
theorem dX11_counts_18 : decode cX11_counts 18 = .ok (.aload_n 0, 1) := by decide +kernel
theorem dX11_counts_19 : decode cX11_counts 19 = .ok (.dup, 1) := by decide +kernel
theorem dX11_counts_20 : decode cX11_counts 20 = .ok (.getfield 249, 3) := by decide +kernel
theorem dX11_counts_23 : decode cX11_counts 23 = .ok (.iconst 1, 1) := by decide +kernel
theorem dX11_counts_24 : decode cX11_counts 24 = .ok (.iadd, 1) := by decide +kernel
theorem dX11_counts_25 : decode cX11_counts 25 = .ok (.putfield 249, 3) := by decide +kernel
theorem dX11_counts_28 : decode cX11_counts 28 = .ok (.return_, 1) := by decide +kernel
theorem dX11_puts_0 : decode cX11_puts 0 = .ok (.aload_n 0, 1) := by decide +kernel
theorem dX11_puts_1 : decode cX11_puts 1 = .ok (.getfield 51, 3) := by decide +kernel
theorem dX11_puts_4 : decode cX11_puts 4 = .ok (.aload_n 0, 1) := by decide +kernel
theorem dX11_puts_5 : decode cX11_puts 5 = .ok (.getfield 217, 3) := by decide +kernel
theorem dX11_puts_8 : decode cX11_puts 8 = .ok (.iload_n 1, 1) := by decide +kernel
theorem dX11_puts_9 : decode cX11_puts 9 = .ok (.iastore, 1) := by decide +kernel
theorem dX11_puts_10 : decode cX11_puts 10 = .ok (.aload_n 0, 1) := by decide +kernel
theorem dX11_puts_11 : decode cX11_puts 11 = .ok (.getfield 54, 3) := by decide +kernel
theorem dX11_puts_14 : decode cX11_puts 14 = .ok (.aload_n 0, 1) := by decide +kernel
theorem dX11_puts_15 : decode cX11_puts 15 = .ok (.getfield 217, 3) := by decide +kernel
theorem dX11_puts_18 : decode cX11_puts 18 = .ok (.iload_n 2, 1) := by decide +kernel
theorem dX11_puts_19 : decode cX11_puts 19 = .ok (.iastore, 1) := by decide +kernel
theorem dX11_puts_20 : decode cX11_puts 20 = .ok (.aload_n 0, 1) := by decide +kernel
theorem dX11_puts_21 : decode cX11_puts 21 = .ok (.dup, 1) := by decide +kernel
theorem dX11_puts_22 : decode cX11_puts 22 = .ok (.getfield 217, 3) := by decide +kernel
theorem dX11_puts_25 : decode cX11_puts 25 = .ok (.iconst 1, 1) := by decide +kernel
theorem dX11_puts_26 : decode cX11_puts 26 = .ok (.iadd, 1) := by decide +kernel
theorem dX11_puts_27 : decode cX11_puts 27 = .ok (.putfield 217, 3) := by decide +kernel
theorem dX11_puts_30 : decode cX11_puts 30 = .ok (.return_, 1) := by decide +kernel
theorem dX11_deeper_0 : decode cX11_deeper 0 = .ok (.aload_n 0, 1) := by decide +kernel
theorem dX11_deeper_1 : decode cX11_deeper 1 = .ok (.getfield 252, 3) := by decide +kernel
theorem dX11_deeper_4 : decode cX11_deeper 4 = .ok (.bipush 8, 2) := by decide +kernel
theorem dX11_deeper_6 : decode cX11_deeper 6 = .ok (.if_icmp .ne 12, 3) := by decide +kernel
theorem dX11_deeper_9 : decode cX11_deeper 9 = .ok (.aload_n 0, 1) := by decide +kernel
theorem dX11_deeper_10 : decode cX11_deeper 10 = .ok (.iconst 3, 1) := by decide +kernel
theorem dX11_deeper_11 : decode cX11_deeper 11 = .ok (.aload_n 0, 1) := by decide +kernel
theorem dX11_deeper_12 : decode cX11_deeper 12 = .ok (.getfield 158, 3) := by decide +kernel
theorem dX11_deeper_15 : decode cX11_deeper 15 = .ok (.invokevirtual 194, 3) := by decide +kernel
theorem dX11_deeper_18 : decode cX11_deeper 18 = .ok (.aload_n 0, 1) := by decide +kernel
theorem dX11_deeper_19 : decode cX11_deeper 19 = .ok (.dup, 1) := by decide +kernel
theorem dX11_deeper_20 : decode cX11_deeper 20 = .ok (.getfield 252, 3) := by decide +kernel
theorem dX11_deeper_23 : decode cX11_deeper 23 = .ok (.iconst 1, 1) := by decide +kernel
theorem dX11_deeper_24 : decode cX11_deeper 24 = .ok (.iadd, 1) := by decide +kernel
theorem dX11_deeper_25 : decode cX11_deeper 25 = .ok (.putfield 252, 3) := by decide +kernel
theorem dX11_deeper_28 : decode cX11_deeper 28 = .ok (.return_, 1) := by decide +kernel
theorem dX11_waitFor_0 : decode cX11_waitFor 0 = .ok (.aload_n 0, 1) := by decide +kernel
theorem dX11_waitFor_1 : decode cX11_waitFor 1 = .ok (.getfield 70, 3) := by decide +kernel
theorem dX11_waitFor_4 : decode cX11_waitFor 4 = .ok (.aload_n 0, 1) := by decide +kernel
theorem dX11_waitFor_5 : decode cX11_waitFor 5 = .ok (.getfield 255, 3) := by decide +kernel
theorem dX11_waitFor_8 : decode cX11_waitFor 8 = .ok (.iload_n 1, 1) := by decide +kernel
theorem dX11_waitFor_9 : decode cX11_waitFor 9 = .ok (.iastore, 1) := by decide +kernel
theorem dX11_waitFor_10 : decode cX11_waitFor 10 = .ok (.aload_n 0, 1) := by decide +kernel
theorem dX11_waitFor_11 : decode cX11_waitFor 11 = .ok (.dup, 1) := by decide +kernel
theorem dX11_waitFor_12 : decode cX11_waitFor 12 = .ok (.getfield 255, 3) := by decide +kernel
theorem dX11_waitFor_15 : decode cX11_waitFor 15 = .ok (.iconst 1, 1) := by decide +kernel
theorem dX11_waitFor_16 : decode cX11_waitFor 16 = .ok (.iadd, 1) := by decide +kernel
theorem dX11_waitFor_17 : decode cX11_waitFor 17 = .ok (.putfield 255, 3) := by decide +kernel
theorem dX11_waitFor_20 : decode cX11_waitFor 20 = .ok (.return_, 1) := by decide +kernel
theorem dX11_strong_0 : decode cX11_strong 0 = .ok (.iload_n 0, 1) := by decide +kernel
theorem dX11_strong_1 : decode cX11_strong 1 = .ok (.bipush 9, 2) := by decide +kernel
theorem dX11_strong_3 : decode cX11_strong 3 = .ok (.if_icmp .ne 7, 3) := by decide +kernel
theorem dX11_strong_6 : decode cX11_strong 6 = .ok (.iconst 2, 1) := by decide +kernel
theorem dX11_strong_7 : decode cX11_strong 7 = .ok (.goto 14, 3) := by decide +kernel
theorem dX11_strong_10 : decode cX11_strong 10 = .ok (.iload_n 0, 1) := by decide +kernel
theorem dX11_strong_11 : decode cX11_strong 11 = .ok (.bipush 9, 2) := by decide +kernel
theorem dX11_strong_13 : decode cX11_strong 13 = .ok (.if_icmp .ge 7, 3) := by decide +kernel
theorem dX11_strong_16 : decode cX11_strong 16 = .ok (.iconst 1, 1) := by decide +kernel
theorem dX11_strong_17 : decode cX11_strong 17 = .ok (.goto 4, 3) := by decide +kernel
theorem dX11_strong_20 : decode cX11_strong 20 = .ok (.iconst 0, 1) := by decide +kernel
theorem dX11_strong_21 : decode cX11_strong 21 = .ok (.ireturn, 1) := by decide +kernel
theorem dX11_reduce_0 : decode cX11_reduce 0 = .ok (.aload_n 0, 1) := by decide +kernel
theorem dX11_reduce_1 : decode cX11_reduce 1 = .ok (.getfield 255, 3) := by decide +kernel
theorem dX11_reduce_4 : decode cX11_reduce 4 = .ok (.ifCond .le 64, 3) := by decide +kernel
theorem dX11_reduce_7 : decode cX11_reduce 7 = .ok (.aload_n 0, 1) := by decide +kernel
theorem dX11_reduce_8 : decode cX11_reduce 8 = .ok (.getfield 70, 3) := by decide +kernel
theorem dX11_reduce_11 : decode cX11_reduce 11 = .ok (.aload_n 0, 1) := by decide +kernel
theorem dX11_reduce_12 : decode cX11_reduce 12 = .ok (.getfield 255, 3) := by decide +kernel
theorem dX11_reduce_15 : decode cX11_reduce 15 = .ok (.iconst 1, 1) := by decide +kernel
theorem dX11_reduce_16 : decode cX11_reduce 16 = .ok (.isub, 1) := by decide +kernel
theorem dX11_reduce_17 : decode cX11_reduce 17 = .ok (.iaload, 1) := by decide +kernel
theorem dX11_reduce_18 : decode cX11_reduce 18 = .ok (.bipush 10, 2) := by decide +kernel
theorem dX11_reduce_20 : decode cX11_reduce 20 = .ok (.if_icmp .ge 48, 3) := by decide +kernel
theorem dX11_reduce_23 : decode cX11_reduce 23 = .ok (.aload_n 0, 1) := by decide +kernel
theorem dX11_reduce_24 : decode cX11_reduce 24 = .ok (.getfield 70, 3) := by decide +kernel
theorem dX11_reduce_27 : decode cX11_reduce 27 = .ok (.aload_n 0, 1) := by decide +kernel
theorem dX11_reduce_28 : decode cX11_reduce 28 = .ok (.getfield 255, 3) := by decide +kernel
theorem dX11_reduce_31 : decode cX11_reduce 31 = .ok (.iconst 1, 1) := by decide +kernel
theorem dX11_reduce_32 : decode cX11_reduce 32 = .ok (.isub, 1) := by decide +kernel
theorem dX11_reduce_33 : decode cX11_reduce 33 = .ok (.iaload, 1) := by decide +kernel
theorem dX11_reduce_34 : decode cX11_reduce 34 = .ok (.invokestatic 258, 3) := by decide +kernel
theorem dX11_reduce_37 : decode cX11_reduce 37 = .ok (.iload_n 1, 1) := by decide +kernel
theorem dX11_reduce_38 : decode cX11_reduce 38 = .ok (.if_icmp .lt 30, 3) := by decide +kernel
theorem dX11_reduce_41 : decode cX11_reduce 41 = .ok (.aload_n 0, 1) := by decide +kernel
theorem dX11_reduce_42 : decode cX11_reduce 42 = .ok (.dup, 1) := by decide +kernel
theorem dX11_reduce_43 : decode cX11_reduce 43 = .ok (.getfield 255, 3) := by decide +kernel
theorem dX11_reduce_46 : decode cX11_reduce 46 = .ok (.iconst 1, 1) := by decide +kernel
theorem dX11_reduce_47 : decode cX11_reduce 47 = .ok (.isub, 1) := by decide +kernel
theorem dX11_reduce_48 : decode cX11_reduce 48 = .ok (.putfield 255, 3) := by decide +kernel
theorem dX11_reduce_51 : decode cX11_reduce 51 = .ok (.aload_n 0, 1) := by decide +kernel
theorem dX11_reduce_52 : decode cX11_reduce 52 = .ok (.aload_n 0, 1) := by decide +kernel
theorem dX11_reduce_53 : decode cX11_reduce 53 = .ok (.getfield 70, 3) := by decide +kernel
theorem dX11_reduce_56 : decode cX11_reduce 56 = .ok (.aload_n 0, 1) := by decide +kernel
theorem dX11_reduce_57 : decode cX11_reduce 57 = .ok (.getfield 255, 3) := by decide +kernel
theorem dX11_reduce_60 : decode cX11_reduce 60 = .ok (.iaload, 1) := by decide +kernel
theorem dX11_reduce_61 : decode cX11_reduce 61 = .ok (.iconst 0, 1) := by decide +kernel
theorem dX11_reduce_62 : decode cX11_reduce 62 = .ok (.invokevirtual 261, 3) := by decide +kernel
theorem dX11_reduce_65 : decode cX11_reduce 65 = .ok (.goto (-65), 3) := by decide +kernel
theorem dX11_reduce_68 : decode cX11_reduce 68 = .ok (.return_, 1) := by decide +kernel
theorem dX11_isOpen_0 : decode cX11_isOpen 0 = .ok (.iconst 0, 1) := by decide +kernel
theorem dX11_isOpen_1 : decode cX11_isOpen 1 = .ok (.istore_n 1, 1) := by decide +kernel
theorem dX11_isOpen_2 : decode cX11_isOpen 2 = .ok (.iload_n 1, 1) := by decide +kernel
theorem dX11_isOpen_3 : decode cX11_isOpen 3 = .ok (.aload_n 0, 1) := by decide +kernel
theorem dX11_isOpen_4 : decode cX11_isOpen 4 = .ok (.getfield 255, 3) := by decide +kernel
theorem dX11_isOpen_7 : decode cX11_isOpen 7 = .ok (.if_icmp .ge 22, 3) := by decide +kernel
theorem dX11_isOpen_10 : decode cX11_isOpen 10 = .ok (.aload_n 0, 1) := by decide +kernel
theorem dX11_isOpen_11 : decode cX11_isOpen 11 = .ok (.getfield 70, 3) := by decide +kernel
theorem dX11_isOpen_14 : decode cX11_isOpen 14 = .ok (.iload_n 1, 1) := by decide +kernel
theorem dX11_isOpen_15 : decode cX11_isOpen 15 = .ok (.iaload, 1) := by decide +kernel
theorem dX11_isOpen_16 : decode cX11_isOpen 16 = .ok (.bipush 11, 2) := by decide +kernel
theorem dX11_isOpen_18 : decode cX11_isOpen 18 = .ok (.if_icmp .ne 5, 3) := by decide +kernel
theorem dX11_isOpen_21 : decode cX11_isOpen 21 = .ok (.iconst 1, 1) := by decide +kernel
theorem dX11_isOpen_22 : decode cX11_isOpen 22 = .ok (.ireturn, 1) := by decide +kernel
theorem dX11_isOpen_23 : decode cX11_isOpen 23 = .ok (.iinc 1 1, 3) := by decide +kernel
theorem dX11_isOpen_26 : decode cX11_isOpen 26 = .ok (.goto (-24), 3) := by decide +kernel
theorem dX11_isOpen_29 : decode cX11_isOpen 29 = .ok (.iconst 0, 1) := by decide +kernel
theorem dX11_isOpen_30 : decode cX11_isOpen 30 = .ok (.ireturn, 1) := by decide +kernel
theorem dX11_wholes_0 : decode cX11_wholes 0 = .ok (.aload_n 0, 1) := by decide +kernel
theorem dX11_wholes_1 : decode cX11_wholes 1 = .ok (.getfield 255, 3) := by decide +kernel
theorem dX11_wholes_4 : decode cX11_wholes 4 = .ok (.ifCond .le 49, 3) := by decide +kernel
theorem dX11_wholes_7 : decode cX11_wholes 7 = .ok (.aload_n 0, 1) := by decide +kernel
theorem dX11_wholes_8 : decode cX11_wholes 8 = .ok (.getfield 70, 3) := by decide +kernel
theorem dX11_wholes_11 : decode cX11_wholes 11 = .ok (.aload_n 0, 1) := by decide +kernel
theorem dX11_wholes_12 : decode cX11_wholes 12 = .ok (.getfield 255, 3) := by decide +kernel
theorem dX11_wholes_15 : decode cX11_wholes 15 = .ok (.iconst 1, 1) := by decide +kernel
theorem dX11_wholes_16 : decode cX11_wholes 16 = .ok (.isub, 1) := by decide +kernel
theorem dX11_wholes_17 : decode cX11_wholes 17 = .ok (.iaload, 1) := by decide +kernel
theorem dX11_wholes_18 : decode cX11_wholes 18 = .ok (.bipush 10, 2) := by decide +kernel
theorem dX11_wholes_20 : decode cX11_wholes 20 = .ok (.if_icmp .ne 33, 3) := by decide +kernel
theorem dX11_wholes_23 : decode cX11_wholes 23 = .ok (.aload_n 0, 1) := by decide +kernel
theorem dX11_wholes_24 : decode cX11_wholes 24 = .ok (.dup, 1) := by decide +kernel
theorem dX11_wholes_25 : decode cX11_wholes 25 = .ok (.getfield 255, 3) := by decide +kernel
theorem dX11_wholes_28 : decode cX11_wholes 28 = .ok (.iconst 1, 1) := by decide +kernel
theorem dX11_wholes_29 : decode cX11_wholes 29 = .ok (.isub, 1) := by decide +kernel
theorem dX11_wholes_30 : decode cX11_wholes 30 = .ok (.putfield 255, 3) := by decide +kernel
theorem dX11_wholes_33 : decode cX11_wholes 33 = .ok (.aload_n 0, 1) := by decide +kernel
theorem dX11_wholes_34 : decode cX11_wholes 34 = .ok (.dup, 1) := by decide +kernel
theorem dX11_wholes_35 : decode cX11_wholes 35 = .ok (.getfield 252, 3) := by decide +kernel
theorem dX11_wholes_38 : decode cX11_wholes 38 = .ok (.iconst 1, 1) := by decide +kernel
theorem dX11_wholes_39 : decode cX11_wholes 39 = .ok (.isub, 1) := by decide +kernel
theorem dX11_wholes_40 : decode cX11_wholes 40 = .ok (.putfield 252, 3) := by decide +kernel
theorem dX11_wholes_43 : decode cX11_wholes 43 = .ok (.aload_n 0, 1) := by decide +kernel
theorem dX11_wholes_44 : decode cX11_wholes 44 = .ok (.bipush 10, 2) := by decide +kernel
theorem dX11_wholes_46 : decode cX11_wholes 46 = .ok (.iconst 0, 1) := by decide +kernel
theorem dX11_wholes_47 : decode cX11_wholes 47 = .ok (.invokevirtual 261, 3) := by decide +kernel
theorem dX11_wholes_50 : decode cX11_wholes 50 = .ok (.goto (-50), 3) := by decide +kernel
theorem dX11_wholes_53 : decode cX11_wholes 53 = .ok (.return_, 1) := by decide +kernel
