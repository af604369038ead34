theorem dX11_load_0 : decode cX11_load 0 = .ok (.aload_n 0, 1) := by decide +kernel
theorem dX11_load_1 : decode cX11_load 1 = .ok (.iconst 0, 1) := by decide +kernel
theorem dX11_load_2 : decode cX11_load 2 = .ok (.putfield 146, 3) := by decide +kernel
theorem dX11_load_5 : decode cX11_load 5 = .ok (.aload_n 0, 1) := by decide +kernel
theorem dX11_load_6 : decode cX11_load 6 = .ok (.iconst 0, 1) := by decide +kernel
theorem dX11_load_7 : decode cX11_load 7 = .ok (.putfield 149, 3) := by decide +kernel
theorem dX11_load_10 : decode cX11_load 10 = .ok (.iload_n 1, 1) := by decide +kernel
theorem dX11_load_11 : decode cX11_load 11 = .ok (.ifCond .lt 11, 3) := by decide +kernel
theorem dX11_load_14 : decode cX11_load 14 = .ok (.iload_n 1, 1) := by decide +kernel
theorem dX11_load_15 : decode cX11_load 15 = .ok (.aload_n 0, 1) := by decide +kernel
theorem dX11_load_16 : decode cX11_load 16 = .ok (.getfield 289, 3) := by decide +kernel
theorem dX11_load_19 : decode cX11_load 19 = .ok (.if_icmp .le 9, 3) := by decide +kernel
theorem dX11_load_22 : decode cX11_load 22 = .ok (.aload_n 0, 1) := by decide +kernel
theorem dX11_load_23 : decode cX11_load 23 = .ok (.iconst 2, 1) := by decide +kernel
theorem dX11_load_24 : decode cX11_load 24 = .ok (.invokevirtual 295, 3) := by decide +kernel
theorem dX11_load_27 : decode cX11_load 27 = .ok (.ireturn, 1) := by decide +kernel
theorem dX11_load_28 : decode cX11_load 28 = .ok (.aload_n 0, 1) := by decide +kernel
theorem dX11_load_29 : decode cX11_load 29 = .ok (.iload_n 1, 1) := by decide +kernel
theorem dX11_load_30 : decode cX11_load 30 = .ok (.putfield 152, 3) := by decide +kernel
theorem dX11_load_33 : decode cX11_load 33 = .ok (.aload_n 0, 1) := by decide +kernel
theorem dX11_load_34 : decode cX11_load 34 = .ok (.iconst 0, 1) := by decide +kernel
theorem dX11_load_35 : decode cX11_load 35 = .ok (.putfield 289, 3) := by decide +kernel
theorem dX11_load_38 : decode cX11_load 38 = .ok (.aload_n 0, 1) := by decide +kernel
theorem dX11_load_39 : decode cX11_load 39 = .ok (.iconst 0, 1) := by decide +kernel
theorem dX11_load_40 : decode cX11_load 40 = .ok (.putfield 155, 3) := by decide +kernel
theorem dX11_load_43 : decode cX11_load 43 = .ok (.aload_n 0, 1) := by decide +kernel
theorem dX11_load_44 : decode cX11_load 44 = .ok (.iconst 0, 1) := by decide +kernel
theorem dX11_load_45 : decode cX11_load 45 = .ok (.putfield 188, 3) := by decide +kernel
theorem dX11_load_48 : decode cX11_load 48 = .ok (.aload_n 0, 1) := by decide +kernel
theorem dX11_load_49 : decode cX11_load 49 = .ok (.invokevirtual 298, 3) := by decide +kernel
theorem dX11_load_52 : decode cX11_load 52 = .ok (.aload_n 0, 1) := by decide +kernel
theorem dX11_load_53 : decode cX11_load 53 = .ok (.aload_n 0, 1) := by decide +kernel
theorem dX11_load_54 : decode cX11_load 54 = .ok (.getfield 188, 3) := by decide +kernel
theorem dX11_load_57 : decode cX11_load 57 = .ok (.putfield 13, 3) := by decide +kernel
theorem dX11_load_60 : decode cX11_load 60 = .ok (.aload_n 0, 1) := by decide +kernel
theorem dX11_load_61 : decode cX11_load 61 = .ok (.aload_n 0, 1) := by decide +kernel
theorem dX11_load_62 : decode cX11_load 62 = .ok (.getfield 188, 3) := by decide +kernel
theorem dX11_load_65 : decode cX11_load 65 = .ok (.ifCond .ne 7, 3) := by decide +kernel
theorem dX11_load_68 : decode cX11_load 68 = .ok (.iconst (-1), 1) := by decide +kernel
theorem dX11_load_69 : decode cX11_load 69 = .ok (.goto 7, 3) := by decide +kernel
theorem dX11_load_72 : decode cX11_load 72 = .ok (.aload_n 0, 1) := by decide +kernel
theorem dX11_load_73 : decode cX11_load 73 = .ok (.getfield 191, 3) := by decide +kernel
theorem dX11_load_76 : decode cX11_load 76 = .ok (.putfield 17, 3) := by decide +kernel
theorem dX11_load_79 : decode cX11_load 79 = .ok (.aload_n 0, 1) := by decide +kernel
theorem dX11_load_80 : decode cX11_load 80 = .ok (.getfield 188, 3) := by decide +kernel
theorem dX11_load_83 : decode cX11_load 83 = .ok (.ifCond .le 10, 3) := by decide +kernel
theorem dX11_load_86 : decode cX11_load 86 = .ok (.aload_n 0, 1) := by decide +kernel
theorem dX11_load_87 : decode cX11_load 87 = .ok (.bipush 10, 2) := by decide +kernel
theorem dX11_load_89 : decode cX11_load 89 = .ok (.invokevirtual 295, 3) := by decide +kernel
theorem dX11_load_92 : decode cX11_load 92 = .ok (.ireturn, 1) := by decide +kernel
theorem dX11_load_93 : decode cX11_load 93 = .ok (.aload_n 0, 1) := by decide +kernel
theorem dX11_load_94 : decode cX11_load 94 = .ok (.aload_n 0, 1) := by decide +kernel
theorem dX11_load_95 : decode cX11_load 95 = .ok (.getfield 207, 3) := by decide +kernel
theorem dX11_load_98 : decode cX11_load 98 = .ok (.putfield 301, 3) := by decide +kernel
theorem dX11_load_101 : decode cX11_load 101 = .ok (.aload_n 0, 1) := by decide +kernel
theorem dX11_load_102 : decode cX11_load 102 = .ok (.aload_n 0, 1) := by decide +kernel
theorem dX11_load_103 : decode cX11_load 103 = .ok (.getfield 217, 3) := by decide +kernel
theorem dX11_load_106 : decode cX11_load 106 = .ok (.putfield 304, 3) := by decide +kernel
theorem dX11_load_109 : decode cX11_load 109 = .ok (.aload_n 0, 1) := by decide +kernel
theorem dX11_load_110 : decode cX11_load 110 = .ok (.aload_n 0, 1) := by decide +kernel
theorem dX11_load_111 : decode cX11_load 111 = .ok (.getfield 214, 3) := by decide +kernel
theorem dX11_load_114 : decode cX11_load 114 = .ok (.putfield 307, 3) := by decide +kernel
theorem dX11_load_117 : decode cX11_load 117 = .ok (.aload_n 0, 1) := by decide +kernel
theorem dX11_load_118 : decode cX11_load 118 = .ok (.aload_n 0, 1) := by decide +kernel
theorem dX11_load_119 : decode cX11_load 119 = .ok (.getfield 210, 3) := by decide +kernel
theorem dX11_load_122 : decode cX11_load 122 = .ok (.putfield 310, 3) := by decide +kernel
theorem dX11_load_125 : decode cX11_load 125 = .ok (.iconst 0, 1) := by decide +kernel
theorem dX11_load_126 : decode cX11_load 126 = .ok (.istore_n 2, 1) := by decide +kernel
theorem dX11_load_127 : decode cX11_load 127 = .ok (.iload_n 2, 1) := by decide +kernel
theorem dX11_load_128 : decode cX11_load 128 = .ok (.aload_n 0, 1) := by decide +kernel
theorem dX11_load_129 : decode cX11_load 129 = .ok (.getfield 301, 3) := by decide +kernel
theorem dX11_load_132 : decode cX11_load 132 = .ok (.if_icmp .ge 57, 3) := by decide +kernel
theorem dX11_load_135 : decode cX11_load 135 = .ok (.aload_n 0, 1) := by decide +kernel
theorem dX11_load_136 : decode cX11_load 136 = .ok (.getfield 20, 3) := by decide +kernel
theorem dX11_load_139 : decode cX11_load 139 = .ok (.iload_n 2, 1) := by decide +kernel
theorem dX11_load_140 : decode cX11_load 140 = .ok (.aload_n 0, 1) := by decide +kernel
theorem dX11_load_141 : decode cX11_load 141 = .ok (.getfield 33, 3) := by decide +kernel
theorem dX11_load_144 : decode cX11_load 144 = .ok (.iload_n 2, 1) := by decide +kernel
theorem dX11_load_145 : decode cX11_load 145 = .ok (.iaload, 1) := by decide +kernel
theorem dX11_load_146 : decode cX11_load 146 = .ok (.iastore, 1) := by decide +kernel
theorem dX11_load_147 : decode cX11_load 147 = .ok (.aload_n 0, 1) := by decide +kernel
theorem dX11_load_148 : decode cX11_load 148 = .ok (.getfield 24, 3) := by decide +kernel
theorem dX11_load_151 : decode cX11_load 151 = .ok (.iload_n 2, 1) := by decide +kernel
theorem dX11_load_152 : decode cX11_load 152 = .ok (.aload_n 0, 1) := by decide +kernel
theorem dX11_load_153 : decode cX11_load 153 = .ok (.getfield 36, 3) := by decide +kernel
theorem dX11_load_156 : decode cX11_load 156 = .ok (.iload_n 2, 1) := by decide +kernel
theorem dX11_load_157 : decode cX11_load 157 = .ok (.iaload, 1) := by decide +kernel
theorem dX11_load_158 : decode cX11_load 158 = .ok (.iastore, 1) := by decide +kernel
theorem dX11_load_159 : decode cX11_load 159 = .ok (.aload_n 0, 1) := by decide +kernel
theorem dX11_load_160 : decode cX11_load 160 = .ok (.getfield 27, 3) := by decide +kernel
theorem dX11_load_163 : decode cX11_load 163 = .ok (.iload_n 2, 1) := by decide +kernel
theorem dX11_load_164 : decode cX11_load 164 = .ok (.aload_n 0, 1) := by decide +kernel
theorem dX11_load_165 : decode cX11_load 165 = .ok (.getfield 39, 3) := by decide +kernel
theorem dX11_load_168 : decode cX11_load 168 = .ok (.iload_n 2, 1) := by decide +kernel
theorem dX11_load_169 : decode cX11_load 169 = .ok (.iaload, 1) := by decide +kernel
theorem dX11_load_170 : decode cX11_load 170 = .ok (.iastore, 1) := by decide +kernel
theorem dX11_load_171 : decode cX11_load 171 = .ok (.aload_n 0, 1) := by decide +kernel
theorem dX11_load_172 : decode cX11_load 172 = .ok (.getfield 30, 3) := by decide +kernel
theorem dX11_load_175 : decode cX11_load 175 = .ok (.iload_n 2, 1) := by decide +kernel
theorem dX11_load_176 : decode cX11_load 176 = .ok (.aload_n 0, 1) := by decide +kernel
theorem dX11_load_177 : decode cX11_load 177 = .ok (.getfield 42, 3) := by decide +kernel
theorem dX11_load_180 : decode cX11_load 180 = .ok (.iload_n 2, 1) := by decide +kernel
theorem dX11_load_181 : decode cX11_load 181 = .ok (.iaload, 1) := by decide +kernel
theorem dX11_load_182 : decode cX11_load 182 = .ok (.iastore, 1) := by decide +kernel
theorem dX11_load_183 : decode cX11_load 183 = .ok (.iinc 2 1, 3) := by decide +kernel
theorem dX11_load_186 : decode cX11_load 186 = .ok (.goto (-59), 3) := by decide +kernel
theorem dX11_load_189 : decode cX11_load 189 = .ok (.iconst 0, 1) := by decide +kernel
theorem dX11_load_190 : decode cX11_load 190 = .ok (.istore_n 2, 1) := by decide +kernel
theorem dX11_load_191 : decode cX11_load 191 = .ok (.iload_n 2, 1) := by decide +kernel
theorem dX11_load_192 : decode cX11_load 192 = .ok (.aload_n 0, 1) := by decide +kernel
theorem dX11_load_193 : decode cX11_load 193 = .ok (.getfield 304, 3) := by decide +kernel
theorem dX11_load_196 : decode cX11_load 196 = .ok (.if_icmp .ge 33, 3) := by decide +kernel
theorem dX11_load_199 : decode cX11_load 199 = .ok (.aload_n 0, 1) := by decide +kernel
theorem dX11_load_200 : decode cX11_load 200 = .ok (.getfield 45, 3) := by decide +kernel
theorem dX11_load_203 : decode cX11_load 203 = .ok (.iload_n 2, 1) := by decide +kernel
theorem dX11_load_204 : decode cX11_load 204 = .ok (.aload_n 0, 1) := by decide +kernel
theorem dX11_load_205 : decode cX11_load 205 = .ok (.getfield 51, 3) := by decide +kernel
theorem dX11_load_208 : decode cX11_load 208 = .ok (.iload_n 2, 1) := by decide +kernel
theorem dX11_load_209 : decode cX11_load 209 = .ok (.iaload, 1) := by decide +kernel
theorem dX11_load_210 : decode cX11_load 210 = .ok (.iastore, 1) := by decide +kernel
theorem dX11_load_211 : decode cX11_load 211 = .ok (.aload_n 0, 1) := by decide +kernel
theorem dX11_load_212 : decode cX11_load 212 = .ok (.getfield 48, 3) := by decide +kernel
theorem dX11_load_215 : decode cX11_load 215 = .ok (.iload_n 2, 1) := by decide +kernel
theorem dX11_load_216 : decode cX11_load 216 = .ok (.aload_n 0, 1) := by decide +kernel
theorem dX11_load_217 : decode cX11_load 217 = .ok (.getfield 54, 3) := by decide +kernel
theorem dX11_load_220 : decode cX11_load 220 = .ok (.iload_n 2, 1) := by decide +kernel
theorem dX11_load_221 : decode cX11_load 221 = .ok (.iaload, 1) := by decide +kernel
theorem dX11_load_222 : decode cX11_load 222 = .ok (.iastore, 1) := by decide +kernel
theorem dX11_load_223 : decode cX11_load 223 = .ok (.iinc 2 1, 3) := by decide +kernel
theorem dX11_load_226 : decode cX11_load 226 = .ok (.goto (-35), 3) := by decide +kernel
theorem dX11_load_229 : decode cX11_load 229 = .ok (.iconst 0, 1) := by decide +kernel
theorem dX11_load_230 : decode cX11_load 230 = .ok (.istore_n 2, 1) := by decide +kernel
theorem dX11_load_231 : decode cX11_load 231 = .ok (.iload_n 2, 1) := by decide +kernel
theorem dX11_load_232 : decode cX11_load 232 = .ok (.aload_n 0, 1) := by decide +kernel
theorem dX11_load_233 : decode cX11_load 233 = .ok (.getfield 307, 3) := by decide +kernel
theorem dX11_load_236 : decode cX11_load 236 = .ok (.if_icmp .ge 33, 3) := by decide +kernel
theorem dX11_load_239 : decode cX11_load 239 = .ok (.aload_n 0, 1) := by decide +kernel
theorem dX11_load_240 : decode cX11_load 240 = .ok (.getfield 57, 3) := by decide +kernel
theorem dX11_load_243 : decode cX11_load 243 = .ok (.iload_n 2, 1) := by decide +kernel
theorem dX11_load_244 : decode cX11_load 244 = .ok (.aload_n 0, 1) := by decide +kernel
theorem dX11_load_245 : decode cX11_load 245 = .ok (.getfield 60, 3) := by decide +kernel
theorem dX11_load_248 : decode cX11_load 248 = .ok (.iload_n 2, 1) := by decide +kernel
theorem dX11_load_249 : decode cX11_load 249 = .ok (.iaload, 1) := by decide +kernel
theorem dX11_load_250 : decode cX11_load 250 = .ok (.iastore, 1) := by decide +kernel
theorem dX11_load_251 : decode cX11_load 251 = .ok (.aload_n 0, 1) := by decide +kernel
theorem dX11_load_252 : decode cX11_load 252 = .ok (.getfield 63, 3) := by decide +kernel
theorem dX11_load_255 : decode cX11_load 255 = .ok (.iload_n 2, 1) := by decide +kernel
theorem dX11_load_256 : decode cX11_load 256 = .ok (.aload_n 0, 1) := by decide +kernel
theorem dX11_load_257 : decode cX11_load 257 = .ok (.getfield 67, 3) := by decide +kernel
theorem dX11_load_260 : decode cX11_load 260 = .ok (.iload_n 2, 1) := by decide +kernel
theorem dX11_load_261 : decode cX11_load 261 = .ok (.baload, 1) := by decide +kernel
theorem dX11_load_262 : decode cX11_load 262 = .ok (.bastore, 1) := by decide +kernel
theorem dX11_load_263 : decode cX11_load 263 = .ok (.iinc 2 1, 3) := by decide +kernel
theorem dX11_load_266 : decode cX11_load 266 = .ok (.goto (-35), 3) := by decide +kernel
theorem dX11_load_269 : decode cX11_load 269 = .ok (.iconst 0, 1) := by decide +kernel
theorem dX11_load_270 : decode cX11_load 270 = .ok (.istore_n 2, 1) := by decide +kernel
theorem dX11_load_271 : decode cX11_load 271 = .ok (.iload_n 2, 1) := by decide +kernel
theorem dX11_load_272 : decode cX11_load 272 = .ok (.bipush 20, 2) := by decide +kernel
theorem dX11_load_274 : decode cX11_load 274 = .ok (.if_icmp .ge 48, 3) := by decide +kernel
theorem dX11_load_277 : decode cX11_load 277 = .ok (.aload_n 0, 1) := by decide +kernel
theorem dX11_load_278 : decode cX11_load 278 = .ok (.getfield 73, 3) := by decide +kernel
theorem dX11_load_281 : decode cX11_load 281 = .ok (.iload_n 2, 1) := by decide +kernel
theorem dX11_load_282 : decode cX11_load 282 = .ok (.bipush 10, 2) := by decide +kernel
theorem dX11_load_284 : decode cX11_load 284 = .ok (.iastore, 1) := by decide +kernel
theorem dX11_load_285 : decode cX11_load 285 = .ok (.aload_n 0, 1) := by decide +kernel
theorem dX11_load_286 : decode cX11_load 286 = .ok (.getfield 79, 3) := by decide +kernel
theorem dX11_load_289 : decode cX11_load 289 = .ok (.iload_n 2, 1) := by decide +kernel
theorem dX11_load_290 : decode cX11_load 290 = .ok (.iconst 0, 1) := by decide +kernel
theorem dX11_load_291 : decode cX11_load 291 = .ok (.iastore, 1) := by decide +kernel
theorem dX11_load_292 : decode cX11_load 292 = .ok (.iconst 0, 1) := by decide +kernel
theorem dX11_load_293 : decode cX11_load 293 = .ok (.istore_n 3, 1) := by decide +kernel
theorem dX11_load_294 : decode cX11_load 294 = .ok (.iload_n 3, 1) := by decide +kernel
theorem dX11_load_295 : decode cX11_load 295 = .ok (.iconst 3, 1) := by decide +kernel
theorem dX11_load_296 : decode cX11_load 296 = .ok (.if_icmp .ge 20, 3) := by decide +kernel
theorem dX11_load_299 : decode cX11_load 299 = .ok (.aload_n 0, 1) := by decide +kernel
theorem dX11_load_300 : decode cX11_load 300 = .ok (.getfield 76, 3) := by decide +kernel
theorem dX11_load_303 : decode cX11_load 303 = .ok (.iconst 3, 1) := by decide +kernel
theorem dX11_load_304 : decode cX11_load 304 = .ok (.iload_n 2, 1) := by decide +kernel
theorem dX11_load_305 : decode cX11_load 305 = .ok (.imul, 1) := by decide +kernel
theorem dX11_load_306 : decode cX11_load 306 = .ok (.iload_n 3, 1) := by decide +kernel
theorem dX11_load_307 : decode cX11_load 307 = .ok (.iadd, 1) := by decide +kernel
theorem dX11_load_308 : decode cX11_load 308 = .ok (.iconst 0, 1) := by decide +kernel
theorem dX11_load_309 : decode cX11_load 309 = .ok (.iastore, 1) := by decide +kernel
theorem dX11_load_310 : decode cX11_load 310 = .ok (.iinc 3 1, 3) := by decide +kernel
theorem dX11_load_313 : decode cX11_load 313 = .ok (.goto (-19), 3) := by decide +kernel
theorem dX11_load_316 : decode cX11_load 316 = .ok (.iinc 2 1, 3) := by decide +kernel
theorem dX11_load_319 : decode cX11_load 319 = .ok (.goto (-48), 3) := by decide +kernel
theorem dX11_load_322 : decode cX11_load 322 = .ok (.aload_n 0, 1) := by decide +kernel
theorem dX11_load_323 : decode cX11_load 323 = .ok (.iconst 0, 1) := by decide +kernel
theorem dX11_load_324 : decode cX11_load 324 = .ok (.putfield 313, 3) := by decide +kernel
theorem dX11_load_327 : decode cX11_load 327 = .ok (.aload_n 0, 1) := by decide +kernel
theorem dX11_load_328 : decode cX11_load 328 = .ok (.iconst (-1), 1) := by decide +kernel
theorem dX11_load_329 : decode cX11_load 329 = .ok (.putfield 82, 3) := by decide +kernel
theorem dX11_load_332 : decode cX11_load 332 = .ok (.aload_n 0, 1) := by decide +kernel
theorem dX11_load_333 : decode cX11_load 333 = .ok (.iconst 0, 1) := by decide +kernel
theorem dX11_load_334 : decode cX11_load 334 = .ok (.putfield 316, 3) := by decide +kernel
theorem dX11_load_337 : decode cX11_load 337 = .ok (.aload_n 0, 1) := by decide +kernel
theorem dX11_load_338 : decode cX11_load 338 = .ok (.iconst 0, 1) := by decide +kernel
theorem dX11_load_339 : decode cX11_load 339 = .ok (.putfield 319, 3) := by decide +kernel
theorem dX11_load_342 : decode cX11_load 342 = .ok (.aload_n 0, 1) := by decide +kernel
theorem dX11_load_343 : decode cX11_load 343 = .ok (.iconst 0, 1) := by decide +kernel
theorem dX11_load_344 : decode cX11_load 344 = .ok (.putfield 322, 3) := by decide +kernel
theorem dX11_load_347 : decode cX11_load 347 = .ok (.iconst 0, 1) := by decide +kernel
theorem dX11_load_348 : decode cX11_load 348 = .ok (.istore_n 2, 1) := by decide +kernel
theorem dX11_load_349 : decode cX11_load 349 = .ok (.iload_n 2, 1) := by decide +kernel
theorem dX11_load_350 : decode cX11_load 350 = .ok (.bipush 64, 2) := by decide +kernel
theorem dX11_load_352 : decode cX11_load 352 = .ok (.if_icmp .ge 16, 3) := by decide +kernel
theorem dX11_load_355 : decode cX11_load 355 = .ok (.aload_n 0, 1) := by decide +kernel
theorem dX11_load_356 : decode cX11_load 356 = .ok (.getfield 85, 3) := by decide +kernel
theorem dX11_load_359 : decode cX11_load 359 = .ok (.iload_n 2, 1) := by decide +kernel
theorem dX11_load_360 : decode cX11_load 360 = .ok (.iconst 0, 1) := by decide +kernel
theorem dX11_load_361 : decode cX11_load 361 = .ok (.bastore, 1) := by decide +kernel
theorem dX11_load_362 : decode cX11_load 362 = .ok (.iinc 2 1, 3) := by decide +kernel
theorem dX11_load_365 : decode cX11_load 365 = .ok (.goto (-16), 3) := by decide +kernel
theorem dX11_load_368 : decode cX11_load 368 = .ok (.iconst 0, 1) := by decide +kernel
theorem dX11_load_369 : decode cX11_load 369 = .ok (.istore_n 2, 1) := by decide +kernel
theorem dX11_load_370 : decode cX11_load 370 = .ok (.iload_n 2, 1) := by decide +kernel
theorem dX11_load_371 : decode cX11_load 371 = .ok (.iconst 4, 1) := by decide +kernel
theorem dX11_load_372 : decode cX11_load 372 = .ok (.if_icmp .ge 16, 3) := by decide +kernel
theorem dX11_load_375 : decode cX11_load 375 = .ok (.aload_n 0, 1) := by decide +kernel
theorem dX11_load_376 : decode cX11_load 376 = .ok (.getfield 91, 3) := by decide +kernel
theorem dX11_load_379 : decode cX11_load 379 = .ok (.iload_n 2, 1) := by decide +kernel
theorem dX11_load_380 : decode cX11_load 380 = .ok (.iconst 0, 1) := by decide +kernel
theorem dX11_load_381 : decode cX11_load 381 = .ok (.iastore, 1) := by decide +kernel
theorem dX11_load_382 : decode cX11_load 382 = .ok (.iinc 2 1, 3) := by decide +kernel
theorem dX11_load_385 : decode cX11_load 385 = .ok (.goto (-15), 3) := by decide +kernel
theorem dX11_load_388 : decode cX11_load 388 = .ok (.aload_n 0, 1) := by decide +kernel
theorem dX11_load_389 : decode cX11_load 389 = .ok (.getfield 301, 3) := by decide +kernel
theorem dX11_load_392 : decode cX11_load 392 = .ok (.ireturn, 1) := by decide +kernel
