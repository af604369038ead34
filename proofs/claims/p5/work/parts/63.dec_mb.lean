theorem dX11_factsOf_0 : decode cX11_factsOf 0 = .ok (.iconst (-1), 1) := by decide +kernel
theorem dX11_factsOf_1 : decode cX11_factsOf 1 = .ok (.istore 5, 2) := by decide +kernel
theorem dX11_factsOf_3 : decode cX11_factsOf 3 = .ok (.iconst (-1), 1) := by decide +kernel
theorem dX11_factsOf_4 : decode cX11_factsOf 4 = .ok (.istore 6, 2) := by decide +kernel
theorem dX11_factsOf_6 : decode cX11_factsOf 6 = .ok (.iconst 0, 1) := by decide +kernel
theorem dX11_factsOf_7 : decode cX11_factsOf 7 = .ok (.istore 7, 2) := by decide +kernel
theorem dX11_factsOf_9 : decode cX11_factsOf 9 = .ok (.iconst 0, 1) := by decide +kernel
theorem dX11_factsOf_10 : decode cX11_factsOf 10 = .ok (.istore 8, 2) := by decide +kernel
theorem dX11_factsOf_12 : decode cX11_factsOf 12 = .ok (.iconst 0, 1) := by decide +kernel
theorem dX11_factsOf_13 : decode cX11_factsOf 13 = .ok (.istore 9, 2) := by decide +kernel
theorem dX11_factsOf_15 : decode cX11_factsOf 15 = .ok (.iload 9, 2) := by decide +kernel
theorem dX11_factsOf_17 : decode cX11_factsOf 17 = .ok (.aload_n 0, 1) := by decide +kernel
theorem dX11_factsOf_18 : decode cX11_factsOf 18 = .ok (.getfield 319, 3) := by decide +kernel
theorem dX11_factsOf_21 : decode cX11_factsOf 21 = .ok (.if_icmp .ge 91, 3) := by decide +kernel
theorem dX11_factsOf_24 : decode cX11_factsOf 24 = .ok (.aload_n 0, 1) := by decide +kernel
theorem dX11_factsOf_25 : decode cX11_factsOf 25 = .ok (.getfield 94, 3) := by decide +kernel
theorem dX11_factsOf_28 : decode cX11_factsOf 28 = .ok (.iload 9, 2) := by decide +kernel
theorem dX11_factsOf_30 : decode cX11_factsOf 30 = .ok (.iaload, 1) := by decide +kernel
theorem dX11_factsOf_31 : decode cX11_factsOf 31 = .ok (.iload_n 3, 1) := by decide +kernel
theorem dX11_factsOf_32 : decode cX11_factsOf 32 = .ok (.if_icmp .ne 74, 3) := by decide +kernel
theorem dX11_factsOf_35 : decode cX11_factsOf 35 = .ok (.aload_n 0, 1) := by decide +kernel
theorem dX11_factsOf_36 : decode cX11_factsOf 36 = .ok (.getfield 97, 3) := by decide +kernel
theorem dX11_factsOf_39 : decode cX11_factsOf 39 = .ok (.iload 9, 2) := by decide +kernel
theorem dX11_factsOf_41 : decode cX11_factsOf 41 = .ok (.iaload, 1) := by decide +kernel
theorem dX11_factsOf_42 : decode cX11_factsOf 42 = .ok (.iload_n 1, 1) := by decide +kernel
theorem dX11_factsOf_43 : decode cX11_factsOf 43 = .ok (.if_icmp .ne 63, 3) := by decide +kernel
theorem dX11_factsOf_46 : decode cX11_factsOf 46 = .ok (.aload_n 0, 1) := by decide +kernel
theorem dX11_factsOf_47 : decode cX11_factsOf 47 = .ok (.getfield 100, 3) := by decide +kernel
theorem dX11_factsOf_50 : decode cX11_factsOf 50 = .ok (.iload 9, 2) := by decide +kernel
theorem dX11_factsOf_52 : decode cX11_factsOf 52 = .ok (.iaload, 1) := by decide +kernel
theorem dX11_factsOf_53 : decode cX11_factsOf 53 = .ok (.iload_n 2, 1) := by decide +kernel
theorem dX11_factsOf_54 : decode cX11_factsOf 54 = .ok (.if_icmp .ne 52, 3) := by decide +kernel
theorem dX11_factsOf_57 : decode cX11_factsOf 57 = .ok (.aload_n 0, 1) := by decide +kernel
theorem dX11_factsOf_58 : decode cX11_factsOf 58 = .ok (.getfield 112, 3) := by decide +kernel
theorem dX11_factsOf_61 : decode cX11_factsOf 61 = .ok (.iload 9, 2) := by decide +kernel
theorem dX11_factsOf_63 : decode cX11_factsOf 63 = .ok (.iaload, 1) := by decide +kernel
theorem dX11_factsOf_64 : decode cX11_factsOf 64 = .ok (.iconst 4, 1) := by decide +kernel
theorem dX11_factsOf_65 : decode cX11_factsOf 65 = .ok (.if_icmp .ne 6, 3) := by decide +kernel
theorem dX11_factsOf_68 : decode cX11_factsOf 68 = .ok (.goto 38, 3) := by decide +kernel
theorem dX11_factsOf_71 : decode cX11_factsOf 71 = .ok (.iinc 7 1, 3) := by decide +kernel
theorem dX11_factsOf_74 : decode cX11_factsOf 74 = .ok (.aload_n 0, 1) := by decide +kernel
theorem dX11_factsOf_75 : decode cX11_factsOf 75 = .ok (.iload 9, 2) := by decide +kernel
theorem dX11_factsOf_77 : decode cX11_factsOf 77 = .ok (.iload 4, 2) := by decide +kernel
theorem dX11_factsOf_79 : decode cX11_factsOf 79 = .ok (.invokevirtual 367, 3) := by decide +kernel
theorem dX11_factsOf_82 : decode cX11_factsOf 82 = .ok (.istore 10, 2) := by decide +kernel
theorem dX11_factsOf_84 : decode cX11_factsOf 84 = .ok (.iload 10, 2) := by decide +kernel
theorem dX11_factsOf_86 : decode cX11_factsOf 86 = .ok (.iload 5, 2) := by decide +kernel
theorem dX11_factsOf_88 : decode cX11_factsOf 88 = .ok (.if_icmp .gt 6, 3) := by decide +kernel
theorem dX11_factsOf_91 : decode cX11_factsOf 91 = .ok (.goto 15, 3) := by decide +kernel
theorem dX11_factsOf_94 : decode cX11_factsOf 94 = .ok (.iload 10, 2) := by decide +kernel
theorem dX11_factsOf_96 : decode cX11_factsOf 96 = .ok (.istore 5, 2) := by decide +kernel
theorem dX11_factsOf_98 : decode cX11_factsOf 98 = .ok (.iload 9, 2) := by decide +kernel
theorem dX11_factsOf_100 : decode cX11_factsOf 100 = .ok (.istore 6, 2) := by decide +kernel
theorem dX11_factsOf_102 : decode cX11_factsOf 102 = .ok (.iload 7, 2) := by decide +kernel
theorem dX11_factsOf_104 : decode cX11_factsOf 104 = .ok (.istore 8, 2) := by decide +kernel
theorem dX11_factsOf_106 : decode cX11_factsOf 106 = .ok (.iinc 9 1, 3) := by decide +kernel
theorem dX11_factsOf_109 : decode cX11_factsOf 109 = .ok (.goto (-94), 3) := by decide +kernel
theorem dX11_factsOf_112 : decode cX11_factsOf 112 = .ok (.iconst 0, 1) := by decide +kernel
theorem dX11_factsOf_113 : decode cX11_factsOf 113 = .ok (.istore 9, 2) := by decide +kernel
theorem dX11_factsOf_115 : decode cX11_factsOf 115 = .ok (.iload 9, 2) := by decide +kernel
theorem dX11_factsOf_117 : decode cX11_factsOf 117 = .ok (.bipush 6, 2) := by decide +kernel
theorem dX11_factsOf_119 : decode cX11_factsOf 119 = .ok (.if_icmp .ge 17, 3) := by decide +kernel
theorem dX11_factsOf_122 : decode cX11_factsOf 122 = .ok (.aload_n 0, 1) := by decide +kernel
theorem dX11_factsOf_123 : decode cX11_factsOf 123 = .ok (.getfield 133, 3) := by decide +kernel
theorem dX11_factsOf_126 : decode cX11_factsOf 126 = .ok (.iload 9, 2) := by decide +kernel
theorem dX11_factsOf_128 : decode cX11_factsOf 128 = .ok (.iconst 0, 1) := by decide +kernel
theorem dX11_factsOf_129 : decode cX11_factsOf 129 = .ok (.iastore, 1) := by decide +kernel
theorem dX11_factsOf_130 : decode cX11_factsOf 130 = .ok (.iinc 9 1, 3) := by decide +kernel
theorem dX11_factsOf_133 : decode cX11_factsOf 133 = .ok (.goto (-18), 3) := by decide +kernel
theorem dX11_factsOf_136 : decode cX11_factsOf 136 = .ok (.iload 6, 2) := by decide +kernel
theorem dX11_factsOf_138 : decode cX11_factsOf 138 = .ok (.ifCond .ge 4, 3) := by decide +kernel
theorem dX11_factsOf_141 : decode cX11_factsOf 141 = .ok (.return_, 1) := by decide +kernel
theorem dX11_factsOf_142 : decode cX11_factsOf 142 = .ok (.iload_n 1, 1) := by decide +kernel
theorem dX11_factsOf_143 : decode cX11_factsOf 143 = .ok (.iload_n 2, 1) := by decide +kernel
theorem dX11_factsOf_144 : decode cX11_factsOf 144 = .ok (.invokestatic 335, 3) := by decide +kernel
theorem dX11_factsOf_147 : decode cX11_factsOf 147 = .ok (.istore 9, 2) := by decide +kernel
theorem dX11_factsOf_149 : decode cX11_factsOf 149 = .ok (.aload_n 0, 1) := by decide +kernel
theorem dX11_factsOf_150 : decode cX11_factsOf 150 = .ok (.getfield 133, 3) := by decide +kernel
theorem dX11_factsOf_153 : decode cX11_factsOf 153 = .ok (.iconst 0, 1) := by decide +kernel
theorem dX11_factsOf_154 : decode cX11_factsOf 154 = .ok (.iload 5, 2) := by decide +kernel
theorem dX11_factsOf_156 : decode cX11_factsOf 156 = .ok (.aload_n 0, 1) := by decide +kernel
theorem dX11_factsOf_157 : decode cX11_factsOf 157 = .ok (.getfield 73, 3) := by decide +kernel
theorem dX11_factsOf_160 : decode cX11_factsOf 160 = .ok (.iload 9, 2) := by decide +kernel
theorem dX11_factsOf_162 : decode cX11_factsOf 162 = .ok (.iaload, 1) := by decide +kernel
theorem dX11_factsOf_163 : decode cX11_factsOf 163 = .ok (.if_icmp .ne 7, 3) := by decide +kernel
theorem dX11_factsOf_166 : decode cX11_factsOf 166 = .ok (.iconst 1, 1) := by decide +kernel
theorem dX11_factsOf_167 : decode cX11_factsOf 167 = .ok (.goto 4, 3) := by decide +kernel
theorem dX11_factsOf_170 : decode cX11_factsOf 170 = .ok (.iconst 0, 1) := by decide +kernel
theorem dX11_factsOf_171 : decode cX11_factsOf 171 = .ok (.iastore, 1) := by decide +kernel
theorem dX11_factsOf_172 : decode cX11_factsOf 172 = .ok (.iconst 0, 1) := by decide +kernel
theorem dX11_factsOf_173 : decode cX11_factsOf 173 = .ok (.istore 10, 2) := by decide +kernel
theorem dX11_factsOf_175 : decode cX11_factsOf 175 = .ok (.iload 10, 2) := by decide +kernel
theorem dX11_factsOf_177 : decode cX11_factsOf 177 = .ok (.iconst 3, 1) := by decide +kernel
theorem dX11_factsOf_178 : decode cX11_factsOf 178 = .ok (.if_icmp .ge 55, 3) := by decide +kernel
theorem dX11_factsOf_181 : decode cX11_factsOf 181 = .ok (.aload_n 0, 1) := by decide +kernel
theorem dX11_factsOf_182 : decode cX11_factsOf 182 = .ok (.getfield 133, 3) := by decide +kernel
theorem dX11_factsOf_185 : decode cX11_factsOf 185 = .ok (.iconst 1, 1) := by decide +kernel
theorem dX11_factsOf_186 : decode cX11_factsOf 186 = .ok (.dup2, 1) := by decide +kernel
theorem dX11_factsOf_187 : decode cX11_factsOf 187 = .ok (.iaload, 1) := by decide +kernel
theorem dX11_factsOf_188 : decode cX11_factsOf 188 = .ok (.aload_n 0, 1) := by decide +kernel
theorem dX11_factsOf_189 : decode cX11_factsOf 189 = .ok (.getfield 76, 3) := by decide +kernel
theorem dX11_factsOf_192 : decode cX11_factsOf 192 = .ok (.iconst 3, 1) := by decide +kernel
theorem dX11_factsOf_193 : decode cX11_factsOf 193 = .ok (.iload 9, 2) := by decide +kernel
theorem dX11_factsOf_195 : decode cX11_factsOf 195 = .ok (.imul, 1) := by decide +kernel
theorem dX11_factsOf_196 : decode cX11_factsOf 196 = .ok (.iload 10, 2) := by decide +kernel
theorem dX11_factsOf_198 : decode cX11_factsOf 198 = .ok (.iadd, 1) := by decide +kernel
theorem dX11_factsOf_199 : decode cX11_factsOf 199 = .ok (.iaload, 1) := by decide +kernel
theorem dX11_factsOf_200 : decode cX11_factsOf 200 = .ok (.ifCond .le 24, 3) := by decide +kernel
theorem dX11_factsOf_203 : decode cX11_factsOf 203 = .ok (.aload_n 0, 1) := by decide +kernel
theorem dX11_factsOf_204 : decode cX11_factsOf 204 = .ok (.getfield 76, 3) := by decide +kernel
theorem dX11_factsOf_207 : decode cX11_factsOf 207 = .ok (.iconst 3, 1) := by decide +kernel
theorem dX11_factsOf_208 : decode cX11_factsOf 208 = .ok (.iload 9, 2) := by decide +kernel
theorem dX11_factsOf_210 : decode cX11_factsOf 210 = .ok (.imul, 1) := by decide +kernel
theorem dX11_factsOf_211 : decode cX11_factsOf 211 = .ok (.iload 10, 2) := by decide +kernel
theorem dX11_factsOf_213 : decode cX11_factsOf 213 = .ok (.iadd, 1) := by decide +kernel
theorem dX11_factsOf_214 : decode cX11_factsOf 214 = .ok (.iaload, 1) := by decide +kernel
theorem dX11_factsOf_215 : decode cX11_factsOf 215 = .ok (.iload 5, 2) := by decide +kernel
theorem dX11_factsOf_217 : decode cX11_factsOf 217 = .ok (.if_icmp .gt 7, 3) := by decide +kernel
theorem dX11_factsOf_220 : decode cX11_factsOf 220 = .ok (.iconst 1, 1) := by decide +kernel
theorem dX11_factsOf_221 : decode cX11_factsOf 221 = .ok (.goto 4, 3) := by decide +kernel
theorem dX11_factsOf_224 : decode cX11_factsOf 224 = .ok (.iconst 0, 1) := by decide +kernel
theorem dX11_factsOf_225 : decode cX11_factsOf 225 = .ok (.iadd, 1) := by decide +kernel
theorem dX11_factsOf_226 : decode cX11_factsOf 226 = .ok (.iastore, 1) := by decide +kernel
theorem dX11_factsOf_227 : decode cX11_factsOf 227 = .ok (.iinc 10 1, 3) := by decide +kernel
theorem dX11_factsOf_230 : decode cX11_factsOf 230 = .ok (.goto (-55), 3) := by decide +kernel
theorem dX11_factsOf_233 : decode cX11_factsOf 233 = .ok (.aload_n 0, 1) := by decide +kernel
theorem dX11_factsOf_234 : decode cX11_factsOf 234 = .ok (.getfield 133, 3) := by decide +kernel
theorem dX11_factsOf_237 : decode cX11_factsOf 237 = .ok (.iconst 2, 1) := by decide +kernel
theorem dX11_factsOf_238 : decode cX11_factsOf 238 = .ok (.iload 5, 2) := by decide +kernel
theorem dX11_factsOf_240 : decode cX11_factsOf 240 = .ok (.iastore, 1) := by decide +kernel
theorem dX11_factsOf_241 : decode cX11_factsOf 241 = .ok (.aload_n 0, 1) := by decide +kernel
theorem dX11_factsOf_242 : decode cX11_factsOf 242 = .ok (.getfield 133, 3) := by decide +kernel
theorem dX11_factsOf_245 : decode cX11_factsOf 245 = .ok (.iconst 3, 1) := by decide +kernel
theorem dX11_factsOf_246 : decode cX11_factsOf 246 = .ok (.iload 8, 2) := by decide +kernel
theorem dX11_factsOf_248 : decode cX11_factsOf 248 = .ok (.iastore, 1) := by decide +kernel
theorem dX11_factsOf_249 : decode cX11_factsOf 249 = .ok (.aload_n 0, 1) := by decide +kernel
theorem dX11_factsOf_250 : decode cX11_factsOf 250 = .ok (.getfield 133, 3) := by decide +kernel
theorem dX11_factsOf_253 : decode cX11_factsOf 253 = .ok (.iconst 4, 1) := by decide +kernel
theorem dX11_factsOf_254 : decode cX11_factsOf 254 = .ok (.aload_n 0, 1) := by decide +kernel
theorem dX11_factsOf_255 : decode cX11_factsOf 255 = .ok (.getfield 112, 3) := by decide +kernel
theorem dX11_factsOf_258 : decode cX11_factsOf 258 = .ok (.iload 6, 2) := by decide +kernel
theorem dX11_factsOf_260 : decode cX11_factsOf 260 = .ok (.iaload, 1) := by decide +kernel
theorem dX11_factsOf_261 : decode cX11_factsOf 261 = .ok (.ifCond .ne 7, 3) := by decide +kernel
theorem dX11_factsOf_264 : decode cX11_factsOf 264 = .ok (.iconst 0, 1) := by decide +kernel
theorem dX11_factsOf_265 : decode cX11_factsOf 265 = .ok (.goto 18, 3) := by decide +kernel
theorem dX11_factsOf_268 : decode cX11_factsOf 268 = .ok (.aload_n 0, 1) := by decide +kernel
theorem dX11_factsOf_269 : decode cX11_factsOf 269 = .ok (.getfield 106, 3) := by decide +kernel
theorem dX11_factsOf_272 : decode cX11_factsOf 272 = .ok (.iload 6, 2) := by decide +kernel
theorem dX11_factsOf_274 : decode cX11_factsOf 274 = .ok (.iaload, 1) := by decide +kernel
theorem dX11_factsOf_275 : decode cX11_factsOf 275 = .ok (.aload_n 0, 1) := by decide +kernel
theorem dX11_factsOf_276 : decode cX11_factsOf 276 = .ok (.getfield 103, 3) := by decide +kernel
theorem dX11_factsOf_279 : decode cX11_factsOf 279 = .ok (.iload 6, 2) := by decide +kernel
theorem dX11_factsOf_281 : decode cX11_factsOf 281 = .ok (.iaload, 1) := by decide +kernel
theorem dX11_factsOf_282 : decode cX11_factsOf 282 = .ok (.isub, 1) := by decide +kernel
theorem dX11_factsOf_283 : decode cX11_factsOf 283 = .ok (.iastore, 1) := by decide +kernel
theorem dX11_factsOf_284 : decode cX11_factsOf 284 = .ok (.aload_n 0, 1) := by decide +kernel
theorem dX11_factsOf_285 : decode cX11_factsOf 285 = .ok (.getfield 133, 3) := by decide +kernel
theorem dX11_factsOf_288 : decode cX11_factsOf 288 = .ok (.iconst 5, 1) := by decide +kernel
theorem dX11_factsOf_289 : decode cX11_factsOf 289 = .ok (.aload_n 0, 1) := by decide +kernel
theorem dX11_factsOf_290 : decode cX11_factsOf 290 = .ok (.getfield 133, 3) := by decide +kernel
theorem dX11_factsOf_293 : decode cX11_factsOf 293 = .ok (.iconst 0, 1) := by decide +kernel
theorem dX11_factsOf_294 : decode cX11_factsOf 294 = .ok (.iaload, 1) := by decide +kernel
theorem dX11_factsOf_295 : decode cX11_factsOf 295 = .ok (.iconst 1, 1) := by decide +kernel
theorem dX11_factsOf_296 : decode cX11_factsOf 296 = .ok (.if_icmp .ne 13, 3) := by decide +kernel
theorem dX11_factsOf_299 : decode cX11_factsOf 299 = .ok (.iload 8, 2) := by decide +kernel
theorem dX11_factsOf_301 : decode cX11_factsOf 301 = .ok (.iconst 1, 1) := by decide +kernel
theorem dX11_factsOf_302 : decode cX11_factsOf 302 = .ok (.if_icmp .ne 7, 3) := by decide +kernel
theorem dX11_factsOf_305 : decode cX11_factsOf 305 = .ok (.iconst 1, 1) := by decide +kernel
theorem dX11_factsOf_306 : decode cX11_factsOf 306 = .ok (.goto 4, 3) := by decide +kernel
theorem dX11_factsOf_309 : decode cX11_factsOf 309 = .ok (.iconst 0, 1) := by decide +kernel
theorem dX11_factsOf_310 : decode cX11_factsOf 310 = .ok (.iastore, 1) := by decide +kernel
theorem dX11_factsOf_311 : decode cX11_factsOf 311 = .ok (.return_, 1) := by decide +kernel
theorem dX11_cut_0 : decode cX11_cut 0 = .ok (.ldc2_w 370, 3) := by decide +kernel
theorem dX11_cut_3 : decode cX11_cut 3 = .ok (.ldc2_w 372, 3) := by decide +kernel
theorem dX11_cut_6 : decode cX11_cut 6 = .ok (.lload_n 0, 1) := by decide +kernel
theorem dX11_cut_7 : decode cX11_cut 7 = .ok (.invokestatic 374, 3) := by decide +kernel
theorem dX11_cut_10 : decode cX11_cut 10 = .ok (.invokestatic 377, 3) := by decide +kernel
theorem dX11_cut_13 : decode cX11_cut 13 = .ok (.lreturn, 1) := by decide +kernel
theorem dX11_pointsOf_0 : decode cX11_pointsOf 0 = .ok (.aload_n 0, 1) := by decide +kernel
theorem dX11_pointsOf_1 : decode cX11_pointsOf 1 = .ok (.iload_n 1, 1) := by decide +kernel
theorem dX11_pointsOf_2 : decode cX11_pointsOf 2 = .ok (.iload_n 2, 1) := by decide +kernel
theorem dX11_pointsOf_3 : decode cX11_pointsOf 3 = .ok (.iload_n 3, 1) := by decide +kernel
theorem dX11_pointsOf_4 : decode cX11_pointsOf 4 = .ok (.iload 4, 2) := by decide +kernel
theorem dX11_pointsOf_6 : decode cX11_pointsOf 6 = .ok (.invokevirtual 379, 3) := by decide +kernel
theorem dX11_pointsOf_9 : decode cX11_pointsOf 9 = .ok (.iconst 0, 1) := by decide +kernel
theorem dX11_pointsOf_10 : decode cX11_pointsOf 10 = .ok (.istore 5, 2) := by decide +kernel
theorem dX11_pointsOf_12 : decode cX11_pointsOf 12 = .ok (.iconst 0, 1) := by decide +kernel
theorem dX11_pointsOf_13 : decode cX11_pointsOf 13 = .ok (.istore 6, 2) := by decide +kernel
theorem dX11_pointsOf_15 : decode cX11_pointsOf 15 = .ok (.iload 6, 2) := by decide +kernel
theorem dX11_pointsOf_17 : decode cX11_pointsOf 17 = .ok (.aload_n 0, 1) := by decide +kernel
theorem dX11_pointsOf_18 : decode cX11_pointsOf 18 = .ok (.getfield 304, 3) := by decide +kernel
theorem dX11_pointsOf_21 : decode cX11_pointsOf 21 = .ok (.if_icmp .ge 200, 3) := by decide +kernel
theorem dX11_pointsOf_24 : decode cX11_pointsOf 24 = .ok (.aload_n 0, 1) := by decide +kernel
theorem dX11_pointsOf_25 : decode cX11_pointsOf 25 = .ok (.getfield 45, 3) := by decide +kernel
theorem dX11_pointsOf_28 : decode cX11_pointsOf 28 = .ok (.iload 6, 2) := by decide +kernel
theorem dX11_pointsOf_30 : decode cX11_pointsOf 30 = .ok (.iaload, 1) := by decide +kernel
theorem dX11_pointsOf_31 : decode cX11_pointsOf 31 = .ok (.bipush 7, 2) := by decide +kernel
theorem dX11_pointsOf_33 : decode cX11_pointsOf 33 = .ok (.if_icmp .ge 52, 3) := by decide +kernel
theorem dX11_pointsOf_36 : decode cX11_pointsOf 36 = .ok (.aload_n 0, 1) := by decide +kernel
theorem dX11_pointsOf_37 : decode cX11_pointsOf 37 = .ok (.getfield 136, 3) := by decide +kernel
theorem dX11_pointsOf_40 : decode cX11_pointsOf 40 = .ok (.iload 5, 2) := by decide +kernel
theorem dX11_pointsOf_42 : decode cX11_pointsOf 42 = .ok (.aload_n 0, 1) := by decide +kernel
theorem dX11_pointsOf_43 : decode cX11_pointsOf 43 = .ok (.getfield 45, 3) := by decide +kernel
theorem dX11_pointsOf_46 : decode cX11_pointsOf 46 = .ok (.iload 6, 2) := by decide +kernel
theorem dX11_pointsOf_48 : decode cX11_pointsOf 48 = .ok (.iaload, 1) := by decide +kernel
theorem dX11_pointsOf_49 : decode cX11_pointsOf 49 = .ok (.ifCond .ne 14, 3) := by decide +kernel
theorem dX11_pointsOf_52 : decode cX11_pointsOf 52 = .ok (.aload_n 0, 1) := by decide +kernel
theorem dX11_pointsOf_53 : decode cX11_pointsOf 53 = .ok (.getfield 48, 3) := by decide +kernel
theorem dX11_pointsOf_56 : decode cX11_pointsOf 56 = .ok (.iload 6, 2) := by decide +kernel
theorem dX11_pointsOf_58 : decode cX11_pointsOf 58 = .ok (.iaload, 1) := by decide +kernel
theorem dX11_pointsOf_59 : decode cX11_pointsOf 59 = .ok (.i2l, 1) := by decide +kernel
theorem dX11_pointsOf_60 : decode cX11_pointsOf 60 = .ok (.goto 18, 3) := by decide +kernel
theorem dX11_pointsOf_63 : decode cX11_pointsOf 63 = .ok (.aload_n 0, 1) := by decide +kernel
theorem dX11_pointsOf_64 : decode cX11_pointsOf 64 = .ok (.getfield 133, 3) := by decide +kernel
theorem dX11_pointsOf_67 : decode cX11_pointsOf 67 = .ok (.aload_n 0, 1) := by decide +kernel
theorem dX11_pointsOf_68 : decode cX11_pointsOf 68 = .ok (.getfield 45, 3) := by decide +kernel
theorem dX11_pointsOf_71 : decode cX11_pointsOf 71 = .ok (.iload 6, 2) := by decide +kernel
theorem dX11_pointsOf_73 : decode cX11_pointsOf 73 = .ok (.iaload, 1) := by decide +kernel
theorem dX11_pointsOf_74 : decode cX11_pointsOf 74 = .ok (.iconst 1, 1) := by decide +kernel
theorem dX11_pointsOf_75 : decode cX11_pointsOf 75 = .ok (.isub, 1) := by decide +kernel
theorem dX11_pointsOf_76 : decode cX11_pointsOf 76 = .ok (.iaload, 1) := by decide +kernel
theorem dX11_pointsOf_77 : decode cX11_pointsOf 77 = .ok (.i2l, 1) := by decide +kernel
theorem dX11_pointsOf_78 : decode cX11_pointsOf 78 = .ok (.lastore, 1) := by decide +kernel
theorem dX11_pointsOf_79 : decode cX11_pointsOf 79 = .ok (.iinc 5 1, 3) := by decide +kernel
theorem dX11_pointsOf_82 : decode cX11_pointsOf 82 = .ok (.goto 133, 3) := by decide +kernel
theorem dX11_pointsOf_85 : decode cX11_pointsOf 85 = .ok (.aload_n 0, 1) := by decide +kernel
theorem dX11_pointsOf_86 : decode cX11_pointsOf 86 = .ok (.getfield 45, 3) := by decide +kernel
theorem dX11_pointsOf_89 : decode cX11_pointsOf 89 = .ok (.iload 6, 2) := by decide +kernel
theorem dX11_pointsOf_91 : decode cX11_pointsOf 91 = .ok (.iaload, 1) := by decide +kernel
theorem dX11_pointsOf_92 : decode cX11_pointsOf 92 = .ok (.bipush 10, 2) := by decide +kernel
theorem dX11_pointsOf_94 : decode cX11_pointsOf 94 = .ok (.if_icmp .ne 25, 3) := by decide +kernel
theorem dX11_pointsOf_97 : decode cX11_pointsOf 97 = .ok (.aload_n 0, 1) := by decide +kernel
theorem dX11_pointsOf_98 : decode cX11_pointsOf 98 = .ok (.getfield 136, 3) := by decide +kernel
theorem dX11_pointsOf_101 : decode cX11_pointsOf 101 = .ok (.iload 5, 2) := by decide +kernel
theorem dX11_pointsOf_103 : decode cX11_pointsOf 103 = .ok (.iconst 1, 1) := by decide +kernel
theorem dX11_pointsOf_104 : decode cX11_pointsOf 104 = .ok (.isub, 1) := by decide +kernel
theorem dX11_pointsOf_105 : decode cX11_pointsOf 105 = .ok (.aload_n 0, 1) := by decide +kernel
theorem dX11_pointsOf_106 : decode cX11_pointsOf 106 = .ok (.getfield 136, 3) := by decide +kernel
theorem dX11_pointsOf_109 : decode cX11_pointsOf 109 = .ok (.iload 5, 2) := by decide +kernel
theorem dX11_pointsOf_111 : decode cX11_pointsOf 111 = .ok (.iconst 1, 1) := by decide +kernel
theorem dX11_pointsOf_112 : decode cX11_pointsOf 112 = .ok (.isub, 1) := by decide +kernel
theorem dX11_pointsOf_113 : decode cX11_pointsOf 113 = .ok (.laload, 1) := by decide +kernel
theorem dX11_pointsOf_114 : decode cX11_pointsOf 114 = .ok (.lneg, 1) := by decide +kernel
theorem dX11_pointsOf_115 : decode cX11_pointsOf 115 = .ok (.lastore, 1) := by decide +kernel
theorem dX11_pointsOf_116 : decode cX11_pointsOf 116 = .ok (.goto 99, 3) := by decide +kernel
theorem dX11_pointsOf_119 : decode cX11_pointsOf 119 = .ok (.iinc 5 (-1), 3) := by decide +kernel
theorem dX11_pointsOf_122 : decode cX11_pointsOf 122 = .ok (.aload_n 0, 1) := by decide +kernel
theorem dX11_pointsOf_123 : decode cX11_pointsOf 123 = .ok (.getfield 136, 3) := by decide +kernel
theorem dX11_pointsOf_126 : decode cX11_pointsOf 126 = .ok (.iload 5, 2) := by decide +kernel
theorem dX11_pointsOf_128 : decode cX11_pointsOf 128 = .ok (.iconst 1, 1) := by decide +kernel
theorem dX11_pointsOf_129 : decode cX11_pointsOf 129 = .ok (.isub, 1) := by decide +kernel
theorem dX11_pointsOf_130 : decode cX11_pointsOf 130 = .ok (.aload_n 0, 1) := by decide +kernel
theorem dX11_pointsOf_131 : decode cX11_pointsOf 131 = .ok (.getfield 45, 3) := by decide +kernel
theorem dX11_pointsOf_134 : decode cX11_pointsOf 134 = .ok (.iload 6, 2) := by decide +kernel
theorem dX11_pointsOf_136 : decode cX11_pointsOf 136 = .ok (.iaload, 1) := by decide +kernel
theorem dX11_pointsOf_137 : decode cX11_pointsOf 137 = .ok (.bipush 7, 2) := by decide +kernel
theorem dX11_pointsOf_139 : decode cX11_pointsOf 139 = .ok (.if_icmp .ne 23, 3) := by decide +kernel
theorem dX11_pointsOf_142 : decode cX11_pointsOf 142 = .ok (.aload_n 0, 1) := by decide +kernel
theorem dX11_pointsOf_143 : decode cX11_pointsOf 143 = .ok (.getfield 136, 3) := by decide +kernel
theorem dX11_pointsOf_146 : decode cX11_pointsOf 146 = .ok (.iload 5, 2) := by decide +kernel
theorem dX11_pointsOf_148 : decode cX11_pointsOf 148 = .ok (.iconst 1, 1) := by decide +kernel
theorem dX11_pointsOf_149 : decode cX11_pointsOf 149 = .ok (.isub, 1) := by decide +kernel
theorem dX11_pointsOf_150 : decode cX11_pointsOf 150 = .ok (.laload, 1) := by decide +kernel
theorem dX11_pointsOf_151 : decode cX11_pointsOf 151 = .ok (.aload_n 0, 1) := by decide +kernel
theorem dX11_pointsOf_152 : decode cX11_pointsOf 152 = .ok (.getfield 136, 3) := by decide +kernel
theorem dX11_pointsOf_155 : decode cX11_pointsOf 155 = .ok (.iload 5, 2) := by decide +kernel
theorem dX11_pointsOf_157 : decode cX11_pointsOf 157 = .ok (.laload, 1) := by decide +kernel
theorem dX11_pointsOf_158 : decode cX11_pointsOf 158 = .ok (.ladd, 1) := by decide +kernel
theorem dX11_pointsOf_159 : decode cX11_pointsOf 159 = .ok (.goto 52, 3) := by decide +kernel
theorem dX11_pointsOf_162 : decode cX11_pointsOf 162 = .ok (.aload_n 0, 1) := by decide +kernel
theorem dX11_pointsOf_163 : decode cX11_pointsOf 163 = .ok (.getfield 45, 3) := by decide +kernel
theorem dX11_pointsOf_166 : decode cX11_pointsOf 166 = .ok (.iload 6, 2) := by decide +kernel
theorem dX11_pointsOf_168 : decode cX11_pointsOf 168 = .ok (.iaload, 1) := by decide +kernel
theorem dX11_pointsOf_169 : decode cX11_pointsOf 169 = .ok (.bipush 8, 2) := by decide +kernel
theorem dX11_pointsOf_171 : decode cX11_pointsOf 171 = .ok (.if_icmp .ne 23, 3) := by decide +kernel
theorem dX11_pointsOf_174 : decode cX11_pointsOf 174 = .ok (.aload_n 0, 1) := by decide +kernel
theorem dX11_pointsOf_175 : decode cX11_pointsOf 175 = .ok (.getfield 136, 3) := by decide +kernel
theorem dX11_pointsOf_178 : decode cX11_pointsOf 178 = .ok (.iload 5, 2) := by decide +kernel
theorem dX11_pointsOf_180 : decode cX11_pointsOf 180 = .ok (.iconst 1, 1) := by decide +kernel
theorem dX11_pointsOf_181 : decode cX11_pointsOf 181 = .ok (.isub, 1) := by decide +kernel
theorem dX11_pointsOf_182 : decode cX11_pointsOf 182 = .ok (.laload, 1) := by decide +kernel
theorem dX11_pointsOf_183 : decode cX11_pointsOf 183 = .ok (.aload_n 0, 1) := by decide +kernel
theorem dX11_pointsOf_184 : decode cX11_pointsOf 184 = .ok (.getfield 136, 3) := by decide +kernel
theorem dX11_pointsOf_187 : decode cX11_pointsOf 187 = .ok (.iload 5, 2) := by decide +kernel
theorem dX11_pointsOf_189 : decode cX11_pointsOf 189 = .ok (.laload, 1) := by decide +kernel
theorem dX11_pointsOf_190 : decode cX11_pointsOf 190 = .ok (.lsub, 1) := by decide +kernel
theorem dX11_pointsOf_191 : decode cX11_pointsOf 191 = .ok (.goto 20, 3) := by decide +kernel
theorem dX11_pointsOf_194 : decode cX11_pointsOf 194 = .ok (.aload_n 0, 1) := by decide +kernel
theorem dX11_pointsOf_195 : decode cX11_pointsOf 195 = .ok (.getfield 136, 3) := by decide +kernel
theorem dX11_pointsOf_198 : decode cX11_pointsOf 198 = .ok (.iload 5, 2) := by decide +kernel
theorem dX11_pointsOf_200 : decode cX11_pointsOf 200 = .ok (.iconst 1, 1) := by decide +kernel
theorem dX11_pointsOf_201 : decode cX11_pointsOf 201 = .ok (.isub, 1) := by decide +kernel
theorem dX11_pointsOf_202 : decode cX11_pointsOf 202 = .ok (.laload, 1) := by decide +kernel
theorem dX11_pointsOf_203 : decode cX11_pointsOf 203 = .ok (.aload_n 0, 1) := by decide +kernel
theorem dX11_pointsOf_204 : decode cX11_pointsOf 204 = .ok (.getfield 136, 3) := by decide +kernel
theorem dX11_pointsOf_207 : decode cX11_pointsOf 207 = .ok (.iload 5, 2) := by decide +kernel
theorem dX11_pointsOf_209 : decode cX11_pointsOf 209 = .ok (.laload, 1) := by decide +kernel
theorem dX11_pointsOf_210 : decode cX11_pointsOf 210 = .ok (.lmul, 1) := by decide +kernel
theorem dX11_pointsOf_211 : decode cX11_pointsOf 211 = .ok (.invokestatic 383, 3) := by decide +kernel
theorem dX11_pointsOf_214 : decode cX11_pointsOf 214 = .ok (.lastore, 1) := by decide +kernel
theorem dX11_pointsOf_215 : decode cX11_pointsOf 215 = .ok (.iinc 6 1, 3) := by decide +kernel
theorem dX11_pointsOf_218 : decode cX11_pointsOf 218 = .ok (.goto (-203), 3) := by decide +kernel
theorem dX11_pointsOf_221 : decode cX11_pointsOf 221 = .ok (.aload_n 0, 1) := by decide +kernel
theorem dX11_pointsOf_222 : decode cX11_pointsOf 222 = .ok (.getfield 136, 3) := by decide +kernel
theorem dX11_pointsOf_225 : decode cX11_pointsOf 225 = .ok (.iconst 0, 1) := by decide +kernel
theorem dX11_pointsOf_226 : decode cX11_pointsOf 226 = .ok (.laload, 1) := by decide +kernel
theorem dX11_pointsOf_227 : decode cX11_pointsOf 227 = .ok (.l2i, 1) := by decide +kernel
theorem dX11_pointsOf_228 : decode cX11_pointsOf 228 = .ok (.ireturn, 1) := by decide +kernel
theorem dX11_of_0 : decode cX11_of 0 = .ok (.aload_n 0, 1) := by decide +kernel
theorem dX11_of_1 : decode cX11_of 1 = .ok (.iconst 0, 1) := by decide +kernel
theorem dX11_of_2 : decode cX11_of 2 = .ok (.putfield 146, 3) := by decide +kernel
theorem dX11_of_5 : decode cX11_of 5 = .ok (.aload_n 0, 1) := by decide +kernel
theorem dX11_of_6 : decode cX11_of 6 = .ok (.iconst 0, 1) := by decide +kernel
theorem dX11_of_7 : decode cX11_of 7 = .ok (.putfield 149, 3) := by decide +kernel
theorem dX11_of_10 : decode cX11_of 10 = .ok (.aload_n 0, 1) := by decide +kernel
theorem dX11_of_11 : decode cX11_of 11 = .ok (.iload_n 1, 1) := by decide +kernel
theorem dX11_of_12 : decode cX11_of 12 = .ok (.iload_n 2, 1) := by decide +kernel
theorem dX11_of_13 : decode cX11_of 13 = .ok (.invokevirtual 328, 3) := by decide +kernel
theorem dX11_of_16 : decode cX11_of 16 = .ok (.ifCond .eq 11, 3) := by decide +kernel
theorem dX11_of_19 : decode cX11_of 19 = .ok (.aload_n 0, 1) := by decide +kernel
theorem dX11_of_20 : decode cX11_of 20 = .ok (.iload_n 3, 1) := by decide +kernel
theorem dX11_of_21 : decode cX11_of 21 = .ok (.invokevirtual 349, 3) := by decide +kernel
theorem dX11_of_24 : decode cX11_of 24 = .ok (.ifCond .ne 9, 3) := by decide +kernel
theorem dX11_of_27 : decode cX11_of 27 = .ok (.aload_n 0, 1) := by decide +kernel
theorem dX11_of_28 : decode cX11_of 28 = .ok (.iconst 1, 1) := by decide +kernel
theorem dX11_of_29 : decode cX11_of 29 = .ok (.invokevirtual 295, 3) := by decide +kernel
theorem dX11_of_32 : decode cX11_of 32 = .ok (.ireturn, 1) := by decide +kernel
theorem dX11_of_33 : decode cX11_of 33 = .ok (.iload 4, 2) := by decide +kernel
theorem dX11_of_35 : decode cX11_of 35 = .ok (.invokestatic 364, 3) := by decide +kernel
theorem dX11_of_38 : decode cX11_of 38 = .ok (.ifCond .eq 15, 3) := by decide +kernel
theorem dX11_of_41 : decode cX11_of 41 = .ok (.iload 5, 2) := by decide +kernel
theorem dX11_of_43 : decode cX11_of 43 = .ok (.ifCond .lt 10, 3) := by decide +kernel
theorem dX11_of_46 : decode cX11_of 46 = .ok (.iload 5, 2) := by decide +kernel
theorem dX11_of_48 : decode cX11_of 48 = .ok (.bipush 6, 2) := by decide +kernel
theorem dX11_of_50 : decode cX11_of 50 = .ok (.if_icmp .le 9, 3) := by decide +kernel
theorem dX11_of_53 : decode cX11_of 53 = .ok (.aload_n 0, 1) := by decide +kernel
theorem dX11_of_54 : decode cX11_of 54 = .ok (.iconst 2, 1) := by decide +kernel
theorem dX11_of_55 : decode cX11_of 55 = .ok (.invokevirtual 295, 3) := by decide +kernel
theorem dX11_of_58 : decode cX11_of 58 = .ok (.ireturn, 1) := by decide +kernel
theorem dX11_of_59 : decode cX11_of 59 = .ok (.aload_n 0, 1) := by decide +kernel
theorem dX11_of_60 : decode cX11_of 60 = .ok (.iload_n 1, 1) := by decide +kernel
theorem dX11_of_61 : decode cX11_of 61 = .ok (.iload_n 2, 1) := by decide +kernel
theorem dX11_of_62 : decode cX11_of 62 = .ok (.iload_n 3, 1) := by decide +kernel
theorem dX11_of_63 : decode cX11_of 63 = .ok (.iload 4, 2) := by decide +kernel
theorem dX11_of_65 : decode cX11_of 65 = .ok (.invokevirtual 387, 3) := by decide +kernel
theorem dX11_of_68 : decode cX11_of 68 = .ok (.istore 6, 2) := by decide +kernel
theorem dX11_of_70 : decode cX11_of 70 = .ok (.iload 5, 2) := by decide +kernel
theorem dX11_of_72 : decode cX11_of 72 = .ok (.bipush 6, 2) := by decide +kernel
theorem dX11_of_74 : decode cX11_of 74 = .ok (.if_icmp .ne 8, 3) := by decide +kernel
theorem dX11_of_77 : decode cX11_of 77 = .ok (.iload 6, 2) := by decide +kernel
theorem dX11_of_79 : decode cX11_of 79 = .ok (.goto 10, 3) := by decide +kernel
theorem dX11_of_82 : decode cX11_of 82 = .ok (.aload_n 0, 1) := by decide +kernel
theorem dX11_of_83 : decode cX11_of 83 = .ok (.getfield 133, 3) := by decide +kernel
theorem dX11_of_86 : decode cX11_of 86 = .ok (.iload 5, 2) := by decide +kernel
theorem dX11_of_88 : decode cX11_of 88 = .ok (.iaload, 1) := by decide +kernel
theorem dX11_of_89 : decode cX11_of 89 = .ok (.ireturn, 1) := by decide +kernel
theorem dX11_keyOf_0 : decode cX11_keyOf 0 = .ok (.lconst 0, 1) := by decide +kernel
theorem dX11_keyOf_1 : decode cX11_keyOf 1 = .ok (.lstore 5, 2) := by decide +kernel
theorem dX11_keyOf_3 : decode cX11_keyOf 3 = .ok (.ldc2_w 370, 3) := by decide +kernel
theorem dX11_keyOf_6 : decode cX11_keyOf 6 = .ok (.lstore 7, 2) := by decide +kernel
theorem dX11_keyOf_8 : decode cX11_keyOf 8 = .ok (.iconst 0, 1) := by decide +kernel
theorem dX11_keyOf_9 : decode cX11_keyOf 9 = .ok (.istore 9, 2) := by decide +kernel
theorem dX11_keyOf_11 : decode cX11_keyOf 11 = .ok (.iload 9, 2) := by decide +kernel
theorem dX11_keyOf_13 : decode cX11_keyOf 13 = .ok (.aload_n 0, 1) := by decide +kernel
theorem dX11_keyOf_14 : decode cX11_keyOf 14 = .ok (.getfield 20, 3) := by decide +kernel
theorem dX11_keyOf_17 : decode cX11_keyOf 17 = .ok (.iload_n 1, 1) := by decide +kernel
theorem dX11_keyOf_18 : decode cX11_keyOf 18 = .ok (.iaload, 1) := by decide +kernel
theorem dX11_keyOf_19 : decode cX11_keyOf 19 = .ok (.if_icmp .ge 79, 3) := by decide +kernel
theorem dX11_keyOf_22 : decode cX11_keyOf 22 = .ok (.aload_n 0, 1) := by decide +kernel
theorem dX11_keyOf_23 : decode cX11_keyOf 23 = .ok (.iload_n 1, 1) := by decide +kernel
theorem dX11_keyOf_24 : decode cX11_keyOf 24 = .ok (.iload 9, 2) := by decide +kernel
theorem dX11_keyOf_26 : decode cX11_keyOf 26 = .ok (.iload_n 2, 1) := by decide +kernel
theorem dX11_keyOf_27 : decode cX11_keyOf 27 = .ok (.iload_n 3, 1) := by decide +kernel
theorem dX11_keyOf_28 : decode cX11_keyOf 28 = .ok (.invokevirtual 387, 3) := by decide +kernel
theorem dX11_keyOf_31 : decode cX11_keyOf 31 = .ok (.istore 10, 2) := by decide +kernel
theorem dX11_keyOf_33 : decode cX11_keyOf 33 = .ok (.lload 7, 2) := by decide +kernel
theorem dX11_keyOf_35 : decode cX11_keyOf 35 = .ok (.iload 10, 2) := by decide +kernel
theorem dX11_keyOf_37 : decode cX11_keyOf 37 = .ok (.i2l, 1) := by decide +kernel
theorem dX11_keyOf_38 : decode cX11_keyOf 38 = .ok (.invokestatic 377, 3) := by decide +kernel
theorem dX11_keyOf_41 : decode cX11_keyOf 41 = .ok (.lstore 7, 2) := by decide +kernel
theorem dX11_keyOf_43 : decode cX11_keyOf 43 = .ok (.lload 5, 2) := by decide +kernel
theorem dX11_keyOf_45 : decode cX11_keyOf 45 = .ok (.aload_n 0, 1) := by decide +kernel
theorem dX11_keyOf_46 : decode cX11_keyOf 46 = .ok (.getfield 57, 3) := by decide +kernel
theorem dX11_keyOf_49 : decode cX11_keyOf 49 = .ok (.iload 4, 2) := by decide +kernel
theorem dX11_keyOf_51 : decode cX11_keyOf 51 = .ok (.iaload, 1) := by decide +kernel
theorem dX11_keyOf_52 : decode cX11_keyOf 52 = .ok (.ifCond .ne 9, 3) := by decide +kernel
theorem dX11_keyOf_55 : decode cX11_keyOf 55 = .ok (.iload 10, 2) := by decide +kernel
theorem dX11_keyOf_57 : decode cX11_keyOf 57 = .ok (.i2l, 1) := by decide +kernel
theorem dX11_keyOf_58 : decode cX11_keyOf 58 = .ok (.goto 31, 3) := by decide +kernel
theorem dX11_keyOf_61 : decode cX11_keyOf 61 = .ok (.aload_n 0, 1) := by decide +kernel
theorem dX11_keyOf_62 : decode cX11_keyOf 62 = .ok (.getfield 57, 3) := by decide +kernel
theorem dX11_keyOf_65 : decode cX11_keyOf 65 = .ok (.iload 4, 2) := by decide +kernel
theorem dX11_keyOf_67 : decode cX11_keyOf 67 = .ok (.iaload, 1) := by decide +kernel
theorem dX11_keyOf_68 : decode cX11_keyOf 68 = .ok (.iconst 2, 1) := by decide +kernel
theorem dX11_keyOf_69 : decode cX11_keyOf 69 = .ok (.if_icmp .ne 13, 3) := by decide +kernel
theorem dX11_keyOf_72 : decode cX11_keyOf 72 = .ok (.aload_n 0, 1) := by decide +kernel
theorem dX11_keyOf_73 : decode cX11_keyOf 73 = .ok (.getfield 133, 3) := by decide +kernel
theorem dX11_keyOf_76 : decode cX11_keyOf 76 = .ok (.iconst 0, 1) := by decide +kernel
theorem dX11_keyOf_77 : decode cX11_keyOf 77 = .ok (.iaload, 1) := by decide +kernel
theorem dX11_keyOf_78 : decode cX11_keyOf 78 = .ok (.i2l, 1) := by decide +kernel
theorem dX11_keyOf_79 : decode cX11_keyOf 79 = .ok (.goto 10, 3) := by decide +kernel
theorem dX11_keyOf_82 : decode cX11_keyOf 82 = .ok (.aload_n 0, 1) := by decide +kernel
theorem dX11_keyOf_83 : decode cX11_keyOf 83 = .ok (.getfield 133, 3) := by decide +kernel
theorem dX11_keyOf_86 : decode cX11_keyOf 86 = .ok (.iconst 1, 1) := by decide +kernel
theorem dX11_keyOf_87 : decode cX11_keyOf 87 = .ok (.iaload, 1) := by decide +kernel
theorem dX11_keyOf_88 : decode cX11_keyOf 88 = .ok (.i2l, 1) := by decide +kernel
theorem dX11_keyOf_89 : decode cX11_keyOf 89 = .ok (.ladd, 1) := by decide +kernel
theorem dX11_keyOf_90 : decode cX11_keyOf 90 = .ok (.lstore 5, 2) := by decide +kernel
theorem dX11_keyOf_92 : decode cX11_keyOf 92 = .ok (.iinc 9 1, 3) := by decide +kernel
theorem dX11_keyOf_95 : decode cX11_keyOf 95 = .ok (.goto (-84), 3) := by decide +kernel
theorem dX11_keyOf_98 : decode cX11_keyOf 98 = .ok (.aload_n 0, 1) := by decide +kernel
theorem dX11_keyOf_99 : decode cX11_keyOf 99 = .ok (.getfield 57, 3) := by decide +kernel
theorem dX11_keyOf_102 : decode cX11_keyOf 102 = .ok (.iload 4, 2) := by decide +kernel
theorem dX11_keyOf_104 : decode cX11_keyOf 104 = .ok (.iaload, 1) := by decide +kernel
theorem dX11_keyOf_105 : decode cX11_keyOf 105 = .ok (.iconst 1, 1) := by decide +kernel
theorem dX11_keyOf_106 : decode cX11_keyOf 106 = .ok (.if_icmp .ne 8, 3) := by decide +kernel
theorem dX11_keyOf_109 : decode cX11_keyOf 109 = .ok (.lload 7, 2) := by decide +kernel
theorem dX11_keyOf_111 : decode cX11_keyOf 111 = .ok (.goto 5, 3) := by decide +kernel
theorem dX11_keyOf_114 : decode cX11_keyOf 114 = .ok (.lload 5, 2) := by decide +kernel
theorem dX11_keyOf_116 : decode cX11_keyOf 116 = .ok (.lreturn, 1) := by decide +kernel
theorem dX11_key_0 : decode cX11_key 0 = .ok (.aload_n 0, 1) := by decide +kernel
theorem dX11_key_1 : decode cX11_key 1 = .ok (.iconst 0, 1) := by decide +kernel
theorem dX11_key_2 : decode cX11_key 2 = .ok (.putfield 146, 3) := by decide +kernel
theorem dX11_key_5 : decode cX11_key 5 = .ok (.aload_n 0, 1) := by decide +kernel
theorem dX11_key_6 : decode cX11_key 6 = .ok (.iconst 0, 1) := by decide +kernel
theorem dX11_key_7 : decode cX11_key 7 = .ok (.putfield 149, 3) := by decide +kernel
theorem dX11_key_10 : decode cX11_key 10 = .ok (.aload_n 0, 1) := by decide +kernel
theorem dX11_key_11 : decode cX11_key 11 = .ok (.iload_n 1, 1) := by decide +kernel
theorem dX11_key_12 : decode cX11_key 12 = .ok (.iload_n 2, 1) := by decide +kernel
theorem dX11_key_13 : decode cX11_key 13 = .ok (.invokevirtual 391, 3) := by decide +kernel
theorem dX11_key_16 : decode cX11_key 16 = .ok (.ifCond .eq 17, 3) := by decide +kernel
theorem dX11_key_19 : decode cX11_key 19 = .ok (.iload 4, 2) := by decide +kernel
theorem dX11_key_21 : decode cX11_key 21 = .ok (.ifCond .lt 12, 3) := by decide +kernel
theorem dX11_key_24 : decode cX11_key 24 = .ok (.iload 4, 2) := by decide +kernel
theorem dX11_key_26 : decode cX11_key 26 = .ok (.aload_n 0, 1) := by decide +kernel
theorem dX11_key_27 : decode cX11_key 27 = .ok (.getfield 307, 3) := by decide +kernel
theorem dX11_key_30 : decode cX11_key 30 = .ok (.if_icmp .lt 10, 3) := by decide +kernel
theorem dX11_key_33 : decode cX11_key 33 = .ok (.aload_n 0, 1) := by decide +kernel
theorem dX11_key_34 : decode cX11_key 34 = .ok (.iconst 1, 1) := by decide +kernel
theorem dX11_key_35 : decode cX11_key 35 = .ok (.invokevirtual 295, 3) := by decide +kernel
theorem dX11_key_38 : decode cX11_key 38 = .ok (.i2l, 1) := by decide +kernel
theorem dX11_key_39 : decode cX11_key 39 = .ok (.lreturn, 1) := by decide +kernel
theorem dX11_key_40 : decode cX11_key 40 = .ok (.iload_n 3, 1) := by decide +kernel
theorem dX11_key_41 : decode cX11_key 41 = .ok (.invokestatic 364, 3) := by decide +kernel
theorem dX11_key_44 : decode cX11_key 44 = .ok (.ifCond .ne 10, 3) := by decide +kernel
theorem dX11_key_47 : decode cX11_key 47 = .ok (.aload_n 0, 1) := by decide +kernel
theorem dX11_key_48 : decode cX11_key 48 = .ok (.iconst 2, 1) := by decide +kernel
theorem dX11_key_49 : decode cX11_key 49 = .ok (.invokevirtual 295, 3) := by decide +kernel
theorem dX11_key_52 : decode cX11_key 52 = .ok (.i2l, 1) := by decide +kernel
theorem dX11_key_53 : decode cX11_key 53 = .ok (.lreturn, 1) := by decide +kernel
theorem dX11_key_54 : decode cX11_key 54 = .ok (.aload_n 0, 1) := by decide +kernel
theorem dX11_key_55 : decode cX11_key 55 = .ok (.iload_n 1, 1) := by decide +kernel
theorem dX11_key_56 : decode cX11_key 56 = .ok (.iload_n 2, 1) := by decide +kernel
theorem dX11_key_57 : decode cX11_key 57 = .ok (.iload_n 3, 1) := by decide +kernel
theorem dX11_key_58 : decode cX11_key 58 = .ok (.iload 4, 2) := by decide +kernel
theorem dX11_key_60 : decode cX11_key 60 = .ok (.invokevirtual 393, 3) := by decide +kernel
theorem dX11_key_63 : decode cX11_key 63 = .ok (.lreturn, 1) := by decide +kernel
theorem dX11_isAhead_0 : decode cX11_isAhead 0 = .ok (.iload_n 1, 1) := by decide +kernel
theorem dX11_isAhead_1 : decode cX11_isAhead 1 = .ok (.istore 5, 2) := by decide +kernel
theorem dX11_isAhead_3 : decode cX11_isAhead 3 = .ok (.iload 5, 2) := by decide +kernel
theorem dX11_isAhead_5 : decode cX11_isAhead 5 = .ok (.ifCond .lt 115, 3) := by decide +kernel
theorem dX11_isAhead_8 : decode cX11_isAhead 8 = .ok (.iconst 0, 1) := by decide +kernel
theorem dX11_isAhead_9 : decode cX11_isAhead 9 = .ok (.istore 6, 2) := by decide +kernel
theorem dX11_isAhead_11 : decode cX11_isAhead 11 = .ok (.iload 6, 2) := by decide +kernel
theorem dX11_isAhead_13 : decode cX11_isAhead 13 = .ok (.aload_n 0, 1) := by decide +kernel
theorem dX11_isAhead_14 : decode cX11_isAhead 14 = .ok (.getfield 307, 3) := by decide +kernel
theorem dX11_isAhead_17 : decode cX11_isAhead 17 = .ok (.if_icmp .ge 83, 3) := by decide +kernel
theorem dX11_isAhead_20 : decode cX11_isAhead 20 = .ok (.aload_n 0, 1) := by decide +kernel
theorem dX11_isAhead_21 : decode cX11_isAhead 21 = .ok (.iload 5, 2) := by decide +kernel
theorem dX11_isAhead_23 : decode cX11_isAhead 23 = .ok (.iload_n 2, 1) := by decide +kernel
theorem dX11_isAhead_24 : decode cX11_isAhead 24 = .ok (.iload 4, 2) := by decide +kernel
theorem dX11_isAhead_26 : decode cX11_isAhead 26 = .ok (.iload 6, 2) := by decide +kernel
theorem dX11_isAhead_28 : decode cX11_isAhead 28 = .ok (.invokevirtual 393, 3) := by decide +kernel
theorem dX11_isAhead_31 : decode cX11_isAhead 31 = .ok (.lstore 7, 2) := by decide +kernel
theorem dX11_isAhead_33 : decode cX11_isAhead 33 = .ok (.aload_n 0, 1) := by decide +kernel
theorem dX11_isAhead_34 : decode cX11_isAhead 34 = .ok (.iload 5, 2) := by decide +kernel
theorem dX11_isAhead_36 : decode cX11_isAhead 36 = .ok (.iload_n 3, 1) := by decide +kernel
theorem dX11_isAhead_37 : decode cX11_isAhead 37 = .ok (.iload 4, 2) := by decide +kernel
theorem dX11_isAhead_39 : decode cX11_isAhead 39 = .ok (.iload 6, 2) := by decide +kernel
theorem dX11_isAhead_41 : decode cX11_isAhead 41 = .ok (.invokevirtual 393, 3) := by decide +kernel
theorem dX11_isAhead_44 : decode cX11_isAhead 44 = .ok (.lstore 9, 2) := by decide +kernel
theorem dX11_isAhead_46 : decode cX11_isAhead 46 = .ok (.lload 7, 2) := by decide +kernel
theorem dX11_isAhead_48 : decode cX11_isAhead 48 = .ok (.lload 9, 2) := by decide +kernel
theorem dX11_isAhead_50 : decode cX11_isAhead 50 = .ok (.lcmp, 1) := by decide +kernel
theorem dX11_isAhead_51 : decode cX11_isAhead 51 = .ok (.ifCond .eq 43, 3) := by decide +kernel
theorem dX11_isAhead_54 : decode cX11_isAhead 54 = .ok (.aload_n 0, 1) := by decide +kernel
theorem dX11_isAhead_55 : decode cX11_isAhead 55 = .ok (.getfield 63, 3) := by decide +kernel
theorem dX11_isAhead_58 : decode cX11_isAhead 58 = .ok (.iload 6, 2) := by decide +kernel
theorem dX11_isAhead_60 : decode cX11_isAhead 60 = .ok (.baload, 1) := by decide +kernel
theorem dX11_isAhead_61 : decode cX11_isAhead 61 = .ok (.ifCond .eq 19, 3) := by decide +kernel
theorem dX11_isAhead_64 : decode cX11_isAhead 64 = .ok (.lload 7, 2) := by decide +kernel
theorem dX11_isAhead_66 : decode cX11_isAhead 66 = .ok (.lload 9, 2) := by decide +kernel
theorem dX11_isAhead_68 : decode cX11_isAhead 68 = .ok (.lcmp, 1) := by decide +kernel
theorem dX11_isAhead_69 : decode cX11_isAhead 69 = .ok (.ifCond .ge 7, 3) := by decide +kernel
theorem dX11_isAhead_72 : decode cX11_isAhead 72 = .ok (.iconst 1, 1) := by decide +kernel
theorem dX11_isAhead_73 : decode cX11_isAhead 73 = .ok (.goto 20, 3) := by decide +kernel
theorem dX11_isAhead_76 : decode cX11_isAhead 76 = .ok (.iconst 0, 1) := by decide +kernel
theorem dX11_isAhead_77 : decode cX11_isAhead 77 = .ok (.goto 16, 3) := by decide +kernel
theorem dX11_isAhead_80 : decode cX11_isAhead 80 = .ok (.lload 7, 2) := by decide +kernel
theorem dX11_isAhead_82 : decode cX11_isAhead 82 = .ok (.lload 9, 2) := by decide +kernel
theorem dX11_isAhead_84 : decode cX11_isAhead 84 = .ok (.lcmp, 1) := by decide +kernel
theorem dX11_isAhead_85 : decode cX11_isAhead 85 = .ok (.ifCond .le 7, 3) := by decide +kernel
theorem dX11_isAhead_88 : decode cX11_isAhead 88 = .ok (.iconst 1, 1) := by decide +kernel
theorem dX11_isAhead_89 : decode cX11_isAhead 89 = .ok (.goto 4, 3) := by decide +kernel
theorem dX11_isAhead_92 : decode cX11_isAhead 92 = .ok (.iconst 0, 1) := by decide +kernel
theorem dX11_isAhead_93 : decode cX11_isAhead 93 = .ok (.ireturn, 1) := by decide +kernel
theorem dX11_isAhead_94 : decode cX11_isAhead 94 = .ok (.iinc 6 1, 3) := by decide +kernel
theorem dX11_isAhead_97 : decode cX11_isAhead 97 = .ok (.goto (-86), 3) := by decide +kernel
theorem dX11_isAhead_100 : decode cX11_isAhead 100 = .ok (.aload_n 0, 1) := by decide +kernel
theorem dX11_isAhead_101 : decode cX11_isAhead 101 = .ok (.getfield 310, 3) := by decide +kernel
theorem dX11_isAhead_104 : decode cX11_isAhead 104 = .ok (.ifCond .eq 10, 3) := by decide +kernel
theorem dX11_isAhead_107 : decode cX11_isAhead 107 = .ok (.iload 5, 2) := by decide +kernel
theorem dX11_isAhead_109 : decode cX11_isAhead 109 = .ok (.iconst 1, 1) := by decide +kernel
theorem dX11_isAhead_110 : decode cX11_isAhead 110 = .ok (.isub, 1) := by decide +kernel
theorem dX11_isAhead_111 : decode cX11_isAhead 111 = .ok (.goto 4, 3) := by decide +kernel
theorem dX11_isAhead_114 : decode cX11_isAhead 114 = .ok (.iconst (-1), 1) := by decide +kernel
theorem dX11_isAhead_115 : decode cX11_isAhead 115 = .ok (.istore 5, 2) := by decide +kernel
theorem dX11_isAhead_117 : decode cX11_isAhead 117 = .ok (.goto (-114), 3) := by decide +kernel
theorem dX11_isAhead_120 : decode cX11_isAhead 120 = .ok (.iconst 0, 1) := by decide +kernel
theorem dX11_isAhead_121 : decode cX11_isAhead 121 = .ok (.ireturn, 1) := by decide +kernel
theorem dX11_rankOf_0 : decode cX11_rankOf 0 = .ok (.iconst 1, 1) := by decide +kernel
theorem dX11_rankOf_1 : decode cX11_rankOf 1 = .ok (.istore 4, 2) := by decide +kernel
theorem dX11_rankOf_3 : decode cX11_rankOf 3 = .ok (.iconst 0, 1) := by decide +kernel
theorem dX11_rankOf_4 : decode cX11_rankOf 4 = .ok (.istore 5, 2) := by decide +kernel
theorem dX11_rankOf_6 : decode cX11_rankOf 6 = .ok (.iload 5, 2) := by decide +kernel
theorem dX11_rankOf_8 : decode cX11_rankOf 8 = .ok (.aload_n 0, 1) := by decide +kernel
theorem dX11_rankOf_9 : decode cX11_rankOf 9 = .ok (.getfield 313, 3) := by decide +kernel
theorem dX11_rankOf_12 : decode cX11_rankOf 12 = .ok (.if_icmp .ge 52, 3) := by decide +kernel
theorem dX11_rankOf_15 : decode cX11_rankOf 15 = .ok (.iload 4, 2) := by decide +kernel
theorem dX11_rankOf_17 : decode cX11_rankOf 17 = .ok (.iload 5, 2) := by decide +kernel
theorem dX11_rankOf_19 : decode cX11_rankOf 19 = .ok (.iload_n 2, 1) := by decide +kernel
theorem dX11_rankOf_20 : decode cX11_rankOf 20 = .ok (.if_icmp .eq 34, 3) := by decide +kernel
theorem dX11_rankOf_23 : decode cX11_rankOf 23 = .ok (.aload_n 0, 1) := by decide +kernel
theorem dX11_rankOf_24 : decode cX11_rankOf 24 = .ok (.getfield 85, 3) := by decide +kernel
theorem dX11_rankOf_27 : decode cX11_rankOf 27 = .ok (.bipush 16, 2) := by decide +kernel
theorem dX11_rankOf_29 : decode cX11_rankOf 29 = .ok (.iload_n 1, 1) := by decide +kernel
theorem dX11_rankOf_30 : decode cX11_rankOf 30 = .ok (.imul, 1) := by decide +kernel
theorem dX11_rankOf_31 : decode cX11_rankOf 31 = .ok (.iload 5, 2) := by decide +kernel
theorem dX11_rankOf_33 : decode cX11_rankOf 33 = .ok (.iadd, 1) := by decide +kernel
theorem dX11_rankOf_34 : decode cX11_rankOf 34 = .ok (.baload, 1) := by decide +kernel
theorem dX11_rankOf_35 : decode cX11_rankOf 35 = .ok (.ifCond .eq 19, 3) := by decide +kernel
theorem dX11_rankOf_38 : decode cX11_rankOf 38 = .ok (.aload_n 0, 1) := by decide +kernel
theorem dX11_rankOf_39 : decode cX11_rankOf 39 = .ok (.iload_n 1, 1) := by decide +kernel
theorem dX11_rankOf_40 : decode cX11_rankOf 40 = .ok (.iload 5, 2) := by decide +kernel
theorem dX11_rankOf_42 : decode cX11_rankOf 42 = .ok (.iload_n 2, 1) := by decide +kernel
theorem dX11_rankOf_43 : decode cX11_rankOf 43 = .ok (.iload_n 3, 1) := by decide +kernel
theorem dX11_rankOf_44 : decode cX11_rankOf 44 = .ok (.invokevirtual 397, 3) := by decide +kernel
theorem dX11_rankOf_47 : decode cX11_rankOf 47 = .ok (.ifCond .eq 7, 3) := by decide +kernel
theorem dX11_rankOf_50 : decode cX11_rankOf 50 = .ok (.iconst 1, 1) := by decide +kernel
theorem dX11_rankOf_51 : decode cX11_rankOf 51 = .ok (.goto 4, 3) := by decide +kernel
theorem dX11_rankOf_54 : decode cX11_rankOf 54 = .ok (.iconst 0, 1) := by decide +kernel
theorem dX11_rankOf_55 : decode cX11_rankOf 55 = .ok (.iadd, 1) := by decide +kernel
theorem dX11_rankOf_56 : decode cX11_rankOf 56 = .ok (.istore 4, 2) := by decide +kernel
theorem dX11_rankOf_58 : decode cX11_rankOf 58 = .ok (.iinc 5 1, 3) := by decide +kernel
theorem dX11_rankOf_61 : decode cX11_rankOf 61 = .ok (.goto (-55), 3) := by decide +kernel
theorem dX11_rankOf_64 : decode cX11_rankOf 64 = .ok (.iload 4, 2) := by decide +kernel
theorem dX11_rankOf_66 : decode cX11_rankOf 66 = .ok (.ireturn, 1) := by decide +kernel
theorem dX11_rank_0 : decode cX11_rank 0 = .ok (.aload_n 0, 1) := by decide +kernel
theorem dX11_rank_1 : decode cX11_rank 1 = .ok (.iconst 0, 1) := by decide +kernel
theorem dX11_rank_2 : decode cX11_rank 2 = .ok (.putfield 146, 3) := by decide +kernel
theorem dX11_rank_5 : decode cX11_rank 5 = .ok (.aload_n 0, 1) := by decide +kernel
theorem dX11_rank_6 : decode cX11_rank 6 = .ok (.iconst 0, 1) := by decide +kernel
theorem dX11_rank_7 : decode cX11_rank 7 = .ok (.putfield 149, 3) := by decide +kernel
theorem dX11_rank_10 : decode cX11_rank 10 = .ok (.aload_n 0, 1) := by decide +kernel
theorem dX11_rank_11 : decode cX11_rank 11 = .ok (.iload_n 1, 1) := by decide +kernel
theorem dX11_rank_12 : decode cX11_rank 12 = .ok (.iload_n 2, 1) := by decide +kernel
theorem dX11_rank_13 : decode cX11_rank 13 = .ok (.invokevirtual 391, 3) := by decide +kernel
theorem dX11_rank_16 : decode cX11_rank 16 = .ok (.ifCond .ne 9, 3) := by decide +kernel
theorem dX11_rank_19 : decode cX11_rank 19 = .ok (.aload_n 0, 1) := by decide +kernel
theorem dX11_rank_20 : decode cX11_rank 20 = .ok (.iconst 1, 1) := by decide +kernel
theorem dX11_rank_21 : decode cX11_rank 21 = .ok (.invokevirtual 295, 3) := by decide +kernel
theorem dX11_rank_24 : decode cX11_rank 24 = .ok (.ireturn, 1) := by decide +kernel
theorem dX11_rank_25 : decode cX11_rank 25 = .ok (.iload_n 3, 1) := by decide +kernel
theorem dX11_rank_26 : decode cX11_rank 26 = .ok (.invokestatic 364, 3) := by decide +kernel
theorem dX11_rank_29 : decode cX11_rank 29 = .ok (.ifCond .ne 9, 3) := by decide +kernel
theorem dX11_rank_32 : decode cX11_rank 32 = .ok (.aload_n 0, 1) := by decide +kernel
theorem dX11_rank_33 : decode cX11_rank 33 = .ok (.iconst 2, 1) := by decide +kernel
theorem dX11_rank_34 : decode cX11_rank 34 = .ok (.invokevirtual 295, 3) := by decide +kernel
theorem dX11_rank_37 : decode cX11_rank 37 = .ok (.ireturn, 1) := by decide +kernel
theorem dX11_rank_38 : decode cX11_rank 38 = .ok (.aload_n 0, 1) := by decide +kernel
theorem dX11_rank_39 : decode cX11_rank 39 = .ok (.iload_n 1, 1) := by decide +kernel
theorem dX11_rank_40 : decode cX11_rank 40 = .ok (.iload_n 2, 1) := by decide +kernel
theorem dX11_rank_41 : decode cX11_rank 41 = .ok (.iload_n 3, 1) := by decide +kernel
theorem dX11_rank_42 : decode cX11_rank 42 = .ok (.invokevirtual 401, 3) := by decide +kernel
theorem dX11_rank_45 : decode cX11_rank 45 = .ok (.ireturn, 1) := by decide +kernel
theorem dX11_advance_0 : decode cX11_advance 0 = .ok (.aload_n 0, 1) := by decide +kernel
theorem dX11_advance_1 : decode cX11_advance 1 = .ok (.iconst 0, 1) := by decide +kernel
theorem dX11_advance_2 : decode cX11_advance 2 = .ok (.putfield 146, 3) := by decide +kernel
theorem dX11_advance_5 : decode cX11_advance 5 = .ok (.aload_n 0, 1) := by decide +kernel
theorem dX11_advance_6 : decode cX11_advance 6 = .ok (.iconst 0, 1) := by decide +kernel
theorem dX11_advance_7 : decode cX11_advance 7 = .ok (.putfield 149, 3) := by decide +kernel
theorem dX11_advance_10 : decode cX11_advance 10 = .ok (.iload_n 1, 1) := by decide +kernel
theorem dX11_advance_11 : decode cX11_advance 11 = .ok (.iconst 1, 1) := by decide +kernel
theorem dX11_advance_12 : decode cX11_advance 12 = .ok (.if_icmp .lt 16, 3) := by decide +kernel
theorem dX11_advance_15 : decode cX11_advance 15 = .ok (.iload_n 1, 1) := by decide +kernel
theorem dX11_advance_16 : decode cX11_advance 16 = .ok (.bipush 16, 2) := by decide +kernel
theorem dX11_advance_18 : decode cX11_advance 18 = .ok (.if_icmp .gt 10, 3) := by decide +kernel
theorem dX11_advance_21 : decode cX11_advance 21 = .ok (.iload_n 2, 1) := by decide +kernel
theorem dX11_advance_22 : decode cX11_advance 22 = .ok (.invokestatic 364, 3) := by decide +kernel
theorem dX11_advance_25 : decode cX11_advance 25 = .ok (.ifCond .ne 9, 3) := by decide +kernel
theorem dX11_advance_28 : decode cX11_advance 28 = .ok (.aload_n 0, 1) := by decide +kernel
theorem dX11_advance_29 : decode cX11_advance 29 = .ok (.iconst 2, 1) := by decide +kernel
theorem dX11_advance_30 : decode cX11_advance 30 = .ok (.invokevirtual 295, 3) := by decide +kernel
theorem dX11_advance_33 : decode cX11_advance 33 = .ok (.ireturn, 1) := by decide +kernel
theorem dX11_advance_34 : decode cX11_advance 34 = .ok (.iconst 0, 1) := by decide +kernel
theorem dX11_advance_35 : decode cX11_advance 35 = .ok (.istore_n 3, 1) := by decide +kernel
theorem dX11_advance_36 : decode cX11_advance 36 = .ok (.iload_n 3, 1) := by decide +kernel
theorem dX11_advance_37 : decode cX11_advance 37 = .ok (.aload_n 0, 1) := by decide +kernel
theorem dX11_advance_38 : decode cX11_advance 38 = .ok (.getfield 313, 3) := by decide +kernel
theorem dX11_advance_41 : decode cX11_advance 41 = .ok (.if_icmp .ge 23, 3) := by decide +kernel
theorem dX11_advance_44 : decode cX11_advance 44 = .ok (.aload_n 0, 1) := by decide +kernel
theorem dX11_advance_45 : decode cX11_advance 45 = .ok (.iload_n 3, 1) := by decide +kernel
theorem dX11_advance_46 : decode cX11_advance 46 = .ok (.invokevirtual 355, 3) := by decide +kernel
theorem dX11_advance_49 : decode cX11_advance 49 = .ok (.ifCond .lt 9, 3) := by decide +kernel
theorem dX11_advance_52 : decode cX11_advance 52 = .ok (.aload_n 0, 1) := by decide +kernel
theorem dX11_advance_53 : decode cX11_advance 53 = .ok (.iconst 5, 1) := by decide +kernel
theorem dX11_advance_54 : decode cX11_advance 54 = .ok (.invokevirtual 295, 3) := by decide +kernel
theorem dX11_advance_57 : decode cX11_advance 57 = .ok (.ireturn, 1) := by decide +kernel
theorem dX11_advance_58 : decode cX11_advance 58 = .ok (.iinc 3 1, 3) := by decide +kernel
theorem dX11_advance_61 : decode cX11_advance 61 = .ok (.goto (-25), 3) := by decide +kernel
theorem dX11_advance_64 : decode cX11_advance 64 = .ok (.aload_n 0, 1) := by decide +kernel
theorem dX11_advance_65 : decode cX11_advance 65 = .ok (.getfield 82, 3) := by decide +kernel
theorem dX11_advance_68 : decode cX11_advance 68 = .ok (.ifCond .lt 16, 3) := by decide +kernel
theorem dX11_advance_71 : decode cX11_advance 71 = .ok (.aload_n 0, 1) := by decide +kernel
theorem dX11_advance_72 : decode cX11_advance 72 = .ok (.getfield 82, 3) := by decide +kernel
theorem dX11_advance_75 : decode cX11_advance 75 = .ok (.iconst 1, 1) := by decide +kernel
theorem dX11_advance_76 : decode cX11_advance 76 = .ok (.iadd, 1) := by decide +kernel
theorem dX11_advance_77 : decode cX11_advance 77 = .ok (.aload_n 0, 1) := by decide +kernel
theorem dX11_advance_78 : decode cX11_advance 78 = .ok (.getfield 301, 3) := by decide +kernel
theorem dX11_advance_81 : decode cX11_advance 81 = .ok (.if_icmp .lt 10, 3) := by decide +kernel
theorem dX11_advance_84 : decode cX11_advance 84 = .ok (.aload_n 0, 1) := by decide +kernel
theorem dX11_advance_85 : decode cX11_advance 85 = .ok (.bipush 10, 2) := by decide +kernel
theorem dX11_advance_87 : decode cX11_advance 87 = .ok (.invokevirtual 295, 3) := by decide +kernel
theorem dX11_advance_90 : decode cX11_advance 90 = .ok (.ireturn, 1) := by decide +kernel
theorem dX11_advance_91 : decode cX11_advance 91 = .ok (.iconst 0, 1) := by decide +kernel
theorem dX11_advance_92 : decode cX11_advance 92 = .ok (.istore_n 3, 1) := by decide +kernel
theorem dX11_advance_93 : decode cX11_advance 93 = .ok (.iload_n 3, 1) := by decide +kernel
theorem dX11_advance_94 : decode cX11_advance 94 = .ok (.aload_n 0, 1) := by decide +kernel
theorem dX11_advance_95 : decode cX11_advance 95 = .ok (.getfield 313, 3) := by decide +kernel
theorem dX11_advance_98 : decode cX11_advance 98 = .ok (.if_icmp .ge 46, 3) := by decide +kernel
theorem dX11_advance_101 : decode cX11_advance 101 = .ok (.aload_n 0, 1) := by decide +kernel
theorem dX11_advance_102 : decode cX11_advance 102 = .ok (.getfield 140, 3) := by decide +kernel
theorem dX11_advance_105 : decode cX11_advance 105 = .ok (.iload_n 3, 1) := by decide +kernel
theorem dX11_advance_106 : decode cX11_advance 106 = .ok (.aload_n 0, 1) := by decide +kernel
theorem dX11_advance_107 : decode cX11_advance 107 = .ok (.getfield 85, 3) := by decide +kernel
theorem dX11_advance_110 : decode cX11_advance 110 = .ok (.bipush 16, 2) := by decide +kernel
theorem dX11_advance_112 : decode cX11_advance 112 = .ok (.aload_n 0, 1) := by decide +kernel
theorem dX11_advance_113 : decode cX11_advance 113 = .ok (.getfield 82, 3) := by decide +kernel
theorem dX11_advance_116 : decode cX11_advance 116 = .ok (.imul, 1) := by decide +kernel
theorem dX11_advance_117 : decode cX11_advance 117 = .ok (.iload_n 3, 1) := by decide +kernel
theorem dX11_advance_118 : decode cX11_advance 118 = .ok (.iadd, 1) := by decide +kernel
theorem dX11_advance_119 : decode cX11_advance 119 = .ok (.baload, 1) := by decide +kernel
theorem dX11_advance_120 : decode cX11_advance 120 = .ok (.ifCond .eq 16, 3) := by decide +kernel
theorem dX11_advance_123 : decode cX11_advance 123 = .ok (.aload_n 0, 1) := by decide +kernel
theorem dX11_advance_124 : decode cX11_advance 124 = .ok (.aload_n 0, 1) := by decide +kernel
theorem dX11_advance_125 : decode cX11_advance 125 = .ok (.getfield 82, 3) := by decide +kernel
theorem dX11_advance_128 : decode cX11_advance 128 = .ok (.iload_n 3, 1) := by decide +kernel
theorem dX11_advance_129 : decode cX11_advance 129 = .ok (.iload_n 2, 1) := by decide +kernel
theorem dX11_advance_130 : decode cX11_advance 130 = .ok (.invokevirtual 401, 3) := by decide +kernel
theorem dX11_advance_133 : decode cX11_advance 133 = .ok (.goto 4, 3) := by decide +kernel
theorem dX11_advance_136 : decode cX11_advance 136 = .ok (.iconst (-1), 1) := by decide +kernel
theorem dX11_advance_137 : decode cX11_advance 137 = .ok (.iastore, 1) := by decide +kernel
theorem dX11_advance_138 : decode cX11_advance 138 = .ok (.iinc 3 1, 3) := by decide +kernel
theorem dX11_advance_141 : decode cX11_advance 141 = .ok (.goto (-48), 3) := by decide +kernel
theorem dX11_advance_144 : decode cX11_advance 144 = .ok (.aload_n 0, 1) := by decide +kernel
theorem dX11_advance_145 : decode cX11_advance 145 = .ok (.getfield 82, 3) := by decide +kernel
theorem dX11_advance_148 : decode cX11_advance 148 = .ok (.iconst 1, 1) := by decide +kernel
theorem dX11_advance_149 : decode cX11_advance 149 = .ok (.iadd, 1) := by decide +kernel
theorem dX11_advance_150 : decode cX11_advance 150 = .ok (.istore_n 3, 1) := by decide +kernel
theorem dX11_advance_151 : decode cX11_advance 151 = .ok (.iconst 0, 1) := by decide +kernel
theorem dX11_advance_152 : decode cX11_advance 152 = .ok (.istore 4, 2) := by decide +kernel
theorem dX11_advance_154 : decode cX11_advance 154 = .ok (.iload_n 1, 1) := by decide +kernel
theorem dX11_advance_155 : decode cX11_advance 155 = .ok (.istore 5, 2) := by decide +kernel
theorem dX11_advance_157 : decode cX11_advance 157 = .ok (.iload 5, 2) := by decide +kernel
theorem dX11_advance_159 : decode cX11_advance 159 = .ok (.iconst 1, 1) := by decide +kernel
theorem dX11_advance_160 : decode cX11_advance 160 = .ok (.if_icmp .lt 73, 3) := by decide +kernel
theorem dX11_advance_163 : decode cX11_advance 163 = .ok (.aload_n 0, 1) := by decide +kernel
theorem dX11_advance_164 : decode cX11_advance 164 = .ok (.getfield 313, 3) := by decide +kernel
theorem dX11_advance_167 : decode cX11_advance 167 = .ok (.iconst 1, 1) := by decide +kernel
theorem dX11_advance_168 : decode cX11_advance 168 = .ok (.isub, 1) := by decide +kernel
theorem dX11_advance_169 : decode cX11_advance 169 = .ok (.istore 6, 2) := by decide +kernel
theorem dX11_advance_171 : decode cX11_advance 171 = .ok (.iload 6, 2) := by decide +kernel
theorem dX11_advance_173 : decode cX11_advance 173 = .ok (.ifCond .lt 54, 3) := by decide +kernel
theorem dX11_advance_176 : decode cX11_advance 176 = .ok (.aload_n 0, 1) := by decide +kernel
theorem dX11_advance_177 : decode cX11_advance 177 = .ok (.getfield 140, 3) := by decide +kernel
theorem dX11_advance_180 : decode cX11_advance 180 = .ok (.iload 6, 2) := by decide +kernel
theorem dX11_advance_182 : decode cX11_advance 182 = .ok (.iaload, 1) := by decide +kernel
theorem dX11_advance_183 : decode cX11_advance 183 = .ok (.iload 5, 2) := by decide +kernel
theorem dX11_advance_185 : decode cX11_advance 185 = .ok (.if_icmp .eq 6, 3) := by decide +kernel
theorem dX11_advance_188 : decode cX11_advance 188 = .ok (.goto 33, 3) := by decide +kernel
theorem dX11_advance_191 : decode cX11_advance 191 = .ok (.aload_n 0, 1) := by decide +kernel
theorem dX11_advance_192 : decode cX11_advance 192 = .ok (.getfield 85, 3) := by decide +kernel
theorem dX11_advance_195 : decode cX11_advance 195 = .ok (.bipush 16, 2) := by decide +kernel
theorem dX11_advance_197 : decode cX11_advance 197 = .ok (.iload_n 3, 1) := by decide +kernel
theorem dX11_advance_198 : decode cX11_advance 198 = .ok (.imul, 1) := by decide +kernel
theorem dX11_advance_199 : decode cX11_advance 199 = .ok (.iload 6, 2) := by decide +kernel
theorem dX11_advance_201 : decode cX11_advance 201 = .ok (.iadd, 1) := by decide +kernel
theorem dX11_advance_202 : decode cX11_advance 202 = .ok (.iconst 1, 1) := by decide +kernel
theorem dX11_advance_203 : decode cX11_advance 203 = .ok (.bastore, 1) := by decide +kernel
theorem dX11_advance_204 : decode cX11_advance 204 = .ok (.aload_n 0, 1) := by decide +kernel
theorem dX11_advance_205 : decode cX11_advance 205 = .ok (.getfield 88, 3) := by decide +kernel
theorem dX11_advance_208 : decode cX11_advance 208 = .ok (.bipush 16, 2) := by decide +kernel
theorem dX11_advance_210 : decode cX11_advance 210 = .ok (.iload_n 3, 1) := by decide +kernel
theorem dX11_advance_211 : decode cX11_advance 211 = .ok (.imul, 1) := by decide +kernel
theorem dX11_advance_212 : decode cX11_advance 212 = .ok (.iload 4, 2) := by decide +kernel
theorem dX11_advance_214 : decode cX11_advance 214 = .ok (.iadd, 1) := by decide +kernel
theorem dX11_advance_215 : decode cX11_advance 215 = .ok (.iload 6, 2) := by decide +kernel
theorem dX11_advance_217 : decode cX11_advance 217 = .ok (.iastore, 1) := by decide +kernel
theorem dX11_advance_218 : decode cX11_advance 218 = .ok (.iinc 4 1, 3) := by decide +kernel
theorem dX11_advance_221 : decode cX11_advance 221 = .ok (.iinc 6 (-1), 3) := by decide +kernel
theorem dX11_advance_224 : decode cX11_advance 224 = .ok (.goto (-53), 3) := by decide +kernel
theorem dX11_advance_227 : decode cX11_advance 227 = .ok (.iinc 5 (-1), 3) := by decide +kernel
theorem dX11_advance_230 : decode cX11_advance 230 = .ok (.goto (-73), 3) := by decide +kernel
theorem dX11_advance_233 : decode cX11_advance 233 = .ok (.aload_n 0, 1) := by decide +kernel
theorem dX11_advance_234 : decode cX11_advance 234 = .ok (.getfield 91, 3) := by decide +kernel
theorem dX11_advance_237 : decode cX11_advance 237 = .ok (.iload_n 3, 1) := by decide +kernel
theorem dX11_advance_238 : decode cX11_advance 238 = .ok (.iload 4, 2) := by decide +kernel
theorem dX11_advance_240 : decode cX11_advance 240 = .ok (.iastore, 1) := by decide +kernel
theorem dX11_advance_241 : decode cX11_advance 241 = .ok (.aload_n 0, 1) := by decide +kernel
theorem dX11_advance_242 : decode cX11_advance 242 = .ok (.iload_n 3, 1) := by decide +kernel
theorem dX11_advance_243 : decode cX11_advance 243 = .ok (.putfield 82, 3) := by decide +kernel
theorem dX11_advance_246 : decode cX11_advance 246 = .ok (.iconst 0, 1) := by decide +kernel
theorem dX11_advance_247 : decode cX11_advance 247 = .ok (.istore 5, 2) := by decide +kernel
theorem dX11_advance_249 : decode cX11_advance 249 = .ok (.iload 5, 2) := by decide +kernel
theorem dX11_advance_251 : decode cX11_advance 251 = .ok (.aload_n 0, 1) := by decide +kernel
theorem dX11_advance_252 : decode cX11_advance 252 = .ok (.getfield 313, 3) := by decide +kernel
theorem dX11_advance_255 : decode cX11_advance 255 = .ok (.if_icmp .ge 17, 3) := by decide +kernel
theorem dX11_advance_258 : decode cX11_advance 258 = .ok (.aload_n 0, 1) := by decide +kernel
theorem dX11_advance_259 : decode cX11_advance 259 = .ok (.getfield 124, 3) := by decide +kernel
theorem dX11_advance_262 : decode cX11_advance 262 = .ok (.iload 5, 2) := by decide +kernel
theorem dX11_advance_264 : decode cX11_advance 264 = .ok (.iconst 0, 1) := by decide +kernel
theorem dX11_advance_265 : decode cX11_advance 265 = .ok (.iastore, 1) := by decide +kernel
theorem dX11_advance_266 : decode cX11_advance 266 = .ok (.iinc 5 1, 3) := by decide +kernel
theorem dX11_advance_269 : decode cX11_advance 269 = .ok (.goto (-20), 3) := by decide +kernel
theorem dX11_advance_272 : decode cX11_advance 272 = .ok (.iload 4, 2) := by decide +kernel
theorem dX11_advance_274 : decode cX11_advance 274 = .ok (.ireturn, 1) := by decide +kernel
theorem dX11_order_0 : decode cX11_order 0 = .ok (.aload_n 0, 1) := by decide +kernel
theorem dX11_order_1 : decode cX11_order 1 = .ok (.iconst 0, 1) := by decide +kernel
theorem dX11_order_2 : decode cX11_order 2 = .ok (.putfield 146, 3) := by decide +kernel
theorem dX11_order_5 : decode cX11_order 5 = .ok (.aload_n 0, 1) := by decide +kernel
theorem dX11_order_6 : decode cX11_order 6 = .ok (.iconst 0, 1) := by decide +kernel
theorem dX11_order_7 : decode cX11_order 7 = .ok (.putfield 149, 3) := by decide +kernel
theorem dX11_order_10 : decode cX11_order 10 = .ok (.aload_n 0, 1) := by decide +kernel
theorem dX11_order_11 : decode cX11_order 11 = .ok (.iload_n 1, 1) := by decide +kernel
theorem dX11_order_12 : decode cX11_order 12 = .ok (.invokevirtual 325, 3) := by decide +kernel
theorem dX11_order_15 : decode cX11_order 15 = .ok (.ifCond .eq 17, 3) := by decide +kernel
theorem dX11_order_18 : decode cX11_order 18 = .ok (.iload_n 2, 1) := by decide +kernel
theorem dX11_order_19 : decode cX11_order 19 = .ok (.ifCond .lt 13, 3) := by decide +kernel
theorem dX11_order_22 : decode cX11_order 22 = .ok (.iload_n 2, 1) := by decide +kernel
theorem dX11_order_23 : decode cX11_order 23 = .ok (.aload_n 0, 1) := by decide +kernel
theorem dX11_order_24 : decode cX11_order 24 = .ok (.getfield 91, 3) := by decide +kernel
theorem dX11_order_27 : decode cX11_order 27 = .ok (.iload_n 1, 1) := by decide +kernel
theorem dX11_order_28 : decode cX11_order 28 = .ok (.iaload, 1) := by decide +kernel
theorem dX11_order_29 : decode cX11_order 29 = .ok (.if_icmp .lt 9, 3) := by decide +kernel
theorem dX11_order_32 : decode cX11_order 32 = .ok (.aload_n 0, 1) := by decide +kernel
theorem dX11_order_33 : decode cX11_order 33 = .ok (.iconst 1, 1) := by decide +kernel
theorem dX11_order_34 : decode cX11_order 34 = .ok (.invokevirtual 295, 3) := by decide +kernel
theorem dX11_order_37 : decode cX11_order 37 = .ok (.ireturn, 1) := by decide +kernel
theorem dX11_order_38 : decode cX11_order 38 = .ok (.aload_n 0, 1) := by decide +kernel
theorem dX11_order_39 : decode cX11_order 39 = .ok (.getfield 88, 3) := by decide +kernel
theorem dX11_order_42 : decode cX11_order 42 = .ok (.bipush 16, 2) := by decide +kernel
theorem dX11_order_44 : decode cX11_order 44 = .ok (.iload_n 1, 1) := by decide +kernel
theorem dX11_order_45 : decode cX11_order 45 = .ok (.imul, 1) := by decide +kernel
theorem dX11_order_46 : decode cX11_order 46 = .ok (.iload_n 2, 1) := by decide +kernel
theorem dX11_order_47 : decode cX11_order 47 = .ok (.iadd, 1) := by decide +kernel
theorem dX11_order_48 : decode cX11_order 48 = .ok (.iaload, 1) := by decide +kernel
theorem dX11_order_49 : decode cX11_order 49 = .ok (.ireturn, 1) := by decide +kernel
theorem dX11_partsOf_0 : decode cX11_partsOf 0 = .ok (.iconst 0, 1) := by decide +kernel
theorem dX11_partsOf_1 : decode cX11_partsOf 1 = .ok (.istore 4, 2) := by decide +kernel
theorem dX11_partsOf_3 : decode cX11_partsOf 3 = .ok (.iload 4, 2) := by decide +kernel
theorem dX11_partsOf_5 : decode cX11_partsOf 5 = .ok (.aload_n 0, 1) := by decide +kernel
theorem dX11_partsOf_6 : decode cX11_partsOf 6 = .ok (.getfield 313, 3) := by decide +kernel
theorem dX11_partsOf_9 : decode cX11_partsOf 9 = .ok (.if_icmp .ge 68, 3) := by decide +kernel
theorem dX11_partsOf_12 : decode cX11_partsOf 12 = .ok (.aload_n 0, 1) := by decide +kernel
theorem dX11_partsOf_13 : decode cX11_partsOf 13 = .ok (.getfield 143, 3) := by decide +kernel
theorem dX11_partsOf_16 : decode cX11_partsOf 16 = .ok (.iload 4, 2) := by decide +kernel
theorem dX11_partsOf_18 : decode cX11_partsOf 18 = .ok (.lconst 0, 1) := by decide +kernel
theorem dX11_partsOf_19 : decode cX11_partsOf 19 = .ok (.lastore, 1) := by decide +kernel
theorem dX11_partsOf_20 : decode cX11_partsOf 20 = .ok (.iconst 0, 1) := by decide +kernel
theorem dX11_partsOf_21 : decode cX11_partsOf 21 = .ok (.istore 5, 2) := by decide +kernel
theorem dX11_partsOf_23 : decode cX11_partsOf 23 = .ok (.iload 5, 2) := by decide +kernel
theorem dX11_partsOf_25 : decode cX11_partsOf 25 = .ok (.aload_n 0, 1) := by decide +kernel
theorem dX11_partsOf_26 : decode cX11_partsOf 26 = .ok (.getfield 20, 3) := by decide +kernel
theorem dX11_partsOf_29 : decode cX11_partsOf 29 = .ok (.iload_n 1, 1) := by decide +kernel
theorem dX11_partsOf_30 : decode cX11_partsOf 30 = .ok (.iaload, 1) := by decide +kernel
theorem dX11_partsOf_31 : decode cX11_partsOf 31 = .ok (.if_icmp .ge 40, 3) := by decide +kernel
theorem dX11_partsOf_34 : decode cX11_partsOf 34 = .ok (.iload_n 2, 1) := by decide +kernel
theorem dX11_partsOf_35 : decode cX11_partsOf 35 = .ok (.iload 5, 2) := by decide +kernel
theorem dX11_partsOf_37 : decode cX11_partsOf 37 = .ok (.ishr, 1) := by decide +kernel
theorem dX11_partsOf_38 : decode cX11_partsOf 38 = .ok (.iconst 1, 1) := by decide +kernel
theorem dX11_partsOf_39 : decode cX11_partsOf 39 = .ok (.iand, 1) := by decide +kernel
theorem dX11_partsOf_40 : decode cX11_partsOf 40 = .ok (.iconst 1, 1) := by decide +kernel
theorem dX11_partsOf_41 : decode cX11_partsOf 41 = .ok (.if_icmp .ne 24, 3) := by decide +kernel
theorem dX11_partsOf_44 : decode cX11_partsOf 44 = .ok (.aload_n 0, 1) := by decide +kernel
theorem dX11_partsOf_45 : decode cX11_partsOf 45 = .ok (.getfield 143, 3) := by decide +kernel
theorem dX11_partsOf_48 : decode cX11_partsOf 48 = .ok (.iload 4, 2) := by decide +kernel
theorem dX11_partsOf_50 : decode cX11_partsOf 50 = .ok (.dup2, 1) := by decide +kernel
theorem dX11_partsOf_51 : decode cX11_partsOf 51 = .ok (.laload, 1) := by decide +kernel
theorem dX11_partsOf_52 : decode cX11_partsOf 52 = .ok (.aload_n 0, 1) := by decide +kernel
theorem dX11_partsOf_53 : decode cX11_partsOf 53 = .ok (.iload_n 1, 1) := by decide +kernel
theorem dX11_partsOf_54 : decode cX11_partsOf 54 = .ok (.iload 5, 2) := by decide +kernel
theorem dX11_partsOf_56 : decode cX11_partsOf 56 = .ok (.iload 4, 2) := by decide +kernel
theorem dX11_partsOf_58 : decode cX11_partsOf 58 = .ok (.iload_n 3, 1) := by decide +kernel
theorem dX11_partsOf_59 : decode cX11_partsOf 59 = .ok (.invokevirtual 387, 3) := by decide +kernel
theorem dX11_partsOf_62 : decode cX11_partsOf 62 = .ok (.i2l, 1) := by decide +kernel
theorem dX11_partsOf_63 : decode cX11_partsOf 63 = .ok (.ladd, 1) := by decide +kernel
theorem dX11_partsOf_64 : decode cX11_partsOf 64 = .ok (.lastore, 1) := by decide +kernel
theorem dX11_partsOf_65 : decode cX11_partsOf 65 = .ok (.iinc 5 1, 3) := by decide +kernel
theorem dX11_partsOf_68 : decode cX11_partsOf 68 = .ok (.goto (-45), 3) := by decide +kernel
theorem dX11_partsOf_71 : decode cX11_partsOf 71 = .ok (.iinc 4 1, 3) := by decide +kernel
theorem dX11_partsOf_74 : decode cX11_partsOf 74 = .ok (.goto (-71), 3) := by decide +kernel
theorem dX11_partsOf_77 : decode cX11_partsOf 77 = .ok (.iconst 0, 1) := by decide +kernel
theorem dX11_partsOf_78 : decode cX11_partsOf 78 = .ok (.istore 4, 2) := by decide +kernel
theorem dX11_partsOf_80 : decode cX11_partsOf 80 = .ok (.iconst 0, 1) := by decide +kernel
theorem dX11_partsOf_81 : decode cX11_partsOf 81 = .ok (.istore 5, 2) := by decide +kernel
theorem dX11_partsOf_83 : decode cX11_partsOf 83 = .ok (.iload 5, 2) := by decide +kernel
theorem dX11_partsOf_85 : decode cX11_partsOf 85 = .ok (.aload_n 0, 1) := by decide +kernel
theorem dX11_partsOf_86 : decode cX11_partsOf 86 = .ok (.getfield 313, 3) := by decide +kernel
theorem dX11_partsOf_89 : decode cX11_partsOf 89 = .ok (.if_icmp .ge 88, 3) := by decide +kernel
theorem dX11_partsOf_92 : decode cX11_partsOf 92 = .ok (.iload 5, 2) := by decide +kernel
theorem dX11_partsOf_94 : decode cX11_partsOf 94 = .ok (.iconst 1, 1) := by decide +kernel
theorem dX11_partsOf_95 : decode cX11_partsOf 95 = .ok (.iadd, 1) := by decide +kernel
theorem dX11_partsOf_96 : decode cX11_partsOf 96 = .ok (.istore 6, 2) := by decide +kernel
theorem dX11_partsOf_98 : decode cX11_partsOf 98 = .ok (.iload 6, 2) := by decide +kernel
theorem dX11_partsOf_100 : decode cX11_partsOf 100 = .ok (.aload_n 0, 1) := by decide +kernel
theorem dX11_partsOf_101 : decode cX11_partsOf 101 = .ok (.getfield 313, 3) := by decide +kernel
theorem dX11_partsOf_104 : decode cX11_partsOf 104 = .ok (.if_icmp .ge 67, 3) := by decide +kernel
theorem dX11_partsOf_107 : decode cX11_partsOf 107 = .ok (.iload 4, 2) := by decide +kernel
theorem dX11_partsOf_109 : decode cX11_partsOf 109 = .ok (.aload_n 0, 1) := by decide +kernel
theorem dX11_partsOf_110 : decode cX11_partsOf 110 = .ok (.getfield 85, 3) := by decide +kernel
theorem dX11_partsOf_113 : decode cX11_partsOf 113 = .ok (.bipush 16, 2) := by decide +kernel
theorem dX11_partsOf_115 : decode cX11_partsOf 115 = .ok (.iload_n 1, 1) := by decide +kernel
theorem dX11_partsOf_116 : decode cX11_partsOf 116 = .ok (.imul, 1) := by decide +kernel
theorem dX11_partsOf_117 : decode cX11_partsOf 117 = .ok (.iload 5, 2) := by decide +kernel
theorem dX11_partsOf_119 : decode cX11_partsOf 119 = .ok (.iadd, 1) := by decide +kernel
theorem dX11_partsOf_120 : decode cX11_partsOf 120 = .ok (.baload, 1) := by decide +kernel
theorem dX11_partsOf_121 : decode cX11_partsOf 121 = .ok (.ifCond .eq 40, 3) := by decide +kernel
theorem dX11_partsOf_124 : decode cX11_partsOf 124 = .ok (.aload_n 0, 1) := by decide +kernel
theorem dX11_partsOf_125 : decode cX11_partsOf 125 = .ok (.getfield 85, 3) := by decide +kernel
theorem dX11_partsOf_128 : decode cX11_partsOf 128 = .ok (.bipush 16, 2) := by decide +kernel
theorem dX11_partsOf_130 : decode cX11_partsOf 130 = .ok (.iload_n 1, 1) := by decide +kernel
theorem dX11_partsOf_131 : decode cX11_partsOf 131 = .ok (.imul, 1) := by decide +kernel
theorem dX11_partsOf_132 : decode cX11_partsOf 132 = .ok (.iload 6, 2) := by decide +kernel
theorem dX11_partsOf_134 : decode cX11_partsOf 134 = .ok (.iadd, 1) := by decide +kernel
theorem dX11_partsOf_135 : decode cX11_partsOf 135 = .ok (.baload, 1) := by decide +kernel
theorem dX11_partsOf_136 : decode cX11_partsOf 136 = .ok (.ifCond .eq 25, 3) := by decide +kernel
theorem dX11_partsOf_139 : decode cX11_partsOf 139 = .ok (.aload_n 0, 1) := by decide +kernel
theorem dX11_partsOf_140 : decode cX11_partsOf 140 = .ok (.getfield 143, 3) := by decide +kernel
theorem dX11_partsOf_143 : decode cX11_partsOf 143 = .ok (.iload 5, 2) := by decide +kernel
theorem dX11_partsOf_145 : decode cX11_partsOf 145 = .ok (.laload, 1) := by decide +kernel
theorem dX11_partsOf_146 : decode cX11_partsOf 146 = .ok (.aload_n 0, 1) := by decide +kernel
theorem dX11_partsOf_147 : decode cX11_partsOf 147 = .ok (.getfield 143, 3) := by decide +kernel
theorem dX11_partsOf_150 : decode cX11_partsOf 150 = .ok (.iload 6, 2) := by decide +kernel
theorem dX11_partsOf_152 : decode cX11_partsOf 152 = .ok (.laload, 1) := by decide +kernel
theorem dX11_partsOf_153 : decode cX11_partsOf 153 = .ok (.lcmp, 1) := by decide +kernel
theorem dX11_partsOf_154 : decode cX11_partsOf 154 = .ok (.ifCond .eq 7, 3) := by decide +kernel
theorem dX11_partsOf_157 : decode cX11_partsOf 157 = .ok (.iconst 1, 1) := by decide +kernel
theorem dX11_partsOf_158 : decode cX11_partsOf 158 = .ok (.goto 4, 3) := by decide +kernel
theorem dX11_partsOf_161 : decode cX11_partsOf 161 = .ok (.iconst 0, 1) := by decide +kernel
theorem dX11_partsOf_162 : decode cX11_partsOf 162 = .ok (.iadd, 1) := by decide +kernel
theorem dX11_partsOf_163 : decode cX11_partsOf 163 = .ok (.istore 4, 2) := by decide +kernel
theorem dX11_partsOf_165 : decode cX11_partsOf 165 = .ok (.iinc 6 1, 3) := by decide +kernel
theorem dX11_partsOf_168 : decode cX11_partsOf 168 = .ok (.goto (-70), 3) := by decide +kernel
theorem dX11_partsOf_171 : decode cX11_partsOf 171 = .ok (.iinc 5 1, 3) := by decide +kernel
theorem dX11_partsOf_174 : decode cX11_partsOf 174 = .ok (.goto (-91), 3) := by decide +kernel
theorem dX11_partsOf_177 : decode cX11_partsOf 177 = .ok (.iload 4, 2) := by decide +kernel
theorem dX11_partsOf_179 : decode cX11_partsOf 179 = .ok (.ireturn, 1) := by decide +kernel
theorem dX11_parts_0 : decode cX11_parts 0 = .ok (.aload_n 0, 1) := by decide +kernel
theorem dX11_parts_1 : decode cX11_parts 1 = .ok (.iconst 0, 1) := by decide +kernel
theorem dX11_parts_2 : decode cX11_parts 2 = .ok (.putfield 146, 3) := by decide +kernel
theorem dX11_parts_5 : decode cX11_parts 5 = .ok (.aload_n 0, 1) := by decide +kernel
theorem dX11_parts_6 : decode cX11_parts 6 = .ok (.iconst 0, 1) := by decide +kernel
theorem dX11_parts_7 : decode cX11_parts 7 = .ok (.putfield 149, 3) := by decide +kernel
theorem dX11_parts_10 : decode cX11_parts 10 = .ok (.aload_n 0, 1) := by decide +kernel
theorem dX11_parts_11 : decode cX11_parts 11 = .ok (.iload_n 1, 1) := by decide +kernel
theorem dX11_parts_12 : decode cX11_parts 12 = .ok (.invokevirtual 325, 3) := by decide +kernel
theorem dX11_parts_15 : decode cX11_parts 15 = .ok (.ifCond .ne 9, 3) := by decide +kernel
theorem dX11_parts_18 : decode cX11_parts 18 = .ok (.aload_n 0, 1) := by decide +kernel
theorem dX11_parts_19 : decode cX11_parts 19 = .ok (.iconst 1, 1) := by decide +kernel
theorem dX11_parts_20 : decode cX11_parts 20 = .ok (.invokevirtual 295, 3) := by decide +kernel
theorem dX11_parts_23 : decode cX11_parts 23 = .ok (.ireturn, 1) := by decide +kernel
theorem dX11_parts_24 : decode cX11_parts 24 = .ok (.iload_n 2, 1) := by decide +kernel
theorem dX11_parts_25 : decode cX11_parts 25 = .ok (.ifCond .lt 22, 3) := by decide +kernel
theorem dX11_parts_28 : decode cX11_parts 28 = .ok (.iload_n 2, 1) := by decide +kernel
theorem dX11_parts_29 : decode cX11_parts 29 = .ok (.iconst 1, 1) := by decide +kernel
theorem dX11_parts_30 : decode cX11_parts 30 = .ok (.aload_n 0, 1) := by decide +kernel
theorem dX11_parts_31 : decode cX11_parts 31 = .ok (.getfield 20, 3) := by decide +kernel
theorem dX11_parts_34 : decode cX11_parts 34 = .ok (.iload_n 1, 1) := by decide +kernel
theorem dX11_parts_35 : decode cX11_parts 35 = .ok (.iaload, 1) := by decide +kernel
theorem dX11_parts_36 : decode cX11_parts 36 = .ok (.ishl, 1) := by decide +kernel
theorem dX11_parts_37 : decode cX11_parts 37 = .ok (.if_icmp .ge 10, 3) := by decide +kernel
theorem dX11_parts_40 : decode cX11_parts 40 = .ok (.iload_n 3, 1) := by decide +kernel
theorem dX11_parts_41 : decode cX11_parts 41 = .ok (.invokestatic 364, 3) := by decide +kernel
theorem dX11_parts_44 : decode cX11_parts 44 = .ok (.ifCond .ne 9, 3) := by decide +kernel
theorem dX11_parts_47 : decode cX11_parts 47 = .ok (.aload_n 0, 1) := by decide +kernel
theorem dX11_parts_48 : decode cX11_parts 48 = .ok (.iconst 2, 1) := by decide +kernel
theorem dX11_parts_49 : decode cX11_parts 49 = .ok (.invokevirtual 295, 3) := by decide +kernel
theorem dX11_parts_52 : decode cX11_parts 52 = .ok (.ireturn, 1) := by decide +kernel
theorem dX11_parts_53 : decode cX11_parts 53 = .ok (.aload_n 0, 1) := by decide +kernel
theorem dX11_parts_54 : decode cX11_parts 54 = .ok (.iload_n 1, 1) := by decide +kernel
theorem dX11_parts_55 : decode cX11_parts 55 = .ok (.iload_n 2, 1) := by decide +kernel
theorem dX11_parts_56 : decode cX11_parts 56 = .ok (.iload_n 3, 1) := by decide +kernel
theorem dX11_parts_57 : decode cX11_parts 57 = .ok (.invokevirtual 405, 3) := by decide +kernel
theorem dX11_parts_60 : decode cX11_parts 60 = .ok (.ireturn, 1) := by decide +kernel
theorem dX11_choose_0 : decode cX11_choose 0 = .ok (.aload_n 0, 1) := by decide +kernel
theorem dX11_choose_1 : decode cX11_choose 1 = .ok (.iconst 0, 1) := by decide +kernel
theorem dX11_choose_2 : decode cX11_choose 2 = .ok (.putfield 146, 3) := by decide +kernel
theorem dX11_choose_5 : decode cX11_choose 5 = .ok (.aload_n 0, 1) := by decide +kernel
theorem dX11_choose_6 : decode cX11_choose 6 = .ok (.iconst 0, 1) := by decide +kernel
theorem dX11_choose_7 : decode cX11_choose 7 = .ok (.putfield 149, 3) := by decide +kernel
theorem dX11_choose_10 : decode cX11_choose 10 = .ok (.aload_n 0, 1) := by decide +kernel
theorem dX11_choose_11 : decode cX11_choose 11 = .ok (.iload_n 1, 1) := by decide +kernel
theorem dX11_choose_12 : decode cX11_choose 12 = .ok (.invokevirtual 325, 3) := by decide +kernel
theorem dX11_choose_15 : decode cX11_choose 15 = .ok (.ifCond .ne 9, 3) := by decide +kernel
theorem dX11_choose_18 : decode cX11_choose 18 = .ok (.aload_n 0, 1) := by decide +kernel
theorem dX11_choose_19 : decode cX11_choose 19 = .ok (.iconst 1, 1) := by decide +kernel
theorem dX11_choose_20 : decode cX11_choose 20 = .ok (.invokevirtual 295, 3) := by decide +kernel
theorem dX11_choose_23 : decode cX11_choose 23 = .ok (.ireturn, 1) := by decide +kernel
theorem dX11_choose_24 : decode cX11_choose 24 = .ok (.iload_n 2, 1) := by decide +kernel
theorem dX11_choose_25 : decode cX11_choose 25 = .ok (.iconst 1, 1) := by decide +kernel
theorem dX11_choose_26 : decode cX11_choose 26 = .ok (.if_icmp .lt 20, 3) := by decide +kernel
theorem dX11_choose_29 : decode cX11_choose 29 = .ok (.iload_n 2, 1) := by decide +kernel
theorem dX11_choose_30 : decode cX11_choose 30 = .ok (.aload_n 0, 1) := by decide +kernel
theorem dX11_choose_31 : decode cX11_choose 31 = .ok (.getfield 20, 3) := by decide +kernel
theorem dX11_choose_34 : decode cX11_choose 34 = .ok (.iload_n 1, 1) := by decide +kernel
theorem dX11_choose_35 : decode cX11_choose 35 = .ok (.iaload, 1) := by decide +kernel
theorem dX11_choose_36 : decode cX11_choose 36 = .ok (.if_icmp .gt 10, 3) := by decide +kernel
theorem dX11_choose_39 : decode cX11_choose 39 = .ok (.iload_n 3, 1) := by decide +kernel
theorem dX11_choose_40 : decode cX11_choose 40 = .ok (.invokestatic 364, 3) := by decide +kernel
theorem dX11_choose_43 : decode cX11_choose 43 = .ok (.ifCond .ne 9, 3) := by decide +kernel
theorem dX11_choose_46 : decode cX11_choose 46 = .ok (.aload_n 0, 1) := by decide +kernel
theorem dX11_choose_47 : decode cX11_choose 47 = .ok (.iconst 2, 1) := by decide +kernel
theorem dX11_choose_48 : decode cX11_choose 48 = .ok (.invokevirtual 295, 3) := by decide +kernel
theorem dX11_choose_51 : decode cX11_choose 51 = .ok (.ireturn, 1) := by decide +kernel
theorem dX11_choose_52 : decode cX11_choose 52 = .ok (.iconst (-1), 1) := by decide +kernel
theorem dX11_choose_53 : decode cX11_choose 53 = .ok (.istore 4, 2) := by decide +kernel
theorem dX11_choose_55 : decode cX11_choose 55 = .ok (.iconst (-1), 1) := by decide +kernel
theorem dX11_choose_56 : decode cX11_choose 56 = .ok (.istore 5, 2) := by decide +kernel
theorem dX11_choose_58 : decode cX11_choose 58 = .ok (.iconst 0, 1) := by decide +kernel
theorem dX11_choose_59 : decode cX11_choose 59 = .ok (.istore 6, 2) := by decide +kernel
theorem dX11_choose_61 : decode cX11_choose 61 = .ok (.iload 6, 2) := by decide +kernel
theorem dX11_choose_63 : decode cX11_choose 63 = .ok (.iconst 1, 1) := by decide +kernel
theorem dX11_choose_64 : decode cX11_choose 64 = .ok (.aload_n 0, 1) := by decide +kernel
theorem dX11_choose_65 : decode cX11_choose 65 = .ok (.getfield 20, 3) := by decide +kernel
theorem dX11_choose_68 : decode cX11_choose 68 = .ok (.iload_n 1, 1) := by decide +kernel
theorem dX11_choose_69 : decode cX11_choose 69 = .ok (.iaload, 1) := by decide +kernel
theorem dX11_choose_70 : decode cX11_choose 70 = .ok (.ishl, 1) := by decide +kernel
theorem dX11_choose_71 : decode cX11_choose 71 = .ok (.if_icmp .ge 49, 3) := by decide +kernel
theorem dX11_choose_74 : decode cX11_choose 74 = .ok (.iload 6, 2) := by decide +kernel
theorem dX11_choose_76 : decode cX11_choose 76 = .ok (.invokestatic 408, 3) := by decide +kernel
theorem dX11_choose_79 : decode cX11_choose 79 = .ok (.iload_n 2, 1) := by decide +kernel
theorem dX11_choose_80 : decode cX11_choose 80 = .ok (.if_icmp .eq 6, 3) := by decide +kernel
theorem dX11_choose_83 : decode cX11_choose 83 = .ok (.goto 31, 3) := by decide +kernel
theorem dX11_choose_86 : decode cX11_choose 86 = .ok (.aload_n 0, 1) := by decide +kernel
theorem dX11_choose_87 : decode cX11_choose 87 = .ok (.iload_n 1, 1) := by decide +kernel
theorem dX11_choose_88 : decode cX11_choose 88 = .ok (.iload 6, 2) := by decide +kernel
theorem dX11_choose_90 : decode cX11_choose 90 = .ok (.iload_n 3, 1) := by decide +kernel
theorem dX11_choose_91 : decode cX11_choose 91 = .ok (.invokevirtual 405, 3) := by decide +kernel
theorem dX11_choose_94 : decode cX11_choose 94 = .ok (.istore 7, 2) := by decide +kernel
theorem dX11_choose_96 : decode cX11_choose 96 = .ok (.iload 7, 2) := by decide +kernel
theorem dX11_choose_98 : decode cX11_choose 98 = .ok (.iload 5, 2) := by decide +kernel
theorem dX11_choose_100 : decode cX11_choose 100 = .ok (.if_icmp .gt 6, 3) := by decide +kernel
theorem dX11_choose_103 : decode cX11_choose 103 = .ok (.goto 11, 3) := by decide +kernel
theorem dX11_choose_106 : decode cX11_choose 106 = .ok (.iload 7, 2) := by decide +kernel
theorem dX11_choose_108 : decode cX11_choose 108 = .ok (.istore 5, 2) := by decide +kernel
theorem dX11_choose_110 : decode cX11_choose 110 = .ok (.iload 6, 2) := by decide +kernel
theorem dX11_choose_112 : decode cX11_choose 112 = .ok (.istore 4, 2) := by decide +kernel
theorem dX11_choose_114 : decode cX11_choose 114 = .ok (.iinc 6 1, 3) := by decide +kernel
theorem dX11_choose_117 : decode cX11_choose 117 = .ok (.goto (-56), 3) := by decide +kernel
theorem dX11_choose_120 : decode cX11_choose 120 = .ok (.iload 4, 2) := by decide +kernel
theorem dX11_choose_122 : decode cX11_choose 122 = .ok (.ireturn, 1) := by decide +kernel
theorem dJ6_bitCount_0f7a4_0 : decode cJ6_bitCount_0f7a4 0 = .ok (.iload_n 0, 1) := by decide +kernel
theorem dJ6_bitCount_0f7a4_1 : decode cJ6_bitCount_0f7a4 1 = .ok (.iload_n 0, 1) := by decide +kernel
theorem dJ6_bitCount_0f7a4_2 : decode cJ6_bitCount_0f7a4 2 = .ok (.iconst 1, 1) := by decide +kernel
theorem dJ6_bitCount_0f7a4_3 : decode cJ6_bitCount_0f7a4 3 = .ok (.iushr, 1) := by decide +kernel
theorem dJ6_bitCount_0f7a4_4 : decode cJ6_bitCount_0f7a4 4 = .ok (.ldc_w 265, 3) := by decide +kernel
theorem dJ6_bitCount_0f7a4_7 : decode cJ6_bitCount_0f7a4 7 = .ok (.iand, 1) := by decide +kernel
theorem dJ6_bitCount_0f7a4_8 : decode cJ6_bitCount_0f7a4 8 = .ok (.isub, 1) := by decide +kernel
theorem dJ6_bitCount_0f7a4_9 : decode cJ6_bitCount_0f7a4 9 = .ok (.istore_n 0, 1) := by decide +kernel
theorem dJ6_bitCount_0f7a4_10 : decode cJ6_bitCount_0f7a4 10 = .ok (.iload_n 0, 1) := by decide +kernel
theorem dJ6_bitCount_0f7a4_11 : decode cJ6_bitCount_0f7a4 11 = .ok (.ldc_w 266, 3) := by decide +kernel
theorem dJ6_bitCount_0f7a4_14 : decode cJ6_bitCount_0f7a4 14 = .ok (.iand, 1) := by decide +kernel
theorem dJ6_bitCount_0f7a4_15 : decode cJ6_bitCount_0f7a4 15 = .ok (.iload_n 0, 1) := by decide +kernel
theorem dJ6_bitCount_0f7a4_16 : decode cJ6_bitCount_0f7a4 16 = .ok (.iconst 2, 1) := by decide +kernel
theorem dJ6_bitCount_0f7a4_17 : decode cJ6_bitCount_0f7a4 17 = .ok (.iushr, 1) := by decide +kernel
theorem dJ6_bitCount_0f7a4_18 : decode cJ6_bitCount_0f7a4 18 = .ok (.ldc_w 266, 3) := by decide +kernel
theorem dJ6_bitCount_0f7a4_21 : decode cJ6_bitCount_0f7a4 21 = .ok (.iand, 1) := by decide +kernel
theorem dJ6_bitCount_0f7a4_22 : decode cJ6_bitCount_0f7a4 22 = .ok (.iadd, 1) := by decide +kernel
theorem dJ6_bitCount_0f7a4_23 : decode cJ6_bitCount_0f7a4 23 = .ok (.istore_n 0, 1) := by decide +kernel
theorem dJ6_bitCount_0f7a4_24 : decode cJ6_bitCount_0f7a4 24 = .ok (.iload_n 0, 1) := by decide +kernel
theorem dJ6_bitCount_0f7a4_25 : decode cJ6_bitCount_0f7a4 25 = .ok (.iload_n 0, 1) := by decide +kernel
theorem dJ6_bitCount_0f7a4_26 : decode cJ6_bitCount_0f7a4 26 = .ok (.iconst 4, 1) := by decide +kernel
theorem dJ6_bitCount_0f7a4_27 : decode cJ6_bitCount_0f7a4 27 = .ok (.iushr, 1) := by decide +kernel
theorem dJ6_bitCount_0f7a4_28 : decode cJ6_bitCount_0f7a4 28 = .ok (.iadd, 1) := by decide +kernel
theorem dJ6_bitCount_0f7a4_29 : decode cJ6_bitCount_0f7a4 29 = .ok (.ldc_w 267, 3) := by decide +kernel
theorem dJ6_bitCount_0f7a4_32 : decode cJ6_bitCount_0f7a4 32 = .ok (.iand, 1) := by decide +kernel
theorem dJ6_bitCount_0f7a4_33 : decode cJ6_bitCount_0f7a4 33 = .ok (.istore_n 0, 1) := by decide +kernel
theorem dJ6_bitCount_0f7a4_34 : decode cJ6_bitCount_0f7a4 34 = .ok (.iload_n 0, 1) := by decide +kernel
theorem dJ6_bitCount_0f7a4_35 : decode cJ6_bitCount_0f7a4 35 = .ok (.iload_n 0, 1) := by decide +kernel
theorem dJ6_bitCount_0f7a4_36 : decode cJ6_bitCount_0f7a4 36 = .ok (.bipush 8, 2) := by decide +kernel
theorem dJ6_bitCount_0f7a4_38 : decode cJ6_bitCount_0f7a4 38 = .ok (.iushr, 1) := by decide +kernel
theorem dJ6_bitCount_0f7a4_39 : decode cJ6_bitCount_0f7a4 39 = .ok (.iadd, 1) := by decide +kernel
theorem dJ6_bitCount_0f7a4_40 : decode cJ6_bitCount_0f7a4 40 = .ok (.istore_n 0, 1) := by decide +kernel
theorem dJ6_bitCount_0f7a4_41 : decode cJ6_bitCount_0f7a4 41 = .ok (.iload_n 0, 1) := by decide +kernel
theorem dJ6_bitCount_0f7a4_42 : decode cJ6_bitCount_0f7a4 42 = .ok (.iload_n 0, 1) := by decide +kernel
theorem dJ6_bitCount_0f7a4_43 : decode cJ6_bitCount_0f7a4 43 = .ok (.bipush 16, 2) := by decide +kernel
theorem dJ6_bitCount_0f7a4_45 : decode cJ6_bitCount_0f7a4 45 = .ok (.iushr, 1) := by decide +kernel
theorem dJ6_bitCount_0f7a4_46 : decode cJ6_bitCount_0f7a4 46 = .ok (.iadd, 1) := by decide +kernel
theorem dJ6_bitCount_0f7a4_47 : decode cJ6_bitCount_0f7a4 47 = .ok (.istore_n 0, 1) := by decide +kernel
theorem dJ6_bitCount_0f7a4_48 : decode cJ6_bitCount_0f7a4 48 = .ok (.iload_n 0, 1) := by decide +kernel
theorem dJ6_bitCount_0f7a4_49 : decode cJ6_bitCount_0f7a4 49 = .ok (.bipush 63, 2) := by decide +kernel
theorem dJ6_bitCount_0f7a4_51 : decode cJ6_bitCount_0f7a4 51 = .ok (.iand, 1) := by decide +kernel
theorem dJ6_bitCount_0f7a4_52 : decode cJ6_bitCount_0f7a4 52 = .ok (.ireturn, 1) := by decide +kernel
