theorem dX11_readLaw_0 : decode cX11_readLaw 0 = .ok (.iload_n 1, 1) := by decide +kernel
theorem dX11_readLaw_1 : decode cX11_readLaw 1 = .ok (.ifCond .ne 21, 3) := by decide +kernel
theorem dX11_readLaw_4 : decode cX11_readLaw 4 = .ok (.aload_n 0, 1) := by decide +kernel
theorem dX11_readLaw_5 : decode cX11_readLaw 5 = .ok (.getfield 207, 3) := by decide +kernel
theorem dX11_readLaw_8 : decode cX11_readLaw 8 = .ok (.iconst 4, 1) := by decide +kernel
theorem dX11_readLaw_9 : decode cX11_readLaw 9 = .ok (.if_icmp .ne 13, 3) := by decide +kernel
theorem dX11_readLaw_12 : decode cX11_readLaw 12 = .ok (.aload_n 0, 1) := by decide +kernel
theorem dX11_readLaw_13 : decode cX11_readLaw 13 = .ok (.iconst 3, 1) := by decide +kernel
theorem dX11_readLaw_14 : decode cX11_readLaw 14 = .ok (.aload_n 0, 1) := by decide +kernel
theorem dX11_readLaw_15 : decode cX11_readLaw 15 = .ok (.getfield 158, 3) := by decide +kernel
theorem dX11_readLaw_18 : decode cX11_readLaw 18 = .ok (.invokevirtual 194, 3) := by decide +kernel
theorem dX11_readLaw_21 : decode cX11_readLaw 21 = .ok (.return_, 1) := by decide +kernel
theorem dX11_readLaw_22 : decode cX11_readLaw 22 = .ok (.aload_n 0, 1) := by decide +kernel
theorem dX11_readLaw_23 : decode cX11_readLaw 23 = .ok (.invokevirtual 201, 3) := by decide +kernel
theorem dX11_readLaw_26 : decode cX11_readLaw 26 = .ok (.iload_n 1, 1) := by decide +kernel
theorem dX11_readLaw_27 : decode cX11_readLaw 27 = .ok (.tableswitch 152 0 2 #[25, 138, 145], 25) := by decide +kernel
theorem dX11_readLaw_52 : decode cX11_readLaw 52 = .ok (.aload_n 0, 1) := by decide +kernel
theorem dX11_readLaw_53 : decode cX11_readLaw 53 = .ok (.getfield 33, 3) := by decide +kernel
theorem dX11_readLaw_56 : decode cX11_readLaw 56 = .ok (.aload_n 0, 1) := by decide +kernel
theorem dX11_readLaw_57 : decode cX11_readLaw 57 = .ok (.getfield 207, 3) := by decide +kernel
theorem dX11_readLaw_60 : decode cX11_readLaw 60 = .ok (.aload_n 0, 1) := by decide +kernel
theorem dX11_readLaw_61 : decode cX11_readLaw 61 = .ok (.iconst 1, 1) := by decide +kernel
theorem dX11_readLaw_62 : decode cX11_readLaw 62 = .ok (.iconst 5, 1) := by decide +kernel
theorem dX11_readLaw_63 : decode cX11_readLaw 63 = .ok (.invokevirtual 236, 3) := by decide +kernel
theorem dX11_readLaw_66 : decode cX11_readLaw 66 = .ok (.iastore, 1) := by decide +kernel
theorem dX11_readLaw_67 : decode cX11_readLaw 67 = .ok (.aload_n 0, 1) := by decide +kernel
theorem dX11_readLaw_68 : decode cX11_readLaw 68 = .ok (.getfield 36, 3) := by decide +kernel
theorem dX11_readLaw_71 : decode cX11_readLaw 71 = .ok (.aload_n 0, 1) := by decide +kernel
theorem dX11_readLaw_72 : decode cX11_readLaw 72 = .ok (.getfield 207, 3) := by decide +kernel
theorem dX11_readLaw_75 : decode cX11_readLaw 75 = .ok (.aload_n 0, 1) := by decide +kernel
theorem dX11_readLaw_76 : decode cX11_readLaw 76 = .ok (.getfield 188, 3) := by decide +kernel
theorem dX11_readLaw_79 : decode cX11_readLaw 79 = .ok (.ifCond .ne 13, 3) := by decide +kernel
theorem dX11_readLaw_82 : decode cX11_readLaw 82 = .ok (.aload_n 0, 1) := by decide +kernel
theorem dX11_readLaw_83 : decode cX11_readLaw 83 = .ok (.iconst 1, 1) := by decide +kernel
theorem dX11_readLaw_84 : decode cX11_readLaw 84 = .ok (.bipush 9, 2) := by decide +kernel
theorem dX11_readLaw_86 : decode cX11_readLaw 86 = .ok (.invokevirtual 236, 3) := by decide +kernel
theorem dX11_readLaw_89 : decode cX11_readLaw 89 = .ok (.goto 4, 3) := by decide +kernel
theorem dX11_readLaw_92 : decode cX11_readLaw 92 = .ok (.iconst 1, 1) := by decide +kernel
theorem dX11_readLaw_93 : decode cX11_readLaw 93 = .ok (.iastore, 1) := by decide +kernel
theorem dX11_readLaw_94 : decode cX11_readLaw 94 = .ok (.aload_n 0, 1) := by decide +kernel
theorem dX11_readLaw_95 : decode cX11_readLaw 95 = .ok (.getfield 39, 3) := by decide +kernel
theorem dX11_readLaw_98 : decode cX11_readLaw 98 = .ok (.aload_n 0, 1) := by decide +kernel
theorem dX11_readLaw_99 : decode cX11_readLaw 99 = .ok (.getfield 207, 3) := by decide +kernel
theorem dX11_readLaw_102 : decode cX11_readLaw 102 = .ok (.aload_n 0, 1) := by decide +kernel
theorem dX11_readLaw_103 : decode cX11_readLaw 103 = .ok (.getfield 188, 3) := by decide +kernel
theorem dX11_readLaw_106 : decode cX11_readLaw 106 = .ok (.ifCond .ne 15, 3) := by decide +kernel
theorem dX11_readLaw_109 : decode cX11_readLaw 109 = .ok (.aload_n 0, 1) := by decide +kernel
theorem dX11_readLaw_110 : decode cX11_readLaw 110 = .ok (.bipush 10, 2) := by decide +kernel
theorem dX11_readLaw_112 : decode cX11_readLaw 112 = .ok (.sipush 999, 3) := by decide +kernel
theorem dX11_readLaw_115 : decode cX11_readLaw 115 = .ok (.invokevirtual 236, 3) := by decide +kernel
theorem dX11_readLaw_118 : decode cX11_readLaw 118 = .ok (.goto 5, 3) := by decide +kernel
theorem dX11_readLaw_121 : decode cX11_readLaw 121 = .ok (.bipush 10, 2) := by decide +kernel
theorem dX11_readLaw_123 : decode cX11_readLaw 123 = .ok (.iastore, 1) := by decide +kernel
theorem dX11_readLaw_124 : decode cX11_readLaw 124 = .ok (.aload_n 0, 1) := by decide +kernel
theorem dX11_readLaw_125 : decode cX11_readLaw 125 = .ok (.getfield 42, 3) := by decide +kernel
theorem dX11_readLaw_128 : decode cX11_readLaw 128 = .ok (.aload_n 0, 1) := by decide +kernel
theorem dX11_readLaw_129 : decode cX11_readLaw 129 = .ok (.getfield 207, 3) := by decide +kernel
theorem dX11_readLaw_132 : decode cX11_readLaw 132 = .ok (.aload_n 0, 1) := by decide +kernel
theorem dX11_readLaw_133 : decode cX11_readLaw 133 = .ok (.getfield 188, 3) := by decide +kernel
theorem dX11_readLaw_136 : decode cX11_readLaw 136 = .ok (.ifCond .ne 14, 3) := by decide +kernel
theorem dX11_readLaw_139 : decode cX11_readLaw 139 = .ok (.aload_n 0, 1) := by decide +kernel
theorem dX11_readLaw_140 : decode cX11_readLaw 140 = .ok (.iconst 0, 1) := by decide +kernel
theorem dX11_readLaw_141 : decode cX11_readLaw 141 = .ok (.sipush 999, 3) := by decide +kernel
theorem dX11_readLaw_144 : decode cX11_readLaw 144 = .ok (.invokevirtual 236, 3) := by decide +kernel
theorem dX11_readLaw_147 : decode cX11_readLaw 147 = .ok (.goto 4, 3) := by decide +kernel
theorem dX11_readLaw_150 : decode cX11_readLaw 150 = .ok (.iconst 0, 1) := by decide +kernel
theorem dX11_readLaw_151 : decode cX11_readLaw 151 = .ok (.iastore, 1) := by decide +kernel
theorem dX11_readLaw_152 : decode cX11_readLaw 152 = .ok (.aload_n 0, 1) := by decide +kernel
theorem dX11_readLaw_153 : decode cX11_readLaw 153 = .ok (.dup, 1) := by decide +kernel
theorem dX11_readLaw_154 : decode cX11_readLaw 154 = .ok (.getfield 207, 3) := by decide +kernel
theorem dX11_readLaw_157 : decode cX11_readLaw 157 = .ok (.iconst 1, 1) := by decide +kernel
theorem dX11_readLaw_158 : decode cX11_readLaw 158 = .ok (.iadd, 1) := by decide +kernel
theorem dX11_readLaw_159 : decode cX11_readLaw 159 = .ok (.putfield 207, 3) := by decide +kernel
theorem dX11_readLaw_162 : decode cX11_readLaw 162 = .ok (.goto 84, 3) := by decide +kernel
theorem dX11_readLaw_165 : decode cX11_readLaw 165 = .ok (.aload_n 0, 1) := by decide +kernel
theorem dX11_readLaw_166 : decode cX11_readLaw 166 = .ok (.invokevirtual 240, 3) := by decide +kernel
theorem dX11_readLaw_169 : decode cX11_readLaw 169 = .ok (.goto 77, 3) := by decide +kernel
theorem dX11_readLaw_172 : decode cX11_readLaw 172 = .ok (.aload_n 0, 1) := by decide +kernel
theorem dX11_readLaw_173 : decode cX11_readLaw 173 = .ok (.invokevirtual 243, 3) := by decide +kernel
theorem dX11_readLaw_176 : decode cX11_readLaw 176 = .ok (.goto 70, 3) := by decide +kernel
theorem dX11_readLaw_179 : decode cX11_readLaw 179 = .ok (.aload_n 0, 1) := by decide +kernel
theorem dX11_readLaw_180 : decode cX11_readLaw 180 = .ok (.aload_n 0, 1) := by decide +kernel
theorem dX11_readLaw_181 : decode cX11_readLaw 181 = .ok (.bipush 98, 2) := by decide +kernel
theorem dX11_readLaw_183 : decode cX11_readLaw 183 = .ok (.bipush 97, 2) := by decide +kernel
theorem dX11_readLaw_185 : decode cX11_readLaw 185 = .ok (.bipush 99, 2) := by decide +kernel
theorem dX11_readLaw_187 : decode cX11_readLaw 187 = .ok (.bipush 107, 2) := by decide +kernel
theorem dX11_readLaw_189 : decode cX11_readLaw 189 = .ok (.iconst 0, 1) := by decide +kernel
theorem dX11_readLaw_190 : decode cX11_readLaw 190 = .ok (.iconst 0, 1) := by decide +kernel
theorem dX11_readLaw_191 : decode cX11_readLaw 191 = .ok (.iconst 0, 1) := by decide +kernel
theorem dX11_readLaw_192 : decode cX11_readLaw 192 = .ok (.invokestatic 228, 3) := by decide +kernel
theorem dX11_readLaw_195 : decode cX11_readLaw 195 = .ok (.invokevirtual 232, 3) := by decide +kernel
theorem dX11_readLaw_198 : decode cX11_readLaw 198 = .ok (.putfield 210, 3) := by decide +kernel
theorem dX11_readLaw_201 : decode cX11_readLaw 201 = .ok (.aload_n 0, 1) := by decide +kernel
theorem dX11_readLaw_202 : decode cX11_readLaw 202 = .ok (.getfield 210, 3) := by decide +kernel
theorem dX11_readLaw_205 : decode cX11_readLaw 205 = .ok (.ifCond .ne 30, 3) := by decide +kernel
theorem dX11_readLaw_208 : decode cX11_readLaw 208 = .ok (.aload_n 0, 1) := by decide +kernel
theorem dX11_readLaw_209 : decode cX11_readLaw 209 = .ok (.bipush 115, 2) := by decide +kernel
theorem dX11_readLaw_211 : decode cX11_readLaw 211 = .ok (.bipush 104, 2) := by decide +kernel
theorem dX11_readLaw_213 : decode cX11_readLaw 213 = .ok (.bipush 97, 2) := by decide +kernel
theorem dX11_readLaw_215 : decode cX11_readLaw 215 = .ok (.bipush 114, 2) := by decide +kernel
theorem dX11_readLaw_217 : decode cX11_readLaw 217 = .ok (.bipush 101, 2) := by decide +kernel
theorem dX11_readLaw_219 : decode cX11_readLaw 219 = .ok (.bipush 100, 2) := by decide +kernel
theorem dX11_readLaw_221 : decode cX11_readLaw 221 = .ok (.iconst 0, 1) := by decide +kernel
theorem dX11_readLaw_222 : decode cX11_readLaw 222 = .ok (.invokestatic 228, 3) := by decide +kernel
theorem dX11_readLaw_225 : decode cX11_readLaw 225 = .ok (.invokevirtual 232, 3) := by decide +kernel
theorem dX11_readLaw_228 : decode cX11_readLaw 228 = .ok (.ifCond .ne 7, 3) := by decide +kernel
theorem dX11_readLaw_231 : decode cX11_readLaw 231 = .ok (.aload_n 0, 1) := by decide +kernel
theorem dX11_readLaw_232 : decode cX11_readLaw 232 = .ok (.invokevirtual 198, 3) := by decide +kernel
theorem dX11_readLaw_235 : decode cX11_readLaw 235 = .ok (.aload_n 0, 1) := by decide +kernel
theorem dX11_readLaw_236 : decode cX11_readLaw 236 = .ok (.getfield 188, 3) := by decide +kernel
theorem dX11_readLaw_239 : decode cX11_readLaw 239 = .ok (.ifCond .ne 7, 3) := by decide +kernel
theorem dX11_readLaw_242 : decode cX11_readLaw 242 = .ok (.aload_n 0, 1) := by decide +kernel
theorem dX11_readLaw_243 : decode cX11_readLaw 243 = .ok (.invokevirtual 201, 3) := by decide +kernel
theorem dX11_readLaw_246 : decode cX11_readLaw 246 = .ok (.aload_n 0, 1) := by decide +kernel
theorem dX11_readLaw_247 : decode cX11_readLaw 247 = .ok (.getfield 188, 3) := by decide +kernel
theorem dX11_readLaw_250 : decode cX11_readLaw 250 = .ok (.ifCond .ne 7, 3) := by decide +kernel
theorem dX11_readLaw_253 : decode cX11_readLaw 253 = .ok (.aload_n 0, 1) := by decide +kernel
theorem dX11_readLaw_254 : decode cX11_readLaw 254 = .ok (.invokevirtual 246, 3) := by decide +kernel
theorem dX11_readLaw_257 : decode cX11_readLaw 257 = .ok (.return_, 1) := by decide +kernel
