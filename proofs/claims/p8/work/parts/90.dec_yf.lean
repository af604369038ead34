theorem dX11_advance_0 : decode cX11_advance 0 = .ok (.aload_n 0, 1) := by decide +kernel
theorem dX11_advance_1 : decode cX11_advance 1 = .ok (.iconst 0, 1) := by decide +kernel
theorem dX11_advance_2 : decode cX11_advance 2 = .ok (.putfield 146, 3) := by decide +kernel
theorem dX11_advance_5 : decode cX11_advance 5 = .ok (.aload_n 0, 1) := by decide +kernel
theorem dX11_advance_6 : decode cX11_advance 6 = .ok (.iconst 0, 1) := by decide +kernel
theorem dX11_advance_7 : decode cX11_advance 7 = .ok (.putfield 149, 3) := by decide +kernel
theorem dX11_advance_10 : decode cX11_advance 10 = .ok (.iload_n 1, 1) := by decide +kernel
theorem dX11_advance_11 : decode cX11_advance 11 = .ok (.iconst 1, 1) := by decide +kernel
theorem dX11_advance_12 : decode cX11_advance 12 = .ok (.if_icmp .lt 16, 3) := by decide +kernel
theorem dX11_advance_15 : decode cX11_advance 15 = .ok (.iload_n 1, 1) := by decide +kernel
theorem dX11_advance_16 : decode cX11_advance 16 = .ok (.bipush 16, 2) := by decide +kernel
theorem dX11_advance_18 : decode cX11_advance 18 = .ok (.if_icmp .gt 10, 3) := by decide +kernel
theorem dX11_advance_21 : decode cX11_advance 21 = .ok (.iload_n 2, 1) := by decide +kernel
theorem dX11_advance_22 : decode cX11_advance 22 = .ok (.invokestatic 364, 3) := by decide +kernel
theorem dX11_advance_25 : decode cX11_advance 25 = .ok (.ifCond .ne 9, 3) := by decide +kernel
theorem dX11_advance_28 : decode cX11_advance 28 = .ok (.aload_n 0, 1) := by decide +kernel
theorem dX11_advance_29 : decode cX11_advance 29 = .ok (.iconst 2, 1) := by decide +kernel
theorem dX11_advance_30 : decode cX11_advance 30 = .ok (.invokevirtual 295, 3) := by decide +kernel
theorem dX11_advance_33 : decode cX11_advance 33 = .ok (.ireturn, 1) := by decide +kernel
theorem dX11_advance_34 : decode cX11_advance 34 = .ok (.iconst 0, 1) := by decide +kernel
theorem dX11_advance_35 : decode cX11_advance 35 = .ok (.istore_n 3, 1) := by decide +kernel
theorem dX11_advance_36 : decode cX11_advance 36 = .ok (.iload_n 3, 1) := by decide +kernel
theorem dX11_advance_37 : decode cX11_advance 37 = .ok (.aload_n 0, 1) := by decide +kernel
theorem dX11_advance_38 : decode cX11_advance 38 = .ok (.getfield 313, 3) := by decide +kernel
theorem dX11_advance_41 : decode cX11_advance 41 = .ok (.if_icmp .ge 23, 3) := by decide +kernel
theorem dX11_advance_44 : decode cX11_advance 44 = .ok (.aload_n 0, 1) := by decide +kernel
theorem dX11_advance_45 : decode cX11_advance 45 = .ok (.iload_n 3, 1) := by decide +kernel
theorem dX11_advance_46 : decode cX11_advance 46 = .ok (.invokevirtual 355, 3) := by decide +kernel
theorem dX11_advance_49 : decode cX11_advance 49 = .ok (.ifCond .lt 9, 3) := by decide +kernel
theorem dX11_advance_52 : decode cX11_advance 52 = .ok (.aload_n 0, 1) := by decide +kernel
theorem dX11_advance_53 : decode cX11_advance 53 = .ok (.iconst 5, 1) := by decide +kernel
theorem dX11_advance_54 : decode cX11_advance 54 = .ok (.invokevirtual 295, 3) := by decide +kernel
theorem dX11_advance_57 : decode cX11_advance 57 = .ok (.ireturn, 1) := by decide +kernel
theorem dX11_advance_58 : decode cX11_advance 58 = .ok (.iinc 3 1, 3) := by decide +kernel
theorem dX11_advance_61 : decode cX11_advance 61 = .ok (.goto (-25), 3) := by decide +kernel
theorem dX11_advance_64 : decode cX11_advance 64 = .ok (.aload_n 0, 1) := by decide +kernel
theorem dX11_advance_65 : decode cX11_advance 65 = .ok (.getfield 82, 3) := by decide +kernel
theorem dX11_advance_68 : decode cX11_advance 68 = .ok (.ifCond .lt 16, 3) := by decide +kernel
theorem dX11_advance_71 : decode cX11_advance 71 = .ok (.aload_n 0, 1) := by decide +kernel
theorem dX11_advance_72 : decode cX11_advance 72 = .ok (.getfield 82, 3) := by decide +kernel
theorem dX11_advance_75 : decode cX11_advance 75 = .ok (.iconst 1, 1) := by decide +kernel
theorem dX11_advance_76 : decode cX11_advance 76 = .ok (.iadd, 1) := by decide +kernel
theorem dX11_advance_77 : decode cX11_advance 77 = .ok (.aload_n 0, 1) := by decide +kernel
theorem dX11_advance_78 : decode cX11_advance 78 = .ok (.getfield 301, 3) := by decide +kernel
theorem dX11_advance_81 : decode cX11_advance 81 = .ok (.if_icmp .lt 10, 3) := by decide +kernel
theorem dX11_advance_84 : decode cX11_advance 84 = .ok (.aload_n 0, 1) := by decide +kernel
theorem dX11_advance_85 : decode cX11_advance 85 = .ok (.bipush 10, 2) := by decide +kernel
theorem dX11_advance_87 : decode cX11_advance 87 = .ok (.invokevirtual 295, 3) := by decide +kernel
theorem dX11_advance_90 : decode cX11_advance 90 = .ok (.ireturn, 1) := by decide +kernel
theorem dX11_advance_91 : decode cX11_advance 91 = .ok (.iconst 0, 1) := by decide +kernel
theorem dX11_advance_92 : decode cX11_advance 92 = .ok (.istore_n 3, 1) := by decide +kernel
theorem dX11_advance_93 : decode cX11_advance 93 = .ok (.iload_n 3, 1) := by decide +kernel
theorem dX11_advance_94 : decode cX11_advance 94 = .ok (.aload_n 0, 1) := by decide +kernel
theorem dX11_advance_95 : decode cX11_advance 95 = .ok (.getfield 313, 3) := by decide +kernel
theorem dX11_advance_98 : decode cX11_advance 98 = .ok (.if_icmp .ge 46, 3) := by decide +kernel
theorem dX11_advance_101 : decode cX11_advance 101 = .ok (.aload_n 0, 1) := by decide +kernel
theorem dX11_advance_102 : decode cX11_advance 102 = .ok (.getfield 140, 3) := by decide +kernel
theorem dX11_advance_105 : decode cX11_advance 105 = .ok (.iload_n 3, 1) := by decide +kernel
theorem dX11_advance_106 : decode cX11_advance 106 = .ok (.aload_n 0, 1) := by decide +kernel
theorem dX11_advance_107 : decode cX11_advance 107 = .ok (.getfield 85, 3) := by decide +kernel
theorem dX11_advance_110 : decode cX11_advance 110 = .ok (.bipush 16, 2) := by decide +kernel
theorem dX11_advance_112 : decode cX11_advance 112 = .ok (.aload_n 0, 1) := by decide +kernel
theorem dX11_advance_113 : decode cX11_advance 113 = .ok (.getfield 82, 3) := by decide +kernel
theorem dX11_advance_116 : decode cX11_advance 116 = .ok (.imul, 1) := by decide +kernel
theorem dX11_advance_117 : decode cX11_advance 117 = .ok (.iload_n 3, 1) := by decide +kernel
theorem dX11_advance_118 : decode cX11_advance 118 = .ok (.iadd, 1) := by decide +kernel
theorem dX11_advance_119 : decode cX11_advance 119 = .ok (.baload, 1) := by decide +kernel
theorem dX11_advance_120 : decode cX11_advance 120 = .ok (.ifCond .eq 16, 3) := by decide +kernel
theorem dX11_advance_123 : decode cX11_advance 123 = .ok (.aload_n 0, 1) := by decide +kernel
theorem dX11_advance_124 : decode cX11_advance 124 = .ok (.aload_n 0, 1) := by decide +kernel
theorem dX11_advance_125 : decode cX11_advance 125 = .ok (.getfield 82, 3) := by decide +kernel
theorem dX11_advance_128 : decode cX11_advance 128 = .ok (.iload_n 3, 1) := by decide +kernel
theorem dX11_advance_129 : decode cX11_advance 129 = .ok (.iload_n 2, 1) := by decide +kernel
theorem dX11_advance_130 : decode cX11_advance 130 = .ok (.invokevirtual 401, 3) := by decide +kernel
theorem dX11_advance_133 : decode cX11_advance 133 = .ok (.goto 4, 3) := by decide +kernel
theorem dX11_advance_136 : decode cX11_advance 136 = .ok (.iconst (-1), 1) := by decide +kernel
theorem dX11_advance_137 : decode cX11_advance 137 = .ok (.iastore, 1) := by decide +kernel
theorem dX11_advance_138 : decode cX11_advance 138 = .ok (.iinc 3 1, 3) := by decide +kernel
theorem dX11_advance_141 : decode cX11_advance 141 = .ok (.goto (-48), 3) := by decide +kernel
theorem dX11_advance_144 : decode cX11_advance 144 = .ok (.aload_n 0, 1) := by decide +kernel
theorem dX11_advance_145 : decode cX11_advance 145 = .ok (.getfield 82, 3) := by decide +kernel
theorem dX11_advance_148 : decode cX11_advance 148 = .ok (.iconst 1, 1) := by decide +kernel
theorem dX11_advance_149 : decode cX11_advance 149 = .ok (.iadd, 1) := by decide +kernel
theorem dX11_advance_150 : decode cX11_advance 150 = .ok (.istore_n 3, 1) := by decide +kernel
theorem dX11_advance_151 : decode cX11_advance 151 = .ok (.iconst 0, 1) := by decide +kernel
theorem dX11_advance_152 : decode cX11_advance 152 = .ok (.istore 4, 2) := by decide +kernel
theorem dX11_advance_154 : decode cX11_advance 154 = .ok (.iload_n 1, 1) := by decide +kernel
theorem dX11_advance_155 : decode cX11_advance 155 = .ok (.istore 5, 2) := by decide +kernel
theorem dX11_advance_157 : decode cX11_advance 157 = .ok (.iload 5, 2) := by decide +kernel
theorem dX11_advance_159 : decode cX11_advance 159 = .ok (.iconst 1, 1) := by decide +kernel
theorem dX11_advance_160 : decode cX11_advance 160 = .ok (.if_icmp .lt 73, 3) := by decide +kernel
theorem dX11_advance_163 : decode cX11_advance 163 = .ok (.aload_n 0, 1) := by decide +kernel
theorem dX11_advance_164 : decode cX11_advance 164 = .ok (.getfield 313, 3) := by decide +kernel
theorem dX11_advance_167 : decode cX11_advance 167 = .ok (.iconst 1, 1) := by decide +kernel
theorem dX11_advance_168 : decode cX11_advance 168 = .ok (.isub, 1) := by decide +kernel
theorem dX11_advance_169 : decode cX11_advance 169 = .ok (.istore 6, 2) := by decide +kernel
theorem dX11_advance_171 : decode cX11_advance 171 = .ok (.iload 6, 2) := by decide +kernel
theorem dX11_advance_173 : decode cX11_advance 173 = .ok (.ifCond .lt 54, 3) := by decide +kernel
theorem dX11_advance_176 : decode cX11_advance 176 = .ok (.aload_n 0, 1) := by decide +kernel
theorem dX11_advance_177 : decode cX11_advance 177 = .ok (.getfield 140, 3) := by decide +kernel
theorem dX11_advance_180 : decode cX11_advance 180 = .ok (.iload 6, 2) := by decide +kernel
theorem dX11_advance_182 : decode cX11_advance 182 = .ok (.iaload, 1) := by decide +kernel
theorem dX11_advance_183 : decode cX11_advance 183 = .ok (.iload 5, 2) := by decide +kernel
theorem dX11_advance_185 : decode cX11_advance 185 = .ok (.if_icmp .eq 6, 3) := by decide +kernel
theorem dX11_advance_188 : decode cX11_advance 188 = .ok (.goto 33, 3) := by decide +kernel
theorem dX11_advance_191 : decode cX11_advance 191 = .ok (.aload_n 0, 1) := by decide +kernel
theorem dX11_advance_192 : decode cX11_advance 192 = .ok (.getfield 85, 3) := by decide +kernel
theorem dX11_advance_195 : decode cX11_advance 195 = .ok (.bipush 16, 2) := by decide +kernel
theorem dX11_advance_197 : decode cX11_advance 197 = .ok (.iload_n 3, 1) := by decide +kernel
theorem dX11_advance_198 : decode cX11_advance 198 = .ok (.imul, 1) := by decide +kernel
theorem dX11_advance_199 : decode cX11_advance 199 = .ok (.iload 6, 2) := by decide +kernel
theorem dX11_advance_201 : decode cX11_advance 201 = .ok (.iadd, 1) := by decide +kernel
theorem dX11_advance_202 : decode cX11_advance 202 = .ok (.iconst 1, 1) := by decide +kernel
theorem dX11_advance_203 : decode cX11_advance 203 = .ok (.bastore, 1) := by decide +kernel
theorem dX11_advance_204 : decode cX11_advance 204 = .ok (.aload_n 0, 1) := by decide +kernel
theorem dX11_advance_205 : decode cX11_advance 205 = .ok (.getfield 88, 3) := by decide +kernel
theorem dX11_advance_208 : decode cX11_advance 208 = .ok (.bipush 16, 2) := by decide +kernel
theorem dX11_advance_210 : decode cX11_advance 210 = .ok (.iload_n 3, 1) := by decide +kernel
theorem dX11_advance_211 : decode cX11_advance 211 = .ok (.imul, 1) := by decide +kernel
theorem dX11_advance_212 : decode cX11_advance 212 = .ok (.iload 4, 2) := by decide +kernel
theorem dX11_advance_214 : decode cX11_advance 214 = .ok (.iadd, 1) := by decide +kernel
theorem dX11_advance_215 : decode cX11_advance 215 = .ok (.iload 6, 2) := by decide +kernel
theorem dX11_advance_217 : decode cX11_advance 217 = .ok (.iastore, 1) := by decide +kernel
theorem dX11_advance_218 : decode cX11_advance 218 = .ok (.iinc 4 1, 3) := by decide +kernel
theorem dX11_advance_221 : decode cX11_advance 221 = .ok (.iinc 6 (-1), 3) := by decide +kernel
theorem dX11_advance_224 : decode cX11_advance 224 = .ok (.goto (-53), 3) := by decide +kernel
theorem dX11_advance_227 : decode cX11_advance 227 = .ok (.iinc 5 (-1), 3) := by decide +kernel
theorem dX11_advance_230 : decode cX11_advance 230 = .ok (.goto (-73), 3) := by decide +kernel
theorem dX11_advance_233 : decode cX11_advance 233 = .ok (.aload_n 0, 1) := by decide +kernel
theorem dX11_advance_234 : decode cX11_advance 234 = .ok (.getfield 91, 3) := by decide +kernel
theorem dX11_advance_237 : decode cX11_advance 237 = .ok (.iload_n 3, 1) := by decide +kernel
theorem dX11_advance_238 : decode cX11_advance 238 = .ok (.iload 4, 2) := by decide +kernel
theorem dX11_advance_240 : decode cX11_advance 240 = .ok (.iastore, 1) := by decide +kernel
theorem dX11_advance_241 : decode cX11_advance 241 = .ok (.aload_n 0, 1) := by decide +kernel
theorem dX11_advance_242 : decode cX11_advance 242 = .ok (.iload_n 3, 1) := by decide +kernel
theorem dX11_advance_243 : decode cX11_advance 243 = .ok (.putfield 82, 3) := by decide +kernel
theorem dX11_advance_246 : decode cX11_advance 246 = .ok (.iconst 0, 1) := by decide +kernel
theorem dX11_advance_247 : decode cX11_advance 247 = .ok (.istore 5, 2) := by decide +kernel
theorem dX11_advance_249 : decode cX11_advance 249 = .ok (.iload 5, 2) := by decide +kernel
theorem dX11_advance_251 : decode cX11_advance 251 = .ok (.aload_n 0, 1) := by decide +kernel
theorem dX11_advance_252 : decode cX11_advance 252 = .ok (.getfield 313, 3) := by decide +kernel
theorem dX11_advance_255 : decode cX11_advance 255 = .ok (.if_icmp .ge 17, 3) := by decide +kernel
theorem dX11_advance_258 : decode cX11_advance 258 = .ok (.aload_n 0, 1) := by decide +kernel
theorem dX11_advance_259 : decode cX11_advance 259 = .ok (.getfield 124, 3) := by decide +kernel
theorem dX11_advance_262 : decode cX11_advance 262 = .ok (.iload 5, 2) := by decide +kernel
theorem dX11_advance_264 : decode cX11_advance 264 = .ok (.iconst 0, 1) := by decide +kernel
theorem dX11_advance_265 : decode cX11_advance 265 = .ok (.iastore, 1) := by decide +kernel
theorem dX11_advance_266 : decode cX11_advance 266 = .ok (.iinc 5 1, 3) := by decide +kernel
theorem dX11_advance_269 : decode cX11_advance 269 = .ok (.goto (-20), 3) := by decide +kernel
theorem dX11_advance_272 : decode cX11_advance 272 = .ok (.iload 4, 2) := by decide +kernel
theorem dX11_advance_274 : decode cX11_advance 274 = .ok (.ireturn, 1) := by decide +kernel
theorem dX11_partsOf_0 : decode cX11_partsOf 0 = .ok (.iconst 0, 1) := by decide +kernel
theorem dX11_partsOf_1 : decode cX11_partsOf 1 = .ok (.istore 4, 2) := by decide +kernel
theorem dX11_partsOf_3 : decode cX11_partsOf 3 = .ok (.iload 4, 2) := by decide +kernel
theorem dX11_partsOf_5 : decode cX11_partsOf 5 = .ok (.aload_n 0, 1) := by decide +kernel
theorem dX11_partsOf_6 : decode cX11_partsOf 6 = .ok (.getfield 313, 3) := by decide +kernel
theorem dX11_partsOf_9 : decode cX11_partsOf 9 = .ok (.if_icmp .ge 68, 3) := by decide +kernel
theorem dX11_partsOf_12 : decode cX11_partsOf 12 = .ok (.aload_n 0, 1) := by decide +kernel
theorem dX11_partsOf_13 : decode cX11_partsOf 13 = .ok (.getfield 143, 3) := by decide +kernel
theorem dX11_partsOf_16 : decode cX11_partsOf 16 = .ok (.iload 4, 2) := by decide +kernel
theorem dX11_partsOf_18 : decode cX11_partsOf 18 = .ok (.lconst 0, 1) := by decide +kernel
theorem dX11_partsOf_19 : decode cX11_partsOf 19 = .ok (.lastore, 1) := by decide +kernel
theorem dX11_partsOf_20 : decode cX11_partsOf 20 = .ok (.iconst 0, 1) := by decide +kernel
theorem dX11_partsOf_21 : decode cX11_partsOf 21 = .ok (.istore 5, 2) := by decide +kernel
theorem dX11_partsOf_23 : decode cX11_partsOf 23 = .ok (.iload 5, 2) := by decide +kernel
theorem dX11_partsOf_25 : decode cX11_partsOf 25 = .ok (.aload_n 0, 1) := by decide +kernel
theorem dX11_partsOf_26 : decode cX11_partsOf 26 = .ok (.getfield 20, 3) := by decide +kernel
theorem dX11_partsOf_29 : decode cX11_partsOf 29 = .ok (.iload_n 1, 1) := by decide +kernel
theorem dX11_partsOf_30 : decode cX11_partsOf 30 = .ok (.iaload, 1) := by decide +kernel
theorem dX11_partsOf_31 : decode cX11_partsOf 31 = .ok (.if_icmp .ge 40, 3) := by decide +kernel
theorem dX11_partsOf_34 : decode cX11_partsOf 34 = .ok (.iload_n 2, 1) := by decide +kernel
theorem dX11_partsOf_35 : decode cX11_partsOf 35 = .ok (.iload 5, 2) := by decide +kernel
theorem dX11_partsOf_37 : decode cX11_partsOf 37 = .ok (.ishr, 1) := by decide +kernel
theorem dX11_partsOf_38 : decode cX11_partsOf 38 = .ok (.iconst 1, 1) := by decide +kernel
theorem dX11_partsOf_39 : decode cX11_partsOf 39 = .ok (.iand, 1) := by decide +kernel
theorem dX11_partsOf_40 : decode cX11_partsOf 40 = .ok (.iconst 1, 1) := by decide +kernel
theorem dX11_partsOf_41 : decode cX11_partsOf 41 = .ok (.if_icmp .ne 24, 3) := by decide +kernel
theorem dX11_partsOf_44 : decode cX11_partsOf 44 = .ok (.aload_n 0, 1) := by decide +kernel
theorem dX11_partsOf_45 : decode cX11_partsOf 45 = .ok (.getfield 143, 3) := by decide +kernel
theorem dX11_partsOf_48 : decode cX11_partsOf 48 = .ok (.iload 4, 2) := by decide +kernel
theorem dX11_partsOf_50 : decode cX11_partsOf 50 = .ok (.dup2, 1) := by decide +kernel
theorem dX11_partsOf_51 : decode cX11_partsOf 51 = .ok (.laload, 1) := by decide +kernel
theorem dX11_partsOf_52 : decode cX11_partsOf 52 = .ok (.aload_n 0, 1) := by decide +kernel
theorem dX11_partsOf_53 : decode cX11_partsOf 53 = .ok (.iload_n 1, 1) := by decide +kernel
theorem dX11_partsOf_54 : decode cX11_partsOf 54 = .ok (.iload 5, 2) := by decide +kernel
theorem dX11_partsOf_56 : decode cX11_partsOf 56 = .ok (.iload 4, 2) := by decide +kernel
theorem dX11_partsOf_58 : decode cX11_partsOf 58 = .ok (.iload_n 3, 1) := by decide +kernel
theorem dX11_partsOf_59 : decode cX11_partsOf 59 = .ok (.invokevirtual 387, 3) := by decide +kernel
theorem dX11_partsOf_62 : decode cX11_partsOf 62 = .ok (.i2l, 1) := by decide +kernel
theorem dX11_partsOf_63 : decode cX11_partsOf 63 = .ok (.ladd, 1) := by decide +kernel
theorem dX11_partsOf_64 : decode cX11_partsOf 64 = .ok (.lastore, 1) := by decide +kernel
theorem dX11_partsOf_65 : decode cX11_partsOf 65 = .ok (.iinc 5 1, 3) := by decide +kernel
theorem dX11_partsOf_68 : decode cX11_partsOf 68 = .ok (.goto (-45), 3) := by decide +kernel
theorem dX11_partsOf_71 : decode cX11_partsOf 71 = .ok (.iinc 4 1, 3) := by decide +kernel
theorem dX11_partsOf_74 : decode cX11_partsOf 74 = .ok (.goto (-71), 3) := by decide +kernel
theorem dX11_partsOf_77 : decode cX11_partsOf 77 = .ok (.iconst 0, 1) := by decide +kernel
theorem dX11_partsOf_78 : decode cX11_partsOf 78 = .ok (.istore 4, 2) := by decide +kernel
theorem dX11_partsOf_80 : decode cX11_partsOf 80 = .ok (.iconst 0, 1) := by decide +kernel
theorem dX11_partsOf_81 : decode cX11_partsOf 81 = .ok (.istore 5, 2) := by decide +kernel
theorem dX11_partsOf_83 : decode cX11_partsOf 83 = .ok (.iload 5, 2) := by decide +kernel
theorem dX11_partsOf_85 : decode cX11_partsOf 85 = .ok (.aload_n 0, 1) := by decide +kernel
theorem dX11_partsOf_86 : decode cX11_partsOf 86 = .ok (.getfield 313, 3) := by decide +kernel
theorem dX11_partsOf_89 : decode cX11_partsOf 89 = .ok (.if_icmp .ge 88, 3) := by decide +kernel
theorem dX11_partsOf_92 : decode cX11_partsOf 92 = .ok (.iload 5, 2) := by decide +kernel
theorem dX11_partsOf_94 : decode cX11_partsOf 94 = .ok (.iconst 1, 1) := by decide +kernel
theorem dX11_partsOf_95 : decode cX11_partsOf 95 = .ok (.iadd, 1) := by decide +kernel
theorem dX11_partsOf_96 : decode cX11_partsOf 96 = .ok (.istore 6, 2) := by decide +kernel
theorem dX11_partsOf_98 : decode cX11_partsOf 98 = .ok (.iload 6, 2) := by decide +kernel
theorem dX11_partsOf_100 : decode cX11_partsOf 100 = .ok (.aload_n 0, 1) := by decide +kernel
theorem dX11_partsOf_101 : decode cX11_partsOf 101 = .ok (.getfield 313, 3) := by decide +kernel
theorem dX11_partsOf_104 : decode cX11_partsOf 104 = .ok (.if_icmp .ge 67, 3) := by decide +kernel
theorem dX11_partsOf_107 : decode cX11_partsOf 107 = .ok (.iload 4, 2) := by decide +kernel
theorem dX11_partsOf_109 : decode cX11_partsOf 109 = .ok (.aload_n 0, 1) := by decide +kernel
theorem dX11_partsOf_110 : decode cX11_partsOf 110 = .ok (.getfield 85, 3) := by decide +kernel
theorem dX11_partsOf_113 : decode cX11_partsOf 113 = .ok (.bipush 16, 2) := by decide +kernel
theorem dX11_partsOf_115 : decode cX11_partsOf 115 = .ok (.iload_n 1, 1) := by decide +kernel
theorem dX11_partsOf_116 : decode cX11_partsOf 116 = .ok (.imul, 1) := by decide +kernel
theorem dX11_partsOf_117 : decode cX11_partsOf 117 = .ok (.iload 5, 2) := by decide +kernel
theorem dX11_partsOf_119 : decode cX11_partsOf 119 = .ok (.iadd, 1) := by decide +kernel
theorem dX11_partsOf_120 : decode cX11_partsOf 120 = .ok (.baload, 1) := by decide +kernel
theorem dX11_partsOf_121 : decode cX11_partsOf 121 = .ok (.ifCond .eq 40, 3) := by decide +kernel
theorem dX11_partsOf_124 : decode cX11_partsOf 124 = .ok (.aload_n 0, 1) := by decide +kernel
theorem dX11_partsOf_125 : decode cX11_partsOf 125 = .ok (.getfield 85, 3) := by decide +kernel
theorem dX11_partsOf_128 : decode cX11_partsOf 128 = .ok (.bipush 16, 2) := by decide +kernel
theorem dX11_partsOf_130 : decode cX11_partsOf 130 = .ok (.iload_n 1, 1) := by decide +kernel
theorem dX11_partsOf_131 : decode cX11_partsOf 131 = .ok (.imul, 1) := by decide +kernel
theorem dX11_partsOf_132 : decode cX11_partsOf 132 = .ok (.iload 6, 2) := by decide +kernel
theorem dX11_partsOf_134 : decode cX11_partsOf 134 = .ok (.iadd, 1) := by decide +kernel
theorem dX11_partsOf_135 : decode cX11_partsOf 135 = .ok (.baload, 1) := by decide +kernel
theorem dX11_partsOf_136 : decode cX11_partsOf 136 = .ok (.ifCond .eq 25, 3) := by decide +kernel
theorem dX11_partsOf_139 : decode cX11_partsOf 139 = .ok (.aload_n 0, 1) := by decide +kernel
theorem dX11_partsOf_140 : decode cX11_partsOf 140 = .ok (.getfield 143, 3) := by decide +kernel
theorem dX11_partsOf_143 : decode cX11_partsOf 143 = .ok (.iload 5, 2) := by decide +kernel
theorem dX11_partsOf_145 : decode cX11_partsOf 145 = .ok (.laload, 1) := by decide +kernel
theorem dX11_partsOf_146 : decode cX11_partsOf 146 = .ok (.aload_n 0, 1) := by decide +kernel
theorem dX11_partsOf_147 : decode cX11_partsOf 147 = .ok (.getfield 143, 3) := by decide +kernel
theorem dX11_partsOf_150 : decode cX11_partsOf 150 = .ok (.iload 6, 2) := by decide +kernel
theorem dX11_partsOf_152 : decode cX11_partsOf 152 = .ok (.laload, 1) := by decide +kernel
theorem dX11_partsOf_153 : decode cX11_partsOf 153 = .ok (.lcmp, 1) := by decide +kernel
theorem dX11_partsOf_154 : decode cX11_partsOf 154 = .ok (.ifCond .eq 7, 3) := by decide +kernel
theorem dX11_partsOf_157 : decode cX11_partsOf 157 = .ok (.iconst 1, 1) := by decide +kernel
theorem dX11_partsOf_158 : decode cX11_partsOf 158 = .ok (.goto 4, 3) := by decide +kernel
theorem dX11_partsOf_161 : decode cX11_partsOf 161 = .ok (.iconst 0, 1) := by decide +kernel
theorem dX11_partsOf_162 : decode cX11_partsOf 162 = .ok (.iadd, 1) := by decide +kernel
theorem dX11_partsOf_163 : decode cX11_partsOf 163 = .ok (.istore 4, 2) := by decide +kernel
theorem dX11_partsOf_165 : decode cX11_partsOf 165 = .ok (.iinc 6 1, 3) := by decide +kernel
theorem dX11_partsOf_168 : decode cX11_partsOf 168 = .ok (.goto (-70), 3) := by decide +kernel
theorem dX11_partsOf_171 : decode cX11_partsOf 171 = .ok (.iinc 5 1, 3) := by decide +kernel
theorem dX11_partsOf_174 : decode cX11_partsOf 174 = .ok (.goto (-91), 3) := by decide +kernel
theorem dX11_partsOf_177 : decode cX11_partsOf 177 = .ok (.iload 4, 2) := by decide +kernel
theorem dX11_partsOf_179 : decode cX11_partsOf 179 = .ok (.ireturn, 1) := by decide +kernel
theorem dX11_parts_0 : decode cX11_parts 0 = .ok (.aload_n 0, 1) := by decide +kernel
theorem dX11_parts_1 : decode cX11_parts 1 = .ok (.iconst 0, 1) := by decide +kernel
theorem dX11_parts_2 : decode cX11_parts 2 = .ok (.putfield 146, 3) := by decide +kernel
theorem dX11_parts_5 : decode cX11_parts 5 = .ok (.aload_n 0, 1) := by decide +kernel
theorem dX11_parts_6 : decode cX11_parts 6 = .ok (.iconst 0, 1) := by decide +kernel
theorem dX11_parts_7 : decode cX11_parts 7 = .ok (.putfield 149, 3) := by decide +kernel
theorem dX11_parts_10 : decode cX11_parts 10 = .ok (.aload_n 0, 1) := by decide +kernel
theorem dX11_parts_11 : decode cX11_parts 11 = .ok (.iload_n 1, 1) := by decide +kernel
theorem dX11_parts_12 : decode cX11_parts 12 = .ok (.invokevirtual 325, 3) := by decide +kernel
theorem dX11_parts_15 : decode cX11_parts 15 = .ok (.ifCond .ne 9, 3) := by decide +kernel
theorem dX11_parts_18 : decode cX11_parts 18 = .ok (.aload_n 0, 1) := by decide +kernel
theorem dX11_parts_19 : decode cX11_parts 19 = .ok (.iconst 1, 1) := by decide +kernel
theorem dX11_parts_20 : decode cX11_parts 20 = .ok (.invokevirtual 295, 3) := by decide +kernel
theorem dX11_parts_23 : decode cX11_parts 23 = .ok (.ireturn, 1) := by decide +kernel
theorem dX11_parts_24 : decode cX11_parts 24 = .ok (.iload_n 2, 1) := by decide +kernel
theorem dX11_parts_25 : decode cX11_parts 25 = .ok (.ifCond .lt 22, 3) := by decide +kernel
theorem dX11_parts_28 : decode cX11_parts 28 = .ok (.iload_n 2, 1) := by decide +kernel
theorem dX11_parts_29 : decode cX11_parts 29 = .ok (.iconst 1, 1) := by decide +kernel
theorem dX11_parts_30 : decode cX11_parts 30 = .ok (.aload_n 0, 1) := by decide +kernel
theorem dX11_parts_31 : decode cX11_parts 31 = .ok (.getfield 20, 3) := by decide +kernel
theorem dX11_parts_34 : decode cX11_parts 34 = .ok (.iload_n 1, 1) := by decide +kernel
theorem dX11_parts_35 : decode cX11_parts 35 = .ok (.iaload, 1) := by decide +kernel
theorem dX11_parts_36 : decode cX11_parts 36 = .ok (.ishl, 1) := by decide +kernel
theorem dX11_parts_37 : decode cX11_parts 37 = .ok (.if_icmp .ge 10, 3) := by decide +kernel
theorem dX11_parts_40 : decode cX11_parts 40 = .ok (.iload_n 3, 1) := by decide +kernel
theorem dX11_parts_41 : decode cX11_parts 41 = .ok (.invokestatic 364, 3) := by decide +kernel
theorem dX11_parts_44 : decode cX11_parts 44 = .ok (.ifCond .ne 9, 3) := by decide +kernel
theorem dX11_parts_47 : decode cX11_parts 47 = .ok (.aload_n 0, 1) := by decide +kernel
theorem dX11_parts_48 : decode cX11_parts 48 = .ok (.iconst 2, 1) := by decide +kernel
theorem dX11_parts_49 : decode cX11_parts 49 = .ok (.invokevirtual 295, 3) := by decide +kernel
theorem dX11_parts_52 : decode cX11_parts 52 = .ok (.ireturn, 1) := by decide +kernel
theorem dX11_parts_53 : decode cX11_parts 53 = .ok (.aload_n 0, 1) := by decide +kernel
theorem dX11_parts_54 : decode cX11_parts 54 = .ok (.iload_n 1, 1) := by decide +kernel
theorem dX11_parts_55 : decode cX11_parts 55 = .ok (.iload_n 2, 1) := by decide +kernel
theorem dX11_parts_56 : decode cX11_parts 56 = .ok (.iload_n 3, 1) := by decide +kernel
theorem dX11_parts_57 : decode cX11_parts 57 = .ok (.invokevirtual 405, 3) := by decide +kernel
theorem dX11_parts_60 : decode cX11_parts 60 = .ok (.ireturn, 1) := by decide +kernel
theorem dX11_choose_0 : decode cX11_choose 0 = .ok (.aload_n 0, 1) := by decide +kernel
theorem dX11_choose_1 : decode cX11_choose 1 = .ok (.iconst 0, 1) := by decide +kernel
theorem dX11_choose_2 : decode cX11_choose 2 = .ok (.putfield 146, 3) := by decide +kernel
theorem dX11_choose_5 : decode cX11_choose 5 = .ok (.aload_n 0, 1) := by decide +kernel
theorem dX11_choose_6 : decode cX11_choose 6 = .ok (.iconst 0, 1) := by decide +kernel
theorem dX11_choose_7 : decode cX11_choose 7 = .ok (.putfield 149, 3) := by decide +kernel
theorem dX11_choose_10 : decode cX11_choose 10 = .ok (.aload_n 0, 1) := by decide +kernel
theorem dX11_choose_11 : decode cX11_choose 11 = .ok (.iload_n 1, 1) := by decide +kernel
theorem dX11_choose_12 : decode cX11_choose 12 = .ok (.invokevirtual 325, 3) := by decide +kernel
theorem dX11_choose_15 : decode cX11_choose 15 = .ok (.ifCond .ne 9, 3) := by decide +kernel
theorem dX11_choose_18 : decode cX11_choose 18 = .ok (.aload_n 0, 1) := by decide +kernel
theorem dX11_choose_19 : decode cX11_choose 19 = .ok (.iconst 1, 1) := by decide +kernel
theorem dX11_choose_20 : decode cX11_choose 20 = .ok (.invokevirtual 295, 3) := by decide +kernel
theorem dX11_choose_23 : decode cX11_choose 23 = .ok (.ireturn, 1) := by decide +kernel
theorem dX11_choose_24 : decode cX11_choose 24 = .ok (.iload_n 2, 1) := by decide +kernel
theorem dX11_choose_25 : decode cX11_choose 25 = .ok (.iconst 1, 1) := by decide +kernel
theorem dX11_choose_26 : decode cX11_choose 26 = .ok (.if_icmp .lt 20, 3) := by decide +kernel
theorem dX11_choose_29 : decode cX11_choose 29 = .ok (.iload_n 2, 1) := by decide +kernel
theorem dX11_choose_30 : decode cX11_choose 30 = .ok (.aload_n 0, 1) := by decide +kernel
theorem dX11_choose_31 : decode cX11_choose 31 = .ok (.getfield 20, 3) := by decide +kernel
theorem dX11_choose_34 : decode cX11_choose 34 = .ok (.iload_n 1, 1) := by decide +kernel
theorem dX11_choose_35 : decode cX11_choose 35 = .ok (.iaload, 1) := by decide +kernel
theorem dX11_choose_36 : decode cX11_choose 36 = .ok (.if_icmp .gt 10, 3) := by decide +kernel
theorem dX11_choose_39 : decode cX11_choose 39 = .ok (.iload_n 3, 1) := by decide +kernel
theorem dX11_choose_40 : decode cX11_choose 40 = .ok (.invokestatic 364, 3) := by decide +kernel
theorem dX11_choose_43 : decode cX11_choose 43 = .ok (.ifCond .ne 9, 3) := by decide +kernel
theorem dX11_choose_46 : decode cX11_choose 46 = .ok (.aload_n 0, 1) := by decide +kernel
theorem dX11_choose_47 : decode cX11_choose 47 = .ok (.iconst 2, 1) := by decide +kernel
theorem dX11_choose_48 : decode cX11_choose 48 = .ok (.invokevirtual 295, 3) := by decide +kernel
theorem dX11_choose_51 : decode cX11_choose 51 = .ok (.ireturn, 1) := by decide +kernel
theorem dX11_choose_52 : decode cX11_choose 52 = .ok (.iconst (-1), 1) := by decide +kernel
theorem dX11_choose_53 : decode cX11_choose 53 = .ok (.istore 4, 2) := by decide +kernel
theorem dX11_choose_55 : decode cX11_choose 55 = .ok (.iconst (-1), 1) := by decide +kernel
theorem dX11_choose_56 : decode cX11_choose 56 = .ok (.istore 5, 2) := by decide +kernel
theorem dX11_choose_58 : decode cX11_choose 58 = .ok (.iconst 0, 1) := by decide +kernel
theorem dX11_choose_59 : decode cX11_choose 59 = .ok (.istore 6, 2) := by decide +kernel
theorem dX11_choose_61 : decode cX11_choose 61 = .ok (.iload 6, 2) := by decide +kernel
theorem dX11_choose_63 : decode cX11_choose 63 = .ok (.iconst 1, 1) := by decide +kernel
theorem dX11_choose_64 : decode cX11_choose 64 = .ok (.aload_n 0, 1) := by decide +kernel
theorem dX11_choose_65 : decode cX11_choose 65 = .ok (.getfield 20, 3) := by decide +kernel
theorem dX11_choose_68 : decode cX11_choose 68 = .ok (.iload_n 1, 1) := by decide +kernel
theorem dX11_choose_69 : decode cX11_choose 69 = .ok (.iaload, 1) := by decide +kernel
theorem dX11_choose_70 : decode cX11_choose 70 = .ok (.ishl, 1) := by decide +kernel
theorem dX11_choose_71 : decode cX11_choose 71 = .ok (.if_icmp .ge 49, 3) := by decide +kernel
theorem dX11_choose_74 : decode cX11_choose 74 = .ok (.iload 6, 2) := by decide +kernel
theorem dX11_choose_76 : decode cX11_choose 76 = .ok (.invokestatic 408, 3) := by decide +kernel
theorem dX11_choose_79 : decode cX11_choose 79 = .ok (.iload_n 2, 1) := by decide +kernel
theorem dX11_choose_80 : decode cX11_choose 80 = .ok (.if_icmp .eq 6, 3) := by decide +kernel
theorem dX11_choose_83 : decode cX11_choose 83 = .ok (.goto 31, 3) := by decide +kernel
theorem dX11_choose_86 : decode cX11_choose 86 = .ok (.aload_n 0, 1) := by decide +kernel
theorem dX11_choose_87 : decode cX11_choose 87 = .ok (.iload_n 1, 1) := by decide +kernel
theorem dX11_choose_88 : decode cX11_choose 88 = .ok (.iload 6, 2) := by decide +kernel
theorem dX11_choose_90 : decode cX11_choose 90 = .ok (.iload_n 3, 1) := by decide +kernel
theorem dX11_choose_91 : decode cX11_choose 91 = .ok (.invokevirtual 405, 3) := by decide +kernel
theorem dX11_choose_94 : decode cX11_choose 94 = .ok (.istore 7, 2) := by decide +kernel
theorem dX11_choose_96 : decode cX11_choose 96 = .ok (.iload 7, 2) := by decide +kernel
theorem dX11_choose_98 : decode cX11_choose 98 = .ok (.iload 5, 2) := by decide +kernel
theorem dX11_choose_100 : decode cX11_choose 100 = .ok (.if_icmp .gt 6, 3) := by decide +kernel
theorem dX11_choose_103 : decode cX11_choose 103 = .ok (.goto 11, 3) := by decide +kernel
theorem dX11_choose_106 : decode cX11_choose 106 = .ok (.iload 7, 2) := by decide +kernel
theorem dX11_choose_108 : decode cX11_choose 108 = .ok (.istore 5, 2) := by decide +kernel
theorem dX11_choose_110 : decode cX11_choose 110 = .ok (.iload 6, 2) := by decide +kernel
theorem dX11_choose_112 : decode cX11_choose 112 = .ok (.istore 4, 2) := by decide +kernel
theorem dX11_choose_114 : decode cX11_choose 114 = .ok (.iinc 6 1, 3) := by decide +kernel
theorem dX11_choose_117 : decode cX11_choose 117 = .ok (.goto (-56), 3) := by decide +kernel
theorem dX11_choose_120 : decode cX11_choose 120 = .ok (.iload 4, 2) := by decide +kernel
theorem dX11_choose_122 : decode cX11_choose 122 = .ok (.ireturn, 1) := by decide +kernel
