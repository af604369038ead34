theorem dX11_readKeys_0 : decode cX11_readKeys 0 = .ok (.aload_n 0, 1) := by decide +kernel
theorem dX11_readKeys_1 : decode cX11_readKeys 1 = .ok (.iconst 0, 1) := by decide +kernel
theorem dX11_readKeys_2 : decode cX11_readKeys 2 = .ok (.putfield 214, 3) := by decide +kernel
theorem dX11_readKeys_5 : decode cX11_readKeys 5 = .ok (.iconst 1, 1) := by decide +kernel
theorem dX11_readKeys_6 : decode cX11_readKeys 6 = .ok (.istore_n 1, 1) := by decide +kernel
theorem dX11_readKeys_7 : decode cX11_readKeys 7 = .ok (.iload_n 1, 1) := by decide +kernel
theorem dX11_readKeys_8 : decode cX11_readKeys 8 = .ok (.ifCond .eq 251, 3) := by decide +kernel
theorem dX11_readKeys_11 : decode cX11_readKeys 11 = .ok (.aload_n 0, 1) := by decide +kernel
theorem dX11_readKeys_12 : decode cX11_readKeys 12 = .ok (.getfield 188, 3) := by decide +kernel
theorem dX11_readKeys_15 : decode cX11_readKeys 15 = .ok (.ifCond .ne 244, 3) := by decide +kernel
theorem dX11_readKeys_18 : decode cX11_readKeys 18 = .ok (.aload_n 0, 1) := by decide +kernel
theorem dX11_readKeys_19 : decode cX11_readKeys 19 = .ok (.bipush 117, 2) := by decide +kernel
theorem dX11_readKeys_21 : decode cX11_readKeys 21 = .ok (.bipush 112, 2) := by decide +kernel
theorem dX11_readKeys_23 : decode cX11_readKeys 23 = .ok (.iconst 0, 1) := by decide +kernel
theorem dX11_readKeys_24 : decode cX11_readKeys 24 = .ok (.iconst 0, 1) := by decide +kernel
theorem dX11_readKeys_25 : decode cX11_readKeys 25 = .ok (.iconst 0, 1) := by decide +kernel
theorem dX11_readKeys_26 : decode cX11_readKeys 26 = .ok (.iconst 0, 1) := by decide +kernel
theorem dX11_readKeys_27 : decode cX11_readKeys 27 = .ok (.iconst 0, 1) := by decide +kernel
theorem dX11_readKeys_28 : decode cX11_readKeys 28 = .ok (.invokestatic 228, 3) := by decide +kernel
theorem dX11_readKeys_31 : decode cX11_readKeys 31 = .ok (.invokevirtual 232, 3) := by decide +kernel
theorem dX11_readKeys_34 : decode cX11_readKeys 34 = .ok (.istore_n 2, 1) := by decide +kernel
theorem dX11_readKeys_35 : decode cX11_readKeys 35 = .ok (.iload_n 2, 1) := by decide +kernel
theorem dX11_readKeys_36 : decode cX11_readKeys 36 = .ok (.ifCond .ne 31, 3) := by decide +kernel
theorem dX11_readKeys_39 : decode cX11_readKeys 39 = .ok (.aload_n 0, 1) := by decide +kernel
theorem dX11_readKeys_40 : decode cX11_readKeys 40 = .ok (.bipush 100, 2) := by decide +kernel
theorem dX11_readKeys_42 : decode cX11_readKeys 42 = .ok (.bipush 111, 2) := by decide +kernel
theorem dX11_readKeys_44 : decode cX11_readKeys 44 = .ok (.bipush 119, 2) := by decide +kernel
theorem dX11_readKeys_46 : decode cX11_readKeys 46 = .ok (.bipush 110, 2) := by decide +kernel
theorem dX11_readKeys_48 : decode cX11_readKeys 48 = .ok (.iconst 0, 1) := by decide +kernel
theorem dX11_readKeys_49 : decode cX11_readKeys 49 = .ok (.iconst 0, 1) := by decide +kernel
theorem dX11_readKeys_50 : decode cX11_readKeys 50 = .ok (.iconst 0, 1) := by decide +kernel
theorem dX11_readKeys_51 : decode cX11_readKeys 51 = .ok (.invokestatic 228, 3) := by decide +kernel
theorem dX11_readKeys_54 : decode cX11_readKeys 54 = .ok (.invokevirtual 232, 3) := by decide +kernel
theorem dX11_readKeys_57 : decode cX11_readKeys 57 = .ok (.ifCond .ne 10, 3) := by decide +kernel
theorem dX11_readKeys_60 : decode cX11_readKeys 60 = .ok (.aload_n 0, 1) := by decide +kernel
theorem dX11_readKeys_61 : decode cX11_readKeys 61 = .ok (.invokevirtual 198, 3) := by decide +kernel
theorem dX11_readKeys_64 : decode cX11_readKeys 64 = .ok (.goto 20, 3) := by decide +kernel
theorem dX11_readKeys_67 : decode cX11_readKeys 67 = .ok (.aload_n 0, 1) := by decide +kernel
theorem dX11_readKeys_68 : decode cX11_readKeys 68 = .ok (.getfield 214, 3) := by decide +kernel
theorem dX11_readKeys_71 : decode cX11_readKeys 71 = .ok (.iconst 4, 1) := by decide +kernel
theorem dX11_readKeys_72 : decode cX11_readKeys 72 = .ok (.if_icmp .ne 12, 3) := by decide +kernel
theorem dX11_readKeys_75 : decode cX11_readKeys 75 = .ok (.aload_n 0, 1) := by decide +kernel
theorem dX11_readKeys_76 : decode cX11_readKeys 76 = .ok (.iconst 3, 1) := by decide +kernel
theorem dX11_readKeys_77 : decode cX11_readKeys 77 = .ok (.aload_n 0, 1) := by decide +kernel
theorem dX11_readKeys_78 : decode cX11_readKeys 78 = .ok (.getfield 158, 3) := by decide +kernel
theorem dX11_readKeys_81 : decode cX11_readKeys 81 = .ok (.invokevirtual 194, 3) := by decide +kernel
theorem dX11_readKeys_84 : decode cX11_readKeys 84 = .ok (.aload_n 0, 1) := by decide +kernel
theorem dX11_readKeys_85 : decode cX11_readKeys 85 = .ok (.getfield 188, 3) := by decide +kernel
theorem dX11_readKeys_88 : decode cX11_readKeys 88 = .ok (.ifCond .le 4, 3) := by decide +kernel
theorem dX11_readKeys_91 : decode cX11_readKeys 91 = .ok (.return_, 1) := by decide +kernel
theorem dX11_readKeys_92 : decode cX11_readKeys 92 = .ok (.aload_n 0, 1) := by decide +kernel
theorem dX11_readKeys_93 : decode cX11_readKeys 93 = .ok (.invokevirtual 201, 3) := by decide +kernel
theorem dX11_readKeys_96 : decode cX11_readKeys 96 = .ok (.aload_n 0, 1) := by decide +kernel
theorem dX11_readKeys_97 : decode cX11_readKeys 97 = .ok (.bipush 115, 2) := by decide +kernel
theorem dX11_readKeys_99 : decode cX11_readKeys 99 = .ok (.bipush 117, 2) := by decide +kernel
theorem dX11_readKeys_101 : decode cX11_readKeys 101 = .ok (.bipush 109, 2) := by decide +kernel
theorem dX11_readKeys_103 : decode cX11_readKeys 103 = .ok (.iconst 0, 1) := by decide +kernel
theorem dX11_readKeys_104 : decode cX11_readKeys 104 = .ok (.iconst 0, 1) := by decide +kernel
theorem dX11_readKeys_105 : decode cX11_readKeys 105 = .ok (.iconst 0, 1) := by decide +kernel
theorem dX11_readKeys_106 : decode cX11_readKeys 106 = .ok (.iconst 0, 1) := by decide +kernel
theorem dX11_readKeys_107 : decode cX11_readKeys 107 = .ok (.invokestatic 228, 3) := by decide +kernel
theorem dX11_readKeys_110 : decode cX11_readKeys 110 = .ok (.invokevirtual 232, 3) := by decide +kernel
theorem dX11_readKeys_113 : decode cX11_readKeys 113 = .ok (.ifCond .eq 7, 3) := by decide +kernel
theorem dX11_readKeys_116 : decode cX11_readKeys 116 = .ok (.iconst 0, 1) := by decide +kernel
theorem dX11_readKeys_117 : decode cX11_readKeys 117 = .ok (.goto 80, 3) := by decide +kernel
theorem dX11_readKeys_120 : decode cX11_readKeys 120 = .ok (.aload_n 0, 1) := by decide +kernel
theorem dX11_readKeys_121 : decode cX11_readKeys 121 = .ok (.bipush 109, 2) := by decide +kernel
theorem dX11_readKeys_123 : decode cX11_readKeys 123 = .ok (.bipush 111, 2) := by decide +kernel
theorem dX11_readKeys_125 : decode cX11_readKeys 125 = .ok (.bipush 115, 2) := by decide +kernel
theorem dX11_readKeys_127 : decode cX11_readKeys 127 = .ok (.bipush 116, 2) := by decide +kernel
theorem dX11_readKeys_129 : decode cX11_readKeys 129 = .ok (.iconst 0, 1) := by decide +kernel
theorem dX11_readKeys_130 : decode cX11_readKeys 130 = .ok (.iconst 0, 1) := by decide +kernel
theorem dX11_readKeys_131 : decode cX11_readKeys 131 = .ok (.iconst 0, 1) := by decide +kernel
theorem dX11_readKeys_132 : decode cX11_readKeys 132 = .ok (.invokestatic 228, 3) := by decide +kernel
theorem dX11_readKeys_135 : decode cX11_readKeys 135 = .ok (.invokevirtual 232, 3) := by decide +kernel
theorem dX11_readKeys_138 : decode cX11_readKeys 138 = .ok (.ifCond .eq 7, 3) := by decide +kernel
theorem dX11_readKeys_141 : decode cX11_readKeys 141 = .ok (.iconst 1, 1) := by decide +kernel
theorem dX11_readKeys_142 : decode cX11_readKeys 142 = .ok (.goto 55, 3) := by decide +kernel
theorem dX11_readKeys_145 : decode cX11_readKeys 145 = .ok (.aload_n 0, 1) := by decide +kernel
theorem dX11_readKeys_146 : decode cX11_readKeys 146 = .ok (.bipush 116, 2) := by decide +kernel
theorem dX11_readKeys_148 : decode cX11_readKeys 148 = .ok (.bipush 111, 2) := by decide +kernel
theorem dX11_readKeys_150 : decode cX11_readKeys 150 = .ok (.bipush 112, 2) := by decide +kernel
theorem dX11_readKeys_152 : decode cX11_readKeys 152 = .ok (.bipush 115, 2) := by decide +kernel
theorem dX11_readKeys_154 : decode cX11_readKeys 154 = .ok (.iconst 0, 1) := by decide +kernel
theorem dX11_readKeys_155 : decode cX11_readKeys 155 = .ok (.iconst 0, 1) := by decide +kernel
theorem dX11_readKeys_156 : decode cX11_readKeys 156 = .ok (.iconst 0, 1) := by decide +kernel
theorem dX11_readKeys_157 : decode cX11_readKeys 157 = .ok (.invokestatic 228, 3) := by decide +kernel
theorem dX11_readKeys_160 : decode cX11_readKeys 160 = .ok (.invokevirtual 232, 3) := by decide +kernel
theorem dX11_readKeys_163 : decode cX11_readKeys 163 = .ok (.ifCond .eq 7, 3) := by decide +kernel
theorem dX11_readKeys_166 : decode cX11_readKeys 166 = .ok (.iconst 2, 1) := by decide +kernel
theorem dX11_readKeys_167 : decode cX11_readKeys 167 = .ok (.goto 30, 3) := by decide +kernel
theorem dX11_readKeys_170 : decode cX11_readKeys 170 = .ok (.aload_n 0, 1) := by decide +kernel
theorem dX11_readKeys_171 : decode cX11_readKeys 171 = .ok (.bipush 122, 2) := by decide +kernel
theorem dX11_readKeys_173 : decode cX11_readKeys 173 = .ok (.bipush 111, 2) := by decide +kernel
theorem dX11_readKeys_175 : decode cX11_readKeys 175 = .ok (.bipush 110, 2) := by decide +kernel
theorem dX11_readKeys_177 : decode cX11_readKeys 177 = .ok (.bipush 101, 2) := by decide +kernel
theorem dX11_readKeys_179 : decode cX11_readKeys 179 = .ok (.bipush 115, 2) := by decide +kernel
theorem dX11_readKeys_181 : decode cX11_readKeys 181 = .ok (.iconst 0, 1) := by decide +kernel
theorem dX11_readKeys_182 : decode cX11_readKeys 182 = .ok (.iconst 0, 1) := by decide +kernel
theorem dX11_readKeys_183 : decode cX11_readKeys 183 = .ok (.invokestatic 228, 3) := by decide +kernel
theorem dX11_readKeys_186 : decode cX11_readKeys 186 = .ok (.invokevirtual 232, 3) := by decide +kernel
theorem dX11_readKeys_189 : decode cX11_readKeys 189 = .ok (.ifCond .eq 7, 3) := by decide +kernel
theorem dX11_readKeys_192 : decode cX11_readKeys 192 = .ok (.iconst 3, 1) := by decide +kernel
theorem dX11_readKeys_193 : decode cX11_readKeys 193 = .ok (.goto 4, 3) := by decide +kernel
theorem dX11_readKeys_196 : decode cX11_readKeys 196 = .ok (.iconst (-1), 1) := by decide +kernel
theorem dX11_readKeys_197 : decode cX11_readKeys 197 = .ok (.istore_n 3, 1) := by decide +kernel
theorem dX11_readKeys_198 : decode cX11_readKeys 198 = .ok (.iload_n 3, 1) := by decide +kernel
theorem dX11_readKeys_199 : decode cX11_readKeys 199 = .ok (.ifCond .ge 8, 3) := by decide +kernel
theorem dX11_readKeys_202 : decode cX11_readKeys 202 = .ok (.aload_n 0, 1) := by decide +kernel
theorem dX11_readKeys_203 : decode cX11_readKeys 203 = .ok (.invokevirtual 198, 3) := by decide +kernel
theorem dX11_readKeys_206 : decode cX11_readKeys 206 = .ok (.return_, 1) := by decide +kernel
theorem dX11_readKeys_207 : decode cX11_readKeys 207 = .ok (.aload_n 0, 1) := by decide +kernel
theorem dX11_readKeys_208 : decode cX11_readKeys 208 = .ok (.getfield 67, 3) := by decide +kernel
theorem dX11_readKeys_211 : decode cX11_readKeys 211 = .ok (.aload_n 0, 1) := by decide +kernel
theorem dX11_readKeys_212 : decode cX11_readKeys 212 = .ok (.getfield 214, 3) := by decide +kernel
theorem dX11_readKeys_215 : decode cX11_readKeys 215 = .ok (.iload_n 2, 1) := by decide +kernel
theorem dX11_readKeys_216 : decode cX11_readKeys 216 = .ok (.bastore, 1) := by decide +kernel
theorem dX11_readKeys_217 : decode cX11_readKeys 217 = .ok (.aload_n 0, 1) := by decide +kernel
theorem dX11_readKeys_218 : decode cX11_readKeys 218 = .ok (.getfield 60, 3) := by decide +kernel
theorem dX11_readKeys_221 : decode cX11_readKeys 221 = .ok (.aload_n 0, 1) := by decide +kernel
theorem dX11_readKeys_222 : decode cX11_readKeys 222 = .ok (.getfield 214, 3) := by decide +kernel
theorem dX11_readKeys_225 : decode cX11_readKeys 225 = .ok (.iload_n 3, 1) := by decide +kernel
theorem dX11_readKeys_226 : decode cX11_readKeys 226 = .ok (.iastore, 1) := by decide +kernel
theorem dX11_readKeys_227 : decode cX11_readKeys 227 = .ok (.aload_n 0, 1) := by decide +kernel
theorem dX11_readKeys_228 : decode cX11_readKeys 228 = .ok (.dup, 1) := by decide +kernel
theorem dX11_readKeys_229 : decode cX11_readKeys 229 = .ok (.getfield 214, 3) := by decide +kernel
theorem dX11_readKeys_232 : decode cX11_readKeys 232 = .ok (.iconst 1, 1) := by decide +kernel
theorem dX11_readKeys_233 : decode cX11_readKeys 233 = .ok (.iadd, 1) := by decide +kernel
theorem dX11_readKeys_234 : decode cX11_readKeys 234 = .ok (.putfield 214, 3) := by decide +kernel
theorem dX11_readKeys_237 : decode cX11_readKeys 237 = .ok (.aload_n 0, 1) := by decide +kernel
theorem dX11_readKeys_238 : decode cX11_readKeys 238 = .ok (.invokevirtual 201, 3) := by decide +kernel
theorem dX11_readKeys_241 : decode cX11_readKeys 241 = .ok (.aload_n 0, 1) := by decide +kernel
theorem dX11_readKeys_242 : decode cX11_readKeys 242 = .ok (.bipush 44, 2) := by decide +kernel
theorem dX11_readKeys_244 : decode cX11_readKeys 244 = .ok (.invokevirtual 204, 3) := by decide +kernel
theorem dX11_readKeys_247 : decode cX11_readKeys 247 = .ok (.istore_n 1, 1) := by decide +kernel
theorem dX11_readKeys_248 : decode cX11_readKeys 248 = .ok (.iload_n 1, 1) := by decide +kernel
theorem dX11_readKeys_249 : decode cX11_readKeys 249 = .ok (.ifCond .eq 7, 3) := by decide +kernel
theorem dX11_readKeys_252 : decode cX11_readKeys 252 = .ok (.aload_n 0, 1) := by decide +kernel
theorem dX11_readKeys_253 : decode cX11_readKeys 253 = .ok (.invokevirtual 201, 3) := by decide +kernel
theorem dX11_readKeys_256 : decode cX11_readKeys 256 = .ok (.goto (-249), 3) := by decide +kernel
theorem dX11_readKeys_259 : decode cX11_readKeys 259 = .ok (.return_, 1) := by decide +kernel
