section
theorem dG_dL_law_0 : (decode cL_law 0 = .ok (.new 7, 3)) ∧ (decode cL_law 3 = .ok (.dup, 1)) ∧ (decode cL_law 4 = .ok (.invokespecial 9, 3)) ∧ (decode cL_law 7 = .ok (.astore_n 1, 1)) ∧ (decode cL_law 8 = .ok (.new 10, 3)) ∧ (decode cL_law 11 = .ok (.dup, 1)) ∧ (decode cL_law 12 = .ok (.invokespecial 12, 3)) ∧ (decode cL_law 15 = .ok (.astore_n 2, 1)) ∧ (decode cL_law 16 = .ok (.iconst 0, 1)) ∧ (decode cL_law 17 = .ok (.istore_n 3, 1)) ∧ (decode cL_law 18 = .ok (.iload_n 3, 1)) ∧ (decode cL_law 19 = .ok (.aload_n 0, 1)) := by decide +kernel
theorem dL_law_0 : decode cL_law 0 = .ok (.new 7, 3) := dG_dL_law_0.1
theorem dL_law_3 : decode cL_law 3 = .ok (.dup, 1) := dG_dL_law_0.2.1
theorem dL_law_4 : decode cL_law 4 = .ok (.invokespecial 9, 3) := dG_dL_law_0.2.2.1
theorem dL_law_7 : decode cL_law 7 = .ok (.astore_n 1, 1) := dG_dL_law_0.2.2.2.1
theorem dL_law_8 : decode cL_law 8 = .ok (.new 10, 3) := dG_dL_law_0.2.2.2.2.1
theorem dL_law_11 : decode cL_law 11 = .ok (.dup, 1) := dG_dL_law_0.2.2.2.2.2.1
theorem dL_law_12 : decode cL_law 12 = .ok (.invokespecial 12, 3) := dG_dL_law_0.2.2.2.2.2.2.1
theorem dL_law_15 : decode cL_law 15 = .ok (.astore_n 2, 1) := dG_dL_law_0.2.2.2.2.2.2.2.1
theorem dL_law_16 : decode cL_law 16 = .ok (.iconst 0, 1) := dG_dL_law_0.2.2.2.2.2.2.2.2.1
theorem dL_law_17 : decode cL_law 17 = .ok (.istore_n 3, 1) := dG_dL_law_0.2.2.2.2.2.2.2.2.2.1
theorem dL_law_18 : decode cL_law 18 = .ok (.iload_n 3, 1) := dG_dL_law_0.2.2.2.2.2.2.2.2.2.2.1
theorem dL_law_19 : decode cL_law 19 = .ok (.aload_n 0, 1) := dG_dL_law_0.2.2.2.2.2.2.2.2.2.2.2
theorem dG_dL_law_20 : (decode cL_law 20 = .ok (.arraylength, 1)) ∧ (decode cL_law 21 = .ok (.bipush 7, 2)) ∧ (decode cL_law 23 = .ok (.isub, 1)) ∧ (decode cL_law 24 = .ok (.if_icmp .gt 1062, 3)) ∧ (decode cL_law 27 = .ok (.aload_n 0, 1)) ∧ (decode cL_law 28 = .ok (.iload_n 3, 1)) ∧ (decode cL_law 29 = .ok (.iaload, 1)) ∧ (decode cL_law 30 = .ok (.bipush 31, 2)) ∧ (decode cL_law 32 = .ok (.iand, 1)) ∧ (decode cL_law 33 = .ok (.tableswitch 1047 0 23 #[111, 124, 187, 210, 233, 246, 321, 364, 407, 450, 509, 568, 591, 604, 637, 670, 693, 736, 799, 852, 895, 928, 961, 1004], 111)) ∧ (decode cL_law 144 = .ok (.aload_n 1, 1)) ∧ (decode cL_law 145 = .ok (.invokevirtual 13, 3)) := by decide +kernel
theorem dL_law_20 : decode cL_law 20 = .ok (.arraylength, 1) := dG_dL_law_20.1
theorem dL_law_21 : decode cL_law 21 = .ok (.bipush 7, 2) := dG_dL_law_20.2.1
theorem dL_law_23 : decode cL_law 23 = .ok (.isub, 1) := dG_dL_law_20.2.2.1
theorem dL_law_24 : decode cL_law 24 = .ok (.if_icmp .gt 1062, 3) := dG_dL_law_20.2.2.2.1
theorem dL_law_27 : decode cL_law 27 = .ok (.aload_n 0, 1) := dG_dL_law_20.2.2.2.2.1
theorem dL_law_28 : decode cL_law 28 = .ok (.iload_n 3, 1) := dG_dL_law_20.2.2.2.2.2.1
theorem dL_law_29 : decode cL_law 29 = .ok (.iaload, 1) := dG_dL_law_20.2.2.2.2.2.2.1
theorem dL_law_30 : decode cL_law 30 = .ok (.bipush 31, 2) := dG_dL_law_20.2.2.2.2.2.2.2.1
theorem dL_law_32 : decode cL_law 32 = .ok (.iand, 1) := dG_dL_law_20.2.2.2.2.2.2.2.2.1
theorem dL_law_33 : decode cL_law 33 = .ok (.tableswitch 1047 0 23 #[111, 124, 187, 210, 233, 246, 321, 364, 407, 450, 509, 568, 591, 604, 637, 670, 693, 736, 799, 852, 895, 928, 961, 1004], 111) := dG_dL_law_20.2.2.2.2.2.2.2.2.2.1
theorem dL_law_144 : decode cL_law 144 = .ok (.aload_n 1, 1) := dG_dL_law_20.2.2.2.2.2.2.2.2.2.2.1
theorem dL_law_145 : decode cL_law 145 = .ok (.invokevirtual 13, 3) := dG_dL_law_20.2.2.2.2.2.2.2.2.2.2.2
theorem dG_dL_law_148 : (decode cL_law 148 = .ok (.pop, 1)) ∧ (decode cL_law 149 = .ok (.aload_n 2, 1)) ∧ (decode cL_law 150 = .ok (.invokevirtual 17, 3)) ∧ (decode cL_law 153 = .ok (.pop, 1)) ∧ (decode cL_law 154 = .ok (.goto 926, 3)) ∧ (decode cL_law 157 = .ok (.aload_n 1, 1)) ∧ (decode cL_law 158 = .ok (.aload_n 0, 1)) ∧ (decode cL_law 159 = .ok (.iload_n 3, 1)) ∧ (decode cL_law 160 = .ok (.iconst 1, 1)) ∧ (decode cL_law 161 = .ok (.iadd, 1)) ∧ (decode cL_law 162 = .ok (.iaload, 1)) ∧ (decode cL_law 163 = .ok (.aload_n 0, 1)) := by decide +kernel
theorem dL_law_148 : decode cL_law 148 = .ok (.pop, 1) := dG_dL_law_148.1
theorem dL_law_149 : decode cL_law 149 = .ok (.aload_n 2, 1) := dG_dL_law_148.2.1
theorem dL_law_150 : decode cL_law 150 = .ok (.invokevirtual 17, 3) := dG_dL_law_148.2.2.1
theorem dL_law_153 : decode cL_law 153 = .ok (.pop, 1) := dG_dL_law_148.2.2.2.1
theorem dL_law_154 : decode cL_law 154 = .ok (.goto 926, 3) := dG_dL_law_148.2.2.2.2.1
theorem dL_law_157 : decode cL_law 157 = .ok (.aload_n 1, 1) := dG_dL_law_148.2.2.2.2.2.1
theorem dL_law_158 : decode cL_law 158 = .ok (.aload_n 0, 1) := dG_dL_law_148.2.2.2.2.2.2.1
theorem dL_law_159 : decode cL_law 159 = .ok (.iload_n 3, 1) := dG_dL_law_148.2.2.2.2.2.2.2.1
theorem dL_law_160 : decode cL_law 160 = .ok (.iconst 1, 1) := dG_dL_law_148.2.2.2.2.2.2.2.2.1
theorem dL_law_161 : decode cL_law 161 = .ok (.iadd, 1) := dG_dL_law_148.2.2.2.2.2.2.2.2.2.1
theorem dL_law_162 : decode cL_law 162 = .ok (.iaload, 1) := dG_dL_law_148.2.2.2.2.2.2.2.2.2.2.1
theorem dL_law_163 : decode cL_law 163 = .ok (.aload_n 0, 1) := dG_dL_law_148.2.2.2.2.2.2.2.2.2.2.2
theorem dG_dL_law_164 : (decode cL_law 164 = .ok (.iload_n 3, 1)) ∧ (decode cL_law 165 = .ok (.iconst 2, 1)) ∧ (decode cL_law 166 = .ok (.iadd, 1)) ∧ (decode cL_law 167 = .ok (.iaload, 1)) ∧ (decode cL_law 168 = .ok (.aload_n 0, 1)) ∧ (decode cL_law 169 = .ok (.iload_n 3, 1)) ∧ (decode cL_law 170 = .ok (.iconst 3, 1)) ∧ (decode cL_law 171 = .ok (.iadd, 1)) ∧ (decode cL_law 172 = .ok (.iaload, 1)) ∧ (decode cL_law 173 = .ok (.aload_n 0, 1)) ∧ (decode cL_law 174 = .ok (.iload_n 3, 1)) ∧ (decode cL_law 175 = .ok (.iconst 4, 1)) := by decide +kernel
theorem dL_law_164 : decode cL_law 164 = .ok (.iload_n 3, 1) := dG_dL_law_164.1
theorem dL_law_165 : decode cL_law 165 = .ok (.iconst 2, 1) := dG_dL_law_164.2.1
theorem dL_law_166 : decode cL_law 166 = .ok (.iadd, 1) := dG_dL_law_164.2.2.1
theorem dL_law_167 : decode cL_law 167 = .ok (.iaload, 1) := dG_dL_law_164.2.2.2.1
theorem dL_law_168 : decode cL_law 168 = .ok (.aload_n 0, 1) := dG_dL_law_164.2.2.2.2.1
theorem dL_law_169 : decode cL_law 169 = .ok (.iload_n 3, 1) := dG_dL_law_164.2.2.2.2.2.1
theorem dL_law_170 : decode cL_law 170 = .ok (.iconst 3, 1) := dG_dL_law_164.2.2.2.2.2.2.1
theorem dL_law_171 : decode cL_law 171 = .ok (.iadd, 1) := dG_dL_law_164.2.2.2.2.2.2.2.1
theorem dL_law_172 : decode cL_law 172 = .ok (.iaload, 1) := dG_dL_law_164.2.2.2.2.2.2.2.2.1
theorem dL_law_173 : decode cL_law 173 = .ok (.aload_n 0, 1) := dG_dL_law_164.2.2.2.2.2.2.2.2.2.1
theorem dL_law_174 : decode cL_law 174 = .ok (.iload_n 3, 1) := dG_dL_law_164.2.2.2.2.2.2.2.2.2.2.1
theorem dL_law_175 : decode cL_law 175 = .ok (.iconst 4, 1) := dG_dL_law_164.2.2.2.2.2.2.2.2.2.2.2
theorem dG_dL_law_176 : (decode cL_law 176 = .ok (.iadd, 1)) ∧ (decode cL_law 177 = .ok (.iaload, 1)) ∧ (decode cL_law 178 = .ok (.aload_n 0, 1)) ∧ (decode cL_law 179 = .ok (.iload_n 3, 1)) ∧ (decode cL_law 180 = .ok (.iconst 5, 1)) ∧ (decode cL_law 181 = .ok (.iadd, 1)) ∧ (decode cL_law 182 = .ok (.iaload, 1)) ∧ (decode cL_law 183 = .ok (.invokevirtual 18, 3)) ∧ (decode cL_law 186 = .ok (.pop, 1)) ∧ (decode cL_law 187 = .ok (.aload_n 2, 1)) ∧ (decode cL_law 188 = .ok (.aload_n 0, 1)) ∧ (decode cL_law 189 = .ok (.iload_n 3, 1)) := by decide +kernel
theorem dL_law_176 : decode cL_law 176 = .ok (.iadd, 1) := dG_dL_law_176.1
theorem dL_law_177 : decode cL_law 177 = .ok (.iaload, 1) := dG_dL_law_176.2.1
theorem dL_law_178 : decode cL_law 178 = .ok (.aload_n 0, 1) := dG_dL_law_176.2.2.1
theorem dL_law_179 : decode cL_law 179 = .ok (.iload_n 3, 1) := dG_dL_law_176.2.2.2.1
theorem dL_law_180 : decode cL_law 180 = .ok (.iconst 5, 1) := dG_dL_law_176.2.2.2.2.1
theorem dL_law_181 : decode cL_law 181 = .ok (.iadd, 1) := dG_dL_law_176.2.2.2.2.2.1
theorem dL_law_182 : decode cL_law 182 = .ok (.iaload, 1) := dG_dL_law_176.2.2.2.2.2.2.1
theorem dL_law_183 : decode cL_law 183 = .ok (.invokevirtual 18, 3) := dG_dL_law_176.2.2.2.2.2.2.2.1
theorem dL_law_186 : decode cL_law 186 = .ok (.pop, 1) := dG_dL_law_176.2.2.2.2.2.2.2.2.1
theorem dL_law_187 : decode cL_law 187 = .ok (.aload_n 2, 1) := dG_dL_law_176.2.2.2.2.2.2.2.2.2.1
theorem dL_law_188 : decode cL_law 188 = .ok (.aload_n 0, 1) := dG_dL_law_176.2.2.2.2.2.2.2.2.2.2.1
theorem dL_law_189 : decode cL_law 189 = .ok (.iload_n 3, 1) := dG_dL_law_176.2.2.2.2.2.2.2.2.2.2.2
theorem dG_dL_law_190 : (decode cL_law 190 = .ok (.iconst 1, 1)) ∧ (decode cL_law 191 = .ok (.iadd, 1)) ∧ (decode cL_law 192 = .ok (.iaload, 1)) ∧ (decode cL_law 193 = .ok (.aload_n 0, 1)) ∧ (decode cL_law 194 = .ok (.iload_n 3, 1)) ∧ (decode cL_law 195 = .ok (.iconst 2, 1)) ∧ (decode cL_law 196 = .ok (.iadd, 1)) ∧ (decode cL_law 197 = .ok (.iaload, 1)) ∧ (decode cL_law 198 = .ok (.aload_n 0, 1)) ∧ (decode cL_law 199 = .ok (.iload_n 3, 1)) ∧ (decode cL_law 200 = .ok (.iconst 3, 1)) ∧ (decode cL_law 201 = .ok (.iadd, 1)) := by decide +kernel
theorem dL_law_190 : decode cL_law 190 = .ok (.iconst 1, 1) := dG_dL_law_190.1
theorem dL_law_191 : decode cL_law 191 = .ok (.iadd, 1) := dG_dL_law_190.2.1
theorem dL_law_192 : decode cL_law 192 = .ok (.iaload, 1) := dG_dL_law_190.2.2.1
theorem dL_law_193 : decode cL_law 193 = .ok (.aload_n 0, 1) := dG_dL_law_190.2.2.2.1
theorem dL_law_194 : decode cL_law 194 = .ok (.iload_n 3, 1) := dG_dL_law_190.2.2.2.2.1
theorem dL_law_195 : decode cL_law 195 = .ok (.iconst 2, 1) := dG_dL_law_190.2.2.2.2.2.1
theorem dL_law_196 : decode cL_law 196 = .ok (.iadd, 1) := dG_dL_law_190.2.2.2.2.2.2.1
theorem dL_law_197 : decode cL_law 197 = .ok (.iaload, 1) := dG_dL_law_190.2.2.2.2.2.2.2.1
theorem dL_law_198 : decode cL_law 198 = .ok (.aload_n 0, 1) := dG_dL_law_190.2.2.2.2.2.2.2.2.1
theorem dL_law_199 : decode cL_law 199 = .ok (.iload_n 3, 1) := dG_dL_law_190.2.2.2.2.2.2.2.2.2.1
theorem dL_law_200 : decode cL_law 200 = .ok (.iconst 3, 1) := dG_dL_law_190.2.2.2.2.2.2.2.2.2.2.1
theorem dL_law_201 : decode cL_law 201 = .ok (.iadd, 1) := dG_dL_law_190.2.2.2.2.2.2.2.2.2.2.2
theorem dG_dL_law_202 : (decode cL_law 202 = .ok (.iaload, 1)) ∧ (decode cL_law 203 = .ok (.aload_n 0, 1)) ∧ (decode cL_law 204 = .ok (.iload_n 3, 1)) ∧ (decode cL_law 205 = .ok (.iconst 4, 1)) ∧ (decode cL_law 206 = .ok (.iadd, 1)) ∧ (decode cL_law 207 = .ok (.iaload, 1)) ∧ (decode cL_law 208 = .ok (.aload_n 0, 1)) ∧ (decode cL_law 209 = .ok (.iload_n 3, 1)) ∧ (decode cL_law 210 = .ok (.iconst 5, 1)) ∧ (decode cL_law 211 = .ok (.iadd, 1)) ∧ (decode cL_law 212 = .ok (.iaload, 1)) ∧ (decode cL_law 213 = .ok (.invokevirtual 22, 3)) := by decide +kernel
theorem dL_law_202 : decode cL_law 202 = .ok (.iaload, 1) := dG_dL_law_202.1
theorem dL_law_203 : decode cL_law 203 = .ok (.aload_n 0, 1) := dG_dL_law_202.2.1
theorem dL_law_204 : decode cL_law 204 = .ok (.iload_n 3, 1) := dG_dL_law_202.2.2.1
theorem dL_law_205 : decode cL_law 205 = .ok (.iconst 4, 1) := dG_dL_law_202.2.2.2.1
theorem dL_law_206 : decode cL_law 206 = .ok (.iadd, 1) := dG_dL_law_202.2.2.2.2.1
theorem dL_law_207 : decode cL_law 207 = .ok (.iaload, 1) := dG_dL_law_202.2.2.2.2.2.1
theorem dL_law_208 : decode cL_law 208 = .ok (.aload_n 0, 1) := dG_dL_law_202.2.2.2.2.2.2.1
theorem dL_law_209 : decode cL_law 209 = .ok (.iload_n 3, 1) := dG_dL_law_202.2.2.2.2.2.2.2.1
theorem dL_law_210 : decode cL_law 210 = .ok (.iconst 5, 1) := dG_dL_law_202.2.2.2.2.2.2.2.2.1
theorem dL_law_211 : decode cL_law 211 = .ok (.iadd, 1) := dG_dL_law_202.2.2.2.2.2.2.2.2.2.1
theorem dL_law_212 : decode cL_law 212 = .ok (.iaload, 1) := dG_dL_law_202.2.2.2.2.2.2.2.2.2.2.1
theorem dL_law_213 : decode cL_law 213 = .ok (.invokevirtual 22, 3) := dG_dL_law_202.2.2.2.2.2.2.2.2.2.2.2
theorem dG_dL_law_216 : (decode cL_law 216 = .ok (.pop, 1)) ∧ (decode cL_law 217 = .ok (.goto 863, 3)) ∧ (decode cL_law 220 = .ok (.aload_n 1, 1)) ∧ (decode cL_law 221 = .ok (.aload_n 0, 1)) ∧ (decode cL_law 222 = .ok (.iload_n 3, 1)) ∧ (decode cL_law 223 = .ok (.iconst 1, 1)) ∧ (decode cL_law 224 = .ok (.iadd, 1)) ∧ (decode cL_law 225 = .ok (.iaload, 1)) ∧ (decode cL_law 226 = .ok (.invokevirtual 23, 3)) ∧ (decode cL_law 229 = .ok (.pop, 1)) ∧ (decode cL_law 230 = .ok (.aload_n 2, 1)) ∧ (decode cL_law 231 = .ok (.aload_n 0, 1)) := by decide +kernel
theorem dL_law_216 : decode cL_law 216 = .ok (.pop, 1) := dG_dL_law_216.1
theorem dL_law_217 : decode cL_law 217 = .ok (.goto 863, 3) := dG_dL_law_216.2.1
theorem dL_law_220 : decode cL_law 220 = .ok (.aload_n 1, 1) := dG_dL_law_216.2.2.1
theorem dL_law_221 : decode cL_law 221 = .ok (.aload_n 0, 1) := dG_dL_law_216.2.2.2.1
theorem dL_law_222 : decode cL_law 222 = .ok (.iload_n 3, 1) := dG_dL_law_216.2.2.2.2.1
theorem dL_law_223 : decode cL_law 223 = .ok (.iconst 1, 1) := dG_dL_law_216.2.2.2.2.2.1
theorem dL_law_224 : decode cL_law 224 = .ok (.iadd, 1) := dG_dL_law_216.2.2.2.2.2.2.1
theorem dL_law_225 : decode cL_law 225 = .ok (.iaload, 1) := dG_dL_law_216.2.2.2.2.2.2.2.1
theorem dL_law_226 : decode cL_law 226 = .ok (.invokevirtual 23, 3) := dG_dL_law_216.2.2.2.2.2.2.2.2.1
theorem dL_law_229 : decode cL_law 229 = .ok (.pop, 1) := dG_dL_law_216.2.2.2.2.2.2.2.2.2.1
theorem dL_law_230 : decode cL_law 230 = .ok (.aload_n 2, 1) := dG_dL_law_216.2.2.2.2.2.2.2.2.2.2.1
theorem dL_law_231 : decode cL_law 231 = .ok (.aload_n 0, 1) := dG_dL_law_216.2.2.2.2.2.2.2.2.2.2.2
theorem dG_dL_law_232 : (decode cL_law 232 = .ok (.iload_n 3, 1)) ∧ (decode cL_law 233 = .ok (.iconst 1, 1)) ∧ (decode cL_law 234 = .ok (.iadd, 1)) ∧ (decode cL_law 235 = .ok (.iaload, 1)) ∧ (decode cL_law 236 = .ok (.invokevirtual 27, 3)) ∧ (decode cL_law 239 = .ok (.pop, 1)) ∧ (decode cL_law 240 = .ok (.goto 840, 3)) ∧ (decode cL_law 243 = .ok (.aload_n 1, 1)) ∧ (decode cL_law 244 = .ok (.aload_n 0, 1)) ∧ (decode cL_law 245 = .ok (.iload_n 3, 1)) ∧ (decode cL_law 246 = .ok (.iconst 1, 1)) ∧ (decode cL_law 247 = .ok (.iadd, 1)) := by decide +kernel
theorem dL_law_232 : decode cL_law 232 = .ok (.iload_n 3, 1) := dG_dL_law_232.1
theorem dL_law_233 : decode cL_law 233 = .ok (.iconst 1, 1) := dG_dL_law_232.2.1
theorem dL_law_234 : decode cL_law 234 = .ok (.iadd, 1) := dG_dL_law_232.2.2.1
theorem dL_law_235 : decode cL_law 235 = .ok (.iaload, 1) := dG_dL_law_232.2.2.2.1
theorem dL_law_236 : decode cL_law 236 = .ok (.invokevirtual 27, 3) := dG_dL_law_232.2.2.2.2.1
theorem dL_law_239 : decode cL_law 239 = .ok (.pop, 1) := dG_dL_law_232.2.2.2.2.2.1
theorem dL_law_240 : decode cL_law 240 = .ok (.goto 840, 3) := dG_dL_law_232.2.2.2.2.2.2.1
theorem dL_law_243 : decode cL_law 243 = .ok (.aload_n 1, 1) := dG_dL_law_232.2.2.2.2.2.2.2.1
theorem dL_law_244 : decode cL_law 244 = .ok (.aload_n 0, 1) := dG_dL_law_232.2.2.2.2.2.2.2.2.1
theorem dL_law_245 : decode cL_law 245 = .ok (.iload_n 3, 1) := dG_dL_law_232.2.2.2.2.2.2.2.2.2.1
theorem dL_law_246 : decode cL_law 246 = .ok (.iconst 1, 1) := dG_dL_law_232.2.2.2.2.2.2.2.2.2.2.1
theorem dL_law_247 : decode cL_law 247 = .ok (.iadd, 1) := dG_dL_law_232.2.2.2.2.2.2.2.2.2.2.2
theorem dG_dL_law_248 : (decode cL_law 248 = .ok (.iaload, 1)) ∧ (decode cL_law 249 = .ok (.invokevirtual 28, 3)) ∧ (decode cL_law 252 = .ok (.pop, 1)) ∧ (decode cL_law 253 = .ok (.aload_n 2, 1)) ∧ (decode cL_law 254 = .ok (.aload_n 0, 1)) ∧ (decode cL_law 255 = .ok (.iload_n 3, 1)) ∧ (decode cL_law 256 = .ok (.iconst 1, 1)) ∧ (decode cL_law 257 = .ok (.iadd, 1)) ∧ (decode cL_law 258 = .ok (.iaload, 1)) ∧ (decode cL_law 259 = .ok (.invokevirtual 31, 3)) ∧ (decode cL_law 262 = .ok (.pop, 1)) ∧ (decode cL_law 263 = .ok (.goto 817, 3)) := by decide +kernel
theorem dL_law_248 : decode cL_law 248 = .ok (.iaload, 1) := dG_dL_law_248.1
theorem dL_law_249 : decode cL_law 249 = .ok (.invokevirtual 28, 3) := dG_dL_law_248.2.1
theorem dL_law_252 : decode cL_law 252 = .ok (.pop, 1) := dG_dL_law_248.2.2.1
theorem dL_law_253 : decode cL_law 253 = .ok (.aload_n 2, 1) := dG_dL_law_248.2.2.2.1
theorem dL_law_254 : decode cL_law 254 = .ok (.aload_n 0, 1) := dG_dL_law_248.2.2.2.2.1
theorem dL_law_255 : decode cL_law 255 = .ok (.iload_n 3, 1) := dG_dL_law_248.2.2.2.2.2.1
theorem dL_law_256 : decode cL_law 256 = .ok (.iconst 1, 1) := dG_dL_law_248.2.2.2.2.2.2.1
theorem dL_law_257 : decode cL_law 257 = .ok (.iadd, 1) := dG_dL_law_248.2.2.2.2.2.2.2.1
theorem dL_law_258 : decode cL_law 258 = .ok (.iaload, 1) := dG_dL_law_248.2.2.2.2.2.2.2.2.1
theorem dL_law_259 : decode cL_law 259 = .ok (.invokevirtual 31, 3) := dG_dL_law_248.2.2.2.2.2.2.2.2.2.1
theorem dL_law_262 : decode cL_law 262 = .ok (.pop, 1) := dG_dL_law_248.2.2.2.2.2.2.2.2.2.2.1
theorem dL_law_263 : decode cL_law 263 = .ok (.goto 817, 3) := dG_dL_law_248.2.2.2.2.2.2.2.2.2.2.2
theorem dG_dL_law_266 : (decode cL_law 266 = .ok (.aload_n 1, 1)) ∧ (decode cL_law 267 = .ok (.invokevirtual 32, 3)) ∧ (decode cL_law 270 = .ok (.pop, 1)) ∧ (decode cL_law 271 = .ok (.aload_n 2, 1)) ∧ (decode cL_law 272 = .ok (.invokevirtual 35, 3)) ∧ (decode cL_law 275 = .ok (.pop, 1)) ∧ (decode cL_law 276 = .ok (.goto 804, 3)) ∧ (decode cL_law 279 = .ok (.aload_n 1, 1)) ∧ (decode cL_law 280 = .ok (.aload_n 0, 1)) ∧ (decode cL_law 281 = .ok (.iload_n 3, 1)) ∧ (decode cL_law 282 = .ok (.iconst 1, 1)) ∧ (decode cL_law 283 = .ok (.iadd, 1)) := by decide +kernel
theorem dL_law_266 : decode cL_law 266 = .ok (.aload_n 1, 1) := dG_dL_law_266.1
theorem dL_law_267 : decode cL_law 267 = .ok (.invokevirtual 32, 3) := dG_dL_law_266.2.1
theorem dL_law_270 : decode cL_law 270 = .ok (.pop, 1) := dG_dL_law_266.2.2.1
theorem dL_law_271 : decode cL_law 271 = .ok (.aload_n 2, 1) := dG_dL_law_266.2.2.2.1
theorem dL_law_272 : decode cL_law 272 = .ok (.invokevirtual 35, 3) := dG_dL_law_266.2.2.2.2.1
theorem dL_law_275 : decode cL_law 275 = .ok (.pop, 1) := dG_dL_law_266.2.2.2.2.2.1
theorem dL_law_276 : decode cL_law 276 = .ok (.goto 804, 3) := dG_dL_law_266.2.2.2.2.2.2.1
theorem dL_law_279 : decode cL_law 279 = .ok (.aload_n 1, 1) := dG_dL_law_266.2.2.2.2.2.2.2.1
theorem dL_law_280 : decode cL_law 280 = .ok (.aload_n 0, 1) := dG_dL_law_266.2.2.2.2.2.2.2.2.1
theorem dL_law_281 : decode cL_law 281 = .ok (.iload_n 3, 1) := dG_dL_law_266.2.2.2.2.2.2.2.2.2.1
theorem dL_law_282 : decode cL_law 282 = .ok (.iconst 1, 1) := dG_dL_law_266.2.2.2.2.2.2.2.2.2.2.1
theorem dL_law_283 : decode cL_law 283 = .ok (.iadd, 1) := dG_dL_law_266.2.2.2.2.2.2.2.2.2.2.2
theorem dG_dL_law_284 : (decode cL_law 284 = .ok (.iaload, 1)) ∧ (decode cL_law 285 = .ok (.aload_n 0, 1)) ∧ (decode cL_law 286 = .ok (.iload_n 3, 1)) ∧ (decode cL_law 287 = .ok (.iconst 2, 1)) ∧ (decode cL_law 288 = .ok (.iadd, 1)) ∧ (decode cL_law 289 = .ok (.iaload, 1)) ∧ (decode cL_law 290 = .ok (.aload_n 0, 1)) ∧ (decode cL_law 291 = .ok (.iload_n 3, 1)) ∧ (decode cL_law 292 = .ok (.iconst 3, 1)) ∧ (decode cL_law 293 = .ok (.iadd, 1)) ∧ (decode cL_law 294 = .ok (.iaload, 1)) ∧ (decode cL_law 295 = .ok (.aload_n 0, 1)) := by decide +kernel
theorem dL_law_284 : decode cL_law 284 = .ok (.iaload, 1) := dG_dL_law_284.1
theorem dL_law_285 : decode cL_law 285 = .ok (.aload_n 0, 1) := dG_dL_law_284.2.1
theorem dL_law_286 : decode cL_law 286 = .ok (.iload_n 3, 1) := dG_dL_law_284.2.2.1
theorem dL_law_287 : decode cL_law 287 = .ok (.iconst 2, 1) := dG_dL_law_284.2.2.2.1
theorem dL_law_288 : decode cL_law 288 = .ok (.iadd, 1) := dG_dL_law_284.2.2.2.2.1
theorem dL_law_289 : decode cL_law 289 = .ok (.iaload, 1) := dG_dL_law_284.2.2.2.2.2.1
theorem dL_law_290 : decode cL_law 290 = .ok (.aload_n 0, 1) := dG_dL_law_284.2.2.2.2.2.2.1
theorem dL_law_291 : decode cL_law 291 = .ok (.iload_n 3, 1) := dG_dL_law_284.2.2.2.2.2.2.2.1
theorem dL_law_292 : decode cL_law 292 = .ok (.iconst 3, 1) := dG_dL_law_284.2.2.2.2.2.2.2.2.1
theorem dL_law_293 : decode cL_law 293 = .ok (.iadd, 1) := dG_dL_law_284.2.2.2.2.2.2.2.2.2.1
theorem dL_law_294 : decode cL_law 294 = .ok (.iaload, 1) := dG_dL_law_284.2.2.2.2.2.2.2.2.2.2.1
theorem dL_law_295 : decode cL_law 295 = .ok (.aload_n 0, 1) := dG_dL_law_284.2.2.2.2.2.2.2.2.2.2.2
theorem dG_dL_law_296 : (decode cL_law 296 = .ok (.iload_n 3, 1)) ∧ (decode cL_law 297 = .ok (.iconst 4, 1)) ∧ (decode cL_law 298 = .ok (.iadd, 1)) ∧ (decode cL_law 299 = .ok (.iaload, 1)) ∧ (decode cL_law 300 = .ok (.aload_n 0, 1)) ∧ (decode cL_law 301 = .ok (.iload_n 3, 1)) ∧ (decode cL_law 302 = .ok (.iconst 5, 1)) ∧ (decode cL_law 303 = .ok (.iadd, 1)) ∧ (decode cL_law 304 = .ok (.iaload, 1)) ∧ (decode cL_law 305 = .ok (.aload_n 0, 1)) ∧ (decode cL_law 306 = .ok (.iload_n 3, 1)) ∧ (decode cL_law 307 = .ok (.bipush 6, 2)) := by decide +kernel
theorem dL_law_296 : decode cL_law 296 = .ok (.iload_n 3, 1) := dG_dL_law_296.1
theorem dL_law_297 : decode cL_law 297 = .ok (.iconst 4, 1) := dG_dL_law_296.2.1
theorem dL_law_298 : decode cL_law 298 = .ok (.iadd, 1) := dG_dL_law_296.2.2.1
theorem dL_law_299 : decode cL_law 299 = .ok (.iaload, 1) := dG_dL_law_296.2.2.2.1
theorem dL_law_300 : decode cL_law 300 = .ok (.aload_n 0, 1) := dG_dL_law_296.2.2.2.2.1
theorem dL_law_301 : decode cL_law 301 = .ok (.iload_n 3, 1) := dG_dL_law_296.2.2.2.2.2.1
theorem dL_law_302 : decode cL_law 302 = .ok (.iconst 5, 1) := dG_dL_law_296.2.2.2.2.2.2.1
theorem dL_law_303 : decode cL_law 303 = .ok (.iadd, 1) := dG_dL_law_296.2.2.2.2.2.2.2.1
theorem dL_law_304 : decode cL_law 304 = .ok (.iaload, 1) := dG_dL_law_296.2.2.2.2.2.2.2.2.1
theorem dL_law_305 : decode cL_law 305 = .ok (.aload_n 0, 1) := dG_dL_law_296.2.2.2.2.2.2.2.2.2.1
theorem dL_law_306 : decode cL_law 306 = .ok (.iload_n 3, 1) := dG_dL_law_296.2.2.2.2.2.2.2.2.2.2.1
theorem dL_law_307 : decode cL_law 307 = .ok (.bipush 6, 2) := dG_dL_law_296.2.2.2.2.2.2.2.2.2.2.2
theorem dG_dL_law_309 : (decode cL_law 309 = .ok (.iadd, 1)) ∧ (decode cL_law 310 = .ok (.iaload, 1)) ∧ (decode cL_law 311 = .ok (.invokevirtual 36, 3)) ∧ (decode cL_law 314 = .ok (.pop, 1)) ∧ (decode cL_law 315 = .ok (.aload_n 2, 1)) ∧ (decode cL_law 316 = .ok (.aload_n 0, 1)) ∧ (decode cL_law 317 = .ok (.iload_n 3, 1)) ∧ (decode cL_law 318 = .ok (.iconst 1, 1)) ∧ (decode cL_law 319 = .ok (.iadd, 1)) ∧ (decode cL_law 320 = .ok (.iaload, 1)) ∧ (decode cL_law 321 = .ok (.aload_n 0, 1)) ∧ (decode cL_law 322 = .ok (.iload_n 3, 1)) := by decide +kernel
theorem dL_law_309 : decode cL_law 309 = .ok (.iadd, 1) := dG_dL_law_309.1
theorem dL_law_310 : decode cL_law 310 = .ok (.iaload, 1) := dG_dL_law_309.2.1
theorem dL_law_311 : decode cL_law 311 = .ok (.invokevirtual 36, 3) := dG_dL_law_309.2.2.1
theorem dL_law_314 : decode cL_law 314 = .ok (.pop, 1) := dG_dL_law_309.2.2.2.1
theorem dL_law_315 : decode cL_law 315 = .ok (.aload_n 2, 1) := dG_dL_law_309.2.2.2.2.1
theorem dL_law_316 : decode cL_law 316 = .ok (.aload_n 0, 1) := dG_dL_law_309.2.2.2.2.2.1
theorem dL_law_317 : decode cL_law 317 = .ok (.iload_n 3, 1) := dG_dL_law_309.2.2.2.2.2.2.1
theorem dL_law_318 : decode cL_law 318 = .ok (.iconst 1, 1) := dG_dL_law_309.2.2.2.2.2.2.2.1
theorem dL_law_319 : decode cL_law 319 = .ok (.iadd, 1) := dG_dL_law_309.2.2.2.2.2.2.2.2.1
theorem dL_law_320 : decode cL_law 320 = .ok (.iaload, 1) := dG_dL_law_309.2.2.2.2.2.2.2.2.2.1
theorem dL_law_321 : decode cL_law 321 = .ok (.aload_n 0, 1) := dG_dL_law_309.2.2.2.2.2.2.2.2.2.2.1
theorem dL_law_322 : decode cL_law 322 = .ok (.iload_n 3, 1) := dG_dL_law_309.2.2.2.2.2.2.2.2.2.2.2
theorem dG_dL_law_323 : (decode cL_law 323 = .ok (.iconst 2, 1)) ∧ (decode cL_law 324 = .ok (.iadd, 1)) ∧ (decode cL_law 325 = .ok (.iaload, 1)) ∧ (decode cL_law 326 = .ok (.aload_n 0, 1)) ∧ (decode cL_law 327 = .ok (.iload_n 3, 1)) ∧ (decode cL_law 328 = .ok (.iconst 3, 1)) ∧ (decode cL_law 329 = .ok (.iadd, 1)) ∧ (decode cL_law 330 = .ok (.iaload, 1)) ∧ (decode cL_law 331 = .ok (.aload_n 0, 1)) ∧ (decode cL_law 332 = .ok (.iload_n 3, 1)) ∧ (decode cL_law 333 = .ok (.iconst 4, 1)) ∧ (decode cL_law 334 = .ok (.iadd, 1)) := by decide +kernel
theorem dL_law_323 : decode cL_law 323 = .ok (.iconst 2, 1) := dG_dL_law_323.1
theorem dL_law_324 : decode cL_law 324 = .ok (.iadd, 1) := dG_dL_law_323.2.1
theorem dL_law_325 : decode cL_law 325 = .ok (.iaload, 1) := dG_dL_law_323.2.2.1
theorem dL_law_326 : decode cL_law 326 = .ok (.aload_n 0, 1) := dG_dL_law_323.2.2.2.1
theorem dL_law_327 : decode cL_law 327 = .ok (.iload_n 3, 1) := dG_dL_law_323.2.2.2.2.1
theorem dL_law_328 : decode cL_law 328 = .ok (.iconst 3, 1) := dG_dL_law_323.2.2.2.2.2.1
theorem dL_law_329 : decode cL_law 329 = .ok (.iadd, 1) := dG_dL_law_323.2.2.2.2.2.2.1
theorem dL_law_330 : decode cL_law 330 = .ok (.iaload, 1) := dG_dL_law_323.2.2.2.2.2.2.2.1
theorem dL_law_331 : decode cL_law 331 = .ok (.aload_n 0, 1) := dG_dL_law_323.2.2.2.2.2.2.2.2.1
theorem dL_law_332 : decode cL_law 332 = .ok (.iload_n 3, 1) := dG_dL_law_323.2.2.2.2.2.2.2.2.2.1
theorem dL_law_333 : decode cL_law 333 = .ok (.iconst 4, 1) := dG_dL_law_323.2.2.2.2.2.2.2.2.2.2.1
theorem dL_law_334 : decode cL_law 334 = .ok (.iadd, 1) := dG_dL_law_323.2.2.2.2.2.2.2.2.2.2.2
theorem dG_dL_law_335 : (decode cL_law 335 = .ok (.iaload, 1)) ∧ (decode cL_law 336 = .ok (.aload_n 0, 1)) ∧ (decode cL_law 337 = .ok (.iload_n 3, 1)) ∧ (decode cL_law 338 = .ok (.iconst 5, 1)) ∧ (decode cL_law 339 = .ok (.iadd, 1)) ∧ (decode cL_law 340 = .ok (.iaload, 1)) ∧ (decode cL_law 341 = .ok (.aload_n 0, 1)) ∧ (decode cL_law 342 = .ok (.iload_n 3, 1)) ∧ (decode cL_law 343 = .ok (.bipush 6, 2)) ∧ (decode cL_law 345 = .ok (.iadd, 1)) ∧ (decode cL_law 346 = .ok (.iaload, 1)) ∧ (decode cL_law 347 = .ok (.invokevirtual 40, 3)) := by decide +kernel
theorem dL_law_335 : decode cL_law 335 = .ok (.iaload, 1) := dG_dL_law_335.1
theorem dL_law_336 : decode cL_law 336 = .ok (.aload_n 0, 1) := dG_dL_law_335.2.1
theorem dL_law_337 : decode cL_law 337 = .ok (.iload_n 3, 1) := dG_dL_law_335.2.2.1
theorem dL_law_338 : decode cL_law 338 = .ok (.iconst 5, 1) := dG_dL_law_335.2.2.2.1
theorem dL_law_339 : decode cL_law 339 = .ok (.iadd, 1) := dG_dL_law_335.2.2.2.2.1
theorem dL_law_340 : decode cL_law 340 = .ok (.iaload, 1) := dG_dL_law_335.2.2.2.2.2.1
theorem dL_law_341 : decode cL_law 341 = .ok (.aload_n 0, 1) := dG_dL_law_335.2.2.2.2.2.2.1
theorem dL_law_342 : decode cL_law 342 = .ok (.iload_n 3, 1) := dG_dL_law_335.2.2.2.2.2.2.2.1
theorem dL_law_343 : decode cL_law 343 = .ok (.bipush 6, 2) := dG_dL_law_335.2.2.2.2.2.2.2.2.1
theorem dL_law_345 : decode cL_law 345 = .ok (.iadd, 1) := dG_dL_law_335.2.2.2.2.2.2.2.2.2.1
theorem dL_law_346 : decode cL_law 346 = .ok (.iaload, 1) := dG_dL_law_335.2.2.2.2.2.2.2.2.2.2.1
theorem dL_law_347 : decode cL_law 347 = .ok (.invokevirtual 40, 3) := dG_dL_law_335.2.2.2.2.2.2.2.2.2.2.2
theorem dG_dL_law_350 : (decode cL_law 350 = .ok (.pop, 1)) ∧ (decode cL_law 351 = .ok (.goto 729, 3)) ∧ (decode cL_law 354 = .ok (.aload_n 1, 1)) ∧ (decode cL_law 355 = .ok (.aload_n 0, 1)) ∧ (decode cL_law 356 = .ok (.iload_n 3, 1)) ∧ (decode cL_law 357 = .ok (.iconst 1, 1)) ∧ (decode cL_law 358 = .ok (.iadd, 1)) ∧ (decode cL_law 359 = .ok (.iaload, 1)) ∧ (decode cL_law 360 = .ok (.aload_n 0, 1)) ∧ (decode cL_law 361 = .ok (.iload_n 3, 1)) ∧ (decode cL_law 362 = .ok (.iconst 2, 1)) ∧ (decode cL_law 363 = .ok (.iadd, 1)) := by decide +kernel
theorem dL_law_350 : decode cL_law 350 = .ok (.pop, 1) := dG_dL_law_350.1
theorem dL_law_351 : decode cL_law 351 = .ok (.goto 729, 3) := dG_dL_law_350.2.1
theorem dL_law_354 : decode cL_law 354 = .ok (.aload_n 1, 1) := dG_dL_law_350.2.2.1
theorem dL_law_355 : decode cL_law 355 = .ok (.aload_n 0, 1) := dG_dL_law_350.2.2.2.1
theorem dL_law_356 : decode cL_law 356 = .ok (.iload_n 3, 1) := dG_dL_law_350.2.2.2.2.1
theorem dL_law_357 : decode cL_law 357 = .ok (.iconst 1, 1) := dG_dL_law_350.2.2.2.2.2.1
theorem dL_law_358 : decode cL_law 358 = .ok (.iadd, 1) := dG_dL_law_350.2.2.2.2.2.2.1
theorem dL_law_359 : decode cL_law 359 = .ok (.iaload, 1) := dG_dL_law_350.2.2.2.2.2.2.2.1
theorem dL_law_360 : decode cL_law 360 = .ok (.aload_n 0, 1) := dG_dL_law_350.2.2.2.2.2.2.2.2.1
theorem dL_law_361 : decode cL_law 361 = .ok (.iload_n 3, 1) := dG_dL_law_350.2.2.2.2.2.2.2.2.2.1
theorem dL_law_362 : decode cL_law 362 = .ok (.iconst 2, 1) := dG_dL_law_350.2.2.2.2.2.2.2.2.2.2.1
theorem dL_law_363 : decode cL_law 363 = .ok (.iadd, 1) := dG_dL_law_350.2.2.2.2.2.2.2.2.2.2.2
theorem dG_dL_law_364 : (decode cL_law 364 = .ok (.iaload, 1)) ∧ (decode cL_law 365 = .ok (.aload_n 0, 1)) ∧ (decode cL_law 366 = .ok (.iload_n 3, 1)) ∧ (decode cL_law 367 = .ok (.iconst 3, 1)) ∧ (decode cL_law 368 = .ok (.iadd, 1)) ∧ (decode cL_law 369 = .ok (.iaload, 1)) ∧ (decode cL_law 370 = .ok (.invokevirtual 41, 3)) ∧ (decode cL_law 373 = .ok (.pop, 1)) ∧ (decode cL_law 374 = .ok (.aload_n 2, 1)) ∧ (decode cL_law 375 = .ok (.aload_n 0, 1)) ∧ (decode cL_law 376 = .ok (.iload_n 3, 1)) ∧ (decode cL_law 377 = .ok (.iconst 1, 1)) := by decide +kernel
theorem dL_law_364 : decode cL_law 364 = .ok (.iaload, 1) := dG_dL_law_364.1
theorem dL_law_365 : decode cL_law 365 = .ok (.aload_n 0, 1) := dG_dL_law_364.2.1
theorem dL_law_366 : decode cL_law 366 = .ok (.iload_n 3, 1) := dG_dL_law_364.2.2.1
theorem dL_law_367 : decode cL_law 367 = .ok (.iconst 3, 1) := dG_dL_law_364.2.2.2.1
theorem dL_law_368 : decode cL_law 368 = .ok (.iadd, 1) := dG_dL_law_364.2.2.2.2.1
theorem dL_law_369 : decode cL_law 369 = .ok (.iaload, 1) := dG_dL_law_364.2.2.2.2.2.1
theorem dL_law_370 : decode cL_law 370 = .ok (.invokevirtual 41, 3) := dG_dL_law_364.2.2.2.2.2.2.1
theorem dL_law_373 : decode cL_law 373 = .ok (.pop, 1) := dG_dL_law_364.2.2.2.2.2.2.2.1
theorem dL_law_374 : decode cL_law 374 = .ok (.aload_n 2, 1) := dG_dL_law_364.2.2.2.2.2.2.2.2.1
theorem dL_law_375 : decode cL_law 375 = .ok (.aload_n 0, 1) := dG_dL_law_364.2.2.2.2.2.2.2.2.2.1
theorem dL_law_376 : decode cL_law 376 = .ok (.iload_n 3, 1) := dG_dL_law_364.2.2.2.2.2.2.2.2.2.2.1
theorem dL_law_377 : decode cL_law 377 = .ok (.iconst 1, 1) := dG_dL_law_364.2.2.2.2.2.2.2.2.2.2.2
theorem dG_dL_law_378 : (decode cL_law 378 = .ok (.iadd, 1)) ∧ (decode cL_law 379 = .ok (.iaload, 1)) ∧ (decode cL_law 380 = .ok (.aload_n 0, 1)) ∧ (decode cL_law 381 = .ok (.iload_n 3, 1)) ∧ (decode cL_law 382 = .ok (.iconst 2, 1)) ∧ (decode cL_law 383 = .ok (.iadd, 1)) ∧ (decode cL_law 384 = .ok (.iaload, 1)) ∧ (decode cL_law 385 = .ok (.aload_n 0, 1)) ∧ (decode cL_law 386 = .ok (.iload_n 3, 1)) ∧ (decode cL_law 387 = .ok (.iconst 3, 1)) ∧ (decode cL_law 388 = .ok (.iadd, 1)) ∧ (decode cL_law 389 = .ok (.iaload, 1)) := by decide +kernel
theorem dL_law_378 : decode cL_law 378 = .ok (.iadd, 1) := dG_dL_law_378.1
theorem dL_law_379 : decode cL_law 379 = .ok (.iaload, 1) := dG_dL_law_378.2.1
theorem dL_law_380 : decode cL_law 380 = .ok (.aload_n 0, 1) := dG_dL_law_378.2.2.1
theorem dL_law_381 : decode cL_law 381 = .ok (.iload_n 3, 1) := dG_dL_law_378.2.2.2.1
theorem dL_law_382 : decode cL_law 382 = .ok (.iconst 2, 1) := dG_dL_law_378.2.2.2.2.1
theorem dL_law_383 : decode cL_law 383 = .ok (.iadd, 1) := dG_dL_law_378.2.2.2.2.2.1
theorem dL_law_384 : decode cL_law 384 = .ok (.iaload, 1) := dG_dL_law_378.2.2.2.2.2.2.1
theorem dL_law_385 : decode cL_law 385 = .ok (.aload_n 0, 1) := dG_dL_law_378.2.2.2.2.2.2.2.1
theorem dL_law_386 : decode cL_law 386 = .ok (.iload_n 3, 1) := dG_dL_law_378.2.2.2.2.2.2.2.2.1
theorem dL_law_387 : decode cL_law 387 = .ok (.iconst 3, 1) := dG_dL_law_378.2.2.2.2.2.2.2.2.2.1
theorem dL_law_388 : decode cL_law 388 = .ok (.iadd, 1) := dG_dL_law_378.2.2.2.2.2.2.2.2.2.2.1
theorem dL_law_389 : decode cL_law 389 = .ok (.iaload, 1) := dG_dL_law_378.2.2.2.2.2.2.2.2.2.2.2
theorem dG_dL_law_390 : (decode cL_law 390 = .ok (.invokevirtual 45, 3)) ∧ (decode cL_law 393 = .ok (.pop, 1)) ∧ (decode cL_law 394 = .ok (.goto 686, 3)) ∧ (decode cL_law 397 = .ok (.aload_n 1, 1)) ∧ (decode cL_law 398 = .ok (.aload_n 0, 1)) ∧ (decode cL_law 399 = .ok (.iload_n 3, 1)) ∧ (decode cL_law 400 = .ok (.iconst 1, 1)) ∧ (decode cL_law 401 = .ok (.iadd, 1)) ∧ (decode cL_law 402 = .ok (.iaload, 1)) ∧ (decode cL_law 403 = .ok (.aload_n 0, 1)) ∧ (decode cL_law 404 = .ok (.iload_n 3, 1)) ∧ (decode cL_law 405 = .ok (.iconst 2, 1)) := by decide +kernel
theorem dL_law_390 : decode cL_law 390 = .ok (.invokevirtual 45, 3) := dG_dL_law_390.1
theorem dL_law_393 : decode cL_law 393 = .ok (.pop, 1) := dG_dL_law_390.2.1
theorem dL_law_394 : decode cL_law 394 = .ok (.goto 686, 3) := dG_dL_law_390.2.2.1
theorem dL_law_397 : decode cL_law 397 = .ok (.aload_n 1, 1) := dG_dL_law_390.2.2.2.1
theorem dL_law_398 : decode cL_law 398 = .ok (.aload_n 0, 1) := dG_dL_law_390.2.2.2.2.1
theorem dL_law_399 : decode cL_law 399 = .ok (.iload_n 3, 1) := dG_dL_law_390.2.2.2.2.2.1
theorem dL_law_400 : decode cL_law 400 = .ok (.iconst 1, 1) := dG_dL_law_390.2.2.2.2.2.2.1
theorem dL_law_401 : decode cL_law 401 = .ok (.iadd, 1) := dG_dL_law_390.2.2.2.2.2.2.2.1
theorem dL_law_402 : decode cL_law 402 = .ok (.iaload, 1) := dG_dL_law_390.2.2.2.2.2.2.2.2.1
theorem dL_law_403 : decode cL_law 403 = .ok (.aload_n 0, 1) := dG_dL_law_390.2.2.2.2.2.2.2.2.2.1
theorem dL_law_404 : decode cL_law 404 = .ok (.iload_n 3, 1) := dG_dL_law_390.2.2.2.2.2.2.2.2.2.2.1
theorem dL_law_405 : decode cL_law 405 = .ok (.iconst 2, 1) := dG_dL_law_390.2.2.2.2.2.2.2.2.2.2.2
theorem dG_dL_law_406 : (decode cL_law 406 = .ok (.iadd, 1)) ∧ (decode cL_law 407 = .ok (.iaload, 1)) ∧ (decode cL_law 408 = .ok (.aload_n 0, 1)) ∧ (decode cL_law 409 = .ok (.iload_n 3, 1)) ∧ (decode cL_law 410 = .ok (.iconst 3, 1)) ∧ (decode cL_law 411 = .ok (.iadd, 1)) ∧ (decode cL_law 412 = .ok (.iaload, 1)) ∧ (decode cL_law 413 = .ok (.invokevirtual 46, 3)) ∧ (decode cL_law 416 = .ok (.pop, 1)) ∧ (decode cL_law 417 = .ok (.aload_n 2, 1)) ∧ (decode cL_law 418 = .ok (.aload_n 0, 1)) ∧ (decode cL_law 419 = .ok (.iload_n 3, 1)) := by decide +kernel
theorem dL_law_406 : decode cL_law 406 = .ok (.iadd, 1) := dG_dL_law_406.1
theorem dL_law_407 : decode cL_law 407 = .ok (.iaload, 1) := dG_dL_law_406.2.1
theorem dL_law_408 : decode cL_law 408 = .ok (.aload_n 0, 1) := dG_dL_law_406.2.2.1
theorem dL_law_409 : decode cL_law 409 = .ok (.iload_n 3, 1) := dG_dL_law_406.2.2.2.1
theorem dL_law_410 : decode cL_law 410 = .ok (.iconst 3, 1) := dG_dL_law_406.2.2.2.2.1
theorem dL_law_411 : decode cL_law 411 = .ok (.iadd, 1) := dG_dL_law_406.2.2.2.2.2.1
theorem dL_law_412 : decode cL_law 412 = .ok (.iaload, 1) := dG_dL_law_406.2.2.2.2.2.2.1
theorem dL_law_413 : decode cL_law 413 = .ok (.invokevirtual 46, 3) := dG_dL_law_406.2.2.2.2.2.2.2.1
theorem dL_law_416 : decode cL_law 416 = .ok (.pop, 1) := dG_dL_law_406.2.2.2.2.2.2.2.2.1
theorem dL_law_417 : decode cL_law 417 = .ok (.aload_n 2, 1) := dG_dL_law_406.2.2.2.2.2.2.2.2.2.1
theorem dL_law_418 : decode cL_law 418 = .ok (.aload_n 0, 1) := dG_dL_law_406.2.2.2.2.2.2.2.2.2.2.1
theorem dL_law_419 : decode cL_law 419 = .ok (.iload_n 3, 1) := dG_dL_law_406.2.2.2.2.2.2.2.2.2.2.2
theorem dG_dL_law_420 : (decode cL_law 420 = .ok (.iconst 1, 1)) ∧ (decode cL_law 421 = .ok (.iadd, 1)) ∧ (decode cL_law 422 = .ok (.iaload, 1)) ∧ (decode cL_law 423 = .ok (.aload_n 0, 1)) ∧ (decode cL_law 424 = .ok (.iload_n 3, 1)) ∧ (decode cL_law 425 = .ok (.iconst 2, 1)) ∧ (decode cL_law 426 = .ok (.iadd, 1)) ∧ (decode cL_law 427 = .ok (.iaload, 1)) ∧ (decode cL_law 428 = .ok (.aload_n 0, 1)) ∧ (decode cL_law 429 = .ok (.iload_n 3, 1)) ∧ (decode cL_law 430 = .ok (.iconst 3, 1)) ∧ (decode cL_law 431 = .ok (.iadd, 1)) := by decide +kernel
theorem dL_law_420 : decode cL_law 420 = .ok (.iconst 1, 1) := dG_dL_law_420.1
theorem dL_law_421 : decode cL_law 421 = .ok (.iadd, 1) := dG_dL_law_420.2.1
theorem dL_law_422 : decode cL_law 422 = .ok (.iaload, 1) := dG_dL_law_420.2.2.1
theorem dL_law_423 : decode cL_law 423 = .ok (.aload_n 0, 1) := dG_dL_law_420.2.2.2.1
theorem dL_law_424 : decode cL_law 424 = .ok (.iload_n 3, 1) := dG_dL_law_420.2.2.2.2.1
theorem dL_law_425 : decode cL_law 425 = .ok (.iconst 2, 1) := dG_dL_law_420.2.2.2.2.2.1
theorem dL_law_426 : decode cL_law 426 = .ok (.iadd, 1) := dG_dL_law_420.2.2.2.2.2.2.1
theorem dL_law_427 : decode cL_law 427 = .ok (.iaload, 1) := dG_dL_law_420.2.2.2.2.2.2.2.1
theorem dL_law_428 : decode cL_law 428 = .ok (.aload_n 0, 1) := dG_dL_law_420.2.2.2.2.2.2.2.2.1
theorem dL_law_429 : decode cL_law 429 = .ok (.iload_n 3, 1) := dG_dL_law_420.2.2.2.2.2.2.2.2.2.1
theorem dL_law_430 : decode cL_law 430 = .ok (.iconst 3, 1) := dG_dL_law_420.2.2.2.2.2.2.2.2.2.2.1
theorem dL_law_431 : decode cL_law 431 = .ok (.iadd, 1) := dG_dL_law_420.2.2.2.2.2.2.2.2.2.2.2
theorem dG_dL_law_432 : (decode cL_law 432 = .ok (.iaload, 1)) ∧ (decode cL_law 433 = .ok (.invokevirtual 49, 3)) ∧ (decode cL_law 436 = .ok (.pop, 1)) ∧ (decode cL_law 437 = .ok (.goto 643, 3)) ∧ (decode cL_law 440 = .ok (.aload_n 1, 1)) ∧ (decode cL_law 441 = .ok (.aload_n 0, 1)) ∧ (decode cL_law 442 = .ok (.iload_n 3, 1)) ∧ (decode cL_law 443 = .ok (.iconst 1, 1)) ∧ (decode cL_law 444 = .ok (.iadd, 1)) ∧ (decode cL_law 445 = .ok (.iaload, 1)) ∧ (decode cL_law 446 = .ok (.aload_n 0, 1)) ∧ (decode cL_law 447 = .ok (.iload_n 3, 1)) := by decide +kernel
theorem dL_law_432 : decode cL_law 432 = .ok (.iaload, 1) := dG_dL_law_432.1
theorem dL_law_433 : decode cL_law 433 = .ok (.invokevirtual 49, 3) := dG_dL_law_432.2.1
theorem dL_law_436 : decode cL_law 436 = .ok (.pop, 1) := dG_dL_law_432.2.2.1
theorem dL_law_437 : decode cL_law 437 = .ok (.goto 643, 3) := dG_dL_law_432.2.2.2.1
theorem dL_law_440 : decode cL_law 440 = .ok (.aload_n 1, 1) := dG_dL_law_432.2.2.2.2.1
theorem dL_law_441 : decode cL_law 441 = .ok (.aload_n 0, 1) := dG_dL_law_432.2.2.2.2.2.1
theorem dL_law_442 : decode cL_law 442 = .ok (.iload_n 3, 1) := dG_dL_law_432.2.2.2.2.2.2.1
theorem dL_law_443 : decode cL_law 443 = .ok (.iconst 1, 1) := dG_dL_law_432.2.2.2.2.2.2.2.1
theorem dL_law_444 : decode cL_law 444 = .ok (.iadd, 1) := dG_dL_law_432.2.2.2.2.2.2.2.2.1
theorem dL_law_445 : decode cL_law 445 = .ok (.iaload, 1) := dG_dL_law_432.2.2.2.2.2.2.2.2.2.1
theorem dL_law_446 : decode cL_law 446 = .ok (.aload_n 0, 1) := dG_dL_law_432.2.2.2.2.2.2.2.2.2.2.1
theorem dL_law_447 : decode cL_law 447 = .ok (.iload_n 3, 1) := dG_dL_law_432.2.2.2.2.2.2.2.2.2.2.2
theorem dG_dL_law_448 : (decode cL_law 448 = .ok (.iconst 2, 1)) ∧ (decode cL_law 449 = .ok (.iadd, 1)) ∧ (decode cL_law 450 = .ok (.iaload, 1)) ∧ (decode cL_law 451 = .ok (.aload_n 0, 1)) ∧ (decode cL_law 452 = .ok (.iload_n 3, 1)) ∧ (decode cL_law 453 = .ok (.iconst 3, 1)) ∧ (decode cL_law 454 = .ok (.iadd, 1)) ∧ (decode cL_law 455 = .ok (.iaload, 1)) ∧ (decode cL_law 456 = .ok (.invokevirtual 50, 3)) ∧ (decode cL_law 459 = .ok (.pop, 1)) ∧ (decode cL_law 460 = .ok (.aload_n 2, 1)) ∧ (decode cL_law 461 = .ok (.aload_n 0, 1)) := by decide +kernel
theorem dL_law_448 : decode cL_law 448 = .ok (.iconst 2, 1) := dG_dL_law_448.1
theorem dL_law_449 : decode cL_law 449 = .ok (.iadd, 1) := dG_dL_law_448.2.1
theorem dL_law_450 : decode cL_law 450 = .ok (.iaload, 1) := dG_dL_law_448.2.2.1
theorem dL_law_451 : decode cL_law 451 = .ok (.aload_n 0, 1) := dG_dL_law_448.2.2.2.1
theorem dL_law_452 : decode cL_law 452 = .ok (.iload_n 3, 1) := dG_dL_law_448.2.2.2.2.1
theorem dL_law_453 : decode cL_law 453 = .ok (.iconst 3, 1) := dG_dL_law_448.2.2.2.2.2.1
theorem dL_law_454 : decode cL_law 454 = .ok (.iadd, 1) := dG_dL_law_448.2.2.2.2.2.2.1
theorem dL_law_455 : decode cL_law 455 = .ok (.iaload, 1) := dG_dL_law_448.2.2.2.2.2.2.2.1
theorem dL_law_456 : decode cL_law 456 = .ok (.invokevirtual 50, 3) := dG_dL_law_448.2.2.2.2.2.2.2.2.1
theorem dL_law_459 : decode cL_law 459 = .ok (.pop, 1) := dG_dL_law_448.2.2.2.2.2.2.2.2.2.1
theorem dL_law_460 : decode cL_law 460 = .ok (.aload_n 2, 1) := dG_dL_law_448.2.2.2.2.2.2.2.2.2.2.1
theorem dL_law_461 : decode cL_law 461 = .ok (.aload_n 0, 1) := dG_dL_law_448.2.2.2.2.2.2.2.2.2.2.2
theorem dG_dL_law_462 : (decode cL_law 462 = .ok (.iload_n 3, 1)) ∧ (decode cL_law 463 = .ok (.iconst 1, 1)) ∧ (decode cL_law 464 = .ok (.iadd, 1)) ∧ (decode cL_law 465 = .ok (.iaload, 1)) ∧ (decode cL_law 466 = .ok (.aload_n 0, 1)) ∧ (decode cL_law 467 = .ok (.iload_n 3, 1)) ∧ (decode cL_law 468 = .ok (.iconst 2, 1)) ∧ (decode cL_law 469 = .ok (.iadd, 1)) ∧ (decode cL_law 470 = .ok (.iaload, 1)) ∧ (decode cL_law 471 = .ok (.aload_n 0, 1)) ∧ (decode cL_law 472 = .ok (.iload_n 3, 1)) ∧ (decode cL_law 473 = .ok (.iconst 3, 1)) := by decide +kernel
theorem dL_law_462 : decode cL_law 462 = .ok (.iload_n 3, 1) := dG_dL_law_462.1
theorem dL_law_463 : decode cL_law 463 = .ok (.iconst 1, 1) := dG_dL_law_462.2.1
theorem dL_law_464 : decode cL_law 464 = .ok (.iadd, 1) := dG_dL_law_462.2.2.1
theorem dL_law_465 : decode cL_law 465 = .ok (.iaload, 1) := dG_dL_law_462.2.2.2.1
theorem dL_law_466 : decode cL_law 466 = .ok (.aload_n 0, 1) := dG_dL_law_462.2.2.2.2.1
theorem dL_law_467 : decode cL_law 467 = .ok (.iload_n 3, 1) := dG_dL_law_462.2.2.2.2.2.1
theorem dL_law_468 : decode cL_law 468 = .ok (.iconst 2, 1) := dG_dL_law_462.2.2.2.2.2.2.1
theorem dL_law_469 : decode cL_law 469 = .ok (.iadd, 1) := dG_dL_law_462.2.2.2.2.2.2.2.1
theorem dL_law_470 : decode cL_law 470 = .ok (.iaload, 1) := dG_dL_law_462.2.2.2.2.2.2.2.2.1
theorem dL_law_471 : decode cL_law 471 = .ok (.aload_n 0, 1) := dG_dL_law_462.2.2.2.2.2.2.2.2.2.1
theorem dL_law_472 : decode cL_law 472 = .ok (.iload_n 3, 1) := dG_dL_law_462.2.2.2.2.2.2.2.2.2.2.1
theorem dL_law_473 : decode cL_law 473 = .ok (.iconst 3, 1) := dG_dL_law_462.2.2.2.2.2.2.2.2.2.2.2
theorem dG_dL_law_474 : (decode cL_law 474 = .ok (.iadd, 1)) ∧ (decode cL_law 475 = .ok (.iaload, 1)) ∧ (decode cL_law 476 = .ok (.invokevirtual 53, 3)) ∧ (decode cL_law 479 = .ok (.pop, 1)) ∧ (decode cL_law 480 = .ok (.goto 600, 3)) ∧ (decode cL_law 483 = .ok (.aload_n 1, 1)) ∧ (decode cL_law 484 = .ok (.aload_n 0, 1)) ∧ (decode cL_law 485 = .ok (.iload_n 3, 1)) ∧ (decode cL_law 486 = .ok (.iconst 1, 1)) ∧ (decode cL_law 487 = .ok (.iadd, 1)) ∧ (decode cL_law 488 = .ok (.iaload, 1)) ∧ (decode cL_law 489 = .ok (.aload_n 0, 1)) := by decide +kernel
theorem dL_law_474 : decode cL_law 474 = .ok (.iadd, 1) := dG_dL_law_474.1
theorem dL_law_475 : decode cL_law 475 = .ok (.iaload, 1) := dG_dL_law_474.2.1
theorem dL_law_476 : decode cL_law 476 = .ok (.invokevirtual 53, 3) := dG_dL_law_474.2.2.1
theorem dL_law_479 : decode cL_law 479 = .ok (.pop, 1) := dG_dL_law_474.2.2.2.1
theorem dL_law_480 : decode cL_law 480 = .ok (.goto 600, 3) := dG_dL_law_474.2.2.2.2.1
theorem dL_law_483 : decode cL_law 483 = .ok (.aload_n 1, 1) := dG_dL_law_474.2.2.2.2.2.1
theorem dL_law_484 : decode cL_law 484 = .ok (.aload_n 0, 1) := dG_dL_law_474.2.2.2.2.2.2.1
theorem dL_law_485 : decode cL_law 485 = .ok (.iload_n 3, 1) := dG_dL_law_474.2.2.2.2.2.2.2.1
theorem dL_law_486 : decode cL_law 486 = .ok (.iconst 1, 1) := dG_dL_law_474.2.2.2.2.2.2.2.2.1
theorem dL_law_487 : decode cL_law 487 = .ok (.iadd, 1) := dG_dL_law_474.2.2.2.2.2.2.2.2.2.1
theorem dL_law_488 : decode cL_law 488 = .ok (.iaload, 1) := dG_dL_law_474.2.2.2.2.2.2.2.2.2.2.1
theorem dL_law_489 : decode cL_law 489 = .ok (.aload_n 0, 1) := dG_dL_law_474.2.2.2.2.2.2.2.2.2.2.2
theorem dG_dL_law_490 : (decode cL_law 490 = .ok (.iload_n 3, 1)) ∧ (decode cL_law 491 = .ok (.iconst 2, 1)) ∧ (decode cL_law 492 = .ok (.iadd, 1)) ∧ (decode cL_law 493 = .ok (.iaload, 1)) ∧ (decode cL_law 494 = .ok (.aload_n 0, 1)) ∧ (decode cL_law 495 = .ok (.iload_n 3, 1)) ∧ (decode cL_law 496 = .ok (.iconst 3, 1)) ∧ (decode cL_law 497 = .ok (.iadd, 1)) ∧ (decode cL_law 498 = .ok (.iaload, 1)) ∧ (decode cL_law 499 = .ok (.ifCond .eq 7, 3)) ∧ (decode cL_law 502 = .ok (.iconst 1, 1)) ∧ (decode cL_law 503 = .ok (.goto 4, 3)) := by decide +kernel
theorem dL_law_490 : decode cL_law 490 = .ok (.iload_n 3, 1) := dG_dL_law_490.1
theorem dL_law_491 : decode cL_law 491 = .ok (.iconst 2, 1) := dG_dL_law_490.2.1
theorem dL_law_492 : decode cL_law 492 = .ok (.iadd, 1) := dG_dL_law_490.2.2.1
theorem dL_law_493 : decode cL_law 493 = .ok (.iaload, 1) := dG_dL_law_490.2.2.2.1
theorem dL_law_494 : decode cL_law 494 = .ok (.aload_n 0, 1) := dG_dL_law_490.2.2.2.2.1
theorem dL_law_495 : decode cL_law 495 = .ok (.iload_n 3, 1) := dG_dL_law_490.2.2.2.2.2.1
theorem dL_law_496 : decode cL_law 496 = .ok (.iconst 3, 1) := dG_dL_law_490.2.2.2.2.2.2.1
theorem dL_law_497 : decode cL_law 497 = .ok (.iadd, 1) := dG_dL_law_490.2.2.2.2.2.2.2.1
theorem dL_law_498 : decode cL_law 498 = .ok (.iaload, 1) := dG_dL_law_490.2.2.2.2.2.2.2.2.1
theorem dL_law_499 : decode cL_law 499 = .ok (.ifCond .eq 7, 3) := dG_dL_law_490.2.2.2.2.2.2.2.2.2.1
theorem dL_law_502 : decode cL_law 502 = .ok (.iconst 1, 1) := dG_dL_law_490.2.2.2.2.2.2.2.2.2.2.1
theorem dL_law_503 : decode cL_law 503 = .ok (.goto 4, 3) := dG_dL_law_490.2.2.2.2.2.2.2.2.2.2.2
theorem dG_dL_law_506 : (decode cL_law 506 = .ok (.iconst 0, 1)) ∧ (decode cL_law 507 = .ok (.invokevirtual 54, 3)) ∧ (decode cL_law 510 = .ok (.pop, 1)) ∧ (decode cL_law 511 = .ok (.aload_n 2, 1)) ∧ (decode cL_law 512 = .ok (.aload_n 0, 1)) ∧ (decode cL_law 513 = .ok (.iload_n 3, 1)) ∧ (decode cL_law 514 = .ok (.iconst 1, 1)) ∧ (decode cL_law 515 = .ok (.iadd, 1)) ∧ (decode cL_law 516 = .ok (.iaload, 1)) ∧ (decode cL_law 517 = .ok (.aload_n 0, 1)) ∧ (decode cL_law 518 = .ok (.iload_n 3, 1)) ∧ (decode cL_law 519 = .ok (.iconst 2, 1)) := by decide +kernel
theorem dL_law_506 : decode cL_law 506 = .ok (.iconst 0, 1) := dG_dL_law_506.1
theorem dL_law_507 : decode cL_law 507 = .ok (.invokevirtual 54, 3) := dG_dL_law_506.2.1
theorem dL_law_510 : decode cL_law 510 = .ok (.pop, 1) := dG_dL_law_506.2.2.1
theorem dL_law_511 : decode cL_law 511 = .ok (.aload_n 2, 1) := dG_dL_law_506.2.2.2.1
theorem dL_law_512 : decode cL_law 512 = .ok (.aload_n 0, 1) := dG_dL_law_506.2.2.2.2.1
theorem dL_law_513 : decode cL_law 513 = .ok (.iload_n 3, 1) := dG_dL_law_506.2.2.2.2.2.1
theorem dL_law_514 : decode cL_law 514 = .ok (.iconst 1, 1) := dG_dL_law_506.2.2.2.2.2.2.1
theorem dL_law_515 : decode cL_law 515 = .ok (.iadd, 1) := dG_dL_law_506.2.2.2.2.2.2.2.1
theorem dL_law_516 : decode cL_law 516 = .ok (.iaload, 1) := dG_dL_law_506.2.2.2.2.2.2.2.2.1
theorem dL_law_517 : decode cL_law 517 = .ok (.aload_n 0, 1) := dG_dL_law_506.2.2.2.2.2.2.2.2.2.1
theorem dL_law_518 : decode cL_law 518 = .ok (.iload_n 3, 1) := dG_dL_law_506.2.2.2.2.2.2.2.2.2.2.1
theorem dL_law_519 : decode cL_law 519 = .ok (.iconst 2, 1) := dG_dL_law_506.2.2.2.2.2.2.2.2.2.2.2
theorem dG_dL_law_520 : (decode cL_law 520 = .ok (.iadd, 1)) ∧ (decode cL_law 521 = .ok (.iaload, 1)) ∧ (decode cL_law 522 = .ok (.aload_n 0, 1)) ∧ (decode cL_law 523 = .ok (.iload_n 3, 1)) ∧ (decode cL_law 524 = .ok (.iconst 3, 1)) ∧ (decode cL_law 525 = .ok (.iadd, 1)) ∧ (decode cL_law 526 = .ok (.iaload, 1)) ∧ (decode cL_law 527 = .ok (.ifCond .eq 7, 3)) ∧ (decode cL_law 530 = .ok (.iconst 1, 1)) ∧ (decode cL_law 531 = .ok (.goto 4, 3)) ∧ (decode cL_law 534 = .ok (.iconst 0, 1)) ∧ (decode cL_law 535 = .ok (.invokevirtual 58, 3)) := by decide +kernel
theorem dL_law_520 : decode cL_law 520 = .ok (.iadd, 1) := dG_dL_law_520.1
theorem dL_law_521 : decode cL_law 521 = .ok (.iaload, 1) := dG_dL_law_520.2.1
theorem dL_law_522 : decode cL_law 522 = .ok (.aload_n 0, 1) := dG_dL_law_520.2.2.1
theorem dL_law_523 : decode cL_law 523 = .ok (.iload_n 3, 1) := dG_dL_law_520.2.2.2.1
theorem dL_law_524 : decode cL_law 524 = .ok (.iconst 3, 1) := dG_dL_law_520.2.2.2.2.1
theorem dL_law_525 : decode cL_law 525 = .ok (.iadd, 1) := dG_dL_law_520.2.2.2.2.2.1
theorem dL_law_526 : decode cL_law 526 = .ok (.iaload, 1) := dG_dL_law_520.2.2.2.2.2.2.1
theorem dL_law_527 : decode cL_law 527 = .ok (.ifCond .eq 7, 3) := dG_dL_law_520.2.2.2.2.2.2.2.1
theorem dL_law_530 : decode cL_law 530 = .ok (.iconst 1, 1) := dG_dL_law_520.2.2.2.2.2.2.2.2.1
theorem dL_law_531 : decode cL_law 531 = .ok (.goto 4, 3) := dG_dL_law_520.2.2.2.2.2.2.2.2.2.1
theorem dL_law_534 : decode cL_law 534 = .ok (.iconst 0, 1) := dG_dL_law_520.2.2.2.2.2.2.2.2.2.2.1
theorem dL_law_535 : decode cL_law 535 = .ok (.invokevirtual 58, 3) := dG_dL_law_520.2.2.2.2.2.2.2.2.2.2.2
theorem dG_dL_law_538 : (decode cL_law 538 = .ok (.pop, 1)) ∧ (decode cL_law 539 = .ok (.goto 541, 3)) ∧ (decode cL_law 542 = .ok (.aload_n 1, 1)) ∧ (decode cL_law 543 = .ok (.aload_n 0, 1)) ∧ (decode cL_law 544 = .ok (.iload_n 3, 1)) ∧ (decode cL_law 545 = .ok (.iconst 1, 1)) ∧ (decode cL_law 546 = .ok (.iadd, 1)) ∧ (decode cL_law 547 = .ok (.iaload, 1)) ∧ (decode cL_law 548 = .ok (.aload_n 0, 1)) ∧ (decode cL_law 549 = .ok (.iload_n 3, 1)) ∧ (decode cL_law 550 = .ok (.iconst 2, 1)) ∧ (decode cL_law 551 = .ok (.iadd, 1)) := by decide +kernel
theorem dL_law_538 : decode cL_law 538 = .ok (.pop, 1) := dG_dL_law_538.1
theorem dL_law_539 : decode cL_law 539 = .ok (.goto 541, 3) := dG_dL_law_538.2.1
theorem dL_law_542 : decode cL_law 542 = .ok (.aload_n 1, 1) := dG_dL_law_538.2.2.1
theorem dL_law_543 : decode cL_law 543 = .ok (.aload_n 0, 1) := dG_dL_law_538.2.2.2.1
theorem dL_law_544 : decode cL_law 544 = .ok (.iload_n 3, 1) := dG_dL_law_538.2.2.2.2.1
theorem dL_law_545 : decode cL_law 545 = .ok (.iconst 1, 1) := dG_dL_law_538.2.2.2.2.2.1
theorem dL_law_546 : decode cL_law 546 = .ok (.iadd, 1) := dG_dL_law_538.2.2.2.2.2.2.1
theorem dL_law_547 : decode cL_law 547 = .ok (.iaload, 1) := dG_dL_law_538.2.2.2.2.2.2.2.1
theorem dL_law_548 : decode cL_law 548 = .ok (.aload_n 0, 1) := dG_dL_law_538.2.2.2.2.2.2.2.2.1
theorem dL_law_549 : decode cL_law 549 = .ok (.iload_n 3, 1) := dG_dL_law_538.2.2.2.2.2.2.2.2.2.1
theorem dL_law_550 : decode cL_law 550 = .ok (.iconst 2, 1) := dG_dL_law_538.2.2.2.2.2.2.2.2.2.2.1
theorem dL_law_551 : decode cL_law 551 = .ok (.iadd, 1) := dG_dL_law_538.2.2.2.2.2.2.2.2.2.2.2
theorem dG_dL_law_552 : (decode cL_law 552 = .ok (.iaload, 1)) ∧ (decode cL_law 553 = .ok (.aload_n 0, 1)) ∧ (decode cL_law 554 = .ok (.iload_n 3, 1)) ∧ (decode cL_law 555 = .ok (.iconst 3, 1)) ∧ (decode cL_law 556 = .ok (.iadd, 1)) ∧ (decode cL_law 557 = .ok (.iaload, 1)) ∧ (decode cL_law 558 = .ok (.ifCond .eq 7, 3)) ∧ (decode cL_law 561 = .ok (.iconst 1, 1)) ∧ (decode cL_law 562 = .ok (.goto 4, 3)) ∧ (decode cL_law 565 = .ok (.iconst 0, 1)) ∧ (decode cL_law 566 = .ok (.invokevirtual 59, 3)) ∧ (decode cL_law 569 = .ok (.pop, 1)) := by decide +kernel
theorem dL_law_552 : decode cL_law 552 = .ok (.iaload, 1) := dG_dL_law_552.1
theorem dL_law_553 : decode cL_law 553 = .ok (.aload_n 0, 1) := dG_dL_law_552.2.1
theorem dL_law_554 : decode cL_law 554 = .ok (.iload_n 3, 1) := dG_dL_law_552.2.2.1
theorem dL_law_555 : decode cL_law 555 = .ok (.iconst 3, 1) := dG_dL_law_552.2.2.2.1
theorem dL_law_556 : decode cL_law 556 = .ok (.iadd, 1) := dG_dL_law_552.2.2.2.2.1
theorem dL_law_557 : decode cL_law 557 = .ok (.iaload, 1) := dG_dL_law_552.2.2.2.2.2.1
theorem dL_law_558 : decode cL_law 558 = .ok (.ifCond .eq 7, 3) := dG_dL_law_552.2.2.2.2.2.2.1
theorem dL_law_561 : decode cL_law 561 = .ok (.iconst 1, 1) := dG_dL_law_552.2.2.2.2.2.2.2.1
theorem dL_law_562 : decode cL_law 562 = .ok (.goto 4, 3) := dG_dL_law_552.2.2.2.2.2.2.2.2.1
theorem dL_law_565 : decode cL_law 565 = .ok (.iconst 0, 1) := dG_dL_law_552.2.2.2.2.2.2.2.2.2.1
theorem dL_law_566 : decode cL_law 566 = .ok (.invokevirtual 59, 3) := dG_dL_law_552.2.2.2.2.2.2.2.2.2.2.1
theorem dL_law_569 : decode cL_law 569 = .ok (.pop, 1) := dG_dL_law_552.2.2.2.2.2.2.2.2.2.2.2
theorem dG_dL_law_570 : (decode cL_law 570 = .ok (.aload_n 2, 1)) ∧ (decode cL_law 571 = .ok (.aload_n 0, 1)) ∧ (decode cL_law 572 = .ok (.iload_n 3, 1)) ∧ (decode cL_law 573 = .ok (.iconst 1, 1)) ∧ (decode cL_law 574 = .ok (.iadd, 1)) ∧ (decode cL_law 575 = .ok (.iaload, 1)) ∧ (decode cL_law 576 = .ok (.aload_n 0, 1)) ∧ (decode cL_law 577 = .ok (.iload_n 3, 1)) ∧ (decode cL_law 578 = .ok (.iconst 2, 1)) ∧ (decode cL_law 579 = .ok (.iadd, 1)) ∧ (decode cL_law 580 = .ok (.iaload, 1)) ∧ (decode cL_law 581 = .ok (.aload_n 0, 1)) := by decide +kernel
theorem dL_law_570 : decode cL_law 570 = .ok (.aload_n 2, 1) := dG_dL_law_570.1
theorem dL_law_571 : decode cL_law 571 = .ok (.aload_n 0, 1) := dG_dL_law_570.2.1
theorem dL_law_572 : decode cL_law 572 = .ok (.iload_n 3, 1) := dG_dL_law_570.2.2.1
theorem dL_law_573 : decode cL_law 573 = .ok (.iconst 1, 1) := dG_dL_law_570.2.2.2.1
theorem dL_law_574 : decode cL_law 574 = .ok (.iadd, 1) := dG_dL_law_570.2.2.2.2.1
theorem dL_law_575 : decode cL_law 575 = .ok (.iaload, 1) := dG_dL_law_570.2.2.2.2.2.1
theorem dL_law_576 : decode cL_law 576 = .ok (.aload_n 0, 1) := dG_dL_law_570.2.2.2.2.2.2.1
theorem dL_law_577 : decode cL_law 577 = .ok (.iload_n 3, 1) := dG_dL_law_570.2.2.2.2.2.2.2.1
theorem dL_law_578 : decode cL_law 578 = .ok (.iconst 2, 1) := dG_dL_law_570.2.2.2.2.2.2.2.2.1
theorem dL_law_579 : decode cL_law 579 = .ok (.iadd, 1) := dG_dL_law_570.2.2.2.2.2.2.2.2.2.1
theorem dL_law_580 : decode cL_law 580 = .ok (.iaload, 1) := dG_dL_law_570.2.2.2.2.2.2.2.2.2.2.1
theorem dL_law_581 : decode cL_law 581 = .ok (.aload_n 0, 1) := dG_dL_law_570.2.2.2.2.2.2.2.2.2.2.2
theorem dG_dL_law_582 : (decode cL_law 582 = .ok (.iload_n 3, 1)) ∧ (decode cL_law 583 = .ok (.iconst 3, 1)) ∧ (decode cL_law 584 = .ok (.iadd, 1)) ∧ (decode cL_law 585 = .ok (.iaload, 1)) ∧ (decode cL_law 586 = .ok (.ifCond .eq 7, 3)) ∧ (decode cL_law 589 = .ok (.iconst 1, 1)) ∧ (decode cL_law 590 = .ok (.goto 4, 3)) ∧ (decode cL_law 593 = .ok (.iconst 0, 1)) ∧ (decode cL_law 594 = .ok (.invokevirtual 62, 3)) ∧ (decode cL_law 597 = .ok (.pop, 1)) ∧ (decode cL_law 598 = .ok (.goto 482, 3)) ∧ (decode cL_law 601 = .ok (.aload_n 1, 1)) := by decide +kernel
theorem dL_law_582 : decode cL_law 582 = .ok (.iload_n 3, 1) := dG_dL_law_582.1
theorem dL_law_583 : decode cL_law 583 = .ok (.iconst 3, 1) := dG_dL_law_582.2.1
theorem dL_law_584 : decode cL_law 584 = .ok (.iadd, 1) := dG_dL_law_582.2.2.1
theorem dL_law_585 : decode cL_law 585 = .ok (.iaload, 1) := dG_dL_law_582.2.2.2.1
theorem dL_law_586 : decode cL_law 586 = .ok (.ifCond .eq 7, 3) := dG_dL_law_582.2.2.2.2.1
theorem dL_law_589 : decode cL_law 589 = .ok (.iconst 1, 1) := dG_dL_law_582.2.2.2.2.2.1
theorem dL_law_590 : decode cL_law 590 = .ok (.goto 4, 3) := dG_dL_law_582.2.2.2.2.2.2.1
theorem dL_law_593 : decode cL_law 593 = .ok (.iconst 0, 1) := dG_dL_law_582.2.2.2.2.2.2.2.1
theorem dL_law_594 : decode cL_law 594 = .ok (.invokevirtual 62, 3) := dG_dL_law_582.2.2.2.2.2.2.2.2.1
theorem dL_law_597 : decode cL_law 597 = .ok (.pop, 1) := dG_dL_law_582.2.2.2.2.2.2.2.2.2.1
theorem dL_law_598 : decode cL_law 598 = .ok (.goto 482, 3) := dG_dL_law_582.2.2.2.2.2.2.2.2.2.2.1
theorem dL_law_601 : decode cL_law 601 = .ok (.aload_n 1, 1) := dG_dL_law_582.2.2.2.2.2.2.2.2.2.2.2
theorem dG_dL_law_602 : (decode cL_law 602 = .ok (.aload_n 0, 1)) ∧ (decode cL_law 603 = .ok (.iload_n 3, 1)) ∧ (decode cL_law 604 = .ok (.iconst 1, 1)) ∧ (decode cL_law 605 = .ok (.iadd, 1)) ∧ (decode cL_law 606 = .ok (.iaload, 1)) ∧ (decode cL_law 607 = .ok (.invokevirtual 63, 3)) ∧ (decode cL_law 610 = .ok (.pop, 1)) ∧ (decode cL_law 611 = .ok (.aload_n 2, 1)) ∧ (decode cL_law 612 = .ok (.aload_n 0, 1)) ∧ (decode cL_law 613 = .ok (.iload_n 3, 1)) ∧ (decode cL_law 614 = .ok (.iconst 1, 1)) ∧ (decode cL_law 615 = .ok (.iadd, 1)) := by decide +kernel
theorem dL_law_602 : decode cL_law 602 = .ok (.aload_n 0, 1) := dG_dL_law_602.1
theorem dL_law_603 : decode cL_law 603 = .ok (.iload_n 3, 1) := dG_dL_law_602.2.1
theorem dL_law_604 : decode cL_law 604 = .ok (.iconst 1, 1) := dG_dL_law_602.2.2.1
theorem dL_law_605 : decode cL_law 605 = .ok (.iadd, 1) := dG_dL_law_602.2.2.2.1
theorem dL_law_606 : decode cL_law 606 = .ok (.iaload, 1) := dG_dL_law_602.2.2.2.2.1
theorem dL_law_607 : decode cL_law 607 = .ok (.invokevirtual 63, 3) := dG_dL_law_602.2.2.2.2.2.1
theorem dL_law_610 : decode cL_law 610 = .ok (.pop, 1) := dG_dL_law_602.2.2.2.2.2.2.1
theorem dL_law_611 : decode cL_law 611 = .ok (.aload_n 2, 1) := dG_dL_law_602.2.2.2.2.2.2.2.1
theorem dL_law_612 : decode cL_law 612 = .ok (.aload_n 0, 1) := dG_dL_law_602.2.2.2.2.2.2.2.2.1
theorem dL_law_613 : decode cL_law 613 = .ok (.iload_n 3, 1) := dG_dL_law_602.2.2.2.2.2.2.2.2.2.1
theorem dL_law_614 : decode cL_law 614 = .ok (.iconst 1, 1) := dG_dL_law_602.2.2.2.2.2.2.2.2.2.2.1
theorem dL_law_615 : decode cL_law 615 = .ok (.iadd, 1) := dG_dL_law_602.2.2.2.2.2.2.2.2.2.2.2
theorem dG_dL_law_616 : (decode cL_law 616 = .ok (.iaload, 1)) ∧ (decode cL_law 617 = .ok (.invokevirtual 67, 3)) ∧ (decode cL_law 620 = .ok (.pop, 1)) ∧ (decode cL_law 621 = .ok (.goto 459, 3)) ∧ (decode cL_law 624 = .ok (.aload_n 1, 1)) ∧ (decode cL_law 625 = .ok (.invokevirtual 68, 3)) ∧ (decode cL_law 628 = .ok (.pop, 1)) ∧ (decode cL_law 629 = .ok (.aload_n 2, 1)) ∧ (decode cL_law 630 = .ok (.invokevirtual 71, 3)) ∧ (decode cL_law 633 = .ok (.pop, 1)) ∧ (decode cL_law 634 = .ok (.goto 446, 3)) ∧ (decode cL_law 637 = .ok (.aload_n 1, 1)) := by decide +kernel
theorem dL_law_616 : decode cL_law 616 = .ok (.iaload, 1) := dG_dL_law_616.1
theorem dL_law_617 : decode cL_law 617 = .ok (.invokevirtual 67, 3) := dG_dL_law_616.2.1
theorem dL_law_620 : decode cL_law 620 = .ok (.pop, 1) := dG_dL_law_616.2.2.1
theorem dL_law_621 : decode cL_law 621 = .ok (.goto 459, 3) := dG_dL_law_616.2.2.2.1
theorem dL_law_624 : decode cL_law 624 = .ok (.aload_n 1, 1) := dG_dL_law_616.2.2.2.2.1
theorem dL_law_625 : decode cL_law 625 = .ok (.invokevirtual 68, 3) := dG_dL_law_616.2.2.2.2.2.1
theorem dL_law_628 : decode cL_law 628 = .ok (.pop, 1) := dG_dL_law_616.2.2.2.2.2.2.1
theorem dL_law_629 : decode cL_law 629 = .ok (.aload_n 2, 1) := dG_dL_law_616.2.2.2.2.2.2.2.1
theorem dL_law_630 : decode cL_law 630 = .ok (.invokevirtual 71, 3) := dG_dL_law_616.2.2.2.2.2.2.2.2.1
theorem dL_law_633 : decode cL_law 633 = .ok (.pop, 1) := dG_dL_law_616.2.2.2.2.2.2.2.2.2.1
theorem dL_law_634 : decode cL_law 634 = .ok (.goto 446, 3) := dG_dL_law_616.2.2.2.2.2.2.2.2.2.2.1
theorem dL_law_637 : decode cL_law 637 = .ok (.aload_n 1, 1) := dG_dL_law_616.2.2.2.2.2.2.2.2.2.2.2
theorem dG_dL_law_638 : (decode cL_law 638 = .ok (.aload_n 0, 1)) ∧ (decode cL_law 639 = .ok (.iload_n 3, 1)) ∧ (decode cL_law 640 = .ok (.iconst 1, 1)) ∧ (decode cL_law 641 = .ok (.iadd, 1)) ∧ (decode cL_law 642 = .ok (.iaload, 1)) ∧ (decode cL_law 643 = .ok (.aload_n 0, 1)) ∧ (decode cL_law 644 = .ok (.iload_n 3, 1)) ∧ (decode cL_law 645 = .ok (.iconst 2, 1)) ∧ (decode cL_law 646 = .ok (.iadd, 1)) ∧ (decode cL_law 647 = .ok (.iaload, 1)) ∧ (decode cL_law 648 = .ok (.invokevirtual 72, 3)) ∧ (decode cL_law 651 = .ok (.pop, 1)) := by decide +kernel
theorem dL_law_638 : decode cL_law 638 = .ok (.aload_n 0, 1) := dG_dL_law_638.1
theorem dL_law_639 : decode cL_law 639 = .ok (.iload_n 3, 1) := dG_dL_law_638.2.1
theorem dL_law_640 : decode cL_law 640 = .ok (.iconst 1, 1) := dG_dL_law_638.2.2.1
theorem dL_law_641 : decode cL_law 641 = .ok (.iadd, 1) := dG_dL_law_638.2.2.2.1
theorem dL_law_642 : decode cL_law 642 = .ok (.iaload, 1) := dG_dL_law_638.2.2.2.2.1
theorem dL_law_643 : decode cL_law 643 = .ok (.aload_n 0, 1) := dG_dL_law_638.2.2.2.2.2.1
theorem dL_law_644 : decode cL_law 644 = .ok (.iload_n 3, 1) := dG_dL_law_638.2.2.2.2.2.2.1
theorem dL_law_645 : decode cL_law 645 = .ok (.iconst 2, 1) := dG_dL_law_638.2.2.2.2.2.2.2.1
theorem dL_law_646 : decode cL_law 646 = .ok (.iadd, 1) := dG_dL_law_638.2.2.2.2.2.2.2.2.1
theorem dL_law_647 : decode cL_law 647 = .ok (.iaload, 1) := dG_dL_law_638.2.2.2.2.2.2.2.2.2.1
theorem dL_law_648 : decode cL_law 648 = .ok (.invokevirtual 72, 3) := dG_dL_law_638.2.2.2.2.2.2.2.2.2.2.1
theorem dL_law_651 : decode cL_law 651 = .ok (.pop, 1) := dG_dL_law_638.2.2.2.2.2.2.2.2.2.2.2
theorem dG_dL_law_652 : (decode cL_law 652 = .ok (.aload_n 2, 1)) ∧ (decode cL_law 653 = .ok (.aload_n 0, 1)) ∧ (decode cL_law 654 = .ok (.iload_n 3, 1)) ∧ (decode cL_law 655 = .ok (.iconst 1, 1)) ∧ (decode cL_law 656 = .ok (.iadd, 1)) ∧ (decode cL_law 657 = .ok (.iaload, 1)) ∧ (decode cL_law 658 = .ok (.aload_n 0, 1)) ∧ (decode cL_law 659 = .ok (.iload_n 3, 1)) ∧ (decode cL_law 660 = .ok (.iconst 2, 1)) ∧ (decode cL_law 661 = .ok (.iadd, 1)) ∧ (decode cL_law 662 = .ok (.iaload, 1)) ∧ (decode cL_law 663 = .ok (.invokevirtual 76, 3)) := by decide +kernel
theorem dL_law_652 : decode cL_law 652 = .ok (.aload_n 2, 1) := dG_dL_law_652.1
theorem dL_law_653 : decode cL_law 653 = .ok (.aload_n 0, 1) := dG_dL_law_652.2.1
theorem dL_law_654 : decode cL_law 654 = .ok (.iload_n 3, 1) := dG_dL_law_652.2.2.1
theorem dL_law_655 : decode cL_law 655 = .ok (.iconst 1, 1) := dG_dL_law_652.2.2.2.1
theorem dL_law_656 : decode cL_law 656 = .ok (.iadd, 1) := dG_dL_law_652.2.2.2.2.1
theorem dL_law_657 : decode cL_law 657 = .ok (.iaload, 1) := dG_dL_law_652.2.2.2.2.2.1
theorem dL_law_658 : decode cL_law 658 = .ok (.aload_n 0, 1) := dG_dL_law_652.2.2.2.2.2.2.1
theorem dL_law_659 : decode cL_law 659 = .ok (.iload_n 3, 1) := dG_dL_law_652.2.2.2.2.2.2.2.1
theorem dL_law_660 : decode cL_law 660 = .ok (.iconst 2, 1) := dG_dL_law_652.2.2.2.2.2.2.2.2.1
theorem dL_law_661 : decode cL_law 661 = .ok (.iadd, 1) := dG_dL_law_652.2.2.2.2.2.2.2.2.2.1
theorem dL_law_662 : decode cL_law 662 = .ok (.iaload, 1) := dG_dL_law_652.2.2.2.2.2.2.2.2.2.2.1
theorem dL_law_663 : decode cL_law 663 = .ok (.invokevirtual 76, 3) := dG_dL_law_652.2.2.2.2.2.2.2.2.2.2.2
theorem dG_dL_law_666 : (decode cL_law 666 = .ok (.pop, 1)) ∧ (decode cL_law 667 = .ok (.goto 413, 3)) ∧ (decode cL_law 670 = .ok (.aload_n 1, 1)) ∧ (decode cL_law 671 = .ok (.aload_n 0, 1)) ∧ (decode cL_law 672 = .ok (.iload_n 3, 1)) ∧ (decode cL_law 673 = .ok (.iconst 1, 1)) ∧ (decode cL_law 674 = .ok (.iadd, 1)) ∧ (decode cL_law 675 = .ok (.iaload, 1)) ∧ (decode cL_law 676 = .ok (.aload_n 0, 1)) ∧ (decode cL_law 677 = .ok (.iload_n 3, 1)) ∧ (decode cL_law 678 = .ok (.iconst 2, 1)) ∧ (decode cL_law 679 = .ok (.iadd, 1)) := by decide +kernel
theorem dL_law_666 : decode cL_law 666 = .ok (.pop, 1) := dG_dL_law_666.1
theorem dL_law_667 : decode cL_law 667 = .ok (.goto 413, 3) := dG_dL_law_666.2.1
theorem dL_law_670 : decode cL_law 670 = .ok (.aload_n 1, 1) := dG_dL_law_666.2.2.1
theorem dL_law_671 : decode cL_law 671 = .ok (.aload_n 0, 1) := dG_dL_law_666.2.2.2.1
theorem dL_law_672 : decode cL_law 672 = .ok (.iload_n 3, 1) := dG_dL_law_666.2.2.2.2.1
theorem dL_law_673 : decode cL_law 673 = .ok (.iconst 1, 1) := dG_dL_law_666.2.2.2.2.2.1
theorem dL_law_674 : decode cL_law 674 = .ok (.iadd, 1) := dG_dL_law_666.2.2.2.2.2.2.1
theorem dL_law_675 : decode cL_law 675 = .ok (.iaload, 1) := dG_dL_law_666.2.2.2.2.2.2.2.1
theorem dL_law_676 : decode cL_law 676 = .ok (.aload_n 0, 1) := dG_dL_law_666.2.2.2.2.2.2.2.2.1
theorem dL_law_677 : decode cL_law 677 = .ok (.iload_n 3, 1) := dG_dL_law_666.2.2.2.2.2.2.2.2.2.1
theorem dL_law_678 : decode cL_law 678 = .ok (.iconst 2, 1) := dG_dL_law_666.2.2.2.2.2.2.2.2.2.2.1
theorem dL_law_679 : decode cL_law 679 = .ok (.iadd, 1) := dG_dL_law_666.2.2.2.2.2.2.2.2.2.2.2
theorem dG_dL_law_680 : (decode cL_law 680 = .ok (.iaload, 1)) ∧ (decode cL_law 681 = .ok (.invokevirtual 77, 3)) ∧ (decode cL_law 684 = .ok (.pop, 1)) ∧ (decode cL_law 685 = .ok (.aload_n 2, 1)) ∧ (decode cL_law 686 = .ok (.aload_n 0, 1)) ∧ (decode cL_law 687 = .ok (.iload_n 3, 1)) ∧ (decode cL_law 688 = .ok (.iconst 1, 1)) ∧ (decode cL_law 689 = .ok (.iadd, 1)) ∧ (decode cL_law 690 = .ok (.iaload, 1)) ∧ (decode cL_law 691 = .ok (.aload_n 0, 1)) ∧ (decode cL_law 692 = .ok (.iload_n 3, 1)) ∧ (decode cL_law 693 = .ok (.iconst 2, 1)) := by decide +kernel
theorem dL_law_680 : decode cL_law 680 = .ok (.iaload, 1) := dG_dL_law_680.1
theorem dL_law_681 : decode cL_law 681 = .ok (.invokevirtual 77, 3) := dG_dL_law_680.2.1
theorem dL_law_684 : decode cL_law 684 = .ok (.pop, 1) := dG_dL_law_680.2.2.1
theorem dL_law_685 : decode cL_law 685 = .ok (.aload_n 2, 1) := dG_dL_law_680.2.2.2.1
theorem dL_law_686 : decode cL_law 686 = .ok (.aload_n 0, 1) := dG_dL_law_680.2.2.2.2.1
theorem dL_law_687 : decode cL_law 687 = .ok (.iload_n 3, 1) := dG_dL_law_680.2.2.2.2.2.1
theorem dL_law_688 : decode cL_law 688 = .ok (.iconst 1, 1) := dG_dL_law_680.2.2.2.2.2.2.1
theorem dL_law_689 : decode cL_law 689 = .ok (.iadd, 1) := dG_dL_law_680.2.2.2.2.2.2.2.1
theorem dL_law_690 : decode cL_law 690 = .ok (.iaload, 1) := dG_dL_law_680.2.2.2.2.2.2.2.2.1
theorem dL_law_691 : decode cL_law 691 = .ok (.aload_n 0, 1) := dG_dL_law_680.2.2.2.2.2.2.2.2.2.1
theorem dL_law_692 : decode cL_law 692 = .ok (.iload_n 3, 1) := dG_dL_law_680.2.2.2.2.2.2.2.2.2.2.1
theorem dL_law_693 : decode cL_law 693 = .ok (.iconst 2, 1) := dG_dL_law_680.2.2.2.2.2.2.2.2.2.2.2
theorem dG_dL_law_694 : (decode cL_law 694 = .ok (.iadd, 1)) ∧ (decode cL_law 695 = .ok (.iaload, 1)) ∧ (decode cL_law 696 = .ok (.invokevirtual 80, 3)) ∧ (decode cL_law 699 = .ok (.pop, 1)) ∧ (decode cL_law 700 = .ok (.goto 380, 3)) ∧ (decode cL_law 703 = .ok (.aload_n 1, 1)) ∧ (decode cL_law 704 = .ok (.aload_n 0, 1)) ∧ (decode cL_law 705 = .ok (.iload_n 3, 1)) ∧ (decode cL_law 706 = .ok (.iconst 1, 1)) ∧ (decode cL_law 707 = .ok (.iadd, 1)) ∧ (decode cL_law 708 = .ok (.iaload, 1)) ∧ (decode cL_law 709 = .ok (.invokevirtual 81, 3)) := by decide +kernel
theorem dL_law_694 : decode cL_law 694 = .ok (.iadd, 1) := dG_dL_law_694.1
theorem dL_law_695 : decode cL_law 695 = .ok (.iaload, 1) := dG_dL_law_694.2.1
theorem dL_law_696 : decode cL_law 696 = .ok (.invokevirtual 80, 3) := dG_dL_law_694.2.2.1
theorem dL_law_699 : decode cL_law 699 = .ok (.pop, 1) := dG_dL_law_694.2.2.2.1
theorem dL_law_700 : decode cL_law 700 = .ok (.goto 380, 3) := dG_dL_law_694.2.2.2.2.1
theorem dL_law_703 : decode cL_law 703 = .ok (.aload_n 1, 1) := dG_dL_law_694.2.2.2.2.2.1
theorem dL_law_704 : decode cL_law 704 = .ok (.aload_n 0, 1) := dG_dL_law_694.2.2.2.2.2.2.1
theorem dL_law_705 : decode cL_law 705 = .ok (.iload_n 3, 1) := dG_dL_law_694.2.2.2.2.2.2.2.1
theorem dL_law_706 : decode cL_law 706 = .ok (.iconst 1, 1) := dG_dL_law_694.2.2.2.2.2.2.2.2.1
theorem dL_law_707 : decode cL_law 707 = .ok (.iadd, 1) := dG_dL_law_694.2.2.2.2.2.2.2.2.2.1
theorem dL_law_708 : decode cL_law 708 = .ok (.iaload, 1) := dG_dL_law_694.2.2.2.2.2.2.2.2.2.2.1
theorem dL_law_709 : decode cL_law 709 = .ok (.invokevirtual 81, 3) := dG_dL_law_694.2.2.2.2.2.2.2.2.2.2.2
theorem dG_dL_law_712 : (decode cL_law 712 = .ok (.pop, 1)) ∧ (decode cL_law 713 = .ok (.aload_n 2, 1)) ∧ (decode cL_law 714 = .ok (.aload_n 0, 1)) ∧ (decode cL_law 715 = .ok (.iload_n 3, 1)) ∧ (decode cL_law 716 = .ok (.iconst 1, 1)) ∧ (decode cL_law 717 = .ok (.iadd, 1)) ∧ (decode cL_law 718 = .ok (.iaload, 1)) ∧ (decode cL_law 719 = .ok (.invokevirtual 84, 3)) ∧ (decode cL_law 722 = .ok (.pop, 1)) ∧ (decode cL_law 723 = .ok (.goto 357, 3)) ∧ (decode cL_law 726 = .ok (.aload_n 1, 1)) ∧ (decode cL_law 727 = .ok (.aload_n 0, 1)) := by decide +kernel
theorem dL_law_712 : decode cL_law 712 = .ok (.pop, 1) := dG_dL_law_712.1
theorem dL_law_713 : decode cL_law 713 = .ok (.aload_n 2, 1) := dG_dL_law_712.2.1
theorem dL_law_714 : decode cL_law 714 = .ok (.aload_n 0, 1) := dG_dL_law_712.2.2.1
theorem dL_law_715 : decode cL_law 715 = .ok (.iload_n 3, 1) := dG_dL_law_712.2.2.2.1
theorem dL_law_716 : decode cL_law 716 = .ok (.iconst 1, 1) := dG_dL_law_712.2.2.2.2.1
theorem dL_law_717 : decode cL_law 717 = .ok (.iadd, 1) := dG_dL_law_712.2.2.2.2.2.1
theorem dL_law_718 : decode cL_law 718 = .ok (.iaload, 1) := dG_dL_law_712.2.2.2.2.2.2.1
theorem dL_law_719 : decode cL_law 719 = .ok (.invokevirtual 84, 3) := dG_dL_law_712.2.2.2.2.2.2.2.1
theorem dL_law_722 : decode cL_law 722 = .ok (.pop, 1) := dG_dL_law_712.2.2.2.2.2.2.2.2.1
theorem dL_law_723 : decode cL_law 723 = .ok (.goto 357, 3) := dG_dL_law_712.2.2.2.2.2.2.2.2.2.1
theorem dL_law_726 : decode cL_law 726 = .ok (.aload_n 1, 1) := dG_dL_law_712.2.2.2.2.2.2.2.2.2.2.1
theorem dL_law_727 : decode cL_law 727 = .ok (.aload_n 0, 1) := dG_dL_law_712.2.2.2.2.2.2.2.2.2.2.2
theorem dG_dL_law_728 : (decode cL_law 728 = .ok (.iload_n 3, 1)) ∧ (decode cL_law 729 = .ok (.iconst 1, 1)) ∧ (decode cL_law 730 = .ok (.iadd, 1)) ∧ (decode cL_law 731 = .ok (.iaload, 1)) ∧ (decode cL_law 732 = .ok (.aload_n 0, 1)) ∧ (decode cL_law 733 = .ok (.iload_n 3, 1)) ∧ (decode cL_law 734 = .ok (.iconst 2, 1)) ∧ (decode cL_law 735 = .ok (.iadd, 1)) ∧ (decode cL_law 736 = .ok (.iaload, 1)) ∧ (decode cL_law 737 = .ok (.aload_n 0, 1)) ∧ (decode cL_law 738 = .ok (.iload_n 3, 1)) ∧ (decode cL_law 739 = .ok (.iconst 3, 1)) := by decide +kernel
theorem dL_law_728 : decode cL_law 728 = .ok (.iload_n 3, 1) := dG_dL_law_728.1
theorem dL_law_729 : decode cL_law 729 = .ok (.iconst 1, 1) := dG_dL_law_728.2.1
theorem dL_law_730 : decode cL_law 730 = .ok (.iadd, 1) := dG_dL_law_728.2.2.1
theorem dL_law_731 : decode cL_law 731 = .ok (.iaload, 1) := dG_dL_law_728.2.2.2.1
theorem dL_law_732 : decode cL_law 732 = .ok (.aload_n 0, 1) := dG_dL_law_728.2.2.2.2.1
theorem dL_law_733 : decode cL_law 733 = .ok (.iload_n 3, 1) := dG_dL_law_728.2.2.2.2.2.1
theorem dL_law_734 : decode cL_law 734 = .ok (.iconst 2, 1) := dG_dL_law_728.2.2.2.2.2.2.1
theorem dL_law_735 : decode cL_law 735 = .ok (.iadd, 1) := dG_dL_law_728.2.2.2.2.2.2.2.1
theorem dL_law_736 : decode cL_law 736 = .ok (.iaload, 1) := dG_dL_law_728.2.2.2.2.2.2.2.2.1
theorem dL_law_737 : decode cL_law 737 = .ok (.aload_n 0, 1) := dG_dL_law_728.2.2.2.2.2.2.2.2.2.1
theorem dL_law_738 : decode cL_law 738 = .ok (.iload_n 3, 1) := dG_dL_law_728.2.2.2.2.2.2.2.2.2.2.1
theorem dL_law_739 : decode cL_law 739 = .ok (.iconst 3, 1) := dG_dL_law_728.2.2.2.2.2.2.2.2.2.2.2
theorem dG_dL_law_740 : (decode cL_law 740 = .ok (.iadd, 1)) ∧ (decode cL_law 741 = .ok (.iaload, 1)) ∧ (decode cL_law 742 = .ok (.invokevirtual 85, 3)) ∧ (decode cL_law 745 = .ok (.pop, 1)) ∧ (decode cL_law 746 = .ok (.aload_n 2, 1)) ∧ (decode cL_law 747 = .ok (.aload_n 0, 1)) ∧ (decode cL_law 748 = .ok (.iload_n 3, 1)) ∧ (decode cL_law 749 = .ok (.iconst 1, 1)) ∧ (decode cL_law 750 = .ok (.iadd, 1)) ∧ (decode cL_law 751 = .ok (.iaload, 1)) ∧ (decode cL_law 752 = .ok (.aload_n 0, 1)) ∧ (decode cL_law 753 = .ok (.iload_n 3, 1)) := by decide +kernel
theorem dL_law_740 : decode cL_law 740 = .ok (.iadd, 1) := dG_dL_law_740.1
theorem dL_law_741 : decode cL_law 741 = .ok (.iaload, 1) := dG_dL_law_740.2.1
theorem dL_law_742 : decode cL_law 742 = .ok (.invokevirtual 85, 3) := dG_dL_law_740.2.2.1
theorem dL_law_745 : decode cL_law 745 = .ok (.pop, 1) := dG_dL_law_740.2.2.2.1
theorem dL_law_746 : decode cL_law 746 = .ok (.aload_n 2, 1) := dG_dL_law_740.2.2.2.2.1
theorem dL_law_747 : decode cL_law 747 = .ok (.aload_n 0, 1) := dG_dL_law_740.2.2.2.2.2.1
theorem dL_law_748 : decode cL_law 748 = .ok (.iload_n 3, 1) := dG_dL_law_740.2.2.2.2.2.2.1
theorem dL_law_749 : decode cL_law 749 = .ok (.iconst 1, 1) := dG_dL_law_740.2.2.2.2.2.2.2.1
theorem dL_law_750 : decode cL_law 750 = .ok (.iadd, 1) := dG_dL_law_740.2.2.2.2.2.2.2.2.1
theorem dL_law_751 : decode cL_law 751 = .ok (.iaload, 1) := dG_dL_law_740.2.2.2.2.2.2.2.2.2.1
theorem dL_law_752 : decode cL_law 752 = .ok (.aload_n 0, 1) := dG_dL_law_740.2.2.2.2.2.2.2.2.2.2.1
theorem dL_law_753 : decode cL_law 753 = .ok (.iload_n 3, 1) := dG_dL_law_740.2.2.2.2.2.2.2.2.2.2.2
theorem dG_dL_law_754 : (decode cL_law 754 = .ok (.iconst 2, 1)) ∧ (decode cL_law 755 = .ok (.iadd, 1)) ∧ (decode cL_law 756 = .ok (.iaload, 1)) ∧ (decode cL_law 757 = .ok (.aload_n 0, 1)) ∧ (decode cL_law 758 = .ok (.iload_n 3, 1)) ∧ (decode cL_law 759 = .ok (.iconst 3, 1)) ∧ (decode cL_law 760 = .ok (.iadd, 1)) ∧ (decode cL_law 761 = .ok (.iaload, 1)) ∧ (decode cL_law 762 = .ok (.invokevirtual 89, 3)) ∧ (decode cL_law 765 = .ok (.pop, 1)) ∧ (decode cL_law 766 = .ok (.goto 314, 3)) ∧ (decode cL_law 769 = .ok (.aload_n 1, 1)) := by decide +kernel
theorem dL_law_754 : decode cL_law 754 = .ok (.iconst 2, 1) := dG_dL_law_754.1
theorem dL_law_755 : decode cL_law 755 = .ok (.iadd, 1) := dG_dL_law_754.2.1
theorem dL_law_756 : decode cL_law 756 = .ok (.iaload, 1) := dG_dL_law_754.2.2.1
theorem dL_law_757 : decode cL_law 757 = .ok (.aload_n 0, 1) := dG_dL_law_754.2.2.2.1
theorem dL_law_758 : decode cL_law 758 = .ok (.iload_n 3, 1) := dG_dL_law_754.2.2.2.2.1
theorem dL_law_759 : decode cL_law 759 = .ok (.iconst 3, 1) := dG_dL_law_754.2.2.2.2.2.1
theorem dL_law_760 : decode cL_law 760 = .ok (.iadd, 1) := dG_dL_law_754.2.2.2.2.2.2.1
theorem dL_law_761 : decode cL_law 761 = .ok (.iaload, 1) := dG_dL_law_754.2.2.2.2.2.2.2.1
theorem dL_law_762 : decode cL_law 762 = .ok (.invokevirtual 89, 3) := dG_dL_law_754.2.2.2.2.2.2.2.2.1
theorem dL_law_765 : decode cL_law 765 = .ok (.pop, 1) := dG_dL_law_754.2.2.2.2.2.2.2.2.2.1
theorem dL_law_766 : decode cL_law 766 = .ok (.goto 314, 3) := dG_dL_law_754.2.2.2.2.2.2.2.2.2.2.1
theorem dL_law_769 : decode cL_law 769 = .ok (.aload_n 1, 1) := dG_dL_law_754.2.2.2.2.2.2.2.2.2.2.2
theorem dG_dL_law_770 : (decode cL_law 770 = .ok (.aload_n 0, 1)) ∧ (decode cL_law 771 = .ok (.iload_n 3, 1)) ∧ (decode cL_law 772 = .ok (.iconst 1, 1)) ∧ (decode cL_law 773 = .ok (.iadd, 1)) ∧ (decode cL_law 774 = .ok (.iaload, 1)) ∧ (decode cL_law 775 = .ok (.aload_n 0, 1)) ∧ (decode cL_law 776 = .ok (.iload_n 3, 1)) ∧ (decode cL_law 777 = .ok (.iconst 2, 1)) ∧ (decode cL_law 778 = .ok (.iadd, 1)) ∧ (decode cL_law 779 = .ok (.iaload, 1)) ∧ (decode cL_law 780 = .ok (.aload_n 0, 1)) ∧ (decode cL_law 781 = .ok (.iload_n 3, 1)) := by decide +kernel
theorem dL_law_770 : decode cL_law 770 = .ok (.aload_n 0, 1) := dG_dL_law_770.1
theorem dL_law_771 : decode cL_law 771 = .ok (.iload_n 3, 1) := dG_dL_law_770.2.1
theorem dL_law_772 : decode cL_law 772 = .ok (.iconst 1, 1) := dG_dL_law_770.2.2.1
theorem dL_law_773 : decode cL_law 773 = .ok (.iadd, 1) := dG_dL_law_770.2.2.2.1
theorem dL_law_774 : decode cL_law 774 = .ok (.iaload, 1) := dG_dL_law_770.2.2.2.2.1
theorem dL_law_775 : decode cL_law 775 = .ok (.aload_n 0, 1) := dG_dL_law_770.2.2.2.2.2.1
theorem dL_law_776 : decode cL_law 776 = .ok (.iload_n 3, 1) := dG_dL_law_770.2.2.2.2.2.2.1
theorem dL_law_777 : decode cL_law 777 = .ok (.iconst 2, 1) := dG_dL_law_770.2.2.2.2.2.2.2.1
theorem dL_law_778 : decode cL_law 778 = .ok (.iadd, 1) := dG_dL_law_770.2.2.2.2.2.2.2.2.1
theorem dL_law_779 : decode cL_law 779 = .ok (.iaload, 1) := dG_dL_law_770.2.2.2.2.2.2.2.2.2.1
theorem dL_law_780 : decode cL_law 780 = .ok (.aload_n 0, 1) := dG_dL_law_770.2.2.2.2.2.2.2.2.2.2.1
theorem dL_law_781 : decode cL_law 781 = .ok (.iload_n 3, 1) := dG_dL_law_770.2.2.2.2.2.2.2.2.2.2.2
theorem dG_dL_law_782 : (decode cL_law 782 = .ok (.iconst 3, 1)) ∧ (decode cL_law 783 = .ok (.iadd, 1)) ∧ (decode cL_law 784 = .ok (.iaload, 1)) ∧ (decode cL_law 785 = .ok (.aload_n 0, 1)) ∧ (decode cL_law 786 = .ok (.iload_n 3, 1)) ∧ (decode cL_law 787 = .ok (.iconst 4, 1)) ∧ (decode cL_law 788 = .ok (.iadd, 1)) ∧ (decode cL_law 789 = .ok (.iaload, 1)) ∧ (decode cL_law 790 = .ok (.aload_n 0, 1)) ∧ (decode cL_law 791 = .ok (.iload_n 3, 1)) ∧ (decode cL_law 792 = .ok (.iconst 5, 1)) ∧ (decode cL_law 793 = .ok (.iadd, 1)) := by decide +kernel
theorem dL_law_782 : decode cL_law 782 = .ok (.iconst 3, 1) := dG_dL_law_782.1
theorem dL_law_783 : decode cL_law 783 = .ok (.iadd, 1) := dG_dL_law_782.2.1
theorem dL_law_784 : decode cL_law 784 = .ok (.iaload, 1) := dG_dL_law_782.2.2.1
theorem dL_law_785 : decode cL_law 785 = .ok (.aload_n 0, 1) := dG_dL_law_782.2.2.2.1
theorem dL_law_786 : decode cL_law 786 = .ok (.iload_n 3, 1) := dG_dL_law_782.2.2.2.2.1
theorem dL_law_787 : decode cL_law 787 = .ok (.iconst 4, 1) := dG_dL_law_782.2.2.2.2.2.1
theorem dL_law_788 : decode cL_law 788 = .ok (.iadd, 1) := dG_dL_law_782.2.2.2.2.2.2.1
theorem dL_law_789 : decode cL_law 789 = .ok (.iaload, 1) := dG_dL_law_782.2.2.2.2.2.2.2.1
theorem dL_law_790 : decode cL_law 790 = .ok (.aload_n 0, 1) := dG_dL_law_782.2.2.2.2.2.2.2.2.1
theorem dL_law_791 : decode cL_law 791 = .ok (.iload_n 3, 1) := dG_dL_law_782.2.2.2.2.2.2.2.2.2.1
theorem dL_law_792 : decode cL_law 792 = .ok (.iconst 5, 1) := dG_dL_law_782.2.2.2.2.2.2.2.2.2.2.1
theorem dL_law_793 : decode cL_law 793 = .ok (.iadd, 1) := dG_dL_law_782.2.2.2.2.2.2.2.2.2.2.2
theorem dG_dL_law_794 : (decode cL_law 794 = .ok (.iaload, 1)) ∧ (decode cL_law 795 = .ok (.invokevirtual 90, 3)) ∧ (decode cL_law 798 = .ok (.pop, 1)) ∧ (decode cL_law 799 = .ok (.aload_n 2, 1)) ∧ (decode cL_law 800 = .ok (.aload_n 0, 1)) ∧ (decode cL_law 801 = .ok (.iload_n 3, 1)) ∧ (decode cL_law 802 = .ok (.iconst 1, 1)) ∧ (decode cL_law 803 = .ok (.iadd, 1)) ∧ (decode cL_law 804 = .ok (.iaload, 1)) ∧ (decode cL_law 805 = .ok (.aload_n 0, 1)) ∧ (decode cL_law 806 = .ok (.iload_n 3, 1)) ∧ (decode cL_law 807 = .ok (.iconst 2, 1)) := by decide +kernel
theorem dL_law_794 : decode cL_law 794 = .ok (.iaload, 1) := dG_dL_law_794.1
theorem dL_law_795 : decode cL_law 795 = .ok (.invokevirtual 90, 3) := dG_dL_law_794.2.1
theorem dL_law_798 : decode cL_law 798 = .ok (.pop, 1) := dG_dL_law_794.2.2.1
theorem dL_law_799 : decode cL_law 799 = .ok (.aload_n 2, 1) := dG_dL_law_794.2.2.2.1
theorem dL_law_800 : decode cL_law 800 = .ok (.aload_n 0, 1) := dG_dL_law_794.2.2.2.2.1
theorem dL_law_801 : decode cL_law 801 = .ok (.iload_n 3, 1) := dG_dL_law_794.2.2.2.2.2.1
theorem dL_law_802 : decode cL_law 802 = .ok (.iconst 1, 1) := dG_dL_law_794.2.2.2.2.2.2.1
theorem dL_law_803 : decode cL_law 803 = .ok (.iadd, 1) := dG_dL_law_794.2.2.2.2.2.2.2.1
theorem dL_law_804 : decode cL_law 804 = .ok (.iaload, 1) := dG_dL_law_794.2.2.2.2.2.2.2.2.1
theorem dL_law_805 : decode cL_law 805 = .ok (.aload_n 0, 1) := dG_dL_law_794.2.2.2.2.2.2.2.2.2.1
theorem dL_law_806 : decode cL_law 806 = .ok (.iload_n 3, 1) := dG_dL_law_794.2.2.2.2.2.2.2.2.2.2.1
theorem dL_law_807 : decode cL_law 807 = .ok (.iconst 2, 1) := dG_dL_law_794.2.2.2.2.2.2.2.2.2.2.2
theorem dG_dL_law_808 : (decode cL_law 808 = .ok (.iadd, 1)) ∧ (decode cL_law 809 = .ok (.iaload, 1)) ∧ (decode cL_law 810 = .ok (.aload_n 0, 1)) ∧ (decode cL_law 811 = .ok (.iload_n 3, 1)) ∧ (decode cL_law 812 = .ok (.iconst 3, 1)) ∧ (decode cL_law 813 = .ok (.iadd, 1)) ∧ (decode cL_law 814 = .ok (.iaload, 1)) ∧ (decode cL_law 815 = .ok (.aload_n 0, 1)) ∧ (decode cL_law 816 = .ok (.iload_n 3, 1)) ∧ (decode cL_law 817 = .ok (.iconst 4, 1)) ∧ (decode cL_law 818 = .ok (.iadd, 1)) ∧ (decode cL_law 819 = .ok (.iaload, 1)) := by decide +kernel
theorem dL_law_808 : decode cL_law 808 = .ok (.iadd, 1) := dG_dL_law_808.1
theorem dL_law_809 : decode cL_law 809 = .ok (.iaload, 1) := dG_dL_law_808.2.1
theorem dL_law_810 : decode cL_law 810 = .ok (.aload_n 0, 1) := dG_dL_law_808.2.2.1
theorem dL_law_811 : decode cL_law 811 = .ok (.iload_n 3, 1) := dG_dL_law_808.2.2.2.1
theorem dL_law_812 : decode cL_law 812 = .ok (.iconst 3, 1) := dG_dL_law_808.2.2.2.2.1
theorem dL_law_813 : decode cL_law 813 = .ok (.iadd, 1) := dG_dL_law_808.2.2.2.2.2.1
theorem dL_law_814 : decode cL_law 814 = .ok (.iaload, 1) := dG_dL_law_808.2.2.2.2.2.2.1
theorem dL_law_815 : decode cL_law 815 = .ok (.aload_n 0, 1) := dG_dL_law_808.2.2.2.2.2.2.2.1
theorem dL_law_816 : decode cL_law 816 = .ok (.iload_n 3, 1) := dG_dL_law_808.2.2.2.2.2.2.2.2.1
theorem dL_law_817 : decode cL_law 817 = .ok (.iconst 4, 1) := dG_dL_law_808.2.2.2.2.2.2.2.2.2.1
theorem dL_law_818 : decode cL_law 818 = .ok (.iadd, 1) := dG_dL_law_808.2.2.2.2.2.2.2.2.2.2.1
theorem dL_law_819 : decode cL_law 819 = .ok (.iaload, 1) := dG_dL_law_808.2.2.2.2.2.2.2.2.2.2.2
theorem dG_dL_law_820 : (decode cL_law 820 = .ok (.aload_n 0, 1)) ∧ (decode cL_law 821 = .ok (.iload_n 3, 1)) ∧ (decode cL_law 822 = .ok (.iconst 5, 1)) ∧ (decode cL_law 823 = .ok (.iadd, 1)) ∧ (decode cL_law 824 = .ok (.iaload, 1)) ∧ (decode cL_law 825 = .ok (.invokevirtual 93, 3)) ∧ (decode cL_law 828 = .ok (.pop, 1)) ∧ (decode cL_law 829 = .ok (.goto 251, 3)) ∧ (decode cL_law 832 = .ok (.aload_n 1, 1)) ∧ (decode cL_law 833 = .ok (.aload_n 0, 1)) ∧ (decode cL_law 834 = .ok (.iload_n 3, 1)) ∧ (decode cL_law 835 = .ok (.iconst 1, 1)) := by decide +kernel
theorem dL_law_820 : decode cL_law 820 = .ok (.aload_n 0, 1) := dG_dL_law_820.1
theorem dL_law_821 : decode cL_law 821 = .ok (.iload_n 3, 1) := dG_dL_law_820.2.1
theorem dL_law_822 : decode cL_law 822 = .ok (.iconst 5, 1) := dG_dL_law_820.2.2.1
theorem dL_law_823 : decode cL_law 823 = .ok (.iadd, 1) := dG_dL_law_820.2.2.2.1
theorem dL_law_824 : decode cL_law 824 = .ok (.iaload, 1) := dG_dL_law_820.2.2.2.2.1
theorem dL_law_825 : decode cL_law 825 = .ok (.invokevirtual 93, 3) := dG_dL_law_820.2.2.2.2.2.1
theorem dL_law_828 : decode cL_law 828 = .ok (.pop, 1) := dG_dL_law_820.2.2.2.2.2.2.1
theorem dL_law_829 : decode cL_law 829 = .ok (.goto 251, 3) := dG_dL_law_820.2.2.2.2.2.2.2.1
theorem dL_law_832 : decode cL_law 832 = .ok (.aload_n 1, 1) := dG_dL_law_820.2.2.2.2.2.2.2.2.1
theorem dL_law_833 : decode cL_law 833 = .ok (.aload_n 0, 1) := dG_dL_law_820.2.2.2.2.2.2.2.2.2.1
theorem dL_law_834 : decode cL_law 834 = .ok (.iload_n 3, 1) := dG_dL_law_820.2.2.2.2.2.2.2.2.2.2.1
theorem dL_law_835 : decode cL_law 835 = .ok (.iconst 1, 1) := dG_dL_law_820.2.2.2.2.2.2.2.2.2.2.2
theorem dG_dL_law_836 : (decode cL_law 836 = .ok (.iadd, 1)) ∧ (decode cL_law 837 = .ok (.iaload, 1)) ∧ (decode cL_law 838 = .ok (.aload_n 0, 1)) ∧ (decode cL_law 839 = .ok (.iload_n 3, 1)) ∧ (decode cL_law 840 = .ok (.iconst 2, 1)) ∧ (decode cL_law 841 = .ok (.iadd, 1)) ∧ (decode cL_law 842 = .ok (.iaload, 1)) ∧ (decode cL_law 843 = .ok (.aload_n 0, 1)) ∧ (decode cL_law 844 = .ok (.iload_n 3, 1)) ∧ (decode cL_law 845 = .ok (.iconst 3, 1)) ∧ (decode cL_law 846 = .ok (.iadd, 1)) ∧ (decode cL_law 847 = .ok (.iaload, 1)) := by decide +kernel
theorem dL_law_836 : decode cL_law 836 = .ok (.iadd, 1) := dG_dL_law_836.1
theorem dL_law_837 : decode cL_law 837 = .ok (.iaload, 1) := dG_dL_law_836.2.1
theorem dL_law_838 : decode cL_law 838 = .ok (.aload_n 0, 1) := dG_dL_law_836.2.2.1
theorem dL_law_839 : decode cL_law 839 = .ok (.iload_n 3, 1) := dG_dL_law_836.2.2.2.1
theorem dL_law_840 : decode cL_law 840 = .ok (.iconst 2, 1) := dG_dL_law_836.2.2.2.2.1
theorem dL_law_841 : decode cL_law 841 = .ok (.iadd, 1) := dG_dL_law_836.2.2.2.2.2.1
theorem dL_law_842 : decode cL_law 842 = .ok (.iaload, 1) := dG_dL_law_836.2.2.2.2.2.2.1
theorem dL_law_843 : decode cL_law 843 = .ok (.aload_n 0, 1) := dG_dL_law_836.2.2.2.2.2.2.2.1
theorem dL_law_844 : decode cL_law 844 = .ok (.iload_n 3, 1) := dG_dL_law_836.2.2.2.2.2.2.2.2.1
theorem dL_law_845 : decode cL_law 845 = .ok (.iconst 3, 1) := dG_dL_law_836.2.2.2.2.2.2.2.2.2.1
theorem dL_law_846 : decode cL_law 846 = .ok (.iadd, 1) := dG_dL_law_836.2.2.2.2.2.2.2.2.2.2.1
theorem dL_law_847 : decode cL_law 847 = .ok (.iaload, 1) := dG_dL_law_836.2.2.2.2.2.2.2.2.2.2.2
theorem dG_dL_law_848 : (decode cL_law 848 = .ok (.aload_n 0, 1)) ∧ (decode cL_law 849 = .ok (.iload_n 3, 1)) ∧ (decode cL_law 850 = .ok (.iconst 4, 1)) ∧ (decode cL_law 851 = .ok (.iadd, 1)) ∧ (decode cL_law 852 = .ok (.iaload, 1)) ∧ (decode cL_law 853 = .ok (.invokevirtual 94, 3)) ∧ (decode cL_law 856 = .ok (.pop2, 1)) ∧ (decode cL_law 857 = .ok (.aload_n 2, 1)) ∧ (decode cL_law 858 = .ok (.aload_n 0, 1)) ∧ (decode cL_law 859 = .ok (.iload_n 3, 1)) ∧ (decode cL_law 860 = .ok (.iconst 1, 1)) ∧ (decode cL_law 861 = .ok (.iadd, 1)) := by decide +kernel
theorem dL_law_848 : decode cL_law 848 = .ok (.aload_n 0, 1) := dG_dL_law_848.1
theorem dL_law_849 : decode cL_law 849 = .ok (.iload_n 3, 1) := dG_dL_law_848.2.1
theorem dL_law_850 : decode cL_law 850 = .ok (.iconst 4, 1) := dG_dL_law_848.2.2.1
theorem dL_law_851 : decode cL_law 851 = .ok (.iadd, 1) := dG_dL_law_848.2.2.2.1
theorem dL_law_852 : decode cL_law 852 = .ok (.iaload, 1) := dG_dL_law_848.2.2.2.2.1
theorem dL_law_853 : decode cL_law 853 = .ok (.invokevirtual 94, 3) := dG_dL_law_848.2.2.2.2.2.1
theorem dL_law_856 : decode cL_law 856 = .ok (.pop2, 1) := dG_dL_law_848.2.2.2.2.2.2.1
theorem dL_law_857 : decode cL_law 857 = .ok (.aload_n 2, 1) := dG_dL_law_848.2.2.2.2.2.2.2.1
theorem dL_law_858 : decode cL_law 858 = .ok (.aload_n 0, 1) := dG_dL_law_848.2.2.2.2.2.2.2.2.1
theorem dL_law_859 : decode cL_law 859 = .ok (.iload_n 3, 1) := dG_dL_law_848.2.2.2.2.2.2.2.2.2.1
theorem dL_law_860 : decode cL_law 860 = .ok (.iconst 1, 1) := dG_dL_law_848.2.2.2.2.2.2.2.2.2.2.1
theorem dL_law_861 : decode cL_law 861 = .ok (.iadd, 1) := dG_dL_law_848.2.2.2.2.2.2.2.2.2.2.2
theorem dG_dL_law_862 : (decode cL_law 862 = .ok (.iaload, 1)) ∧ (decode cL_law 863 = .ok (.aload_n 0, 1)) ∧ (decode cL_law 864 = .ok (.iload_n 3, 1)) ∧ (decode cL_law 865 = .ok (.iconst 2, 1)) ∧ (decode cL_law 866 = .ok (.iadd, 1)) ∧ (decode cL_law 867 = .ok (.iaload, 1)) ∧ (decode cL_law 868 = .ok (.aload_n 0, 1)) ∧ (decode cL_law 869 = .ok (.iload_n 3, 1)) ∧ (decode cL_law 870 = .ok (.iconst 3, 1)) ∧ (decode cL_law 871 = .ok (.iadd, 1)) ∧ (decode cL_law 872 = .ok (.iaload, 1)) ∧ (decode cL_law 873 = .ok (.aload_n 0, 1)) := by decide +kernel
theorem dL_law_862 : decode cL_law 862 = .ok (.iaload, 1) := dG_dL_law_862.1
theorem dL_law_863 : decode cL_law 863 = .ok (.aload_n 0, 1) := dG_dL_law_862.2.1
theorem dL_law_864 : decode cL_law 864 = .ok (.iload_n 3, 1) := dG_dL_law_862.2.2.1
theorem dL_law_865 : decode cL_law 865 = .ok (.iconst 2, 1) := dG_dL_law_862.2.2.2.1
theorem dL_law_866 : decode cL_law 866 = .ok (.iadd, 1) := dG_dL_law_862.2.2.2.2.1
theorem dL_law_867 : decode cL_law 867 = .ok (.iaload, 1) := dG_dL_law_862.2.2.2.2.2.1
theorem dL_law_868 : decode cL_law 868 = .ok (.aload_n 0, 1) := dG_dL_law_862.2.2.2.2.2.2.1
theorem dL_law_869 : decode cL_law 869 = .ok (.iload_n 3, 1) := dG_dL_law_862.2.2.2.2.2.2.2.1
theorem dL_law_870 : decode cL_law 870 = .ok (.iconst 3, 1) := dG_dL_law_862.2.2.2.2.2.2.2.2.1
theorem dL_law_871 : decode cL_law 871 = .ok (.iadd, 1) := dG_dL_law_862.2.2.2.2.2.2.2.2.2.1
theorem dL_law_872 : decode cL_law 872 = .ok (.iaload, 1) := dG_dL_law_862.2.2.2.2.2.2.2.2.2.2.1
theorem dL_law_873 : decode cL_law 873 = .ok (.aload_n 0, 1) := dG_dL_law_862.2.2.2.2.2.2.2.2.2.2.2
theorem dG_dL_law_874 : (decode cL_law 874 = .ok (.iload_n 3, 1)) ∧ (decode cL_law 875 = .ok (.iconst 4, 1)) ∧ (decode cL_law 876 = .ok (.iadd, 1)) ∧ (decode cL_law 877 = .ok (.iaload, 1)) ∧ (decode cL_law 878 = .ok (.invokevirtual 98, 3)) ∧ (decode cL_law 881 = .ok (.pop2, 1)) ∧ (decode cL_law 882 = .ok (.goto 198, 3)) ∧ (decode cL_law 885 = .ok (.aload_n 1, 1)) ∧ (decode cL_law 886 = .ok (.aload_n 0, 1)) ∧ (decode cL_law 887 = .ok (.iload_n 3, 1)) ∧ (decode cL_law 888 = .ok (.iconst 1, 1)) ∧ (decode cL_law 889 = .ok (.iadd, 1)) := by decide +kernel
theorem dL_law_874 : decode cL_law 874 = .ok (.iload_n 3, 1) := dG_dL_law_874.1
theorem dL_law_875 : decode cL_law 875 = .ok (.iconst 4, 1) := dG_dL_law_874.2.1
theorem dL_law_876 : decode cL_law 876 = .ok (.iadd, 1) := dG_dL_law_874.2.2.1
theorem dL_law_877 : decode cL_law 877 = .ok (.iaload, 1) := dG_dL_law_874.2.2.2.1
theorem dL_law_878 : decode cL_law 878 = .ok (.invokevirtual 98, 3) := dG_dL_law_874.2.2.2.2.1
theorem dL_law_881 : decode cL_law 881 = .ok (.pop2, 1) := dG_dL_law_874.2.2.2.2.2.1
theorem dL_law_882 : decode cL_law 882 = .ok (.goto 198, 3) := dG_dL_law_874.2.2.2.2.2.2.1
theorem dL_law_885 : decode cL_law 885 = .ok (.aload_n 1, 1) := dG_dL_law_874.2.2.2.2.2.2.2.1
theorem dL_law_886 : decode cL_law 886 = .ok (.aload_n 0, 1) := dG_dL_law_874.2.2.2.2.2.2.2.2.1
theorem dL_law_887 : decode cL_law 887 = .ok (.iload_n 3, 1) := dG_dL_law_874.2.2.2.2.2.2.2.2.2.1
theorem dL_law_888 : decode cL_law 888 = .ok (.iconst 1, 1) := dG_dL_law_874.2.2.2.2.2.2.2.2.2.2.1
theorem dL_law_889 : decode cL_law 889 = .ok (.iadd, 1) := dG_dL_law_874.2.2.2.2.2.2.2.2.2.2.2
theorem dG_dL_law_890 : (decode cL_law 890 = .ok (.iaload, 1)) ∧ (decode cL_law 891 = .ok (.aload_n 0, 1)) ∧ (decode cL_law 892 = .ok (.iload_n 3, 1)) ∧ (decode cL_law 893 = .ok (.iconst 2, 1)) ∧ (decode cL_law 894 = .ok (.iadd, 1)) ∧ (decode cL_law 895 = .ok (.iaload, 1)) ∧ (decode cL_law 896 = .ok (.aload_n 0, 1)) ∧ (decode cL_law 897 = .ok (.iload_n 3, 1)) ∧ (decode cL_law 898 = .ok (.iconst 3, 1)) ∧ (decode cL_law 899 = .ok (.iadd, 1)) ∧ (decode cL_law 900 = .ok (.iaload, 1)) ∧ (decode cL_law 901 = .ok (.invokevirtual 99, 3)) := by decide +kernel
theorem dL_law_890 : decode cL_law 890 = .ok (.iaload, 1) := dG_dL_law_890.1
theorem dL_law_891 : decode cL_law 891 = .ok (.aload_n 0, 1) := dG_dL_law_890.2.1
theorem dL_law_892 : decode cL_law 892 = .ok (.iload_n 3, 1) := dG_dL_law_890.2.2.1
theorem dL_law_893 : decode cL_law 893 = .ok (.iconst 2, 1) := dG_dL_law_890.2.2.2.1
theorem dL_law_894 : decode cL_law 894 = .ok (.iadd, 1) := dG_dL_law_890.2.2.2.2.1
theorem dL_law_895 : decode cL_law 895 = .ok (.iaload, 1) := dG_dL_law_890.2.2.2.2.2.1
theorem dL_law_896 : decode cL_law 896 = .ok (.aload_n 0, 1) := dG_dL_law_890.2.2.2.2.2.2.1
theorem dL_law_897 : decode cL_law 897 = .ok (.iload_n 3, 1) := dG_dL_law_890.2.2.2.2.2.2.2.1
theorem dL_law_898 : decode cL_law 898 = .ok (.iconst 3, 1) := dG_dL_law_890.2.2.2.2.2.2.2.2.1
theorem dL_law_899 : decode cL_law 899 = .ok (.iadd, 1) := dG_dL_law_890.2.2.2.2.2.2.2.2.2.1
theorem dL_law_900 : decode cL_law 900 = .ok (.iaload, 1) := dG_dL_law_890.2.2.2.2.2.2.2.2.2.2.1
theorem dL_law_901 : decode cL_law 901 = .ok (.invokevirtual 99, 3) := dG_dL_law_890.2.2.2.2.2.2.2.2.2.2.2
theorem dG_dL_law_904 : (decode cL_law 904 = .ok (.pop, 1)) ∧ (decode cL_law 905 = .ok (.aload_n 2, 1)) ∧ (decode cL_law 906 = .ok (.aload_n 0, 1)) ∧ (decode cL_law 907 = .ok (.iload_n 3, 1)) ∧ (decode cL_law 908 = .ok (.iconst 1, 1)) ∧ (decode cL_law 909 = .ok (.iadd, 1)) ∧ (decode cL_law 910 = .ok (.iaload, 1)) ∧ (decode cL_law 911 = .ok (.aload_n 0, 1)) ∧ (decode cL_law 912 = .ok (.iload_n 3, 1)) ∧ (decode cL_law 913 = .ok (.iconst 2, 1)) ∧ (decode cL_law 914 = .ok (.iadd, 1)) ∧ (decode cL_law 915 = .ok (.iaload, 1)) := by decide +kernel
theorem dL_law_904 : decode cL_law 904 = .ok (.pop, 1) := dG_dL_law_904.1
theorem dL_law_905 : decode cL_law 905 = .ok (.aload_n 2, 1) := dG_dL_law_904.2.1
theorem dL_law_906 : decode cL_law 906 = .ok (.aload_n 0, 1) := dG_dL_law_904.2.2.1
theorem dL_law_907 : decode cL_law 907 = .ok (.iload_n 3, 1) := dG_dL_law_904.2.2.2.1
theorem dL_law_908 : decode cL_law 908 = .ok (.iconst 1, 1) := dG_dL_law_904.2.2.2.2.1
theorem dL_law_909 : decode cL_law 909 = .ok (.iadd, 1) := dG_dL_law_904.2.2.2.2.2.1
theorem dL_law_910 : decode cL_law 910 = .ok (.iaload, 1) := dG_dL_law_904.2.2.2.2.2.2.1
theorem dL_law_911 : decode cL_law 911 = .ok (.aload_n 0, 1) := dG_dL_law_904.2.2.2.2.2.2.2.1
theorem dL_law_912 : decode cL_law 912 = .ok (.iload_n 3, 1) := dG_dL_law_904.2.2.2.2.2.2.2.2.1
theorem dL_law_913 : decode cL_law 913 = .ok (.iconst 2, 1) := dG_dL_law_904.2.2.2.2.2.2.2.2.2.1
theorem dL_law_914 : decode cL_law 914 = .ok (.iadd, 1) := dG_dL_law_904.2.2.2.2.2.2.2.2.2.2.1
theorem dL_law_915 : decode cL_law 915 = .ok (.iaload, 1) := dG_dL_law_904.2.2.2.2.2.2.2.2.2.2.2
theorem dG_dL_law_916 : (decode cL_law 916 = .ok (.aload_n 0, 1)) ∧ (decode cL_law 917 = .ok (.iload_n 3, 1)) ∧ (decode cL_law 918 = .ok (.iconst 3, 1)) ∧ (decode cL_law 919 = .ok (.iadd, 1)) ∧ (decode cL_law 920 = .ok (.iaload, 1)) ∧ (decode cL_law 921 = .ok (.invokevirtual 102, 3)) ∧ (decode cL_law 924 = .ok (.pop, 1)) ∧ (decode cL_law 925 = .ok (.goto 155, 3)) ∧ (decode cL_law 928 = .ok (.aload_n 1, 1)) ∧ (decode cL_law 929 = .ok (.aload_n 0, 1)) ∧ (decode cL_law 930 = .ok (.iload_n 3, 1)) ∧ (decode cL_law 931 = .ok (.iconst 1, 1)) := by decide +kernel
theorem dL_law_916 : decode cL_law 916 = .ok (.aload_n 0, 1) := dG_dL_law_916.1
theorem dL_law_917 : decode cL_law 917 = .ok (.iload_n 3, 1) := dG_dL_law_916.2.1
theorem dL_law_918 : decode cL_law 918 = .ok (.iconst 3, 1) := dG_dL_law_916.2.2.1
theorem dL_law_919 : decode cL_law 919 = .ok (.iadd, 1) := dG_dL_law_916.2.2.2.1
theorem dL_law_920 : decode cL_law 920 = .ok (.iaload, 1) := dG_dL_law_916.2.2.2.2.1
theorem dL_law_921 : decode cL_law 921 = .ok (.invokevirtual 102, 3) := dG_dL_law_916.2.2.2.2.2.1
theorem dL_law_924 : decode cL_law 924 = .ok (.pop, 1) := dG_dL_law_916.2.2.2.2.2.2.1
theorem dL_law_925 : decode cL_law 925 = .ok (.goto 155, 3) := dG_dL_law_916.2.2.2.2.2.2.2.1
theorem dL_law_928 : decode cL_law 928 = .ok (.aload_n 1, 1) := dG_dL_law_916.2.2.2.2.2.2.2.2.1
theorem dL_law_929 : decode cL_law 929 = .ok (.aload_n 0, 1) := dG_dL_law_916.2.2.2.2.2.2.2.2.2.1
theorem dL_law_930 : decode cL_law 930 = .ok (.iload_n 3, 1) := dG_dL_law_916.2.2.2.2.2.2.2.2.2.2.1
theorem dL_law_931 : decode cL_law 931 = .ok (.iconst 1, 1) := dG_dL_law_916.2.2.2.2.2.2.2.2.2.2.2
theorem dG_dL_law_932 : (decode cL_law 932 = .ok (.iadd, 1)) ∧ (decode cL_law 933 = .ok (.iaload, 1)) ∧ (decode cL_law 934 = .ok (.aload_n 0, 1)) ∧ (decode cL_law 935 = .ok (.iload_n 3, 1)) ∧ (decode cL_law 936 = .ok (.iconst 2, 1)) ∧ (decode cL_law 937 = .ok (.iadd, 1)) ∧ (decode cL_law 938 = .ok (.iaload, 1)) ∧ (decode cL_law 939 = .ok (.invokevirtual 103, 3)) ∧ (decode cL_law 942 = .ok (.pop, 1)) ∧ (decode cL_law 943 = .ok (.aload_n 2, 1)) ∧ (decode cL_law 944 = .ok (.aload_n 0, 1)) ∧ (decode cL_law 945 = .ok (.iload_n 3, 1)) := by decide +kernel
theorem dL_law_932 : decode cL_law 932 = .ok (.iadd, 1) := dG_dL_law_932.1
theorem dL_law_933 : decode cL_law 933 = .ok (.iaload, 1) := dG_dL_law_932.2.1
theorem dL_law_934 : decode cL_law 934 = .ok (.aload_n 0, 1) := dG_dL_law_932.2.2.1
theorem dL_law_935 : decode cL_law 935 = .ok (.iload_n 3, 1) := dG_dL_law_932.2.2.2.1
theorem dL_law_936 : decode cL_law 936 = .ok (.iconst 2, 1) := dG_dL_law_932.2.2.2.2.1
theorem dL_law_937 : decode cL_law 937 = .ok (.iadd, 1) := dG_dL_law_932.2.2.2.2.2.1
theorem dL_law_938 : decode cL_law 938 = .ok (.iaload, 1) := dG_dL_law_932.2.2.2.2.2.2.1
theorem dL_law_939 : decode cL_law 939 = .ok (.invokevirtual 103, 3) := dG_dL_law_932.2.2.2.2.2.2.2.1
theorem dL_law_942 : decode cL_law 942 = .ok (.pop, 1) := dG_dL_law_932.2.2.2.2.2.2.2.2.1
theorem dL_law_943 : decode cL_law 943 = .ok (.aload_n 2, 1) := dG_dL_law_932.2.2.2.2.2.2.2.2.2.1
theorem dL_law_944 : decode cL_law 944 = .ok (.aload_n 0, 1) := dG_dL_law_932.2.2.2.2.2.2.2.2.2.2.1
theorem dL_law_945 : decode cL_law 945 = .ok (.iload_n 3, 1) := dG_dL_law_932.2.2.2.2.2.2.2.2.2.2.2
theorem dG_dL_law_946 : (decode cL_law 946 = .ok (.iconst 1, 1)) ∧ (decode cL_law 947 = .ok (.iadd, 1)) ∧ (decode cL_law 948 = .ok (.iaload, 1)) ∧ (decode cL_law 949 = .ok (.aload_n 0, 1)) ∧ (decode cL_law 950 = .ok (.iload_n 3, 1)) ∧ (decode cL_law 951 = .ok (.iconst 2, 1)) ∧ (decode cL_law 952 = .ok (.iadd, 1)) ∧ (decode cL_law 953 = .ok (.iaload, 1)) ∧ (decode cL_law 954 = .ok (.invokevirtual 106, 3)) ∧ (decode cL_law 957 = .ok (.pop, 1)) ∧ (decode cL_law 958 = .ok (.goto 122, 3)) ∧ (decode cL_law 961 = .ok (.aload_n 1, 1)) := by decide +kernel
theorem dL_law_946 : decode cL_law 946 = .ok (.iconst 1, 1) := dG_dL_law_946.1
theorem dL_law_947 : decode cL_law 947 = .ok (.iadd, 1) := dG_dL_law_946.2.1
theorem dL_law_948 : decode cL_law 948 = .ok (.iaload, 1) := dG_dL_law_946.2.2.1
theorem dL_law_949 : decode cL_law 949 = .ok (.aload_n 0, 1) := dG_dL_law_946.2.2.2.1
theorem dL_law_950 : decode cL_law 950 = .ok (.iload_n 3, 1) := dG_dL_law_946.2.2.2.2.1
theorem dL_law_951 : decode cL_law 951 = .ok (.iconst 2, 1) := dG_dL_law_946.2.2.2.2.2.1
theorem dL_law_952 : decode cL_law 952 = .ok (.iadd, 1) := dG_dL_law_946.2.2.2.2.2.2.1
theorem dL_law_953 : decode cL_law 953 = .ok (.iaload, 1) := dG_dL_law_946.2.2.2.2.2.2.2.1
theorem dL_law_954 : decode cL_law 954 = .ok (.invokevirtual 106, 3) := dG_dL_law_946.2.2.2.2.2.2.2.2.1
theorem dL_law_957 : decode cL_law 957 = .ok (.pop, 1) := dG_dL_law_946.2.2.2.2.2.2.2.2.2.1
theorem dL_law_958 : decode cL_law 958 = .ok (.goto 122, 3) := dG_dL_law_946.2.2.2.2.2.2.2.2.2.2.1
theorem dL_law_961 : decode cL_law 961 = .ok (.aload_n 1, 1) := dG_dL_law_946.2.2.2.2.2.2.2.2.2.2.2
theorem dG_dL_law_962 : (decode cL_law 962 = .ok (.aload_n 0, 1)) ∧ (decode cL_law 963 = .ok (.iload_n 3, 1)) ∧ (decode cL_law 964 = .ok (.iconst 1, 1)) ∧ (decode cL_law 965 = .ok (.iadd, 1)) ∧ (decode cL_law 966 = .ok (.iaload, 1)) ∧ (decode cL_law 967 = .ok (.aload_n 0, 1)) ∧ (decode cL_law 968 = .ok (.iload_n 3, 1)) ∧ (decode cL_law 969 = .ok (.iconst 2, 1)) ∧ (decode cL_law 970 = .ok (.iadd, 1)) ∧ (decode cL_law 971 = .ok (.iaload, 1)) ∧ (decode cL_law 972 = .ok (.invokevirtual 107, 3)) ∧ (decode cL_law 975 = .ok (.pop, 1)) := by decide +kernel
theorem dL_law_962 : decode cL_law 962 = .ok (.aload_n 0, 1) := dG_dL_law_962.1
theorem dL_law_963 : decode cL_law 963 = .ok (.iload_n 3, 1) := dG_dL_law_962.2.1
theorem dL_law_964 : decode cL_law 964 = .ok (.iconst 1, 1) := dG_dL_law_962.2.2.1
theorem dL_law_965 : decode cL_law 965 = .ok (.iadd, 1) := dG_dL_law_962.2.2.2.1
theorem dL_law_966 : decode cL_law 966 = .ok (.iaload, 1) := dG_dL_law_962.2.2.2.2.1
theorem dL_law_967 : decode cL_law 967 = .ok (.aload_n 0, 1) := dG_dL_law_962.2.2.2.2.2.1
theorem dL_law_968 : decode cL_law 968 = .ok (.iload_n 3, 1) := dG_dL_law_962.2.2.2.2.2.2.1
theorem dL_law_969 : decode cL_law 969 = .ok (.iconst 2, 1) := dG_dL_law_962.2.2.2.2.2.2.2.1
theorem dL_law_970 : decode cL_law 970 = .ok (.iadd, 1) := dG_dL_law_962.2.2.2.2.2.2.2.2.1
theorem dL_law_971 : decode cL_law 971 = .ok (.iaload, 1) := dG_dL_law_962.2.2.2.2.2.2.2.2.2.1
theorem dL_law_972 : decode cL_law 972 = .ok (.invokevirtual 107, 3) := dG_dL_law_962.2.2.2.2.2.2.2.2.2.2.1
theorem dL_law_975 : decode cL_law 975 = .ok (.pop, 1) := dG_dL_law_962.2.2.2.2.2.2.2.2.2.2.2
theorem dG_dL_law_976 : (decode cL_law 976 = .ok (.aload_n 2, 1)) ∧ (decode cL_law 977 = .ok (.aload_n 0, 1)) ∧ (decode cL_law 978 = .ok (.iload_n 3, 1)) ∧ (decode cL_law 979 = .ok (.iconst 1, 1)) ∧ (decode cL_law 980 = .ok (.iadd, 1)) ∧ (decode cL_law 981 = .ok (.iaload, 1)) ∧ (decode cL_law 982 = .ok (.aload_n 0, 1)) ∧ (decode cL_law 983 = .ok (.iload_n 3, 1)) ∧ (decode cL_law 984 = .ok (.iconst 2, 1)) ∧ (decode cL_law 985 = .ok (.iadd, 1)) ∧ (decode cL_law 986 = .ok (.iaload, 1)) ∧ (decode cL_law 987 = .ok (.invokevirtual 110, 3)) := by decide +kernel
theorem dL_law_976 : decode cL_law 976 = .ok (.aload_n 2, 1) := dG_dL_law_976.1
theorem dL_law_977 : decode cL_law 977 = .ok (.aload_n 0, 1) := dG_dL_law_976.2.1
theorem dL_law_978 : decode cL_law 978 = .ok (.iload_n 3, 1) := dG_dL_law_976.2.2.1
theorem dL_law_979 : decode cL_law 979 = .ok (.iconst 1, 1) := dG_dL_law_976.2.2.2.1
theorem dL_law_980 : decode cL_law 980 = .ok (.iadd, 1) := dG_dL_law_976.2.2.2.2.1
theorem dL_law_981 : decode cL_law 981 = .ok (.iaload, 1) := dG_dL_law_976.2.2.2.2.2.1
theorem dL_law_982 : decode cL_law 982 = .ok (.aload_n 0, 1) := dG_dL_law_976.2.2.2.2.2.2.1
theorem dL_law_983 : decode cL_law 983 = .ok (.iload_n 3, 1) := dG_dL_law_976.2.2.2.2.2.2.2.1
theorem dL_law_984 : decode cL_law 984 = .ok (.iconst 2, 1) := dG_dL_law_976.2.2.2.2.2.2.2.2.1
theorem dL_law_985 : decode cL_law 985 = .ok (.iadd, 1) := dG_dL_law_976.2.2.2.2.2.2.2.2.2.1
theorem dL_law_986 : decode cL_law 986 = .ok (.iaload, 1) := dG_dL_law_976.2.2.2.2.2.2.2.2.2.2.1
theorem dL_law_987 : decode cL_law 987 = .ok (.invokevirtual 110, 3) := dG_dL_law_976.2.2.2.2.2.2.2.2.2.2.2
theorem dG_dL_law_990 : (decode cL_law 990 = .ok (.pop, 1)) ∧ (decode cL_law 991 = .ok (.goto 89, 3)) ∧ (decode cL_law 994 = .ok (.aload_n 1, 1)) ∧ (decode cL_law 995 = .ok (.aload_n 0, 1)) ∧ (decode cL_law 996 = .ok (.iload_n 3, 1)) ∧ (decode cL_law 997 = .ok (.iconst 1, 1)) ∧ (decode cL_law 998 = .ok (.iadd, 1)) ∧ (decode cL_law 999 = .ok (.iaload, 1)) ∧ (decode cL_law 1000 = .ok (.aload_n 0, 1)) ∧ (decode cL_law 1001 = .ok (.iload_n 3, 1)) ∧ (decode cL_law 1002 = .ok (.iconst 2, 1)) ∧ (decode cL_law 1003 = .ok (.iadd, 1)) := by decide +kernel
theorem dL_law_990 : decode cL_law 990 = .ok (.pop, 1) := dG_dL_law_990.1
theorem dL_law_991 : decode cL_law 991 = .ok (.goto 89, 3) := dG_dL_law_990.2.1
theorem dL_law_994 : decode cL_law 994 = .ok (.aload_n 1, 1) := dG_dL_law_990.2.2.1
theorem dL_law_995 : decode cL_law 995 = .ok (.aload_n 0, 1) := dG_dL_law_990.2.2.2.1
theorem dL_law_996 : decode cL_law 996 = .ok (.iload_n 3, 1) := dG_dL_law_990.2.2.2.2.1
theorem dL_law_997 : decode cL_law 997 = .ok (.iconst 1, 1) := dG_dL_law_990.2.2.2.2.2.1
theorem dL_law_998 : decode cL_law 998 = .ok (.iadd, 1) := dG_dL_law_990.2.2.2.2.2.2.1
theorem dL_law_999 : decode cL_law 999 = .ok (.iaload, 1) := dG_dL_law_990.2.2.2.2.2.2.2.1
theorem dL_law_1000 : decode cL_law 1000 = .ok (.aload_n 0, 1) := dG_dL_law_990.2.2.2.2.2.2.2.2.1
theorem dL_law_1001 : decode cL_law 1001 = .ok (.iload_n 3, 1) := dG_dL_law_990.2.2.2.2.2.2.2.2.2.1
theorem dL_law_1002 : decode cL_law 1002 = .ok (.iconst 2, 1) := dG_dL_law_990.2.2.2.2.2.2.2.2.2.2.1
theorem dL_law_1003 : decode cL_law 1003 = .ok (.iadd, 1) := dG_dL_law_990.2.2.2.2.2.2.2.2.2.2.2
theorem dG_dL_law_1004 : (decode cL_law 1004 = .ok (.iaload, 1)) ∧ (decode cL_law 1005 = .ok (.aload_n 0, 1)) ∧ (decode cL_law 1006 = .ok (.iload_n 3, 1)) ∧ (decode cL_law 1007 = .ok (.iconst 3, 1)) ∧ (decode cL_law 1008 = .ok (.iadd, 1)) ∧ (decode cL_law 1009 = .ok (.iaload, 1)) ∧ (decode cL_law 1010 = .ok (.invokevirtual 111, 3)) ∧ (decode cL_law 1013 = .ok (.pop, 1)) ∧ (decode cL_law 1014 = .ok (.aload_n 2, 1)) ∧ (decode cL_law 1015 = .ok (.aload_n 0, 1)) ∧ (decode cL_law 1016 = .ok (.iload_n 3, 1)) ∧ (decode cL_law 1017 = .ok (.iconst 1, 1)) := by decide +kernel
theorem dL_law_1004 : decode cL_law 1004 = .ok (.iaload, 1) := dG_dL_law_1004.1
theorem dL_law_1005 : decode cL_law 1005 = .ok (.aload_n 0, 1) := dG_dL_law_1004.2.1
theorem dL_law_1006 : decode cL_law 1006 = .ok (.iload_n 3, 1) := dG_dL_law_1004.2.2.1
theorem dL_law_1007 : decode cL_law 1007 = .ok (.iconst 3, 1) := dG_dL_law_1004.2.2.2.1
theorem dL_law_1008 : decode cL_law 1008 = .ok (.iadd, 1) := dG_dL_law_1004.2.2.2.2.1
theorem dL_law_1009 : decode cL_law 1009 = .ok (.iaload, 1) := dG_dL_law_1004.2.2.2.2.2.1
theorem dL_law_1010 : decode cL_law 1010 = .ok (.invokevirtual 111, 3) := dG_dL_law_1004.2.2.2.2.2.2.1
theorem dL_law_1013 : decode cL_law 1013 = .ok (.pop, 1) := dG_dL_law_1004.2.2.2.2.2.2.2.1
theorem dL_law_1014 : decode cL_law 1014 = .ok (.aload_n 2, 1) := dG_dL_law_1004.2.2.2.2.2.2.2.2.1
theorem dL_law_1015 : decode cL_law 1015 = .ok (.aload_n 0, 1) := dG_dL_law_1004.2.2.2.2.2.2.2.2.2.1
theorem dL_law_1016 : decode cL_law 1016 = .ok (.iload_n 3, 1) := dG_dL_law_1004.2.2.2.2.2.2.2.2.2.2.1
theorem dL_law_1017 : decode cL_law 1017 = .ok (.iconst 1, 1) := dG_dL_law_1004.2.2.2.2.2.2.2.2.2.2.2
theorem dG_dL_law_1018 : (decode cL_law 1018 = .ok (.iadd, 1)) ∧ (decode cL_law 1019 = .ok (.iaload, 1)) ∧ (decode cL_law 1020 = .ok (.aload_n 0, 1)) ∧ (decode cL_law 1021 = .ok (.iload_n 3, 1)) ∧ (decode cL_law 1022 = .ok (.iconst 2, 1)) ∧ (decode cL_law 1023 = .ok (.iadd, 1)) ∧ (decode cL_law 1024 = .ok (.iaload, 1)) ∧ (decode cL_law 1025 = .ok (.aload_n 0, 1)) ∧ (decode cL_law 1026 = .ok (.iload_n 3, 1)) ∧ (decode cL_law 1027 = .ok (.iconst 3, 1)) ∧ (decode cL_law 1028 = .ok (.iadd, 1)) ∧ (decode cL_law 1029 = .ok (.iaload, 1)) := by decide +kernel
theorem dL_law_1018 : decode cL_law 1018 = .ok (.iadd, 1) := dG_dL_law_1018.1
theorem dL_law_1019 : decode cL_law 1019 = .ok (.iaload, 1) := dG_dL_law_1018.2.1
theorem dL_law_1020 : decode cL_law 1020 = .ok (.aload_n 0, 1) := dG_dL_law_1018.2.2.1
theorem dL_law_1021 : decode cL_law 1021 = .ok (.iload_n 3, 1) := dG_dL_law_1018.2.2.2.1
theorem dL_law_1022 : decode cL_law 1022 = .ok (.iconst 2, 1) := dG_dL_law_1018.2.2.2.2.1
theorem dL_law_1023 : decode cL_law 1023 = .ok (.iadd, 1) := dG_dL_law_1018.2.2.2.2.2.1
theorem dL_law_1024 : decode cL_law 1024 = .ok (.iaload, 1) := dG_dL_law_1018.2.2.2.2.2.2.1
theorem dL_law_1025 : decode cL_law 1025 = .ok (.aload_n 0, 1) := dG_dL_law_1018.2.2.2.2.2.2.2.1
theorem dL_law_1026 : decode cL_law 1026 = .ok (.iload_n 3, 1) := dG_dL_law_1018.2.2.2.2.2.2.2.2.1
theorem dL_law_1027 : decode cL_law 1027 = .ok (.iconst 3, 1) := dG_dL_law_1018.2.2.2.2.2.2.2.2.2.1
theorem dL_law_1028 : decode cL_law 1028 = .ok (.iadd, 1) := dG_dL_law_1018.2.2.2.2.2.2.2.2.2.2.1
theorem dL_law_1029 : decode cL_law 1029 = .ok (.iaload, 1) := dG_dL_law_1018.2.2.2.2.2.2.2.2.2.2.2
theorem dG_dL_law_1030 : (decode cL_law 1030 = .ok (.invokevirtual 114, 3)) ∧ (decode cL_law 1033 = .ok (.pop, 1)) ∧ (decode cL_law 1034 = .ok (.goto 46, 3)) ∧ (decode cL_law 1037 = .ok (.aload_n 1, 1)) ∧ (decode cL_law 1038 = .ok (.aload_n 0, 1)) ∧ (decode cL_law 1039 = .ok (.iload_n 3, 1)) ∧ (decode cL_law 1040 = .ok (.iconst 1, 1)) ∧ (decode cL_law 1041 = .ok (.iadd, 1)) ∧ (decode cL_law 1042 = .ok (.iaload, 1)) ∧ (decode cL_law 1043 = .ok (.aload_n 0, 1)) ∧ (decode cL_law 1044 = .ok (.iload_n 3, 1)) ∧ (decode cL_law 1045 = .ok (.iconst 2, 1)) := by decide +kernel
theorem dL_law_1030 : decode cL_law 1030 = .ok (.invokevirtual 114, 3) := dG_dL_law_1030.1
theorem dL_law_1033 : decode cL_law 1033 = .ok (.pop, 1) := dG_dL_law_1030.2.1
theorem dL_law_1034 : decode cL_law 1034 = .ok (.goto 46, 3) := dG_dL_law_1030.2.2.1
theorem dL_law_1037 : decode cL_law 1037 = .ok (.aload_n 1, 1) := dG_dL_law_1030.2.2.2.1
theorem dL_law_1038 : decode cL_law 1038 = .ok (.aload_n 0, 1) := dG_dL_law_1030.2.2.2.2.1
theorem dL_law_1039 : decode cL_law 1039 = .ok (.iload_n 3, 1) := dG_dL_law_1030.2.2.2.2.2.1
theorem dL_law_1040 : decode cL_law 1040 = .ok (.iconst 1, 1) := dG_dL_law_1030.2.2.2.2.2.2.1
theorem dL_law_1041 : decode cL_law 1041 = .ok (.iadd, 1) := dG_dL_law_1030.2.2.2.2.2.2.2.1
theorem dL_law_1042 : decode cL_law 1042 = .ok (.iaload, 1) := dG_dL_law_1030.2.2.2.2.2.2.2.2.1
theorem dL_law_1043 : decode cL_law 1043 = .ok (.aload_n 0, 1) := dG_dL_law_1030.2.2.2.2.2.2.2.2.2.1
theorem dL_law_1044 : decode cL_law 1044 = .ok (.iload_n 3, 1) := dG_dL_law_1030.2.2.2.2.2.2.2.2.2.2.1
theorem dL_law_1045 : decode cL_law 1045 = .ok (.iconst 2, 1) := dG_dL_law_1030.2.2.2.2.2.2.2.2.2.2.2
theorem dG_dL_law_1046 : (decode cL_law 1046 = .ok (.iadd, 1)) ∧ (decode cL_law 1047 = .ok (.iaload, 1)) ∧ (decode cL_law 1048 = .ok (.aload_n 0, 1)) ∧ (decode cL_law 1049 = .ok (.iload_n 3, 1)) ∧ (decode cL_law 1050 = .ok (.iconst 3, 1)) ∧ (decode cL_law 1051 = .ok (.iadd, 1)) ∧ (decode cL_law 1052 = .ok (.iaload, 1)) ∧ (decode cL_law 1053 = .ok (.invokevirtual 115, 3)) ∧ (decode cL_law 1056 = .ok (.aload_n 2, 1)) ∧ (decode cL_law 1057 = .ok (.aload_n 0, 1)) ∧ (decode cL_law 1058 = .ok (.iload_n 3, 1)) ∧ (decode cL_law 1059 = .ok (.iconst 1, 1)) := by decide +kernel
theorem dL_law_1046 : decode cL_law 1046 = .ok (.iadd, 1) := dG_dL_law_1046.1
theorem dL_law_1047 : decode cL_law 1047 = .ok (.iaload, 1) := dG_dL_law_1046.2.1
theorem dL_law_1048 : decode cL_law 1048 = .ok (.aload_n 0, 1) := dG_dL_law_1046.2.2.1
theorem dL_law_1049 : decode cL_law 1049 = .ok (.iload_n 3, 1) := dG_dL_law_1046.2.2.2.1
theorem dL_law_1050 : decode cL_law 1050 = .ok (.iconst 3, 1) := dG_dL_law_1046.2.2.2.2.1
theorem dL_law_1051 : decode cL_law 1051 = .ok (.iadd, 1) := dG_dL_law_1046.2.2.2.2.2.1
theorem dL_law_1052 : decode cL_law 1052 = .ok (.iaload, 1) := dG_dL_law_1046.2.2.2.2.2.2.1
theorem dL_law_1053 : decode cL_law 1053 = .ok (.invokevirtual 115, 3) := dG_dL_law_1046.2.2.2.2.2.2.2.1
theorem dL_law_1056 : decode cL_law 1056 = .ok (.aload_n 2, 1) := dG_dL_law_1046.2.2.2.2.2.2.2.2.1
theorem dL_law_1057 : decode cL_law 1057 = .ok (.aload_n 0, 1) := dG_dL_law_1046.2.2.2.2.2.2.2.2.2.1
theorem dL_law_1058 : decode cL_law 1058 = .ok (.iload_n 3, 1) := dG_dL_law_1046.2.2.2.2.2.2.2.2.2.2.1
theorem dL_law_1059 : decode cL_law 1059 = .ok (.iconst 1, 1) := dG_dL_law_1046.2.2.2.2.2.2.2.2.2.2.2
theorem dG_dL_law_1060 : (decode cL_law 1060 = .ok (.iadd, 1)) ∧ (decode cL_law 1061 = .ok (.iaload, 1)) ∧ (decode cL_law 1062 = .ok (.aload_n 0, 1)) ∧ (decode cL_law 1063 = .ok (.iload_n 3, 1)) ∧ (decode cL_law 1064 = .ok (.iconst 2, 1)) ∧ (decode cL_law 1065 = .ok (.iadd, 1)) ∧ (decode cL_law 1066 = .ok (.iaload, 1)) ∧ (decode cL_law 1067 = .ok (.aload_n 0, 1)) ∧ (decode cL_law 1068 = .ok (.iload_n 3, 1)) ∧ (decode cL_law 1069 = .ok (.iconst 3, 1)) ∧ (decode cL_law 1070 = .ok (.iadd, 1)) ∧ (decode cL_law 1071 = .ok (.iaload, 1)) := by decide +kernel
theorem dL_law_1060 : decode cL_law 1060 = .ok (.iadd, 1) := dG_dL_law_1060.1
theorem dL_law_1061 : decode cL_law 1061 = .ok (.iaload, 1) := dG_dL_law_1060.2.1
theorem dL_law_1062 : decode cL_law 1062 = .ok (.aload_n 0, 1) := dG_dL_law_1060.2.2.1
theorem dL_law_1063 : decode cL_law 1063 = .ok (.iload_n 3, 1) := dG_dL_law_1060.2.2.2.1
theorem dL_law_1064 : decode cL_law 1064 = .ok (.iconst 2, 1) := dG_dL_law_1060.2.2.2.2.1
theorem dL_law_1065 : decode cL_law 1065 = .ok (.iadd, 1) := dG_dL_law_1060.2.2.2.2.2.1
theorem dL_law_1066 : decode cL_law 1066 = .ok (.iaload, 1) := dG_dL_law_1060.2.2.2.2.2.2.1
theorem dL_law_1067 : decode cL_law 1067 = .ok (.aload_n 0, 1) := dG_dL_law_1060.2.2.2.2.2.2.2.1
theorem dL_law_1068 : decode cL_law 1068 = .ok (.iload_n 3, 1) := dG_dL_law_1060.2.2.2.2.2.2.2.2.1
theorem dL_law_1069 : decode cL_law 1069 = .ok (.iconst 3, 1) := dG_dL_law_1060.2.2.2.2.2.2.2.2.2.1
theorem dL_law_1070 : decode cL_law 1070 = .ok (.iadd, 1) := dG_dL_law_1060.2.2.2.2.2.2.2.2.2.2.1
theorem dL_law_1071 : decode cL_law 1071 = .ok (.iaload, 1) := dG_dL_law_1060.2.2.2.2.2.2.2.2.2.2.2
theorem dG_dL_law_1072 : (decode cL_law 1072 = .ok (.invokevirtual 118, 3)) ∧ (decode cL_law 1075 = .ok (.if_icmp .eq 5, 3)) ∧ (decode cL_law 1080 = .ok (.iinc 3 7, 3)) ∧ (decode cL_law 1083 = .ok (.goto (-1065), 3)) ∧ (decode cL_law 1086 = .ok (.iconst 1, 1)) ∧ (decode cL_law 1087 = .ok (.ireturn, 1)) := by decide +kernel
theorem dL_law_1072 : decode cL_law 1072 = .ok (.invokevirtual 118, 3) := dG_dL_law_1072.1
theorem dL_law_1075 : decode cL_law 1075 = .ok (.if_icmp .eq 5, 3) := dG_dL_law_1072.2.1
theorem dL_law_1080 : decode cL_law 1080 = .ok (.iinc 3 7, 3) := dG_dL_law_1072.2.2.1
theorem dL_law_1083 : decode cL_law 1083 = .ok (.goto (-1065), 3) := dG_dL_law_1072.2.2.2.1
theorem dL_law_1086 : decode cL_law 1086 = .ok (.iconst 1, 1) := dG_dL_law_1072.2.2.2.2.1
theorem dL_law_1087 : decode cL_law 1087 = .ok (.ireturn, 1) := dG_dL_law_1072.2.2.2.2.2
end

section
/-- a fresh RouteWall, a fresh RouteWallModel -/
def rv0 : gV := fun j => if j = 27 then -1 else if j = 28 then -1 else 0
def mv0 : gV := fun j => if j = 4 then -1 else if j = 5 then -1 else if j = 23 then -1 else 0
def gz : gF := fun _ _ => 0
def R_law : String := "RouteWallLaw"
abbrev lwI (vx : gV) (fx : gF) (vm : gV) (fm : gF) : Prop := ((vx 25) = (vm 0)) ∧ ((vx 26) = (vm 24)) ∧ ((vx 1) = (vm 12)) ∧ ((vx 2) = (vm 13)) ∧ ((vx 3) = (vm 14)) ∧ ((vx 4) = (vm 18)) ∧ ((vx 21) = (vm 22)) ∧ ((vx 23) = (vm 25)) ∧ ((vx 24) = (vm 26)) ∧ ((fx 15) = (fm 18)) ∧ ((fx 16) = (fm 20)) ∧ ((fx 17) = (fm 19)) ∧ ((fx 20) = (fm 24)) ∧ ((fx 21) = (fm 25)) ∧ ((fx 22) = (fm 26)) ∧ ((fx 23) = (fm 27)) ∧ ((fx 24) = (fm 28)) ∧ ((fx 25) = (fm 29)) ∧ ((fx 26) = (fm 30)) ∧ ((fx 32) = (fm 35)) ∧ ((fx 33) = (fm 36)) ∧ ((fx 28) = (fm 31)) ∧ ((fx 29) = (fm 32)) ∧ ((fx 30) = (fm 33)) ∧ (rSq (vx 1) (fx 1) (fm 1) (fm 2) (fm 3) (fm 4)) ∧ (rCd (vx 2) (fx 2) (fx 3) (fm 9) (fm 10)) ∧ (rKd (vx 3) (fx 4) (fx 5) (fm 13) (fm 15)) ∧ (rOp (vx 21) (vx 22) (vm 23) (vx 23)) ∧ (rLa (vx 21) (fx 18) (fm 21)) ∧ (rLo (vx 21) (vx 22) (fx 18)) ∧ (rOm (vx 21) (fx 18) (fm 23)) ∧ (OI (vx 23) (fx 20) (fx 26) (fx 27)) ∧ (TI (vx 23) (vx 26) (fx 23) (fx 24) (fx 26)) ∧ (rH0 (vx 23) (vx 22) (fx 26) (fx 21)) ∧ (rCk (vx 23) (vx 21) (fx 20)) ∧ (rOr (vx 21) (vx 22) (vx 1)) ∧ (rWt (vx 21) (fx 31) (fm 34)) ∧ (rWi (vx 21) (vx 26) (fx 32) (fx 33) (fx 31)) ∧ (shOk (vx 1) (fx 1)) ∧ (∀ k, 0 ≤ k → k < 20 → (fx 16) k ≤ (vx 23)) ∧ (0 < (vm 12) → rpOk (vm 13) (fm 9)) ∧ (∀ k, 0 ≤ k → k < 20 → (fm 20) k ≤ (vm 25)) ∧ ((vx 0) = (vm 2)) ∧ (∀ k, (fm 0) k % 256 = (fx 0) k) ∧ ((vx 27) = (vm 4)) ∧ ((vx 28) = (vm 5))
section GLaw
variable {p : Program} {l : Launch} {e : Env} {s : State} {m : MethodId} {below : List Frame} {meth : Method} {c : Code} {H : Heap} {locs : List Loc} {Q : State → Prop} {ls : Array Slot} {D : va_G} {k : Nat → ClassId} {ad bd za : Nat → Nat} {Ax Am : Nat → Prop} {b L t : Nat} {X : Nat → Int} {vx vm : gV} {fx gx fm gm : gF}
theorem g_sld {own : String} {cc : ByteArray} {H0 : Heap} {A : Nat → Prop} {R : Room} {args : Array Value} {pc cells slots : Nat} {rest : List Value} {L : Nat} (C : gC D k p s m args c cc own) (hX : va_X b L (fun j => iI (X j)) s H0) (hbl : b < H0.size) (hbA : ¬ A b) (hS : va_S A H0 H locs) {i : Nat} (hi : i < L) (hi2 : i ≤ 1000000) {z : Int} (hz : z = (i : Int)) (hdg : decode cc pc = .ok (.iaload, 1)) (kk : W p l e R s m args below meth c H locs cells slots Q (F0 m (pc + 1) ls (.int (iI (X i)) :: rest))) : W p l e R s m args below meth c H locs cells slots Q (F0 m pc ls (.int (iI z) :: .ref b :: rest)) := by
  subst hz
  refine va_sld C.1 C.2.1 hX hbl hbA hS (i := iI (i : Int)) ?_ hdg ?_
  · rw [vp_in_iff, iI_toInt ⟨by omega, by omega⟩]
    omega
  · have hc : (iI (i : Int)).toNatClampNeg = i := by
      have := iI_cl (a := (i : Int)) (by omega) (by omega)
      omega
    rw [hc]
    exact kk
set_option maxHeartbeats 4000000 in
set_option maxRecDepth 100000 in
theorem law_case_0 (C : gC D k p s m #[Value.ref b] c code R_law) (hml : c.maxLocals = 4) (hX : va_X b L (fun j => iI (X j)) s s.heap) (hXr : ∀ j, inR (X j)) (hbl : b < s.heap.size) (ht : 7 * t + 7 ≤ L) (hL : L ≤ 3584) (hE : gEv za (fun q : Nat => s.heap.size ≤ q) s s.heap) (hDx : rwD Ax k ad) (hDm : mdD Am k bd) (hAx : ∀ q : Nat, Ax q → s.heap.size ≤ q) (hAm : ∀ q : Nat, Am q → s.heap.size ≤ q) (hxm : ∀ (v : gV) (f g : gF) (i : Nat) (q : Nat × va_E), (mdW k bd v f g)[i]? = some q → ¬ Ax q.1) (hmx : ∀ (v : gV) (f g : gF) (i : Nat) (q : Nat × va_E), (rwW k ad v f g)[i]? = some q → ¬ Am q.1) (hI : lwI vx fx vm fm) (hPx : gWd D (rwT k ad) vx fx gx H) (hPm : gWd D (mdT k bd) vm fm gm H) (hS : va_S (fun q : Nat => s.heap.size ≤ q) s.heap H locs) (hl : lv_has ls 4 [(3, .int (iI (7 * (t : Int)))), (2, .ref (bd 0)), (1, .ref (ad 0)), (0, .ref b)]) (back : ∀ (vx vm : gV) (fx gx fm gm : gF) (H : Heap) (locs : List Loc), lwI vx fx vm fm → gWd D (rwT k ad) vx fx gx H → gWd D (mdT k bd) vm fm gm H → va_S (fun q : Nat => s.heap.size ≤ q) s.heap H locs → W p l e room_1 s m #[Value.ref b] below meth c H locs 100 12380 Q (F0 m 1080 ls [])) : W p l e room_1 s m #[Value.ref b] below meth c H locs 100 12380 Q (F0 m 144 ls []) := by
  have hx := C.1
  have hb := C.2.1
  have hbA : ¬ (fun q : Nat => s.heap.size ≤ q) b := Nat.not_le.mpr hbl
  have hT0 : 0 ≤ vx 0 ∧ vx 0 ≤ 700 := hPx.2.1 0
  have hT1 : 0 ≤ vm 2 ∧ vm 2 ≤ 700 := hPm.2.1 2
  obtain ⟨k_st, k_tm, k_rn, k_it, k_ks, k_bk, k_cl, k_mn, k_ap, k_hs, k_be, k_zo, k_wh, k_rd, k_rt, k_fr, k_en, k_ho, k_hw, k_wo, k_ci, k_an, k_ah, k_ad, k_sq, k_cd, k_kd, k_op, k_la, k_lo, k_om, k_oi, k_ti, k_h0, k_ck, k_or, k_wt, k_wi, k_sh, k_bx, k_rp, k_bm, k_tp, k_ta, k_fk, k_fp⟩ := id hI
  have g_cl : 0 ≤ (vx 21) ∧ (vx 21) ≤ 16 := hPx.2.1 21
  have g_mn : 0 ≤ (vx 23) ∧ (vx 23) ≤ 300 := hPx.2.1 23
  have g_rn : 0 ≤ (vx 1) ∧ (vx 1) ≤ 4 := hPx.2.1 1
  have g_ks : 0 ≤ (vx 3) ∧ (vx 3) ≤ 4 := hPx.2.1 3
  have g_ox : 0 ≤ (vx 22) ∧ (vx 22) ≤ 3 := hPx.2.1 22
  have g_tm : 0 ≤ (vx 26) ∧ (vx 26) ≤ 1000000 := hPx.2.1 26
  have g_wh : ∀ k, 0 ≤ (fx 20) k ∧ (fx 20) k ≤ 15 := fun k => hPx.2.2 20 k
  have g_fr : ∀ k, 0 ≤ (fx 23) k ∧ (fx 23) k ≤ 1000000 := fun k => hPx.2.2 23 k
  have g_la : ∀ k, 0 ≤ (fx 18) k ∧ (fx 18) k ≤ 3 := fun k => hPx.2.2 18 k
  have g_ti : ∀ k, 0 ≤ (fx 31) k ∧ (fx 31) k ≤ 20 := fun k => hPx.2.2 31 k
  have m_oi : OI (vm 25) (fm 24) (fm 30) (fx 27) := by have h := k_oi; rw [k_mn, k_wh, k_hw] at h; exact h
  have m_ti : TI (vm 25) (vm 24) (fm 27) (fm 28) (fm 30) := by have h := k_ti; rw [k_mn, k_tm, k_fr, k_en, k_hw] at h; exact h
  have m_wi : ∀ c, 0 ≤ c → c < (vm 22) → WI (vm 24) (fm 35) (fm 36) (fm 34) c := fun c c0 c1 => by have h := k_wi c c0 (by omega); rw [k_tm, k_wo, k_ci] at h; exact WI_ti h ((k_wt c c0 (by omega)).1 (by omega))
  have hX1 := hXr (7 * t + 1)
  have hX2 := hXr (7 * t + 2)
  have hX3 := hXr (7 * t + 3)
  have hX4 := hXr (7 * t + 4)
  have hX5 := hXr (7 * t + 5)
  have hX6 := hXr (7 * t + 6)
  refine lv_aload_n hx hb dL_law_144 rfl (lv_at hl 2 rfl) ?_
  refine g_cv (As := []) (rest := []) (n := 0) C hml (c_X10_status l D k Ax ad hDx vx fx gx) mM_L_13 mI_X10_status mE_X10_status mN_X10 mC_X10_status (by decide +kernel) 0 (ci := 10) rfl rfl hPx hS hAx ⟨Nat.le_of_ble_eq_true rfl, Nat.le_of_ble_eq_true rfl⟩ ⟨Nat.le_of_ble_eq_true rfl, Nat.le_of_ble_eq_true rfl⟩ hl.1 rfl rfl (Nat.le_of_ble_eq_true rfl) dL_law_145 (fun r_1 v_1 f_1 g_1 H1 locs hq_1 hPx hk_1 hS => ?_)
  replace hPm : gWd D (mdT k bd) vm fm gm H1 := ⟨hPm.1.kept (fun i q h => hk_1 q.1 ((hPm.1 i q h).lt) (hxm _ _ _ i q h)), hPm.2⟩
  obtain ⟨z_1, rfl, rfl, rfl, rfl, p0_1, p1_1⟩ := hq_1
  show W p l e room_1 s m #[Value.ref b] below meth c _ _ 100 12380 Q (F0 m 148 ls [.int (iI z_1)])
  refine lv_pop hx hb dL_law_148 rfl ?_
  refine lv_aload_n hx hb dL_law_149 rfl (lv_at hl 1 rfl) ?_
  refine g_cv (As := []) (rest := []) (n := 0) C hml (y_status l D k Am bd hDm vm fm gm) mM_L_17 mI_X11_status mE_X11_status mN_X11 mC_X11_status (by decide +kernel) 0 (ci := 11) rfl rfl hPm hS hAm ⟨Nat.le_of_ble_eq_true rfl, Nat.le_of_ble_eq_true rfl⟩ ⟨Nat.le_of_ble_eq_true rfl, Nat.le_of_ble_eq_true rfl⟩ hl.1 rfl rfl (Nat.le_of_ble_eq_true rfl) dL_law_150 (fun r_2 v_2 f_2 g_2 H2 locs hq_2 hPm hk_2 hS => ?_)
  replace hPx := (⟨hPx.1.kept (fun i q h => hk_2 q.1 ((hPx.1 i q h).lt) (hmx _ _ _ i q h)), hPx.2⟩ : gWd D (rwT k ad) _ _ _ H2)
  obtain ⟨z_2, rfl, rfl, rfl, rfl, p0_2, p1_2⟩ := hq_2
  show W p l e room_1 s m #[Value.ref b] below meth c _ _ 100 12380 Q (F0 m 153 ls [.int (iI z_2)])
  refine lv_pop hx hb dL_law_153 rfl ?_
  refine lv_goto (tgt := 1080) hx hb dL_law_154 (by decide) ?_
  refine back _ _ _ _ _ _ _ _ ?_ hPx hPm hS
  exact ⟨k_st, k_tm, k_rn, k_it, k_ks, k_bk, k_cl, k_mn, k_ap, k_hs, k_be, k_zo, k_wh, k_rd, k_rt, k_fr, k_en, k_ho, k_hw, k_wo, k_ci, k_an, k_ah, k_ad, k_sq, k_cd, k_kd, k_op, k_la, k_lo, k_om, k_oi, k_ti, k_h0, k_ck, k_or, k_wt, k_wi, k_sh, k_bx, k_rp, k_bm, k_tp, k_ta, k_fk, k_fp⟩
set_option maxHeartbeats 4000000 in
set_option maxRecDepth 100000 in
theorem law_case_1 (C : gC D k p s m #[Value.ref b] c code R_law) (hml : c.maxLocals = 4) (hX : va_X b L (fun j => iI (X j)) s s.heap) (hXr : ∀ j, inR (X j)) (hbl : b < s.heap.size) (ht : 7 * t + 7 ≤ L) (hL : L ≤ 3584) (hE : gEv za (fun q : Nat => s.heap.size ≤ q) s s.heap) (hDx : rwD Ax k ad) (hDm : mdD Am k bd) (hAx : ∀ q : Nat, Ax q → s.heap.size ≤ q) (hAm : ∀ q : Nat, Am q → s.heap.size ≤ q) (hxm : ∀ (v : gV) (f g : gF) (i : Nat) (q : Nat × va_E), (mdW k bd v f g)[i]? = some q → ¬ Ax q.1) (hmx : ∀ (v : gV) (f g : gF) (i : Nat) (q : Nat × va_E), (rwW k ad v f g)[i]? = some q → ¬ Am q.1) (hI : lwI vx fx vm fm) (hPx : gWd D (rwT k ad) vx fx gx H) (hPm : gWd D (mdT k bd) vm fm gm H) (hS : va_S (fun q : Nat => s.heap.size ≤ q) s.heap H locs) (hl : lv_has ls 4 [(3, .int (iI (7 * (t : Int)))), (2, .ref (bd 0)), (1, .ref (ad 0)), (0, .ref b)]) (back : ∀ (vx vm : gV) (fx gx fm gm : gF) (H : Heap) (locs : List Loc), lwI vx fx vm fm → gWd D (rwT k ad) vx fx gx H → gWd D (mdT k bd) vm fm gm H → va_S (fun q : Nat => s.heap.size ≤ q) s.heap H locs → W p l e room_1 s m #[Value.ref b] below meth c H locs 100 12380 Q (F0 m 1080 ls [])) : W p l e room_1 s m #[Value.ref b] below meth c H locs 100 12380 Q (F0 m 157 ls []) := by
  have hx := C.1
  have hb := C.2.1
  have hbA : ¬ (fun q : Nat => s.heap.size ≤ q) b := Nat.not_le.mpr hbl
  have hT0 : 0 ≤ vx 0 ∧ vx 0 ≤ 700 := hPx.2.1 0
  have hT1 : 0 ≤ vm 2 ∧ vm 2 ≤ 700 := hPm.2.1 2
  obtain ⟨k_st, k_tm, k_rn, k_it, k_ks, k_bk, k_cl, k_mn, k_ap, k_hs, k_be, k_zo, k_wh, k_rd, k_rt, k_fr, k_en, k_ho, k_hw, k_wo, k_ci, k_an, k_ah, k_ad, k_sq, k_cd, k_kd, k_op, k_la, k_lo, k_om, k_oi, k_ti, k_h0, k_ck, k_or, k_wt, k_wi, k_sh, k_bx, k_rp, k_bm, k_tp, k_ta, k_fk, k_fp⟩ := id hI
  have g_cl : 0 ≤ (vx 21) ∧ (vx 21) ≤ 16 := hPx.2.1 21
  have g_mn : 0 ≤ (vx 23) ∧ (vx 23) ≤ 300 := hPx.2.1 23
  have g_rn : 0 ≤ (vx 1) ∧ (vx 1) ≤ 4 := hPx.2.1 1
  have g_ks : 0 ≤ (vx 3) ∧ (vx 3) ≤ 4 := hPx.2.1 3
  have g_ox : 0 ≤ (vx 22) ∧ (vx 22) ≤ 3 := hPx.2.1 22
  have g_tm : 0 ≤ (vx 26) ∧ (vx 26) ≤ 1000000 := hPx.2.1 26
  have g_wh : ∀ k, 0 ≤ (fx 20) k ∧ (fx 20) k ≤ 15 := fun k => hPx.2.2 20 k
  have g_fr : ∀ k, 0 ≤ (fx 23) k ∧ (fx 23) k ≤ 1000000 := fun k => hPx.2.2 23 k
  have g_la : ∀ k, 0 ≤ (fx 18) k ∧ (fx 18) k ≤ 3 := fun k => hPx.2.2 18 k
  have g_ti : ∀ k, 0 ≤ (fx 31) k ∧ (fx 31) k ≤ 20 := fun k => hPx.2.2 31 k
  have m_oi : OI (vm 25) (fm 24) (fm 30) (fx 27) := by have h := k_oi; rw [k_mn, k_wh, k_hw] at h; exact h
  have m_ti : TI (vm 25) (vm 24) (fm 27) (fm 28) (fm 30) := by have h := k_ti; rw [k_mn, k_tm, k_fr, k_en, k_hw] at h; exact h
  have m_wi : ∀ c, 0 ≤ c → c < (vm 22) → WI (vm 24) (fm 35) (fm 36) (fm 34) c := fun c c0 c1 => by have h := k_wi c c0 (by omega); rw [k_tm, k_wo, k_ci] at h; exact WI_ti h ((k_wt c c0 (by omega)).1 (by omega))
  have hX1 := hXr (7 * t + 1)
  have hX2 := hXr (7 * t + 2)
  have hX3 := hXr (7 * t + 3)
  have hX4 := hXr (7 * t + 4)
  have hX5 := hXr (7 * t + 5)
  have hX6 := hXr (7 * t + 6)
  refine lv_aload_n hx hb dL_law_157 rfl (lv_at hl 2 rfl) ?_
  refine lv_aload_n hx hb dL_law_158 rfl (lv_at hl 3 rfl) ?_
  refine lv_iload_n hx hb dL_law_159 rfl (lv_at hl 0 rfl) ?_
  refine lv_iconst (v := iI 1) hx hb dL_law_160 rfl ?_
  refine gi_add (z := (7 * (t : Int) + 1)) hx hb dL_law_161 rfl ?_
  refine g_sld (i := 7 * t + 1) C hX hbl hbA hS (by omega) (by omega) (by omega) dL_law_162 ?_
  refine lv_aload_n hx hb dL_law_163 rfl (lv_at hl 3 rfl) ?_
  refine lv_iload_n hx hb dL_law_164 rfl (lv_at hl 0 rfl) ?_
  refine lv_iconst (v := iI 2) hx hb dL_law_165 rfl ?_
  refine gi_add (z := (7 * (t : Int) + 2)) hx hb dL_law_166 rfl ?_
  refine g_sld (i := 7 * t + 2) C hX hbl hbA hS (by omega) (by omega) (by omega) dL_law_167 ?_
  refine lv_aload_n hx hb dL_law_168 rfl (lv_at hl 3 rfl) ?_
  refine lv_iload_n hx hb dL_law_169 rfl (lv_at hl 0 rfl) ?_
  refine lv_iconst (v := iI 3) hx hb dL_law_170 rfl ?_
  refine gi_add (z := (7 * (t : Int) + 3)) hx hb dL_law_171 rfl ?_
  refine g_sld (i := 7 * t + 3) C hX hbl hbA hS (by omega) (by omega) (by omega) dL_law_172 ?_
  refine lv_aload_n hx hb dL_law_173 rfl (lv_at hl 3 rfl) ?_
  refine lv_iload_n hx hb dL_law_174 rfl (lv_at hl 0 rfl) ?_
  refine lv_iconst (v := iI 4) hx hb dL_law_175 rfl ?_
  refine gi_add (z := (7 * (t : Int) + 4)) hx hb dL_law_176 rfl ?_
  refine g_sld (i := 7 * t + 4) C hX hbl hbA hS (by omega) (by omega) (by omega) dL_law_177 ?_
  refine lv_aload_n hx hb dL_law_178 rfl (lv_at hl 3 rfl) ?_
  refine lv_iload_n hx hb dL_law_179 rfl (lv_at hl 0 rfl) ?_
  refine lv_iconst (v := iI 5) hx hb dL_law_180 rfl ?_
  refine gi_add (z := (7 * (t : Int) + 5)) hx hb dL_law_181 rfl ?_
  refine g_sld (i := 7 * t + 5) C hX hbl hbA hS (by omega) (by omega) (by omega) dL_law_182 ?_
  refine g_cv (As := [.int (iI (X (7 * t + 1))), .int (iI (X (7 * t + 2))), .int (iI (X (7 * t + 3))), .int (iI (X (7 * t + 4))), .int (iI (X (7 * t + 5)))]) (rest := []) (n := 5) C hml (c_X10_feed l D k Ax ad hDx vx fx gx (X (7 * t + 1)) (X (7 * t + 2)) (X (7 * t + 3)) (X (7 * t + 4)) (X (7 * t + 5)) (by omega) (by omega) (by omega) (by omega) (by omega)) mM_L_18 mI_X10_feed mE_X10_feed mN_X10 mC_X10_feed (by decide +kernel) 0 (ci := 10) rfl rfl hPx hS hAx ⟨Nat.le_of_ble_eq_true rfl, Nat.le_of_ble_eq_true rfl⟩ ⟨Nat.le_of_ble_eq_true rfl, Nat.le_of_ble_eq_true rfl⟩ hl.1 rfl rfl (Nat.le_of_ble_eq_true rfl) dL_law_183 (fun r_1 v_1 f_1 g_1 H1 locs hq_1 hPx hk_1 hS => ?_)
  replace hPm : gWd D (mdT k bd) vm fm gm H1 := ⟨hPm.1.kept (fun i q h => hk_1 q.1 ((hPm.1 i q h).lt) (hxm _ _ _ i q h)), hPm.2⟩
  obtain ⟨z_1, rfl, rfl, rfl, rfl, p0_1⟩ := hq_1
  show W p l e room_1 s m #[Value.ref b] below meth c _ _ 100 12380 Q (F0 m 186 ls [.int (iI z_1)])
  refine lv_pop hx hb dL_law_186 rfl ?_
  refine lv_aload_n hx hb dL_law_187 rfl (lv_at hl 1 rfl) ?_
  refine lv_aload_n hx hb dL_law_188 rfl (lv_at hl 3 rfl) ?_
  refine lv_iload_n hx hb dL_law_189 rfl (lv_at hl 0 rfl) ?_
  refine lv_iconst (v := iI 1) hx hb dL_law_190 rfl ?_
  refine gi_add (z := (7 * (t : Int) + 1)) hx hb dL_law_191 rfl ?_
  refine g_sld (i := 7 * t + 1) C hX hbl hbA hS (by omega) (by omega) (by omega) dL_law_192 ?_
  refine lv_aload_n hx hb dL_law_193 rfl (lv_at hl 3 rfl) ?_
  refine lv_iload_n hx hb dL_law_194 rfl (lv_at hl 0 rfl) ?_
  refine lv_iconst (v := iI 2) hx hb dL_law_195 rfl ?_
  refine gi_add (z := (7 * (t : Int) + 2)) hx hb dL_law_196 rfl ?_
  refine g_sld (i := 7 * t + 2) C hX hbl hbA hS (by omega) (by omega) (by omega) dL_law_197 ?_
  refine lv_aload_n hx hb dL_law_198 rfl (lv_at hl 3 rfl) ?_
  refine lv_iload_n hx hb dL_law_199 rfl (lv_at hl 0 rfl) ?_
  refine lv_iconst (v := iI 3) hx hb dL_law_200 rfl ?_
  refine gi_add (z := (7 * (t : Int) + 3)) hx hb dL_law_201 rfl ?_
  refine g_sld (i := 7 * t + 3) C hX hbl hbA hS (by omega) (by omega) (by omega) dL_law_202 ?_
  refine lv_aload_n hx hb dL_law_203 rfl (lv_at hl 3 rfl) ?_
  refine lv_iload_n hx hb dL_law_204 rfl (lv_at hl 0 rfl) ?_
  refine lv_iconst (v := iI 4) hx hb dL_law_205 rfl ?_
  refine gi_add (z := (7 * (t : Int) + 4)) hx hb dL_law_206 rfl ?_
  refine g_sld (i := 7 * t + 4) C hX hbl hbA hS (by omega) (by omega) (by omega) dL_law_207 ?_
  refine lv_aload_n hx hb dL_law_208 rfl (lv_at hl 3 rfl) ?_
  refine lv_iload_n hx hb dL_law_209 rfl (lv_at hl 0 rfl) ?_
  refine lv_iconst (v := iI 5) hx hb dL_law_210 rfl ?_
  refine gi_add (z := (7 * (t : Int) + 5)) hx hb dL_law_211 rfl ?_
  refine g_sld (i := 7 * t + 5) C hX hbl hbA hS (by omega) (by omega) (by omega) dL_law_212 ?_
  refine g_cv (As := [.int (iI (X (7 * t + 1))), .int (iI (X (7 * t + 2))), .int (iI (X (7 * t + 3))), .int (iI (X (7 * t + 4))), .int (iI (X (7 * t + 5)))]) (rest := []) (n := 5) C hml (m_X11_feed l D k Am bd hDm vm fm gm (X (7 * t + 1)) (X (7 * t + 2)) (X (7 * t + 3)) (X (7 * t + 4)) (X (7 * t + 5)) (fx 0) (by omega) (by omega) (by omega) (by omega) (by omega) k_ta) mM_L_22 mI_X11_feed mE_X11_feed mN_X11 mC_X11_feed (by decide +kernel) 0 (ci := 11) rfl rfl hPm hS hAm ⟨Nat.le_of_ble_eq_true rfl, Nat.le_of_ble_eq_true rfl⟩ ⟨Nat.le_of_ble_eq_true rfl, Nat.le_of_ble_eq_true rfl⟩ hl.1 rfl rfl (Nat.le_of_ble_eq_true rfl) dL_law_213 (fun r_2 v_2 f_2 g_2 H2 locs hq_2 hPm hk_2 hS => ?_)
  replace hPx := (⟨hPx.1.kept (fun i q h => hk_2 q.1 ((hPx.1 i q h).lt) (hmx _ _ _ i q h)), hPx.2⟩ : gWd D (rwT k ad) _ _ _ H2)
  obtain ⟨z_2, a0_2, rfl, rfl, rfl, rfl, p0_2, p1_2⟩ := hq_2
  show W p l e room_1 s m #[Value.ref b] below meth c _ _ 100 12380 Q (F0 m 216 ls [.int (iI z_2)])
  have h_tp := lwF k_tp
  have h_ta := p1_2
  rw [← k_tp] at h_ta
  refine lv_pop hx hb dL_law_216 rfl ?_
  refine lv_goto (tgt := 1080) hx hb dL_law_217 (by decide) ?_
  refine back _ _ _ _ _ _ _ _ ?_ hPx hPm hS
  exact ⟨k_st, k_tm, k_rn, k_it, k_ks, k_bk, k_cl, k_mn, k_ap, k_hs, k_be, k_zo, k_wh, k_rd, k_rt, k_fr, k_en, k_ho, k_hw, k_wo, k_ci, k_an, k_ah, k_ad, k_sq, k_cd, k_kd, k_op, k_la, k_lo, k_om, k_oi, k_ti, k_h0, k_ck, k_or, k_wt, k_wi, k_sh, k_bx, k_rp, k_bm, h_tp, h_ta, k_fk, k_fp⟩
set_option maxHeartbeats 4000000 in
set_option maxRecDepth 100000 in
theorem law_case_2 (C : gC D k p s m #[Value.ref b] c code R_law) (hml : c.maxLocals = 4) (hX : va_X b L (fun j => iI (X j)) s s.heap) (hXr : ∀ j, inR (X j)) (hbl : b < s.heap.size) (ht : 7 * t + 7 ≤ L) (hL : L ≤ 3584) (hE : gEv za (fun q : Nat => s.heap.size ≤ q) s s.heap) (hDx : rwD Ax k ad) (hDm : mdD Am k bd) (hAx : ∀ q : Nat, Ax q → s.heap.size ≤ q) (hAm : ∀ q : Nat, Am q → s.heap.size ≤ q) (hxm : ∀ (v : gV) (f g : gF) (i : Nat) (q : Nat × va_E), (mdW k bd v f g)[i]? = some q → ¬ Ax q.1) (hmx : ∀ (v : gV) (f g : gF) (i : Nat) (q : Nat × va_E), (rwW k ad v f g)[i]? = some q → ¬ Am q.1) (hI : lwI vx fx vm fm) (hPx : gWd D (rwT k ad) vx fx gx H) (hPm : gWd D (mdT k bd) vm fm gm H) (hS : va_S (fun q : Nat => s.heap.size ≤ q) s.heap H locs) (hl : lv_has ls 4 [(3, .int (iI (7 * (t : Int)))), (2, .ref (bd 0)), (1, .ref (ad 0)), (0, .ref b)]) (back : ∀ (vx vm : gV) (fx gx fm gm : gF) (H : Heap) (locs : List Loc), lwI vx fx vm fm → gWd D (rwT k ad) vx fx gx H → gWd D (mdT k bd) vm fm gm H → va_S (fun q : Nat => s.heap.size ≤ q) s.heap H locs → W p l e room_1 s m #[Value.ref b] below meth c H locs 100 12380 Q (F0 m 1080 ls [])) : W p l e room_1 s m #[Value.ref b] below meth c H locs 100 12380 Q (F0 m 220 ls []) := by
  have hx := C.1
  have hb := C.2.1
  have hbA : ¬ (fun q : Nat => s.heap.size ≤ q) b := Nat.not_le.mpr hbl
  have hT0 : 0 ≤ vx 0 ∧ vx 0 ≤ 700 := hPx.2.1 0
  have hT1 : 0 ≤ vm 2 ∧ vm 2 ≤ 700 := hPm.2.1 2
  obtain ⟨k_st, k_tm, k_rn, k_it, k_ks, k_bk, k_cl, k_mn, k_ap, k_hs, k_be, k_zo, k_wh, k_rd, k_rt, k_fr, k_en, k_ho, k_hw, k_wo, k_ci, k_an, k_ah, k_ad, k_sq, k_cd, k_kd, k_op, k_la, k_lo, k_om, k_oi, k_ti, k_h0, k_ck, k_or, k_wt, k_wi, k_sh, k_bx, k_rp, k_bm, k_tp, k_ta, k_fk, k_fp⟩ := id hI
  have g_cl : 0 ≤ (vx 21) ∧ (vx 21) ≤ 16 := hPx.2.1 21
  have g_mn : 0 ≤ (vx 23) ∧ (vx 23) ≤ 300 := hPx.2.1 23
  have g_rn : 0 ≤ (vx 1) ∧ (vx 1) ≤ 4 := hPx.2.1 1
  have g_ks : 0 ≤ (vx 3) ∧ (vx 3) ≤ 4 := hPx.2.1 3
  have g_ox : 0 ≤ (vx 22) ∧ (vx 22) ≤ 3 := hPx.2.1 22
  have g_tm : 0 ≤ (vx 26) ∧ (vx 26) ≤ 1000000 := hPx.2.1 26
  have g_wh : ∀ k, 0 ≤ (fx 20) k ∧ (fx 20) k ≤ 15 := fun k => hPx.2.2 20 k
  have g_fr : ∀ k, 0 ≤ (fx 23) k ∧ (fx 23) k ≤ 1000000 := fun k => hPx.2.2 23 k
  have g_la : ∀ k, 0 ≤ (fx 18) k ∧ (fx 18) k ≤ 3 := fun k => hPx.2.2 18 k
  have g_ti : ∀ k, 0 ≤ (fx 31) k ∧ (fx 31) k ≤ 20 := fun k => hPx.2.2 31 k
  have m_oi : OI (vm 25) (fm 24) (fm 30) (fx 27) := by have h := k_oi; rw [k_mn, k_wh, k_hw] at h; exact h
  have m_ti : TI (vm 25) (vm 24) (fm 27) (fm 28) (fm 30) := by have h := k_ti; rw [k_mn, k_tm, k_fr, k_en, k_hw] at h; exact h
  have m_wi : ∀ c, 0 ≤ c → c < (vm 22) → WI (vm 24) (fm 35) (fm 36) (fm 34) c := fun c c0 c1 => by have h := k_wi c c0 (by omega); rw [k_tm, k_wo, k_ci] at h; exact WI_ti h ((k_wt c c0 (by omega)).1 (by omega))
  have hX1 := hXr (7 * t + 1)
  have hX2 := hXr (7 * t + 2)
  have hX3 := hXr (7 * t + 3)
  have hX4 := hXr (7 * t + 4)
  have hX5 := hXr (7 * t + 5)
  have hX6 := hXr (7 * t + 6)
  refine lv_aload_n hx hb dL_law_220 rfl (lv_at hl 2 rfl) ?_
  refine lv_aload_n hx hb dL_law_221 rfl (lv_at hl 3 rfl) ?_
  refine lv_iload_n hx hb dL_law_222 rfl (lv_at hl 0 rfl) ?_
  refine lv_iconst (v := iI 1) hx hb dL_law_223 rfl ?_
  refine gi_add (z := (7 * (t : Int) + 1)) hx hb dL_law_224 rfl ?_
  refine g_sld (i := 7 * t + 1) C hX hbl hbA hS (by omega) (by omega) (by omega) dL_law_225 ?_
  refine g_cvE (As := [.int (iI (X (7 * t + 1)))]) (rest := []) (n := 1) C hE hml (q_e_Ro_load l D k Ax ad hDx za vx fx gx (X (7 * t + 1)) (by omega) k_sh k_bx) mM_L_23 mI_X10_load mE_X10_load mN_X10 mC_X10_load (by decide +kernel) 0 (ci := 10) rfl rfl hPx hS hAx ⟨Nat.le_of_ble_eq_true rfl, Nat.le_of_ble_eq_true rfl⟩ ⟨Nat.le_of_ble_eq_true rfl, Nat.le_of_ble_eq_true rfl⟩ hl.1 rfl rfl (Nat.le_of_ble_eq_true rfl) dL_law_226 (fun r_1 v_1 f_1 g_1 H1 locs hq_1 hPx hk_1 hS => ?_)
  replace hPm : gWd D (mdT k bd) vm fm gm H1 := ⟨hPm.1.kept (fun i q h => hk_1 q.1 ((hPm.1 i q h).lt) (hxm _ _ _ i q h)), hPm.2⟩
  obtain ⟨z_1, w0_1, w1_1, w2_1, w3_1, w4_1, w5_1, w6_1, w7_1, w8_1, w9_1, w10_1, w11_1, w12_1, w13_1, w14_1, w15_1, w16_1, w17_1, w18_1, w19_1, w20_1, w21_1, w22_1, w23_1, w24_1, w25_1, w26_1, w27_1, w28_1, a1_1, a2_1, a3_1, a4_1, a5_1, a6_1, a7_1, a8_1, a9_1, a10_1, a11_1, a12_1, a13_1, a14_1, a15_1, a16_1, a17_1, a27_1, a31_1, rfl, rfl, rfl, rfl, p0_1, p1_1, p2_1, p3_1, p4_1, p5_1, p6_1, p7_1, p8_1, p9_1, p10_1⟩ := hq_1
  show W p l e room_1 s m #[Value.ref b] below meth c _ _ 100 12380 Q (F0 m 229 ls [.int (iI z_1)])
  refine lv_pop hx hb dL_law_229 rfl ?_
  refine lv_aload_n hx hb dL_law_230 rfl (lv_at hl 1 rfl) ?_
  refine lv_aload_n hx hb dL_law_231 rfl (lv_at hl 3 rfl) ?_
  refine lv_iload_n hx hb dL_law_232 rfl (lv_at hl 0 rfl) ?_
  refine lv_iconst (v := iI 1) hx hb dL_law_233 rfl ?_
  refine gi_add (z := (7 * (t : Int) + 1)) hx hb dL_law_234 rfl ?_
  refine g_sld (i := 7 * t + 1) C hX hbl hbA hS (by omega) (by omega) (by omega) dL_law_235 ?_
  refine g_cv (As := [.int (iI (X (7 * t + 1)))]) (rest := []) (n := 1) C hml (q_n_load l D k Am bd hDm vm fm gm (X (7 * t + 1)) (fx 0) (by omega) k_ta k_bm k_rp) mM_L_27 mI_X11_load mE_X11_load mN_X11 mC_X11_load (by decide +kernel) 0 (ci := 11) rfl rfl hPm hS hAm ⟨Nat.le_of_ble_eq_true rfl, Nat.le_of_ble_eq_true rfl⟩ ⟨Nat.le_of_ble_eq_true rfl, Nat.le_of_ble_eq_true rfl⟩ hl.1 rfl rfl (Nat.le_of_ble_eq_true rfl) dL_law_236 (fun r_2 v_2 f_2 g_2 H2 locs hq_2 hPm hk_2 hS => ?_)
  replace hPx := (⟨hPx.1.kept (fun i q h => hk_2 q.1 ((hPx.1 i q h).lt) (hmx _ _ _ i q h)), hPx.2⟩ : gWd D (rwT k ad) _ _ _ H2)
  obtain ⟨z_2, w6_2, w7_2, w8_2, w9_2, w10_2, w11_2, w16_2, w20_2, w21_2, w27_2, w17_2, w15_2, w19_2, w0_2, w3_2, w4_2, w5_2, w12_2, w13_2, w14_2, w18_2, w22_2, w23_2, w24_2, w25_2, w26_2, a11_2, a12_2, a17_2, a14_2, a16_2, a5_2, a6_2, a7_2, a8_2, a1_2, a2_2, a3_2, a4_2, a9_2, a10_2, a13_2, a15_2, a18_2, a20_2, a19_2, a21_2, a23_2, b0_2, rfl, rfl, rfl, rfl, p0_2, p1_2, p2_2, p3_2, p4_2, p5_2, p6_2, p7_2, p8_2, p9_2⟩ := hq_2
  show W p l e room_1 s m #[Value.ref b] below meth c _ _ 100 12380 Q (F0 m 239 ls [.int (iI z_2)])
  have g_it : ∀ k, 0 ≤ a2_1 k ∧ a2_1 k ≤ 10 := fun k => hPx.2.2 2 k
  obtain ⟨h_st, h_tm, h_rn, h_it, h_ks, h_bk, h_cl, h_mn, h_ap, h_hs, h_be, h_zo, h_sq, h_cd, h_kd, h_op, h_la, h_lo, h_om, h_oi, h_ti, h_h0, h_ck, h_or, h_wt, h_wi, h_sh, h_bx, h_rp, h_bm, h_tp, h_fk, h_fp, h_z⟩ := rl_load (a1 := (X (7 * t + 1))) k_st k_tm k_rn k_it k_ks k_bk k_cl k_mn k_ap k_hs k_be k_zo k_wh k_rd k_rt k_fr k_en k_ho k_hw k_wo k_ci k_an k_ah k_ad k_sq k_cd k_kd k_op k_la k_lo k_om k_oi k_ti k_h0 k_ck k_or k_wt k_wi k_sh k_bx k_rp k_bm k_tp k_ta k_fk k_fp g_cl g_mn g_rn g_ks g_ox g_tm g_wh g_fr g_la g_ti p0_1 p1_1 p2_1 p3_1 p4_1 p5_1 p6_1 p7_1 p8_1 p9_1 p10_1 p0_2 p1_2 p2_2 p3_2 p4_2 p5_2 p6_2 p7_2 p8_2 p9_2 g_it
  refine lv_pop hx hb dL_law_239 rfl ?_
  refine lv_goto (tgt := 1080) hx hb dL_law_240 (by decide) ?_
  refine back _ _ _ _ _ _ _ _ ?_ hPx hPm hS
  exact ⟨h_st, h_tm, h_rn, h_it, h_ks, h_bk, h_cl, h_mn, h_ap, h_hs, h_be, h_zo, k_wh, k_rd, k_rt, k_fr, k_en, k_ho, k_hw, k_wo, k_ci, k_an, k_ah, k_ad, h_sq, h_cd, h_kd, h_op, h_la, h_lo, h_om, h_oi, h_ti, h_h0, h_ck, h_or, h_wt, h_wi, h_sh, h_bx, h_rp, h_bm, h_tp, k_ta, h_fk, h_fp⟩
set_option maxHeartbeats 4000000 in
set_option maxRecDepth 100000 in
theorem law_case_3 (C : gC D k p s m #[Value.ref b] c code R_law) (hml : c.maxLocals = 4) (hX : va_X b L (fun j => iI (X j)) s s.heap) (hXr : ∀ j, inR (X j)) (hbl : b < s.heap.size) (ht : 7 * t + 7 ≤ L) (hL : L ≤ 3584) (hE : gEv za (fun q : Nat => s.heap.size ≤ q) s s.heap) (hDx : rwD Ax k ad) (hDm : mdD Am k bd) (hAx : ∀ q : Nat, Ax q → s.heap.size ≤ q) (hAm : ∀ q : Nat, Am q → s.heap.size ≤ q) (hxm : ∀ (v : gV) (f g : gF) (i : Nat) (q : Nat × va_E), (mdW k bd v f g)[i]? = some q → ¬ Ax q.1) (hmx : ∀ (v : gV) (f g : gF) (i : Nat) (q : Nat × va_E), (rwW k ad v f g)[i]? = some q → ¬ Am q.1) (hI : lwI vx fx vm fm) (hPx : gWd D (rwT k ad) vx fx gx H) (hPm : gWd D (mdT k bd) vm fm gm H) (hS : va_S (fun q : Nat => s.heap.size ≤ q) s.heap H locs) (hl : lv_has ls 4 [(3, .int (iI (7 * (t : Int)))), (2, .ref (bd 0)), (1, .ref (ad 0)), (0, .ref b)]) (back : ∀ (vx vm : gV) (fx gx fm gm : gF) (H : Heap) (locs : List Loc), lwI vx fx vm fm → gWd D (rwT k ad) vx fx gx H → gWd D (mdT k bd) vm fm gm H → va_S (fun q : Nat => s.heap.size ≤ q) s.heap H locs → W p l e room_1 s m #[Value.ref b] below meth c H locs 100 12380 Q (F0 m 1080 ls [])) : W p l e room_1 s m #[Value.ref b] below meth c H locs 100 12380 Q (F0 m 243 ls []) := by
  have hx := C.1
  have hb := C.2.1
  have hbA : ¬ (fun q : Nat => s.heap.size ≤ q) b := Nat.not_le.mpr hbl
  have hT0 : 0 ≤ vx 0 ∧ vx 0 ≤ 700 := hPx.2.1 0
  have hT1 : 0 ≤ vm 2 ∧ vm 2 ≤ 700 := hPm.2.1 2
  obtain ⟨k_st, k_tm, k_rn, k_it, k_ks, k_bk, k_cl, k_mn, k_ap, k_hs, k_be, k_zo, k_wh, k_rd, k_rt, k_fr, k_en, k_ho, k_hw, k_wo, k_ci, k_an, k_ah, k_ad, k_sq, k_cd, k_kd, k_op, k_la, k_lo, k_om, k_oi, k_ti, k_h0, k_ck, k_or, k_wt, k_wi, k_sh, k_bx, k_rp, k_bm, k_tp, k_ta, k_fk, k_fp⟩ := id hI
  have g_cl : 0 ≤ (vx 21) ∧ (vx 21) ≤ 16 := hPx.2.1 21
  have g_mn : 0 ≤ (vx 23) ∧ (vx 23) ≤ 300 := hPx.2.1 23
  have g_rn : 0 ≤ (vx 1) ∧ (vx 1) ≤ 4 := hPx.2.1 1
  have g_ks : 0 ≤ (vx 3) ∧ (vx 3) ≤ 4 := hPx.2.1 3
  have g_ox : 0 ≤ (vx 22) ∧ (vx 22) ≤ 3 := hPx.2.1 22
  have g_tm : 0 ≤ (vx 26) ∧ (vx 26) ≤ 1000000 := hPx.2.1 26
  have g_wh : ∀ k, 0 ≤ (fx 20) k ∧ (fx 20) k ≤ 15 := fun k => hPx.2.2 20 k
  have g_fr : ∀ k, 0 ≤ (fx 23) k ∧ (fx 23) k ≤ 1000000 := fun k => hPx.2.2 23 k
  have g_la : ∀ k, 0 ≤ (fx 18) k ∧ (fx 18) k ≤ 3 := fun k => hPx.2.2 18 k
  have g_ti : ∀ k, 0 ≤ (fx 31) k ∧ (fx 31) k ≤ 20 := fun k => hPx.2.2 31 k
  have m_oi : OI (vm 25) (fm 24) (fm 30) (fx 27) := by have h := k_oi; rw [k_mn, k_wh, k_hw] at h; exact h
  have m_ti : TI (vm 25) (vm 24) (fm 27) (fm 28) (fm 30) := by have h := k_ti; rw [k_mn, k_tm, k_fr, k_en, k_hw] at h; exact h
  have m_wi : ∀ c, 0 ≤ c → c < (vm 22) → WI (vm 24) (fm 35) (fm 36) (fm 34) c := fun c c0 c1 => by have h := k_wi c c0 (by omega); rw [k_tm, k_wo, k_ci] at h; exact WI_ti h ((k_wt c c0 (by omega)).1 (by omega))
  have hX1 := hXr (7 * t + 1)
  have hX2 := hXr (7 * t + 2)
  have hX3 := hXr (7 * t + 3)
  have hX4 := hXr (7 * t + 4)
  have hX5 := hXr (7 * t + 5)
  have hX6 := hXr (7 * t + 6)
  refine lv_aload_n hx hb dL_law_243 rfl (lv_at hl 2 rfl) ?_
  refine lv_aload_n hx hb dL_law_244 rfl (lv_at hl 3 rfl) ?_
  refine lv_iload_n hx hb dL_law_245 rfl (lv_at hl 0 rfl) ?_
  refine lv_iconst (v := iI 1) hx hb dL_law_246 rfl ?_
  refine gi_add (z := (7 * (t : Int) + 1)) hx hb dL_law_247 rfl ?_
  refine g_sld (i := 7 * t + 1) C hX hbl hbA hS (by omega) (by omega) (by omega) dL_law_248 ?_
  refine g_cv (As := [.int (iI (X (7 * t + 1)))]) (rest := []) (n := 1) C hml (c_X10_fault l D k Ax ad hDx vx fx gx (X (7 * t + 1)) (by omega)) mM_L_28 mI_X10_fault mE_X10_fault mN_X10 mC_X10_fault (by decide +kernel) 0 (ci := 10) rfl rfl hPx hS hAx ⟨Nat.le_of_ble_eq_true rfl, Nat.le_of_ble_eq_true rfl⟩ ⟨Nat.le_of_ble_eq_true rfl, Nat.le_of_ble_eq_true rfl⟩ hl.1 rfl rfl (Nat.le_of_ble_eq_true rfl) dL_law_249 (fun r_1 v_1 f_1 g_1 H1 locs hq_1 hPx hk_1 hS => ?_)
  replace hPm : gWd D (mdT k bd) vm fm gm H1 := ⟨hPm.1.kept (fun i q h => hk_1 q.1 ((hPm.1 i q h).lt) (hxm _ _ _ i q h)), hPm.2⟩
  obtain ⟨z_1, rfl, rfl, rfl, rfl, p0_1, p1_1⟩ := hq_1
  show W p l e room_1 s m #[Value.ref b] below meth c _ _ 100 12380 Q (F0 m 252 ls [.int (iI z_1)])
  refine lv_pop hx hb dL_law_252 rfl ?_
  refine lv_aload_n hx hb dL_law_253 rfl (lv_at hl 1 rfl) ?_
  refine lv_aload_n hx hb dL_law_254 rfl (lv_at hl 3 rfl) ?_
  refine lv_iload_n hx hb dL_law_255 rfl (lv_at hl 0 rfl) ?_
  refine lv_iconst (v := iI 1) hx hb dL_law_256 rfl ?_
  refine gi_add (z := (7 * (t : Int) + 1)) hx hb dL_law_257 rfl ?_
  refine g_sld (i := 7 * t + 1) C hX hbl hbA hS (by omega) (by omega) (by omega) dL_law_258 ?_
  refine g_cv (As := [.int (iI (X (7 * t + 1)))]) (rest := []) (n := 1) C hml (m_X11_fault l D k Am bd hDm vm fm gm (X (7 * t + 1)) (by omega)) mM_L_31 mI_X11_fault mE_X11_fault mN_X11 mC_X11_fault (by decide +kernel) 0 (ci := 11) rfl rfl hPm hS hAm ⟨Nat.le_of_ble_eq_true rfl, Nat.le_of_ble_eq_true rfl⟩ ⟨Nat.le_of_ble_eq_true rfl, Nat.le_of_ble_eq_true rfl⟩ hl.1 rfl rfl (Nat.le_of_ble_eq_true rfl) dL_law_259 (fun r_2 v_2 f_2 g_2 H2 locs hq_2 hPm hk_2 hS => ?_)
  replace hPx := (⟨hPx.1.kept (fun i q h => hk_2 q.1 ((hPx.1 i q h).lt) (hmx _ _ _ i q h)), hPx.2⟩ : gWd D (rwT k ad) _ _ _ H2)
  obtain ⟨z_2, rfl, rfl, rfl, rfl, p0_2, p1_2⟩ := hq_2
  show W p l e room_1 s m #[Value.ref b] below meth c _ _ 100 12380 Q (F0 m 262 ls [.int (iI z_2)])
  refine lv_pop hx hb dL_law_262 rfl ?_
  refine lv_goto (tgt := 1080) hx hb dL_law_263 (by decide) ?_
  refine back _ _ _ _ _ _ _ _ ?_ hPx hPm hS
  exact ⟨k_st, k_tm, k_rn, k_it, k_ks, k_bk, k_cl, k_mn, k_ap, k_hs, k_be, k_zo, k_wh, k_rd, k_rt, k_fr, k_en, k_ho, k_hw, k_wo, k_ci, k_an, k_ah, k_ad, k_sq, k_cd, k_kd, k_op, k_la, k_lo, k_om, k_oi, k_ti, k_h0, k_ck, k_or, k_wt, k_wi, k_sh, k_bx, k_rp, k_bm, k_tp, k_ta, k_fk, k_fp⟩
set_option maxHeartbeats 4000000 in
set_option maxRecDepth 100000 in
theorem law_case_4 (C : gC D k p s m #[Value.ref b] c code R_law) (hml : c.maxLocals = 4) (hX : va_X b L (fun j => iI (X j)) s s.heap) (hXr : ∀ j, inR (X j)) (hbl : b < s.heap.size) (ht : 7 * t + 7 ≤ L) (hL : L ≤ 3584) (hE : gEv za (fun q : Nat => s.heap.size ≤ q) s s.heap) (hDx : rwD Ax k ad) (hDm : mdD Am k bd) (hAx : ∀ q : Nat, Ax q → s.heap.size ≤ q) (hAm : ∀ q : Nat, Am q → s.heap.size ≤ q) (hxm : ∀ (v : gV) (f g : gF) (i : Nat) (q : Nat × va_E), (mdW k bd v f g)[i]? = some q → ¬ Ax q.1) (hmx : ∀ (v : gV) (f g : gF) (i : Nat) (q : Nat × va_E), (rwW k ad v f g)[i]? = some q → ¬ Am q.1) (hI : lwI vx fx vm fm) (hPx : gWd D (rwT k ad) vx fx gx H) (hPm : gWd D (mdT k bd) vm fm gm H) (hS : va_S (fun q : Nat => s.heap.size ≤ q) s.heap H locs) (hl : lv_has ls 4 [(3, .int (iI (7 * (t : Int)))), (2, .ref (bd 0)), (1, .ref (ad 0)), (0, .ref b)]) (back : ∀ (vx vm : gV) (fx gx fm gm : gF) (H : Heap) (locs : List Loc), lwI vx fx vm fm → gWd D (rwT k ad) vx fx gx H → gWd D (mdT k bd) vm fm gm H → va_S (fun q : Nat => s.heap.size ≤ q) s.heap H locs → W p l e room_1 s m #[Value.ref b] below meth c H locs 100 12380 Q (F0 m 1080 ls [])) : W p l e room_1 s m #[Value.ref b] below meth c H locs 100 12380 Q (F0 m 266 ls []) := by
  have hx := C.1
  have hb := C.2.1
  have hbA : ¬ (fun q : Nat => s.heap.size ≤ q) b := Nat.not_le.mpr hbl
  have hT0 : 0 ≤ vx 0 ∧ vx 0 ≤ 700 := hPx.2.1 0
  have hT1 : 0 ≤ vm 2 ∧ vm 2 ≤ 700 := hPm.2.1 2
  obtain ⟨k_st, k_tm, k_rn, k_it, k_ks, k_bk, k_cl, k_mn, k_ap, k_hs, k_be, k_zo, k_wh, k_rd, k_rt, k_fr, k_en, k_ho, k_hw, k_wo, k_ci, k_an, k_ah, k_ad, k_sq, k_cd, k_kd, k_op, k_la, k_lo, k_om, k_oi, k_ti, k_h0, k_ck, k_or, k_wt, k_wi, k_sh, k_bx, k_rp, k_bm, k_tp, k_ta, k_fk, k_fp⟩ := id hI
  have g_cl : 0 ≤ (vx 21) ∧ (vx 21) ≤ 16 := hPx.2.1 21
  have g_mn : 0 ≤ (vx 23) ∧ (vx 23) ≤ 300 := hPx.2.1 23
  have g_rn : 0 ≤ (vx 1) ∧ (vx 1) ≤ 4 := hPx.2.1 1
  have g_ks : 0 ≤ (vx 3) ∧ (vx 3) ≤ 4 := hPx.2.1 3
  have g_ox : 0 ≤ (vx 22) ∧ (vx 22) ≤ 3 := hPx.2.1 22
  have g_tm : 0 ≤ (vx 26) ∧ (vx 26) ≤ 1000000 := hPx.2.1 26
  have g_wh : ∀ k, 0 ≤ (fx 20) k ∧ (fx 20) k ≤ 15 := fun k => hPx.2.2 20 k
  have g_fr : ∀ k, 0 ≤ (fx 23) k ∧ (fx 23) k ≤ 1000000 := fun k => hPx.2.2 23 k
  have g_la : ∀ k, 0 ≤ (fx 18) k ∧ (fx 18) k ≤ 3 := fun k => hPx.2.2 18 k
  have g_ti : ∀ k, 0 ≤ (fx 31) k ∧ (fx 31) k ≤ 20 := fun k => hPx.2.2 31 k
  have m_oi : OI (vm 25) (fm 24) (fm 30) (fx 27) := by have h := k_oi; rw [k_mn, k_wh, k_hw] at h; exact h
  have m_ti : TI (vm 25) (vm 24) (fm 27) (fm 28) (fm 30) := by have h := k_ti; rw [k_mn, k_tm, k_fr, k_en, k_hw] at h; exact h
  have m_wi : ∀ c, 0 ≤ c → c < (vm 22) → WI (vm 24) (fm 35) (fm 36) (fm 34) c := fun c c0 c1 => by have h := k_wi c c0 (by omega); rw [k_tm, k_wo, k_ci] at h; exact WI_ti h ((k_wt c c0 (by omega)).1 (by omega))
  have hX1 := hXr (7 * t + 1)
  have hX2 := hXr (7 * t + 2)
  have hX3 := hXr (7 * t + 3)
  have hX4 := hXr (7 * t + 4)
  have hX5 := hXr (7 * t + 5)
  have hX6 := hXr (7 * t + 6)
  refine lv_aload_n hx hb dL_law_266 rfl (lv_at hl 2 rfl) ?_
  refine g_cv (As := []) (rest := []) (n := 0) C hml (x_Ro_climber l D k Ax ad hDx vx fx gx) mM_L_32 mI_X10_climber mE_X10_climber mN_X10 mC_X10_climber (by decide +kernel) 0 (ci := 10) rfl rfl hPx hS hAx ⟨Nat.le_of_ble_eq_true rfl, Nat.le_of_ble_eq_true rfl⟩ ⟨Nat.le_of_ble_eq_true rfl, Nat.le_of_ble_eq_true rfl⟩ hl.1 rfl rfl (Nat.le_of_ble_eq_true rfl) dL_law_267 (fun r_1 v_1 f_1 g_1 H1 locs hq_1 hPx hk_1 hS => ?_)
  replace hPm : gWd D (mdT k bd) vm fm gm H1 := ⟨hPm.1.kept (fun i q h => hk_1 q.1 ((hPm.1 i q h).lt) (hxm _ _ _ i q h)), hPm.2⟩
  obtain ⟨z_1, w25_1, rfl, rfl, rfl, rfl, p0_1, p1_1⟩ := hq_1
  show W p l e room_1 s m #[Value.ref b] below meth c _ _ 100 12380 Q (F0 m 270 ls [.int (iI z_1)])
  refine lv_pop hx hb dL_law_270 rfl ?_
  refine lv_aload_n hx hb dL_law_271 rfl (lv_at hl 1 rfl) ?_
  refine g_cv (As := []) (rest := []) (n := 0) C hml (y_climber l D k Am bd hDm vm fm gm) mM_L_35 mI_X11_climber mE_X11_climber mN_X11 mC_X11_climber (by decide +kernel) 0 (ci := 11) rfl rfl hPm hS hAm ⟨Nat.le_of_ble_eq_true rfl, Nat.le_of_ble_eq_true rfl⟩ ⟨Nat.le_of_ble_eq_true rfl, Nat.le_of_ble_eq_true rfl⟩ hl.1 rfl rfl (Nat.le_of_ble_eq_true rfl) dL_law_272 (fun r_2 v_2 f_2 g_2 H2 locs hq_2 hPm hk_2 hS => ?_)
  replace hPx := (⟨hPx.1.kept (fun i q h => hk_2 q.1 ((hPx.1 i q h).lt) (hmx _ _ _ i q h)), hPx.2⟩ : gWd D (rwT k ad) _ _ _ H2)
  obtain ⟨z_2, w0_2, a22_2, rfl, rfl, rfl, rfl, p0_2, p1_2⟩ := hq_2
  show W p l e room_1 s m #[Value.ref b] below meth c _ _ 100 12380 Q (F0 m 275 ls [.int (iI z_2)])
  obtain ⟨h_st, h_cl, h_op, h_la, h_lo, h_om, h_ck, h_or, h_wt, h_wi, h_z⟩ := rl_climber k_st k_tm k_rn k_it k_ks k_bk k_cl k_mn k_ap k_hs k_be k_zo k_wh k_rd k_rt k_fr k_en k_ho k_hw k_wo k_ci k_an k_ah k_ad k_sq k_cd k_kd k_op k_la k_lo k_om k_oi k_ti k_h0 k_ck k_or k_wt k_wi k_sh k_bx k_rp k_bm k_tp k_ta k_fk k_fp g_cl g_mn g_rn g_ks g_ox g_tm g_wh g_fr g_la g_ti p0_1 p1_1 p0_2 p1_2
  refine lv_pop hx hb dL_law_275 rfl ?_
  refine lv_goto (tgt := 1080) hx hb dL_law_276 (by decide) ?_
  refine back _ _ _ _ _ _ _ _ ?_ hPx hPm hS
  exact ⟨h_st, k_tm, k_rn, k_it, k_ks, k_bk, h_cl, k_mn, k_ap, k_hs, k_be, k_zo, k_wh, k_rd, k_rt, k_fr, k_en, k_ho, k_hw, k_wo, k_ci, k_an, k_ah, k_ad, k_sq, k_cd, k_kd, h_op, h_la, h_lo, h_om, k_oi, k_ti, k_h0, h_ck, h_or, h_wt, h_wi, k_sh, k_bx, k_rp, k_bm, k_tp, k_ta, k_fk, k_fp⟩
set_option maxHeartbeats 4000000 in
set_option maxRecDepth 100000 in
theorem law_case_5 (C : gC D k p s m #[Value.ref b] c code R_law) (hml : c.maxLocals = 4) (hX : va_X b L (fun j => iI (X j)) s s.heap) (hXr : ∀ j, inR (X j)) (hbl : b < s.heap.size) (ht : 7 * t + 7 ≤ L) (hL : L ≤ 3584) (hE : gEv za (fun q : Nat => s.heap.size ≤ q) s s.heap) (hDx : rwD Ax k ad) (hDm : mdD Am k bd) (hAx : ∀ q : Nat, Ax q → s.heap.size ≤ q) (hAm : ∀ q : Nat, Am q → s.heap.size ≤ q) (hxm : ∀ (v : gV) (f g : gF) (i : Nat) (q : Nat × va_E), (mdW k bd v f g)[i]? = some q → ¬ Ax q.1) (hmx : ∀ (v : gV) (f g : gF) (i : Nat) (q : Nat × va_E), (rwW k ad v f g)[i]? = some q → ¬ Am q.1) (hI : lwI vx fx vm fm) (hPx : gWd D (rwT k ad) vx fx gx H) (hPm : gWd D (mdT k bd) vm fm gm H) (hS : va_S (fun q : Nat => s.heap.size ≤ q) s.heap H locs) (hl : lv_has ls 4 [(3, .int (iI (7 * (t : Int)))), (2, .ref (bd 0)), (1, .ref (ad 0)), (0, .ref b)]) (back : ∀ (vx vm : gV) (fx gx fm gm : gF) (H : Heap) (locs : List Loc), lwI vx fx vm fm → gWd D (rwT k ad) vx fx gx H → gWd D (mdT k bd) vm fm gm H → va_S (fun q : Nat => s.heap.size ≤ q) s.heap H locs → W p l e room_1 s m #[Value.ref b] below meth c H locs 100 12380 Q (F0 m 1080 ls [])) : W p l e room_1 s m #[Value.ref b] below meth c H locs 100 12380 Q (F0 m 279 ls []) := by
  have hx := C.1
  have hb := C.2.1
  have hbA : ¬ (fun q : Nat => s.heap.size ≤ q) b := Nat.not_le.mpr hbl
  have hT0 : 0 ≤ vx 0 ∧ vx 0 ≤ 700 := hPx.2.1 0
  have hT1 : 0 ≤ vm 2 ∧ vm 2 ≤ 700 := hPm.2.1 2
  obtain ⟨k_st, k_tm, k_rn, k_it, k_ks, k_bk, k_cl, k_mn, k_ap, k_hs, k_be, k_zo, k_wh, k_rd, k_rt, k_fr, k_en, k_ho, k_hw, k_wo, k_ci, k_an, k_ah, k_ad, k_sq, k_cd, k_kd, k_op, k_la, k_lo, k_om, k_oi, k_ti, k_h0, k_ck, k_or, k_wt, k_wi, k_sh, k_bx, k_rp, k_bm, k_tp, k_ta, k_fk, k_fp⟩ := id hI
  have g_cl : 0 ≤ (vx 21) ∧ (vx 21) ≤ 16 := hPx.2.1 21
  have g_mn : 0 ≤ (vx 23) ∧ (vx 23) ≤ 300 := hPx.2.1 23
  have g_rn : 0 ≤ (vx 1) ∧ (vx 1) ≤ 4 := hPx.2.1 1
  have g_ks : 0 ≤ (vx 3) ∧ (vx 3) ≤ 4 := hPx.2.1 3
  have g_ox : 0 ≤ (vx 22) ∧ (vx 22) ≤ 3 := hPx.2.1 22
  have g_tm : 0 ≤ (vx 26) ∧ (vx 26) ≤ 1000000 := hPx.2.1 26
  have g_wh : ∀ k, 0 ≤ (fx 20) k ∧ (fx 20) k ≤ 15 := fun k => hPx.2.2 20 k
  have g_fr : ∀ k, 0 ≤ (fx 23) k ∧ (fx 23) k ≤ 1000000 := fun k => hPx.2.2 23 k
  have g_la : ∀ k, 0 ≤ (fx 18) k ∧ (fx 18) k ≤ 3 := fun k => hPx.2.2 18 k
  have g_ti : ∀ k, 0 ≤ (fx 31) k ∧ (fx 31) k ≤ 20 := fun k => hPx.2.2 31 k
  have m_oi : OI (vm 25) (fm 24) (fm 30) (fx 27) := by have h := k_oi; rw [k_mn, k_wh, k_hw] at h; exact h
  have m_ti : TI (vm 25) (vm 24) (fm 27) (fm 28) (fm 30) := by have h := k_ti; rw [k_mn, k_tm, k_fr, k_en, k_hw] at h; exact h
  have m_wi : ∀ c, 0 ≤ c → c < (vm 22) → WI (vm 24) (fm 35) (fm 36) (fm 34) c := fun c c0 c1 => by have h := k_wi c c0 (by omega); rw [k_tm, k_wo, k_ci] at h; exact WI_ti h ((k_wt c c0 (by omega)).1 (by omega))
  have hX1 := hXr (7 * t + 1)
  have hX2 := hXr (7 * t + 2)
  have hX3 := hXr (7 * t + 3)
  have hX4 := hXr (7 * t + 4)
  have hX5 := hXr (7 * t + 5)
  have hX6 := hXr (7 * t + 6)
  refine lv_aload_n hx hb dL_law_279 rfl (lv_at hl 2 rfl) ?_
  refine lv_aload_n hx hb dL_law_280 rfl (lv_at hl 3 rfl) ?_
  refine lv_iload_n hx hb dL_law_281 rfl (lv_at hl 0 rfl) ?_
  refine lv_iconst (v := iI 1) hx hb dL_law_282 rfl ?_
  refine gi_add (z := (7 * (t : Int) + 1)) hx hb dL_law_283 rfl ?_
  refine g_sld (i := 7 * t + 1) C hX hbl hbA hS (by omega) (by omega) (by omega) dL_law_284 ?_
  refine lv_aload_n hx hb dL_law_285 rfl (lv_at hl 3 rfl) ?_
  refine lv_iload_n hx hb dL_law_286 rfl (lv_at hl 0 rfl) ?_
  refine lv_iconst (v := iI 2) hx hb dL_law_287 rfl ?_
  refine gi_add (z := (7 * (t : Int) + 2)) hx hb dL_law_288 rfl ?_
  refine g_sld (i := 7 * t + 2) C hX hbl hbA hS (by omega) (by omega) (by omega) dL_law_289 ?_
  refine lv_aload_n hx hb dL_law_290 rfl (lv_at hl 3 rfl) ?_
  refine lv_iload_n hx hb dL_law_291 rfl (lv_at hl 0 rfl) ?_
  refine lv_iconst (v := iI 3) hx hb dL_law_292 rfl ?_
  refine gi_add (z := (7 * (t : Int) + 3)) hx hb dL_law_293 rfl ?_
  refine g_sld (i := 7 * t + 3) C hX hbl hbA hS (by omega) (by omega) (by omega) dL_law_294 ?_
  refine lv_aload_n hx hb dL_law_295 rfl (lv_at hl 3 rfl) ?_
  refine lv_iload_n hx hb dL_law_296 rfl (lv_at hl 0 rfl) ?_
  refine lv_iconst (v := iI 4) hx hb dL_law_297 rfl ?_
  refine gi_add (z := (7 * (t : Int) + 4)) hx hb dL_law_298 rfl ?_
  refine g_sld (i := 7 * t + 4) C hX hbl hbA hS (by omega) (by omega) (by omega) dL_law_299 ?_
  refine lv_aload_n hx hb dL_law_300 rfl (lv_at hl 3 rfl) ?_
  refine lv_iload_n hx hb dL_law_301 rfl (lv_at hl 0 rfl) ?_
  refine lv_iconst (v := iI 5) hx hb dL_law_302 rfl ?_
  refine gi_add (z := (7 * (t : Int) + 5)) hx hb dL_law_303 rfl ?_
  refine g_sld (i := 7 * t + 5) C hX hbl hbA hS (by omega) (by omega) (by omega) dL_law_304 ?_
  refine lv_aload_n hx hb dL_law_305 rfl (lv_at hl 3 rfl) ?_
  refine lv_iload_n hx hb dL_law_306 rfl (lv_at hl 0 rfl) ?_
  refine lv_bipush (v := iI 6) hx hb dL_law_307 (by decide) ?_
  refine gi_add (z := (7 * (t : Int) + 6)) hx hb dL_law_309 rfl ?_
  refine g_sld (i := 7 * t + 6) C hX hbl hbA hS (by omega) (by omega) (by omega) dL_law_310 ?_
  refine g_cv (As := [.int (iI (X (7 * t + 1))), .int (iI (X (7 * t + 2))), .int (iI (X (7 * t + 3))), .int (iI (X (7 * t + 4))), .int (iI (X (7 * t + 5))), .int (iI (X (7 * t + 6)))]) (rest := []) (n := 6) C hml (x_Ro_route l D k Ax ad hDx vx fx gx (X (7 * t + 1)) (X (7 * t + 2)) (X (7 * t + 3)) (X (7 * t + 4)) (X (7 * t + 5)) (X (7 * t + 6)) (by omega) (by omega) (by omega) (by omega) (by omega) (by omega) k_sh) mM_L_36 mI_X10_route mE_X10_route mN_X10 mC_X10_route (by decide +kernel) 0 (ci := 10) rfl rfl hPx hS hAx ⟨Nat.le_of_ble_eq_true rfl, Nat.le_of_ble_eq_true rfl⟩ ⟨Nat.le_of_ble_eq_true rfl, Nat.le_of_ble_eq_true rfl⟩ hl.1 rfl rfl (Nat.le_of_ble_eq_true rfl) dL_law_311 (fun r_1 v_1 f_1 g_1 H1 locs hq_1 hPx hk_1 hS => ?_)
  replace hPm : gWd D (mdT k bd) vm fm gm H1 := ⟨hPm.1.kept (fun i q h => hk_1 q.1 ((hPm.1 i q h).lt) (hxm _ _ _ i q h)), hPm.2⟩
  obtain ⟨z_1, w25_1, rfl, rfl, rfl, rfl, p0_1, p1_1⟩ := hq_1
  show W p l e room_1 s m #[Value.ref b] below meth c _ _ 100 12380 Q (F0 m 314 ls [.int (iI z_1)])
  refine lv_pop hx hb dL_law_314 rfl ?_
  refine lv_aload_n hx hb dL_law_315 rfl (lv_at hl 1 rfl) ?_
  refine lv_aload_n hx hb dL_law_316 rfl (lv_at hl 3 rfl) ?_
  refine lv_iload_n hx hb dL_law_317 rfl (lv_at hl 0 rfl) ?_
  refine lv_iconst (v := iI 1) hx hb dL_law_318 rfl ?_
  refine gi_add (z := (7 * (t : Int) + 1)) hx hb dL_law_319 rfl ?_
  refine g_sld (i := 7 * t + 1) C hX hbl hbA hS (by omega) (by omega) (by omega) dL_law_320 ?_
  refine lv_aload_n hx hb dL_law_321 rfl (lv_at hl 3 rfl) ?_
  refine lv_iload_n hx hb dL_law_322 rfl (lv_at hl 0 rfl) ?_
  refine lv_iconst (v := iI 2) hx hb dL_law_323 rfl ?_
  refine gi_add (z := (7 * (t : Int) + 2)) hx hb dL_law_324 rfl ?_
  refine g_sld (i := 7 * t + 2) C hX hbl hbA hS (by omega) (by omega) (by omega) dL_law_325 ?_
  refine lv_aload_n hx hb dL_law_326 rfl (lv_at hl 3 rfl) ?_
  refine lv_iload_n hx hb dL_law_327 rfl (lv_at hl 0 rfl) ?_
  refine lv_iconst (v := iI 3) hx hb dL_law_328 rfl ?_
  refine gi_add (z := (7 * (t : Int) + 3)) hx hb dL_law_329 rfl ?_
  refine g_sld (i := 7 * t + 3) C hX hbl hbA hS (by omega) (by omega) (by omega) dL_law_330 ?_
  refine lv_aload_n hx hb dL_law_331 rfl (lv_at hl 3 rfl) ?_
  refine lv_iload_n hx hb dL_law_332 rfl (lv_at hl 0 rfl) ?_
  refine lv_iconst (v := iI 4) hx hb dL_law_333 rfl ?_
  refine gi_add (z := (7 * (t : Int) + 4)) hx hb dL_law_334 rfl ?_
  refine g_sld (i := 7 * t + 4) C hX hbl hbA hS (by omega) (by omega) (by omega) dL_law_335 ?_
  refine lv_aload_n hx hb dL_law_336 rfl (lv_at hl 3 rfl) ?_
  refine lv_iload_n hx hb dL_law_337 rfl (lv_at hl 0 rfl) ?_
  refine lv_iconst (v := iI 5) hx hb dL_law_338 rfl ?_
  refine gi_add (z := (7 * (t : Int) + 5)) hx hb dL_law_339 rfl ?_
  refine g_sld (i := 7 * t + 5) C hX hbl hbA hS (by omega) (by omega) (by omega) dL_law_340 ?_
  refine lv_aload_n hx hb dL_law_341 rfl (lv_at hl 3 rfl) ?_
  refine lv_iload_n hx hb dL_law_342 rfl (lv_at hl 0 rfl) ?_
  refine lv_bipush (v := iI 6) hx hb dL_law_343 (by decide) ?_
  refine gi_add (z := (7 * (t : Int) + 6)) hx hb dL_law_345 rfl ?_
  refine g_sld (i := 7 * t + 6) C hX hbl hbA hS (by omega) (by omega) (by omega) dL_law_346 ?_
  refine g_cv (As := [.int (iI (X (7 * t + 1))), .int (iI (X (7 * t + 2))), .int (iI (X (7 * t + 3))), .int (iI (X (7 * t + 4))), .int (iI (X (7 * t + 5))), .int (iI (X (7 * t + 6)))]) (rest := []) (n := 6) C hml (y_route l D k Am bd hDm vm fm gm (X (7 * t + 1)) (X (7 * t + 2)) (X (7 * t + 3)) (X (7 * t + 4)) (X (7 * t + 5)) (X (7 * t + 6)) (by omega) (by omega) (by omega) (by omega) (by omega) (by omega)) mM_L_40 mI_X11_route mE_X11_route mN_X11 mC_X11_route (by decide +kernel) 0 (ci := 11) rfl rfl hPm hS hAm ⟨Nat.le_of_ble_eq_true rfl, Nat.le_of_ble_eq_true rfl⟩ ⟨Nat.le_of_ble_eq_true rfl, Nat.le_of_ble_eq_true rfl⟩ hl.1 rfl rfl (Nat.le_of_ble_eq_true rfl) dL_law_347 (fun r_2 v_2 f_2 g_2 H2 locs hq_2 hPm hk_2 hS => ?_)
  replace hPx := (⟨hPx.1.kept (fun i q h => hk_2 q.1 ((hPx.1 i q h).lt) (hmx _ _ _ i q h)), hPx.2⟩ : gWd D (rwT k ad) _ _ _ H2)
  obtain ⟨z_2, w0_2, rfl, rfl, rfl, rfl, p0_2, p1_2⟩ := hq_2
  show W p l e room_1 s m #[Value.ref b] below meth c _ _ 100 12380 Q (F0 m 350 ls [.int (iI z_2)])
  obtain ⟨h_st, h_hs, h_zo, h_z⟩ := rl_route (a1 := (X (7 * t + 1))) (a2 := (X (7 * t + 2))) (a3 := (X (7 * t + 3))) (a4 := (X (7 * t + 4))) (a5 := (X (7 * t + 5))) (a6 := (X (7 * t + 6))) k_st k_tm k_rn k_it k_ks k_bk k_cl k_mn k_ap k_hs k_be k_zo k_wh k_rd k_rt k_fr k_en k_ho k_hw k_wo k_ci k_an k_ah k_ad k_sq k_cd k_kd k_op k_la k_lo k_om k_oi k_ti k_h0 k_ck k_or k_wt k_wi k_sh k_bx k_rp k_bm k_tp k_ta k_fk k_fp g_cl g_mn g_rn g_ks g_ox g_tm g_wh g_fr g_la g_ti p0_1 p1_1 p0_2 p1_2
  refine lv_pop hx hb dL_law_350 rfl ?_
  refine lv_goto (tgt := 1080) hx hb dL_law_351 (by decide) ?_
  refine back _ _ _ _ _ _ _ _ ?_ hPx hPm hS
  exact ⟨h_st, k_tm, k_rn, k_it, k_ks, k_bk, k_cl, k_mn, k_ap, h_hs, k_be, h_zo, k_wh, k_rd, k_rt, k_fr, k_en, k_ho, k_hw, k_wo, k_ci, k_an, k_ah, k_ad, k_sq, k_cd, k_kd, k_op, k_la, k_lo, k_om, k_oi, k_ti, k_h0, k_ck, k_or, k_wt, k_wi, k_sh, k_bx, k_rp, k_bm, k_tp, k_ta, k_fk, k_fp⟩
set_option maxHeartbeats 4000000 in
set_option maxRecDepth 100000 in
theorem law_case_6 (C : gC D k p s m #[Value.ref b] c code R_law) (hml : c.maxLocals = 4) (hX : va_X b L (fun j => iI (X j)) s s.heap) (hXr : ∀ j, inR (X j)) (hbl : b < s.heap.size) (ht : 7 * t + 7 ≤ L) (hL : L ≤ 3584) (hE : gEv za (fun q : Nat => s.heap.size ≤ q) s s.heap) (hDx : rwD Ax k ad) (hDm : mdD Am k bd) (hAx : ∀ q : Nat, Ax q → s.heap.size ≤ q) (hAm : ∀ q : Nat, Am q → s.heap.size ≤ q) (hxm : ∀ (v : gV) (f g : gF) (i : Nat) (q : Nat × va_E), (mdW k bd v f g)[i]? = some q → ¬ Ax q.1) (hmx : ∀ (v : gV) (f g : gF) (i : Nat) (q : Nat × va_E), (rwW k ad v f g)[i]? = some q → ¬ Am q.1) (hI : lwI vx fx vm fm) (hPx : gWd D (rwT k ad) vx fx gx H) (hPm : gWd D (mdT k bd) vm fm gm H) (hS : va_S (fun q : Nat => s.heap.size ≤ q) s.heap H locs) (hl : lv_has ls 4 [(3, .int (iI (7 * (t : Int)))), (2, .ref (bd 0)), (1, .ref (ad 0)), (0, .ref b)]) (back : ∀ (vx vm : gV) (fx gx fm gm : gF) (H : Heap) (locs : List Loc), lwI vx fx vm fm → gWd D (rwT k ad) vx fx gx H → gWd D (mdT k bd) vm fm gm H → va_S (fun q : Nat => s.heap.size ≤ q) s.heap H locs → W p l e room_1 s m #[Value.ref b] below meth c H locs 100 12380 Q (F0 m 1080 ls [])) : W p l e room_1 s m #[Value.ref b] below meth c H locs 100 12380 Q (F0 m 354 ls []) := by
  have hx := C.1
  have hb := C.2.1
  have hbA : ¬ (fun q : Nat => s.heap.size ≤ q) b := Nat.not_le.mpr hbl
  have hT0 : 0 ≤ vx 0 ∧ vx 0 ≤ 700 := hPx.2.1 0
  have hT1 : 0 ≤ vm 2 ∧ vm 2 ≤ 700 := hPm.2.1 2
  obtain ⟨k_st, k_tm, k_rn, k_it, k_ks, k_bk, k_cl, k_mn, k_ap, k_hs, k_be, k_zo, k_wh, k_rd, k_rt, k_fr, k_en, k_ho, k_hw, k_wo, k_ci, k_an, k_ah, k_ad, k_sq, k_cd, k_kd, k_op, k_la, k_lo, k_om, k_oi, k_ti, k_h0, k_ck, k_or, k_wt, k_wi, k_sh, k_bx, k_rp, k_bm, k_tp, k_ta, k_fk, k_fp⟩ := id hI
  have g_cl : 0 ≤ (vx 21) ∧ (vx 21) ≤ 16 := hPx.2.1 21
  have g_mn : 0 ≤ (vx 23) ∧ (vx 23) ≤ 300 := hPx.2.1 23
  have g_rn : 0 ≤ (vx 1) ∧ (vx 1) ≤ 4 := hPx.2.1 1
  have g_ks : 0 ≤ (vx 3) ∧ (vx 3) ≤ 4 := hPx.2.1 3
  have g_ox : 0 ≤ (vx 22) ∧ (vx 22) ≤ 3 := hPx.2.1 22
  have g_tm : 0 ≤ (vx 26) ∧ (vx 26) ≤ 1000000 := hPx.2.1 26
  have g_wh : ∀ k, 0 ≤ (fx 20) k ∧ (fx 20) k ≤ 15 := fun k => hPx.2.2 20 k
  have g_fr : ∀ k, 0 ≤ (fx 23) k ∧ (fx 23) k ≤ 1000000 := fun k => hPx.2.2 23 k
  have g_la : ∀ k, 0 ≤ (fx 18) k ∧ (fx 18) k ≤ 3 := fun k => hPx.2.2 18 k
  have g_ti : ∀ k, 0 ≤ (fx 31) k ∧ (fx 31) k ≤ 20 := fun k => hPx.2.2 31 k
  have m_oi : OI (vm 25) (fm 24) (fm 30) (fx 27) := by have h := k_oi; rw [k_mn, k_wh, k_hw] at h; exact h
  have m_ti : TI (vm 25) (vm 24) (fm 27) (fm 28) (fm 30) := by have h := k_ti; rw [k_mn, k_tm, k_fr, k_en, k_hw] at h; exact h
  have m_wi : ∀ c, 0 ≤ c → c < (vm 22) → WI (vm 24) (fm 35) (fm 36) (fm 34) c := fun c c0 c1 => by have h := k_wi c c0 (by omega); rw [k_tm, k_wo, k_ci] at h; exact WI_ti h ((k_wt c c0 (by omega)).1 (by omega))
  have hX1 := hXr (7 * t + 1)
  have hX2 := hXr (7 * t + 2)
  have hX3 := hXr (7 * t + 3)
  have hX4 := hXr (7 * t + 4)
  have hX5 := hXr (7 * t + 5)
  have hX6 := hXr (7 * t + 6)
  refine lv_aload_n hx hb dL_law_354 rfl (lv_at hl 2 rfl) ?_
  refine lv_aload_n hx hb dL_law_355 rfl (lv_at hl 3 rfl) ?_
  refine lv_iload_n hx hb dL_law_356 rfl (lv_at hl 0 rfl) ?_
  refine lv_iconst (v := iI 1) hx hb dL_law_357 rfl ?_
  refine gi_add (z := (7 * (t : Int) + 1)) hx hb dL_law_358 rfl ?_
  refine g_sld (i := 7 * t + 1) C hX hbl hbA hS (by omega) (by omega) (by omega) dL_law_359 ?_
  refine lv_aload_n hx hb dL_law_360 rfl (lv_at hl 3 rfl) ?_
  refine lv_iload_n hx hb dL_law_361 rfl (lv_at hl 0 rfl) ?_
  refine lv_iconst (v := iI 2) hx hb dL_law_362 rfl ?_
  refine gi_add (z := (7 * (t : Int) + 2)) hx hb dL_law_363 rfl ?_
  refine g_sld (i := 7 * t + 2) C hX hbl hbA hS (by omega) (by omega) (by omega) dL_law_364 ?_
  refine lv_aload_n hx hb dL_law_365 rfl (lv_at hl 3 rfl) ?_
  refine lv_iload_n hx hb dL_law_366 rfl (lv_at hl 0 rfl) ?_
  refine lv_iconst (v := iI 3) hx hb dL_law_367 rfl ?_
  refine gi_add (z := (7 * (t : Int) + 3)) hx hb dL_law_368 rfl ?_
  refine g_sld (i := 7 * t + 3) C hX hbl hbA hS (by omega) (by omega) (by omega) dL_law_369 ?_
  refine g_cv (As := [.int (iI (X (7 * t + 1))), .int (iI (X (7 * t + 2))), .int (iI (X (7 * t + 3)))]) (rest := []) (n := 3) C hml (x_Ro_told l D k Ax ad hDx vx fx gx (X (7 * t + 1)) (X (7 * t + 2)) (X (7 * t + 3)) (by omega) (by omega) (by omega) k_sh) mM_L_41 mI_X10_told mE_X10_told mN_X10 mC_X10_told (by decide +kernel) 0 (ci := 10) rfl rfl hPx hS hAx ⟨Nat.le_of_ble_eq_true rfl, Nat.le_of_ble_eq_true rfl⟩ ⟨Nat.le_of_ble_eq_true rfl, Nat.le_of_ble_eq_true rfl⟩ hl.1 rfl rfl (Nat.le_of_ble_eq_true rfl) dL_law_370 (fun r_1 v_1 f_1 g_1 H1 locs hq_1 hPx hk_1 hS => ?_)
  replace hPm : gWd D (mdT k bd) vm fm gm H1 := ⟨hPm.1.kept (fun i q h => hk_1 q.1 ((hPm.1 i q h).lt) (hxm _ _ _ i q h)), hPm.2⟩
  obtain ⟨z_1, w25_1, rfl, rfl, rfl, rfl, p0_1, p1_1, p2_1⟩ := hq_1
  show W p l e room_1 s m #[Value.ref b] below meth c _ _ 100 12380 Q (F0 m 373 ls [.int (iI z_1)])
  refine lv_pop hx hb dL_law_373 rfl ?_
  refine lv_aload_n hx hb dL_law_374 rfl (lv_at hl 1 rfl) ?_
  refine lv_aload_n hx hb dL_law_375 rfl (lv_at hl 3 rfl) ?_
  refine lv_iload_n hx hb dL_law_376 rfl (lv_at hl 0 rfl) ?_
  refine lv_iconst (v := iI 1) hx hb dL_law_377 rfl ?_
  refine gi_add (z := (7 * (t : Int) + 1)) hx hb dL_law_378 rfl ?_
  refine g_sld (i := 7 * t + 1) C hX hbl hbA hS (by omega) (by omega) (by omega) dL_law_379 ?_
  refine lv_aload_n hx hb dL_law_380 rfl (lv_at hl 3 rfl) ?_
  refine lv_iload_n hx hb dL_law_381 rfl (lv_at hl 0 rfl) ?_
  refine lv_iconst (v := iI 2) hx hb dL_law_382 rfl ?_
  refine gi_add (z := (7 * (t : Int) + 2)) hx hb dL_law_383 rfl ?_
  refine g_sld (i := 7 * t + 2) C hX hbl hbA hS (by omega) (by omega) (by omega) dL_law_384 ?_
  refine lv_aload_n hx hb dL_law_385 rfl (lv_at hl 3 rfl) ?_
  refine lv_iload_n hx hb dL_law_386 rfl (lv_at hl 0 rfl) ?_
  refine lv_iconst (v := iI 3) hx hb dL_law_387 rfl ?_
  refine gi_add (z := (7 * (t : Int) + 3)) hx hb dL_law_388 rfl ?_
  refine g_sld (i := 7 * t + 3) C hX hbl hbA hS (by omega) (by omega) (by omega) dL_law_389 ?_
  refine g_cv (As := [.int (iI (X (7 * t + 1))), .int (iI (X (7 * t + 2))), .int (iI (X (7 * t + 3)))]) (rest := []) (n := 3) C hml (y_told l D k Am bd hDm vm fm gm (X (7 * t + 1)) (X (7 * t + 2)) (X (7 * t + 3)) (by omega) (by omega) (by omega)) mM_L_45 mI_X11_told mE_X11_told mN_X11 mC_X11_told (by decide +kernel) 0 (ci := 11) rfl rfl hPm hS hAm ⟨Nat.le_of_ble_eq_true rfl, Nat.le_of_ble_eq_true rfl⟩ ⟨Nat.le_of_ble_eq_true rfl, Nat.le_of_ble_eq_true rfl⟩ hl.1 rfl rfl (Nat.le_of_ble_eq_true rfl) dL_law_390 (fun r_2 v_2 f_2 g_2 H2 locs hq_2 hPm hk_2 hS => ?_)
  replace hPx := (⟨hPx.1.kept (fun i q h => hk_2 q.1 ((hPx.1 i q h).lt) (hmx _ _ _ i q h)), hPx.2⟩ : gWd D (rwT k ad) _ _ _ H2)
  obtain ⟨z_2, w0_2, rfl, rfl, rfl, rfl, p0_2, p1_2, p2_2⟩ := hq_2
  show W p l e room_1 s m #[Value.ref b] below meth c _ _ 100 12380 Q (F0 m 393 ls [.int (iI z_2)])
  obtain ⟨h_st, h_z⟩ := rl_told (a1 := (X (7 * t + 1))) (a2 := (X (7 * t + 2))) (a3 := (X (7 * t + 3))) k_st k_tm k_rn k_it k_ks k_bk k_cl k_mn k_ap k_hs k_be k_zo k_wh k_rd k_rt k_fr k_en k_ho k_hw k_wo k_ci k_an k_ah k_ad k_sq k_cd k_kd k_op k_la k_lo k_om k_oi k_ti k_h0 k_ck k_or k_wt k_wi k_sh k_bx k_rp k_bm k_tp k_ta k_fk k_fp g_cl g_mn g_rn g_ks g_ox g_tm g_wh g_fr g_la g_ti p0_1 p1_1 p2_1 p0_2 p1_2 p2_2
  refine lv_pop hx hb dL_law_393 rfl ?_
  refine lv_goto (tgt := 1080) hx hb dL_law_394 (by decide) ?_
  refine back _ _ _ _ _ _ _ _ ?_ hPx hPm hS
  exact ⟨h_st, k_tm, k_rn, k_it, k_ks, k_bk, k_cl, k_mn, k_ap, k_hs, k_be, k_zo, k_wh, k_rd, k_rt, k_fr, k_en, k_ho, k_hw, k_wo, k_ci, k_an, k_ah, k_ad, k_sq, k_cd, k_kd, k_op, k_la, k_lo, k_om, k_oi, k_ti, k_h0, k_ck, k_or, k_wt, k_wi, k_sh, k_bx, k_rp, k_bm, k_tp, k_ta, k_fk, k_fp⟩
set_option maxHeartbeats 4000000 in
set_option maxRecDepth 100000 in
theorem law_case_7 (C : gC D k p s m #[Value.ref b] c code R_law) (hml : c.maxLocals = 4) (hX : va_X b L (fun j => iI (X j)) s s.heap) (hXr : ∀ j, inR (X j)) (hbl : b < s.heap.size) (ht : 7 * t + 7 ≤ L) (hL : L ≤ 3584) (hE : gEv za (fun q : Nat => s.heap.size ≤ q) s s.heap) (hDx : rwD Ax k ad) (hDm : mdD Am k bd) (hAx : ∀ q : Nat, Ax q → s.heap.size ≤ q) (hAm : ∀ q : Nat, Am q → s.heap.size ≤ q) (hxm : ∀ (v : gV) (f g : gF) (i : Nat) (q : Nat × va_E), (mdW k bd v f g)[i]? = some q → ¬ Ax q.1) (hmx : ∀ (v : gV) (f g : gF) (i : Nat) (q : Nat × va_E), (rwW k ad v f g)[i]? = some q → ¬ Am q.1) (hI : lwI vx fx vm fm) (hPx : gWd D (rwT k ad) vx fx gx H) (hPm : gWd D (mdT k bd) vm fm gm H) (hS : va_S (fun q : Nat => s.heap.size ≤ q) s.heap H locs) (hl : lv_has ls 4 [(3, .int (iI (7 * (t : Int)))), (2, .ref (bd 0)), (1, .ref (ad 0)), (0, .ref b)]) (back : ∀ (vx vm : gV) (fx gx fm gm : gF) (H : Heap) (locs : List Loc), lwI vx fx vm fm → gWd D (rwT k ad) vx fx gx H → gWd D (mdT k bd) vm fm gm H → va_S (fun q : Nat => s.heap.size ≤ q) s.heap H locs → W p l e room_1 s m #[Value.ref b] below meth c H locs 100 12380 Q (F0 m 1080 ls [])) : W p l e room_1 s m #[Value.ref b] below meth c H locs 100 12380 Q (F0 m 397 ls []) := by
  have hx := C.1
  have hb := C.2.1
  have hbA : ¬ (fun q : Nat => s.heap.size ≤ q) b := Nat.not_le.mpr hbl
  have hT0 : 0 ≤ vx 0 ∧ vx 0 ≤ 700 := hPx.2.1 0
  have hT1 : 0 ≤ vm 2 ∧ vm 2 ≤ 700 := hPm.2.1 2
  obtain ⟨k_st, k_tm, k_rn, k_it, k_ks, k_bk, k_cl, k_mn, k_ap, k_hs, k_be, k_zo, k_wh, k_rd, k_rt, k_fr, k_en, k_ho, k_hw, k_wo, k_ci, k_an, k_ah, k_ad, k_sq, k_cd, k_kd, k_op, k_la, k_lo, k_om, k_oi, k_ti, k_h0, k_ck, k_or, k_wt, k_wi, k_sh, k_bx, k_rp, k_bm, k_tp, k_ta, k_fk, k_fp⟩ := id hI
  have g_cl : 0 ≤ (vx 21) ∧ (vx 21) ≤ 16 := hPx.2.1 21
  have g_mn : 0 ≤ (vx 23) ∧ (vx 23) ≤ 300 := hPx.2.1 23
  have g_rn : 0 ≤ (vx 1) ∧ (vx 1) ≤ 4 := hPx.2.1 1
  have g_ks : 0 ≤ (vx 3) ∧ (vx 3) ≤ 4 := hPx.2.1 3
  have g_ox : 0 ≤ (vx 22) ∧ (vx 22) ≤ 3 := hPx.2.1 22
  have g_tm : 0 ≤ (vx 26) ∧ (vx 26) ≤ 1000000 := hPx.2.1 26
  have g_wh : ∀ k, 0 ≤ (fx 20) k ∧ (fx 20) k ≤ 15 := fun k => hPx.2.2 20 k
  have g_fr : ∀ k, 0 ≤ (fx 23) k ∧ (fx 23) k ≤ 1000000 := fun k => hPx.2.2 23 k
  have g_la : ∀ k, 0 ≤ (fx 18) k ∧ (fx 18) k ≤ 3 := fun k => hPx.2.2 18 k
  have g_ti : ∀ k, 0 ≤ (fx 31) k ∧ (fx 31) k ≤ 20 := fun k => hPx.2.2 31 k
  have m_oi : OI (vm 25) (fm 24) (fm 30) (fx 27) := by have h := k_oi; rw [k_mn, k_wh, k_hw] at h; exact h
  have m_ti : TI (vm 25) (vm 24) (fm 27) (fm 28) (fm 30) := by have h := k_ti; rw [k_mn, k_tm, k_fr, k_en, k_hw] at h; exact h
  have m_wi : ∀ c, 0 ≤ c → c < (vm 22) → WI (vm 24) (fm 35) (fm 36) (fm 34) c := fun c c0 c1 => by have h := k_wi c c0 (by omega); rw [k_tm, k_wo, k_ci] at h; exact WI_ti h ((k_wt c c0 (by omega)).1 (by omega))
  have hX1 := hXr (7 * t + 1)
  have hX2 := hXr (7 * t + 2)
  have hX3 := hXr (7 * t + 3)
  have hX4 := hXr (7 * t + 4)
  have hX5 := hXr (7 * t + 5)
  have hX6 := hXr (7 * t + 6)
  refine lv_aload_n hx hb dL_law_397 rfl (lv_at hl 2 rfl) ?_
  refine lv_aload_n hx hb dL_law_398 rfl (lv_at hl 3 rfl) ?_
  refine lv_iload_n hx hb dL_law_399 rfl (lv_at hl 0 rfl) ?_
  refine lv_iconst (v := iI 1) hx hb dL_law_400 rfl ?_
  refine gi_add (z := (7 * (t : Int) + 1)) hx hb dL_law_401 rfl ?_
  refine g_sld (i := 7 * t + 1) C hX hbl hbA hS (by omega) (by omega) (by omega) dL_law_402 ?_
  refine lv_aload_n hx hb dL_law_403 rfl (lv_at hl 3 rfl) ?_
  refine lv_iload_n hx hb dL_law_404 rfl (lv_at hl 0 rfl) ?_
  refine lv_iconst (v := iI 2) hx hb dL_law_405 rfl ?_
  refine gi_add (z := (7 * (t : Int) + 2)) hx hb dL_law_406 rfl ?_
  refine g_sld (i := 7 * t + 2) C hX hbl hbA hS (by omega) (by omega) (by omega) dL_law_407 ?_
  refine lv_aload_n hx hb dL_law_408 rfl (lv_at hl 3 rfl) ?_
  refine lv_iload_n hx hb dL_law_409 rfl (lv_at hl 0 rfl) ?_
  refine lv_iconst (v := iI 3) hx hb dL_law_410 rfl ?_
  refine gi_add (z := (7 * (t : Int) + 3)) hx hb dL_law_411 rfl ?_
  refine g_sld (i := 7 * t + 3) C hX hbl hbA hS (by omega) (by omega) (by omega) dL_law_412 ?_
  refine g_cv (As := [.int (iI (X (7 * t + 1))), .int (iI (X (7 * t + 2))), .int (iI (X (7 * t + 3)))]) (rest := []) (n := 3) C hml (x_Ro_begin l D k Ax ad hDx vx fx gx (X (7 * t + 1)) (X (7 * t + 2)) (X (7 * t + 3)) (by omega) (by omega) (by omega) k_sh k_bx k_oi) mM_L_46 mI_X10_begin mE_X10_begin mN_X10 mC_X10_begin (by decide +kernel) 0 (ci := 10) rfl rfl hPx hS hAx ⟨Nat.le_of_ble_eq_true rfl, Nat.le_of_ble_eq_true rfl⟩ ⟨Nat.le_of_ble_eq_true rfl, Nat.le_of_ble_eq_true rfl⟩ hl.1 rfl rfl (Nat.le_of_ble_eq_true rfl) dL_law_413 (fun r_1 v_1 f_1 g_1 H1 locs hq_1 hPx hk_1 hS => ?_)
  replace hPm : gWd D (mdT k bd) vm fm gm H1 := ⟨hPm.1.kept (fun i q h => hk_1 q.1 ((hPm.1 i q h).lt) (hxm _ _ _ i q h)), hPm.2⟩
  obtain ⟨z_1, w25_1, rfl, rfl, rfl, rfl, p0_1, p1_1, p2_1⟩ := hq_1
  show W p l e room_1 s m #[Value.ref b] below meth c _ _ 100 12380 Q (F0 m 416 ls [.int (iI z_1)])
  refine lv_pop hx hb dL_law_416 rfl ?_
  refine lv_aload_n hx hb dL_law_417 rfl (lv_at hl 1 rfl) ?_
  refine lv_aload_n hx hb dL_law_418 rfl (lv_at hl 3 rfl) ?_
  refine lv_iload_n hx hb dL_law_419 rfl (lv_at hl 0 rfl) ?_
  refine lv_iconst (v := iI 1) hx hb dL_law_420 rfl ?_
  refine gi_add (z := (7 * (t : Int) + 1)) hx hb dL_law_421 rfl ?_
  refine g_sld (i := 7 * t + 1) C hX hbl hbA hS (by omega) (by omega) (by omega) dL_law_422 ?_
  refine lv_aload_n hx hb dL_law_423 rfl (lv_at hl 3 rfl) ?_
  refine lv_iload_n hx hb dL_law_424 rfl (lv_at hl 0 rfl) ?_
  refine lv_iconst (v := iI 2) hx hb dL_law_425 rfl ?_
  refine gi_add (z := (7 * (t : Int) + 2)) hx hb dL_law_426 rfl ?_
  refine g_sld (i := 7 * t + 2) C hX hbl hbA hS (by omega) (by omega) (by omega) dL_law_427 ?_
  refine lv_aload_n hx hb dL_law_428 rfl (lv_at hl 3 rfl) ?_
  refine lv_iload_n hx hb dL_law_429 rfl (lv_at hl 0 rfl) ?_
  refine lv_iconst (v := iI 3) hx hb dL_law_430 rfl ?_
  refine gi_add (z := (7 * (t : Int) + 3)) hx hb dL_law_431 rfl ?_
  refine g_sld (i := 7 * t + 3) C hX hbl hbA hS (by omega) (by omega) (by omega) dL_law_432 ?_
  refine g_cv (As := [.int (iI (X (7 * t + 1))), .int (iI (X (7 * t + 2))), .int (iI (X (7 * t + 3)))]) (rest := []) (n := 3) C hml (y_begin l D k Am bd hDm vm fm gm (X (7 * t + 1)) (X (7 * t + 2)) (X (7 * t + 3)) (fx 27) (by omega) (by omega) (by omega) k_bm m_oi m_ti m_wi) mM_L_49 mI_X11_begin mE_X11_begin mN_X11 mC_X11_begin (by decide +kernel) 0 (ci := 11) rfl rfl hPm hS hAm ⟨Nat.le_of_ble_eq_true rfl, Nat.le_of_ble_eq_true rfl⟩ ⟨Nat.le_of_ble_eq_true rfl, Nat.le_of_ble_eq_true rfl⟩ hl.1 rfl rfl (Nat.le_of_ble_eq_true rfl) dL_law_433 (fun r_2 v_2 f_2 g_2 H2 locs hq_2 hPm hk_2 hS => ?_)
  replace hPx := (⟨hPx.1.kept (fun i q h => hk_2 q.1 ((hPx.1 i q h).lt) (hmx _ _ _ i q h)), hPx.2⟩ : gWd D (rwT k ad) _ _ _ H2)
  obtain ⟨z_2, w0_2, rfl, rfl, rfl, rfl, p0_2, p1_2, p2_2⟩ := hq_2
  show W p l e room_1 s m #[Value.ref b] below meth c _ _ 100 12380 Q (F0 m 436 ls [.int (iI z_2)])
  obtain ⟨h_st, h_tm, h_mn, h_be, h_wh, h_rd, h_rt, h_fr, h_en, h_ho, h_hw, h_op, h_oi, h_ti, h_h0, h_ck, h_wi, h_bx, h_bm, h_z⟩ := rl_begin (a1 := (X (7 * t + 1))) (a2 := (X (7 * t + 2))) (a3 := (X (7 * t + 3))) k_st k_tm k_rn k_it k_ks k_bk k_cl k_mn k_ap k_hs k_be k_zo k_wh k_rd k_rt k_fr k_en k_ho k_hw k_wo k_ci k_an k_ah k_ad k_sq k_cd k_kd k_op k_la k_lo k_om k_oi k_ti k_h0 k_ck k_or k_wt k_wi k_sh k_bx k_rp k_bm k_tp k_ta k_fk k_fp g_cl g_mn g_rn g_ks g_ox g_tm g_wh g_fr g_la g_ti p0_1 p1_1 p2_1 p0_2 p1_2 p2_2
  refine lv_pop hx hb dL_law_436 rfl ?_
  refine lv_goto (tgt := 1080) hx hb dL_law_437 (by decide) ?_
  refine back _ _ _ _ _ _ _ _ ?_ hPx hPm hS
  exact ⟨h_st, h_tm, k_rn, k_it, k_ks, k_bk, k_cl, h_mn, k_ap, k_hs, h_be, k_zo, h_wh, h_rd, h_rt, h_fr, h_en, h_ho, h_hw, k_wo, k_ci, k_an, k_ah, k_ad, k_sq, k_cd, k_kd, h_op, k_la, k_lo, k_om, h_oi, h_ti, h_h0, h_ck, k_or, k_wt, h_wi, k_sh, h_bx, k_rp, h_bm, k_tp, k_ta, k_fk, k_fp⟩
set_option maxHeartbeats 4000000 in
set_option maxRecDepth 100000 in
theorem law_case_8 (C : gC D k p s m #[Value.ref b] c code R_law) (hml : c.maxLocals = 4) (hX : va_X b L (fun j => iI (X j)) s s.heap) (hXr : ∀ j, inR (X j)) (hbl : b < s.heap.size) (ht : 7 * t + 7 ≤ L) (hL : L ≤ 3584) (hE : gEv za (fun q : Nat => s.heap.size ≤ q) s s.heap) (hDx : rwD Ax k ad) (hDm : mdD Am k bd) (hAx : ∀ q : Nat, Ax q → s.heap.size ≤ q) (hAm : ∀ q : Nat, Am q → s.heap.size ≤ q) (hxm : ∀ (v : gV) (f g : gF) (i : Nat) (q : Nat × va_E), (mdW k bd v f g)[i]? = some q → ¬ Ax q.1) (hmx : ∀ (v : gV) (f g : gF) (i : Nat) (q : Nat × va_E), (rwW k ad v f g)[i]? = some q → ¬ Am q.1) (hI : lwI vx fx vm fm) (hPx : gWd D (rwT k ad) vx fx gx H) (hPm : gWd D (mdT k bd) vm fm gm H) (hS : va_S (fun q : Nat => s.heap.size ≤ q) s.heap H locs) (hl : lv_has ls 4 [(3, .int (iI (7 * (t : Int)))), (2, .ref (bd 0)), (1, .ref (ad 0)), (0, .ref b)]) (back : ∀ (vx vm : gV) (fx gx fm gm : gF) (H : Heap) (locs : List Loc), lwI vx fx vm fm → gWd D (rwT k ad) vx fx gx H → gWd D (mdT k bd) vm fm gm H → va_S (fun q : Nat => s.heap.size ≤ q) s.heap H locs → W p l e room_1 s m #[Value.ref b] below meth c H locs 100 12380 Q (F0 m 1080 ls [])) : W p l e room_1 s m #[Value.ref b] below meth c H locs 100 12380 Q (F0 m 440 ls []) := by
  have hx := C.1
  have hb := C.2.1
  have hbA : ¬ (fun q : Nat => s.heap.size ≤ q) b := Nat.not_le.mpr hbl
  have hT0 : 0 ≤ vx 0 ∧ vx 0 ≤ 700 := hPx.2.1 0
  have hT1 : 0 ≤ vm 2 ∧ vm 2 ≤ 700 := hPm.2.1 2
  obtain ⟨k_st, k_tm, k_rn, k_it, k_ks, k_bk, k_cl, k_mn, k_ap, k_hs, k_be, k_zo, k_wh, k_rd, k_rt, k_fr, k_en, k_ho, k_hw, k_wo, k_ci, k_an, k_ah, k_ad, k_sq, k_cd, k_kd, k_op, k_la, k_lo, k_om, k_oi, k_ti, k_h0, k_ck, k_or, k_wt, k_wi, k_sh, k_bx, k_rp, k_bm, k_tp, k_ta, k_fk, k_fp⟩ := id hI
  have g_cl : 0 ≤ (vx 21) ∧ (vx 21) ≤ 16 := hPx.2.1 21
  have g_mn : 0 ≤ (vx 23) ∧ (vx 23) ≤ 300 := hPx.2.1 23
  have g_rn : 0 ≤ (vx 1) ∧ (vx 1) ≤ 4 := hPx.2.1 1
  have g_ks : 0 ≤ (vx 3) ∧ (vx 3) ≤ 4 := hPx.2.1 3
  have g_ox : 0 ≤ (vx 22) ∧ (vx 22) ≤ 3 := hPx.2.1 22
  have g_tm : 0 ≤ (vx 26) ∧ (vx 26) ≤ 1000000 := hPx.2.1 26
  have g_wh : ∀ k, 0 ≤ (fx 20) k ∧ (fx 20) k ≤ 15 := fun k => hPx.2.2 20 k
  have g_fr : ∀ k, 0 ≤ (fx 23) k ∧ (fx 23) k ≤ 1000000 := fun k => hPx.2.2 23 k
  have g_la : ∀ k, 0 ≤ (fx 18) k ∧ (fx 18) k ≤ 3 := fun k => hPx.2.2 18 k
  have g_ti : ∀ k, 0 ≤ (fx 31) k ∧ (fx 31) k ≤ 20 := fun k => hPx.2.2 31 k
  have m_oi : OI (vm 25) (fm 24) (fm 30) (fx 27) := by have h := k_oi; rw [k_mn, k_wh, k_hw] at h; exact h
  have m_ti : TI (vm 25) (vm 24) (fm 27) (fm 28) (fm 30) := by have h := k_ti; rw [k_mn, k_tm, k_fr, k_en, k_hw] at h; exact h
  have m_wi : ∀ c, 0 ≤ c → c < (vm 22) → WI (vm 24) (fm 35) (fm 36) (fm 34) c := fun c c0 c1 => by have h := k_wi c c0 (by omega); rw [k_tm, k_wo, k_ci] at h; exact WI_ti h ((k_wt c c0 (by omega)).1 (by omega))
  have hX1 := hXr (7 * t + 1)
  have hX2 := hXr (7 * t + 2)
  have hX3 := hXr (7 * t + 3)
  have hX4 := hXr (7 * t + 4)
  have hX5 := hXr (7 * t + 5)
  have hX6 := hXr (7 * t + 6)
  refine lv_aload_n hx hb dL_law_440 rfl (lv_at hl 2 rfl) ?_
  refine lv_aload_n hx hb dL_law_441 rfl (lv_at hl 3 rfl) ?_
  refine lv_iload_n hx hb dL_law_442 rfl (lv_at hl 0 rfl) ?_
  refine lv_iconst (v := iI 1) hx hb dL_law_443 rfl ?_
  refine gi_add (z := (7 * (t : Int) + 1)) hx hb dL_law_444 rfl ?_
  refine g_sld (i := 7 * t + 1) C hX hbl hbA hS (by omega) (by omega) (by omega) dL_law_445 ?_
  refine lv_aload_n hx hb dL_law_446 rfl (lv_at hl 3 rfl) ?_
  refine lv_iload_n hx hb dL_law_447 rfl (lv_at hl 0 rfl) ?_
  refine lv_iconst (v := iI 2) hx hb dL_law_448 rfl ?_
  refine gi_add (z := (7 * (t : Int) + 2)) hx hb dL_law_449 rfl ?_
  refine g_sld (i := 7 * t + 2) C hX hbl hbA hS (by omega) (by omega) (by omega) dL_law_450 ?_
  refine lv_aload_n hx hb dL_law_451 rfl (lv_at hl 3 rfl) ?_
  refine lv_iload_n hx hb dL_law_452 rfl (lv_at hl 0 rfl) ?_
  refine lv_iconst (v := iI 3) hx hb dL_law_453 rfl ?_
  refine gi_add (z := (7 * (t : Int) + 3)) hx hb dL_law_454 rfl ?_
  refine g_sld (i := 7 * t + 3) C hX hbl hbA hS (by omega) (by omega) (by omega) dL_law_455 ?_
  refine g_cv (As := [.int (iI (X (7 * t + 1))), .int (iI (X (7 * t + 2))), .int (iI (X (7 * t + 3)))]) (rest := []) (n := 3) C hml (x_Ro_reach l D k Ax ad hDx vx fx gx (X (7 * t + 1)) (X (7 * t + 2)) (X (7 * t + 3)) (by omega) (by omega) (by omega) k_sh k_oi) mM_L_50 mI_X10_reach mE_X10_reach mN_X10 mC_X10_reach (by decide +kernel) 0 (ci := 10) rfl rfl hPx hS hAx ⟨Nat.le_of_ble_eq_true rfl, Nat.le_of_ble_eq_true rfl⟩ ⟨Nat.le_of_ble_eq_true rfl, Nat.le_of_ble_eq_true rfl⟩ hl.1 rfl rfl (Nat.le_of_ble_eq_true rfl) dL_law_456 (fun r_1 v_1 f_1 g_1 H1 locs hq_1 hPx hk_1 hS => ?_)
  replace hPm : gWd D (mdT k bd) vm fm gm H1 := ⟨hPm.1.kept (fun i q h => hk_1 q.1 ((hPm.1 i q h).lt) (hxm _ _ _ i q h)), hPm.2⟩
  obtain ⟨z_1, w25_1, rfl, rfl, rfl, rfl, p0_1, p1_1, p2_1⟩ := hq_1
  show W p l e room_1 s m #[Value.ref b] below meth c _ _ 100 12380 Q (F0 m 459 ls [.int (iI z_1)])
  refine lv_pop hx hb dL_law_459 rfl ?_
  refine lv_aload_n hx hb dL_law_460 rfl (lv_at hl 1 rfl) ?_
  refine lv_aload_n hx hb dL_law_461 rfl (lv_at hl 3 rfl) ?_
  refine lv_iload_n hx hb dL_law_462 rfl (lv_at hl 0 rfl) ?_
  refine lv_iconst (v := iI 1) hx hb dL_law_463 rfl ?_
  refine gi_add (z := (7 * (t : Int) + 1)) hx hb dL_law_464 rfl ?_
  refine g_sld (i := 7 * t + 1) C hX hbl hbA hS (by omega) (by omega) (by omega) dL_law_465 ?_
  refine lv_aload_n hx hb dL_law_466 rfl (lv_at hl 3 rfl) ?_
  refine lv_iload_n hx hb dL_law_467 rfl (lv_at hl 0 rfl) ?_
  refine lv_iconst (v := iI 2) hx hb dL_law_468 rfl ?_
  refine gi_add (z := (7 * (t : Int) + 2)) hx hb dL_law_469 rfl ?_
  refine g_sld (i := 7 * t + 2) C hX hbl hbA hS (by omega) (by omega) (by omega) dL_law_470 ?_
  refine lv_aload_n hx hb dL_law_471 rfl (lv_at hl 3 rfl) ?_
  refine lv_iload_n hx hb dL_law_472 rfl (lv_at hl 0 rfl) ?_
  refine lv_iconst (v := iI 3) hx hb dL_law_473 rfl ?_
  refine gi_add (z := (7 * (t : Int) + 3)) hx hb dL_law_474 rfl ?_
  refine g_sld (i := 7 * t + 3) C hX hbl hbA hS (by omega) (by omega) (by omega) dL_law_475 ?_
  refine g_cv (As := [.int (iI (X (7 * t + 1))), .int (iI (X (7 * t + 2))), .int (iI (X (7 * t + 3)))]) (rest := []) (n := 3) C hml (y_reach l D k Am bd hDm vm fm gm (X (7 * t + 1)) (X (7 * t + 2)) (X (7 * t + 3)) (fx 27) (by omega) (by omega) (by omega) m_oi) mM_L_53 mI_X11_reach mE_X11_reach mN_X11 mC_X11_reach (by decide +kernel) 0 (ci := 11) rfl rfl hPm hS hAm ⟨Nat.le_of_ble_eq_true rfl, Nat.le_of_ble_eq_true rfl⟩ ⟨Nat.le_of_ble_eq_true rfl, Nat.le_of_ble_eq_true rfl⟩ hl.1 rfl rfl (Nat.le_of_ble_eq_true rfl) dL_law_476 (fun r_2 v_2 f_2 g_2 H2 locs hq_2 hPm hk_2 hS => ?_)
  replace hPx := (⟨hPx.1.kept (fun i q h => hk_2 q.1 ((hPx.1 i q h).lt) (hmx _ _ _ i q h)), hPx.2⟩ : gWd D (rwT k ad) _ _ _ H2)
  obtain ⟨z_2, w0_2, rfl, rfl, rfl, rfl, p0_2, p1_2, p2_2⟩ := hq_2
  show W p l e room_1 s m #[Value.ref b] below meth c _ _ 100 12380 Q (F0 m 479 ls [.int (iI z_2)])
  obtain ⟨h_st, h_tm, h_en, h_ho, h_hw, h_oi, h_ti, h_h0, h_wi, h_z⟩ := rl_reach (a1 := (X (7 * t + 1))) (a2 := (X (7 * t + 2))) (a3 := (X (7 * t + 3))) k_st k_tm k_rn k_it k_ks k_bk k_cl k_mn k_ap k_hs k_be k_zo k_wh k_rd k_rt k_fr k_en k_ho k_hw k_wo k_ci k_an k_ah k_ad k_sq k_cd k_kd k_op k_la k_lo k_om k_oi k_ti k_h0 k_ck k_or k_wt k_wi k_sh k_bx k_rp k_bm k_tp k_ta k_fk k_fp g_cl g_mn g_rn g_ks g_ox g_tm g_wh g_fr g_la g_ti p0_1 p1_1 p2_1 p0_2 p1_2 p2_2
  refine lv_pop hx hb dL_law_479 rfl ?_
  refine lv_goto (tgt := 1080) hx hb dL_law_480 (by decide) ?_
  refine back _ _ _ _ _ _ _ _ ?_ hPx hPm hS
  exact ⟨h_st, h_tm, k_rn, k_it, k_ks, k_bk, k_cl, k_mn, k_ap, k_hs, k_be, k_zo, k_wh, k_rd, k_rt, k_fr, h_en, h_ho, h_hw, k_wo, k_ci, k_an, k_ah, k_ad, k_sq, k_cd, k_kd, k_op, k_la, k_lo, k_om, h_oi, h_ti, h_h0, k_ck, k_or, k_wt, h_wi, k_sh, k_bx, k_rp, k_bm, k_tp, k_ta, k_fk, k_fp⟩
set_option maxHeartbeats 4000000 in
set_option maxRecDepth 100000 in
theorem law_case_9 (C : gC D k p s m #[Value.ref b] c code R_law) (hml : c.maxLocals = 4) (hX : va_X b L (fun j => iI (X j)) s s.heap) (hXr : ∀ j, inR (X j)) (hbl : b < s.heap.size) (ht : 7 * t + 7 ≤ L) (hL : L ≤ 3584) (hE : gEv za (fun q : Nat => s.heap.size ≤ q) s s.heap) (hDx : rwD Ax k ad) (hDm : mdD Am k bd) (hAx : ∀ q : Nat, Ax q → s.heap.size ≤ q) (hAm : ∀ q : Nat, Am q → s.heap.size ≤ q) (hxm : ∀ (v : gV) (f g : gF) (i : Nat) (q : Nat × va_E), (mdW k bd v f g)[i]? = some q → ¬ Ax q.1) (hmx : ∀ (v : gV) (f g : gF) (i : Nat) (q : Nat × va_E), (rwW k ad v f g)[i]? = some q → ¬ Am q.1) (hI : lwI vx fx vm fm) (hPx : gWd D (rwT k ad) vx fx gx H) (hPm : gWd D (mdT k bd) vm fm gm H) (hS : va_S (fun q : Nat => s.heap.size ≤ q) s.heap H locs) (hl : lv_has ls 4 [(3, .int (iI (7 * (t : Int)))), (2, .ref (bd 0)), (1, .ref (ad 0)), (0, .ref b)]) (back : ∀ (vx vm : gV) (fx gx fm gm : gF) (H : Heap) (locs : List Loc), lwI vx fx vm fm → gWd D (rwT k ad) vx fx gx H → gWd D (mdT k bd) vm fm gm H → va_S (fun q : Nat => s.heap.size ≤ q) s.heap H locs → W p l e room_1 s m #[Value.ref b] below meth c H locs 100 12380 Q (F0 m 1080 ls [])) : W p l e room_1 s m #[Value.ref b] below meth c H locs 100 12380 Q (F0 m 483 ls []) := by
  have hx := C.1
  have hb := C.2.1
  have hbA : ¬ (fun q : Nat => s.heap.size ≤ q) b := Nat.not_le.mpr hbl
  have hT0 : 0 ≤ vx 0 ∧ vx 0 ≤ 700 := hPx.2.1 0
  have hT1 : 0 ≤ vm 2 ∧ vm 2 ≤ 700 := hPm.2.1 2
  obtain ⟨k_st, k_tm, k_rn, k_it, k_ks, k_bk, k_cl, k_mn, k_ap, k_hs, k_be, k_zo, k_wh, k_rd, k_rt, k_fr, k_en, k_ho, k_hw, k_wo, k_ci, k_an, k_ah, k_ad, k_sq, k_cd, k_kd, k_op, k_la, k_lo, k_om, k_oi, k_ti, k_h0, k_ck, k_or, k_wt, k_wi, k_sh, k_bx, k_rp, k_bm, k_tp, k_ta, k_fk, k_fp⟩ := id hI
  have g_cl : 0 ≤ (vx 21) ∧ (vx 21) ≤ 16 := hPx.2.1 21
  have g_mn : 0 ≤ (vx 23) ∧ (vx 23) ≤ 300 := hPx.2.1 23
  have g_rn : 0 ≤ (vx 1) ∧ (vx 1) ≤ 4 := hPx.2.1 1
  have g_ks : 0 ≤ (vx 3) ∧ (vx 3) ≤ 4 := hPx.2.1 3
  have g_ox : 0 ≤ (vx 22) ∧ (vx 22) ≤ 3 := hPx.2.1 22
  have g_tm : 0 ≤ (vx 26) ∧ (vx 26) ≤ 1000000 := hPx.2.1 26
  have g_wh : ∀ k, 0 ≤ (fx 20) k ∧ (fx 20) k ≤ 15 := fun k => hPx.2.2 20 k
  have g_fr : ∀ k, 0 ≤ (fx 23) k ∧ (fx 23) k ≤ 1000000 := fun k => hPx.2.2 23 k
  have g_la : ∀ k, 0 ≤ (fx 18) k ∧ (fx 18) k ≤ 3 := fun k => hPx.2.2 18 k
  have g_ti : ∀ k, 0 ≤ (fx 31) k ∧ (fx 31) k ≤ 20 := fun k => hPx.2.2 31 k
  have m_oi : OI (vm 25) (fm 24) (fm 30) (fx 27) := by have h := k_oi; rw [k_mn, k_wh, k_hw] at h; exact h
  have m_ti : TI (vm 25) (vm 24) (fm 27) (fm 28) (fm 30) := by have h := k_ti; rw [k_mn, k_tm, k_fr, k_en, k_hw] at h; exact h
  have m_wi : ∀ c, 0 ≤ c → c < (vm 22) → WI (vm 24) (fm 35) (fm 36) (fm 34) c := fun c c0 c1 => by have h := k_wi c c0 (by omega); rw [k_tm, k_wo, k_ci] at h; exact WI_ti h ((k_wt c c0 (by omega)).1 (by omega))
  have hX1 := hXr (7 * t + 1)
  have hX2 := hXr (7 * t + 2)
  have hX3 := hXr (7 * t + 3)
  have hX4 := hXr (7 * t + 4)
  have hX5 := hXr (7 * t + 5)
  have hX6 := hXr (7 * t + 6)
  refine lv_aload_n hx hb dL_law_483 rfl (lv_at hl 2 rfl) ?_
  refine lv_aload_n hx hb dL_law_484 rfl (lv_at hl 3 rfl) ?_
  refine lv_iload_n hx hb dL_law_485 rfl (lv_at hl 0 rfl) ?_
  refine lv_iconst (v := iI 1) hx hb dL_law_486 rfl ?_
  refine gi_add (z := (7 * (t : Int) + 1)) hx hb dL_law_487 rfl ?_
  refine g_sld (i := 7 * t + 1) C hX hbl hbA hS (by omega) (by omega) (by omega) dL_law_488 ?_
  refine lv_aload_n hx hb dL_law_489 rfl (lv_at hl 3 rfl) ?_
  refine lv_iload_n hx hb dL_law_490 rfl (lv_at hl 0 rfl) ?_
  refine lv_iconst (v := iI 2) hx hb dL_law_491 rfl ?_
  refine gi_add (z := (7 * (t : Int) + 2)) hx hb dL_law_492 rfl ?_
  refine g_sld (i := 7 * t + 2) C hX hbl hbA hS (by omega) (by omega) (by omega) dL_law_493 ?_
  refine lv_aload_n hx hb dL_law_494 rfl (lv_at hl 3 rfl) ?_
  refine lv_iload_n hx hb dL_law_495 rfl (lv_at hl 0 rfl) ?_
  refine lv_iconst (v := iI 3) hx hb dL_law_496 rfl ?_
  refine gi_add (z := (7 * (t : Int) + 3)) hx hb dL_law_497 rfl ?_
  refine g_sld (i := 7 * t + 3) C hX hbl hbA hS (by omega) (by omega) (by omega) dL_law_498 ?_
  refine gi_zeq (tgt := 506) hx hb dL_law_499 (by decide) (by omega) (fun c_1 => ?_) (fun c_1 => ?_)
  · refine lv_iconst (v := iI 0) hx hb dL_law_506 rfl ?_
    refine g_cv (As := [.int (iI (X (7 * t + 1))), .int (iI (X (7 * t + 2))), .int (iI 0)]) (rest := []) (n := 3) C hml (x_Ro_fall l D k Ax ad hDx vx fx gx (X (7 * t + 1)) (X (7 * t + 2)) 0 (by omega) (by omega) (by decide) k_sh k_oi) mM_L_54 mI_X10_fall mE_X10_fall mN_X10 mC_X10_fall (by decide +kernel) 0 (ci := 10) rfl rfl hPx hS hAx ⟨Nat.le_of_ble_eq_true rfl, Nat.le_of_ble_eq_true rfl⟩ ⟨Nat.le_of_ble_eq_true rfl, Nat.le_of_ble_eq_true rfl⟩ hl.1 rfl rfl (Nat.le_of_ble_eq_true rfl) dL_law_507 (fun r_2 v_2 f_2 g_2 H2 locs hq_2 hPx hk_2 hS => ?_)
    replace hPm : gWd D (mdT k bd) vm fm gm H2 := ⟨hPm.1.kept (fun i q h => hk_2 q.1 ((hPm.1 i q h).lt) (hxm _ _ _ i q h)), hPm.2⟩
    obtain ⟨z_2, w25_2, rfl, rfl, rfl, rfl, p0_2, p1_2⟩ := hq_2
    show W p l e room_1 s m #[Value.ref b] below meth c _ _ 100 12380 Q (F0 m 510 ls [.int (iI z_2)])
    refine lv_pop hx hb dL_law_510 rfl ?_
    refine lv_aload_n hx hb dL_law_511 rfl (lv_at hl 1 rfl) ?_
    refine lv_aload_n hx hb dL_law_512 rfl (lv_at hl 3 rfl) ?_
    refine lv_iload_n hx hb dL_law_513 rfl (lv_at hl 0 rfl) ?_
    refine lv_iconst (v := iI 1) hx hb dL_law_514 rfl ?_
    refine gi_add (z := (7 * (t : Int) + 1)) hx hb dL_law_515 rfl ?_
    refine g_sld (i := 7 * t + 1) C hX hbl hbA hS (by omega) (by omega) (by omega) dL_law_516 ?_
    refine lv_aload_n hx hb dL_law_517 rfl (lv_at hl 3 rfl) ?_
    refine lv_iload_n hx hb dL_law_518 rfl (lv_at hl 0 rfl) ?_
    refine lv_iconst (v := iI 2) hx hb dL_law_519 rfl ?_
    refine gi_add (z := (7 * (t : Int) + 2)) hx hb dL_law_520 rfl ?_
    refine g_sld (i := 7 * t + 2) C hX hbl hbA hS (by omega) (by omega) (by omega) dL_law_521 ?_
    refine lv_aload_n hx hb dL_law_522 rfl (lv_at hl 3 rfl) ?_
    refine lv_iload_n hx hb dL_law_523 rfl (lv_at hl 0 rfl) ?_
    refine lv_iconst (v := iI 3) hx hb dL_law_524 rfl ?_
    refine gi_add (z := (7 * (t : Int) + 3)) hx hb dL_law_525 rfl ?_
    refine g_sld (i := 7 * t + 3) C hX hbl hbA hS (by omega) (by omega) (by omega) dL_law_526 ?_
    refine gi_zeq (tgt := 534) hx hb dL_law_527 (by decide) (by omega) (fun c_3 => ?_) (fun c_3 => ?_)
    · refine lv_iconst (v := iI 0) hx hb dL_law_534 rfl ?_
      refine g_cv (As := [.int (iI (X (7 * t + 1))), .int (iI (X (7 * t + 2))), .int (iI 0)]) (rest := []) (n := 3) C hml (y_fall l D k Am bd hDm vm fm gm (X (7 * t + 1)) (X (7 * t + 2)) 0 (fx 27) (by omega) (by omega) (by decide) m_oi) mM_L_58 mI_X11_fall mE_X11_fall mN_X11 mC_X11_fall (by decide +kernel) 0 (ci := 11) rfl rfl hPm hS hAm ⟨Nat.le_of_ble_eq_true rfl, Nat.le_of_ble_eq_true rfl⟩ ⟨Nat.le_of_ble_eq_true rfl, Nat.le_of_ble_eq_true rfl⟩ hl.1 rfl rfl (Nat.le_of_ble_eq_true rfl) dL_law_535 (fun r_4 v_4 f_4 g_4 H4 locs hq_4 hPm hk_4 hS => ?_)
      replace hPx := (⟨hPx.1.kept (fun i q h => hk_4 q.1 ((hPx.1 i q h).lt) (hmx _ _ _ i q h)), hPx.2⟩ : gWd D (rwT k ad) _ _ _ H4)
      obtain ⟨z_4, w0_4, rfl, rfl, rfl, rfl, p0_4, p1_4⟩ := hq_4
      show W p l e room_1 s m #[Value.ref b] below meth c _ _ 100 12380 Q (F0 m 538 ls [.int (iI z_4)])
      obtain ⟨h_st, h_tm, h_en, h_hw, h_oi, h_ti, h_h0, h_wi, h_z⟩ := rl_fall (a1 := (X (7 * t + 1))) (a2 := (X (7 * t + 2))) (a3 := 0) k_st k_tm k_rn k_it k_ks k_bk k_cl k_mn k_ap k_hs k_be k_zo k_wh k_rd k_rt k_fr k_en k_ho k_hw k_wo k_ci k_an k_ah k_ad k_sq k_cd k_kd k_op k_la k_lo k_om k_oi k_ti k_h0 k_ck k_or k_wt k_wi k_sh k_bx k_rp k_bm k_tp k_ta k_fk k_fp g_cl g_mn g_rn g_ks g_ox g_tm g_wh g_fr g_la g_ti p0_2 p1_2 p0_4 p1_4
      refine lv_pop hx hb dL_law_538 rfl ?_
      refine lv_goto (tgt := 1080) hx hb dL_law_539 (by decide) ?_
      refine back _ _ _ _ _ _ _ _ ?_ hPx hPm hS
      exact ⟨h_st, h_tm, k_rn, k_it, k_ks, k_bk, k_cl, k_mn, k_ap, k_hs, k_be, k_zo, k_wh, k_rd, k_rt, k_fr, h_en, k_ho, h_hw, k_wo, k_ci, k_an, k_ah, k_ad, k_sq, k_cd, k_kd, k_op, k_la, k_lo, k_om, h_oi, h_ti, h_h0, k_ck, k_or, k_wt, h_wi, k_sh, k_bx, k_rp, k_bm, k_tp, k_ta, k_fk, k_fp⟩
    · exact absurd c_1 c_3
  · refine lv_iconst (v := iI 1) hx hb dL_law_502 rfl ?_
    refine lv_goto (tgt := 507) hx hb dL_law_503 (by decide) ?_
    refine g_cv (As := [.int (iI (X (7 * t + 1))), .int (iI (X (7 * t + 2))), .int (iI 1)]) (rest := []) (n := 3) C hml (x_Ro_fall l D k Ax ad hDx vx fx gx (X (7 * t + 1)) (X (7 * t + 2)) 1 (by omega) (by omega) (by decide) k_sh k_oi) mM_L_54 mI_X10_fall mE_X10_fall mN_X10 mC_X10_fall (by decide +kernel) 0 (ci := 10) rfl rfl hPx hS hAx ⟨Nat.le_of_ble_eq_true rfl, Nat.le_of_ble_eq_true rfl⟩ ⟨Nat.le_of_ble_eq_true rfl, Nat.le_of_ble_eq_true rfl⟩ hl.1 rfl rfl (Nat.le_of_ble_eq_true rfl) dL_law_507 (fun r_5 v_5 f_5 g_5 H5 locs hq_5 hPx hk_5 hS => ?_)
    replace hPm : gWd D (mdT k bd) vm fm gm H5 := ⟨hPm.1.kept (fun i q h => hk_5 q.1 ((hPm.1 i q h).lt) (hxm _ _ _ i q h)), hPm.2⟩
    obtain ⟨z_5, w25_5, rfl, rfl, rfl, rfl, p0_5, p1_5⟩ := hq_5
    show W p l e room_1 s m #[Value.ref b] below meth c _ _ 100 12380 Q (F0 m 510 ls [.int (iI z_5)])
    refine lv_pop hx hb dL_law_510 rfl ?_
    refine lv_aload_n hx hb dL_law_511 rfl (lv_at hl 1 rfl) ?_
    refine lv_aload_n hx hb dL_law_512 rfl (lv_at hl 3 rfl) ?_
    refine lv_iload_n hx hb dL_law_513 rfl (lv_at hl 0 rfl) ?_
    refine lv_iconst (v := iI 1) hx hb dL_law_514 rfl ?_
    refine gi_add (z := (7 * (t : Int) + 1)) hx hb dL_law_515 rfl ?_
    refine g_sld (i := 7 * t + 1) C hX hbl hbA hS (by omega) (by omega) (by omega) dL_law_516 ?_
    refine lv_aload_n hx hb dL_law_517 rfl (lv_at hl 3 rfl) ?_
    refine lv_iload_n hx hb dL_law_518 rfl (lv_at hl 0 rfl) ?_
    refine lv_iconst (v := iI 2) hx hb dL_law_519 rfl ?_
    refine gi_add (z := (7 * (t : Int) + 2)) hx hb dL_law_520 rfl ?_
    refine g_sld (i := 7 * t + 2) C hX hbl hbA hS (by omega) (by omega) (by omega) dL_law_521 ?_
    refine lv_aload_n hx hb dL_law_522 rfl (lv_at hl 3 rfl) ?_
    refine lv_iload_n hx hb dL_law_523 rfl (lv_at hl 0 rfl) ?_
    refine lv_iconst (v := iI 3) hx hb dL_law_524 rfl ?_
    refine gi_add (z := (7 * (t : Int) + 3)) hx hb dL_law_525 rfl ?_
    refine g_sld (i := 7 * t + 3) C hX hbl hbA hS (by omega) (by omega) (by omega) dL_law_526 ?_
    refine gi_zeq (tgt := 534) hx hb dL_law_527 (by decide) (by omega) (fun c_6 => ?_) (fun c_6 => ?_)
    · exact absurd c_6 c_1
    · refine lv_iconst (v := iI 1) hx hb dL_law_530 rfl ?_
      refine lv_goto (tgt := 535) hx hb dL_law_531 (by decide) ?_
      refine g_cv (As := [.int (iI (X (7 * t + 1))), .int (iI (X (7 * t + 2))), .int (iI 1)]) (rest := []) (n := 3) C hml (y_fall l D k Am bd hDm vm fm gm (X (7 * t + 1)) (X (7 * t + 2)) 1 (fx 27) (by omega) (by omega) (by decide) m_oi) mM_L_58 mI_X11_fall mE_X11_fall mN_X11 mC_X11_fall (by decide +kernel) 0 (ci := 11) rfl rfl hPm hS hAm ⟨Nat.le_of_ble_eq_true rfl, Nat.le_of_ble_eq_true rfl⟩ ⟨Nat.le_of_ble_eq_true rfl, Nat.le_of_ble_eq_true rfl⟩ hl.1 rfl rfl (Nat.le_of_ble_eq_true rfl) dL_law_535 (fun r_7 v_7 f_7 g_7 H7 locs hq_7 hPm hk_7 hS => ?_)
      replace hPx := (⟨hPx.1.kept (fun i q h => hk_7 q.1 ((hPx.1 i q h).lt) (hmx _ _ _ i q h)), hPx.2⟩ : gWd D (rwT k ad) _ _ _ H7)
      obtain ⟨z_7, w0_7, rfl, rfl, rfl, rfl, p0_7, p1_7⟩ := hq_7
      show W p l e room_1 s m #[Value.ref b] below meth c _ _ 100 12380 Q (F0 m 538 ls [.int (iI z_7)])
      obtain ⟨h_st, h_tm, h_en, h_hw, h_oi, h_ti, h_h0, h_wi, h_z⟩ := rl_fall (a1 := (X (7 * t + 1))) (a2 := (X (7 * t + 2))) (a3 := 1) k_st k_tm k_rn k_it k_ks k_bk k_cl k_mn k_ap k_hs k_be k_zo k_wh k_rd k_rt k_fr k_en k_ho k_hw k_wo k_ci k_an k_ah k_ad k_sq k_cd k_kd k_op k_la k_lo k_om k_oi k_ti k_h0 k_ck k_or k_wt k_wi k_sh k_bx k_rp k_bm k_tp k_ta k_fk k_fp g_cl g_mn g_rn g_ks g_ox g_tm g_wh g_fr g_la g_ti p0_5 p1_5 p0_7 p1_7
      refine lv_pop hx hb dL_law_538 rfl ?_
      refine lv_goto (tgt := 1080) hx hb dL_law_539 (by decide) ?_
      refine back _ _ _ _ _ _ _ _ ?_ hPx hPm hS
      exact ⟨h_st, h_tm, k_rn, k_it, k_ks, k_bk, k_cl, k_mn, k_ap, k_hs, k_be, k_zo, k_wh, k_rd, k_rt, k_fr, h_en, k_ho, h_hw, k_wo, k_ci, k_an, k_ah, k_ad, k_sq, k_cd, k_kd, k_op, k_la, k_lo, k_om, h_oi, h_ti, h_h0, k_ck, k_or, k_wt, h_wi, k_sh, k_bx, k_rp, k_bm, k_tp, k_ta, k_fk, k_fp⟩
set_option maxHeartbeats 4000000 in
set_option maxRecDepth 100000 in
theorem law_case_10 (C : gC D k p s m #[Value.ref b] c code R_law) (hml : c.maxLocals = 4) (hX : va_X b L (fun j => iI (X j)) s s.heap) (hXr : ∀ j, inR (X j)) (hbl : b < s.heap.size) (ht : 7 * t + 7 ≤ L) (hL : L ≤ 3584) (hE : gEv za (fun q : Nat => s.heap.size ≤ q) s s.heap) (hDx : rwD Ax k ad) (hDm : mdD Am k bd) (hAx : ∀ q : Nat, Ax q → s.heap.size ≤ q) (hAm : ∀ q : Nat, Am q → s.heap.size ≤ q) (hxm : ∀ (v : gV) (f g : gF) (i : Nat) (q : Nat × va_E), (mdW k bd v f g)[i]? = some q → ¬ Ax q.1) (hmx : ∀ (v : gV) (f g : gF) (i : Nat) (q : Nat × va_E), (rwW k ad v f g)[i]? = some q → ¬ Am q.1) (hI : lwI vx fx vm fm) (hPx : gWd D (rwT k ad) vx fx gx H) (hPm : gWd D (mdT k bd) vm fm gm H) (hS : va_S (fun q : Nat => s.heap.size ≤ q) s.heap H locs) (hl : lv_has ls 4 [(3, .int (iI (7 * (t : Int)))), (2, .ref (bd 0)), (1, .ref (ad 0)), (0, .ref b)]) (back : ∀ (vx vm : gV) (fx gx fm gm : gF) (H : Heap) (locs : List Loc), lwI vx fx vm fm → gWd D (rwT k ad) vx fx gx H → gWd D (mdT k bd) vm fm gm H → va_S (fun q : Nat => s.heap.size ≤ q) s.heap H locs → W p l e room_1 s m #[Value.ref b] below meth c H locs 100 12380 Q (F0 m 1080 ls [])) : W p l e room_1 s m #[Value.ref b] below meth c H locs 100 12380 Q (F0 m 542 ls []) := by
  have hx := C.1
  have hb := C.2.1
  have hbA : ¬ (fun q : Nat => s.heap.size ≤ q) b := Nat.not_le.mpr hbl
  have hT0 : 0 ≤ vx 0 ∧ vx 0 ≤ 700 := hPx.2.1 0
  have hT1 : 0 ≤ vm 2 ∧ vm 2 ≤ 700 := hPm.2.1 2
  obtain ⟨k_st, k_tm, k_rn, k_it, k_ks, k_bk, k_cl, k_mn, k_ap, k_hs, k_be, k_zo, k_wh, k_rd, k_rt, k_fr, k_en, k_ho, k_hw, k_wo, k_ci, k_an, k_ah, k_ad, k_sq, k_cd, k_kd, k_op, k_la, k_lo, k_om, k_oi, k_ti, k_h0, k_ck, k_or, k_wt, k_wi, k_sh, k_bx, k_rp, k_bm, k_tp, k_ta, k_fk, k_fp⟩ := id hI
  have g_cl : 0 ≤ (vx 21) ∧ (vx 21) ≤ 16 := hPx.2.1 21
  have g_mn : 0 ≤ (vx 23) ∧ (vx 23) ≤ 300 := hPx.2.1 23
  have g_rn : 0 ≤ (vx 1) ∧ (vx 1) ≤ 4 := hPx.2.1 1
  have g_ks : 0 ≤ (vx 3) ∧ (vx 3) ≤ 4 := hPx.2.1 3
  have g_ox : 0 ≤ (vx 22) ∧ (vx 22) ≤ 3 := hPx.2.1 22
  have g_tm : 0 ≤ (vx 26) ∧ (vx 26) ≤ 1000000 := hPx.2.1 26
  have g_wh : ∀ k, 0 ≤ (fx 20) k ∧ (fx 20) k ≤ 15 := fun k => hPx.2.2 20 k
  have g_fr : ∀ k, 0 ≤ (fx 23) k ∧ (fx 23) k ≤ 1000000 := fun k => hPx.2.2 23 k
  have g_la : ∀ k, 0 ≤ (fx 18) k ∧ (fx 18) k ≤ 3 := fun k => hPx.2.2 18 k
  have g_ti : ∀ k, 0 ≤ (fx 31) k ∧ (fx 31) k ≤ 20 := fun k => hPx.2.2 31 k
  have m_oi : OI (vm 25) (fm 24) (fm 30) (fx 27) := by have h := k_oi; rw [k_mn, k_wh, k_hw] at h; exact h
  have m_ti : TI (vm 25) (vm 24) (fm 27) (fm 28) (fm 30) := by have h := k_ti; rw [k_mn, k_tm, k_fr, k_en, k_hw] at h; exact h
  have m_wi : ∀ c, 0 ≤ c → c < (vm 22) → WI (vm 24) (fm 35) (fm 36) (fm 34) c := fun c c0 c1 => by have h := k_wi c c0 (by omega); rw [k_tm, k_wo, k_ci] at h; exact WI_ti h ((k_wt c c0 (by omega)).1 (by omega))
  have hX1 := hXr (7 * t + 1)
  have hX2 := hXr (7 * t + 2)
  have hX3 := hXr (7 * t + 3)
  have hX4 := hXr (7 * t + 4)
  have hX5 := hXr (7 * t + 5)
  have hX6 := hXr (7 * t + 6)
  refine lv_aload_n hx hb dL_law_542 rfl (lv_at hl 2 rfl) ?_
  refine lv_aload_n hx hb dL_law_543 rfl (lv_at hl 3 rfl) ?_
  refine lv_iload_n hx hb dL_law_544 rfl (lv_at hl 0 rfl) ?_
  refine lv_iconst (v := iI 1) hx hb dL_law_545 rfl ?_
  refine gi_add (z := (7 * (t : Int) + 1)) hx hb dL_law_546 rfl ?_
  refine g_sld (i := 7 * t + 1) C hX hbl hbA hS (by omega) (by omega) (by omega) dL_law_547 ?_
  refine lv_aload_n hx hb dL_law_548 rfl (lv_at hl 3 rfl) ?_
  refine lv_iload_n hx hb dL_law_549 rfl (lv_at hl 0 rfl) ?_
  refine lv_iconst (v := iI 2) hx hb dL_law_550 rfl ?_
  refine gi_add (z := (7 * (t : Int) + 2)) hx hb dL_law_551 rfl ?_
  refine g_sld (i := 7 * t + 2) C hX hbl hbA hS (by omega) (by omega) (by omega) dL_law_552 ?_
  refine lv_aload_n hx hb dL_law_553 rfl (lv_at hl 3 rfl) ?_
  refine lv_iload_n hx hb dL_law_554 rfl (lv_at hl 0 rfl) ?_
  refine lv_iconst (v := iI 3) hx hb dL_law_555 rfl ?_
  refine gi_add (z := (7 * (t : Int) + 3)) hx hb dL_law_556 rfl ?_
  refine g_sld (i := 7 * t + 3) C hX hbl hbA hS (by omega) (by omega) (by omega) dL_law_557 ?_
  refine gi_zeq (tgt := 565) hx hb dL_law_558 (by decide) (by omega) (fun c_1 => ?_) (fun c_1 => ?_)
  · refine lv_iconst (v := iI 0) hx hb dL_law_565 rfl ?_
    refine g_cv (As := [.int (iI (X (7 * t + 1))), .int (iI (X (7 * t + 2))), .int (iI 0)]) (rest := []) (n := 3) C hml (x_Ro_out l D k Ax ad hDx vx fx gx (X (7 * t + 1)) (X (7 * t + 2)) 0 (by omega) (by omega) (by decide) k_sh k_oi (by omega)) mM_L_59 mI_X10_out mE_X10_out mN_X10 mC_X10_out (by decide +kernel) 0 (ci := 10) rfl rfl hPx hS hAx ⟨Nat.le_of_ble_eq_true rfl, Nat.le_of_ble_eq_true rfl⟩ ⟨Nat.le_of_ble_eq_true rfl, Nat.le_of_ble_eq_true rfl⟩ hl.1 rfl rfl (Nat.le_of_ble_eq_true rfl) dL_law_566 (fun r_2 v_2 f_2 g_2 H2 locs hq_2 hPx hk_2 hS => ?_)
    replace hPm : gWd D (mdT k bd) vm fm gm H2 := ⟨hPm.1.kept (fun i q h => hk_2 q.1 ((hPm.1 i q h).lt) (hxm _ _ _ i q h)), hPm.2⟩
    obtain ⟨z_2, w25_2, rfl, rfl, rfl, rfl, p0_2, p1_2⟩ := hq_2
    show W p l e room_1 s m #[Value.ref b] below meth c _ _ 100 12380 Q (F0 m 569 ls [.int (iI z_2)])
    refine lv_pop hx hb dL_law_569 rfl ?_
    refine lv_aload_n hx hb dL_law_570 rfl (lv_at hl 1 rfl) ?_
    refine lv_aload_n hx hb dL_law_571 rfl (lv_at hl 3 rfl) ?_
    refine lv_iload_n hx hb dL_law_572 rfl (lv_at hl 0 rfl) ?_
    refine lv_iconst (v := iI 1) hx hb dL_law_573 rfl ?_
    refine gi_add (z := (7 * (t : Int) + 1)) hx hb dL_law_574 rfl ?_
    refine g_sld (i := 7 * t + 1) C hX hbl hbA hS (by omega) (by omega) (by omega) dL_law_575 ?_
    refine lv_aload_n hx hb dL_law_576 rfl (lv_at hl 3 rfl) ?_
    refine lv_iload_n hx hb dL_law_577 rfl (lv_at hl 0 rfl) ?_
    refine lv_iconst (v := iI 2) hx hb dL_law_578 rfl ?_
    refine gi_add (z := (7 * (t : Int) + 2)) hx hb dL_law_579 rfl ?_
    refine g_sld (i := 7 * t + 2) C hX hbl hbA hS (by omega) (by omega) (by omega) dL_law_580 ?_
    refine lv_aload_n hx hb dL_law_581 rfl (lv_at hl 3 rfl) ?_
    refine lv_iload_n hx hb dL_law_582 rfl (lv_at hl 0 rfl) ?_
    refine lv_iconst (v := iI 3) hx hb dL_law_583 rfl ?_
    refine gi_add (z := (7 * (t : Int) + 3)) hx hb dL_law_584 rfl ?_
    refine g_sld (i := 7 * t + 3) C hX hbl hbA hS (by omega) (by omega) (by omega) dL_law_585 ?_
    refine gi_zeq (tgt := 593) hx hb dL_law_586 (by decide) (by omega) (fun c_3 => ?_) (fun c_3 => ?_)
    · refine lv_iconst (v := iI 0) hx hb dL_law_593 rfl ?_
      refine g_cv (As := [.int (iI (X (7 * t + 1))), .int (iI (X (7 * t + 2))), .int (iI 0)]) (rest := []) (n := 3) C hml (y_out l D k Am bd hDm vm fm gm (X (7 * t + 1)) (X (7 * t + 2)) 0 (fx 27) (by omega) (by omega) (by decide) m_oi (by omega)) mM_L_62 mI_X11_out mE_X11_out mN_X11 mC_X11_out (by decide +kernel) 0 (ci := 11) rfl rfl hPm hS hAm ⟨Nat.le_of_ble_eq_true rfl, Nat.le_of_ble_eq_true rfl⟩ ⟨Nat.le_of_ble_eq_true rfl, Nat.le_of_ble_eq_true rfl⟩ hl.1 rfl rfl (Nat.le_of_ble_eq_true rfl) dL_law_594 (fun r_4 v_4 f_4 g_4 H4 locs hq_4 hPm hk_4 hS => ?_)
      replace hPx := (⟨hPx.1.kept (fun i q h => hk_4 q.1 ((hPx.1 i q h).lt) (hmx _ _ _ i q h)), hPx.2⟩ : gWd D (rwT k ad) _ _ _ H4)
      obtain ⟨z_4, w0_4, rfl, rfl, rfl, rfl, p0_4, p1_4⟩ := hq_4
      show W p l e room_1 s m #[Value.ref b] below meth c _ _ 100 12380 Q (F0 m 597 ls [.int (iI z_4)])
      obtain ⟨h_st, h_tm, h_en, h_hw, h_wo, h_ci, h_oi, h_ti, h_h0, h_wt, h_wi, h_z⟩ := rl_out (a1 := (X (7 * t + 1))) (a2 := (X (7 * t + 2))) (a3 := 0) k_st k_tm k_rn k_it k_ks k_bk k_cl k_mn k_ap k_hs k_be k_zo k_wh k_rd k_rt k_fr k_en k_ho k_hw k_wo k_ci k_an k_ah k_ad k_sq k_cd k_kd k_op k_la k_lo k_om k_oi k_ti k_h0 k_ck k_or k_wt k_wi k_sh k_bx k_rp k_bm k_tp k_ta k_fk k_fp g_cl g_mn g_rn g_ks g_ox g_tm g_wh g_fr g_la g_ti p0_2 p1_2 p0_4 p1_4 (by omega)
      refine lv_pop hx hb dL_law_597 rfl ?_
      refine lv_goto (tgt := 1080) hx hb dL_law_598 (by decide) ?_
      refine back _ _ _ _ _ _ _ _ ?_ hPx hPm hS
      exact ⟨h_st, h_tm, k_rn, k_it, k_ks, k_bk, k_cl, k_mn, k_ap, k_hs, k_be, k_zo, k_wh, k_rd, k_rt, k_fr, h_en, k_ho, h_hw, h_wo, h_ci, k_an, k_ah, k_ad, k_sq, k_cd, k_kd, k_op, k_la, k_lo, k_om, h_oi, h_ti, h_h0, k_ck, k_or, h_wt, h_wi, k_sh, k_bx, k_rp, k_bm, k_tp, k_ta, k_fk, k_fp⟩
    · exact absurd c_1 c_3
  · refine lv_iconst (v := iI 1) hx hb dL_law_561 rfl ?_
    refine lv_goto (tgt := 566) hx hb dL_law_562 (by decide) ?_
    refine g_cv (As := [.int (iI (X (7 * t + 1))), .int (iI (X (7 * t + 2))), .int (iI 1)]) (rest := []) (n := 3) C hml (x_Ro_out l D k Ax ad hDx vx fx gx (X (7 * t + 1)) (X (7 * t + 2)) 1 (by omega) (by omega) (by decide) k_sh k_oi (by omega)) mM_L_59 mI_X10_out mE_X10_out mN_X10 mC_X10_out (by decide +kernel) 0 (ci := 10) rfl rfl hPx hS hAx ⟨Nat.le_of_ble_eq_true rfl, Nat.le_of_ble_eq_true rfl⟩ ⟨Nat.le_of_ble_eq_true rfl, Nat.le_of_ble_eq_true rfl⟩ hl.1 rfl rfl (Nat.le_of_ble_eq_true rfl) dL_law_566 (fun r_5 v_5 f_5 g_5 H5 locs hq_5 hPx hk_5 hS => ?_)
    replace hPm : gWd D (mdT k bd) vm fm gm H5 := ⟨hPm.1.kept (fun i q h => hk_5 q.1 ((hPm.1 i q h).lt) (hxm _ _ _ i q h)), hPm.2⟩
    obtain ⟨z_5, w25_5, rfl, rfl, rfl, rfl, p0_5, p1_5⟩ := hq_5
    show W p l e room_1 s m #[Value.ref b] below meth c _ _ 100 12380 Q (F0 m 569 ls [.int (iI z_5)])
    refine lv_pop hx hb dL_law_569 rfl ?_
    refine lv_aload_n hx hb dL_law_570 rfl (lv_at hl 1 rfl) ?_
    refine lv_aload_n hx hb dL_law_571 rfl (lv_at hl 3 rfl) ?_
    refine lv_iload_n hx hb dL_law_572 rfl (lv_at hl 0 rfl) ?_
    refine lv_iconst (v := iI 1) hx hb dL_law_573 rfl ?_
    refine gi_add (z := (7 * (t : Int) + 1)) hx hb dL_law_574 rfl ?_
    refine g_sld (i := 7 * t + 1) C hX hbl hbA hS (by omega) (by omega) (by omega) dL_law_575 ?_
    refine lv_aload_n hx hb dL_law_576 rfl (lv_at hl 3 rfl) ?_
    refine lv_iload_n hx hb dL_law_577 rfl (lv_at hl 0 rfl) ?_
    refine lv_iconst (v := iI 2) hx hb dL_law_578 rfl ?_
    refine gi_add (z := (7 * (t : Int) + 2)) hx hb dL_law_579 rfl ?_
    refine g_sld (i := 7 * t + 2) C hX hbl hbA hS (by omega) (by omega) (by omega) dL_law_580 ?_
    refine lv_aload_n hx hb dL_law_581 rfl (lv_at hl 3 rfl) ?_
    refine lv_iload_n hx hb dL_law_582 rfl (lv_at hl 0 rfl) ?_
    refine lv_iconst (v := iI 3) hx hb dL_law_583 rfl ?_
    refine gi_add (z := (7 * (t : Int) + 3)) hx hb dL_law_584 rfl ?_
    refine g_sld (i := 7 * t + 3) C hX hbl hbA hS (by omega) (by omega) (by omega) dL_law_585 ?_
    refine gi_zeq (tgt := 593) hx hb dL_law_586 (by decide) (by omega) (fun c_6 => ?_) (fun c_6 => ?_)
    · exact absurd c_6 c_1
    · refine lv_iconst (v := iI 1) hx hb dL_law_589 rfl ?_
      refine lv_goto (tgt := 594) hx hb dL_law_590 (by decide) ?_
      refine g_cv (As := [.int (iI (X (7 * t + 1))), .int (iI (X (7 * t + 2))), .int (iI 1)]) (rest := []) (n := 3) C hml (y_out l D k Am bd hDm vm fm gm (X (7 * t + 1)) (X (7 * t + 2)) 1 (fx 27) (by omega) (by omega) (by decide) m_oi (by omega)) mM_L_62 mI_X11_out mE_X11_out mN_X11 mC_X11_out (by decide +kernel) 0 (ci := 11) rfl rfl hPm hS hAm ⟨Nat.le_of_ble_eq_true rfl, Nat.le_of_ble_eq_true rfl⟩ ⟨Nat.le_of_ble_eq_true rfl, Nat.le_of_ble_eq_true rfl⟩ hl.1 rfl rfl (Nat.le_of_ble_eq_true rfl) dL_law_594 (fun r_7 v_7 f_7 g_7 H7 locs hq_7 hPm hk_7 hS => ?_)
      replace hPx := (⟨hPx.1.kept (fun i q h => hk_7 q.1 ((hPx.1 i q h).lt) (hmx _ _ _ i q h)), hPx.2⟩ : gWd D (rwT k ad) _ _ _ H7)
      obtain ⟨z_7, w0_7, rfl, rfl, rfl, rfl, p0_7, p1_7⟩ := hq_7
      show W p l e room_1 s m #[Value.ref b] below meth c _ _ 100 12380 Q (F0 m 597 ls [.int (iI z_7)])
      obtain ⟨h_st, h_tm, h_en, h_hw, h_wo, h_ci, h_oi, h_ti, h_h0, h_wt, h_wi, h_z⟩ := rl_out (a1 := (X (7 * t + 1))) (a2 := (X (7 * t + 2))) (a3 := 1) k_st k_tm k_rn k_it k_ks k_bk k_cl k_mn k_ap k_hs k_be k_zo k_wh k_rd k_rt k_fr k_en k_ho k_hw k_wo k_ci k_an k_ah k_ad k_sq k_cd k_kd k_op k_la k_lo k_om k_oi k_ti k_h0 k_ck k_or k_wt k_wi k_sh k_bx k_rp k_bm k_tp k_ta k_fk k_fp g_cl g_mn g_rn g_ks g_ox g_tm g_wh g_fr g_la g_ti p0_5 p1_5 p0_7 p1_7 (by omega)
      refine lv_pop hx hb dL_law_597 rfl ?_
      refine lv_goto (tgt := 1080) hx hb dL_law_598 (by decide) ?_
      refine back _ _ _ _ _ _ _ _ ?_ hPx hPm hS
      exact ⟨h_st, h_tm, k_rn, k_it, k_ks, k_bk, k_cl, k_mn, k_ap, k_hs, k_be, k_zo, k_wh, k_rd, k_rt, k_fr, h_en, k_ho, h_hw, h_wo, h_ci, k_an, k_ah, k_ad, k_sq, k_cd, k_kd, k_op, k_la, k_lo, k_om, h_oi, h_ti, h_h0, k_ck, k_or, h_wt, h_wi, k_sh, k_bx, k_rp, k_bm, k_tp, k_ta, k_fk, k_fp⟩
set_option maxHeartbeats 4000000 in
set_option maxRecDepth 100000 in
theorem law_case_11 (C : gC D k p s m #[Value.ref b] c code R_law) (hml : c.maxLocals = 4) (hX : va_X b L (fun j => iI (X j)) s s.heap) (hXr : ∀ j, inR (X j)) (hbl : b < s.heap.size) (ht : 7 * t + 7 ≤ L) (hL : L ≤ 3584) (hE : gEv za (fun q : Nat => s.heap.size ≤ q) s s.heap) (hDx : rwD Ax k ad) (hDm : mdD Am k bd) (hAx : ∀ q : Nat, Ax q → s.heap.size ≤ q) (hAm : ∀ q : Nat, Am q → s.heap.size ≤ q) (hxm : ∀ (v : gV) (f g : gF) (i : Nat) (q : Nat × va_E), (mdW k bd v f g)[i]? = some q → ¬ Ax q.1) (hmx : ∀ (v : gV) (f g : gF) (i : Nat) (q : Nat × va_E), (rwW k ad v f g)[i]? = some q → ¬ Am q.1) (hI : lwI vx fx vm fm) (hPx : gWd D (rwT k ad) vx fx gx H) (hPm : gWd D (mdT k bd) vm fm gm H) (hS : va_S (fun q : Nat => s.heap.size ≤ q) s.heap H locs) (hl : lv_has ls 4 [(3, .int (iI (7 * (t : Int)))), (2, .ref (bd 0)), (1, .ref (ad 0)), (0, .ref b)]) (back : ∀ (vx vm : gV) (fx gx fm gm : gF) (H : Heap) (locs : List Loc), lwI vx fx vm fm → gWd D (rwT k ad) vx fx gx H → gWd D (mdT k bd) vm fm gm H → va_S (fun q : Nat => s.heap.size ≤ q) s.heap H locs → W p l e room_1 s m #[Value.ref b] below meth c H locs 100 12380 Q (F0 m 1080 ls [])) : W p l e room_1 s m #[Value.ref b] below meth c H locs 100 12380 Q (F0 m 601 ls []) := by
  have hx := C.1
  have hb := C.2.1
  have hbA : ¬ (fun q : Nat => s.heap.size ≤ q) b := Nat.not_le.mpr hbl
  have hT0 : 0 ≤ vx 0 ∧ vx 0 ≤ 700 := hPx.2.1 0
  have hT1 : 0 ≤ vm 2 ∧ vm 2 ≤ 700 := hPm.2.1 2
  obtain ⟨k_st, k_tm, k_rn, k_it, k_ks, k_bk, k_cl, k_mn, k_ap, k_hs, k_be, k_zo, k_wh, k_rd, k_rt, k_fr, k_en, k_ho, k_hw, k_wo, k_ci, k_an, k_ah, k_ad, k_sq, k_cd, k_kd, k_op, k_la, k_lo, k_om, k_oi, k_ti, k_h0, k_ck, k_or, k_wt, k_wi, k_sh, k_bx, k_rp, k_bm, k_tp, k_ta, k_fk, k_fp⟩ := id hI
  have g_cl : 0 ≤ (vx 21) ∧ (vx 21) ≤ 16 := hPx.2.1 21
  have g_mn : 0 ≤ (vx 23) ∧ (vx 23) ≤ 300 := hPx.2.1 23
  have g_rn : 0 ≤ (vx 1) ∧ (vx 1) ≤ 4 := hPx.2.1 1
  have g_ks : 0 ≤ (vx 3) ∧ (vx 3) ≤ 4 := hPx.2.1 3
  have g_ox : 0 ≤ (vx 22) ∧ (vx 22) ≤ 3 := hPx.2.1 22
  have g_tm : 0 ≤ (vx 26) ∧ (vx 26) ≤ 1000000 := hPx.2.1 26
  have g_wh : ∀ k, 0 ≤ (fx 20) k ∧ (fx 20) k ≤ 15 := fun k => hPx.2.2 20 k
  have g_fr : ∀ k, 0 ≤ (fx 23) k ∧ (fx 23) k ≤ 1000000 := fun k => hPx.2.2 23 k
  have g_la : ∀ k, 0 ≤ (fx 18) k ∧ (fx 18) k ≤ 3 := fun k => hPx.2.2 18 k
  have g_ti : ∀ k, 0 ≤ (fx 31) k ∧ (fx 31) k ≤ 20 := fun k => hPx.2.2 31 k
  have m_oi : OI (vm 25) (fm 24) (fm 30) (fx 27) := by have h := k_oi; rw [k_mn, k_wh, k_hw] at h; exact h
  have m_ti : TI (vm 25) (vm 24) (fm 27) (fm 28) (fm 30) := by have h := k_ti; rw [k_mn, k_tm, k_fr, k_en, k_hw] at h; exact h
  have m_wi : ∀ c, 0 ≤ c → c < (vm 22) → WI (vm 24) (fm 35) (fm 36) (fm 34) c := fun c c0 c1 => by have h := k_wi c c0 (by omega); rw [k_tm, k_wo, k_ci] at h; exact WI_ti h ((k_wt c c0 (by omega)).1 (by omega))
  have hX1 := hXr (7 * t + 1)
  have hX2 := hXr (7 * t + 2)
  have hX3 := hXr (7 * t + 3)
  have hX4 := hXr (7 * t + 4)
  have hX5 := hXr (7 * t + 5)
  have hX6 := hXr (7 * t + 6)
  refine lv_aload_n hx hb dL_law_601 rfl (lv_at hl 2 rfl) ?_
  refine lv_aload_n hx hb dL_law_602 rfl (lv_at hl 3 rfl) ?_
  refine lv_iload_n hx hb dL_law_603 rfl (lv_at hl 0 rfl) ?_
  refine lv_iconst (v := iI 1) hx hb dL_law_604 rfl ?_
  refine gi_add (z := (7 * (t : Int) + 1)) hx hb dL_law_605 rfl ?_
  refine g_sld (i := 7 * t + 1) C hX hbl hbA hS (by omega) (by omega) (by omega) dL_law_606 ?_
  refine g_cv (As := [.int (iI (X (7 * t + 1)))]) (rest := []) (n := 1) C hml (x_Ro_clock l D k Ax ad hDx vx fx gx (X (7 * t + 1)) (by omega) k_sh k_oi) mM_L_63 mI_X10_clock mE_X10_clock mN_X10 mC_X10_clock (by decide +kernel) 0 (ci := 10) rfl rfl hPx hS hAx ⟨Nat.le_of_ble_eq_true rfl, Nat.le_of_ble_eq_true rfl⟩ ⟨Nat.le_of_ble_eq_true rfl, Nat.le_of_ble_eq_true rfl⟩ hl.1 rfl rfl (Nat.le_of_ble_eq_true rfl) dL_law_607 (fun r_1 v_1 f_1 g_1 H1 locs hq_1 hPx hk_1 hS => ?_)
  replace hPm : gWd D (mdT k bd) vm fm gm H1 := ⟨hPm.1.kept (fun i q h => hk_1 q.1 ((hPm.1 i q h).lt) (hxm _ _ _ i q h)), hPm.2⟩
  obtain ⟨z_1, w25_1, rfl, rfl, rfl, rfl, p0_1, p1_1⟩ := hq_1
  show W p l e room_1 s m #[Value.ref b] below meth c _ _ 100 12380 Q (F0 m 610 ls [.int (iI z_1)])
  refine lv_pop hx hb dL_law_610 rfl ?_
  refine lv_aload_n hx hb dL_law_611 rfl (lv_at hl 1 rfl) ?_
  refine lv_aload_n hx hb dL_law_612 rfl (lv_at hl 3 rfl) ?_
  refine lv_iload_n hx hb dL_law_613 rfl (lv_at hl 0 rfl) ?_
  refine lv_iconst (v := iI 1) hx hb dL_law_614 rfl ?_
  refine gi_add (z := (7 * (t : Int) + 1)) hx hb dL_law_615 rfl ?_
  refine g_sld (i := 7 * t + 1) C hX hbl hbA hS (by omega) (by omega) (by omega) dL_law_616 ?_
  refine g_cv (As := [.int (iI (X (7 * t + 1)))]) (rest := []) (n := 1) C hml (y_clock l D k Am bd hDm vm fm gm (X (7 * t + 1)) (by omega)) mM_L_67 mI_X11_clock mE_X11_clock mN_X11 mC_X11_clock (by decide +kernel) 0 (ci := 11) rfl rfl hPm hS hAm ⟨Nat.le_of_ble_eq_true rfl, Nat.le_of_ble_eq_true rfl⟩ ⟨Nat.le_of_ble_eq_true rfl, Nat.le_of_ble_eq_true rfl⟩ hl.1 rfl rfl (Nat.le_of_ble_eq_true rfl) dL_law_617 (fun r_2 v_2 f_2 g_2 H2 locs hq_2 hPm hk_2 hS => ?_)
  replace hPx := (⟨hPx.1.kept (fun i q h => hk_2 q.1 ((hPx.1 i q h).lt) (hmx _ _ _ i q h)), hPx.2⟩ : gWd D (rwT k ad) _ _ _ H2)
  obtain ⟨z_2, w0_2, rfl, rfl, rfl, rfl, p0_2, p1_2⟩ := hq_2
  show W p l e room_1 s m #[Value.ref b] below meth c _ _ 100 12380 Q (F0 m 620 ls [.int (iI z_2)])
  obtain ⟨h_st, h_tm, h_en, h_hw, h_oi, h_ti, h_h0, h_wi, h_z⟩ := rl_clock (a1 := (X (7 * t + 1))) k_st k_tm k_rn k_it k_ks k_bk k_cl k_mn k_ap k_hs k_be k_zo k_wh k_rd k_rt k_fr k_en k_ho k_hw k_wo k_ci k_an k_ah k_ad k_sq k_cd k_kd k_op k_la k_lo k_om k_oi k_ti k_h0 k_ck k_or k_wt k_wi k_sh k_bx k_rp k_bm k_tp k_ta k_fk k_fp g_cl g_mn g_rn g_ks g_ox g_tm g_wh g_fr g_la g_ti p0_1 p1_1 p0_2 p1_2
  refine lv_pop hx hb dL_law_620 rfl ?_
  refine lv_goto (tgt := 1080) hx hb dL_law_621 (by decide) ?_
  refine back _ _ _ _ _ _ _ _ ?_ hPx hPm hS
  exact ⟨h_st, h_tm, k_rn, k_it, k_ks, k_bk, k_cl, k_mn, k_ap, k_hs, k_be, k_zo, k_wh, k_rd, k_rt, k_fr, h_en, k_ho, h_hw, k_wo, k_ci, k_an, k_ah, k_ad, k_sq, k_cd, k_kd, k_op, k_la, k_lo, k_om, h_oi, h_ti, h_h0, k_ck, k_or, k_wt, h_wi, k_sh, k_bx, k_rp, k_bm, k_tp, k_ta, k_fk, k_fp⟩
set_option maxHeartbeats 4000000 in
set_option maxRecDepth 100000 in
theorem law_case_12 (C : gC D k p s m #[Value.ref b] c code R_law) (hml : c.maxLocals = 4) (hX : va_X b L (fun j => iI (X j)) s s.heap) (hXr : ∀ j, inR (X j)) (hbl : b < s.heap.size) (ht : 7 * t + 7 ≤ L) (hL : L ≤ 3584) (hE : gEv za (fun q : Nat => s.heap.size ≤ q) s s.heap) (hDx : rwD Ax k ad) (hDm : mdD Am k bd) (hAx : ∀ q : Nat, Ax q → s.heap.size ≤ q) (hAm : ∀ q : Nat, Am q → s.heap.size ≤ q) (hxm : ∀ (v : gV) (f g : gF) (i : Nat) (q : Nat × va_E), (mdW k bd v f g)[i]? = some q → ¬ Ax q.1) (hmx : ∀ (v : gV) (f g : gF) (i : Nat) (q : Nat × va_E), (rwW k ad v f g)[i]? = some q → ¬ Am q.1) (hI : lwI vx fx vm fm) (hPx : gWd D (rwT k ad) vx fx gx H) (hPm : gWd D (mdT k bd) vm fm gm H) (hS : va_S (fun q : Nat => s.heap.size ≤ q) s.heap H locs) (hl : lv_has ls 4 [(3, .int (iI (7 * (t : Int)))), (2, .ref (bd 0)), (1, .ref (ad 0)), (0, .ref b)]) (back : ∀ (vx vm : gV) (fx gx fm gm : gF) (H : Heap) (locs : List Loc), lwI vx fx vm fm → gWd D (rwT k ad) vx fx gx H → gWd D (mdT k bd) vm fm gm H → va_S (fun q : Nat => s.heap.size ≤ q) s.heap H locs → W p l e room_1 s m #[Value.ref b] below meth c H locs 100 12380 Q (F0 m 1080 ls [])) : W p l e room_1 s m #[Value.ref b] below meth c H locs 100 12380 Q (F0 m 624 ls []) := by
  have hx := C.1
  have hb := C.2.1
  have hbA : ¬ (fun q : Nat => s.heap.size ≤ q) b := Nat.not_le.mpr hbl
  have hT0 : 0 ≤ vx 0 ∧ vx 0 ≤ 700 := hPx.2.1 0
  have hT1 : 0 ≤ vm 2 ∧ vm 2 ≤ 700 := hPm.2.1 2
  obtain ⟨k_st, k_tm, k_rn, k_it, k_ks, k_bk, k_cl, k_mn, k_ap, k_hs, k_be, k_zo, k_wh, k_rd, k_rt, k_fr, k_en, k_ho, k_hw, k_wo, k_ci, k_an, k_ah, k_ad, k_sq, k_cd, k_kd, k_op, k_la, k_lo, k_om, k_oi, k_ti, k_h0, k_ck, k_or, k_wt, k_wi, k_sh, k_bx, k_rp, k_bm, k_tp, k_ta, k_fk, k_fp⟩ := id hI
  have g_cl : 0 ≤ (vx 21) ∧ (vx 21) ≤ 16 := hPx.2.1 21
  have g_mn : 0 ≤ (vx 23) ∧ (vx 23) ≤ 300 := hPx.2.1 23
  have g_rn : 0 ≤ (vx 1) ∧ (vx 1) ≤ 4 := hPx.2.1 1
  have g_ks : 0 ≤ (vx 3) ∧ (vx 3) ≤ 4 := hPx.2.1 3
  have g_ox : 0 ≤ (vx 22) ∧ (vx 22) ≤ 3 := hPx.2.1 22
  have g_tm : 0 ≤ (vx 26) ∧ (vx 26) ≤ 1000000 := hPx.2.1 26
  have g_wh : ∀ k, 0 ≤ (fx 20) k ∧ (fx 20) k ≤ 15 := fun k => hPx.2.2 20 k
  have g_fr : ∀ k, 0 ≤ (fx 23) k ∧ (fx 23) k ≤ 1000000 := fun k => hPx.2.2 23 k
  have g_la : ∀ k, 0 ≤ (fx 18) k ∧ (fx 18) k ≤ 3 := fun k => hPx.2.2 18 k
  have g_ti : ∀ k, 0 ≤ (fx 31) k ∧ (fx 31) k ≤ 20 := fun k => hPx.2.2 31 k
  have m_oi : OI (vm 25) (fm 24) (fm 30) (fx 27) := by have h := k_oi; rw [k_mn, k_wh, k_hw] at h; exact h
  have m_ti : TI (vm 25) (vm 24) (fm 27) (fm 28) (fm 30) := by have h := k_ti; rw [k_mn, k_tm, k_fr, k_en, k_hw] at h; exact h
  have m_wi : ∀ c, 0 ≤ c → c < (vm 22) → WI (vm 24) (fm 35) (fm 36) (fm 34) c := fun c c0 c1 => by have h := k_wi c c0 (by omega); rw [k_tm, k_wo, k_ci] at h; exact WI_ti h ((k_wt c c0 (by omega)).1 (by omega))
  have hX1 := hXr (7 * t + 1)
  have hX2 := hXr (7 * t + 2)
  have hX3 := hXr (7 * t + 3)
  have hX4 := hXr (7 * t + 4)
  have hX5 := hXr (7 * t + 5)
  have hX6 := hXr (7 * t + 6)
  refine lv_aload_n hx hb dL_law_624 rfl (lv_at hl 2 rfl) ?_
  refine g_cv (As := []) (rest := []) (n := 0) C hml (x_Ro_now l D k Ax ad hDx vx fx gx) mM_L_68 mI_X10_now mE_X10_now mN_X10 mC_X10_now (by decide +kernel) 0 (ci := 10) rfl rfl hPx hS hAx ⟨Nat.le_of_ble_eq_true rfl, Nat.le_of_ble_eq_true rfl⟩ ⟨Nat.le_of_ble_eq_true rfl, Nat.le_of_ble_eq_true rfl⟩ hl.1 rfl rfl (Nat.le_of_ble_eq_true rfl) dL_law_625 (fun r_1 v_1 f_1 g_1 H1 locs hq_1 hPx hk_1 hS => ?_)
  replace hPm : gWd D (mdT k bd) vm fm gm H1 := ⟨hPm.1.kept (fun i q h => hk_1 q.1 ((hPm.1 i q h).lt) (hxm _ _ _ i q h)), hPm.2⟩
  obtain ⟨z_1, rfl, rfl, rfl, rfl, p0_1, p1_1⟩ := hq_1
  show W p l e room_1 s m #[Value.ref b] below meth c _ _ 100 12380 Q (F0 m 628 ls [.int (iI z_1)])
  refine lv_pop hx hb dL_law_628 rfl ?_
  refine lv_aload_n hx hb dL_law_629 rfl (lv_at hl 1 rfl) ?_
  refine g_cv (As := []) (rest := []) (n := 0) C hml (y_now l D k Am bd hDm vm fm gm) mM_L_71 mI_X11_now mE_X11_now mN_X11 mC_X11_now (by decide +kernel) 0 (ci := 11) rfl rfl hPm hS hAm ⟨Nat.le_of_ble_eq_true rfl, Nat.le_of_ble_eq_true rfl⟩ ⟨Nat.le_of_ble_eq_true rfl, Nat.le_of_ble_eq_true rfl⟩ hl.1 rfl rfl (Nat.le_of_ble_eq_true rfl) dL_law_630 (fun r_2 v_2 f_2 g_2 H2 locs hq_2 hPm hk_2 hS => ?_)
  replace hPx := (⟨hPx.1.kept (fun i q h => hk_2 q.1 ((hPx.1 i q h).lt) (hmx _ _ _ i q h)), hPx.2⟩ : gWd D (rwT k ad) _ _ _ H2)
  obtain ⟨z_2, rfl, rfl, rfl, rfl, p0_2, p1_2⟩ := hq_2
  show W p l e room_1 s m #[Value.ref b] below meth c _ _ 100 12380 Q (F0 m 633 ls [.int (iI z_2)])
  obtain ⟨h_st, h_z⟩ := rl_now k_st k_tm k_rn k_it k_ks k_bk k_cl k_mn k_ap k_hs k_be k_zo k_wh k_rd k_rt k_fr k_en k_ho k_hw k_wo k_ci k_an k_ah k_ad k_sq k_cd k_kd k_op k_la k_lo k_om k_oi k_ti k_h0 k_ck k_or k_wt k_wi k_sh k_bx k_rp k_bm k_tp k_ta k_fk k_fp g_cl g_mn g_rn g_ks g_ox g_tm g_wh g_fr g_la g_ti p0_1 p1_1 p0_2 p1_2
  refine lv_pop hx hb dL_law_633 rfl ?_
  refine lv_goto (tgt := 1080) hx hb dL_law_634 (by decide) ?_
  refine back _ _ _ _ _ _ _ _ ?_ hPx hPm hS
  exact ⟨h_st, k_tm, k_rn, k_it, k_ks, k_bk, k_cl, k_mn, k_ap, k_hs, k_be, k_zo, k_wh, k_rd, k_rt, k_fr, k_en, k_ho, k_hw, k_wo, k_ci, k_an, k_ah, k_ad, k_sq, k_cd, k_kd, k_op, k_la, k_lo, k_om, k_oi, k_ti, k_h0, k_ck, k_or, k_wt, k_wi, k_sh, k_bx, k_rp, k_bm, k_tp, k_ta, k_fk, k_fp⟩
set_option maxHeartbeats 4000000 in
set_option maxRecDepth 100000 in
theorem law_case_13 (C : gC D k p s m #[Value.ref b] c code R_law) (hml : c.maxLocals = 4) (hX : va_X b L (fun j => iI (X j)) s s.heap) (hXr : ∀ j, inR (X j)) (hbl : b < s.heap.size) (ht : 7 * t + 7 ≤ L) (hL : L ≤ 3584) (hE : gEv za (fun q : Nat => s.heap.size ≤ q) s s.heap) (hDx : rwD Ax k ad) (hDm : mdD Am k bd) (hAx : ∀ q : Nat, Ax q → s.heap.size ≤ q) (hAm : ∀ q : Nat, Am q → s.heap.size ≤ q) (hxm : ∀ (v : gV) (f g : gF) (i : Nat) (q : Nat × va_E), (mdW k bd v f g)[i]? = some q → ¬ Ax q.1) (hmx : ∀ (v : gV) (f g : gF) (i : Nat) (q : Nat × va_E), (rwW k ad v f g)[i]? = some q → ¬ Am q.1) (hI : lwI vx fx vm fm) (hPx : gWd D (rwT k ad) vx fx gx H) (hPm : gWd D (mdT k bd) vm fm gm H) (hS : va_S (fun q : Nat => s.heap.size ≤ q) s.heap H locs) (hl : lv_has ls 4 [(3, .int (iI (7 * (t : Int)))), (2, .ref (bd 0)), (1, .ref (ad 0)), (0, .ref b)]) (back : ∀ (vx vm : gV) (fx gx fm gm : gF) (H : Heap) (locs : List Loc), lwI vx fx vm fm → gWd D (rwT k ad) vx fx gx H → gWd D (mdT k bd) vm fm gm H → va_S (fun q : Nat => s.heap.size ≤ q) s.heap H locs → W p l e room_1 s m #[Value.ref b] below meth c H locs 100 12380 Q (F0 m 1080 ls [])) : W p l e room_1 s m #[Value.ref b] below meth c H locs 100 12380 Q (F0 m 637 ls []) := by
  have hx := C.1
  have hb := C.2.1
  have hbA : ¬ (fun q : Nat => s.heap.size ≤ q) b := Nat.not_le.mpr hbl
  have hT0 : 0 ≤ vx 0 ∧ vx 0 ≤ 700 := hPx.2.1 0
  have hT1 : 0 ≤ vm 2 ∧ vm 2 ≤ 700 := hPm.2.1 2
  obtain ⟨k_st, k_tm, k_rn, k_it, k_ks, k_bk, k_cl, k_mn, k_ap, k_hs, k_be, k_zo, k_wh, k_rd, k_rt, k_fr, k_en, k_ho, k_hw, k_wo, k_ci, k_an, k_ah, k_ad, k_sq, k_cd, k_kd, k_op, k_la, k_lo, k_om, k_oi, k_ti, k_h0, k_ck, k_or, k_wt, k_wi, k_sh, k_bx, k_rp, k_bm, k_tp, k_ta, k_fk, k_fp⟩ := id hI
  have g_cl : 0 ≤ (vx 21) ∧ (vx 21) ≤ 16 := hPx.2.1 21
  have g_mn : 0 ≤ (vx 23) ∧ (vx 23) ≤ 300 := hPx.2.1 23
  have g_rn : 0 ≤ (vx 1) ∧ (vx 1) ≤ 4 := hPx.2.1 1
  have g_ks : 0 ≤ (vx 3) ∧ (vx 3) ≤ 4 := hPx.2.1 3
  have g_ox : 0 ≤ (vx 22) ∧ (vx 22) ≤ 3 := hPx.2.1 22
  have g_tm : 0 ≤ (vx 26) ∧ (vx 26) ≤ 1000000 := hPx.2.1 26
  have g_wh : ∀ k, 0 ≤ (fx 20) k ∧ (fx 20) k ≤ 15 := fun k => hPx.2.2 20 k
  have g_fr : ∀ k, 0 ≤ (fx 23) k ∧ (fx 23) k ≤ 1000000 := fun k => hPx.2.2 23 k
  have g_la : ∀ k, 0 ≤ (fx 18) k ∧ (fx 18) k ≤ 3 := fun k => hPx.2.2 18 k
  have g_ti : ∀ k, 0 ≤ (fx 31) k ∧ (fx 31) k ≤ 20 := fun k => hPx.2.2 31 k
  have m_oi : OI (vm 25) (fm 24) (fm 30) (fx 27) := by have h := k_oi; rw [k_mn, k_wh, k_hw] at h; exact h
  have m_ti : TI (vm 25) (vm 24) (fm 27) (fm 28) (fm 30) := by have h := k_ti; rw [k_mn, k_tm, k_fr, k_en, k_hw] at h; exact h
  have m_wi : ∀ c, 0 ≤ c → c < (vm 22) → WI (vm 24) (fm 35) (fm 36) (fm 34) c := fun c c0 c1 => by have h := k_wi c c0 (by omega); rw [k_tm, k_wo, k_ci] at h; exact WI_ti h ((k_wt c c0 (by omega)).1 (by omega))
  have hX1 := hXr (7 * t + 1)
  have hX2 := hXr (7 * t + 2)
  have hX3 := hXr (7 * t + 3)
  have hX4 := hXr (7 * t + 4)
  have hX5 := hXr (7 * t + 5)
  have hX6 := hXr (7 * t + 6)
  refine lv_aload_n hx hb dL_law_637 rfl (lv_at hl 2 rfl) ?_
  refine lv_aload_n hx hb dL_law_638 rfl (lv_at hl 3 rfl) ?_
  refine lv_iload_n hx hb dL_law_639 rfl (lv_at hl 0 rfl) ?_
  refine lv_iconst (v := iI 1) hx hb dL_law_640 rfl ?_
  refine gi_add (z := (7 * (t : Int) + 1)) hx hb dL_law_641 rfl ?_
  refine g_sld (i := 7 * t + 1) C hX hbl hbA hS (by omega) (by omega) (by omega) dL_law_642 ?_
  refine lv_aload_n hx hb dL_law_643 rfl (lv_at hl 3 rfl) ?_
  refine lv_iload_n hx hb dL_law_644 rfl (lv_at hl 0 rfl) ?_
  refine lv_iconst (v := iI 2) hx hb dL_law_645 rfl ?_
  refine gi_add (z := (7 * (t : Int) + 2)) hx hb dL_law_646 rfl ?_
  refine g_sld (i := 7 * t + 2) C hX hbl hbA hS (by omega) (by omega) (by omega) dL_law_647 ?_
  refine g_cv (As := [.int (iI (X (7 * t + 1))), .int (iI (X (7 * t + 2)))]) (rest := []) (n := 2) C hml (x_Ro_tried l D k Ax ad hDx vx fx gx (X (7 * t + 1)) (X (7 * t + 2)) (by omega) (by omega)) mM_L_72 mI_X10_tried mE_X10_tried mN_X10 mC_X10_tried (by decide +kernel) 0 (ci := 10) rfl rfl hPx hS hAx ⟨Nat.le_of_ble_eq_true rfl, Nat.le_of_ble_eq_true rfl⟩ ⟨Nat.le_of_ble_eq_true rfl, Nat.le_of_ble_eq_true rfl⟩ hl.1 rfl rfl (Nat.le_of_ble_eq_true rfl) dL_law_648 (fun r_1 v_1 f_1 g_1 H1 locs hq_1 hPx hk_1 hS => ?_)
  replace hPm : gWd D (mdT k bd) vm fm gm H1 := ⟨hPm.1.kept (fun i q h => hk_1 q.1 ((hPm.1 i q h).lt) (hxm _ _ _ i q h)), hPm.2⟩
  obtain ⟨z_1, w25_1, rfl, rfl, rfl, rfl, p0_1, p1_1, p2_1⟩ := hq_1
  show W p l e room_1 s m #[Value.ref b] below meth c _ _ 100 12380 Q (F0 m 651 ls [.int (iI z_1)])
  refine lv_pop hx hb dL_law_651 rfl ?_
  refine lv_aload_n hx hb dL_law_652 rfl (lv_at hl 1 rfl) ?_
  refine lv_aload_n hx hb dL_law_653 rfl (lv_at hl 3 rfl) ?_
  refine lv_iload_n hx hb dL_law_654 rfl (lv_at hl 0 rfl) ?_
  refine lv_iconst (v := iI 1) hx hb dL_law_655 rfl ?_
  refine gi_add (z := (7 * (t : Int) + 1)) hx hb dL_law_656 rfl ?_
  refine g_sld (i := 7 * t + 1) C hX hbl hbA hS (by omega) (by omega) (by omega) dL_law_657 ?_
  refine lv_aload_n hx hb dL_law_658 rfl (lv_at hl 3 rfl) ?_
  refine lv_iload_n hx hb dL_law_659 rfl (lv_at hl 0 rfl) ?_
  refine lv_iconst (v := iI 2) hx hb dL_law_660 rfl ?_
  refine gi_add (z := (7 * (t : Int) + 2)) hx hb dL_law_661 rfl ?_
  refine g_sld (i := 7 * t + 2) C hX hbl hbA hS (by omega) (by omega) (by omega) dL_law_662 ?_
  refine g_cv (As := [.int (iI (X (7 * t + 1))), .int (iI (X (7 * t + 2)))]) (rest := []) (n := 2) C hml (y_tried l D k Am bd hDm vm fm gm (X (7 * t + 1)) (X (7 * t + 2)) (by omega) (by omega)) mM_L_76 mI_X11_tried mE_X11_tried mN_X11 mC_X11_tried (by decide +kernel) 0 (ci := 11) rfl rfl hPm hS hAm ⟨Nat.le_of_ble_eq_true rfl, Nat.le_of_ble_eq_true rfl⟩ ⟨Nat.le_of_ble_eq_true rfl, Nat.le_of_ble_eq_true rfl⟩ hl.1 rfl rfl (Nat.le_of_ble_eq_true rfl) dL_law_663 (fun r_2 v_2 f_2 g_2 H2 locs hq_2 hPm hk_2 hS => ?_)
  replace hPx := (⟨hPx.1.kept (fun i q h => hk_2 q.1 ((hPx.1 i q h).lt) (hmx _ _ _ i q h)), hPx.2⟩ : gWd D (rwT k ad) _ _ _ H2)
  obtain ⟨z_2, w0_2, rfl, rfl, rfl, rfl, p0_2, p1_2, p2_2⟩ := hq_2
  show W p l e room_1 s m #[Value.ref b] below meth c _ _ 100 12380 Q (F0 m 666 ls [.int (iI z_2)])
  obtain ⟨h_st, h_z⟩ := rl_tried (a1 := (X (7 * t + 1))) (a2 := (X (7 * t + 2))) k_st k_tm k_rn k_it k_ks k_bk k_cl k_mn k_ap k_hs k_be k_zo k_wh k_rd k_rt k_fr k_en k_ho k_hw k_wo k_ci k_an k_ah k_ad k_sq k_cd k_kd k_op k_la k_lo k_om k_oi k_ti k_h0 k_ck k_or k_wt k_wi k_sh k_bx k_rp k_bm k_tp k_ta k_fk k_fp g_cl g_mn g_rn g_ks g_ox g_tm g_wh g_fr g_la g_ti p0_1 p1_1 p2_1 p0_2 p1_2 p2_2
  refine lv_pop hx hb dL_law_666 rfl ?_
  refine lv_goto (tgt := 1080) hx hb dL_law_667 (by decide) ?_
  refine back _ _ _ _ _ _ _ _ ?_ hPx hPm hS
  exact ⟨h_st, k_tm, k_rn, k_it, k_ks, k_bk, k_cl, k_mn, k_ap, k_hs, k_be, k_zo, k_wh, k_rd, k_rt, k_fr, k_en, k_ho, k_hw, k_wo, k_ci, k_an, k_ah, k_ad, k_sq, k_cd, k_kd, k_op, k_la, k_lo, k_om, k_oi, k_ti, k_h0, k_ck, k_or, k_wt, k_wi, k_sh, k_bx, k_rp, k_bm, k_tp, k_ta, k_fk, k_fp⟩
set_option maxHeartbeats 4000000 in
set_option maxRecDepth 100000 in
theorem law_case_14 (C : gC D k p s m #[Value.ref b] c code R_law) (hml : c.maxLocals = 4) (hX : va_X b L (fun j => iI (X j)) s s.heap) (hXr : ∀ j, inR (X j)) (hbl : b < s.heap.size) (ht : 7 * t + 7 ≤ L) (hL : L ≤ 3584) (hE : gEv za (fun q : Nat => s.heap.size ≤ q) s s.heap) (hDx : rwD Ax k ad) (hDm : mdD Am k bd) (hAx : ∀ q : Nat, Ax q → s.heap.size ≤ q) (hAm : ∀ q : Nat, Am q → s.heap.size ≤ q) (hxm : ∀ (v : gV) (f g : gF) (i : Nat) (q : Nat × va_E), (mdW k bd v f g)[i]? = some q → ¬ Ax q.1) (hmx : ∀ (v : gV) (f g : gF) (i : Nat) (q : Nat × va_E), (rwW k ad v f g)[i]? = some q → ¬ Am q.1) (hI : lwI vx fx vm fm) (hPx : gWd D (rwT k ad) vx fx gx H) (hPm : gWd D (mdT k bd) vm fm gm H) (hS : va_S (fun q : Nat => s.heap.size ≤ q) s.heap H locs) (hl : lv_has ls 4 [(3, .int (iI (7 * (t : Int)))), (2, .ref (bd 0)), (1, .ref (ad 0)), (0, .ref b)]) (back : ∀ (vx vm : gV) (fx gx fm gm : gF) (H : Heap) (locs : List Loc), lwI vx fx vm fm → gWd D (rwT k ad) vx fx gx H → gWd D (mdT k bd) vm fm gm H → va_S (fun q : Nat => s.heap.size ≤ q) s.heap H locs → W p l e room_1 s m #[Value.ref b] below meth c H locs 100 12380 Q (F0 m 1080 ls [])) : W p l e room_1 s m #[Value.ref b] below meth c H locs 100 12380 Q (F0 m 670 ls []) := by
  have hx := C.1
  have hb := C.2.1
  have hbA : ¬ (fun q : Nat => s.heap.size ≤ q) b := Nat.not_le.mpr hbl
  have hT0 : 0 ≤ vx 0 ∧ vx 0 ≤ 700 := hPx.2.1 0
  have hT1 : 0 ≤ vm 2 ∧ vm 2 ≤ 700 := hPm.2.1 2
  obtain ⟨k_st, k_tm, k_rn, k_it, k_ks, k_bk, k_cl, k_mn, k_ap, k_hs, k_be, k_zo, k_wh, k_rd, k_rt, k_fr, k_en, k_ho, k_hw, k_wo, k_ci, k_an, k_ah, k_ad, k_sq, k_cd, k_kd, k_op, k_la, k_lo, k_om, k_oi, k_ti, k_h0, k_ck, k_or, k_wt, k_wi, k_sh, k_bx, k_rp, k_bm, k_tp, k_ta, k_fk, k_fp⟩ := id hI
  have g_cl : 0 ≤ (vx 21) ∧ (vx 21) ≤ 16 := hPx.2.1 21
  have g_mn : 0 ≤ (vx 23) ∧ (vx 23) ≤ 300 := hPx.2.1 23
  have g_rn : 0 ≤ (vx 1) ∧ (vx 1) ≤ 4 := hPx.2.1 1
  have g_ks : 0 ≤ (vx 3) ∧ (vx 3) ≤ 4 := hPx.2.1 3
  have g_ox : 0 ≤ (vx 22) ∧ (vx 22) ≤ 3 := hPx.2.1 22
  have g_tm : 0 ≤ (vx 26) ∧ (vx 26) ≤ 1000000 := hPx.2.1 26
  have g_wh : ∀ k, 0 ≤ (fx 20) k ∧ (fx 20) k ≤ 15 := fun k => hPx.2.2 20 k
  have g_fr : ∀ k, 0 ≤ (fx 23) k ∧ (fx 23) k ≤ 1000000 := fun k => hPx.2.2 23 k
  have g_la : ∀ k, 0 ≤ (fx 18) k ∧ (fx 18) k ≤ 3 := fun k => hPx.2.2 18 k
  have g_ti : ∀ k, 0 ≤ (fx 31) k ∧ (fx 31) k ≤ 20 := fun k => hPx.2.2 31 k
  have m_oi : OI (vm 25) (fm 24) (fm 30) (fx 27) := by have h := k_oi; rw [k_mn, k_wh, k_hw] at h; exact h
  have m_ti : TI (vm 25) (vm 24) (fm 27) (fm 28) (fm 30) := by have h := k_ti; rw [k_mn, k_tm, k_fr, k_en, k_hw] at h; exact h
  have m_wi : ∀ c, 0 ≤ c → c < (vm 22) → WI (vm 24) (fm 35) (fm 36) (fm 34) c := fun c c0 c1 => by have h := k_wi c c0 (by omega); rw [k_tm, k_wo, k_ci] at h; exact WI_ti h ((k_wt c c0 (by omega)).1 (by omega))
  have hX1 := hXr (7 * t + 1)
  have hX2 := hXr (7 * t + 2)
  have hX3 := hXr (7 * t + 3)
  have hX4 := hXr (7 * t + 4)
  have hX5 := hXr (7 * t + 5)
  have hX6 := hXr (7 * t + 6)
  refine lv_aload_n hx hb dL_law_670 rfl (lv_at hl 2 rfl) ?_
  refine lv_aload_n hx hb dL_law_671 rfl (lv_at hl 3 rfl) ?_
  refine lv_iload_n hx hb dL_law_672 rfl (lv_at hl 0 rfl) ?_
  refine lv_iconst (v := iI 1) hx hb dL_law_673 rfl ?_
  refine gi_add (z := (7 * (t : Int) + 1)) hx hb dL_law_674 rfl ?_
  refine g_sld (i := 7 * t + 1) C hX hbl hbA hS (by omega) (by omega) (by omega) dL_law_675 ?_
  refine lv_aload_n hx hb dL_law_676 rfl (lv_at hl 3 rfl) ?_
  refine lv_iload_n hx hb dL_law_677 rfl (lv_at hl 0 rfl) ?_
  refine lv_iconst (v := iI 2) hx hb dL_law_678 rfl ?_
  refine gi_add (z := (7 * (t : Int) + 2)) hx hb dL_law_679 rfl ?_
  refine g_sld (i := 7 * t + 2) C hX hbl hbA hS (by omega) (by omega) (by omega) dL_law_680 ?_
  refine g_cv (As := [.int (iI (X (7 * t + 1))), .int (iI (X (7 * t + 2)))]) (rest := []) (n := 2) C hml (x_Ro_seen l D k Ax ad hDx vx fx gx (X (7 * t + 1)) (X (7 * t + 2)) (by omega) (by omega) k_sh) mM_L_77 mI_X10_seen mE_X10_seen mN_X10 mC_X10_seen (by decide +kernel) 0 (ci := 10) rfl rfl hPx hS hAx ⟨Nat.le_of_ble_eq_true rfl, Nat.le_of_ble_eq_true rfl⟩ ⟨Nat.le_of_ble_eq_true rfl, Nat.le_of_ble_eq_true rfl⟩ hl.1 rfl rfl (Nat.le_of_ble_eq_true rfl) dL_law_681 (fun r_1 v_1 f_1 g_1 H1 locs hq_1 hPx hk_1 hS => ?_)
  replace hPm : gWd D (mdT k bd) vm fm gm H1 := ⟨hPm.1.kept (fun i q h => hk_1 q.1 ((hPm.1 i q h).lt) (hxm _ _ _ i q h)), hPm.2⟩
  obtain ⟨z_1, w25_1, rfl, rfl, rfl, rfl, p0_1, p1_1, p2_1⟩ := hq_1
  show W p l e room_1 s m #[Value.ref b] below meth c _ _ 100 12380 Q (F0 m 684 ls [.int (iI z_1)])
  refine lv_pop hx hb dL_law_684 rfl ?_
  refine lv_aload_n hx hb dL_law_685 rfl (lv_at hl 1 rfl) ?_
  refine lv_aload_n hx hb dL_law_686 rfl (lv_at hl 3 rfl) ?_
  refine lv_iload_n hx hb dL_law_687 rfl (lv_at hl 0 rfl) ?_
  refine lv_iconst (v := iI 1) hx hb dL_law_688 rfl ?_
  refine gi_add (z := (7 * (t : Int) + 1)) hx hb dL_law_689 rfl ?_
  refine g_sld (i := 7 * t + 1) C hX hbl hbA hS (by omega) (by omega) (by omega) dL_law_690 ?_
  refine lv_aload_n hx hb dL_law_691 rfl (lv_at hl 3 rfl) ?_
  refine lv_iload_n hx hb dL_law_692 rfl (lv_at hl 0 rfl) ?_
  refine lv_iconst (v := iI 2) hx hb dL_law_693 rfl ?_
  refine gi_add (z := (7 * (t : Int) + 2)) hx hb dL_law_694 rfl ?_
  refine g_sld (i := 7 * t + 2) C hX hbl hbA hS (by omega) (by omega) (by omega) dL_law_695 ?_
  refine g_cv (As := [.int (iI (X (7 * t + 1))), .int (iI (X (7 * t + 2)))]) (rest := []) (n := 2) C hml (y_seen l D k Am bd hDm vm fm gm (X (7 * t + 1)) (X (7 * t + 2)) (by omega) (by omega) m_ti m_wi) mM_L_80 mI_X11_seen mE_X11_seen mN_X11 mC_X11_seen (by decide +kernel) 0 (ci := 11) rfl rfl hPm hS hAm ⟨Nat.le_of_ble_eq_true rfl, Nat.le_of_ble_eq_true rfl⟩ ⟨Nat.le_of_ble_eq_true rfl, Nat.le_of_ble_eq_true rfl⟩ hl.1 rfl rfl (Nat.le_of_ble_eq_true rfl) dL_law_696 (fun r_2 v_2 f_2 g_2 H2 locs hq_2 hPm hk_2 hS => ?_)
  replace hPx := (⟨hPx.1.kept (fun i q h => hk_2 q.1 ((hPx.1 i q h).lt) (hmx _ _ _ i q h)), hPx.2⟩ : gWd D (rwT k ad) _ _ _ H2)
  obtain ⟨z_2, w0_2, rfl, rfl, rfl, rfl, p0_2, p1_2, p2_2⟩ := hq_2
  show W p l e room_1 s m #[Value.ref b] below meth c _ _ 100 12380 Q (F0 m 699 ls [.int (iI z_2)])
  obtain ⟨h_st, h_z⟩ := rl_seen (a1 := (X (7 * t + 1))) (a2 := (X (7 * t + 2))) k_st k_tm k_rn k_it k_ks k_bk k_cl k_mn k_ap k_hs k_be k_zo k_wh k_rd k_rt k_fr k_en k_ho k_hw k_wo k_ci k_an k_ah k_ad k_sq k_cd k_kd k_op k_la k_lo k_om k_oi k_ti k_h0 k_ck k_or k_wt k_wi k_sh k_bx k_rp k_bm k_tp k_ta k_fk k_fp g_cl g_mn g_rn g_ks g_ox g_tm g_wh g_fr g_la g_ti p0_1 p1_1 p2_1 p0_2 p1_2 p2_2
  refine lv_pop hx hb dL_law_699 rfl ?_
  refine lv_goto (tgt := 1080) hx hb dL_law_700 (by decide) ?_
  refine back _ _ _ _ _ _ _ _ ?_ hPx hPm hS
  exact ⟨h_st, k_tm, k_rn, k_it, k_ks, k_bk, k_cl, k_mn, k_ap, k_hs, k_be, k_zo, k_wh, k_rd, k_rt, k_fr, k_en, k_ho, k_hw, k_wo, k_ci, k_an, k_ah, k_ad, k_sq, k_cd, k_kd, k_op, k_la, k_lo, k_om, k_oi, k_ti, k_h0, k_ck, k_or, k_wt, k_wi, k_sh, k_bx, k_rp, k_bm, k_tp, k_ta, k_fk, k_fp⟩
set_option maxHeartbeats 4000000 in
set_option maxRecDepth 100000 in
theorem law_case_15 (C : gC D k p s m #[Value.ref b] c code R_law) (hml : c.maxLocals = 4) (hX : va_X b L (fun j => iI (X j)) s s.heap) (hXr : ∀ j, inR (X j)) (hbl : b < s.heap.size) (ht : 7 * t + 7 ≤ L) (hL : L ≤ 3584) (hE : gEv za (fun q : Nat => s.heap.size ≤ q) s s.heap) (hDx : rwD Ax k ad) (hDm : mdD Am k bd) (hAx : ∀ q : Nat, Ax q → s.heap.size ≤ q) (hAm : ∀ q : Nat, Am q → s.heap.size ≤ q) (hxm : ∀ (v : gV) (f g : gF) (i : Nat) (q : Nat × va_E), (mdW k bd v f g)[i]? = some q → ¬ Ax q.1) (hmx : ∀ (v : gV) (f g : gF) (i : Nat) (q : Nat × va_E), (rwW k ad v f g)[i]? = some q → ¬ Am q.1) (hI : lwI vx fx vm fm) (hPx : gWd D (rwT k ad) vx fx gx H) (hPm : gWd D (mdT k bd) vm fm gm H) (hS : va_S (fun q : Nat => s.heap.size ≤ q) s.heap H locs) (hl : lv_has ls 4 [(3, .int (iI (7 * (t : Int)))), (2, .ref (bd 0)), (1, .ref (ad 0)), (0, .ref b)]) (back : ∀ (vx vm : gV) (fx gx fm gm : gF) (H : Heap) (locs : List Loc), lwI vx fx vm fm → gWd D (rwT k ad) vx fx gx H → gWd D (mdT k bd) vm fm gm H → va_S (fun q : Nat => s.heap.size ≤ q) s.heap H locs → W p l e room_1 s m #[Value.ref b] below meth c H locs 100 12380 Q (F0 m 1080 ls [])) : W p l e room_1 s m #[Value.ref b] below meth c H locs 100 12380 Q (F0 m 703 ls []) := by
  have hx := C.1
  have hb := C.2.1
  have hbA : ¬ (fun q : Nat => s.heap.size ≤ q) b := Nat.not_le.mpr hbl
  have hT0 : 0 ≤ vx 0 ∧ vx 0 ≤ 700 := hPx.2.1 0
  have hT1 : 0 ≤ vm 2 ∧ vm 2 ≤ 700 := hPm.2.1 2
  obtain ⟨k_st, k_tm, k_rn, k_it, k_ks, k_bk, k_cl, k_mn, k_ap, k_hs, k_be, k_zo, k_wh, k_rd, k_rt, k_fr, k_en, k_ho, k_hw, k_wo, k_ci, k_an, k_ah, k_ad, k_sq, k_cd, k_kd, k_op, k_la, k_lo, k_om, k_oi, k_ti, k_h0, k_ck, k_or, k_wt, k_wi, k_sh, k_bx, k_rp, k_bm, k_tp, k_ta, k_fk, k_fp⟩ := id hI
  have g_cl : 0 ≤ (vx 21) ∧ (vx 21) ≤ 16 := hPx.2.1 21
  have g_mn : 0 ≤ (vx 23) ∧ (vx 23) ≤ 300 := hPx.2.1 23
  have g_rn : 0 ≤ (vx 1) ∧ (vx 1) ≤ 4 := hPx.2.1 1
  have g_ks : 0 ≤ (vx 3) ∧ (vx 3) ≤ 4 := hPx.2.1 3
  have g_ox : 0 ≤ (vx 22) ∧ (vx 22) ≤ 3 := hPx.2.1 22
  have g_tm : 0 ≤ (vx 26) ∧ (vx 26) ≤ 1000000 := hPx.2.1 26
  have g_wh : ∀ k, 0 ≤ (fx 20) k ∧ (fx 20) k ≤ 15 := fun k => hPx.2.2 20 k
  have g_fr : ∀ k, 0 ≤ (fx 23) k ∧ (fx 23) k ≤ 1000000 := fun k => hPx.2.2 23 k
  have g_la : ∀ k, 0 ≤ (fx 18) k ∧ (fx 18) k ≤ 3 := fun k => hPx.2.2 18 k
  have g_ti : ∀ k, 0 ≤ (fx 31) k ∧ (fx 31) k ≤ 20 := fun k => hPx.2.2 31 k
  have m_oi : OI (vm 25) (fm 24) (fm 30) (fx 27) := by have h := k_oi; rw [k_mn, k_wh, k_hw] at h; exact h
  have m_ti : TI (vm 25) (vm 24) (fm 27) (fm 28) (fm 30) := by have h := k_ti; rw [k_mn, k_tm, k_fr, k_en, k_hw] at h; exact h
  have m_wi : ∀ c, 0 ≤ c → c < (vm 22) → WI (vm 24) (fm 35) (fm 36) (fm 34) c := fun c c0 c1 => by have h := k_wi c c0 (by omega); rw [k_tm, k_wo, k_ci] at h; exact WI_ti h ((k_wt c c0 (by omega)).1 (by omega))
  have hX1 := hXr (7 * t + 1)
  have hX2 := hXr (7 * t + 2)
  have hX3 := hXr (7 * t + 3)
  have hX4 := hXr (7 * t + 4)
  have hX5 := hXr (7 * t + 5)
  have hX6 := hXr (7 * t + 6)
  refine lv_aload_n hx hb dL_law_703 rfl (lv_at hl 2 rfl) ?_
  refine lv_aload_n hx hb dL_law_704 rfl (lv_at hl 3 rfl) ?_
  refine lv_iload_n hx hb dL_law_705 rfl (lv_at hl 0 rfl) ?_
  refine lv_iconst (v := iI 1) hx hb dL_law_706 rfl ?_
  refine gi_add (z := (7 * (t : Int) + 1)) hx hb dL_law_707 rfl ?_
  refine g_sld (i := 7 * t + 1) C hX hbl hbA hS (by omega) (by omega) (by omega) dL_law_708 ?_
  refine g_cv (As := [.int (iI (X (7 * t + 1)))]) (rest := []) (n := 1) C hml (x_Ro_ready l D k Ax ad hDx vx fx gx (X (7 * t + 1)) (by omega) k_sh) mM_L_81 mI_X10_ready mE_X10_ready mN_X10 mC_X10_ready (by decide +kernel) 0 (ci := 10) rfl rfl hPx hS hAx ⟨Nat.le_of_ble_eq_true rfl, Nat.le_of_ble_eq_true rfl⟩ ⟨Nat.le_of_ble_eq_true rfl, Nat.le_of_ble_eq_true rfl⟩ hl.1 rfl rfl (Nat.le_of_ble_eq_true rfl) dL_law_709 (fun r_1 v_1 f_1 g_1 H1 locs hq_1 hPx hk_1 hS => ?_)
  replace hPm : gWd D (mdT k bd) vm fm gm H1 := ⟨hPm.1.kept (fun i q h => hk_1 q.1 ((hPm.1 i q h).lt) (hxm _ _ _ i q h)), hPm.2⟩
  obtain ⟨z_1, w25_1, rfl, rfl, rfl, rfl, p0_1, p1_1, p2_1⟩ := hq_1
  show W p l e room_1 s m #[Value.ref b] below meth c _ _ 100 12380 Q (F0 m 712 ls [.int (iI z_1)])
  refine lv_pop hx hb dL_law_712 rfl ?_
  refine lv_aload_n hx hb dL_law_713 rfl (lv_at hl 1 rfl) ?_
  refine lv_aload_n hx hb dL_law_714 rfl (lv_at hl 3 rfl) ?_
  refine lv_iload_n hx hb dL_law_715 rfl (lv_at hl 0 rfl) ?_
  refine lv_iconst (v := iI 1) hx hb dL_law_716 rfl ?_
  refine gi_add (z := (7 * (t : Int) + 1)) hx hb dL_law_717 rfl ?_
  refine g_sld (i := 7 * t + 1) C hX hbl hbA hS (by omega) (by omega) (by omega) dL_law_718 ?_
  refine g_cv (As := [.int (iI (X (7 * t + 1)))]) (rest := []) (n := 1) C hml (y_ready l D k Am bd hDm vm fm gm (X (7 * t + 1)) (fx 27) (by omega) m_oi m_ti) mM_L_84 mI_X11_ready mE_X11_ready mN_X11 mC_X11_ready (by decide +kernel) 0 (ci := 11) rfl rfl hPm hS hAm ⟨Nat.le_of_ble_eq_true rfl, Nat.le_of_ble_eq_true rfl⟩ ⟨Nat.le_of_ble_eq_true rfl, Nat.le_of_ble_eq_true rfl⟩ hl.1 rfl rfl (Nat.le_of_ble_eq_true rfl) dL_law_719 (fun r_2 v_2 f_2 g_2 H2 locs hq_2 hPm hk_2 hS => ?_)
  replace hPx := (⟨hPx.1.kept (fun i q h => hk_2 q.1 ((hPx.1 i q h).lt) (hmx _ _ _ i q h)), hPx.2⟩ : gWd D (rwT k ad) _ _ _ H2)
  obtain ⟨z_2, w0_2, rfl, rfl, rfl, rfl, p0_2, p1_2, p2_2⟩ := hq_2
  show W p l e room_1 s m #[Value.ref b] below meth c _ _ 100 12380 Q (F0 m 722 ls [.int (iI z_2)])
  obtain ⟨h_st, h_z⟩ := rl_ready (a1 := (X (7 * t + 1))) k_st k_tm k_rn k_it k_ks k_bk k_cl k_mn k_ap k_hs k_be k_zo k_wh k_rd k_rt k_fr k_en k_ho k_hw k_wo k_ci k_an k_ah k_ad k_sq k_cd k_kd k_op k_la k_lo k_om k_oi k_ti k_h0 k_ck k_or k_wt k_wi k_sh k_bx k_rp k_bm k_tp k_ta k_fk k_fp g_cl g_mn g_rn g_ks g_ox g_tm g_wh g_fr g_la g_ti p0_1 p1_1 p2_1 p0_2 p1_2 p2_2
  refine lv_pop hx hb dL_law_722 rfl ?_
  refine lv_goto (tgt := 1080) hx hb dL_law_723 (by decide) ?_
  refine back _ _ _ _ _ _ _ _ ?_ hPx hPm hS
  exact ⟨h_st, k_tm, k_rn, k_it, k_ks, k_bk, k_cl, k_mn, k_ap, k_hs, k_be, k_zo, k_wh, k_rd, k_rt, k_fr, k_en, k_ho, k_hw, k_wo, k_ci, k_an, k_ah, k_ad, k_sq, k_cd, k_kd, k_op, k_la, k_lo, k_om, k_oi, k_ti, k_h0, k_ck, k_or, k_wt, k_wi, k_sh, k_bx, k_rp, k_bm, k_tp, k_ta, k_fk, k_fp⟩
set_option maxHeartbeats 4000000 in
set_option maxRecDepth 100000 in
theorem law_case_16 (C : gC D k p s m #[Value.ref b] c code R_law) (hml : c.maxLocals = 4) (hX : va_X b L (fun j => iI (X j)) s s.heap) (hXr : ∀ j, inR (X j)) (hbl : b < s.heap.size) (ht : 7 * t + 7 ≤ L) (hL : L ≤ 3584) (hE : gEv za (fun q : Nat => s.heap.size ≤ q) s s.heap) (hDx : rwD Ax k ad) (hDm : mdD Am k bd) (hAx : ∀ q : Nat, Ax q → s.heap.size ≤ q) (hAm : ∀ q : Nat, Am q → s.heap.size ≤ q) (hxm : ∀ (v : gV) (f g : gF) (i : Nat) (q : Nat × va_E), (mdW k bd v f g)[i]? = some q → ¬ Ax q.1) (hmx : ∀ (v : gV) (f g : gF) (i : Nat) (q : Nat × va_E), (rwW k ad v f g)[i]? = some q → ¬ Am q.1) (hI : lwI vx fx vm fm) (hPx : gWd D (rwT k ad) vx fx gx H) (hPm : gWd D (mdT k bd) vm fm gm H) (hS : va_S (fun q : Nat => s.heap.size ≤ q) s.heap H locs) (hl : lv_has ls 4 [(3, .int (iI (7 * (t : Int)))), (2, .ref (bd 0)), (1, .ref (ad 0)), (0, .ref b)]) (back : ∀ (vx vm : gV) (fx gx fm gm : gF) (H : Heap) (locs : List Loc), lwI vx fx vm fm → gWd D (rwT k ad) vx fx gx H → gWd D (mdT k bd) vm fm gm H → va_S (fun q : Nat => s.heap.size ≤ q) s.heap H locs → W p l e room_1 s m #[Value.ref b] below meth c H locs 100 12380 Q (F0 m 1080 ls [])) : W p l e room_1 s m #[Value.ref b] below meth c H locs 100 12380 Q (F0 m 726 ls []) := by
  have hx := C.1
  have hb := C.2.1
  have hbA : ¬ (fun q : Nat => s.heap.size ≤ q) b := Nat.not_le.mpr hbl
  have hT0 : 0 ≤ vx 0 ∧ vx 0 ≤ 700 := hPx.2.1 0
  have hT1 : 0 ≤ vm 2 ∧ vm 2 ≤ 700 := hPm.2.1 2
  obtain ⟨k_st, k_tm, k_rn, k_it, k_ks, k_bk, k_cl, k_mn, k_ap, k_hs, k_be, k_zo, k_wh, k_rd, k_rt, k_fr, k_en, k_ho, k_hw, k_wo, k_ci, k_an, k_ah, k_ad, k_sq, k_cd, k_kd, k_op, k_la, k_lo, k_om, k_oi, k_ti, k_h0, k_ck, k_or, k_wt, k_wi, k_sh, k_bx, k_rp, k_bm, k_tp, k_ta, k_fk, k_fp⟩ := id hI
  have g_cl : 0 ≤ (vx 21) ∧ (vx 21) ≤ 16 := hPx.2.1 21
  have g_mn : 0 ≤ (vx 23) ∧ (vx 23) ≤ 300 := hPx.2.1 23
  have g_rn : 0 ≤ (vx 1) ∧ (vx 1) ≤ 4 := hPx.2.1 1
  have g_ks : 0 ≤ (vx 3) ∧ (vx 3) ≤ 4 := hPx.2.1 3
  have g_ox : 0 ≤ (vx 22) ∧ (vx 22) ≤ 3 := hPx.2.1 22
  have g_tm : 0 ≤ (vx 26) ∧ (vx 26) ≤ 1000000 := hPx.2.1 26
  have g_wh : ∀ k, 0 ≤ (fx 20) k ∧ (fx 20) k ≤ 15 := fun k => hPx.2.2 20 k
  have g_fr : ∀ k, 0 ≤ (fx 23) k ∧ (fx 23) k ≤ 1000000 := fun k => hPx.2.2 23 k
  have g_la : ∀ k, 0 ≤ (fx 18) k ∧ (fx 18) k ≤ 3 := fun k => hPx.2.2 18 k
  have g_ti : ∀ k, 0 ≤ (fx 31) k ∧ (fx 31) k ≤ 20 := fun k => hPx.2.2 31 k
  have m_oi : OI (vm 25) (fm 24) (fm 30) (fx 27) := by have h := k_oi; rw [k_mn, k_wh, k_hw] at h; exact h
  have m_ti : TI (vm 25) (vm 24) (fm 27) (fm 28) (fm 30) := by have h := k_ti; rw [k_mn, k_tm, k_fr, k_en, k_hw] at h; exact h
  have m_wi : ∀ c, 0 ≤ c → c < (vm 22) → WI (vm 24) (fm 35) (fm 36) (fm 34) c := fun c c0 c1 => by have h := k_wi c c0 (by omega); rw [k_tm, k_wo, k_ci] at h; exact WI_ti h ((k_wt c c0 (by omega)).1 (by omega))
  have hX1 := hXr (7 * t + 1)
  have hX2 := hXr (7 * t + 2)
  have hX3 := hXr (7 * t + 3)
  have hX4 := hXr (7 * t + 4)
  have hX5 := hXr (7 * t + 5)
  have hX6 := hXr (7 * t + 6)
  refine lv_aload_n hx hb dL_law_726 rfl (lv_at hl 2 rfl) ?_
  refine lv_aload_n hx hb dL_law_727 rfl (lv_at hl 3 rfl) ?_
  refine lv_iload_n hx hb dL_law_728 rfl (lv_at hl 0 rfl) ?_
  refine lv_iconst (v := iI 1) hx hb dL_law_729 rfl ?_
  refine gi_add (z := (7 * (t : Int) + 1)) hx hb dL_law_730 rfl ?_
  refine g_sld (i := 7 * t + 1) C hX hbl hbA hS (by omega) (by omega) (by omega) dL_law_731 ?_
  refine lv_aload_n hx hb dL_law_732 rfl (lv_at hl 3 rfl) ?_
  refine lv_iload_n hx hb dL_law_733 rfl (lv_at hl 0 rfl) ?_
  refine lv_iconst (v := iI 2) hx hb dL_law_734 rfl ?_
  refine gi_add (z := (7 * (t : Int) + 2)) hx hb dL_law_735 rfl ?_
  refine g_sld (i := 7 * t + 2) C hX hbl hbA hS (by omega) (by omega) (by omega) dL_law_736 ?_
  refine lv_aload_n hx hb dL_law_737 rfl (lv_at hl 3 rfl) ?_
  refine lv_iload_n hx hb dL_law_738 rfl (lv_at hl 0 rfl) ?_
  refine lv_iconst (v := iI 3) hx hb dL_law_739 rfl ?_
  refine gi_add (z := (7 * (t : Int) + 3)) hx hb dL_law_740 rfl ?_
  refine g_sld (i := 7 * t + 3) C hX hbl hbA hS (by omega) (by omega) (by omega) dL_law_741 ?_
  refine g_cv (As := [.int (iI (X (7 * t + 1))), .int (iI (X (7 * t + 2))), .int (iI (X (7 * t + 3)))]) (rest := []) (n := 3) C hml (x_Ro_appeal l D k Ax ad hDx vx fx gx (X (7 * t + 1)) (X (7 * t + 2)) (X (7 * t + 3)) (by omega) (by omega) (by omega)) mM_L_85 mI_X10_appeal mE_X10_appeal mN_X10 mC_X10_appeal (by decide +kernel) 0 (ci := 10) rfl rfl hPx hS hAx ⟨Nat.le_of_ble_eq_true rfl, Nat.le_of_ble_eq_true rfl⟩ ⟨Nat.le_of_ble_eq_true rfl, Nat.le_of_ble_eq_true rfl⟩ hl.1 rfl rfl (Nat.le_of_ble_eq_true rfl) dL_law_742 (fun r_1 v_1 f_1 g_1 H1 locs hq_1 hPx hk_1 hS => ?_)
  replace hPm : gWd D (mdT k bd) vm fm gm H1 := ⟨hPm.1.kept (fun i q h => hk_1 q.1 ((hPm.1 i q h).lt) (hxm _ _ _ i q h)), hPm.2⟩
  obtain ⟨z_1, w25_1, rfl, rfl, rfl, rfl, p0_1, p1_1⟩ := hq_1
  show W p l e room_1 s m #[Value.ref b] below meth c _ _ 100 12380 Q (F0 m 745 ls [.int (iI z_1)])
  refine lv_pop hx hb dL_law_745 rfl ?_
  refine lv_aload_n hx hb dL_law_746 rfl (lv_at hl 1 rfl) ?_
  refine lv_aload_n hx hb dL_law_747 rfl (lv_at hl 3 rfl) ?_
  refine lv_iload_n hx hb dL_law_748 rfl (lv_at hl 0 rfl) ?_
  refine lv_iconst (v := iI 1) hx hb dL_law_749 rfl ?_
  refine gi_add (z := (7 * (t : Int) + 1)) hx hb dL_law_750 rfl ?_
  refine g_sld (i := 7 * t + 1) C hX hbl hbA hS (by omega) (by omega) (by omega) dL_law_751 ?_
  refine lv_aload_n hx hb dL_law_752 rfl (lv_at hl 3 rfl) ?_
  refine lv_iload_n hx hb dL_law_753 rfl (lv_at hl 0 rfl) ?_
  refine lv_iconst (v := iI 2) hx hb dL_law_754 rfl ?_
  refine gi_add (z := (7 * (t : Int) + 2)) hx hb dL_law_755 rfl ?_
  refine g_sld (i := 7 * t + 2) C hX hbl hbA hS (by omega) (by omega) (by omega) dL_law_756 ?_
  refine lv_aload_n hx hb dL_law_757 rfl (lv_at hl 3 rfl) ?_
  refine lv_iload_n hx hb dL_law_758 rfl (lv_at hl 0 rfl) ?_
  refine lv_iconst (v := iI 3) hx hb dL_law_759 rfl ?_
  refine gi_add (z := (7 * (t : Int) + 3)) hx hb dL_law_760 rfl ?_
  refine g_sld (i := 7 * t + 3) C hX hbl hbA hS (by omega) (by omega) (by omega) dL_law_761 ?_
  refine g_cv (As := [.int (iI (X (7 * t + 1))), .int (iI (X (7 * t + 2))), .int (iI (X (7 * t + 3)))]) (rest := []) (n := 3) C hml (y_appeal l D k Am bd hDm vm fm gm (X (7 * t + 1)) (X (7 * t + 2)) (X (7 * t + 3)) (by omega) (by omega) (by omega)) mM_L_89 mI_X11_appeal mE_X11_appeal mN_X11 mC_X11_appeal (by decide +kernel) 0 (ci := 11) rfl rfl hPm hS hAm ⟨Nat.le_of_ble_eq_true rfl, Nat.le_of_ble_eq_true rfl⟩ ⟨Nat.le_of_ble_eq_true rfl, Nat.le_of_ble_eq_true rfl⟩ hl.1 rfl rfl (Nat.le_of_ble_eq_true rfl) dL_law_762 (fun r_2 v_2 f_2 g_2 H2 locs hq_2 hPm hk_2 hS => ?_)
  replace hPx := (⟨hPx.1.kept (fun i q h => hk_2 q.1 ((hPx.1 i q h).lt) (hmx _ _ _ i q h)), hPx.2⟩ : gWd D (rwT k ad) _ _ _ H2)
  obtain ⟨z_2, w0_2, rfl, rfl, rfl, rfl, p0_2, p1_2⟩ := hq_2
  show W p l e room_1 s m #[Value.ref b] below meth c _ _ 100 12380 Q (F0 m 765 ls [.int (iI z_2)])
  obtain ⟨h_st, h_ap, h_an, h_ah, h_ad, h_z⟩ := rl_appeal (a1 := (X (7 * t + 1))) (a2 := (X (7 * t + 2))) (a3 := (X (7 * t + 3))) k_st k_tm k_rn k_it k_ks k_bk k_cl k_mn k_ap k_hs k_be k_zo k_wh k_rd k_rt k_fr k_en k_ho k_hw k_wo k_ci k_an k_ah k_ad k_sq k_cd k_kd k_op k_la k_lo k_om k_oi k_ti k_h0 k_ck k_or k_wt k_wi k_sh k_bx k_rp k_bm k_tp k_ta k_fk k_fp g_cl g_mn g_rn g_ks g_ox g_tm g_wh g_fr g_la g_ti p0_1 p1_1 p0_2 p1_2
  refine lv_pop hx hb dL_law_765 rfl ?_
  refine lv_goto (tgt := 1080) hx hb dL_law_766 (by decide) ?_
  refine back _ _ _ _ _ _ _ _ ?_ hPx hPm hS
  exact ⟨h_st, k_tm, k_rn, k_it, k_ks, k_bk, k_cl, k_mn, h_ap, k_hs, k_be, k_zo, k_wh, k_rd, k_rt, k_fr, k_en, k_ho, k_hw, k_wo, k_ci, h_an, h_ah, h_ad, k_sq, k_cd, k_kd, k_op, k_la, k_lo, k_om, k_oi, k_ti, k_h0, k_ck, k_or, k_wt, k_wi, k_sh, k_bx, k_rp, k_bm, k_tp, k_ta, k_fk, k_fp⟩
set_option maxHeartbeats 4000000 in
set_option maxRecDepth 100000 in
theorem law_case_17 (C : gC D k p s m #[Value.ref b] c code R_law) (hml : c.maxLocals = 4) (hX : va_X b L (fun j => iI (X j)) s s.heap) (hXr : ∀ j, inR (X j)) (hbl : b < s.heap.size) (ht : 7 * t + 7 ≤ L) (hL : L ≤ 3584) (hE : gEv za (fun q : Nat => s.heap.size ≤ q) s s.heap) (hDx : rwD Ax k ad) (hDm : mdD Am k bd) (hAx : ∀ q : Nat, Ax q → s.heap.size ≤ q) (hAm : ∀ q : Nat, Am q → s.heap.size ≤ q) (hxm : ∀ (v : gV) (f g : gF) (i : Nat) (q : Nat × va_E), (mdW k bd v f g)[i]? = some q → ¬ Ax q.1) (hmx : ∀ (v : gV) (f g : gF) (i : Nat) (q : Nat × va_E), (rwW k ad v f g)[i]? = some q → ¬ Am q.1) (hI : lwI vx fx vm fm) (hPx : gWd D (rwT k ad) vx fx gx H) (hPm : gWd D (mdT k bd) vm fm gm H) (hS : va_S (fun q : Nat => s.heap.size ≤ q) s.heap H locs) (hl : lv_has ls 4 [(3, .int (iI (7 * (t : Int)))), (2, .ref (bd 0)), (1, .ref (ad 0)), (0, .ref b)]) (back : ∀ (vx vm : gV) (fx gx fm gm : gF) (H : Heap) (locs : List Loc), lwI vx fx vm fm → gWd D (rwT k ad) vx fx gx H → gWd D (mdT k bd) vm fm gm H → va_S (fun q : Nat => s.heap.size ≤ q) s.heap H locs → W p l e room_1 s m #[Value.ref b] below meth c H locs 100 12380 Q (F0 m 1080 ls [])) : W p l e room_1 s m #[Value.ref b] below meth c H locs 100 12380 Q (F0 m 769 ls []) := by
  have hx := C.1
  have hb := C.2.1
  have hbA : ¬ (fun q : Nat => s.heap.size ≤ q) b := Nat.not_le.mpr hbl
  have hT0 : 0 ≤ vx 0 ∧ vx 0 ≤ 700 := hPx.2.1 0
  have hT1 : 0 ≤ vm 2 ∧ vm 2 ≤ 700 := hPm.2.1 2
  obtain ⟨k_st, k_tm, k_rn, k_it, k_ks, k_bk, k_cl, k_mn, k_ap, k_hs, k_be, k_zo, k_wh, k_rd, k_rt, k_fr, k_en, k_ho, k_hw, k_wo, k_ci, k_an, k_ah, k_ad, k_sq, k_cd, k_kd, k_op, k_la, k_lo, k_om, k_oi, k_ti, k_h0, k_ck, k_or, k_wt, k_wi, k_sh, k_bx, k_rp, k_bm, k_tp, k_ta, k_fk, k_fp⟩ := id hI
  have g_cl : 0 ≤ (vx 21) ∧ (vx 21) ≤ 16 := hPx.2.1 21
  have g_mn : 0 ≤ (vx 23) ∧ (vx 23) ≤ 300 := hPx.2.1 23
  have g_rn : 0 ≤ (vx 1) ∧ (vx 1) ≤ 4 := hPx.2.1 1
  have g_ks : 0 ≤ (vx 3) ∧ (vx 3) ≤ 4 := hPx.2.1 3
  have g_ox : 0 ≤ (vx 22) ∧ (vx 22) ≤ 3 := hPx.2.1 22
  have g_tm : 0 ≤ (vx 26) ∧ (vx 26) ≤ 1000000 := hPx.2.1 26
  have g_wh : ∀ k, 0 ≤ (fx 20) k ∧ (fx 20) k ≤ 15 := fun k => hPx.2.2 20 k
  have g_fr : ∀ k, 0 ≤ (fx 23) k ∧ (fx 23) k ≤ 1000000 := fun k => hPx.2.2 23 k
  have g_la : ∀ k, 0 ≤ (fx 18) k ∧ (fx 18) k ≤ 3 := fun k => hPx.2.2 18 k
  have g_ti : ∀ k, 0 ≤ (fx 31) k ∧ (fx 31) k ≤ 20 := fun k => hPx.2.2 31 k
  have m_oi : OI (vm 25) (fm 24) (fm 30) (fx 27) := by have h := k_oi; rw [k_mn, k_wh, k_hw] at h; exact h
  have m_ti : TI (vm 25) (vm 24) (fm 27) (fm 28) (fm 30) := by have h := k_ti; rw [k_mn, k_tm, k_fr, k_en, k_hw] at h; exact h
  have m_wi : ∀ c, 0 ≤ c → c < (vm 22) → WI (vm 24) (fm 35) (fm 36) (fm 34) c := fun c c0 c1 => by have h := k_wi c c0 (by omega); rw [k_tm, k_wo, k_ci] at h; exact WI_ti h ((k_wt c c0 (by omega)).1 (by omega))
  have hX1 := hXr (7 * t + 1)
  have hX2 := hXr (7 * t + 2)
  have hX3 := hXr (7 * t + 3)
  have hX4 := hXr (7 * t + 4)
  have hX5 := hXr (7 * t + 5)
  have hX6 := hXr (7 * t + 6)
  refine lv_aload_n hx hb dL_law_769 rfl (lv_at hl 2 rfl) ?_
  refine lv_aload_n hx hb dL_law_770 rfl (lv_at hl 3 rfl) ?_
  refine lv_iload_n hx hb dL_law_771 rfl (lv_at hl 0 rfl) ?_
  refine lv_iconst (v := iI 1) hx hb dL_law_772 rfl ?_
  refine gi_add (z := (7 * (t : Int) + 1)) hx hb dL_law_773 rfl ?_
  refine g_sld (i := 7 * t + 1) C hX hbl hbA hS (by omega) (by omega) (by omega) dL_law_774 ?_
  refine lv_aload_n hx hb dL_law_775 rfl (lv_at hl 3 rfl) ?_
  refine lv_iload_n hx hb dL_law_776 rfl (lv_at hl 0 rfl) ?_
  refine lv_iconst (v := iI 2) hx hb dL_law_777 rfl ?_
  refine gi_add (z := (7 * (t : Int) + 2)) hx hb dL_law_778 rfl ?_
  refine g_sld (i := 7 * t + 2) C hX hbl hbA hS (by omega) (by omega) (by omega) dL_law_779 ?_
  refine lv_aload_n hx hb dL_law_780 rfl (lv_at hl 3 rfl) ?_
  refine lv_iload_n hx hb dL_law_781 rfl (lv_at hl 0 rfl) ?_
  refine lv_iconst (v := iI 3) hx hb dL_law_782 rfl ?_
  refine gi_add (z := (7 * (t : Int) + 3)) hx hb dL_law_783 rfl ?_
  refine g_sld (i := 7 * t + 3) C hX hbl hbA hS (by omega) (by omega) (by omega) dL_law_784 ?_
  refine lv_aload_n hx hb dL_law_785 rfl (lv_at hl 3 rfl) ?_
  refine lv_iload_n hx hb dL_law_786 rfl (lv_at hl 0 rfl) ?_
  refine lv_iconst (v := iI 4) hx hb dL_law_787 rfl ?_
  refine gi_add (z := (7 * (t : Int) + 4)) hx hb dL_law_788 rfl ?_
  refine g_sld (i := 7 * t + 4) C hX hbl hbA hS (by omega) (by omega) (by omega) dL_law_789 ?_
  refine lv_aload_n hx hb dL_law_790 rfl (lv_at hl 3 rfl) ?_
  refine lv_iload_n hx hb dL_law_791 rfl (lv_at hl 0 rfl) ?_
  refine lv_iconst (v := iI 5) hx hb dL_law_792 rfl ?_
  refine gi_add (z := (7 * (t : Int) + 5)) hx hb dL_law_793 rfl ?_
  refine g_sld (i := 7 * t + 5) C hX hbl hbA hS (by omega) (by omega) (by omega) dL_law_794 ?_
  refine g_cv (As := [.int (iI (X (7 * t + 1))), .int (iI (X (7 * t + 2))), .int (iI (X (7 * t + 3))), .int (iI (X (7 * t + 4))), .int (iI (X (7 * t + 5)))]) (rest := []) (n := 5) C hml (x_Ro_of l D k Ax ad hDx vx fx gx (X (7 * t + 1)) (X (7 * t + 2)) (X (7 * t + 3)) (X (7 * t + 4)) (X (7 * t + 5)) (by omega) (by omega) (by omega) (by omega) (by omega) k_sh) mM_L_90 mI_X10_of mE_X10_of mN_X10 mC_X10_of (by decide +kernel) 0 (ci := 10) rfl rfl hPx hS hAx ⟨Nat.le_of_ble_eq_true rfl, Nat.le_of_ble_eq_true rfl⟩ ⟨Nat.le_of_ble_eq_true rfl, Nat.le_of_ble_eq_true rfl⟩ hl.1 rfl rfl (Nat.le_of_ble_eq_true rfl) dL_law_795 (fun r_1 v_1 f_1 g_1 H1 locs hq_1 hPx hk_1 hS => ?_)
  replace hPm : gWd D (mdT k bd) vm fm gm H1 := ⟨hPm.1.kept (fun i q h => hk_1 q.1 ((hPm.1 i q h).lt) (hxm _ _ _ i q h)), hPm.2⟩
  obtain ⟨z_1, w25_1, a34_1, a35_1, a36_1, a37_1, a38_1, a39_1, b0_1, rfl, rfl, rfl, rfl, p0_1, p1_1, p2_1⟩ := hq_1
  show W p l e room_1 s m #[Value.ref b] below meth c _ _ 100 12380 Q (F0 m 798 ls [.int (iI z_1)])
  refine lv_pop hx hb dL_law_798 rfl ?_
  refine lv_aload_n hx hb dL_law_799 rfl (lv_at hl 1 rfl) ?_
  refine lv_aload_n hx hb dL_law_800 rfl (lv_at hl 3 rfl) ?_
  refine lv_iload_n hx hb dL_law_801 rfl (lv_at hl 0 rfl) ?_
  refine lv_iconst (v := iI 1) hx hb dL_law_802 rfl ?_
  refine gi_add (z := (7 * (t : Int) + 1)) hx hb dL_law_803 rfl ?_
  refine g_sld (i := 7 * t + 1) C hX hbl hbA hS (by omega) (by omega) (by omega) dL_law_804 ?_
  refine lv_aload_n hx hb dL_law_805 rfl (lv_at hl 3 rfl) ?_
  refine lv_iload_n hx hb dL_law_806 rfl (lv_at hl 0 rfl) ?_
  refine lv_iconst (v := iI 2) hx hb dL_law_807 rfl ?_
  refine gi_add (z := (7 * (t : Int) + 2)) hx hb dL_law_808 rfl ?_
  refine g_sld (i := 7 * t + 2) C hX hbl hbA hS (by omega) (by omega) (by omega) dL_law_809 ?_
  refine lv_aload_n hx hb dL_law_810 rfl (lv_at hl 3 rfl) ?_
  refine lv_iload_n hx hb dL_law_811 rfl (lv_at hl 0 rfl) ?_
  refine lv_iconst (v := iI 3) hx hb dL_law_812 rfl ?_
  refine gi_add (z := (7 * (t : Int) + 3)) hx hb dL_law_813 rfl ?_
  refine g_sld (i := 7 * t + 3) C hX hbl hbA hS (by omega) (by omega) (by omega) dL_law_814 ?_
  refine lv_aload_n hx hb dL_law_815 rfl (lv_at hl 3 rfl) ?_
  refine lv_iload_n hx hb dL_law_816 rfl (lv_at hl 0 rfl) ?_
  refine lv_iconst (v := iI 4) hx hb dL_law_817 rfl ?_
  refine gi_add (z := (7 * (t : Int) + 4)) hx hb dL_law_818 rfl ?_
  refine g_sld (i := 7 * t + 4) C hX hbl hbA hS (by omega) (by omega) (by omega) dL_law_819 ?_
  refine lv_aload_n hx hb dL_law_820 rfl (lv_at hl 3 rfl) ?_
  refine lv_iload_n hx hb dL_law_821 rfl (lv_at hl 0 rfl) ?_
  refine lv_iconst (v := iI 5) hx hb dL_law_822 rfl ?_
  refine gi_add (z := (7 * (t : Int) + 5)) hx hb dL_law_823 rfl ?_
  refine g_sld (i := 7 * t + 5) C hX hbl hbA hS (by omega) (by omega) (by omega) dL_law_824 ?_
  refine g_cv (As := [.int (iI (X (7 * t + 1))), .int (iI (X (7 * t + 2))), .int (iI (X (7 * t + 3))), .int (iI (X (7 * t + 4))), .int (iI (X (7 * t + 5)))]) (rest := []) (n := 5) C hml (y_of l D k Am bd hDm vm fm gm (X (7 * t + 1)) (X (7 * t + 2)) (X (7 * t + 3)) (X (7 * t + 4)) (X (7 * t + 5)) (by omega) (by omega) (by omega) (by omega) (by omega) k_rp) mM_L_93 mI_X11_of mE_X11_of mN_X11 mC_X11_of (by decide +kernel) 0 (ci := 11) rfl rfl hPm hS hAm ⟨Nat.le_of_ble_eq_true rfl, Nat.le_of_ble_eq_true rfl⟩ ⟨Nat.le_of_ble_eq_true rfl, Nat.le_of_ble_eq_true rfl⟩ hl.1 rfl rfl (Nat.le_of_ble_eq_true rfl) dL_law_825 (fun r_2 v_2 f_2 g_2 H2 locs hq_2 hPm hk_2 hS => ?_)
  replace hPx := (⟨hPx.1.kept (fun i q h => hk_2 q.1 ((hPx.1 i q h).lt) (hmx _ _ _ i q h)), hPx.2⟩ : gWd D (rwT k ad) _ _ _ H2)
  obtain ⟨z_2, w0_2, a37_2, b1_2, rfl, rfl, rfl, rfl, p0_2, p1_2, p2_2⟩ := hq_2
  show W p l e room_1 s m #[Value.ref b] below meth c _ _ 100 12380 Q (F0 m 828 ls [.int (iI z_2)])
  obtain ⟨h_st, h_z⟩ := rl_of (a1 := (X (7 * t + 1))) (a2 := (X (7 * t + 2))) (a3 := (X (7 * t + 3))) (a4 := (X (7 * t + 4))) (a5 := (X (7 * t + 5))) k_st k_tm k_rn k_it k_ks k_bk k_cl k_mn k_ap k_hs k_be k_zo k_wh k_rd k_rt k_fr k_en k_ho k_hw k_wo k_ci k_an k_ah k_ad k_sq k_cd k_kd k_op k_la k_lo k_om k_oi k_ti k_h0 k_ck k_or k_wt k_wi k_sh k_bx k_rp k_bm k_tp k_ta k_fk k_fp g_cl g_mn g_rn g_ks g_ox g_tm g_wh g_fr g_la g_ti p0_1 p1_1 p2_1 p0_2 p1_2 p2_2
  refine lv_pop hx hb dL_law_828 rfl ?_
  refine lv_goto (tgt := 1080) hx hb dL_law_829 (by decide) ?_
  refine back _ _ _ _ _ _ _ _ ?_ hPx hPm hS
  exact ⟨h_st, k_tm, k_rn, k_it, k_ks, k_bk, k_cl, k_mn, k_ap, k_hs, k_be, k_zo, k_wh, k_rd, k_rt, k_fr, k_en, k_ho, k_hw, k_wo, k_ci, k_an, k_ah, k_ad, k_sq, k_cd, k_kd, k_op, k_la, k_lo, k_om, k_oi, k_ti, k_h0, k_ck, k_or, k_wt, k_wi, k_sh, k_bx, k_rp, k_bm, k_tp, k_ta, k_fk, k_fp⟩
set_option maxHeartbeats 4000000 in
set_option maxRecDepth 100000 in
theorem law_case_18 (C : gC D k p s m #[Value.ref b] c code R_law) (hml : c.maxLocals = 4) (hX : va_X b L (fun j => iI (X j)) s s.heap) (hXr : ∀ j, inR (X j)) (hbl : b < s.heap.size) (ht : 7 * t + 7 ≤ L) (hL : L ≤ 3584) (hE : gEv za (fun q : Nat => s.heap.size ≤ q) s s.heap) (hDx : rwD Ax k ad) (hDm : mdD Am k bd) (hAx : ∀ q : Nat, Ax q → s.heap.size ≤ q) (hAm : ∀ q : Nat, Am q → s.heap.size ≤ q) (hxm : ∀ (v : gV) (f g : gF) (i : Nat) (q : Nat × va_E), (mdW k bd v f g)[i]? = some q → ¬ Ax q.1) (hmx : ∀ (v : gV) (f g : gF) (i : Nat) (q : Nat × va_E), (rwW k ad v f g)[i]? = some q → ¬ Am q.1) (hI : lwI vx fx vm fm) (hPx : gWd D (rwT k ad) vx fx gx H) (hPm : gWd D (mdT k bd) vm fm gm H) (hS : va_S (fun q : Nat => s.heap.size ≤ q) s.heap H locs) (hl : lv_has ls 4 [(3, .int (iI (7 * (t : Int)))), (2, .ref (bd 0)), (1, .ref (ad 0)), (0, .ref b)]) (back : ∀ (vx vm : gV) (fx gx fm gm : gF) (H : Heap) (locs : List Loc), lwI vx fx vm fm → gWd D (rwT k ad) vx fx gx H → gWd D (mdT k bd) vm fm gm H → va_S (fun q : Nat => s.heap.size ≤ q) s.heap H locs → W p l e room_1 s m #[Value.ref b] below meth c H locs 100 12380 Q (F0 m 1080 ls [])) : W p l e room_1 s m #[Value.ref b] below meth c H locs 100 12380 Q (F0 m 832 ls []) := by
  have hx := C.1
  have hb := C.2.1
  have hbA : ¬ (fun q : Nat => s.heap.size ≤ q) b := Nat.not_le.mpr hbl
  have hT0 : 0 ≤ vx 0 ∧ vx 0 ≤ 700 := hPx.2.1 0
  have hT1 : 0 ≤ vm 2 ∧ vm 2 ≤ 700 := hPm.2.1 2
  obtain ⟨k_st, k_tm, k_rn, k_it, k_ks, k_bk, k_cl, k_mn, k_ap, k_hs, k_be, k_zo, k_wh, k_rd, k_rt, k_fr, k_en, k_ho, k_hw, k_wo, k_ci, k_an, k_ah, k_ad, k_sq, k_cd, k_kd, k_op, k_la, k_lo, k_om, k_oi, k_ti, k_h0, k_ck, k_or, k_wt, k_wi, k_sh, k_bx, k_rp, k_bm, k_tp, k_ta, k_fk, k_fp⟩ := id hI
  have g_cl : 0 ≤ (vx 21) ∧ (vx 21) ≤ 16 := hPx.2.1 21
  have g_mn : 0 ≤ (vx 23) ∧ (vx 23) ≤ 300 := hPx.2.1 23
  have g_rn : 0 ≤ (vx 1) ∧ (vx 1) ≤ 4 := hPx.2.1 1
  have g_ks : 0 ≤ (vx 3) ∧ (vx 3) ≤ 4 := hPx.2.1 3
  have g_ox : 0 ≤ (vx 22) ∧ (vx 22) ≤ 3 := hPx.2.1 22
  have g_tm : 0 ≤ (vx 26) ∧ (vx 26) ≤ 1000000 := hPx.2.1 26
  have g_wh : ∀ k, 0 ≤ (fx 20) k ∧ (fx 20) k ≤ 15 := fun k => hPx.2.2 20 k
  have g_fr : ∀ k, 0 ≤ (fx 23) k ∧ (fx 23) k ≤ 1000000 := fun k => hPx.2.2 23 k
  have g_la : ∀ k, 0 ≤ (fx 18) k ∧ (fx 18) k ≤ 3 := fun k => hPx.2.2 18 k
  have g_ti : ∀ k, 0 ≤ (fx 31) k ∧ (fx 31) k ≤ 20 := fun k => hPx.2.2 31 k
  have m_oi : OI (vm 25) (fm 24) (fm 30) (fx 27) := by have h := k_oi; rw [k_mn, k_wh, k_hw] at h; exact h
  have m_ti : TI (vm 25) (vm 24) (fm 27) (fm 28) (fm 30) := by have h := k_ti; rw [k_mn, k_tm, k_fr, k_en, k_hw] at h; exact h
  have m_wi : ∀ c, 0 ≤ c → c < (vm 22) → WI (vm 24) (fm 35) (fm 36) (fm 34) c := fun c c0 c1 => by have h := k_wi c c0 (by omega); rw [k_tm, k_wo, k_ci] at h; exact WI_ti h ((k_wt c c0 (by omega)).1 (by omega))
  have hX1 := hXr (7 * t + 1)
  have hX2 := hXr (7 * t + 2)
  have hX3 := hXr (7 * t + 3)
  have hX4 := hXr (7 * t + 4)
  have hX5 := hXr (7 * t + 5)
  have hX6 := hXr (7 * t + 6)
  refine lv_aload_n hx hb dL_law_832 rfl (lv_at hl 2 rfl) ?_
  refine lv_aload_n hx hb dL_law_833 rfl (lv_at hl 3 rfl) ?_
  refine lv_iload_n hx hb dL_law_834 rfl (lv_at hl 0 rfl) ?_
  refine lv_iconst (v := iI 1) hx hb dL_law_835 rfl ?_
  refine gi_add (z := (7 * (t : Int) + 1)) hx hb dL_law_836 rfl ?_
  refine g_sld (i := 7 * t + 1) C hX hbl hbA hS (by omega) (by omega) (by omega) dL_law_837 ?_
  refine lv_aload_n hx hb dL_law_838 rfl (lv_at hl 3 rfl) ?_
  refine lv_iload_n hx hb dL_law_839 rfl (lv_at hl 0 rfl) ?_
  refine lv_iconst (v := iI 2) hx hb dL_law_840 rfl ?_
  refine gi_add (z := (7 * (t : Int) + 2)) hx hb dL_law_841 rfl ?_
  refine g_sld (i := 7 * t + 2) C hX hbl hbA hS (by omega) (by omega) (by omega) dL_law_842 ?_
  refine lv_aload_n hx hb dL_law_843 rfl (lv_at hl 3 rfl) ?_
  refine lv_iload_n hx hb dL_law_844 rfl (lv_at hl 0 rfl) ?_
  refine lv_iconst (v := iI 3) hx hb dL_law_845 rfl ?_
  refine gi_add (z := (7 * (t : Int) + 3)) hx hb dL_law_846 rfl ?_
  refine g_sld (i := 7 * t + 3) C hX hbl hbA hS (by omega) (by omega) (by omega) dL_law_847 ?_
  refine lv_aload_n hx hb dL_law_848 rfl (lv_at hl 3 rfl) ?_
  refine lv_iload_n hx hb dL_law_849 rfl (lv_at hl 0 rfl) ?_
  refine lv_iconst (v := iI 4) hx hb dL_law_850 rfl ?_
  refine gi_add (z := (7 * (t : Int) + 4)) hx hb dL_law_851 rfl ?_
  refine g_sld (i := 7 * t + 4) C hX hbl hbA hS (by omega) (by omega) (by omega) dL_law_852 ?_
  refine g_cv (As := [.int (iI (X (7 * t + 1))), .int (iI (X (7 * t + 2))), .int (iI (X (7 * t + 3))), .int (iI (X (7 * t + 4)))]) (rest := []) (n := 4) C hml (x_Ro_key l D k Ax ad hDx vx fx gx (X (7 * t + 1)) (X (7 * t + 2)) (X (7 * t + 3)) (X (7 * t + 4)) (by omega) (by omega) (by omega) (by omega) k_sh) mM_L_94 mI_X10_key mE_X10_key mN_X10 mC_X10_key (by decide +kernel) 0 (ci := 10) rfl rfl hPx hS hAx ⟨Nat.le_of_ble_eq_true rfl, Nat.le_of_ble_eq_true rfl⟩ ⟨Nat.le_of_ble_eq_true rfl, Nat.le_of_ble_eq_true rfl⟩ hl.1 rfl rfl (Nat.le_of_ble_eq_true rfl) dL_law_853 (fun r_1 v_1 f_1 g_1 H1 locs hq_1 hPx hk_1 hS => ?_)
  replace hPm : gWd D (mdT k bd) vm fm gm H1 := ⟨hPm.1.kept (fun i q h => hk_1 q.1 ((hPm.1 i q h).lt) (hxm _ _ _ i q h)), hPm.2⟩
  obtain ⟨z_1, w25_1, a34_1, a35_1, a36_1, a37_1, a38_1, a39_1, b0_1, b2_1, b3_1, rfl, rfl, rfl, rfl, p0_1, p1_1⟩ := hq_1
  show W p l e room_1 s m #[Value.ref b] below meth c _ _ 100 12380 Q (F0 m 856 ls [.long (iL z_1)])
  refine lv_pop2_2 hx hb dL_law_856 rfl ?_
  refine lv_aload_n hx hb dL_law_857 rfl (lv_at hl 1 rfl) ?_
  refine lv_aload_n hx hb dL_law_858 rfl (lv_at hl 3 rfl) ?_
  refine lv_iload_n hx hb dL_law_859 rfl (lv_at hl 0 rfl) ?_
  refine lv_iconst (v := iI 1) hx hb dL_law_860 rfl ?_
  refine gi_add (z := (7 * (t : Int) + 1)) hx hb dL_law_861 rfl ?_
  refine g_sld (i := 7 * t + 1) C hX hbl hbA hS (by omega) (by omega) (by omega) dL_law_862 ?_
  refine lv_aload_n hx hb dL_law_863 rfl (lv_at hl 3 rfl) ?_
  refine lv_iload_n hx hb dL_law_864 rfl (lv_at hl 0 rfl) ?_
  refine lv_iconst (v := iI 2) hx hb dL_law_865 rfl ?_
  refine gi_add (z := (7 * (t : Int) + 2)) hx hb dL_law_866 rfl ?_
  refine g_sld (i := 7 * t + 2) C hX hbl hbA hS (by omega) (by omega) (by omega) dL_law_867 ?_
  refine lv_aload_n hx hb dL_law_868 rfl (lv_at hl 3 rfl) ?_
  refine lv_iload_n hx hb dL_law_869 rfl (lv_at hl 0 rfl) ?_
  refine lv_iconst (v := iI 3) hx hb dL_law_870 rfl ?_
  refine gi_add (z := (7 * (t : Int) + 3)) hx hb dL_law_871 rfl ?_
  refine g_sld (i := 7 * t + 3) C hX hbl hbA hS (by omega) (by omega) (by omega) dL_law_872 ?_
  refine lv_aload_n hx hb dL_law_873 rfl (lv_at hl 3 rfl) ?_
  refine lv_iload_n hx hb dL_law_874 rfl (lv_at hl 0 rfl) ?_
  refine lv_iconst (v := iI 4) hx hb dL_law_875 rfl ?_
  refine gi_add (z := (7 * (t : Int) + 4)) hx hb dL_law_876 rfl ?_
  refine g_sld (i := 7 * t + 4) C hX hbl hbA hS (by omega) (by omega) (by omega) dL_law_877 ?_
  refine g_cv (As := [.int (iI (X (7 * t + 1))), .int (iI (X (7 * t + 2))), .int (iI (X (7 * t + 3))), .int (iI (X (7 * t + 4)))]) (rest := []) (n := 4) C hml (y_key l D k Am bd hDm vm fm gm (X (7 * t + 1)) (X (7 * t + 2)) (X (7 * t + 3)) (X (7 * t + 4)) (by omega) (by omega) (by omega) (by omega) k_rp) mM_L_98 mI_X11_key mE_X11_key mN_X11 mC_X11_key (by decide +kernel) 0 (ci := 11) rfl rfl hPm hS hAm ⟨Nat.le_of_ble_eq_true rfl, Nat.le_of_ble_eq_true rfl⟩ ⟨Nat.le_of_ble_eq_true rfl, Nat.le_of_ble_eq_true rfl⟩ hl.1 rfl rfl (Nat.le_of_ble_eq_true rfl) dL_law_878 (fun r_2 v_2 f_2 g_2 H2 locs hq_2 hPm hk_2 hS => ?_)
  replace hPx := (⟨hPx.1.kept (fun i q h => hk_2 q.1 ((hPx.1 i q h).lt) (hmx _ _ _ i q h)), hPx.2⟩ : gWd D (rwT k ad) _ _ _ H2)
  obtain ⟨z_2, w0_2, a37_2, b1_2, rfl, rfl, rfl, rfl, p0_2, p1_2, p2_2⟩ := hq_2
  show W p l e room_1 s m #[Value.ref b] below meth c _ _ 100 12380 Q (F0 m 881 ls [.long (iL z_2)])
  obtain ⟨h_st, h_z⟩ := rl_key (a1 := (X (7 * t + 1))) (a2 := (X (7 * t + 2))) (a3 := (X (7 * t + 3))) (a4 := (X (7 * t + 4))) k_st k_tm k_rn k_it k_ks k_bk k_cl k_mn k_ap k_hs k_be k_zo k_wh k_rd k_rt k_fr k_en k_ho k_hw k_wo k_ci k_an k_ah k_ad k_sq k_cd k_kd k_op k_la k_lo k_om k_oi k_ti k_h0 k_ck k_or k_wt k_wi k_sh k_bx k_rp k_bm k_tp k_ta k_fk k_fp g_cl g_mn g_rn g_ks g_ox g_tm g_wh g_fr g_la g_ti p0_1 p1_1 p0_2 p1_2 p2_2
  refine lv_pop2_2 hx hb dL_law_881 rfl ?_
  refine lv_goto (tgt := 1080) hx hb dL_law_882 (by decide) ?_
  refine back _ _ _ _ _ _ _ _ ?_ hPx hPm hS
  exact ⟨h_st, k_tm, k_rn, k_it, k_ks, k_bk, k_cl, k_mn, k_ap, k_hs, k_be, k_zo, k_wh, k_rd, k_rt, k_fr, k_en, k_ho, k_hw, k_wo, k_ci, k_an, k_ah, k_ad, k_sq, k_cd, k_kd, k_op, k_la, k_lo, k_om, k_oi, k_ti, k_h0, k_ck, k_or, k_wt, k_wi, k_sh, k_bx, k_rp, k_bm, k_tp, k_ta, k_fk, k_fp⟩
set_option maxHeartbeats 4000000 in
set_option maxRecDepth 100000 in
theorem law_case_19 (C : gC D k p s m #[Value.ref b] c code R_law) (hml : c.maxLocals = 4) (hX : va_X b L (fun j => iI (X j)) s s.heap) (hXr : ∀ j, inR (X j)) (hbl : b < s.heap.size) (ht : 7 * t + 7 ≤ L) (hL : L ≤ 3584) (hE : gEv za (fun q : Nat => s.heap.size ≤ q) s s.heap) (hDx : rwD Ax k ad) (hDm : mdD Am k bd) (hAx : ∀ q : Nat, Ax q → s.heap.size ≤ q) (hAm : ∀ q : Nat, Am q → s.heap.size ≤ q) (hxm : ∀ (v : gV) (f g : gF) (i : Nat) (q : Nat × va_E), (mdW k bd v f g)[i]? = some q → ¬ Ax q.1) (hmx : ∀ (v : gV) (f g : gF) (i : Nat) (q : Nat × va_E), (rwW k ad v f g)[i]? = some q → ¬ Am q.1) (hI : lwI vx fx vm fm) (hPx : gWd D (rwT k ad) vx fx gx H) (hPm : gWd D (mdT k bd) vm fm gm H) (hS : va_S (fun q : Nat => s.heap.size ≤ q) s.heap H locs) (hl : lv_has ls 4 [(3, .int (iI (7 * (t : Int)))), (2, .ref (bd 0)), (1, .ref (ad 0)), (0, .ref b)]) (back : ∀ (vx vm : gV) (fx gx fm gm : gF) (H : Heap) (locs : List Loc), lwI vx fx vm fm → gWd D (rwT k ad) vx fx gx H → gWd D (mdT k bd) vm fm gm H → va_S (fun q : Nat => s.heap.size ≤ q) s.heap H locs → W p l e room_1 s m #[Value.ref b] below meth c H locs 100 12380 Q (F0 m 1080 ls [])) : W p l e room_1 s m #[Value.ref b] below meth c H locs 100 12380 Q (F0 m 885 ls []) := by
  have hx := C.1
  have hb := C.2.1
  have hbA : ¬ (fun q : Nat => s.heap.size ≤ q) b := Nat.not_le.mpr hbl
  have hT0 : 0 ≤ vx 0 ∧ vx 0 ≤ 700 := hPx.2.1 0
  have hT1 : 0 ≤ vm 2 ∧ vm 2 ≤ 700 := hPm.2.1 2
  obtain ⟨k_st, k_tm, k_rn, k_it, k_ks, k_bk, k_cl, k_mn, k_ap, k_hs, k_be, k_zo, k_wh, k_rd, k_rt, k_fr, k_en, k_ho, k_hw, k_wo, k_ci, k_an, k_ah, k_ad, k_sq, k_cd, k_kd, k_op, k_la, k_lo, k_om, k_oi, k_ti, k_h0, k_ck, k_or, k_wt, k_wi, k_sh, k_bx, k_rp, k_bm, k_tp, k_ta, k_fk, k_fp⟩ := id hI
  have g_cl : 0 ≤ (vx 21) ∧ (vx 21) ≤ 16 := hPx.2.1 21
  have g_mn : 0 ≤ (vx 23) ∧ (vx 23) ≤ 300 := hPx.2.1 23
  have g_rn : 0 ≤ (vx 1) ∧ (vx 1) ≤ 4 := hPx.2.1 1
  have g_ks : 0 ≤ (vx 3) ∧ (vx 3) ≤ 4 := hPx.2.1 3
  have g_ox : 0 ≤ (vx 22) ∧ (vx 22) ≤ 3 := hPx.2.1 22
  have g_tm : 0 ≤ (vx 26) ∧ (vx 26) ≤ 1000000 := hPx.2.1 26
  have g_wh : ∀ k, 0 ≤ (fx 20) k ∧ (fx 20) k ≤ 15 := fun k => hPx.2.2 20 k
  have g_fr : ∀ k, 0 ≤ (fx 23) k ∧ (fx 23) k ≤ 1000000 := fun k => hPx.2.2 23 k
  have g_la : ∀ k, 0 ≤ (fx 18) k ∧ (fx 18) k ≤ 3 := fun k => hPx.2.2 18 k
  have g_ti : ∀ k, 0 ≤ (fx 31) k ∧ (fx 31) k ≤ 20 := fun k => hPx.2.2 31 k
  have m_oi : OI (vm 25) (fm 24) (fm 30) (fx 27) := by have h := k_oi; rw [k_mn, k_wh, k_hw] at h; exact h
  have m_ti : TI (vm 25) (vm 24) (fm 27) (fm 28) (fm 30) := by have h := k_ti; rw [k_mn, k_tm, k_fr, k_en, k_hw] at h; exact h
  have m_wi : ∀ c, 0 ≤ c → c < (vm 22) → WI (vm 24) (fm 35) (fm 36) (fm 34) c := fun c c0 c1 => by have h := k_wi c c0 (by omega); rw [k_tm, k_wo, k_ci] at h; exact WI_ti h ((k_wt c c0 (by omega)).1 (by omega))
  have hX1 := hXr (7 * t + 1)
  have hX2 := hXr (7 * t + 2)
  have hX3 := hXr (7 * t + 3)
  have hX4 := hXr (7 * t + 4)
  have hX5 := hXr (7 * t + 5)
  have hX6 := hXr (7 * t + 6)
  refine lv_aload_n hx hb dL_law_885 rfl (lv_at hl 2 rfl) ?_
  refine lv_aload_n hx hb dL_law_886 rfl (lv_at hl 3 rfl) ?_
  refine lv_iload_n hx hb dL_law_887 rfl (lv_at hl 0 rfl) ?_
  refine lv_iconst (v := iI 1) hx hb dL_law_888 rfl ?_
  refine gi_add (z := (7 * (t : Int) + 1)) hx hb dL_law_889 rfl ?_
  refine g_sld (i := 7 * t + 1) C hX hbl hbA hS (by omega) (by omega) (by omega) dL_law_890 ?_
  refine lv_aload_n hx hb dL_law_891 rfl (lv_at hl 3 rfl) ?_
  refine lv_iload_n hx hb dL_law_892 rfl (lv_at hl 0 rfl) ?_
  refine lv_iconst (v := iI 2) hx hb dL_law_893 rfl ?_
  refine gi_add (z := (7 * (t : Int) + 2)) hx hb dL_law_894 rfl ?_
  refine g_sld (i := 7 * t + 2) C hX hbl hbA hS (by omega) (by omega) (by omega) dL_law_895 ?_
  refine lv_aload_n hx hb dL_law_896 rfl (lv_at hl 3 rfl) ?_
  refine lv_iload_n hx hb dL_law_897 rfl (lv_at hl 0 rfl) ?_
  refine lv_iconst (v := iI 3) hx hb dL_law_898 rfl ?_
  refine gi_add (z := (7 * (t : Int) + 3)) hx hb dL_law_899 rfl ?_
  refine g_sld (i := 7 * t + 3) C hX hbl hbA hS (by omega) (by omega) (by omega) dL_law_900 ?_
  refine g_cv (As := [.int (iI (X (7 * t + 1))), .int (iI (X (7 * t + 2))), .int (iI (X (7 * t + 3)))]) (rest := []) (n := 3) C hml (x_Ro_rank l D k Ax ad hDx vx fx gx (X (7 * t + 1)) (X (7 * t + 2)) (X (7 * t + 3)) (by omega) (by omega) (by omega) k_sh) mM_L_99 mI_X10_rank mE_X10_rank mN_X10 mC_X10_rank (by decide +kernel) 0 (ci := 10) rfl rfl hPx hS hAx ⟨Nat.le_of_ble_eq_true rfl, Nat.le_of_ble_eq_true rfl⟩ ⟨Nat.le_of_ble_eq_true rfl, Nat.le_of_ble_eq_true rfl⟩ hl.1 rfl rfl (Nat.le_of_ble_eq_true rfl) dL_law_901 (fun r_1 v_1 f_1 g_1 H1 locs hq_1 hPx hk_1 hS => ?_)
  replace hPm : gWd D (mdT k bd) vm fm gm H1 := ⟨hPm.1.kept (fun i q h => hk_1 q.1 ((hPm.1 i q h).lt) (hxm _ _ _ i q h)), hPm.2⟩
  obtain ⟨z_1, w25_1, a34_1, a35_1, a36_1, a37_1, a38_1, a39_1, a41_1, b0_1, b2_1, b3_1, rfl, rfl, rfl, rfl, p0_1, p1_1, p2_1⟩ := hq_1
  show W p l e room_1 s m #[Value.ref b] below meth c _ _ 100 12380 Q (F0 m 904 ls [.int (iI z_1)])
  refine lv_pop hx hb dL_law_904 rfl ?_
  refine lv_aload_n hx hb dL_law_905 rfl (lv_at hl 1 rfl) ?_
  refine lv_aload_n hx hb dL_law_906 rfl (lv_at hl 3 rfl) ?_
  refine lv_iload_n hx hb dL_law_907 rfl (lv_at hl 0 rfl) ?_
  refine lv_iconst (v := iI 1) hx hb dL_law_908 rfl ?_
  refine gi_add (z := (7 * (t : Int) + 1)) hx hb dL_law_909 rfl ?_
  refine g_sld (i := 7 * t + 1) C hX hbl hbA hS (by omega) (by omega) (by omega) dL_law_910 ?_
  refine lv_aload_n hx hb dL_law_911 rfl (lv_at hl 3 rfl) ?_
  refine lv_iload_n hx hb dL_law_912 rfl (lv_at hl 0 rfl) ?_
  refine lv_iconst (v := iI 2) hx hb dL_law_913 rfl ?_
  refine gi_add (z := (7 * (t : Int) + 2)) hx hb dL_law_914 rfl ?_
  refine g_sld (i := 7 * t + 2) C hX hbl hbA hS (by omega) (by omega) (by omega) dL_law_915 ?_
  refine lv_aload_n hx hb dL_law_916 rfl (lv_at hl 3 rfl) ?_
  refine lv_iload_n hx hb dL_law_917 rfl (lv_at hl 0 rfl) ?_
  refine lv_iconst (v := iI 3) hx hb dL_law_918 rfl ?_
  refine gi_add (z := (7 * (t : Int) + 3)) hx hb dL_law_919 rfl ?_
  refine g_sld (i := 7 * t + 3) C hX hbl hbA hS (by omega) (by omega) (by omega) dL_law_920 ?_
  refine g_cv (As := [.int (iI (X (7 * t + 1))), .int (iI (X (7 * t + 2))), .int (iI (X (7 * t + 3)))]) (rest := []) (n := 3) C hml (y_rank l D k Am bd hDm vm fm gm (X (7 * t + 1)) (X (7 * t + 2)) (X (7 * t + 3)) (by omega) (by omega) (by omega) k_rp) mM_L_102 mI_X11_rank mE_X11_rank mN_X11 mC_X11_rank (by decide +kernel) 0 (ci := 11) rfl rfl hPm hS hAm ⟨Nat.le_of_ble_eq_true rfl, Nat.le_of_ble_eq_true rfl⟩ ⟨Nat.le_of_ble_eq_true rfl, Nat.le_of_ble_eq_true rfl⟩ hl.1 rfl rfl (Nat.le_of_ble_eq_true rfl) dL_law_921 (fun r_2 v_2 f_2 g_2 H2 locs hq_2 hPm hk_2 hS => ?_)
  replace hPx := (⟨hPx.1.kept (fun i q h => hk_2 q.1 ((hPx.1 i q h).lt) (hmx _ _ _ i q h)), hPx.2⟩ : gWd D (rwT k ad) _ _ _ H2)
  obtain ⟨z_2, w0_2, a37_2, b1_2, rfl, rfl, rfl, rfl, p0_2, p1_2, p2_2⟩ := hq_2
  show W p l e room_1 s m #[Value.ref b] below meth c _ _ 100 12380 Q (F0 m 924 ls [.int (iI z_2)])
  obtain ⟨h_st, h_z⟩ := rl_rank (a1 := (X (7 * t + 1))) (a2 := (X (7 * t + 2))) (a3 := (X (7 * t + 3))) k_st k_tm k_rn k_it k_ks k_bk k_cl k_mn k_ap k_hs k_be k_zo k_wh k_rd k_rt k_fr k_en k_ho k_hw k_wo k_ci k_an k_ah k_ad k_sq k_cd k_kd k_op k_la k_lo k_om k_oi k_ti k_h0 k_ck k_or k_wt k_wi k_sh k_bx k_rp k_bm k_tp k_ta k_fk k_fp g_cl g_mn g_rn g_ks g_ox g_tm g_wh g_fr g_la g_ti p0_1 p1_1 p2_1 p0_2 p1_2 p2_2
  refine lv_pop hx hb dL_law_924 rfl ?_
  refine lv_goto (tgt := 1080) hx hb dL_law_925 (by decide) ?_
  refine back _ _ _ _ _ _ _ _ ?_ hPx hPm hS
  exact ⟨h_st, k_tm, k_rn, k_it, k_ks, k_bk, k_cl, k_mn, k_ap, k_hs, k_be, k_zo, k_wh, k_rd, k_rt, k_fr, k_en, k_ho, k_hw, k_wo, k_ci, k_an, k_ah, k_ad, k_sq, k_cd, k_kd, k_op, k_la, k_lo, k_om, k_oi, k_ti, k_h0, k_ck, k_or, k_wt, k_wi, k_sh, k_bx, k_rp, k_bm, k_tp, k_ta, k_fk, k_fp⟩
set_option maxHeartbeats 4000000 in
set_option maxRecDepth 100000 in
theorem law_case_20 (C : gC D k p s m #[Value.ref b] c code R_law) (hml : c.maxLocals = 4) (hX : va_X b L (fun j => iI (X j)) s s.heap) (hXr : ∀ j, inR (X j)) (hbl : b < s.heap.size) (ht : 7 * t + 7 ≤ L) (hL : L ≤ 3584) (hE : gEv za (fun q : Nat => s.heap.size ≤ q) s s.heap) (hDx : rwD Ax k ad) (hDm : mdD Am k bd) (hAx : ∀ q : Nat, Ax q → s.heap.size ≤ q) (hAm : ∀ q : Nat, Am q → s.heap.size ≤ q) (hxm : ∀ (v : gV) (f g : gF) (i : Nat) (q : Nat × va_E), (mdW k bd v f g)[i]? = some q → ¬ Ax q.1) (hmx : ∀ (v : gV) (f g : gF) (i : Nat) (q : Nat × va_E), (rwW k ad v f g)[i]? = some q → ¬ Am q.1) (hI : lwI vx fx vm fm) (hPx : gWd D (rwT k ad) vx fx gx H) (hPm : gWd D (mdT k bd) vm fm gm H) (hS : va_S (fun q : Nat => s.heap.size ≤ q) s.heap H locs) (hl : lv_has ls 4 [(3, .int (iI (7 * (t : Int)))), (2, .ref (bd 0)), (1, .ref (ad 0)), (0, .ref b)]) (back : ∀ (vx vm : gV) (fx gx fm gm : gF) (H : Heap) (locs : List Loc), lwI vx fx vm fm → gWd D (rwT k ad) vx fx gx H → gWd D (mdT k bd) vm fm gm H → va_S (fun q : Nat => s.heap.size ≤ q) s.heap H locs → W p l e room_1 s m #[Value.ref b] below meth c H locs 100 12380 Q (F0 m 1080 ls [])) : W p l e room_1 s m #[Value.ref b] below meth c H locs 100 12380 Q (F0 m 928 ls []) := by
  have hx := C.1
  have hb := C.2.1
  have hbA : ¬ (fun q : Nat => s.heap.size ≤ q) b := Nat.not_le.mpr hbl
  have hT0 : 0 ≤ vx 0 ∧ vx 0 ≤ 700 := hPx.2.1 0
  have hT1 : 0 ≤ vm 2 ∧ vm 2 ≤ 700 := hPm.2.1 2
  obtain ⟨k_st, k_tm, k_rn, k_it, k_ks, k_bk, k_cl, k_mn, k_ap, k_hs, k_be, k_zo, k_wh, k_rd, k_rt, k_fr, k_en, k_ho, k_hw, k_wo, k_ci, k_an, k_ah, k_ad, k_sq, k_cd, k_kd, k_op, k_la, k_lo, k_om, k_oi, k_ti, k_h0, k_ck, k_or, k_wt, k_wi, k_sh, k_bx, k_rp, k_bm, k_tp, k_ta, k_fk, k_fp⟩ := id hI
  have g_cl : 0 ≤ (vx 21) ∧ (vx 21) ≤ 16 := hPx.2.1 21
  have g_mn : 0 ≤ (vx 23) ∧ (vx 23) ≤ 300 := hPx.2.1 23
  have g_rn : 0 ≤ (vx 1) ∧ (vx 1) ≤ 4 := hPx.2.1 1
  have g_ks : 0 ≤ (vx 3) ∧ (vx 3) ≤ 4 := hPx.2.1 3
  have g_ox : 0 ≤ (vx 22) ∧ (vx 22) ≤ 3 := hPx.2.1 22
  have g_tm : 0 ≤ (vx 26) ∧ (vx 26) ≤ 1000000 := hPx.2.1 26
  have g_wh : ∀ k, 0 ≤ (fx 20) k ∧ (fx 20) k ≤ 15 := fun k => hPx.2.2 20 k
  have g_fr : ∀ k, 0 ≤ (fx 23) k ∧ (fx 23) k ≤ 1000000 := fun k => hPx.2.2 23 k
  have g_la : ∀ k, 0 ≤ (fx 18) k ∧ (fx 18) k ≤ 3 := fun k => hPx.2.2 18 k
  have g_ti : ∀ k, 0 ≤ (fx 31) k ∧ (fx 31) k ≤ 20 := fun k => hPx.2.2 31 k
  have m_oi : OI (vm 25) (fm 24) (fm 30) (fx 27) := by have h := k_oi; rw [k_mn, k_wh, k_hw] at h; exact h
  have m_ti : TI (vm 25) (vm 24) (fm 27) (fm 28) (fm 30) := by have h := k_ti; rw [k_mn, k_tm, k_fr, k_en, k_hw] at h; exact h
  have m_wi : ∀ c, 0 ≤ c → c < (vm 22) → WI (vm 24) (fm 35) (fm 36) (fm 34) c := fun c c0 c1 => by have h := k_wi c c0 (by omega); rw [k_tm, k_wo, k_ci] at h; exact WI_ti h ((k_wt c c0 (by omega)).1 (by omega))
  have hX1 := hXr (7 * t + 1)
  have hX2 := hXr (7 * t + 2)
  have hX3 := hXr (7 * t + 3)
  have hX4 := hXr (7 * t + 4)
  have hX5 := hXr (7 * t + 5)
  have hX6 := hXr (7 * t + 6)
  refine lv_aload_n hx hb dL_law_928 rfl (lv_at hl 2 rfl) ?_
  refine lv_aload_n hx hb dL_law_929 rfl (lv_at hl 3 rfl) ?_
  refine lv_iload_n hx hb dL_law_930 rfl (lv_at hl 0 rfl) ?_
  refine lv_iconst (v := iI 1) hx hb dL_law_931 rfl ?_
  refine gi_add (z := (7 * (t : Int) + 1)) hx hb dL_law_932 rfl ?_
  refine g_sld (i := 7 * t + 1) C hX hbl hbA hS (by omega) (by omega) (by omega) dL_law_933 ?_
  refine lv_aload_n hx hb dL_law_934 rfl (lv_at hl 3 rfl) ?_
  refine lv_iload_n hx hb dL_law_935 rfl (lv_at hl 0 rfl) ?_
  refine lv_iconst (v := iI 2) hx hb dL_law_936 rfl ?_
  refine gi_add (z := (7 * (t : Int) + 2)) hx hb dL_law_937 rfl ?_
  refine g_sld (i := 7 * t + 2) C hX hbl hbA hS (by omega) (by omega) (by omega) dL_law_938 ?_
  refine g_cv (As := [.int (iI (X (7 * t + 1))), .int (iI (X (7 * t + 2)))]) (rest := []) (n := 2) C hml (x_Ro_advance l D k Ax ad hDx vx fx gx (X (7 * t + 1)) (X (7 * t + 2)) (by omega) (by omega) k_sh) mM_L_103 mI_X10_advance mE_X10_advance mN_X10 mC_X10_advance (by decide +kernel) 0 (ci := 10) rfl rfl hPx hS hAx ⟨Nat.le_of_ble_eq_true rfl, Nat.le_of_ble_eq_true rfl⟩ ⟨Nat.le_of_ble_eq_true rfl, Nat.le_of_ble_eq_true rfl⟩ hl.1 rfl rfl (Nat.le_of_ble_eq_true rfl) dL_law_939 (fun r_1 v_1 f_1 g_1 H1 locs hq_1 hPx hk_1 hS => ?_)
  replace hPm : gWd D (mdT k bd) vm fm gm H1 := ⟨hPm.1.kept (fun i q h => hk_1 q.1 ((hPm.1 i q h).lt) (hxm _ _ _ i q h)), hPm.2⟩
  obtain ⟨z_1, w25_1, a19_1, a34_1, a35_1, a36_1, a37_1, a38_1, a39_1, a41_1, b0_1, b2_1, b3_1, rfl, rfl, rfl, rfl, p0_1, p1_1, p2_1⟩ := hq_1
  show W p l e room_1 s m #[Value.ref b] below meth c _ _ 100 12380 Q (F0 m 942 ls [.int (iI z_1)])
  refine lv_pop hx hb dL_law_942 rfl ?_
  refine lv_aload_n hx hb dL_law_943 rfl (lv_at hl 1 rfl) ?_
  refine lv_aload_n hx hb dL_law_944 rfl (lv_at hl 3 rfl) ?_
  refine lv_iload_n hx hb dL_law_945 rfl (lv_at hl 0 rfl) ?_
  refine lv_iconst (v := iI 1) hx hb dL_law_946 rfl ?_
  refine gi_add (z := (7 * (t : Int) + 1)) hx hb dL_law_947 rfl ?_
  refine g_sld (i := 7 * t + 1) C hX hbl hbA hS (by omega) (by omega) (by omega) dL_law_948 ?_
  refine lv_aload_n hx hb dL_law_949 rfl (lv_at hl 3 rfl) ?_
  refine lv_iload_n hx hb dL_law_950 rfl (lv_at hl 0 rfl) ?_
  refine lv_iconst (v := iI 2) hx hb dL_law_951 rfl ?_
  refine gi_add (z := (7 * (t : Int) + 2)) hx hb dL_law_952 rfl ?_
  refine g_sld (i := 7 * t + 2) C hX hbl hbA hS (by omega) (by omega) (by omega) dL_law_953 ?_
  refine g_cv (As := [.int (iI (X (7 * t + 1))), .int (iI (X (7 * t + 2)))]) (rest := []) (n := 2) C hml (y_advance l D k Am bd hDm vm fm gm (X (7 * t + 1)) (X (7 * t + 2)) (fx 27) (by omega) (by omega) k_rp m_oi) mM_L_106 mI_X11_advance mE_X11_advance mN_X11 mC_X11_advance (by decide +kernel) 0 (ci := 11) rfl rfl hPm hS hAm ⟨Nat.le_of_ble_eq_true rfl, Nat.le_of_ble_eq_true rfl⟩ ⟨Nat.le_of_ble_eq_true rfl, Nat.le_of_ble_eq_true rfl⟩ hl.1 rfl rfl (Nat.le_of_ble_eq_true rfl) dL_law_954 (fun r_2 v_2 f_2 g_2 H2 locs hq_2 hPm hk_2 hS => ?_)
  replace hPx := (⟨hPx.1.kept (fun i q h => hk_2 q.1 ((hPx.1 i q h).lt) (hmx _ _ _ i q h)), hPx.2⟩ : gWd D (rwT k ad) _ _ _ H2)
  obtain ⟨z_2, w0_2, a37_2, a38_2, a22_2, a34_2, b1_2, rfl, rfl, rfl, rfl, p0_2, p1_2, p2_2, p3_2⟩ := hq_2
  show W p l e room_1 s m #[Value.ref b] below meth c _ _ 100 12380 Q (F0 m 957 ls [.int (iI z_2)])
  obtain ⟨h_st, h_op, h_la, h_lo, h_om, h_h0, h_or, h_wt, h_wi, h_z⟩ := rl_advance (a1 := (X (7 * t + 1))) (a2 := (X (7 * t + 2))) k_st k_tm k_rn k_it k_ks k_bk k_cl k_mn k_ap k_hs k_be k_zo k_wh k_rd k_rt k_fr k_en k_ho k_hw k_wo k_ci k_an k_ah k_ad k_sq k_cd k_kd k_op k_la k_lo k_om k_oi k_ti k_h0 k_ck k_or k_wt k_wi k_sh k_bx k_rp k_bm k_tp k_ta k_fk k_fp g_cl g_mn g_rn g_ks g_ox g_tm g_wh g_fr g_la g_ti p0_1 p1_1 p2_1 p0_2 p1_2 p2_2 p3_2
  refine lv_pop hx hb dL_law_957 rfl ?_
  refine lv_goto (tgt := 1080) hx hb dL_law_958 (by decide) ?_
  refine back _ _ _ _ _ _ _ _ ?_ hPx hPm hS
  exact ⟨h_st, k_tm, k_rn, k_it, k_ks, k_bk, k_cl, k_mn, k_ap, k_hs, k_be, k_zo, k_wh, k_rd, k_rt, k_fr, k_en, k_ho, k_hw, k_wo, k_ci, k_an, k_ah, k_ad, k_sq, k_cd, k_kd, h_op, h_la, h_lo, h_om, k_oi, k_ti, h_h0, k_ck, h_or, h_wt, h_wi, k_sh, k_bx, k_rp, k_bm, k_tp, k_ta, k_fk, k_fp⟩
set_option maxHeartbeats 4000000 in
set_option maxRecDepth 100000 in
theorem law_case_21 (C : gC D k p s m #[Value.ref b] c code R_law) (hml : c.maxLocals = 4) (hX : va_X b L (fun j => iI (X j)) s s.heap) (hXr : ∀ j, inR (X j)) (hbl : b < s.heap.size) (ht : 7 * t + 7 ≤ L) (hL : L ≤ 3584) (hE : gEv za (fun q : Nat => s.heap.size ≤ q) s s.heap) (hDx : rwD Ax k ad) (hDm : mdD Am k bd) (hAx : ∀ q : Nat, Ax q → s.heap.size ≤ q) (hAm : ∀ q : Nat, Am q → s.heap.size ≤ q) (hxm : ∀ (v : gV) (f g : gF) (i : Nat) (q : Nat × va_E), (mdW k bd v f g)[i]? = some q → ¬ Ax q.1) (hmx : ∀ (v : gV) (f g : gF) (i : Nat) (q : Nat × va_E), (rwW k ad v f g)[i]? = some q → ¬ Am q.1) (hI : lwI vx fx vm fm) (hPx : gWd D (rwT k ad) vx fx gx H) (hPm : gWd D (mdT k bd) vm fm gm H) (hS : va_S (fun q : Nat => s.heap.size ≤ q) s.heap H locs) (hl : lv_has ls 4 [(3, .int (iI (7 * (t : Int)))), (2, .ref (bd 0)), (1, .ref (ad 0)), (0, .ref b)]) (back : ∀ (vx vm : gV) (fx gx fm gm : gF) (H : Heap) (locs : List Loc), lwI vx fx vm fm → gWd D (rwT k ad) vx fx gx H → gWd D (mdT k bd) vm fm gm H → va_S (fun q : Nat => s.heap.size ≤ q) s.heap H locs → W p l e room_1 s m #[Value.ref b] below meth c H locs 100 12380 Q (F0 m 1080 ls [])) : W p l e room_1 s m #[Value.ref b] below meth c H locs 100 12380 Q (F0 m 961 ls []) := by
  have hx := C.1
  have hb := C.2.1
  have hbA : ¬ (fun q : Nat => s.heap.size ≤ q) b := Nat.not_le.mpr hbl
  have hT0 : 0 ≤ vx 0 ∧ vx 0 ≤ 700 := hPx.2.1 0
  have hT1 : 0 ≤ vm 2 ∧ vm 2 ≤ 700 := hPm.2.1 2
  obtain ⟨k_st, k_tm, k_rn, k_it, k_ks, k_bk, k_cl, k_mn, k_ap, k_hs, k_be, k_zo, k_wh, k_rd, k_rt, k_fr, k_en, k_ho, k_hw, k_wo, k_ci, k_an, k_ah, k_ad, k_sq, k_cd, k_kd, k_op, k_la, k_lo, k_om, k_oi, k_ti, k_h0, k_ck, k_or, k_wt, k_wi, k_sh, k_bx, k_rp, k_bm, k_tp, k_ta, k_fk, k_fp⟩ := id hI
  have g_cl : 0 ≤ (vx 21) ∧ (vx 21) ≤ 16 := hPx.2.1 21
  have g_mn : 0 ≤ (vx 23) ∧ (vx 23) ≤ 300 := hPx.2.1 23
  have g_rn : 0 ≤ (vx 1) ∧ (vx 1) ≤ 4 := hPx.2.1 1
  have g_ks : 0 ≤ (vx 3) ∧ (vx 3) ≤ 4 := hPx.2.1 3
  have g_ox : 0 ≤ (vx 22) ∧ (vx 22) ≤ 3 := hPx.2.1 22
  have g_tm : 0 ≤ (vx 26) ∧ (vx 26) ≤ 1000000 := hPx.2.1 26
  have g_wh : ∀ k, 0 ≤ (fx 20) k ∧ (fx 20) k ≤ 15 := fun k => hPx.2.2 20 k
  have g_fr : ∀ k, 0 ≤ (fx 23) k ∧ (fx 23) k ≤ 1000000 := fun k => hPx.2.2 23 k
  have g_la : ∀ k, 0 ≤ (fx 18) k ∧ (fx 18) k ≤ 3 := fun k => hPx.2.2 18 k
  have g_ti : ∀ k, 0 ≤ (fx 31) k ∧ (fx 31) k ≤ 20 := fun k => hPx.2.2 31 k
  have m_oi : OI (vm 25) (fm 24) (fm 30) (fx 27) := by have h := k_oi; rw [k_mn, k_wh, k_hw] at h; exact h
  have m_ti : TI (vm 25) (vm 24) (fm 27) (fm 28) (fm 30) := by have h := k_ti; rw [k_mn, k_tm, k_fr, k_en, k_hw] at h; exact h
  have m_wi : ∀ c, 0 ≤ c → c < (vm 22) → WI (vm 24) (fm 35) (fm 36) (fm 34) c := fun c c0 c1 => by have h := k_wi c c0 (by omega); rw [k_tm, k_wo, k_ci] at h; exact WI_ti h ((k_wt c c0 (by omega)).1 (by omega))
  have hX1 := hXr (7 * t + 1)
  have hX2 := hXr (7 * t + 2)
  have hX3 := hXr (7 * t + 3)
  have hX4 := hXr (7 * t + 4)
  have hX5 := hXr (7 * t + 5)
  have hX6 := hXr (7 * t + 6)
  refine lv_aload_n hx hb dL_law_961 rfl (lv_at hl 2 rfl) ?_
  refine lv_aload_n hx hb dL_law_962 rfl (lv_at hl 3 rfl) ?_
  refine lv_iload_n hx hb dL_law_963 rfl (lv_at hl 0 rfl) ?_
  refine lv_iconst (v := iI 1) hx hb dL_law_964 rfl ?_
  refine gi_add (z := (7 * (t : Int) + 1)) hx hb dL_law_965 rfl ?_
  refine g_sld (i := 7 * t + 1) C hX hbl hbA hS (by omega) (by omega) (by omega) dL_law_966 ?_
  refine lv_aload_n hx hb dL_law_967 rfl (lv_at hl 3 rfl) ?_
  refine lv_iload_n hx hb dL_law_968 rfl (lv_at hl 0 rfl) ?_
  refine lv_iconst (v := iI 2) hx hb dL_law_969 rfl ?_
  refine gi_add (z := (7 * (t : Int) + 2)) hx hb dL_law_970 rfl ?_
  refine g_sld (i := 7 * t + 2) C hX hbl hbA hS (by omega) (by omega) (by omega) dL_law_971 ?_
  refine g_cv (As := [.int (iI (X (7 * t + 1))), .int (iI (X (7 * t + 2)))]) (rest := []) (n := 2) C hml (x_Ro_order l D k Ax ad hDx vx fx gx (X (7 * t + 1)) (X (7 * t + 2)) (by omega) (by omega) k_sh) mM_L_107 mI_X10_order mE_X10_order mN_X10 mC_X10_order (by decide +kernel) 0 (ci := 10) rfl rfl hPx hS hAx ⟨Nat.le_of_ble_eq_true rfl, Nat.le_of_ble_eq_true rfl⟩ ⟨Nat.le_of_ble_eq_true rfl, Nat.le_of_ble_eq_true rfl⟩ hl.1 rfl rfl (Nat.le_of_ble_eq_true rfl) dL_law_972 (fun r_1 v_1 f_1 g_1 H1 locs hq_1 hPx hk_1 hS => ?_)
  replace hPm : gWd D (mdT k bd) vm fm gm H1 := ⟨hPm.1.kept (fun i q h => hk_1 q.1 ((hPm.1 i q h).lt) (hxm _ _ _ i q h)), hPm.2⟩
  obtain ⟨z_1, w25_1, a34_1, a35_1, a36_1, a37_1, a38_1, a39_1, a41_1, b0_1, b2_1, b3_1, rfl, rfl, rfl, rfl, p0_1, p1_1⟩ := hq_1
  show W p l e room_1 s m #[Value.ref b] below meth c _ _ 100 12380 Q (F0 m 975 ls [.int (iI z_1)])
  refine lv_pop hx hb dL_law_975 rfl ?_
  refine lv_aload_n hx hb dL_law_976 rfl (lv_at hl 1 rfl) ?_
  refine lv_aload_n hx hb dL_law_977 rfl (lv_at hl 3 rfl) ?_
  refine lv_iload_n hx hb dL_law_978 rfl (lv_at hl 0 rfl) ?_
  refine lv_iconst (v := iI 1) hx hb dL_law_979 rfl ?_
  refine gi_add (z := (7 * (t : Int) + 1)) hx hb dL_law_980 rfl ?_
  refine g_sld (i := 7 * t + 1) C hX hbl hbA hS (by omega) (by omega) (by omega) dL_law_981 ?_
  refine lv_aload_n hx hb dL_law_982 rfl (lv_at hl 3 rfl) ?_
  refine lv_iload_n hx hb dL_law_983 rfl (lv_at hl 0 rfl) ?_
  refine lv_iconst (v := iI 2) hx hb dL_law_984 rfl ?_
  refine gi_add (z := (7 * (t : Int) + 2)) hx hb dL_law_985 rfl ?_
  refine g_sld (i := 7 * t + 2) C hX hbl hbA hS (by omega) (by omega) (by omega) dL_law_986 ?_
  refine g_cv (As := [.int (iI (X (7 * t + 1))), .int (iI (X (7 * t + 2)))]) (rest := []) (n := 2) C hml (y_order l D k Am bd hDm vm fm gm (X (7 * t + 1)) (X (7 * t + 2)) (by omega) (by omega)) mM_L_110 mI_X11_order mE_X11_order mN_X11 mC_X11_order (by decide +kernel) 0 (ci := 11) rfl rfl hPm hS hAm ⟨Nat.le_of_ble_eq_true rfl, Nat.le_of_ble_eq_true rfl⟩ ⟨Nat.le_of_ble_eq_true rfl, Nat.le_of_ble_eq_true rfl⟩ hl.1 rfl rfl (Nat.le_of_ble_eq_true rfl) dL_law_987 (fun r_2 v_2 f_2 g_2 H2 locs hq_2 hPm hk_2 hS => ?_)
  replace hPx := (⟨hPx.1.kept (fun i q h => hk_2 q.1 ((hPx.1 i q h).lt) (hmx _ _ _ i q h)), hPx.2⟩ : gWd D (rwT k ad) _ _ _ H2)
  obtain ⟨z_2, w0_2, rfl, rfl, rfl, rfl, p0_2, p1_2⟩ := hq_2
  show W p l e room_1 s m #[Value.ref b] below meth c _ _ 100 12380 Q (F0 m 990 ls [.int (iI z_2)])
  have h_st := rl_order (a1 := (X (7 * t + 1))) (a2 := (X (7 * t + 2))) k_st k_tm k_rn k_it k_ks k_bk k_cl k_mn k_ap k_hs k_be k_zo k_wh k_rd k_rt k_fr k_en k_ho k_hw k_wo k_ci k_an k_ah k_ad k_sq k_cd k_kd k_op k_la k_lo k_om k_oi k_ti k_h0 k_ck k_or k_wt k_wi k_sh k_bx k_rp k_bm k_tp k_ta k_fk k_fp g_cl g_mn g_rn g_ks g_ox g_tm g_wh g_fr g_la g_ti p0_1 p1_1 p0_2 p1_2
  refine lv_pop hx hb dL_law_990 rfl ?_
  refine lv_goto (tgt := 1080) hx hb dL_law_991 (by decide) ?_
  refine back _ _ _ _ _ _ _ _ ?_ hPx hPm hS
  exact ⟨h_st, k_tm, k_rn, k_it, k_ks, k_bk, k_cl, k_mn, k_ap, k_hs, k_be, k_zo, k_wh, k_rd, k_rt, k_fr, k_en, k_ho, k_hw, k_wo, k_ci, k_an, k_ah, k_ad, k_sq, k_cd, k_kd, k_op, k_la, k_lo, k_om, k_oi, k_ti, k_h0, k_ck, k_or, k_wt, k_wi, k_sh, k_bx, k_rp, k_bm, k_tp, k_ta, k_fk, k_fp⟩
set_option maxHeartbeats 4000000 in
set_option maxRecDepth 100000 in
theorem law_case_22 (C : gC D k p s m #[Value.ref b] c code R_law) (hml : c.maxLocals = 4) (hX : va_X b L (fun j => iI (X j)) s s.heap) (hXr : ∀ j, inR (X j)) (hbl : b < s.heap.size) (ht : 7 * t + 7 ≤ L) (hL : L ≤ 3584) (hE : gEv za (fun q : Nat => s.heap.size ≤ q) s s.heap) (hDx : rwD Ax k ad) (hDm : mdD Am k bd) (hAx : ∀ q : Nat, Ax q → s.heap.size ≤ q) (hAm : ∀ q : Nat, Am q → s.heap.size ≤ q) (hxm : ∀ (v : gV) (f g : gF) (i : Nat) (q : Nat × va_E), (mdW k bd v f g)[i]? = some q → ¬ Ax q.1) (hmx : ∀ (v : gV) (f g : gF) (i : Nat) (q : Nat × va_E), (rwW k ad v f g)[i]? = some q → ¬ Am q.1) (hI : lwI vx fx vm fm) (hPx : gWd D (rwT k ad) vx fx gx H) (hPm : gWd D (mdT k bd) vm fm gm H) (hS : va_S (fun q : Nat => s.heap.size ≤ q) s.heap H locs) (hl : lv_has ls 4 [(3, .int (iI (7 * (t : Int)))), (2, .ref (bd 0)), (1, .ref (ad 0)), (0, .ref b)]) (back : ∀ (vx vm : gV) (fx gx fm gm : gF) (H : Heap) (locs : List Loc), lwI vx fx vm fm → gWd D (rwT k ad) vx fx gx H → gWd D (mdT k bd) vm fm gm H → va_S (fun q : Nat => s.heap.size ≤ q) s.heap H locs → W p l e room_1 s m #[Value.ref b] below meth c H locs 100 12380 Q (F0 m 1080 ls [])) : W p l e room_1 s m #[Value.ref b] below meth c H locs 100 12380 Q (F0 m 994 ls []) := by
  have hx := C.1
  have hb := C.2.1
  have hbA : ¬ (fun q : Nat => s.heap.size ≤ q) b := Nat.not_le.mpr hbl
  have hT0 : 0 ≤ vx 0 ∧ vx 0 ≤ 700 := hPx.2.1 0
  have hT1 : 0 ≤ vm 2 ∧ vm 2 ≤ 700 := hPm.2.1 2
  obtain ⟨k_st, k_tm, k_rn, k_it, k_ks, k_bk, k_cl, k_mn, k_ap, k_hs, k_be, k_zo, k_wh, k_rd, k_rt, k_fr, k_en, k_ho, k_hw, k_wo, k_ci, k_an, k_ah, k_ad, k_sq, k_cd, k_kd, k_op, k_la, k_lo, k_om, k_oi, k_ti, k_h0, k_ck, k_or, k_wt, k_wi, k_sh, k_bx, k_rp, k_bm, k_tp, k_ta, k_fk, k_fp⟩ := id hI
  have g_cl : 0 ≤ (vx 21) ∧ (vx 21) ≤ 16 := hPx.2.1 21
  have g_mn : 0 ≤ (vx 23) ∧ (vx 23) ≤ 300 := hPx.2.1 23
  have g_rn : 0 ≤ (vx 1) ∧ (vx 1) ≤ 4 := hPx.2.1 1
  have g_ks : 0 ≤ (vx 3) ∧ (vx 3) ≤ 4 := hPx.2.1 3
  have g_ox : 0 ≤ (vx 22) ∧ (vx 22) ≤ 3 := hPx.2.1 22
  have g_tm : 0 ≤ (vx 26) ∧ (vx 26) ≤ 1000000 := hPx.2.1 26
  have g_wh : ∀ k, 0 ≤ (fx 20) k ∧ (fx 20) k ≤ 15 := fun k => hPx.2.2 20 k
  have g_fr : ∀ k, 0 ≤ (fx 23) k ∧ (fx 23) k ≤ 1000000 := fun k => hPx.2.2 23 k
  have g_la : ∀ k, 0 ≤ (fx 18) k ∧ (fx 18) k ≤ 3 := fun k => hPx.2.2 18 k
  have g_ti : ∀ k, 0 ≤ (fx 31) k ∧ (fx 31) k ≤ 20 := fun k => hPx.2.2 31 k
  have m_oi : OI (vm 25) (fm 24) (fm 30) (fx 27) := by have h := k_oi; rw [k_mn, k_wh, k_hw] at h; exact h
  have m_ti : TI (vm 25) (vm 24) (fm 27) (fm 28) (fm 30) := by have h := k_ti; rw [k_mn, k_tm, k_fr, k_en, k_hw] at h; exact h
  have m_wi : ∀ c, 0 ≤ c → c < (vm 22) → WI (vm 24) (fm 35) (fm 36) (fm 34) c := fun c c0 c1 => by have h := k_wi c c0 (by omega); rw [k_tm, k_wo, k_ci] at h; exact WI_ti h ((k_wt c c0 (by omega)).1 (by omega))
  have hX1 := hXr (7 * t + 1)
  have hX2 := hXr (7 * t + 2)
  have hX3 := hXr (7 * t + 3)
  have hX4 := hXr (7 * t + 4)
  have hX5 := hXr (7 * t + 5)
  have hX6 := hXr (7 * t + 6)
  refine lv_aload_n hx hb dL_law_994 rfl (lv_at hl 2 rfl) ?_
  refine lv_aload_n hx hb dL_law_995 rfl (lv_at hl 3 rfl) ?_
  refine lv_iload_n hx hb dL_law_996 rfl (lv_at hl 0 rfl) ?_
  refine lv_iconst (v := iI 1) hx hb dL_law_997 rfl ?_
  refine gi_add (z := (7 * (t : Int) + 1)) hx hb dL_law_998 rfl ?_
  refine g_sld (i := 7 * t + 1) C hX hbl hbA hS (by omega) (by omega) (by omega) dL_law_999 ?_
  refine lv_aload_n hx hb dL_law_1000 rfl (lv_at hl 3 rfl) ?_
  refine lv_iload_n hx hb dL_law_1001 rfl (lv_at hl 0 rfl) ?_
  refine lv_iconst (v := iI 2) hx hb dL_law_1002 rfl ?_
  refine gi_add (z := (7 * (t : Int) + 2)) hx hb dL_law_1003 rfl ?_
  refine g_sld (i := 7 * t + 2) C hX hbl hbA hS (by omega) (by omega) (by omega) dL_law_1004 ?_
  refine lv_aload_n hx hb dL_law_1005 rfl (lv_at hl 3 rfl) ?_
  refine lv_iload_n hx hb dL_law_1006 rfl (lv_at hl 0 rfl) ?_
  refine lv_iconst (v := iI 3) hx hb dL_law_1007 rfl ?_
  refine gi_add (z := (7 * (t : Int) + 3)) hx hb dL_law_1008 rfl ?_
  refine g_sld (i := 7 * t + 3) C hX hbl hbA hS (by omega) (by omega) (by omega) dL_law_1009 ?_
  refine g_cv (As := [.int (iI (X (7 * t + 1))), .int (iI (X (7 * t + 2))), .int (iI (X (7 * t + 3)))]) (rest := []) (n := 3) C hml (x_Ro_parts l D k Ax ad hDx vx fx gx (X (7 * t + 1)) (X (7 * t + 2)) (X (7 * t + 3)) (by omega) (by omega) (by omega) k_sh) mM_L_111 mI_X10_parts mE_X10_parts mN_X10 mC_X10_parts (by decide +kernel) 0 (ci := 10) rfl rfl hPx hS hAx ⟨Nat.le_of_ble_eq_true rfl, Nat.le_of_ble_eq_true rfl⟩ ⟨Nat.le_of_ble_eq_true rfl, Nat.le_of_ble_eq_true rfl⟩ hl.1 rfl rfl (Nat.le_of_ble_eq_true rfl) dL_law_1010 (fun r_1 v_1 f_1 g_1 H1 locs hq_1 hPx hk_1 hS => ?_)
  replace hPm : gWd D (mdT k bd) vm fm gm H1 := ⟨hPm.1.kept (fun i q h => hk_1 q.1 ((hPm.1 i q h).lt) (hxm _ _ _ i q h)), hPm.2⟩
  obtain ⟨z_1, w25_1, a34_1, a35_1, a36_1, a37_1, a38_1, a39_1, a40_1, b0_1, rfl, rfl, rfl, rfl, p0_1, p1_1, p2_1⟩ := hq_1
  show W p l e room_1 s m #[Value.ref b] below meth c _ _ 100 12380 Q (F0 m 1013 ls [.int (iI z_1)])
  refine lv_pop hx hb dL_law_1013 rfl ?_
  refine lv_aload_n hx hb dL_law_1014 rfl (lv_at hl 1 rfl) ?_
  refine lv_aload_n hx hb dL_law_1015 rfl (lv_at hl 3 rfl) ?_
  refine lv_iload_n hx hb dL_law_1016 rfl (lv_at hl 0 rfl) ?_
  refine lv_iconst (v := iI 1) hx hb dL_law_1017 rfl ?_
  refine gi_add (z := (7 * (t : Int) + 1)) hx hb dL_law_1018 rfl ?_
  refine g_sld (i := 7 * t + 1) C hX hbl hbA hS (by omega) (by omega) (by omega) dL_law_1019 ?_
  refine lv_aload_n hx hb dL_law_1020 rfl (lv_at hl 3 rfl) ?_
  refine lv_iload_n hx hb dL_law_1021 rfl (lv_at hl 0 rfl) ?_
  refine lv_iconst (v := iI 2) hx hb dL_law_1022 rfl ?_
  refine gi_add (z := (7 * (t : Int) + 2)) hx hb dL_law_1023 rfl ?_
  refine g_sld (i := 7 * t + 2) C hX hbl hbA hS (by omega) (by omega) (by omega) dL_law_1024 ?_
  refine lv_aload_n hx hb dL_law_1025 rfl (lv_at hl 3 rfl) ?_
  refine lv_iload_n hx hb dL_law_1026 rfl (lv_at hl 0 rfl) ?_
  refine lv_iconst (v := iI 3) hx hb dL_law_1027 rfl ?_
  refine gi_add (z := (7 * (t : Int) + 3)) hx hb dL_law_1028 rfl ?_
  refine g_sld (i := 7 * t + 3) C hX hbl hbA hS (by omega) (by omega) (by omega) dL_law_1029 ?_
  refine g_cv (As := [.int (iI (X (7 * t + 1))), .int (iI (X (7 * t + 2))), .int (iI (X (7 * t + 3)))]) (rest := []) (n := 3) C hml (y_parts l D k Am bd hDm vm fm gm (X (7 * t + 1)) (X (7 * t + 2)) (X (7 * t + 3)) (by omega) (by omega) (by omega) k_rp) mM_L_114 mI_X11_parts mE_X11_parts mN_X11 mC_X11_parts (by decide +kernel) 0 (ci := 11) rfl rfl hPm hS hAm ⟨Nat.le_of_ble_eq_true rfl, Nat.le_of_ble_eq_true rfl⟩ ⟨Nat.le_of_ble_eq_true rfl, Nat.le_of_ble_eq_true rfl⟩ hl.1 rfl rfl (Nat.le_of_ble_eq_true rfl) dL_law_1030 (fun r_2 v_2 f_2 g_2 H2 locs hq_2 hPm hk_2 hS => ?_)
  replace hPx := (⟨hPx.1.kept (fun i q h => hk_2 q.1 ((hPx.1 i q h).lt) (hmx _ _ _ i q h)), hPx.2⟩ : gWd D (rwT k ad) _ _ _ H2)
  obtain ⟨z_2, w0_2, a37_2, b1_2, b2_2, rfl, rfl, rfl, rfl, p0_2, p1_2, p2_2⟩ := hq_2
  show W p l e room_1 s m #[Value.ref b] below meth c _ _ 100 12380 Q (F0 m 1033 ls [.int (iI z_2)])
  obtain ⟨h_st, h_z⟩ := rl_parts (a1 := (X (7 * t + 1))) (a2 := (X (7 * t + 2))) (a3 := (X (7 * t + 3))) k_st k_tm k_rn k_it k_ks k_bk k_cl k_mn k_ap k_hs k_be k_zo k_wh k_rd k_rt k_fr k_en k_ho k_hw k_wo k_ci k_an k_ah k_ad k_sq k_cd k_kd k_op k_la k_lo k_om k_oi k_ti k_h0 k_ck k_or k_wt k_wi k_sh k_bx k_rp k_bm k_tp k_ta k_fk k_fp g_cl g_mn g_rn g_ks g_ox g_tm g_wh g_fr g_la g_ti p0_1 p1_1 p2_1 p0_2 p1_2 p2_2
  refine lv_pop hx hb dL_law_1033 rfl ?_
  refine lv_goto (tgt := 1080) hx hb dL_law_1034 (by decide) ?_
  refine back _ _ _ _ _ _ _ _ ?_ hPx hPm hS
  exact ⟨h_st, k_tm, k_rn, k_it, k_ks, k_bk, k_cl, k_mn, k_ap, k_hs, k_be, k_zo, k_wh, k_rd, k_rt, k_fr, k_en, k_ho, k_hw, k_wo, k_ci, k_an, k_ah, k_ad, k_sq, k_cd, k_kd, k_op, k_la, k_lo, k_om, k_oi, k_ti, k_h0, k_ck, k_or, k_wt, k_wi, k_sh, k_bx, k_rp, k_bm, k_tp, k_ta, k_fk, k_fp⟩
set_option maxHeartbeats 4000000 in
set_option maxRecDepth 100000 in
theorem law_case_23 (C : gC D k p s m #[Value.ref b] c code R_law) (hml : c.maxLocals = 4) (hX : va_X b L (fun j => iI (X j)) s s.heap) (hXr : ∀ j, inR (X j)) (hbl : b < s.heap.size) (ht : 7 * t + 7 ≤ L) (hL : L ≤ 3584) (hE : gEv za (fun q : Nat => s.heap.size ≤ q) s s.heap) (hDx : rwD Ax k ad) (hDm : mdD Am k bd) (hAx : ∀ q : Nat, Ax q → s.heap.size ≤ q) (hAm : ∀ q : Nat, Am q → s.heap.size ≤ q) (hxm : ∀ (v : gV) (f g : gF) (i : Nat) (q : Nat × va_E), (mdW k bd v f g)[i]? = some q → ¬ Ax q.1) (hmx : ∀ (v : gV) (f g : gF) (i : Nat) (q : Nat × va_E), (rwW k ad v f g)[i]? = some q → ¬ Am q.1) (hI : lwI vx fx vm fm) (hPx : gWd D (rwT k ad) vx fx gx H) (hPm : gWd D (mdT k bd) vm fm gm H) (hS : va_S (fun q : Nat => s.heap.size ≤ q) s.heap H locs) (hl : lv_has ls 4 [(3, .int (iI (7 * (t : Int)))), (2, .ref (bd 0)), (1, .ref (ad 0)), (0, .ref b)]) (back : ∀ (vx vm : gV) (fx gx fm gm : gF) (H : Heap) (locs : List Loc), lwI vx fx vm fm → gWd D (rwT k ad) vx fx gx H → gWd D (mdT k bd) vm fm gm H → va_S (fun q : Nat => s.heap.size ≤ q) s.heap H locs → W p l e room_1 s m #[Value.ref b] below meth c H locs 100 12380 Q (F0 m 1080 ls [])) : W p l e room_1 s m #[Value.ref b] below meth c H locs 100 12380 Q (F0 m 1037 ls []) := by
  have hx := C.1
  have hb := C.2.1
  have hbA : ¬ (fun q : Nat => s.heap.size ≤ q) b := Nat.not_le.mpr hbl
  have hT0 : 0 ≤ vx 0 ∧ vx 0 ≤ 700 := hPx.2.1 0
  have hT1 : 0 ≤ vm 2 ∧ vm 2 ≤ 700 := hPm.2.1 2
  obtain ⟨k_st, k_tm, k_rn, k_it, k_ks, k_bk, k_cl, k_mn, k_ap, k_hs, k_be, k_zo, k_wh, k_rd, k_rt, k_fr, k_en, k_ho, k_hw, k_wo, k_ci, k_an, k_ah, k_ad, k_sq, k_cd, k_kd, k_op, k_la, k_lo, k_om, k_oi, k_ti, k_h0, k_ck, k_or, k_wt, k_wi, k_sh, k_bx, k_rp, k_bm, k_tp, k_ta, k_fk, k_fp⟩ := id hI
  have g_cl : 0 ≤ (vx 21) ∧ (vx 21) ≤ 16 := hPx.2.1 21
  have g_mn : 0 ≤ (vx 23) ∧ (vx 23) ≤ 300 := hPx.2.1 23
  have g_rn : 0 ≤ (vx 1) ∧ (vx 1) ≤ 4 := hPx.2.1 1
  have g_ks : 0 ≤ (vx 3) ∧ (vx 3) ≤ 4 := hPx.2.1 3
  have g_ox : 0 ≤ (vx 22) ∧ (vx 22) ≤ 3 := hPx.2.1 22
  have g_tm : 0 ≤ (vx 26) ∧ (vx 26) ≤ 1000000 := hPx.2.1 26
  have g_wh : ∀ k, 0 ≤ (fx 20) k ∧ (fx 20) k ≤ 15 := fun k => hPx.2.2 20 k
  have g_fr : ∀ k, 0 ≤ (fx 23) k ∧ (fx 23) k ≤ 1000000 := fun k => hPx.2.2 23 k
  have g_la : ∀ k, 0 ≤ (fx 18) k ∧ (fx 18) k ≤ 3 := fun k => hPx.2.2 18 k
  have g_ti : ∀ k, 0 ≤ (fx 31) k ∧ (fx 31) k ≤ 20 := fun k => hPx.2.2 31 k
  have m_oi : OI (vm 25) (fm 24) (fm 30) (fx 27) := by have h := k_oi; rw [k_mn, k_wh, k_hw] at h; exact h
  have m_ti : TI (vm 25) (vm 24) (fm 27) (fm 28) (fm 30) := by have h := k_ti; rw [k_mn, k_tm, k_fr, k_en, k_hw] at h; exact h
  have m_wi : ∀ c, 0 ≤ c → c < (vm 22) → WI (vm 24) (fm 35) (fm 36) (fm 34) c := fun c c0 c1 => by have h := k_wi c c0 (by omega); rw [k_tm, k_wo, k_ci] at h; exact WI_ti h ((k_wt c c0 (by omega)).1 (by omega))
  have hX1 := hXr (7 * t + 1)
  have hX2 := hXr (7 * t + 2)
  have hX3 := hXr (7 * t + 3)
  have hX4 := hXr (7 * t + 4)
  have hX5 := hXr (7 * t + 5)
  have hX6 := hXr (7 * t + 6)
  refine lv_aload_n hx hb dL_law_1037 rfl (lv_at hl 2 rfl) ?_
  refine lv_aload_n hx hb dL_law_1038 rfl (lv_at hl 3 rfl) ?_
  refine lv_iload_n hx hb dL_law_1039 rfl (lv_at hl 0 rfl) ?_
  refine lv_iconst (v := iI 1) hx hb dL_law_1040 rfl ?_
  refine gi_add (z := (7 * (t : Int) + 1)) hx hb dL_law_1041 rfl ?_
  refine g_sld (i := 7 * t + 1) C hX hbl hbA hS (by omega) (by omega) (by omega) dL_law_1042 ?_
  refine lv_aload_n hx hb dL_law_1043 rfl (lv_at hl 3 rfl) ?_
  refine lv_iload_n hx hb dL_law_1044 rfl (lv_at hl 0 rfl) ?_
  refine lv_iconst (v := iI 2) hx hb dL_law_1045 rfl ?_
  refine gi_add (z := (7 * (t : Int) + 2)) hx hb dL_law_1046 rfl ?_
  refine g_sld (i := 7 * t + 2) C hX hbl hbA hS (by omega) (by omega) (by omega) dL_law_1047 ?_
  refine lv_aload_n hx hb dL_law_1048 rfl (lv_at hl 3 rfl) ?_
  refine lv_iload_n hx hb dL_law_1049 rfl (lv_at hl 0 rfl) ?_
  refine lv_iconst (v := iI 3) hx hb dL_law_1050 rfl ?_
  refine gi_add (z := (7 * (t : Int) + 3)) hx hb dL_law_1051 rfl ?_
  refine g_sld (i := 7 * t + 3) C hX hbl hbA hS (by omega) (by omega) (by omega) dL_law_1052 ?_
  refine g_cv (As := [.int (iI (X (7 * t + 1))), .int (iI (X (7 * t + 2))), .int (iI (X (7 * t + 3)))]) (rest := []) (n := 3) C hml (x_Ro_choose l D k Ax ad hDx vx fx gx (X (7 * t + 1)) (X (7 * t + 2)) (X (7 * t + 3)) (by omega) (by omega) (by omega) k_sh) mM_L_115 mI_X10_choose mE_X10_choose mN_X10 mC_X10_choose (by decide +kernel) 0 (ci := 10) rfl rfl hPx hS hAx ⟨Nat.le_of_ble_eq_true rfl, Nat.le_of_ble_eq_true rfl⟩ ⟨Nat.le_of_ble_eq_true rfl, Nat.le_of_ble_eq_true rfl⟩ hl.1 rfl rfl (Nat.le_of_ble_eq_true rfl) dL_law_1053 (fun r_1 v_1 f_1 g_1 H1 locs hq_1 hPx hk_1 hS => ?_)
  replace hPm : gWd D (mdT k bd) vm fm gm H1 := ⟨hPm.1.kept (fun i q h => hk_1 q.1 ((hPm.1 i q h).lt) (hxm _ _ _ i q h)), hPm.2⟩
  obtain ⟨z_1, w25_1, a34_1, a35_1, a36_1, a37_1, a38_1, a39_1, a40_1, b0_1, rfl, rfl, rfl, rfl, p0_1, p1_1, p2_1⟩ := hq_1
  show W p l e room_1 s m #[Value.ref b] below meth c _ _ 100 12380 Q (F0 m 1056 ls [.int (iI z_1)])
  refine lv_aload_n hx hb dL_law_1056 rfl (lv_at hl 1 rfl) ?_
  refine lv_aload_n hx hb dL_law_1057 rfl (lv_at hl 3 rfl) ?_
  refine lv_iload_n hx hb dL_law_1058 rfl (lv_at hl 0 rfl) ?_
  refine lv_iconst (v := iI 1) hx hb dL_law_1059 rfl ?_
  refine gi_add (z := (7 * (t : Int) + 1)) hx hb dL_law_1060 rfl ?_
  refine g_sld (i := 7 * t + 1) C hX hbl hbA hS (by omega) (by omega) (by omega) dL_law_1061 ?_
  refine lv_aload_n hx hb dL_law_1062 rfl (lv_at hl 3 rfl) ?_
  refine lv_iload_n hx hb dL_law_1063 rfl (lv_at hl 0 rfl) ?_
  refine lv_iconst (v := iI 2) hx hb dL_law_1064 rfl ?_
  refine gi_add (z := (7 * (t : Int) + 2)) hx hb dL_law_1065 rfl ?_
  refine g_sld (i := 7 * t + 2) C hX hbl hbA hS (by omega) (by omega) (by omega) dL_law_1066 ?_
  refine lv_aload_n hx hb dL_law_1067 rfl (lv_at hl 3 rfl) ?_
  refine lv_iload_n hx hb dL_law_1068 rfl (lv_at hl 0 rfl) ?_
  refine lv_iconst (v := iI 3) hx hb dL_law_1069 rfl ?_
  refine gi_add (z := (7 * (t : Int) + 3)) hx hb dL_law_1070 rfl ?_
  refine g_sld (i := 7 * t + 3) C hX hbl hbA hS (by omega) (by omega) (by omega) dL_law_1071 ?_
  refine g_cv (As := [.int (iI (X (7 * t + 1))), .int (iI (X (7 * t + 2))), .int (iI (X (7 * t + 3)))]) (rest := [.int (iI z_1)]) (n := 3) C hml (y_choose l D k Am bd hDm vm fm gm (X (7 * t + 1)) (X (7 * t + 2)) (X (7 * t + 3)) (by omega) (by omega) (by omega) k_rp) mM_L_118 mI_X11_choose mE_X11_choose mN_X11 mC_X11_choose (by decide +kernel) 0 (ci := 11) rfl rfl hPm hS hAm ⟨Nat.le_of_ble_eq_true rfl, Nat.le_of_ble_eq_true rfl⟩ ⟨Nat.le_of_ble_eq_true rfl, Nat.le_of_ble_eq_true rfl⟩ hl.1 rfl rfl (Nat.le_of_ble_eq_true rfl) dL_law_1072 (fun r_2 v_2 f_2 g_2 H2 locs hq_2 hPm hk_2 hS => ?_)
  replace hPx := (⟨hPx.1.kept (fun i q h => hk_2 q.1 ((hPx.1 i q h).lt) (hmx _ _ _ i q h)), hPx.2⟩ : gWd D (rwT k ad) _ _ _ H2)
  obtain ⟨z_2, w0_2, a37_2, b1_2, b2_2, rfl, rfl, rfl, rfl, p0_2, p1_2, p2_2⟩ := hq_2
  show W p l e room_1 s m #[Value.ref b] below meth c _ _ 100 12380 Q (F0 m 1075 ls [.int (iI z_2), .int (iI z_1)])
  obtain ⟨h_st, h_z⟩ := rl_choose (a1 := (X (7 * t + 1))) (a2 := (X (7 * t + 2))) (a3 := (X (7 * t + 3))) k_st k_tm k_rn k_it k_ks k_bk k_cl k_mn k_ap k_hs k_be k_zo k_wh k_rd k_rt k_fr k_en k_ho k_hw k_wo k_ci k_an k_ah k_ad k_sq k_cd k_kd k_op k_la k_lo k_om k_oi k_ti k_h0 k_ck k_or k_wt k_wi k_sh k_bx k_rp k_bm k_tp k_ta k_fk k_fp g_cl g_mn g_rn g_ks g_ox g_tm g_wh g_fr g_la g_ti p0_1 p1_1 p2_1 p0_2 p1_2 p2_2
  refine gi_ceq (tgt := 1080) hx hb dL_law_1075 (by decide) (by omega) (by omega) (fun c_3 => ?_) (fun c_3 => ?_)
  · refine back _ _ _ _ _ _ _ _ ?_ hPx hPm hS
    exact ⟨h_st, k_tm, k_rn, k_it, k_ks, k_bk, k_cl, k_mn, k_ap, k_hs, k_be, k_zo, k_wh, k_rd, k_rt, k_fr, k_en, k_ho, k_hw, k_wo, k_ci, k_an, k_ah, k_ad, k_sq, k_cd, k_kd, k_op, k_la, k_lo, k_om, k_oi, k_ti, k_h0, k_ck, k_or, k_wt, k_wi, k_sh, k_bx, k_rp, k_bm, k_tp, k_ta, k_fk, k_fp⟩
  · exact absurd (h_z) c_3
end GLaw
end
