theorem dX11_climber_0 : decode cX11_climber 0 = .ok (.aload_n 0, 1) := by decide +kernel
theorem dX11_climber_1 : decode cX11_climber 1 = .ok (.iconst 0, 1) := by decide +kernel
theorem dX11_climber_2 : decode cX11_climber 2 = .ok (.putfield 146, 3) := by decide +kernel
theorem dX11_climber_5 : decode cX11_climber 5 = .ok (.aload_n 0, 1) := by decide +kernel
theorem dX11_climber_6 : decode cX11_climber 6 = .ok (.iconst 0, 1) := by decide +kernel
theorem dX11_climber_7 : decode cX11_climber 7 = .ok (.putfield 149, 3) := by decide +kernel
theorem dX11_climber_10 : decode cX11_climber 10 = .ok (.aload_n 0, 1) := by decide +kernel
theorem dX11_climber_11 : decode cX11_climber 11 = .ok (.getfield 301, 3) := by decide +kernel
theorem dX11_climber_14 : decode cX11_climber 14 = .ok (.ifCond .ne 9, 3) := by decide +kernel
theorem dX11_climber_17 : decode cX11_climber 17 = .ok (.aload_n 0, 1) := by decide +kernel
theorem dX11_climber_18 : decode cX11_climber 18 = .ok (.iconst 1, 1) := by decide +kernel
theorem dX11_climber_19 : decode cX11_climber 19 = .ok (.invokevirtual 295, 3) := by decide +kernel
theorem dX11_climber_22 : decode cX11_climber 22 = .ok (.ireturn, 1) := by decide +kernel
theorem dX11_climber_23 : decode cX11_climber 23 = .ok (.aload_n 0, 1) := by decide +kernel
theorem dX11_climber_24 : decode cX11_climber 24 = .ok (.getfield 313, 3) := by decide +kernel
theorem dX11_climber_27 : decode cX11_climber 27 = .ok (.bipush 16, 2) := by decide +kernel
theorem dX11_climber_29 : decode cX11_climber 29 = .ok (.if_icmp .ne 9, 3) := by decide +kernel
theorem dX11_climber_32 : decode cX11_climber 32 = .ok (.aload_n 0, 1) := by decide +kernel
theorem dX11_climber_33 : decode cX11_climber 33 = .ok (.iconst 3, 1) := by decide +kernel
theorem dX11_climber_34 : decode cX11_climber 34 = .ok (.invokevirtual 295, 3) := by decide +kernel
theorem dX11_climber_37 : decode cX11_climber 37 = .ok (.ireturn, 1) := by decide +kernel
theorem dX11_climber_38 : decode cX11_climber 38 = .ok (.aload_n 0, 1) := by decide +kernel
theorem dX11_climber_39 : decode cX11_climber 39 = .ok (.getfield 319, 3) := by decide +kernel
theorem dX11_climber_42 : decode cX11_climber 42 = .ok (.ifCond .gt 10, 3) := by decide +kernel
theorem dX11_climber_45 : decode cX11_climber 45 = .ok (.aload_n 0, 1) := by decide +kernel
theorem dX11_climber_46 : decode cX11_climber 46 = .ok (.getfield 82, 3) := by decide +kernel
theorem dX11_climber_49 : decode cX11_climber 49 = .ok (.ifCond .le 10, 3) := by decide +kernel
theorem dX11_climber_52 : decode cX11_climber 52 = .ok (.aload_n 0, 1) := by decide +kernel
theorem dX11_climber_53 : decode cX11_climber 53 = .ok (.bipush 10, 2) := by decide +kernel
theorem dX11_climber_55 : decode cX11_climber 55 = .ok (.invokevirtual 295, 3) := by decide +kernel
theorem dX11_climber_58 : decode cX11_climber 58 = .ok (.ireturn, 1) := by decide +kernel
theorem dX11_climber_59 : decode cX11_climber 59 = .ok (.aload_n 0, 1) := by decide +kernel
theorem dX11_climber_60 : decode cX11_climber 60 = .ok (.getfield 85, 3) := by decide +kernel
theorem dX11_climber_63 : decode cX11_climber 63 = .ok (.aload_n 0, 1) := by decide +kernel
theorem dX11_climber_64 : decode cX11_climber 64 = .ok (.getfield 313, 3) := by decide +kernel
theorem dX11_climber_67 : decode cX11_climber 67 = .ok (.iconst 1, 1) := by decide +kernel
theorem dX11_climber_68 : decode cX11_climber 68 = .ok (.bastore, 1) := by decide +kernel
theorem dX11_climber_69 : decode cX11_climber 69 = .ok (.aload_n 0, 1) := by decide +kernel
theorem dX11_climber_70 : decode cX11_climber 70 = .ok (.getfield 88, 3) := by decide +kernel
theorem dX11_climber_73 : decode cX11_climber 73 = .ok (.aload_n 0, 1) := by decide +kernel
theorem dX11_climber_74 : decode cX11_climber 74 = .ok (.getfield 313, 3) := by decide +kernel
theorem dX11_climber_77 : decode cX11_climber 77 = .ok (.aload_n 0, 1) := by decide +kernel
theorem dX11_climber_78 : decode cX11_climber 78 = .ok (.getfield 313, 3) := by decide +kernel
theorem dX11_climber_81 : decode cX11_climber 81 = .ok (.iastore, 1) := by decide +kernel
theorem dX11_climber_82 : decode cX11_climber 82 = .ok (.aload_n 0, 1) := by decide +kernel
theorem dX11_climber_83 : decode cX11_climber 83 = .ok (.getfield 124, 3) := by decide +kernel
theorem dX11_climber_86 : decode cX11_climber 86 = .ok (.aload_n 0, 1) := by decide +kernel
theorem dX11_climber_87 : decode cX11_climber 87 = .ok (.getfield 313, 3) := by decide +kernel
theorem dX11_climber_90 : decode cX11_climber 90 = .ok (.iconst 0, 1) := by decide +kernel
theorem dX11_climber_91 : decode cX11_climber 91 = .ok (.iastore, 1) := by decide +kernel
theorem dX11_climber_92 : decode cX11_climber 92 = .ok (.aload_n 0, 1) := by decide +kernel
theorem dX11_climber_93 : decode cX11_climber 93 = .ok (.dup, 1) := by decide +kernel
theorem dX11_climber_94 : decode cX11_climber 94 = .ok (.getfield 313, 3) := by decide +kernel
theorem dX11_climber_97 : decode cX11_climber 97 = .ok (.iconst 1, 1) := by decide +kernel
theorem dX11_climber_98 : decode cX11_climber 98 = .ok (.iadd, 1) := by decide +kernel
theorem dX11_climber_99 : decode cX11_climber 99 = .ok (.putfield 313, 3) := by decide +kernel
theorem dX11_climber_102 : decode cX11_climber 102 = .ok (.aload_n 0, 1) := by decide +kernel
theorem dX11_climber_103 : decode cX11_climber 103 = .ok (.getfield 91, 3) := by decide +kernel
theorem dX11_climber_106 : decode cX11_climber 106 = .ok (.iconst 0, 1) := by decide +kernel
theorem dX11_climber_107 : decode cX11_climber 107 = .ok (.aload_n 0, 1) := by decide +kernel
theorem dX11_climber_108 : decode cX11_climber 108 = .ok (.getfield 313, 3) := by decide +kernel
theorem dX11_climber_111 : decode cX11_climber 111 = .ok (.iastore, 1) := by decide +kernel
theorem dX11_climber_112 : decode cX11_climber 112 = .ok (.aload_n 0, 1) := by decide +kernel
theorem dX11_climber_113 : decode cX11_climber 113 = .ok (.iconst 0, 1) := by decide +kernel
theorem dX11_climber_114 : decode cX11_climber 114 = .ok (.putfield 82, 3) := by decide +kernel
theorem dX11_climber_117 : decode cX11_climber 117 = .ok (.aload_n 0, 1) := by decide +kernel
theorem dX11_climber_118 : decode cX11_climber 118 = .ok (.getfield 313, 3) := by decide +kernel
theorem dX11_climber_121 : decode cX11_climber 121 = .ok (.iconst 1, 1) := by decide +kernel
theorem dX11_climber_122 : decode cX11_climber 122 = .ok (.isub, 1) := by decide +kernel
theorem dX11_climber_123 : decode cX11_climber 123 = .ok (.ireturn, 1) := by decide +kernel
theorem dX11_route_0 : decode cX11_route 0 = .ok (.aload_n 0, 1) := by decide +kernel
theorem dX11_route_1 : decode cX11_route 1 = .ok (.iconst 0, 1) := by decide +kernel
theorem dX11_route_2 : decode cX11_route 2 = .ok (.putfield 146, 3) := by decide +kernel
theorem dX11_route_5 : decode cX11_route 5 = .ok (.aload_n 0, 1) := by decide +kernel
theorem dX11_route_6 : decode cX11_route 6 = .ok (.iconst 0, 1) := by decide +kernel
theorem dX11_route_7 : decode cX11_route 7 = .ok (.putfield 149, 3) := by decide +kernel
theorem dX11_route_10 : decode cX11_route 10 = .ok (.aload_n 0, 1) := by decide +kernel
theorem dX11_route_11 : decode cX11_route 11 = .ok (.iload_n 1, 1) := by decide +kernel
theorem dX11_route_12 : decode cX11_route 12 = .ok (.iload_n 2, 1) := by decide +kernel
theorem dX11_route_13 : decode cX11_route 13 = .ok (.invokevirtual 328, 3) := by decide +kernel
theorem dX11_route_16 : decode cX11_route 16 = .ok (.ifCond .ne 9, 3) := by decide +kernel
theorem dX11_route_19 : decode cX11_route 19 = .ok (.aload_n 0, 1) := by decide +kernel
theorem dX11_route_20 : decode cX11_route 20 = .ok (.iconst 1, 1) := by decide +kernel
theorem dX11_route_21 : decode cX11_route 21 = .ok (.invokevirtual 332, 3) := by decide +kernel
theorem dX11_route_24 : decode cX11_route 24 = .ok (.ireturn, 1) := by decide +kernel
theorem dX11_route_25 : decode cX11_route 25 = .ok (.iload_n 3, 1) := by decide +kernel
theorem dX11_route_26 : decode cX11_route 26 = .ok (.iconst 2, 1) := by decide +kernel
theorem dX11_route_27 : decode cX11_route 27 = .ok (.if_icmp .lt 46, 3) := by decide +kernel
theorem dX11_route_30 : decode cX11_route 30 = .ok (.iload_n 3, 1) := by decide +kernel
theorem dX11_route_31 : decode cX11_route 31 = .ok (.bipush 60, 2) := by decide +kernel
theorem dX11_route_33 : decode cX11_route 33 = .ok (.if_icmp .gt 40, 3) := by decide +kernel
theorem dX11_route_36 : decode cX11_route 36 = .ok (.iload 4, 2) := by decide +kernel
theorem dX11_route_38 : decode cX11_route 38 = .ok (.ifCond .lt 35, 3) := by decide +kernel
theorem dX11_route_41 : decode cX11_route 41 = .ok (.iload 5, 2) := by decide +kernel
theorem dX11_route_43 : decode cX11_route 43 = .ok (.ifCond .lt 30, 3) := by decide +kernel
theorem dX11_route_46 : decode cX11_route 46 = .ok (.iload 6, 2) := by decide +kernel
theorem dX11_route_48 : decode cX11_route 48 = .ok (.ifCond .lt 25, 3) := by decide +kernel
theorem dX11_route_51 : decode cX11_route 51 = .ok (.iload 4, 2) := by decide +kernel
theorem dX11_route_53 : decode cX11_route 53 = .ok (.iload_n 3, 1) := by decide +kernel
theorem dX11_route_54 : decode cX11_route 54 = .ok (.if_icmp .gt 19, 3) := by decide +kernel
theorem dX11_route_57 : decode cX11_route 57 = .ok (.iload 5, 2) := by decide +kernel
theorem dX11_route_59 : decode cX11_route 59 = .ok (.iload_n 3, 1) := by decide +kernel
theorem dX11_route_60 : decode cX11_route 60 = .ok (.if_icmp .gt 13, 3) := by decide +kernel
theorem dX11_route_63 : decode cX11_route 63 = .ok (.iload 6, 2) := by decide +kernel
theorem dX11_route_65 : decode cX11_route 65 = .ok (.iload_n 3, 1) := by decide +kernel
theorem dX11_route_66 : decode cX11_route 66 = .ok (.if_icmp .gt 7, 3) := by decide +kernel
theorem dX11_route_69 : decode cX11_route 69 = .ok (.iconst 1, 1) := by decide +kernel
theorem dX11_route_70 : decode cX11_route 70 = .ok (.goto 4, 3) := by decide +kernel
theorem dX11_route_73 : decode cX11_route 73 = .ok (.iconst 0, 1) := by decide +kernel
theorem dX11_route_74 : decode cX11_route 74 = .ok (.istore 7, 2) := by decide +kernel
theorem dX11_route_76 : decode cX11_route 76 = .ok (.iload 7, 2) := by decide +kernel
theorem dX11_route_78 : decode cX11_route 78 = .ok (.ifCond .eq 57, 3) := by decide +kernel
theorem dX11_route_81 : decode cX11_route 81 = .ok (.iload 4, 2) := by decide +kernel
theorem dX11_route_83 : decode cX11_route 83 = .ok (.ifCond .ne 11, 3) := by decide +kernel
theorem dX11_route_86 : decode cX11_route 86 = .ok (.iload 5, 2) := by decide +kernel
theorem dX11_route_88 : decode cX11_route 88 = .ok (.ifCond .ne 47, 3) := by decide +kernel
theorem dX11_route_91 : decode cX11_route 91 = .ok (.goto 15, 3) := by decide +kernel
theorem dX11_route_94 : decode cX11_route 94 = .ok (.iload 5, 2) := by decide +kernel
theorem dX11_route_96 : decode cX11_route 96 = .ok (.ifCond .eq 10, 3) := by decide +kernel
theorem dX11_route_99 : decode cX11_route 99 = .ok (.iload 5, 2) := by decide +kernel
theorem dX11_route_101 : decode cX11_route 101 = .ok (.iload 4, 2) := by decide +kernel
theorem dX11_route_103 : decode cX11_route 103 = .ok (.if_icmp .le 32, 3) := by decide +kernel
theorem dX11_route_106 : decode cX11_route 106 = .ok (.iload 5, 2) := by decide +kernel
theorem dX11_route_108 : decode cX11_route 108 = .ok (.ifCond .ne 11, 3) := by decide +kernel
theorem dX11_route_111 : decode cX11_route 111 = .ok (.iload 6, 2) := by decide +kernel
theorem dX11_route_113 : decode cX11_route 113 = .ok (.ifCond .ne 22, 3) := by decide +kernel
theorem dX11_route_116 : decode cX11_route 116 = .ok (.goto 15, 3) := by decide +kernel
theorem dX11_route_119 : decode cX11_route 119 = .ok (.iload 6, 2) := by decide +kernel
theorem dX11_route_121 : decode cX11_route 121 = .ok (.ifCond .eq 10, 3) := by decide +kernel
theorem dX11_route_124 : decode cX11_route 124 = .ok (.iload 6, 2) := by decide +kernel
theorem dX11_route_126 : decode cX11_route 126 = .ok (.iload 5, 2) := by decide +kernel
theorem dX11_route_128 : decode cX11_route 128 = .ok (.if_icmp .le 7, 3) := by decide +kernel
theorem dX11_route_131 : decode cX11_route 131 = .ok (.iconst 1, 1) := by decide +kernel
theorem dX11_route_132 : decode cX11_route 132 = .ok (.goto 4, 3) := by decide +kernel
theorem dX11_route_135 : decode cX11_route 135 = .ok (.iconst 0, 1) := by decide +kernel
theorem dX11_route_136 : decode cX11_route 136 = .ok (.istore 7, 2) := by decide +kernel
theorem dX11_route_138 : decode cX11_route 138 = .ok (.iload 7, 2) := by decide +kernel
theorem dX11_route_140 : decode cX11_route 140 = .ok (.ifCond .ne 9, 3) := by decide +kernel
theorem dX11_route_143 : decode cX11_route 143 = .ok (.aload_n 0, 1) := by decide +kernel
theorem dX11_route_144 : decode cX11_route 144 = .ok (.iconst 2, 1) := by decide +kernel
theorem dX11_route_145 : decode cX11_route 145 = .ok (.invokevirtual 332, 3) := by decide +kernel
theorem dX11_route_148 : decode cX11_route 148 = .ok (.ireturn, 1) := by decide +kernel
theorem dX11_route_149 : decode cX11_route 149 = .ok (.iload_n 1, 1) := by decide +kernel
theorem dX11_route_150 : decode cX11_route 150 = .ok (.iload_n 2, 1) := by decide +kernel
theorem dX11_route_151 : decode cX11_route 151 = .ok (.invokestatic 335, 3) := by decide +kernel
theorem dX11_route_154 : decode cX11_route 154 = .ok (.istore 8, 2) := by decide +kernel
theorem dX11_route_156 : decode cX11_route 156 = .ok (.aload_n 0, 1) := by decide +kernel
theorem dX11_route_157 : decode cX11_route 157 = .ok (.getfield 79, 3) := by decide +kernel
theorem dX11_route_160 : decode cX11_route 160 = .ok (.iload 8, 2) := by decide +kernel
theorem dX11_route_162 : decode cX11_route 162 = .ok (.iaload, 1) := by decide +kernel
theorem dX11_route_163 : decode cX11_route 163 = .ok (.ifCond .le 10, 3) := by decide +kernel
theorem dX11_route_166 : decode cX11_route 166 = .ok (.aload_n 0, 1) := by decide +kernel
theorem dX11_route_167 : decode cX11_route 167 = .ok (.bipush 10, 2) := by decide +kernel
theorem dX11_route_169 : decode cX11_route 169 = .ok (.invokevirtual 332, 3) := by decide +kernel
theorem dX11_route_172 : decode cX11_route 172 = .ok (.ireturn, 1) := by decide +kernel
theorem dX11_route_173 : decode cX11_route 173 = .ok (.aload_n 0, 1) := by decide +kernel
theorem dX11_route_174 : decode cX11_route 174 = .ok (.getfield 73, 3) := by decide +kernel
theorem dX11_route_177 : decode cX11_route 177 = .ok (.iload 8, 2) := by decide +kernel
theorem dX11_route_179 : decode cX11_route 179 = .ok (.iload_n 3, 1) := by decide +kernel
theorem dX11_route_180 : decode cX11_route 180 = .ok (.iastore, 1) := by decide +kernel
theorem dX11_route_181 : decode cX11_route 181 = .ok (.aload_n 0, 1) := by decide +kernel
theorem dX11_route_182 : decode cX11_route 182 = .ok (.getfield 76, 3) := by decide +kernel
theorem dX11_route_185 : decode cX11_route 185 = .ok (.iconst 3, 1) := by decide +kernel
theorem dX11_route_186 : decode cX11_route 186 = .ok (.iload 8, 2) := by decide +kernel
theorem dX11_route_188 : decode cX11_route 188 = .ok (.imul, 1) := by decide +kernel
theorem dX11_route_189 : decode cX11_route 189 = .ok (.iload 4, 2) := by decide +kernel
theorem dX11_route_191 : decode cX11_route 191 = .ok (.iastore, 1) := by decide +kernel
theorem dX11_route_192 : decode cX11_route 192 = .ok (.aload_n 0, 1) := by decide +kernel
theorem dX11_route_193 : decode cX11_route 193 = .ok (.getfield 76, 3) := by decide +kernel
theorem dX11_route_196 : decode cX11_route 196 = .ok (.iconst 3, 1) := by decide +kernel
theorem dX11_route_197 : decode cX11_route 197 = .ok (.iload 8, 2) := by decide +kernel
theorem dX11_route_199 : decode cX11_route 199 = .ok (.imul, 1) := by decide +kernel
theorem dX11_route_200 : decode cX11_route 200 = .ok (.iconst 1, 1) := by decide +kernel
theorem dX11_route_201 : decode cX11_route 201 = .ok (.iadd, 1) := by decide +kernel
theorem dX11_route_202 : decode cX11_route 202 = .ok (.iload 5, 2) := by decide +kernel
theorem dX11_route_204 : decode cX11_route 204 = .ok (.iastore, 1) := by decide +kernel
theorem dX11_route_205 : decode cX11_route 205 = .ok (.aload_n 0, 1) := by decide +kernel
theorem dX11_route_206 : decode cX11_route 206 = .ok (.getfield 76, 3) := by decide +kernel
theorem dX11_route_209 : decode cX11_route 209 = .ok (.iconst 3, 1) := by decide +kernel
theorem dX11_route_210 : decode cX11_route 210 = .ok (.iload 8, 2) := by decide +kernel
theorem dX11_route_212 : decode cX11_route 212 = .ok (.imul, 1) := by decide +kernel
theorem dX11_route_213 : decode cX11_route 213 = .ok (.iconst 2, 1) := by decide +kernel
theorem dX11_route_214 : decode cX11_route 214 = .ok (.iadd, 1) := by decide +kernel
theorem dX11_route_215 : decode cX11_route 215 = .ok (.iload 6, 2) := by decide +kernel
theorem dX11_route_217 : decode cX11_route 217 = .ok (.iastore, 1) := by decide +kernel
theorem dX11_route_218 : decode cX11_route 218 = .ok (.iconst 1, 1) := by decide +kernel
theorem dX11_route_219 : decode cX11_route 219 = .ok (.ireturn, 1) := by decide +kernel
theorem dX11_told_0 : decode cX11_told 0 = .ok (.aload_n 0, 1) := by decide +kernel
theorem dX11_told_1 : decode cX11_told 1 = .ok (.iconst 0, 1) := by decide +kernel
theorem dX11_told_2 : decode cX11_told 2 = .ok (.putfield 146, 3) := by decide +kernel
theorem dX11_told_5 : decode cX11_told 5 = .ok (.aload_n 0, 1) := by decide +kernel
theorem dX11_told_6 : decode cX11_told 6 = .ok (.iconst 0, 1) := by decide +kernel
theorem dX11_told_7 : decode cX11_told 7 = .ok (.putfield 149, 3) := by decide +kernel
theorem dX11_told_10 : decode cX11_told 10 = .ok (.aload_n 0, 1) := by decide +kernel
theorem dX11_told_11 : decode cX11_told 11 = .ok (.iload_n 1, 1) := by decide +kernel
theorem dX11_told_12 : decode cX11_told 12 = .ok (.invokevirtual 325, 3) := by decide +kernel
theorem dX11_told_15 : decode cX11_told 15 = .ok (.ifCond .eq 17, 3) := by decide +kernel
theorem dX11_told_18 : decode cX11_told 18 = .ok (.iload_n 2, 1) := by decide +kernel
theorem dX11_told_19 : decode cX11_told 19 = .ok (.iconst (-1), 1) := by decide +kernel
theorem dX11_told_20 : decode cX11_told 20 = .ok (.if_icmp .eq 18, 3) := by decide +kernel
theorem dX11_told_23 : decode cX11_told 23 = .ok (.aload_n 0, 1) := by decide +kernel
theorem dX11_told_24 : decode cX11_told 24 = .ok (.iload_n 1, 1) := by decide +kernel
theorem dX11_told_25 : decode cX11_told 25 = .ok (.iload_n 2, 1) := by decide +kernel
theorem dX11_told_26 : decode cX11_told 26 = .ok (.invokevirtual 328, 3) := by decide +kernel
theorem dX11_told_29 : decode cX11_told 29 = .ok (.ifCond .ne 9, 3) := by decide +kernel
theorem dX11_told_32 : decode cX11_told 32 = .ok (.aload_n 0, 1) := by decide +kernel
theorem dX11_told_33 : decode cX11_told 33 = .ok (.iconst 1, 1) := by decide +kernel
theorem dX11_told_34 : decode cX11_told 34 = .ok (.invokevirtual 295, 3) := by decide +kernel
theorem dX11_told_37 : decode cX11_told 37 = .ok (.ireturn, 1) := by decide +kernel
theorem dX11_told_38 : decode cX11_told 38 = .ok (.iload_n 3, 1) := by decide +kernel
theorem dX11_told_39 : decode cX11_told 39 = .ok (.ifCond .lt 8, 3) := by decide +kernel
theorem dX11_told_42 : decode cX11_told 42 = .ok (.iload_n 3, 1) := by decide +kernel
theorem dX11_told_43 : decode cX11_told 43 = .ok (.iconst 4, 1) := by decide +kernel
theorem dX11_told_44 : decode cX11_told 44 = .ok (.if_icmp .le 9, 3) := by decide +kernel
theorem dX11_told_47 : decode cX11_told 47 = .ok (.aload_n 0, 1) := by decide +kernel
theorem dX11_told_48 : decode cX11_told 48 = .ok (.iconst 2, 1) := by decide +kernel
theorem dX11_told_49 : decode cX11_told 49 = .ok (.invokevirtual 295, 3) := by decide +kernel
theorem dX11_told_52 : decode cX11_told 52 = .ok (.ireturn, 1) := by decide +kernel
theorem dX11_told_53 : decode cX11_told 53 = .ok (.iload_n 2, 1) := by decide +kernel
theorem dX11_told_54 : decode cX11_told 54 = .ok (.iconst (-1), 1) := by decide +kernel
theorem dX11_told_55 : decode cX11_told 55 = .ok (.if_icmp .ne 65, 3) := by decide +kernel
theorem dX11_told_58 : decode cX11_told 58 = .ok (.iload_n 3, 1) := by decide +kernel
theorem dX11_told_59 : decode cX11_told 59 = .ok (.ifCond .ne 12, 3) := by decide +kernel
theorem dX11_told_62 : decode cX11_told 62 = .ok (.aload_n 0, 1) := by decide +kernel
theorem dX11_told_63 : decode cX11_told 63 = .ok (.getfield 20, 3) := by decide +kernel
theorem dX11_told_66 : decode cX11_told 66 = .ok (.iload_n 1, 1) := by decide +kernel
theorem dX11_told_67 : decode cX11_told 67 = .ok (.iaload, 1) := by decide +kernel
theorem dX11_told_68 : decode cX11_told 68 = .ok (.goto 51, 3) := by decide +kernel
theorem dX11_told_71 : decode cX11_told 71 = .ok (.iload_n 3, 1) := by decide +kernel
theorem dX11_told_72 : decode cX11_told 72 = .ok (.iconst 1, 1) := by decide +kernel
theorem dX11_told_73 : decode cX11_told 73 = .ok (.if_icmp .ne 12, 3) := by decide +kernel
theorem dX11_told_76 : decode cX11_told 76 = .ok (.aload_n 0, 1) := by decide +kernel
theorem dX11_told_77 : decode cX11_told 77 = .ok (.getfield 24, 3) := by decide +kernel
theorem dX11_told_80 : decode cX11_told 80 = .ok (.iload_n 1, 1) := by decide +kernel
theorem dX11_told_81 : decode cX11_told 81 = .ok (.iaload, 1) := by decide +kernel
theorem dX11_told_82 : decode cX11_told 82 = .ok (.goto 37, 3) := by decide +kernel
theorem dX11_told_85 : decode cX11_told 85 = .ok (.iload_n 3, 1) := by decide +kernel
theorem dX11_told_86 : decode cX11_told 86 = .ok (.iconst 2, 1) := by decide +kernel
theorem dX11_told_87 : decode cX11_told 87 = .ok (.if_icmp .ne 12, 3) := by decide +kernel
theorem dX11_told_90 : decode cX11_told 90 = .ok (.aload_n 0, 1) := by decide +kernel
theorem dX11_told_91 : decode cX11_told 91 = .ok (.getfield 27, 3) := by decide +kernel
theorem dX11_told_94 : decode cX11_told 94 = .ok (.iload_n 1, 1) := by decide +kernel
theorem dX11_told_95 : decode cX11_told 95 = .ok (.iaload, 1) := by decide +kernel
theorem dX11_told_96 : decode cX11_told 96 = .ok (.goto 23, 3) := by decide +kernel
theorem dX11_told_99 : decode cX11_told 99 = .ok (.iload_n 3, 1) := by decide +kernel
theorem dX11_told_100 : decode cX11_told 100 = .ok (.iconst 3, 1) := by decide +kernel
theorem dX11_told_101 : decode cX11_told 101 = .ok (.if_icmp .ne 12, 3) := by decide +kernel
theorem dX11_told_104 : decode cX11_told 104 = .ok (.aload_n 0, 1) := by decide +kernel
theorem dX11_told_105 : decode cX11_told 105 = .ok (.getfield 30, 3) := by decide +kernel
theorem dX11_told_108 : decode cX11_told 108 = .ok (.iload_n 1, 1) := by decide +kernel
theorem dX11_told_109 : decode cX11_told 109 = .ok (.iaload, 1) := by decide +kernel
theorem dX11_told_110 : decode cX11_told 110 = .ok (.goto 9, 3) := by decide +kernel
theorem dX11_told_113 : decode cX11_told 113 = .ok (.aload_n 0, 1) := by decide +kernel
theorem dX11_told_114 : decode cX11_told 114 = .ok (.getfield 91, 3) := by decide +kernel
theorem dX11_told_117 : decode cX11_told 117 = .ok (.iload_n 1, 1) := by decide +kernel
theorem dX11_told_118 : decode cX11_told 118 = .ok (.iaload, 1) := by decide +kernel
theorem dX11_told_119 : decode cX11_told 119 = .ok (.ireturn, 1) := by decide +kernel
theorem dX11_told_120 : decode cX11_told 120 = .ok (.iload_n 1, 1) := by decide +kernel
theorem dX11_told_121 : decode cX11_told 121 = .ok (.iload_n 2, 1) := by decide +kernel
theorem dX11_told_122 : decode cX11_told 122 = .ok (.invokestatic 335, 3) := by decide +kernel
theorem dX11_told_125 : decode cX11_told 125 = .ok (.istore 4, 2) := by decide +kernel
theorem dX11_told_127 : decode cX11_told 127 = .ok (.iload_n 3, 1) := by decide +kernel
theorem dX11_told_128 : decode cX11_told 128 = .ok (.ifCond .ne 13, 3) := by decide +kernel
theorem dX11_told_131 : decode cX11_told 131 = .ok (.aload_n 0, 1) := by decide +kernel
theorem dX11_told_132 : decode cX11_told 132 = .ok (.getfield 73, 3) := by decide +kernel
theorem dX11_told_135 : decode cX11_told 135 = .ok (.iload 4, 2) := by decide +kernel
theorem dX11_told_137 : decode cX11_told 137 = .ok (.iaload, 1) := by decide +kernel
theorem dX11_told_138 : decode cX11_told 138 = .ok (.goto 31, 3) := by decide +kernel
theorem dX11_told_141 : decode cX11_told 141 = .ok (.iload_n 3, 1) := by decide +kernel
theorem dX11_told_142 : decode cX11_told 142 = .ok (.iconst 4, 1) := by decide +kernel
theorem dX11_told_143 : decode cX11_told 143 = .ok (.if_icmp .ne 13, 3) := by decide +kernel
theorem dX11_told_146 : decode cX11_told 146 = .ok (.aload_n 0, 1) := by decide +kernel
theorem dX11_told_147 : decode cX11_told 147 = .ok (.getfield 79, 3) := by decide +kernel
theorem dX11_told_150 : decode cX11_told 150 = .ok (.iload 4, 2) := by decide +kernel
theorem dX11_told_152 : decode cX11_told 152 = .ok (.iaload, 1) := by decide +kernel
theorem dX11_told_153 : decode cX11_told 153 = .ok (.goto 16, 3) := by decide +kernel
theorem dX11_told_156 : decode cX11_told 156 = .ok (.aload_n 0, 1) := by decide +kernel
theorem dX11_told_157 : decode cX11_told 157 = .ok (.getfield 76, 3) := by decide +kernel
theorem dX11_told_160 : decode cX11_told 160 = .ok (.iconst 3, 1) := by decide +kernel
theorem dX11_told_161 : decode cX11_told 161 = .ok (.iload 4, 2) := by decide +kernel
theorem dX11_told_163 : decode cX11_told 163 = .ok (.imul, 1) := by decide +kernel
theorem dX11_told_164 : decode cX11_told 164 = .ok (.iload_n 3, 1) := by decide +kernel
theorem dX11_told_165 : decode cX11_told 165 = .ok (.iadd, 1) := by decide +kernel
theorem dX11_told_166 : decode cX11_told 166 = .ok (.iconst 1, 1) := by decide +kernel
theorem dX11_told_167 : decode cX11_told 167 = .ok (.isub, 1) := by decide +kernel
theorem dX11_told_168 : decode cX11_told 168 = .ok (.iaload, 1) := by decide +kernel
theorem dX11_told_169 : decode cX11_told 169 = .ok (.ireturn, 1) := by decide +kernel
theorem dX11_begin_0 : decode cX11_begin 0 = .ok (.aload_n 0, 1) := by decide +kernel
theorem dX11_begin_1 : decode cX11_begin 1 = .ok (.iconst 0, 1) := by decide +kernel
theorem dX11_begin_2 : decode cX11_begin 2 = .ok (.putfield 146, 3) := by decide +kernel
theorem dX11_begin_5 : decode cX11_begin 5 = .ok (.aload_n 0, 1) := by decide +kernel
theorem dX11_begin_6 : decode cX11_begin 6 = .ok (.iconst 0, 1) := by decide +kernel
theorem dX11_begin_7 : decode cX11_begin 7 = .ok (.putfield 149, 3) := by decide +kernel
theorem dX11_begin_10 : decode cX11_begin 10 = .ok (.aload_n 0, 1) := by decide +kernel
theorem dX11_begin_11 : decode cX11_begin 11 = .ok (.iload_n 1, 1) := by decide +kernel
theorem dX11_begin_12 : decode cX11_begin 12 = .ok (.invokevirtual 349, 3) := by decide +kernel
theorem dX11_begin_15 : decode cX11_begin 15 = .ok (.ifCond .eq 22, 3) := by decide +kernel
theorem dX11_begin_18 : decode cX11_begin 18 = .ok (.aload_n 0, 1) := by decide +kernel
theorem dX11_begin_19 : decode cX11_begin 19 = .ok (.getfield 82, 3) := by decide +kernel
theorem dX11_begin_22 : decode cX11_begin 22 = .ok (.ifCond .lt 15, 3) := by decide +kernel
theorem dX11_begin_25 : decode cX11_begin 25 = .ok (.aload_n 0, 1) := by decide +kernel
theorem dX11_begin_26 : decode cX11_begin 26 = .ok (.aload_n 0, 1) := by decide +kernel
theorem dX11_begin_27 : decode cX11_begin 27 = .ok (.getfield 82, 3) := by decide +kernel
theorem dX11_begin_30 : decode cX11_begin 30 = .ok (.iload_n 2, 1) := by decide +kernel
theorem dX11_begin_31 : decode cX11_begin 31 = .ok (.invokevirtual 328, 3) := by decide +kernel
theorem dX11_begin_34 : decode cX11_begin 34 = .ok (.ifCond .ne 9, 3) := by decide +kernel
theorem dX11_begin_37 : decode cX11_begin 37 = .ok (.aload_n 0, 1) := by decide +kernel
theorem dX11_begin_38 : decode cX11_begin 38 = .ok (.iconst 1, 1) := by decide +kernel
theorem dX11_begin_39 : decode cX11_begin 39 = .ok (.invokevirtual 295, 3) := by decide +kernel
theorem dX11_begin_42 : decode cX11_begin 42 = .ok (.ireturn, 1) := by decide +kernel
theorem dX11_begin_43 : decode cX11_begin 43 = .ok (.aload_n 0, 1) := by decide +kernel
theorem dX11_begin_44 : decode cX11_begin 44 = .ok (.iload_n 3, 1) := by decide +kernel
theorem dX11_begin_45 : decode cX11_begin 45 = .ok (.invokevirtual 352, 3) := by decide +kernel
theorem dX11_begin_48 : decode cX11_begin 48 = .ok (.istore 4, 2) := by decide +kernel
theorem dX11_begin_50 : decode cX11_begin 50 = .ok (.iload 4, 2) := by decide +kernel
theorem dX11_begin_52 : decode cX11_begin 52 = .ok (.ifCond .le 10, 3) := by decide +kernel
theorem dX11_begin_55 : decode cX11_begin 55 = .ok (.aload_n 0, 1) := by decide +kernel
theorem dX11_begin_56 : decode cX11_begin 56 = .ok (.iload 4, 2) := by decide +kernel
theorem dX11_begin_58 : decode cX11_begin 58 = .ok (.invokevirtual 295, 3) := by decide +kernel
theorem dX11_begin_61 : decode cX11_begin 61 = .ok (.ireturn, 1) := by decide +kernel
theorem dX11_begin_62 : decode cX11_begin 62 = .ok (.aload_n 0, 1) := by decide +kernel
theorem dX11_begin_63 : decode cX11_begin 63 = .ok (.getfield 85, 3) := by decide +kernel
theorem dX11_begin_66 : decode cX11_begin 66 = .ok (.bipush 16, 2) := by decide +kernel
theorem dX11_begin_68 : decode cX11_begin 68 = .ok (.aload_n 0, 1) := by decide +kernel
theorem dX11_begin_69 : decode cX11_begin 69 = .ok (.getfield 82, 3) := by decide +kernel
theorem dX11_begin_72 : decode cX11_begin 72 = .ok (.imul, 1) := by decide +kernel
theorem dX11_begin_73 : decode cX11_begin 73 = .ok (.iload_n 1, 1) := by decide +kernel
theorem dX11_begin_74 : decode cX11_begin 74 = .ok (.iadd, 1) := by decide +kernel
theorem dX11_begin_75 : decode cX11_begin 75 = .ok (.baload, 1) := by decide +kernel
theorem dX11_begin_76 : decode cX11_begin 76 = .ok (.ifCond .ne 9, 3) := by decide +kernel
theorem dX11_begin_79 : decode cX11_begin 79 = .ok (.aload_n 0, 1) := by decide +kernel
theorem dX11_begin_80 : decode cX11_begin 80 = .ok (.iconst 4, 1) := by decide +kernel
theorem dX11_begin_81 : decode cX11_begin 81 = .ok (.invokevirtual 295, 3) := by decide +kernel
theorem dX11_begin_84 : decode cX11_begin 84 = .ok (.ireturn, 1) := by decide +kernel
theorem dX11_begin_85 : decode cX11_begin 85 = .ok (.aload_n 0, 1) := by decide +kernel
theorem dX11_begin_86 : decode cX11_begin 86 = .ok (.iload_n 1, 1) := by decide +kernel
theorem dX11_begin_87 : decode cX11_begin 87 = .ok (.invokevirtual 355, 3) := by decide +kernel
theorem dX11_begin_90 : decode cX11_begin 90 = .ok (.ifCond .lt 9, 3) := by decide +kernel
theorem dX11_begin_93 : decode cX11_begin 93 = .ok (.aload_n 0, 1) := by decide +kernel
theorem dX11_begin_94 : decode cX11_begin 94 = .ok (.iconst 5, 1) := by decide +kernel
theorem dX11_begin_95 : decode cX11_begin 95 = .ok (.invokevirtual 295, 3) := by decide +kernel
theorem dX11_begin_98 : decode cX11_begin 98 = .ok (.ireturn, 1) := by decide +kernel
theorem dX11_begin_99 : decode cX11_begin 99 = .ok (.iconst 0, 1) := by decide +kernel
theorem dX11_begin_100 : decode cX11_begin 100 = .ok (.istore 5, 2) := by decide +kernel
theorem dX11_begin_102 : decode cX11_begin 102 = .ok (.iconst 0, 1) := by decide +kernel
theorem dX11_begin_103 : decode cX11_begin 103 = .ok (.istore 6, 2) := by decide +kernel
theorem dX11_begin_105 : decode cX11_begin 105 = .ok (.iconst 0, 1) := by decide +kernel
theorem dX11_begin_106 : decode cX11_begin 106 = .ok (.istore 7, 2) := by decide +kernel
theorem dX11_begin_108 : decode cX11_begin 108 = .ok (.iload 7, 2) := by decide +kernel
theorem dX11_begin_110 : decode cX11_begin 110 = .ok (.aload_n 0, 1) := by decide +kernel
theorem dX11_begin_111 : decode cX11_begin 111 = .ok (.getfield 319, 3) := by decide +kernel
theorem dX11_begin_114 : decode cX11_begin 114 = .ok (.if_icmp .ge 85, 3) := by decide +kernel
theorem dX11_begin_117 : decode cX11_begin 117 = .ok (.aload_n 0, 1) := by decide +kernel
theorem dX11_begin_118 : decode cX11_begin 118 = .ok (.getfield 94, 3) := by decide +kernel
theorem dX11_begin_121 : decode cX11_begin 121 = .ok (.iload 7, 2) := by decide +kernel
theorem dX11_begin_123 : decode cX11_begin 123 = .ok (.iaload, 1) := by decide +kernel
theorem dX11_begin_124 : decode cX11_begin 124 = .ok (.iload_n 1, 1) := by decide +kernel
theorem dX11_begin_125 : decode cX11_begin 125 = .ok (.if_icmp .ne 68, 3) := by decide +kernel
theorem dX11_begin_128 : decode cX11_begin 128 = .ok (.aload_n 0, 1) := by decide +kernel
theorem dX11_begin_129 : decode cX11_begin 129 = .ok (.getfield 97, 3) := by decide +kernel
theorem dX11_begin_132 : decode cX11_begin 132 = .ok (.iload 7, 2) := by decide +kernel
theorem dX11_begin_134 : decode cX11_begin 134 = .ok (.iaload, 1) := by decide +kernel
theorem dX11_begin_135 : decode cX11_begin 135 = .ok (.aload_n 0, 1) := by decide +kernel
theorem dX11_begin_136 : decode cX11_begin 136 = .ok (.getfield 82, 3) := by decide +kernel
theorem dX11_begin_139 : decode cX11_begin 139 = .ok (.if_icmp .ne 54, 3) := by decide +kernel
theorem dX11_begin_142 : decode cX11_begin 142 = .ok (.aload_n 0, 1) := by decide +kernel
theorem dX11_begin_143 : decode cX11_begin 143 = .ok (.getfield 100, 3) := by decide +kernel
theorem dX11_begin_146 : decode cX11_begin 146 = .ok (.iload 7, 2) := by decide +kernel
theorem dX11_begin_148 : decode cX11_begin 148 = .ok (.iaload, 1) := by decide +kernel
theorem dX11_begin_149 : decode cX11_begin 149 = .ok (.iload_n 2, 1) := by decide +kernel
theorem dX11_begin_150 : decode cX11_begin 150 = .ok (.if_icmp .ne 43, 3) := by decide +kernel
theorem dX11_begin_153 : decode cX11_begin 153 = .ok (.aload_n 0, 1) := by decide +kernel
theorem dX11_begin_154 : decode cX11_begin 154 = .ok (.getfield 112, 3) := by decide +kernel
theorem dX11_begin_157 : decode cX11_begin 157 = .ok (.iload 7, 2) := by decide +kernel
theorem dX11_begin_159 : decode cX11_begin 159 = .ok (.iaload, 1) := by decide +kernel
theorem dX11_begin_160 : decode cX11_begin 160 = .ok (.iconst 4, 1) := by decide +kernel
theorem dX11_begin_161 : decode cX11_begin 161 = .ok (.if_icmp .ne 6, 3) := by decide +kernel
theorem dX11_begin_164 : decode cX11_begin 164 = .ok (.goto 29, 3) := by decide +kernel
theorem dX11_begin_167 : decode cX11_begin 167 = .ok (.iinc 5 1, 3) := by decide +kernel
theorem dX11_begin_170 : decode cX11_begin 170 = .ok (.iload 6, 2) := by decide +kernel
theorem dX11_begin_172 : decode cX11_begin 172 = .ok (.ifCond .ne 14, 3) := by decide +kernel
theorem dX11_begin_175 : decode cX11_begin 175 = .ok (.aload_n 0, 1) := by decide +kernel
theorem dX11_begin_176 : decode cX11_begin 176 = .ok (.getfield 112, 3) := by decide +kernel
theorem dX11_begin_179 : decode cX11_begin 179 = .ok (.iload 7, 2) := by decide +kernel
theorem dX11_begin_181 : decode cX11_begin 181 = .ok (.iaload, 1) := by decide +kernel
theorem dX11_begin_182 : decode cX11_begin 182 = .ok (.iconst 1, 1) := by decide +kernel
theorem dX11_begin_183 : decode cX11_begin 183 = .ok (.if_icmp .ne 7, 3) := by decide +kernel
theorem dX11_begin_186 : decode cX11_begin 186 = .ok (.iconst 1, 1) := by decide +kernel
theorem dX11_begin_187 : decode cX11_begin 187 = .ok (.goto 4, 3) := by decide +kernel
theorem dX11_begin_190 : decode cX11_begin 190 = .ok (.iconst 0, 1) := by decide +kernel
theorem dX11_begin_191 : decode cX11_begin 191 = .ok (.istore 6, 2) := by decide +kernel
theorem dX11_begin_193 : decode cX11_begin 193 = .ok (.iinc 7 1, 3) := by decide +kernel
theorem dX11_begin_196 : decode cX11_begin 196 = .ok (.goto (-88), 3) := by decide +kernel
theorem dX11_begin_199 : decode cX11_begin 199 = .ok (.iload 6, 2) := by decide +kernel
theorem dX11_begin_201 : decode cX11_begin 201 = .ok (.ifCond .ne 17, 3) := by decide +kernel
theorem dX11_begin_204 : decode cX11_begin 204 = .ok (.iload 5, 2) := by decide +kernel
theorem dX11_begin_206 : decode cX11_begin 206 = .ok (.aload_n 0, 1) := by decide +kernel
theorem dX11_begin_207 : decode cX11_begin 207 = .ok (.getfield 24, 3) := by decide +kernel
theorem dX11_begin_210 : decode cX11_begin 210 = .ok (.aload_n 0, 1) := by decide +kernel
theorem dX11_begin_211 : decode cX11_begin 211 = .ok (.getfield 82, 3) := by decide +kernel
theorem dX11_begin_214 : decode cX11_begin 214 = .ok (.iaload, 1) := by decide +kernel
theorem dX11_begin_215 : decode cX11_begin 215 = .ok (.if_icmp .lt 10, 3) := by decide +kernel
theorem dX11_begin_218 : decode cX11_begin 218 = .ok (.aload_n 0, 1) := by decide +kernel
theorem dX11_begin_219 : decode cX11_begin 219 = .ok (.bipush 6, 2) := by decide +kernel
theorem dX11_begin_221 : decode cX11_begin 221 = .ok (.invokevirtual 295, 3) := by decide +kernel
theorem dX11_begin_224 : decode cX11_begin 224 = .ok (.ireturn, 1) := by decide +kernel
theorem dX11_begin_225 : decode cX11_begin 225 = .ok (.aload_n 0, 1) := by decide +kernel
theorem dX11_begin_226 : decode cX11_begin 226 = .ok (.getfield 319, 3) := by decide +kernel
theorem dX11_begin_229 : decode cX11_begin 229 = .ok (.sipush 300, 3) := by decide +kernel
theorem dX11_begin_232 : decode cX11_begin 232 = .ok (.if_icmp .ne 9, 3) := by decide +kernel
theorem dX11_begin_235 : decode cX11_begin 235 = .ok (.aload_n 0, 1) := by decide +kernel
theorem dX11_begin_236 : decode cX11_begin 236 = .ok (.iconst 3, 1) := by decide +kernel
theorem dX11_begin_237 : decode cX11_begin 237 = .ok (.invokevirtual 295, 3) := by decide +kernel
theorem dX11_begin_240 : decode cX11_begin 240 = .ok (.ireturn, 1) := by decide +kernel
theorem dX11_begin_241 : decode cX11_begin 241 = .ok (.aload_n 0, 1) := by decide +kernel
theorem dX11_begin_242 : decode cX11_begin 242 = .ok (.iload_n 1, 1) := by decide +kernel
theorem dX11_begin_243 : decode cX11_begin 243 = .ok (.iload_n 2, 1) := by decide +kernel
theorem dX11_begin_244 : decode cX11_begin 244 = .ok (.invokevirtual 358, 3) := by decide +kernel
theorem dX11_begin_247 : decode cX11_begin 247 = .ok (.ifCond .eq 10, 3) := by decide +kernel
theorem dX11_begin_250 : decode cX11_begin 250 = .ok (.aload_n 0, 1) := by decide +kernel
theorem dX11_begin_251 : decode cX11_begin 251 = .ok (.bipush 7, 2) := by decide +kernel
theorem dX11_begin_253 : decode cX11_begin 253 = .ok (.invokevirtual 295, 3) := by decide +kernel
theorem dX11_begin_256 : decode cX11_begin 256 = .ok (.ireturn, 1) := by decide +kernel
theorem dX11_begin_257 : decode cX11_begin 257 = .ok (.iload_n 3, 1) := by decide +kernel
theorem dX11_begin_258 : decode cX11_begin 258 = .ok (.aload_n 0, 1) := by decide +kernel
theorem dX11_begin_259 : decode cX11_begin 259 = .ok (.iload_n 1, 1) := by decide +kernel
theorem dX11_begin_260 : decode cX11_begin 260 = .ok (.invokevirtual 361, 3) := by decide +kernel
theorem dX11_begin_263 : decode cX11_begin 263 = .ok (.if_icmp .ge 10, 3) := by decide +kernel
theorem dX11_begin_266 : decode cX11_begin 266 = .ok (.aload_n 0, 1) := by decide +kernel
theorem dX11_begin_267 : decode cX11_begin 267 = .ok (.bipush 8, 2) := by decide +kernel
theorem dX11_begin_269 : decode cX11_begin 269 = .ok (.invokevirtual 295, 3) := by decide +kernel
theorem dX11_begin_272 : decode cX11_begin 272 = .ok (.ireturn, 1) := by decide +kernel
theorem dX11_begin_273 : decode cX11_begin 273 = .ok (.aload_n 0, 1) := by decide +kernel
theorem dX11_begin_274 : decode cX11_begin 274 = .ok (.getfield 94, 3) := by decide +kernel
theorem dX11_begin_277 : decode cX11_begin 277 = .ok (.aload_n 0, 1) := by decide +kernel
theorem dX11_begin_278 : decode cX11_begin 278 = .ok (.getfield 319, 3) := by decide +kernel
theorem dX11_begin_281 : decode cX11_begin 281 = .ok (.iload_n 1, 1) := by decide +kernel
theorem dX11_begin_282 : decode cX11_begin 282 = .ok (.iastore, 1) := by decide +kernel
theorem dX11_begin_283 : decode cX11_begin 283 = .ok (.aload_n 0, 1) := by decide +kernel
theorem dX11_begin_284 : decode cX11_begin 284 = .ok (.getfield 97, 3) := by decide +kernel
theorem dX11_begin_287 : decode cX11_begin 287 = .ok (.aload_n 0, 1) := by decide +kernel
theorem dX11_begin_288 : decode cX11_begin 288 = .ok (.getfield 319, 3) := by decide +kernel
theorem dX11_begin_291 : decode cX11_begin 291 = .ok (.aload_n 0, 1) := by decide +kernel
theorem dX11_begin_292 : decode cX11_begin 292 = .ok (.getfield 82, 3) := by decide +kernel
theorem dX11_begin_295 : decode cX11_begin 295 = .ok (.iastore, 1) := by decide +kernel
theorem dX11_begin_296 : decode cX11_begin 296 = .ok (.aload_n 0, 1) := by decide +kernel
theorem dX11_begin_297 : decode cX11_begin 297 = .ok (.getfield 100, 3) := by decide +kernel
theorem dX11_begin_300 : decode cX11_begin 300 = .ok (.aload_n 0, 1) := by decide +kernel
theorem dX11_begin_301 : decode cX11_begin 301 = .ok (.getfield 319, 3) := by decide +kernel
theorem dX11_begin_304 : decode cX11_begin 304 = .ok (.iload_n 2, 1) := by decide +kernel
theorem dX11_begin_305 : decode cX11_begin 305 = .ok (.iastore, 1) := by decide +kernel
theorem dX11_begin_306 : decode cX11_begin 306 = .ok (.aload_n 0, 1) := by decide +kernel
theorem dX11_begin_307 : decode cX11_begin 307 = .ok (.getfield 103, 3) := by decide +kernel
theorem dX11_begin_310 : decode cX11_begin 310 = .ok (.aload_n 0, 1) := by decide +kernel
theorem dX11_begin_311 : decode cX11_begin 311 = .ok (.getfield 319, 3) := by decide +kernel
theorem dX11_begin_314 : decode cX11_begin 314 = .ok (.iload_n 3, 1) := by decide +kernel
theorem dX11_begin_315 : decode cX11_begin 315 = .ok (.iastore, 1) := by decide +kernel
theorem dX11_begin_316 : decode cX11_begin 316 = .ok (.aload_n 0, 1) := by decide +kernel
theorem dX11_begin_317 : decode cX11_begin 317 = .ok (.getfield 106, 3) := by decide +kernel
theorem dX11_begin_320 : decode cX11_begin 320 = .ok (.aload_n 0, 1) := by decide +kernel
theorem dX11_begin_321 : decode cX11_begin 321 = .ok (.getfield 319, 3) := by decide +kernel
theorem dX11_begin_324 : decode cX11_begin 324 = .ok (.iconst (-1), 1) := by decide +kernel
theorem dX11_begin_325 : decode cX11_begin 325 = .ok (.iastore, 1) := by decide +kernel
theorem dX11_begin_326 : decode cX11_begin 326 = .ok (.aload_n 0, 1) := by decide +kernel
theorem dX11_begin_327 : decode cX11_begin 327 = .ok (.getfield 109, 3) := by decide +kernel
theorem dX11_begin_330 : decode cX11_begin 330 = .ok (.aload_n 0, 1) := by decide +kernel
theorem dX11_begin_331 : decode cX11_begin 331 = .ok (.getfield 319, 3) := by decide +kernel
theorem dX11_begin_334 : decode cX11_begin 334 = .ok (.iconst 0, 1) := by decide +kernel
theorem dX11_begin_335 : decode cX11_begin 335 = .ok (.iastore, 1) := by decide +kernel
theorem dX11_begin_336 : decode cX11_begin 336 = .ok (.aload_n 0, 1) := by decide +kernel
theorem dX11_begin_337 : decode cX11_begin 337 = .ok (.getfield 112, 3) := by decide +kernel
theorem dX11_begin_340 : decode cX11_begin 340 = .ok (.aload_n 0, 1) := by decide +kernel
theorem dX11_begin_341 : decode cX11_begin 341 = .ok (.getfield 319, 3) := by decide +kernel
theorem dX11_begin_344 : decode cX11_begin 344 = .ok (.iconst 0, 1) := by decide +kernel
theorem dX11_begin_345 : decode cX11_begin 345 = .ok (.iastore, 1) := by decide +kernel
theorem dX11_begin_346 : decode cX11_begin 346 = .ok (.aload_n 0, 1) := by decide +kernel
theorem dX11_begin_347 : decode cX11_begin 347 = .ok (.getfield 79, 3) := by decide +kernel
theorem dX11_begin_350 : decode cX11_begin 350 = .ok (.aload_n 0, 1) := by decide +kernel
theorem dX11_begin_351 : decode cX11_begin 351 = .ok (.getfield 82, 3) := by decide +kernel
theorem dX11_begin_354 : decode cX11_begin 354 = .ok (.iload_n 2, 1) := by decide +kernel
theorem dX11_begin_355 : decode cX11_begin 355 = .ok (.invokestatic 335, 3) := by decide +kernel
theorem dX11_begin_358 : decode cX11_begin 358 = .ok (.dup2, 1) := by decide +kernel
theorem dX11_begin_359 : decode cX11_begin 359 = .ok (.iaload, 1) := by decide +kernel
theorem dX11_begin_360 : decode cX11_begin 360 = .ok (.iconst 1, 1) := by decide +kernel
theorem dX11_begin_361 : decode cX11_begin 361 = .ok (.iadd, 1) := by decide +kernel
theorem dX11_begin_362 : decode cX11_begin 362 = .ok (.iastore, 1) := by decide +kernel
theorem dX11_begin_363 : decode cX11_begin 363 = .ok (.aload_n 0, 1) := by decide +kernel
theorem dX11_begin_364 : decode cX11_begin 364 = .ok (.dup, 1) := by decide +kernel
theorem dX11_begin_365 : decode cX11_begin 365 = .ok (.getfield 319, 3) := by decide +kernel
theorem dX11_begin_368 : decode cX11_begin 368 = .ok (.iconst 1, 1) := by decide +kernel
theorem dX11_begin_369 : decode cX11_begin 369 = .ok (.iadd, 1) := by decide +kernel
theorem dX11_begin_370 : decode cX11_begin 370 = .ok (.putfield 319, 3) := by decide +kernel
theorem dX11_begin_373 : decode cX11_begin 373 = .ok (.aload_n 0, 1) := by decide +kernel
theorem dX11_begin_374 : decode cX11_begin 374 = .ok (.getfield 319, 3) := by decide +kernel
theorem dX11_begin_377 : decode cX11_begin 377 = .ok (.iconst 1, 1) := by decide +kernel
theorem dX11_begin_378 : decode cX11_begin 378 = .ok (.isub, 1) := by decide +kernel
theorem dX11_begin_379 : decode cX11_begin 379 = .ok (.ireturn, 1) := by decide +kernel
