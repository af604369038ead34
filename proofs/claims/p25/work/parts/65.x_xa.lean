section
theorem dG_dX11_readExpression_0 : (decode cX11_readExpression 0 = .ok (.aload_n 0, 1)) ∧ (decode cX11_readExpression 1 = .ok (.iconst 0, 1)) ∧ (decode cX11_readExpression 2 = .ok (.putfield 217, 3)) ∧ (decode cX11_readExpression 5 = .ok (.aload_n 0, 1)) ∧ (decode cX11_readExpression 6 = .ok (.iconst 0, 1)) ∧ (decode cX11_readExpression 7 = .ok (.putfield 249, 3)) ∧ (decode cX11_readExpression 10 = .ok (.aload_n 0, 1)) ∧ (decode cX11_readExpression 11 = .ok (.iconst 0, 1)) ∧ (decode cX11_readExpression 12 = .ok (.putfield 255, 3)) ∧ (decode cX11_readExpression 15 = .ok (.aload_n 0, 1)) ∧ (decode cX11_readExpression 16 = .ok (.iconst 0, 1)) ∧ (decode cX11_readExpression 17 = .ok (.putfield 252, 3)) := by decide +kernel
theorem dX11_readExpression_0 : decode cX11_readExpression 0 = .ok (.aload_n 0, 1) := dG_dX11_readExpression_0.1
theorem dX11_readExpression_1 : decode cX11_readExpression 1 = .ok (.iconst 0, 1) := dG_dX11_readExpression_0.2.1
theorem dX11_readExpression_2 : decode cX11_readExpression 2 = .ok (.putfield 217, 3) := dG_dX11_readExpression_0.2.2.1
theorem dX11_readExpression_5 : decode cX11_readExpression 5 = .ok (.aload_n 0, 1) := dG_dX11_readExpression_0.2.2.2.1
theorem dX11_readExpression_6 : decode cX11_readExpression 6 = .ok (.iconst 0, 1) := dG_dX11_readExpression_0.2.2.2.2.1
theorem dX11_readExpression_7 : decode cX11_readExpression 7 = .ok (.putfield 249, 3) := dG_dX11_readExpression_0.2.2.2.2.2.1
theorem dX11_readExpression_10 : decode cX11_readExpression 10 = .ok (.aload_n 0, 1) := dG_dX11_readExpression_0.2.2.2.2.2.2.1
theorem dX11_readExpression_11 : decode cX11_readExpression 11 = .ok (.iconst 0, 1) := dG_dX11_readExpression_0.2.2.2.2.2.2.2.1
theorem dX11_readExpression_12 : decode cX11_readExpression 12 = .ok (.putfield 255, 3) := dG_dX11_readExpression_0.2.2.2.2.2.2.2.2.1
theorem dX11_readExpression_15 : decode cX11_readExpression 15 = .ok (.aload_n 0, 1) := dG_dX11_readExpression_0.2.2.2.2.2.2.2.2.2.1
theorem dX11_readExpression_16 : decode cX11_readExpression 16 = .ok (.iconst 0, 1) := dG_dX11_readExpression_0.2.2.2.2.2.2.2.2.2.2.1
theorem dX11_readExpression_17 : decode cX11_readExpression 17 = .ok (.putfield 252, 3) := dG_dX11_readExpression_0.2.2.2.2.2.2.2.2.2.2.2
theorem dG_dX11_readExpression_20 : (decode cX11_readExpression 20 = .ok (.iconst 0, 1)) ∧ (decode cX11_readExpression 21 = .ok (.istore_n 1, 1)) ∧ (decode cX11_readExpression 22 = .ok (.iconst 1, 1)) ∧ (decode cX11_readExpression 23 = .ok (.istore_n 2, 1)) ∧ (decode cX11_readExpression 24 = .ok (.iload_n 2, 1)) ∧ (decode cX11_readExpression 25 = .ok (.ifCond .eq 176, 3)) ∧ (decode cX11_readExpression 28 = .ok (.aload_n 0, 1)) ∧ (decode cX11_readExpression 29 = .ok (.getfield 188, 3)) ∧ (decode cX11_readExpression 32 = .ok (.ifCond .ne 169, 3)) ∧ (decode cX11_readExpression 35 = .ok (.iload_n 1, 1)) ∧ (decode cX11_readExpression 36 = .ok (.ifCond .ne 26, 3)) ∧ (decode cX11_readExpression 39 = .ok (.aload_n 0, 1)) := by decide +kernel
theorem dX11_readExpression_20 : decode cX11_readExpression 20 = .ok (.iconst 0, 1) := dG_dX11_readExpression_20.1
theorem dX11_readExpression_21 : decode cX11_readExpression 21 = .ok (.istore_n 1, 1) := dG_dX11_readExpression_20.2.1
theorem dX11_readExpression_22 : decode cX11_readExpression 22 = .ok (.iconst 1, 1) := dG_dX11_readExpression_20.2.2.1
theorem dX11_readExpression_23 : decode cX11_readExpression 23 = .ok (.istore_n 2, 1) := dG_dX11_readExpression_20.2.2.2.1
theorem dX11_readExpression_24 : decode cX11_readExpression 24 = .ok (.iload_n 2, 1) := dG_dX11_readExpression_20.2.2.2.2.1
theorem dX11_readExpression_25 : decode cX11_readExpression 25 = .ok (.ifCond .eq 176, 3) := dG_dX11_readExpression_20.2.2.2.2.2.1
theorem dX11_readExpression_28 : decode cX11_readExpression 28 = .ok (.aload_n 0, 1) := dG_dX11_readExpression_20.2.2.2.2.2.2.1
theorem dX11_readExpression_29 : decode cX11_readExpression 29 = .ok (.getfield 188, 3) := dG_dX11_readExpression_20.2.2.2.2.2.2.2.1
theorem dX11_readExpression_32 : decode cX11_readExpression 32 = .ok (.ifCond .ne 169, 3) := dG_dX11_readExpression_20.2.2.2.2.2.2.2.2.1
theorem dX11_readExpression_35 : decode cX11_readExpression 35 = .ok (.iload_n 1, 1) := dG_dX11_readExpression_20.2.2.2.2.2.2.2.2.2.1
theorem dX11_readExpression_36 : decode cX11_readExpression 36 = .ok (.ifCond .ne 26, 3) := dG_dX11_readExpression_20.2.2.2.2.2.2.2.2.2.2.1
theorem dX11_readExpression_39 : decode cX11_readExpression 39 = .ok (.aload_n 0, 1) := dG_dX11_readExpression_20.2.2.2.2.2.2.2.2.2.2.2
theorem dG_dX11_readExpression_40 : (decode cX11_readExpression 40 = .ok (.invokevirtual 264, 3)) ∧ (decode cX11_readExpression 43 = .ok (.istore_n 1, 1)) ∧ (decode cX11_readExpression 44 = .ok (.iload_n 1, 1)) ∧ (decode cX11_readExpression 45 = .ok (.ifCond .eq (-21), 3)) ∧ (decode cX11_readExpression 48 = .ok (.aload_n 0, 1)) ∧ (decode cX11_readExpression 49 = .ok (.getfield 188, 3)) ∧ (decode cX11_readExpression 52 = .ok (.ifCond .ne (-28), 3)) ∧ (decode cX11_readExpression 55 = .ok (.aload_n 0, 1)) ∧ (decode cX11_readExpression 56 = .ok (.invokevirtual 268, 3)) ∧ (decode cX11_readExpression 59 = .ok (.goto (-35), 3)) ∧ (decode cX11_readExpression 62 = .ok (.aload_n 0, 1)) ∧ (decode cX11_readExpression 63 = .ok (.bipush 43, 2)) := by decide +kernel
theorem dX11_readExpression_40 : decode cX11_readExpression 40 = .ok (.invokevirtual 264, 3) := dG_dX11_readExpression_40.1
theorem dX11_readExpression_43 : decode cX11_readExpression 43 = .ok (.istore_n 1, 1) := dG_dX11_readExpression_40.2.1
theorem dX11_readExpression_44 : decode cX11_readExpression 44 = .ok (.iload_n 1, 1) := dG_dX11_readExpression_40.2.2.1
theorem dX11_readExpression_45 : decode cX11_readExpression 45 = .ok (.ifCond .eq (-21), 3) := dG_dX11_readExpression_40.2.2.2.1
theorem dX11_readExpression_48 : decode cX11_readExpression 48 = .ok (.aload_n 0, 1) := dG_dX11_readExpression_40.2.2.2.2.1
theorem dX11_readExpression_49 : decode cX11_readExpression 49 = .ok (.getfield 188, 3) := dG_dX11_readExpression_40.2.2.2.2.2.1
theorem dX11_readExpression_52 : decode cX11_readExpression 52 = .ok (.ifCond .ne (-28), 3) := dG_dX11_readExpression_40.2.2.2.2.2.2.1
theorem dX11_readExpression_55 : decode cX11_readExpression 55 = .ok (.aload_n 0, 1) := dG_dX11_readExpression_40.2.2.2.2.2.2.2.1
theorem dX11_readExpression_56 : decode cX11_readExpression 56 = .ok (.invokevirtual 268, 3) := dG_dX11_readExpression_40.2.2.2.2.2.2.2.2.1
theorem dX11_readExpression_59 : decode cX11_readExpression 59 = .ok (.goto (-35), 3) := dG_dX11_readExpression_40.2.2.2.2.2.2.2.2.2.1
theorem dX11_readExpression_62 : decode cX11_readExpression 62 = .ok (.aload_n 0, 1) := dG_dX11_readExpression_40.2.2.2.2.2.2.2.2.2.2.1
theorem dX11_readExpression_63 : decode cX11_readExpression 63 = .ok (.bipush 43, 2) := dG_dX11_readExpression_40.2.2.2.2.2.2.2.2.2.2.2
theorem dG_dX11_readExpression_65 : (decode cX11_readExpression 65 = .ok (.invokevirtual 204, 3)) ∧ (decode cX11_readExpression 68 = .ok (.ifCond .eq 8, 3)) ∧ (decode cX11_readExpression 71 = .ok (.bipush 7, 2)) ∧ (decode cX11_readExpression 73 = .ok (.goto 32, 3)) ∧ (decode cX11_readExpression 76 = .ok (.aload_n 0, 1)) ∧ (decode cX11_readExpression 77 = .ok (.bipush 45, 2)) ∧ (decode cX11_readExpression 79 = .ok (.invokevirtual 204, 3)) ∧ (decode cX11_readExpression 82 = .ok (.ifCond .eq 8, 3)) ∧ (decode cX11_readExpression 85 = .ok (.bipush 8, 2)) ∧ (decode cX11_readExpression 87 = .ok (.goto 18, 3)) ∧ (decode cX11_readExpression 90 = .ok (.aload_n 0, 1)) ∧ (decode cX11_readExpression 91 = .ok (.bipush 42, 2)) := by decide +kernel
theorem dX11_readExpression_65 : decode cX11_readExpression 65 = .ok (.invokevirtual 204, 3) := dG_dX11_readExpression_65.1
theorem dX11_readExpression_68 : decode cX11_readExpression 68 = .ok (.ifCond .eq 8, 3) := dG_dX11_readExpression_65.2.1
theorem dX11_readExpression_71 : decode cX11_readExpression 71 = .ok (.bipush 7, 2) := dG_dX11_readExpression_65.2.2.1
theorem dX11_readExpression_73 : decode cX11_readExpression 73 = .ok (.goto 32, 3) := dG_dX11_readExpression_65.2.2.2.1
theorem dX11_readExpression_76 : decode cX11_readExpression 76 = .ok (.aload_n 0, 1) := dG_dX11_readExpression_65.2.2.2.2.1
theorem dX11_readExpression_77 : decode cX11_readExpression 77 = .ok (.bipush 45, 2) := dG_dX11_readExpression_65.2.2.2.2.2.1
theorem dX11_readExpression_79 : decode cX11_readExpression 79 = .ok (.invokevirtual 204, 3) := dG_dX11_readExpression_65.2.2.2.2.2.2.1
theorem dX11_readExpression_82 : decode cX11_readExpression 82 = .ok (.ifCond .eq 8, 3) := dG_dX11_readExpression_65.2.2.2.2.2.2.2.1
theorem dX11_readExpression_85 : decode cX11_readExpression 85 = .ok (.bipush 8, 2) := dG_dX11_readExpression_65.2.2.2.2.2.2.2.2.1
theorem dX11_readExpression_87 : decode cX11_readExpression 87 = .ok (.goto 18, 3) := dG_dX11_readExpression_65.2.2.2.2.2.2.2.2.2.1
theorem dX11_readExpression_90 : decode cX11_readExpression 90 = .ok (.aload_n 0, 1) := dG_dX11_readExpression_65.2.2.2.2.2.2.2.2.2.2.1
theorem dX11_readExpression_91 : decode cX11_readExpression 91 = .ok (.bipush 42, 2) := dG_dX11_readExpression_65.2.2.2.2.2.2.2.2.2.2.2
theorem dG_dX11_readExpression_93 : (decode cX11_readExpression 93 = .ok (.invokevirtual 204, 3)) ∧ (decode cX11_readExpression 96 = .ok (.ifCond .eq 8, 3)) ∧ (decode cX11_readExpression 99 = .ok (.bipush 9, 2)) ∧ (decode cX11_readExpression 101 = .ok (.goto 4, 3)) ∧ (decode cX11_readExpression 104 = .ok (.iconst 0, 1)) ∧ (decode cX11_readExpression 105 = .ok (.istore_n 3, 1)) ∧ (decode cX11_readExpression 106 = .ok (.iload_n 3, 1)) ∧ (decode cX11_readExpression 107 = .ok (.ifCond .le 37, 3)) ∧ (decode cX11_readExpression 110 = .ok (.aload_n 0, 1)) ∧ (decode cX11_readExpression 111 = .ok (.invokevirtual 271, 3)) ∧ (decode cX11_readExpression 114 = .ok (.aload_n 0, 1)) ∧ (decode cX11_readExpression 115 = .ok (.getfield 188, 3)) := by decide +kernel
theorem dX11_readExpression_93 : decode cX11_readExpression 93 = .ok (.invokevirtual 204, 3) := dG_dX11_readExpression_93.1
theorem dX11_readExpression_96 : decode cX11_readExpression 96 = .ok (.ifCond .eq 8, 3) := dG_dX11_readExpression_93.2.1
theorem dX11_readExpression_99 : decode cX11_readExpression 99 = .ok (.bipush 9, 2) := dG_dX11_readExpression_93.2.2.1
theorem dX11_readExpression_101 : decode cX11_readExpression 101 = .ok (.goto 4, 3) := dG_dX11_readExpression_93.2.2.2.1
theorem dX11_readExpression_104 : decode cX11_readExpression 104 = .ok (.iconst 0, 1) := dG_dX11_readExpression_93.2.2.2.2.1
theorem dX11_readExpression_105 : decode cX11_readExpression 105 = .ok (.istore_n 3, 1) := dG_dX11_readExpression_93.2.2.2.2.2.1
theorem dX11_readExpression_106 : decode cX11_readExpression 106 = .ok (.iload_n 3, 1) := dG_dX11_readExpression_93.2.2.2.2.2.2.1
theorem dX11_readExpression_107 : decode cX11_readExpression 107 = .ok (.ifCond .le 37, 3) := dG_dX11_readExpression_93.2.2.2.2.2.2.2.1
theorem dX11_readExpression_110 : decode cX11_readExpression 110 = .ok (.aload_n 0, 1) := dG_dX11_readExpression_93.2.2.2.2.2.2.2.2.1
theorem dX11_readExpression_111 : decode cX11_readExpression 111 = .ok (.invokevirtual 271, 3) := dG_dX11_readExpression_93.2.2.2.2.2.2.2.2.2.1
theorem dX11_readExpression_114 : decode cX11_readExpression 114 = .ok (.aload_n 0, 1) := dG_dX11_readExpression_93.2.2.2.2.2.2.2.2.2.2.1
theorem dX11_readExpression_115 : decode cX11_readExpression 115 = .ok (.getfield 188, 3) := dG_dX11_readExpression_93.2.2.2.2.2.2.2.2.2.2.2
theorem dG_dX11_readExpression_118 : (decode cX11_readExpression 118 = .ok (.ifCond .le 4, 3)) ∧ (decode cX11_readExpression 121 = .ok (.return_, 1)) ∧ (decode cX11_readExpression 122 = .ok (.aload_n 0, 1)) ∧ (decode cX11_readExpression 123 = .ok (.iload_n 3, 1)) ∧ (decode cX11_readExpression 124 = .ok (.invokestatic 258, 3)) ∧ (decode cX11_readExpression 127 = .ok (.invokevirtual 274, 3)) ∧ (decode cX11_readExpression 130 = .ok (.aload_n 0, 1)) ∧ (decode cX11_readExpression 131 = .ok (.iload_n 3, 1)) ∧ (decode cX11_readExpression 132 = .ok (.invokevirtual 277, 3)) ∧ (decode cX11_readExpression 135 = .ok (.aload_n 0, 1)) ∧ (decode cX11_readExpression 136 = .ok (.invokevirtual 201, 3)) ∧ (decode cX11_readExpression 139 = .ok (.iconst 0, 1)) := by decide +kernel
theorem dX11_readExpression_118 : decode cX11_readExpression 118 = .ok (.ifCond .le 4, 3) := dG_dX11_readExpression_118.1
theorem dX11_readExpression_121 : decode cX11_readExpression 121 = .ok (.return_, 1) := dG_dX11_readExpression_118.2.1
theorem dX11_readExpression_122 : decode cX11_readExpression 122 = .ok (.aload_n 0, 1) := dG_dX11_readExpression_118.2.2.1
theorem dX11_readExpression_123 : decode cX11_readExpression 123 = .ok (.iload_n 3, 1) := dG_dX11_readExpression_118.2.2.2.1
theorem dX11_readExpression_124 : decode cX11_readExpression 124 = .ok (.invokestatic 258, 3) := dG_dX11_readExpression_118.2.2.2.2.1
theorem dX11_readExpression_127 : decode cX11_readExpression 127 = .ok (.invokevirtual 274, 3) := dG_dX11_readExpression_118.2.2.2.2.2.1
theorem dX11_readExpression_130 : decode cX11_readExpression 130 = .ok (.aload_n 0, 1) := dG_dX11_readExpression_118.2.2.2.2.2.2.1
theorem dX11_readExpression_131 : decode cX11_readExpression 131 = .ok (.iload_n 3, 1) := dG_dX11_readExpression_118.2.2.2.2.2.2.2.1
theorem dX11_readExpression_132 : decode cX11_readExpression 132 = .ok (.invokevirtual 277, 3) := dG_dX11_readExpression_118.2.2.2.2.2.2.2.2.1
theorem dX11_readExpression_135 : decode cX11_readExpression 135 = .ok (.aload_n 0, 1) := dG_dX11_readExpression_118.2.2.2.2.2.2.2.2.2.1
theorem dX11_readExpression_136 : decode cX11_readExpression 136 = .ok (.invokevirtual 201, 3) := dG_dX11_readExpression_118.2.2.2.2.2.2.2.2.2.2.1
theorem dX11_readExpression_139 : decode cX11_readExpression 139 = .ok (.iconst 0, 1) := dG_dX11_readExpression_118.2.2.2.2.2.2.2.2.2.2.2
theorem dG_dX11_readExpression_140 : (decode cX11_readExpression 140 = .ok (.istore_n 1, 1)) ∧ (decode cX11_readExpression 141 = .ok (.goto 57, 3)) ∧ (decode cX11_readExpression 144 = .ok (.aload_n 0, 1)) ∧ (decode cX11_readExpression 145 = .ok (.bipush 41, 2)) ∧ (decode cX11_readExpression 147 = .ok (.invokevirtual 204, 3)) ∧ (decode cX11_readExpression 150 = .ok (.ifCond .eq 46, 3)) ∧ (decode cX11_readExpression 153 = .ok (.aload_n 0, 1)) ∧ (decode cX11_readExpression 154 = .ok (.invokevirtual 280, 3)) ∧ (decode cX11_readExpression 157 = .ok (.ifCond .eq 39, 3)) ∧ (decode cX11_readExpression 160 = .ok (.aload_n 0, 1)) ∧ (decode cX11_readExpression 161 = .ok (.iconst 1, 1)) ∧ (decode cX11_readExpression 162 = .ok (.invokevirtual 274, 3)) := by decide +kernel
theorem dX11_readExpression_140 : decode cX11_readExpression 140 = .ok (.istore_n 1, 1) := dG_dX11_readExpression_140.1
theorem dX11_readExpression_141 : decode cX11_readExpression 141 = .ok (.goto 57, 3) := dG_dX11_readExpression_140.2.1
theorem dX11_readExpression_144 : decode cX11_readExpression 144 = .ok (.aload_n 0, 1) := dG_dX11_readExpression_140.2.2.1
theorem dX11_readExpression_145 : decode cX11_readExpression 145 = .ok (.bipush 41, 2) := dG_dX11_readExpression_140.2.2.2.1
theorem dX11_readExpression_147 : decode cX11_readExpression 147 = .ok (.invokevirtual 204, 3) := dG_dX11_readExpression_140.2.2.2.2.1
theorem dX11_readExpression_150 : decode cX11_readExpression 150 = .ok (.ifCond .eq 46, 3) := dG_dX11_readExpression_140.2.2.2.2.2.1
theorem dX11_readExpression_153 : decode cX11_readExpression 153 = .ok (.aload_n 0, 1) := dG_dX11_readExpression_140.2.2.2.2.2.2.1
theorem dX11_readExpression_154 : decode cX11_readExpression 154 = .ok (.invokevirtual 280, 3) := dG_dX11_readExpression_140.2.2.2.2.2.2.2.1
theorem dX11_readExpression_157 : decode cX11_readExpression 157 = .ok (.ifCond .eq 39, 3) := dG_dX11_readExpression_140.2.2.2.2.2.2.2.2.1
theorem dX11_readExpression_160 : decode cX11_readExpression 160 = .ok (.aload_n 0, 1) := dG_dX11_readExpression_140.2.2.2.2.2.2.2.2.2.1
theorem dX11_readExpression_161 : decode cX11_readExpression 161 = .ok (.iconst 1, 1) := dG_dX11_readExpression_140.2.2.2.2.2.2.2.2.2.2.1
theorem dX11_readExpression_162 : decode cX11_readExpression 162 = .ok (.invokevirtual 274, 3) := dG_dX11_readExpression_140.2.2.2.2.2.2.2.2.2.2.2
theorem dG_dX11_readExpression_165 : (decode cX11_readExpression 165 = .ok (.aload_n 0, 1)) ∧ (decode cX11_readExpression 166 = .ok (.dup, 1)) ∧ (decode cX11_readExpression 167 = .ok (.getfield 255, 3)) ∧ (decode cX11_readExpression 170 = .ok (.iconst 1, 1)) ∧ (decode cX11_readExpression 171 = .ok (.isub, 1)) ∧ (decode cX11_readExpression 172 = .ok (.putfield 255, 3)) ∧ (decode cX11_readExpression 175 = .ok (.aload_n 0, 1)) ∧ (decode cX11_readExpression 176 = .ok (.dup, 1)) ∧ (decode cX11_readExpression 177 = .ok (.getfield 252, 3)) ∧ (decode cX11_readExpression 180 = .ok (.iconst 1, 1)) ∧ (decode cX11_readExpression 181 = .ok (.isub, 1)) ∧ (decode cX11_readExpression 182 = .ok (.putfield 252, 3)) := by decide +kernel
theorem dX11_readExpression_165 : decode cX11_readExpression 165 = .ok (.aload_n 0, 1) := dG_dX11_readExpression_165.1
theorem dX11_readExpression_166 : decode cX11_readExpression 166 = .ok (.dup, 1) := dG_dX11_readExpression_165.2.1
theorem dX11_readExpression_167 : decode cX11_readExpression 167 = .ok (.getfield 255, 3) := dG_dX11_readExpression_165.2.2.1
theorem dX11_readExpression_170 : decode cX11_readExpression 170 = .ok (.iconst 1, 1) := dG_dX11_readExpression_165.2.2.2.1
theorem dX11_readExpression_171 : decode cX11_readExpression 171 = .ok (.isub, 1) := dG_dX11_readExpression_165.2.2.2.2.1
theorem dX11_readExpression_172 : decode cX11_readExpression 172 = .ok (.putfield 255, 3) := dG_dX11_readExpression_165.2.2.2.2.2.1
theorem dX11_readExpression_175 : decode cX11_readExpression 175 = .ok (.aload_n 0, 1) := dG_dX11_readExpression_165.2.2.2.2.2.2.1
theorem dX11_readExpression_176 : decode cX11_readExpression 176 = .ok (.dup, 1) := dG_dX11_readExpression_165.2.2.2.2.2.2.2.1
theorem dX11_readExpression_177 : decode cX11_readExpression 177 = .ok (.getfield 252, 3) := dG_dX11_readExpression_165.2.2.2.2.2.2.2.2.1
theorem dX11_readExpression_180 : decode cX11_readExpression 180 = .ok (.iconst 1, 1) := dG_dX11_readExpression_165.2.2.2.2.2.2.2.2.2.1
theorem dX11_readExpression_181 : decode cX11_readExpression 181 = .ok (.isub, 1) := dG_dX11_readExpression_165.2.2.2.2.2.2.2.2.2.2.1
theorem dX11_readExpression_182 : decode cX11_readExpression 182 = .ok (.putfield 252, 3) := dG_dX11_readExpression_165.2.2.2.2.2.2.2.2.2.2.2
theorem dG_dX11_readExpression_185 : (decode cX11_readExpression 185 = .ok (.aload_n 0, 1)) ∧ (decode cX11_readExpression 186 = .ok (.invokevirtual 201, 3)) ∧ (decode cX11_readExpression 189 = .ok (.aload_n 0, 1)) ∧ (decode cX11_readExpression 190 = .ok (.invokevirtual 268, 3)) ∧ (decode cX11_readExpression 193 = .ok (.goto 5, 3)) ∧ (decode cX11_readExpression 196 = .ok (.iconst 0, 1)) ∧ (decode cX11_readExpression 197 = .ok (.istore_n 2, 1)) ∧ (decode cX11_readExpression 198 = .ok (.goto (-174), 3)) ∧ (decode cX11_readExpression 201 = .ok (.aload_n 0, 1)) ∧ (decode cX11_readExpression 202 = .ok (.getfield 188, 3)) ∧ (decode cX11_readExpression 205 = .ok (.ifCond .le 4, 3)) ∧ (decode cX11_readExpression 208 = .ok (.return_, 1)) := by decide +kernel
theorem dX11_readExpression_185 : decode cX11_readExpression 185 = .ok (.aload_n 0, 1) := dG_dX11_readExpression_185.1
theorem dX11_readExpression_186 : decode cX11_readExpression 186 = .ok (.invokevirtual 201, 3) := dG_dX11_readExpression_185.2.1
theorem dX11_readExpression_189 : decode cX11_readExpression 189 = .ok (.aload_n 0, 1) := dG_dX11_readExpression_185.2.2.1
theorem dX11_readExpression_190 : decode cX11_readExpression 190 = .ok (.invokevirtual 268, 3) := dG_dX11_readExpression_185.2.2.2.1
theorem dX11_readExpression_193 : decode cX11_readExpression 193 = .ok (.goto 5, 3) := dG_dX11_readExpression_185.2.2.2.2.1
theorem dX11_readExpression_196 : decode cX11_readExpression 196 = .ok (.iconst 0, 1) := dG_dX11_readExpression_185.2.2.2.2.2.1
theorem dX11_readExpression_197 : decode cX11_readExpression 197 = .ok (.istore_n 2, 1) := dG_dX11_readExpression_185.2.2.2.2.2.2.1
theorem dX11_readExpression_198 : decode cX11_readExpression 198 = .ok (.goto (-174), 3) := dG_dX11_readExpression_185.2.2.2.2.2.2.2.1
theorem dX11_readExpression_201 : decode cX11_readExpression 201 = .ok (.aload_n 0, 1) := dG_dX11_readExpression_185.2.2.2.2.2.2.2.2.1
theorem dX11_readExpression_202 : decode cX11_readExpression 202 = .ok (.getfield 188, 3) := dG_dX11_readExpression_185.2.2.2.2.2.2.2.2.2.1
theorem dX11_readExpression_205 : decode cX11_readExpression 205 = .ok (.ifCond .le 4, 3) := dG_dX11_readExpression_185.2.2.2.2.2.2.2.2.2.2.1
theorem dX11_readExpression_208 : decode cX11_readExpression 208 = .ok (.return_, 1) := dG_dX11_readExpression_185.2.2.2.2.2.2.2.2.2.2.2
theorem dG_dX11_readExpression_209 : (decode cX11_readExpression 209 = .ok (.aload_n 0, 1)) ∧ (decode cX11_readExpression 210 = .ok (.iconst 1, 1)) ∧ (decode cX11_readExpression 211 = .ok (.invokevirtual 274, 3)) ∧ (decode cX11_readExpression 214 = .ok (.aload_n 0, 1)) ∧ (decode cX11_readExpression 215 = .ok (.getfield 255, 3)) ∧ (decode cX11_readExpression 218 = .ok (.ifCond .le 7, 3)) ∧ (decode cX11_readExpression 221 = .ok (.aload_n 0, 1)) ∧ (decode cX11_readExpression 222 = .ok (.invokevirtual 198, 3)) ∧ (decode cX11_readExpression 225 = .ok (.return_, 1)) := by decide +kernel
theorem dX11_readExpression_209 : decode cX11_readExpression 209 = .ok (.aload_n 0, 1) := dG_dX11_readExpression_209.1
theorem dX11_readExpression_210 : decode cX11_readExpression 210 = .ok (.iconst 1, 1) := dG_dX11_readExpression_209.2.1
theorem dX11_readExpression_211 : decode cX11_readExpression 211 = .ok (.invokevirtual 274, 3) := dG_dX11_readExpression_209.2.2.1
theorem dX11_readExpression_214 : decode cX11_readExpression 214 = .ok (.aload_n 0, 1) := dG_dX11_readExpression_209.2.2.2.1
theorem dX11_readExpression_215 : decode cX11_readExpression 215 = .ok (.getfield 255, 3) := dG_dX11_readExpression_209.2.2.2.2.1
theorem dX11_readExpression_218 : decode cX11_readExpression 218 = .ok (.ifCond .le 7, 3) := dG_dX11_readExpression_209.2.2.2.2.2.1
theorem dX11_readExpression_221 : decode cX11_readExpression 221 = .ok (.aload_n 0, 1) := dG_dX11_readExpression_209.2.2.2.2.2.2.1
theorem dX11_readExpression_222 : decode cX11_readExpression 222 = .ok (.invokevirtual 198, 3) := dG_dX11_readExpression_209.2.2.2.2.2.2.2.1
theorem dX11_readExpression_225 : decode cX11_readExpression 225 = .ok (.return_, 1) := dG_dX11_readExpression_209.2.2.2.2.2.2.2.2
end

section
theorem dG_dX11_readKeys_0 : (decode cX11_readKeys 0 = .ok (.aload_n 0, 1)) ∧ (decode cX11_readKeys 1 = .ok (.iconst 0, 1)) ∧ (decode cX11_readKeys 2 = .ok (.putfield 214, 3)) ∧ (decode cX11_readKeys 5 = .ok (.iconst 1, 1)) ∧ (decode cX11_readKeys 6 = .ok (.istore_n 1, 1)) ∧ (decode cX11_readKeys 7 = .ok (.iload_n 1, 1)) ∧ (decode cX11_readKeys 8 = .ok (.ifCond .eq 251, 3)) ∧ (decode cX11_readKeys 11 = .ok (.aload_n 0, 1)) ∧ (decode cX11_readKeys 12 = .ok (.getfield 188, 3)) ∧ (decode cX11_readKeys 15 = .ok (.ifCond .ne 244, 3)) ∧ (decode cX11_readKeys 18 = .ok (.aload_n 0, 1)) ∧ (decode cX11_readKeys 19 = .ok (.bipush 117, 2)) := by decide +kernel
theorem dX11_readKeys_0 : decode cX11_readKeys 0 = .ok (.aload_n 0, 1) := dG_dX11_readKeys_0.1
theorem dX11_readKeys_1 : decode cX11_readKeys 1 = .ok (.iconst 0, 1) := dG_dX11_readKeys_0.2.1
theorem dX11_readKeys_2 : decode cX11_readKeys 2 = .ok (.putfield 214, 3) := dG_dX11_readKeys_0.2.2.1
theorem dX11_readKeys_5 : decode cX11_readKeys 5 = .ok (.iconst 1, 1) := dG_dX11_readKeys_0.2.2.2.1
theorem dX11_readKeys_6 : decode cX11_readKeys 6 = .ok (.istore_n 1, 1) := dG_dX11_readKeys_0.2.2.2.2.1
theorem dX11_readKeys_7 : decode cX11_readKeys 7 = .ok (.iload_n 1, 1) := dG_dX11_readKeys_0.2.2.2.2.2.1
theorem dX11_readKeys_8 : decode cX11_readKeys 8 = .ok (.ifCond .eq 251, 3) := dG_dX11_readKeys_0.2.2.2.2.2.2.1
theorem dX11_readKeys_11 : decode cX11_readKeys 11 = .ok (.aload_n 0, 1) := dG_dX11_readKeys_0.2.2.2.2.2.2.2.1
theorem dX11_readKeys_12 : decode cX11_readKeys 12 = .ok (.getfield 188, 3) := dG_dX11_readKeys_0.2.2.2.2.2.2.2.2.1
theorem dX11_readKeys_15 : decode cX11_readKeys 15 = .ok (.ifCond .ne 244, 3) := dG_dX11_readKeys_0.2.2.2.2.2.2.2.2.2.1
theorem dX11_readKeys_18 : decode cX11_readKeys 18 = .ok (.aload_n 0, 1) := dG_dX11_readKeys_0.2.2.2.2.2.2.2.2.2.2.1
theorem dX11_readKeys_19 : decode cX11_readKeys 19 = .ok (.bipush 117, 2) := dG_dX11_readKeys_0.2.2.2.2.2.2.2.2.2.2.2
theorem dG_dX11_readKeys_21 : (decode cX11_readKeys 21 = .ok (.bipush 112, 2)) ∧ (decode cX11_readKeys 23 = .ok (.iconst 0, 1)) ∧ (decode cX11_readKeys 24 = .ok (.iconst 0, 1)) ∧ (decode cX11_readKeys 25 = .ok (.iconst 0, 1)) ∧ (decode cX11_readKeys 26 = .ok (.iconst 0, 1)) ∧ (decode cX11_readKeys 27 = .ok (.iconst 0, 1)) ∧ (decode cX11_readKeys 28 = .ok (.invokestatic 228, 3)) ∧ (decode cX11_readKeys 31 = .ok (.invokevirtual 232, 3)) ∧ (decode cX11_readKeys 34 = .ok (.istore_n 2, 1)) ∧ (decode cX11_readKeys 35 = .ok (.iload_n 2, 1)) ∧ (decode cX11_readKeys 36 = .ok (.ifCond .ne 31, 3)) ∧ (decode cX11_readKeys 39 = .ok (.aload_n 0, 1)) := by decide +kernel
theorem dX11_readKeys_21 : decode cX11_readKeys 21 = .ok (.bipush 112, 2) := dG_dX11_readKeys_21.1
theorem dX11_readKeys_23 : decode cX11_readKeys 23 = .ok (.iconst 0, 1) := dG_dX11_readKeys_21.2.1
theorem dX11_readKeys_24 : decode cX11_readKeys 24 = .ok (.iconst 0, 1) := dG_dX11_readKeys_21.2.2.1
theorem dX11_readKeys_25 : decode cX11_readKeys 25 = .ok (.iconst 0, 1) := dG_dX11_readKeys_21.2.2.2.1
theorem dX11_readKeys_26 : decode cX11_readKeys 26 = .ok (.iconst 0, 1) := dG_dX11_readKeys_21.2.2.2.2.1
theorem dX11_readKeys_27 : decode cX11_readKeys 27 = .ok (.iconst 0, 1) := dG_dX11_readKeys_21.2.2.2.2.2.1
theorem dX11_readKeys_28 : decode cX11_readKeys 28 = .ok (.invokestatic 228, 3) := dG_dX11_readKeys_21.2.2.2.2.2.2.1
theorem dX11_readKeys_31 : decode cX11_readKeys 31 = .ok (.invokevirtual 232, 3) := dG_dX11_readKeys_21.2.2.2.2.2.2.2.1
theorem dX11_readKeys_34 : decode cX11_readKeys 34 = .ok (.istore_n 2, 1) := dG_dX11_readKeys_21.2.2.2.2.2.2.2.2.1
theorem dX11_readKeys_35 : decode cX11_readKeys 35 = .ok (.iload_n 2, 1) := dG_dX11_readKeys_21.2.2.2.2.2.2.2.2.2.1
theorem dX11_readKeys_36 : decode cX11_readKeys 36 = .ok (.ifCond .ne 31, 3) := dG_dX11_readKeys_21.2.2.2.2.2.2.2.2.2.2.1
theorem dX11_readKeys_39 : decode cX11_readKeys 39 = .ok (.aload_n 0, 1) := dG_dX11_readKeys_21.2.2.2.2.2.2.2.2.2.2.2
theorem dG_dX11_readKeys_40 : (decode cX11_readKeys 40 = .ok (.bipush 100, 2)) ∧ (decode cX11_readKeys 42 = .ok (.bipush 111, 2)) ∧ (decode cX11_readKeys 44 = .ok (.bipush 119, 2)) ∧ (decode cX11_readKeys 46 = .ok (.bipush 110, 2)) ∧ (decode cX11_readKeys 48 = .ok (.iconst 0, 1)) ∧ (decode cX11_readKeys 49 = .ok (.iconst 0, 1)) ∧ (decode cX11_readKeys 50 = .ok (.iconst 0, 1)) ∧ (decode cX11_readKeys 51 = .ok (.invokestatic 228, 3)) ∧ (decode cX11_readKeys 54 = .ok (.invokevirtual 232, 3)) ∧ (decode cX11_readKeys 57 = .ok (.ifCond .ne 10, 3)) ∧ (decode cX11_readKeys 60 = .ok (.aload_n 0, 1)) ∧ (decode cX11_readKeys 61 = .ok (.invokevirtual 198, 3)) := by decide +kernel
theorem dX11_readKeys_40 : decode cX11_readKeys 40 = .ok (.bipush 100, 2) := dG_dX11_readKeys_40.1
theorem dX11_readKeys_42 : decode cX11_readKeys 42 = .ok (.bipush 111, 2) := dG_dX11_readKeys_40.2.1
theorem dX11_readKeys_44 : decode cX11_readKeys 44 = .ok (.bipush 119, 2) := dG_dX11_readKeys_40.2.2.1
theorem dX11_readKeys_46 : decode cX11_readKeys 46 = .ok (.bipush 110, 2) := dG_dX11_readKeys_40.2.2.2.1
theorem dX11_readKeys_48 : decode cX11_readKeys 48 = .ok (.iconst 0, 1) := dG_dX11_readKeys_40.2.2.2.2.1
theorem dX11_readKeys_49 : decode cX11_readKeys 49 = .ok (.iconst 0, 1) := dG_dX11_readKeys_40.2.2.2.2.2.1
theorem dX11_readKeys_50 : decode cX11_readKeys 50 = .ok (.iconst 0, 1) := dG_dX11_readKeys_40.2.2.2.2.2.2.1
theorem dX11_readKeys_51 : decode cX11_readKeys 51 = .ok (.invokestatic 228, 3) := dG_dX11_readKeys_40.2.2.2.2.2.2.2.1
theorem dX11_readKeys_54 : decode cX11_readKeys 54 = .ok (.invokevirtual 232, 3) := dG_dX11_readKeys_40.2.2.2.2.2.2.2.2.1
theorem dX11_readKeys_57 : decode cX11_readKeys 57 = .ok (.ifCond .ne 10, 3) := dG_dX11_readKeys_40.2.2.2.2.2.2.2.2.2.1
theorem dX11_readKeys_60 : decode cX11_readKeys 60 = .ok (.aload_n 0, 1) := dG_dX11_readKeys_40.2.2.2.2.2.2.2.2.2.2.1
theorem dX11_readKeys_61 : decode cX11_readKeys 61 = .ok (.invokevirtual 198, 3) := dG_dX11_readKeys_40.2.2.2.2.2.2.2.2.2.2.2
theorem dG_dX11_readKeys_64 : (decode cX11_readKeys 64 = .ok (.goto 20, 3)) ∧ (decode cX11_readKeys 67 = .ok (.aload_n 0, 1)) ∧ (decode cX11_readKeys 68 = .ok (.getfield 214, 3)) ∧ (decode cX11_readKeys 71 = .ok (.iconst 4, 1)) ∧ (decode cX11_readKeys 72 = .ok (.if_icmp .ne 12, 3)) ∧ (decode cX11_readKeys 75 = .ok (.aload_n 0, 1)) ∧ (decode cX11_readKeys 76 = .ok (.iconst 3, 1)) ∧ (decode cX11_readKeys 77 = .ok (.aload_n 0, 1)) ∧ (decode cX11_readKeys 78 = .ok (.getfield 158, 3)) ∧ (decode cX11_readKeys 81 = .ok (.invokevirtual 194, 3)) ∧ (decode cX11_readKeys 84 = .ok (.aload_n 0, 1)) ∧ (decode cX11_readKeys 85 = .ok (.getfield 188, 3)) := by decide +kernel
theorem dX11_readKeys_64 : decode cX11_readKeys 64 = .ok (.goto 20, 3) := dG_dX11_readKeys_64.1
theorem dX11_readKeys_67 : decode cX11_readKeys 67 = .ok (.aload_n 0, 1) := dG_dX11_readKeys_64.2.1
theorem dX11_readKeys_68 : decode cX11_readKeys 68 = .ok (.getfield 214, 3) := dG_dX11_readKeys_64.2.2.1
theorem dX11_readKeys_71 : decode cX11_readKeys 71 = .ok (.iconst 4, 1) := dG_dX11_readKeys_64.2.2.2.1
theorem dX11_readKeys_72 : decode cX11_readKeys 72 = .ok (.if_icmp .ne 12, 3) := dG_dX11_readKeys_64.2.2.2.2.1
theorem dX11_readKeys_75 : decode cX11_readKeys 75 = .ok (.aload_n 0, 1) := dG_dX11_readKeys_64.2.2.2.2.2.1
theorem dX11_readKeys_76 : decode cX11_readKeys 76 = .ok (.iconst 3, 1) := dG_dX11_readKeys_64.2.2.2.2.2.2.1
theorem dX11_readKeys_77 : decode cX11_readKeys 77 = .ok (.aload_n 0, 1) := dG_dX11_readKeys_64.2.2.2.2.2.2.2.1
theorem dX11_readKeys_78 : decode cX11_readKeys 78 = .ok (.getfield 158, 3) := dG_dX11_readKeys_64.2.2.2.2.2.2.2.2.1
theorem dX11_readKeys_81 : decode cX11_readKeys 81 = .ok (.invokevirtual 194, 3) := dG_dX11_readKeys_64.2.2.2.2.2.2.2.2.2.1
theorem dX11_readKeys_84 : decode cX11_readKeys 84 = .ok (.aload_n 0, 1) := dG_dX11_readKeys_64.2.2.2.2.2.2.2.2.2.2.1
theorem dX11_readKeys_85 : decode cX11_readKeys 85 = .ok (.getfield 188, 3) := dG_dX11_readKeys_64.2.2.2.2.2.2.2.2.2.2.2
theorem dG_dX11_readKeys_88 : (decode cX11_readKeys 88 = .ok (.ifCond .le 4, 3)) ∧ (decode cX11_readKeys 91 = .ok (.return_, 1)) ∧ (decode cX11_readKeys 92 = .ok (.aload_n 0, 1)) ∧ (decode cX11_readKeys 93 = .ok (.invokevirtual 201, 3)) ∧ (decode cX11_readKeys 96 = .ok (.aload_n 0, 1)) ∧ (decode cX11_readKeys 97 = .ok (.bipush 115, 2)) ∧ (decode cX11_readKeys 99 = .ok (.bipush 117, 2)) ∧ (decode cX11_readKeys 101 = .ok (.bipush 109, 2)) ∧ (decode cX11_readKeys 103 = .ok (.iconst 0, 1)) ∧ (decode cX11_readKeys 104 = .ok (.iconst 0, 1)) ∧ (decode cX11_readKeys 105 = .ok (.iconst 0, 1)) ∧ (decode cX11_readKeys 106 = .ok (.iconst 0, 1)) := by decide +kernel
theorem dX11_readKeys_88 : decode cX11_readKeys 88 = .ok (.ifCond .le 4, 3) := dG_dX11_readKeys_88.1
theorem dX11_readKeys_91 : decode cX11_readKeys 91 = .ok (.return_, 1) := dG_dX11_readKeys_88.2.1
theorem dX11_readKeys_92 : decode cX11_readKeys 92 = .ok (.aload_n 0, 1) := dG_dX11_readKeys_88.2.2.1
theorem dX11_readKeys_93 : decode cX11_readKeys 93 = .ok (.invokevirtual 201, 3) := dG_dX11_readKeys_88.2.2.2.1
theorem dX11_readKeys_96 : decode cX11_readKeys 96 = .ok (.aload_n 0, 1) := dG_dX11_readKeys_88.2.2.2.2.1
theorem dX11_readKeys_97 : decode cX11_readKeys 97 = .ok (.bipush 115, 2) := dG_dX11_readKeys_88.2.2.2.2.2.1
theorem dX11_readKeys_99 : decode cX11_readKeys 99 = .ok (.bipush 117, 2) := dG_dX11_readKeys_88.2.2.2.2.2.2.1
theorem dX11_readKeys_101 : decode cX11_readKeys 101 = .ok (.bipush 109, 2) := dG_dX11_readKeys_88.2.2.2.2.2.2.2.1
theorem dX11_readKeys_103 : decode cX11_readKeys 103 = .ok (.iconst 0, 1) := dG_dX11_readKeys_88.2.2.2.2.2.2.2.2.1
theorem dX11_readKeys_104 : decode cX11_readKeys 104 = .ok (.iconst 0, 1) := dG_dX11_readKeys_88.2.2.2.2.2.2.2.2.2.1
theorem dX11_readKeys_105 : decode cX11_readKeys 105 = .ok (.iconst 0, 1) := dG_dX11_readKeys_88.2.2.2.2.2.2.2.2.2.2.1
theorem dX11_readKeys_106 : decode cX11_readKeys 106 = .ok (.iconst 0, 1) := dG_dX11_readKeys_88.2.2.2.2.2.2.2.2.2.2.2
theorem dG_dX11_readKeys_107 : (decode cX11_readKeys 107 = .ok (.invokestatic 228, 3)) ∧ (decode cX11_readKeys 110 = .ok (.invokevirtual 232, 3)) ∧ (decode cX11_readKeys 113 = .ok (.ifCond .eq 7, 3)) ∧ (decode cX11_readKeys 116 = .ok (.iconst 0, 1)) ∧ (decode cX11_readKeys 117 = .ok (.goto 80, 3)) ∧ (decode cX11_readKeys 120 = .ok (.aload_n 0, 1)) ∧ (decode cX11_readKeys 121 = .ok (.bipush 109, 2)) ∧ (decode cX11_readKeys 123 = .ok (.bipush 111, 2)) ∧ (decode cX11_readKeys 125 = .ok (.bipush 115, 2)) ∧ (decode cX11_readKeys 127 = .ok (.bipush 116, 2)) ∧ (decode cX11_readKeys 129 = .ok (.iconst 0, 1)) ∧ (decode cX11_readKeys 130 = .ok (.iconst 0, 1)) := by decide +kernel
theorem dX11_readKeys_107 : decode cX11_readKeys 107 = .ok (.invokestatic 228, 3) := dG_dX11_readKeys_107.1
theorem dX11_readKeys_110 : decode cX11_readKeys 110 = .ok (.invokevirtual 232, 3) := dG_dX11_readKeys_107.2.1
theorem dX11_readKeys_113 : decode cX11_readKeys 113 = .ok (.ifCond .eq 7, 3) := dG_dX11_readKeys_107.2.2.1
theorem dX11_readKeys_116 : decode cX11_readKeys 116 = .ok (.iconst 0, 1) := dG_dX11_readKeys_107.2.2.2.1
theorem dX11_readKeys_117 : decode cX11_readKeys 117 = .ok (.goto 80, 3) := dG_dX11_readKeys_107.2.2.2.2.1
theorem dX11_readKeys_120 : decode cX11_readKeys 120 = .ok (.aload_n 0, 1) := dG_dX11_readKeys_107.2.2.2.2.2.1
theorem dX11_readKeys_121 : decode cX11_readKeys 121 = .ok (.bipush 109, 2) := dG_dX11_readKeys_107.2.2.2.2.2.2.1
theorem dX11_readKeys_123 : decode cX11_readKeys 123 = .ok (.bipush 111, 2) := dG_dX11_readKeys_107.2.2.2.2.2.2.2.1
theorem dX11_readKeys_125 : decode cX11_readKeys 125 = .ok (.bipush 115, 2) := dG_dX11_readKeys_107.2.2.2.2.2.2.2.2.1
theorem dX11_readKeys_127 : decode cX11_readKeys 127 = .ok (.bipush 116, 2) := dG_dX11_readKeys_107.2.2.2.2.2.2.2.2.2.1
theorem dX11_readKeys_129 : decode cX11_readKeys 129 = .ok (.iconst 0, 1) := dG_dX11_readKeys_107.2.2.2.2.2.2.2.2.2.2.1
theorem dX11_readKeys_130 : decode cX11_readKeys 130 = .ok (.iconst 0, 1) := dG_dX11_readKeys_107.2.2.2.2.2.2.2.2.2.2.2
theorem dG_dX11_readKeys_131 : (decode cX11_readKeys 131 = .ok (.iconst 0, 1)) ∧ (decode cX11_readKeys 132 = .ok (.invokestatic 228, 3)) ∧ (decode cX11_readKeys 135 = .ok (.invokevirtual 232, 3)) ∧ (decode cX11_readKeys 138 = .ok (.ifCond .eq 7, 3)) ∧ (decode cX11_readKeys 141 = .ok (.iconst 1, 1)) ∧ (decode cX11_readKeys 142 = .ok (.goto 55, 3)) ∧ (decode cX11_readKeys 145 = .ok (.aload_n 0, 1)) ∧ (decode cX11_readKeys 146 = .ok (.bipush 116, 2)) ∧ (decode cX11_readKeys 148 = .ok (.bipush 111, 2)) ∧ (decode cX11_readKeys 150 = .ok (.bipush 112, 2)) ∧ (decode cX11_readKeys 152 = .ok (.bipush 115, 2)) ∧ (decode cX11_readKeys 154 = .ok (.iconst 0, 1)) := by decide +kernel
theorem dX11_readKeys_131 : decode cX11_readKeys 131 = .ok (.iconst 0, 1) := dG_dX11_readKeys_131.1
theorem dX11_readKeys_132 : decode cX11_readKeys 132 = .ok (.invokestatic 228, 3) := dG_dX11_readKeys_131.2.1
theorem dX11_readKeys_135 : decode cX11_readKeys 135 = .ok (.invokevirtual 232, 3) := dG_dX11_readKeys_131.2.2.1
theorem dX11_readKeys_138 : decode cX11_readKeys 138 = .ok (.ifCond .eq 7, 3) := dG_dX11_readKeys_131.2.2.2.1
theorem dX11_readKeys_141 : decode cX11_readKeys 141 = .ok (.iconst 1, 1) := dG_dX11_readKeys_131.2.2.2.2.1
theorem dX11_readKeys_142 : decode cX11_readKeys 142 = .ok (.goto 55, 3) := dG_dX11_readKeys_131.2.2.2.2.2.1
theorem dX11_readKeys_145 : decode cX11_readKeys 145 = .ok (.aload_n 0, 1) := dG_dX11_readKeys_131.2.2.2.2.2.2.1
theorem dX11_readKeys_146 : decode cX11_readKeys 146 = .ok (.bipush 116, 2) := dG_dX11_readKeys_131.2.2.2.2.2.2.2.1
theorem dX11_readKeys_148 : decode cX11_readKeys 148 = .ok (.bipush 111, 2) := dG_dX11_readKeys_131.2.2.2.2.2.2.2.2.1
theorem dX11_readKeys_150 : decode cX11_readKeys 150 = .ok (.bipush 112, 2) := dG_dX11_readKeys_131.2.2.2.2.2.2.2.2.2.1
theorem dX11_readKeys_152 : decode cX11_readKeys 152 = .ok (.bipush 115, 2) := dG_dX11_readKeys_131.2.2.2.2.2.2.2.2.2.2.1
theorem dX11_readKeys_154 : decode cX11_readKeys 154 = .ok (.iconst 0, 1) := dG_dX11_readKeys_131.2.2.2.2.2.2.2.2.2.2.2
theorem dG_dX11_readKeys_155 : (decode cX11_readKeys 155 = .ok (.iconst 0, 1)) ∧ (decode cX11_readKeys 156 = .ok (.iconst 0, 1)) ∧ (decode cX11_readKeys 157 = .ok (.invokestatic 228, 3)) ∧ (decode cX11_readKeys 160 = .ok (.invokevirtual 232, 3)) ∧ (decode cX11_readKeys 163 = .ok (.ifCond .eq 7, 3)) ∧ (decode cX11_readKeys 166 = .ok (.iconst 2, 1)) ∧ (decode cX11_readKeys 167 = .ok (.goto 30, 3)) ∧ (decode cX11_readKeys 170 = .ok (.aload_n 0, 1)) ∧ (decode cX11_readKeys 171 = .ok (.bipush 122, 2)) ∧ (decode cX11_readKeys 173 = .ok (.bipush 111, 2)) ∧ (decode cX11_readKeys 175 = .ok (.bipush 110, 2)) ∧ (decode cX11_readKeys 177 = .ok (.bipush 101, 2)) := by decide +kernel
theorem dX11_readKeys_155 : decode cX11_readKeys 155 = .ok (.iconst 0, 1) := dG_dX11_readKeys_155.1
theorem dX11_readKeys_156 : decode cX11_readKeys 156 = .ok (.iconst 0, 1) := dG_dX11_readKeys_155.2.1
theorem dX11_readKeys_157 : decode cX11_readKeys 157 = .ok (.invokestatic 228, 3) := dG_dX11_readKeys_155.2.2.1
theorem dX11_readKeys_160 : decode cX11_readKeys 160 = .ok (.invokevirtual 232, 3) := dG_dX11_readKeys_155.2.2.2.1
theorem dX11_readKeys_163 : decode cX11_readKeys 163 = .ok (.ifCond .eq 7, 3) := dG_dX11_readKeys_155.2.2.2.2.1
theorem dX11_readKeys_166 : decode cX11_readKeys 166 = .ok (.iconst 2, 1) := dG_dX11_readKeys_155.2.2.2.2.2.1
theorem dX11_readKeys_167 : decode cX11_readKeys 167 = .ok (.goto 30, 3) := dG_dX11_readKeys_155.2.2.2.2.2.2.1
theorem dX11_readKeys_170 : decode cX11_readKeys 170 = .ok (.aload_n 0, 1) := dG_dX11_readKeys_155.2.2.2.2.2.2.2.1
theorem dX11_readKeys_171 : decode cX11_readKeys 171 = .ok (.bipush 122, 2) := dG_dX11_readKeys_155.2.2.2.2.2.2.2.2.1
theorem dX11_readKeys_173 : decode cX11_readKeys 173 = .ok (.bipush 111, 2) := dG_dX11_readKeys_155.2.2.2.2.2.2.2.2.2.1
theorem dX11_readKeys_175 : decode cX11_readKeys 175 = .ok (.bipush 110, 2) := dG_dX11_readKeys_155.2.2.2.2.2.2.2.2.2.2.1
theorem dX11_readKeys_177 : decode cX11_readKeys 177 = .ok (.bipush 101, 2) := dG_dX11_readKeys_155.2.2.2.2.2.2.2.2.2.2.2
theorem dG_dX11_readKeys_179 : (decode cX11_readKeys 179 = .ok (.bipush 115, 2)) ∧ (decode cX11_readKeys 181 = .ok (.iconst 0, 1)) ∧ (decode cX11_readKeys 182 = .ok (.iconst 0, 1)) ∧ (decode cX11_readKeys 183 = .ok (.invokestatic 228, 3)) ∧ (decode cX11_readKeys 186 = .ok (.invokevirtual 232, 3)) ∧ (decode cX11_readKeys 189 = .ok (.ifCond .eq 7, 3)) ∧ (decode cX11_readKeys 192 = .ok (.iconst 3, 1)) ∧ (decode cX11_readKeys 193 = .ok (.goto 4, 3)) ∧ (decode cX11_readKeys 196 = .ok (.iconst (-1), 1)) ∧ (decode cX11_readKeys 197 = .ok (.istore_n 3, 1)) ∧ (decode cX11_readKeys 198 = .ok (.iload_n 3, 1)) ∧ (decode cX11_readKeys 199 = .ok (.ifCond .ge 8, 3)) := by decide +kernel
theorem dX11_readKeys_179 : decode cX11_readKeys 179 = .ok (.bipush 115, 2) := dG_dX11_readKeys_179.1
theorem dX11_readKeys_181 : decode cX11_readKeys 181 = .ok (.iconst 0, 1) := dG_dX11_readKeys_179.2.1
theorem dX11_readKeys_182 : decode cX11_readKeys 182 = .ok (.iconst 0, 1) := dG_dX11_readKeys_179.2.2.1
theorem dX11_readKeys_183 : decode cX11_readKeys 183 = .ok (.invokestatic 228, 3) := dG_dX11_readKeys_179.2.2.2.1
theorem dX11_readKeys_186 : decode cX11_readKeys 186 = .ok (.invokevirtual 232, 3) := dG_dX11_readKeys_179.2.2.2.2.1
theorem dX11_readKeys_189 : decode cX11_readKeys 189 = .ok (.ifCond .eq 7, 3) := dG_dX11_readKeys_179.2.2.2.2.2.1
theorem dX11_readKeys_192 : decode cX11_readKeys 192 = .ok (.iconst 3, 1) := dG_dX11_readKeys_179.2.2.2.2.2.2.1
theorem dX11_readKeys_193 : decode cX11_readKeys 193 = .ok (.goto 4, 3) := dG_dX11_readKeys_179.2.2.2.2.2.2.2.1
theorem dX11_readKeys_196 : decode cX11_readKeys 196 = .ok (.iconst (-1), 1) := dG_dX11_readKeys_179.2.2.2.2.2.2.2.2.1
theorem dX11_readKeys_197 : decode cX11_readKeys 197 = .ok (.istore_n 3, 1) := dG_dX11_readKeys_179.2.2.2.2.2.2.2.2.2.1
theorem dX11_readKeys_198 : decode cX11_readKeys 198 = .ok (.iload_n 3, 1) := dG_dX11_readKeys_179.2.2.2.2.2.2.2.2.2.2.1
theorem dX11_readKeys_199 : decode cX11_readKeys 199 = .ok (.ifCond .ge 8, 3) := dG_dX11_readKeys_179.2.2.2.2.2.2.2.2.2.2.2
theorem dG_dX11_readKeys_202 : (decode cX11_readKeys 202 = .ok (.aload_n 0, 1)) ∧ (decode cX11_readKeys 203 = .ok (.invokevirtual 198, 3)) ∧ (decode cX11_readKeys 206 = .ok (.return_, 1)) ∧ (decode cX11_readKeys 207 = .ok (.aload_n 0, 1)) ∧ (decode cX11_readKeys 208 = .ok (.getfield 67, 3)) ∧ (decode cX11_readKeys 211 = .ok (.aload_n 0, 1)) ∧ (decode cX11_readKeys 212 = .ok (.getfield 214, 3)) ∧ (decode cX11_readKeys 215 = .ok (.iload_n 2, 1)) ∧ (decode cX11_readKeys 216 = .ok (.bastore, 1)) ∧ (decode cX11_readKeys 217 = .ok (.aload_n 0, 1)) ∧ (decode cX11_readKeys 218 = .ok (.getfield 60, 3)) ∧ (decode cX11_readKeys 221 = .ok (.aload_n 0, 1)) := by decide +kernel
theorem dX11_readKeys_202 : decode cX11_readKeys 202 = .ok (.aload_n 0, 1) := dG_dX11_readKeys_202.1
theorem dX11_readKeys_203 : decode cX11_readKeys 203 = .ok (.invokevirtual 198, 3) := dG_dX11_readKeys_202.2.1
theorem dX11_readKeys_206 : decode cX11_readKeys 206 = .ok (.return_, 1) := dG_dX11_readKeys_202.2.2.1
theorem dX11_readKeys_207 : decode cX11_readKeys 207 = .ok (.aload_n 0, 1) := dG_dX11_readKeys_202.2.2.2.1
theorem dX11_readKeys_208 : decode cX11_readKeys 208 = .ok (.getfield 67, 3) := dG_dX11_readKeys_202.2.2.2.2.1
theorem dX11_readKeys_211 : decode cX11_readKeys 211 = .ok (.aload_n 0, 1) := dG_dX11_readKeys_202.2.2.2.2.2.1
theorem dX11_readKeys_212 : decode cX11_readKeys 212 = .ok (.getfield 214, 3) := dG_dX11_readKeys_202.2.2.2.2.2.2.1
theorem dX11_readKeys_215 : decode cX11_readKeys 215 = .ok (.iload_n 2, 1) := dG_dX11_readKeys_202.2.2.2.2.2.2.2.1
theorem dX11_readKeys_216 : decode cX11_readKeys 216 = .ok (.bastore, 1) := dG_dX11_readKeys_202.2.2.2.2.2.2.2.2.1
theorem dX11_readKeys_217 : decode cX11_readKeys 217 = .ok (.aload_n 0, 1) := dG_dX11_readKeys_202.2.2.2.2.2.2.2.2.2.1
theorem dX11_readKeys_218 : decode cX11_readKeys 218 = .ok (.getfield 60, 3) := dG_dX11_readKeys_202.2.2.2.2.2.2.2.2.2.2.1
theorem dX11_readKeys_221 : decode cX11_readKeys 221 = .ok (.aload_n 0, 1) := dG_dX11_readKeys_202.2.2.2.2.2.2.2.2.2.2.2
theorem dG_dX11_readKeys_222 : (decode cX11_readKeys 222 = .ok (.getfield 214, 3)) ∧ (decode cX11_readKeys 225 = .ok (.iload_n 3, 1)) ∧ (decode cX11_readKeys 226 = .ok (.iastore, 1)) ∧ (decode cX11_readKeys 227 = .ok (.aload_n 0, 1)) ∧ (decode cX11_readKeys 228 = .ok (.dup, 1)) ∧ (decode cX11_readKeys 229 = .ok (.getfield 214, 3)) ∧ (decode cX11_readKeys 232 = .ok (.iconst 1, 1)) ∧ (decode cX11_readKeys 233 = .ok (.iadd, 1)) ∧ (decode cX11_readKeys 234 = .ok (.putfield 214, 3)) ∧ (decode cX11_readKeys 237 = .ok (.aload_n 0, 1)) ∧ (decode cX11_readKeys 238 = .ok (.invokevirtual 201, 3)) ∧ (decode cX11_readKeys 241 = .ok (.aload_n 0, 1)) := by decide +kernel
theorem dX11_readKeys_222 : decode cX11_readKeys 222 = .ok (.getfield 214, 3) := dG_dX11_readKeys_222.1
theorem dX11_readKeys_225 : decode cX11_readKeys 225 = .ok (.iload_n 3, 1) := dG_dX11_readKeys_222.2.1
theorem dX11_readKeys_226 : decode cX11_readKeys 226 = .ok (.iastore, 1) := dG_dX11_readKeys_222.2.2.1
theorem dX11_readKeys_227 : decode cX11_readKeys 227 = .ok (.aload_n 0, 1) := dG_dX11_readKeys_222.2.2.2.1
theorem dX11_readKeys_228 : decode cX11_readKeys 228 = .ok (.dup, 1) := dG_dX11_readKeys_222.2.2.2.2.1
theorem dX11_readKeys_229 : decode cX11_readKeys 229 = .ok (.getfield 214, 3) := dG_dX11_readKeys_222.2.2.2.2.2.1
theorem dX11_readKeys_232 : decode cX11_readKeys 232 = .ok (.iconst 1, 1) := dG_dX11_readKeys_222.2.2.2.2.2.2.1
theorem dX11_readKeys_233 : decode cX11_readKeys 233 = .ok (.iadd, 1) := dG_dX11_readKeys_222.2.2.2.2.2.2.2.1
theorem dX11_readKeys_234 : decode cX11_readKeys 234 = .ok (.putfield 214, 3) := dG_dX11_readKeys_222.2.2.2.2.2.2.2.2.1
theorem dX11_readKeys_237 : decode cX11_readKeys 237 = .ok (.aload_n 0, 1) := dG_dX11_readKeys_222.2.2.2.2.2.2.2.2.2.1
theorem dX11_readKeys_238 : decode cX11_readKeys 238 = .ok (.invokevirtual 201, 3) := dG_dX11_readKeys_222.2.2.2.2.2.2.2.2.2.2.1
theorem dX11_readKeys_241 : decode cX11_readKeys 241 = .ok (.aload_n 0, 1) := dG_dX11_readKeys_222.2.2.2.2.2.2.2.2.2.2.2
theorem dG_dX11_readKeys_242 : (decode cX11_readKeys 242 = .ok (.bipush 44, 2)) ∧ (decode cX11_readKeys 244 = .ok (.invokevirtual 204, 3)) ∧ (decode cX11_readKeys 247 = .ok (.istore_n 1, 1)) ∧ (decode cX11_readKeys 248 = .ok (.iload_n 1, 1)) ∧ (decode cX11_readKeys 249 = .ok (.ifCond .eq 7, 3)) ∧ (decode cX11_readKeys 252 = .ok (.aload_n 0, 1)) ∧ (decode cX11_readKeys 253 = .ok (.invokevirtual 201, 3)) ∧ (decode cX11_readKeys 256 = .ok (.goto (-249), 3)) ∧ (decode cX11_readKeys 259 = .ok (.return_, 1)) := by decide +kernel
theorem dX11_readKeys_242 : decode cX11_readKeys 242 = .ok (.bipush 44, 2) := dG_dX11_readKeys_242.1
theorem dX11_readKeys_244 : decode cX11_readKeys 244 = .ok (.invokevirtual 204, 3) := dG_dX11_readKeys_242.2.1
theorem dX11_readKeys_247 : decode cX11_readKeys 247 = .ok (.istore_n 1, 1) := dG_dX11_readKeys_242.2.2.1
theorem dX11_readKeys_248 : decode cX11_readKeys 248 = .ok (.iload_n 1, 1) := dG_dX11_readKeys_242.2.2.2.1
theorem dX11_readKeys_249 : decode cX11_readKeys 249 = .ok (.ifCond .eq 7, 3) := dG_dX11_readKeys_242.2.2.2.2.1
theorem dX11_readKeys_252 : decode cX11_readKeys 252 = .ok (.aload_n 0, 1) := dG_dX11_readKeys_242.2.2.2.2.2.1
theorem dX11_readKeys_253 : decode cX11_readKeys 253 = .ok (.invokevirtual 201, 3) := dG_dX11_readKeys_242.2.2.2.2.2.2.1
theorem dX11_readKeys_256 : decode cX11_readKeys 256 = .ok (.goto (-249), 3) := dG_dX11_readKeys_242.2.2.2.2.2.2.2.1
theorem dX11_readKeys_259 : decode cX11_readKeys 259 = .ok (.return_, 1) := dG_dX11_readKeys_242.2.2.2.2.2.2.2.2
end

section
theorem rnd1 {B : Int → Int} {n i lo hi p : Int} (h1 : gElo i.toNat = lo) (h2 : gEhi i.toNat = hi) : rnd B n 1 i p = nm1 B n lo hi p := by
  rw [rnd_nm1 (kk := 0) h1 h2]
  by_cases h : (nm1 B n lo hi p).1 ≠ 0
  · rw [if_pos h]
  · rw [if_neg h]
    exact Prod.ext (by show (0 : Int) = _; omega) rfl
theorem rnd_up {B : Int → Int} {n lo hi p : Int} (kk : Nat) (i : Int) (h1 : gElo i.toNat = lo) (h2 : gEhi i.toNat = hi) (h : (nm1 B n lo hi p).1 = 0) : rnd B n (kk + 1) i p = rnd B n kk (i + 1) (nm1 B n lo hi p).2 := by
  rw [rnd_nm1 h1 h2, if_neg (fun q => q h)]
theorem rnd_no {B : Int → Int} {n lo hi p : Int} (kk : Nat) (i : Int) (h1 : gElo i.toNat = lo) (h2 : gEhi i.toNat = hi) (h : (nm1 B n lo hi p).1 ≠ 0) : rnd B n (kk + 1) i p = nm1 B n lo hi p := by
  rw [rnd_nm1 h1 h2, if_pos h]
section OF
variable {B : Int → Int} {n bad badAt a bh so nu w bad' badAt' a' bh' so' nu' w' : Int} {o o2 : Int × Int}
theorem oM_fin_ok (hs : semi B n o = o2) (h : oM B n o bad badAt a bh so nu w) (h0 : bad = 0) (h2 : oM B n (semi B n (0, o.2)) bad' badAt' a' bh' so' nu' w') : oM B n o2 bad' badAt' a' bh' so' nu' w' := by
  have e : o = (0, o.2) := Prod.ext (by have := h.1; omega) rfl
  rw [← hs, e]
  exact h2
theorem oM_fin_bad (hs : semi B n o = o2) (h : oM B n o bad badAt a bh so nu w) (h0 : bad ≠ 0) : oM B n o2 bad badAt a bh so nu w := by
  rw [← hs, semi_bad (by have := h.1; omega)]
  exact h
end OF
end

section
theorem dG_dX11_readLaw_0 : (decode cX11_readLaw 0 = .ok (.iload_n 1, 1)) ∧ (decode cX11_readLaw 1 = .ok (.ifCond .ne 21, 3)) ∧ (decode cX11_readLaw 4 = .ok (.aload_n 0, 1)) ∧ (decode cX11_readLaw 5 = .ok (.getfield 207, 3)) ∧ (decode cX11_readLaw 8 = .ok (.iconst 4, 1)) ∧ (decode cX11_readLaw 9 = .ok (.if_icmp .ne 13, 3)) ∧ (decode cX11_readLaw 12 = .ok (.aload_n 0, 1)) ∧ (decode cX11_readLaw 13 = .ok (.iconst 3, 1)) ∧ (decode cX11_readLaw 14 = .ok (.aload_n 0, 1)) ∧ (decode cX11_readLaw 15 = .ok (.getfield 158, 3)) ∧ (decode cX11_readLaw 18 = .ok (.invokevirtual 194, 3)) ∧ (decode cX11_readLaw 21 = .ok (.return_, 1)) := by decide +kernel
theorem dX11_readLaw_0 : decode cX11_readLaw 0 = .ok (.iload_n 1, 1) := dG_dX11_readLaw_0.1
theorem dX11_readLaw_1 : decode cX11_readLaw 1 = .ok (.ifCond .ne 21, 3) := dG_dX11_readLaw_0.2.1
theorem dX11_readLaw_4 : decode cX11_readLaw 4 = .ok (.aload_n 0, 1) := dG_dX11_readLaw_0.2.2.1
theorem dX11_readLaw_5 : decode cX11_readLaw 5 = .ok (.getfield 207, 3) := dG_dX11_readLaw_0.2.2.2.1
theorem dX11_readLaw_8 : decode cX11_readLaw 8 = .ok (.iconst 4, 1) := dG_dX11_readLaw_0.2.2.2.2.1
theorem dX11_readLaw_9 : decode cX11_readLaw 9 = .ok (.if_icmp .ne 13, 3) := dG_dX11_readLaw_0.2.2.2.2.2.1
theorem dX11_readLaw_12 : decode cX11_readLaw 12 = .ok (.aload_n 0, 1) := dG_dX11_readLaw_0.2.2.2.2.2.2.1
theorem dX11_readLaw_13 : decode cX11_readLaw 13 = .ok (.iconst 3, 1) := dG_dX11_readLaw_0.2.2.2.2.2.2.2.1
theorem dX11_readLaw_14 : decode cX11_readLaw 14 = .ok (.aload_n 0, 1) := dG_dX11_readLaw_0.2.2.2.2.2.2.2.2.1
theorem dX11_readLaw_15 : decode cX11_readLaw 15 = .ok (.getfield 158, 3) := dG_dX11_readLaw_0.2.2.2.2.2.2.2.2.2.1
theorem dX11_readLaw_18 : decode cX11_readLaw 18 = .ok (.invokevirtual 194, 3) := dG_dX11_readLaw_0.2.2.2.2.2.2.2.2.2.2.1
theorem dX11_readLaw_21 : decode cX11_readLaw 21 = .ok (.return_, 1) := dG_dX11_readLaw_0.2.2.2.2.2.2.2.2.2.2.2
theorem dG_dX11_readLaw_22 : (decode cX11_readLaw 22 = .ok (.aload_n 0, 1)) ∧ (decode cX11_readLaw 23 = .ok (.invokevirtual 201, 3)) ∧ (decode cX11_readLaw 26 = .ok (.iload_n 1, 1)) ∧ (decode cX11_readLaw 27 = .ok (.tableswitch 152 0 2 #[25, 138, 145], 25)) ∧ (decode cX11_readLaw 52 = .ok (.aload_n 0, 1)) ∧ (decode cX11_readLaw 53 = .ok (.getfield 33, 3)) ∧ (decode cX11_readLaw 56 = .ok (.aload_n 0, 1)) ∧ (decode cX11_readLaw 57 = .ok (.getfield 207, 3)) ∧ (decode cX11_readLaw 60 = .ok (.aload_n 0, 1)) ∧ (decode cX11_readLaw 61 = .ok (.iconst 1, 1)) ∧ (decode cX11_readLaw 62 = .ok (.iconst 5, 1)) ∧ (decode cX11_readLaw 63 = .ok (.invokevirtual 236, 3)) := by decide +kernel
theorem dX11_readLaw_22 : decode cX11_readLaw 22 = .ok (.aload_n 0, 1) := dG_dX11_readLaw_22.1
theorem dX11_readLaw_23 : decode cX11_readLaw 23 = .ok (.invokevirtual 201, 3) := dG_dX11_readLaw_22.2.1
theorem dX11_readLaw_26 : decode cX11_readLaw 26 = .ok (.iload_n 1, 1) := dG_dX11_readLaw_22.2.2.1
theorem dX11_readLaw_27 : decode cX11_readLaw 27 = .ok (.tableswitch 152 0 2 #[25, 138, 145], 25) := dG_dX11_readLaw_22.2.2.2.1
theorem dX11_readLaw_52 : decode cX11_readLaw 52 = .ok (.aload_n 0, 1) := dG_dX11_readLaw_22.2.2.2.2.1
theorem dX11_readLaw_53 : decode cX11_readLaw 53 = .ok (.getfield 33, 3) := dG_dX11_readLaw_22.2.2.2.2.2.1
theorem dX11_readLaw_56 : decode cX11_readLaw 56 = .ok (.aload_n 0, 1) := dG_dX11_readLaw_22.2.2.2.2.2.2.1
theorem dX11_readLaw_57 : decode cX11_readLaw 57 = .ok (.getfield 207, 3) := dG_dX11_readLaw_22.2.2.2.2.2.2.2.1
theorem dX11_readLaw_60 : decode cX11_readLaw 60 = .ok (.aload_n 0, 1) := dG_dX11_readLaw_22.2.2.2.2.2.2.2.2.1
theorem dX11_readLaw_61 : decode cX11_readLaw 61 = .ok (.iconst 1, 1) := dG_dX11_readLaw_22.2.2.2.2.2.2.2.2.2.1
theorem dX11_readLaw_62 : decode cX11_readLaw 62 = .ok (.iconst 5, 1) := dG_dX11_readLaw_22.2.2.2.2.2.2.2.2.2.2.1
theorem dX11_readLaw_63 : decode cX11_readLaw 63 = .ok (.invokevirtual 236, 3) := dG_dX11_readLaw_22.2.2.2.2.2.2.2.2.2.2.2
theorem dG_dX11_readLaw_66 : (decode cX11_readLaw 66 = .ok (.iastore, 1)) ∧ (decode cX11_readLaw 67 = .ok (.aload_n 0, 1)) ∧ (decode cX11_readLaw 68 = .ok (.getfield 36, 3)) ∧ (decode cX11_readLaw 71 = .ok (.aload_n 0, 1)) ∧ (decode cX11_readLaw 72 = .ok (.getfield 207, 3)) ∧ (decode cX11_readLaw 75 = .ok (.aload_n 0, 1)) ∧ (decode cX11_readLaw 76 = .ok (.getfield 188, 3)) ∧ (decode cX11_readLaw 79 = .ok (.ifCond .ne 13, 3)) ∧ (decode cX11_readLaw 82 = .ok (.aload_n 0, 1)) ∧ (decode cX11_readLaw 83 = .ok (.iconst 1, 1)) ∧ (decode cX11_readLaw 84 = .ok (.bipush 9, 2)) ∧ (decode cX11_readLaw 86 = .ok (.invokevirtual 236, 3)) := by decide +kernel
theorem dX11_readLaw_66 : decode cX11_readLaw 66 = .ok (.iastore, 1) := dG_dX11_readLaw_66.1
theorem dX11_readLaw_67 : decode cX11_readLaw 67 = .ok (.aload_n 0, 1) := dG_dX11_readLaw_66.2.1
theorem dX11_readLaw_68 : decode cX11_readLaw 68 = .ok (.getfield 36, 3) := dG_dX11_readLaw_66.2.2.1
theorem dX11_readLaw_71 : decode cX11_readLaw 71 = .ok (.aload_n 0, 1) := dG_dX11_readLaw_66.2.2.2.1
theorem dX11_readLaw_72 : decode cX11_readLaw 72 = .ok (.getfield 207, 3) := dG_dX11_readLaw_66.2.2.2.2.1
theorem dX11_readLaw_75 : decode cX11_readLaw 75 = .ok (.aload_n 0, 1) := dG_dX11_readLaw_66.2.2.2.2.2.1
theorem dX11_readLaw_76 : decode cX11_readLaw 76 = .ok (.getfield 188, 3) := dG_dX11_readLaw_66.2.2.2.2.2.2.1
theorem dX11_readLaw_79 : decode cX11_readLaw 79 = .ok (.ifCond .ne 13, 3) := dG_dX11_readLaw_66.2.2.2.2.2.2.2.1
theorem dX11_readLaw_82 : decode cX11_readLaw 82 = .ok (.aload_n 0, 1) := dG_dX11_readLaw_66.2.2.2.2.2.2.2.2.1
theorem dX11_readLaw_83 : decode cX11_readLaw 83 = .ok (.iconst 1, 1) := dG_dX11_readLaw_66.2.2.2.2.2.2.2.2.2.1
theorem dX11_readLaw_84 : decode cX11_readLaw 84 = .ok (.bipush 9, 2) := dG_dX11_readLaw_66.2.2.2.2.2.2.2.2.2.2.1
theorem dX11_readLaw_86 : decode cX11_readLaw 86 = .ok (.invokevirtual 236, 3) := dG_dX11_readLaw_66.2.2.2.2.2.2.2.2.2.2.2
theorem dG_dX11_readLaw_89 : (decode cX11_readLaw 89 = .ok (.goto 4, 3)) ∧ (decode cX11_readLaw 92 = .ok (.iconst 1, 1)) ∧ (decode cX11_readLaw 93 = .ok (.iastore, 1)) ∧ (decode cX11_readLaw 94 = .ok (.aload_n 0, 1)) ∧ (decode cX11_readLaw 95 = .ok (.getfield 39, 3)) ∧ (decode cX11_readLaw 98 = .ok (.aload_n 0, 1)) ∧ (decode cX11_readLaw 99 = .ok (.getfield 207, 3)) ∧ (decode cX11_readLaw 102 = .ok (.aload_n 0, 1)) ∧ (decode cX11_readLaw 103 = .ok (.getfield 188, 3)) ∧ (decode cX11_readLaw 106 = .ok (.ifCond .ne 15, 3)) ∧ (decode cX11_readLaw 109 = .ok (.aload_n 0, 1)) ∧ (decode cX11_readLaw 110 = .ok (.bipush 10, 2)) := by decide +kernel
theorem dX11_readLaw_89 : decode cX11_readLaw 89 = .ok (.goto 4, 3) := dG_dX11_readLaw_89.1
theorem dX11_readLaw_92 : decode cX11_readLaw 92 = .ok (.iconst 1, 1) := dG_dX11_readLaw_89.2.1
theorem dX11_readLaw_93 : decode cX11_readLaw 93 = .ok (.iastore, 1) := dG_dX11_readLaw_89.2.2.1
theorem dX11_readLaw_94 : decode cX11_readLaw 94 = .ok (.aload_n 0, 1) := dG_dX11_readLaw_89.2.2.2.1
theorem dX11_readLaw_95 : decode cX11_readLaw 95 = .ok (.getfield 39, 3) := dG_dX11_readLaw_89.2.2.2.2.1
theorem dX11_readLaw_98 : decode cX11_readLaw 98 = .ok (.aload_n 0, 1) := dG_dX11_readLaw_89.2.2.2.2.2.1
theorem dX11_readLaw_99 : decode cX11_readLaw 99 = .ok (.getfield 207, 3) := dG_dX11_readLaw_89.2.2.2.2.2.2.1
theorem dX11_readLaw_102 : decode cX11_readLaw 102 = .ok (.aload_n 0, 1) := dG_dX11_readLaw_89.2.2.2.2.2.2.2.1
theorem dX11_readLaw_103 : decode cX11_readLaw 103 = .ok (.getfield 188, 3) := dG_dX11_readLaw_89.2.2.2.2.2.2.2.2.1
theorem dX11_readLaw_106 : decode cX11_readLaw 106 = .ok (.ifCond .ne 15, 3) := dG_dX11_readLaw_89.2.2.2.2.2.2.2.2.2.1
theorem dX11_readLaw_109 : decode cX11_readLaw 109 = .ok (.aload_n 0, 1) := dG_dX11_readLaw_89.2.2.2.2.2.2.2.2.2.2.1
theorem dX11_readLaw_110 : decode cX11_readLaw 110 = .ok (.bipush 10, 2) := dG_dX11_readLaw_89.2.2.2.2.2.2.2.2.2.2.2
theorem dG_dX11_readLaw_112 : (decode cX11_readLaw 112 = .ok (.sipush 999, 3)) ∧ (decode cX11_readLaw 115 = .ok (.invokevirtual 236, 3)) ∧ (decode cX11_readLaw 118 = .ok (.goto 5, 3)) ∧ (decode cX11_readLaw 121 = .ok (.bipush 10, 2)) ∧ (decode cX11_readLaw 123 = .ok (.iastore, 1)) ∧ (decode cX11_readLaw 124 = .ok (.aload_n 0, 1)) ∧ (decode cX11_readLaw 125 = .ok (.getfield 42, 3)) ∧ (decode cX11_readLaw 128 = .ok (.aload_n 0, 1)) ∧ (decode cX11_readLaw 129 = .ok (.getfield 207, 3)) ∧ (decode cX11_readLaw 132 = .ok (.aload_n 0, 1)) ∧ (decode cX11_readLaw 133 = .ok (.getfield 188, 3)) ∧ (decode cX11_readLaw 136 = .ok (.ifCond .ne 14, 3)) := by decide +kernel
theorem dX11_readLaw_112 : decode cX11_readLaw 112 = .ok (.sipush 999, 3) := dG_dX11_readLaw_112.1
theorem dX11_readLaw_115 : decode cX11_readLaw 115 = .ok (.invokevirtual 236, 3) := dG_dX11_readLaw_112.2.1
theorem dX11_readLaw_118 : decode cX11_readLaw 118 = .ok (.goto 5, 3) := dG_dX11_readLaw_112.2.2.1
theorem dX11_readLaw_121 : decode cX11_readLaw 121 = .ok (.bipush 10, 2) := dG_dX11_readLaw_112.2.2.2.1
theorem dX11_readLaw_123 : decode cX11_readLaw 123 = .ok (.iastore, 1) := dG_dX11_readLaw_112.2.2.2.2.1
theorem dX11_readLaw_124 : decode cX11_readLaw 124 = .ok (.aload_n 0, 1) := dG_dX11_readLaw_112.2.2.2.2.2.1
theorem dX11_readLaw_125 : decode cX11_readLaw 125 = .ok (.getfield 42, 3) := dG_dX11_readLaw_112.2.2.2.2.2.2.1
theorem dX11_readLaw_128 : decode cX11_readLaw 128 = .ok (.aload_n 0, 1) := dG_dX11_readLaw_112.2.2.2.2.2.2.2.1
theorem dX11_readLaw_129 : decode cX11_readLaw 129 = .ok (.getfield 207, 3) := dG_dX11_readLaw_112.2.2.2.2.2.2.2.2.1
theorem dX11_readLaw_132 : decode cX11_readLaw 132 = .ok (.aload_n 0, 1) := dG_dX11_readLaw_112.2.2.2.2.2.2.2.2.2.1
theorem dX11_readLaw_133 : decode cX11_readLaw 133 = .ok (.getfield 188, 3) := dG_dX11_readLaw_112.2.2.2.2.2.2.2.2.2.2.1
theorem dX11_readLaw_136 : decode cX11_readLaw 136 = .ok (.ifCond .ne 14, 3) := dG_dX11_readLaw_112.2.2.2.2.2.2.2.2.2.2.2
theorem dG_dX11_readLaw_139 : (decode cX11_readLaw 139 = .ok (.aload_n 0, 1)) ∧ (decode cX11_readLaw 140 = .ok (.iconst 0, 1)) ∧ (decode cX11_readLaw 141 = .ok (.sipush 999, 3)) ∧ (decode cX11_readLaw 144 = .ok (.invokevirtual 236, 3)) ∧ (decode cX11_readLaw 147 = .ok (.goto 4, 3)) ∧ (decode cX11_readLaw 150 = .ok (.iconst 0, 1)) ∧ (decode cX11_readLaw 151 = .ok (.iastore, 1)) ∧ (decode cX11_readLaw 152 = .ok (.aload_n 0, 1)) ∧ (decode cX11_readLaw 153 = .ok (.dup, 1)) ∧ (decode cX11_readLaw 154 = .ok (.getfield 207, 3)) ∧ (decode cX11_readLaw 157 = .ok (.iconst 1, 1)) ∧ (decode cX11_readLaw 158 = .ok (.iadd, 1)) := by decide +kernel
theorem dX11_readLaw_139 : decode cX11_readLaw 139 = .ok (.aload_n 0, 1) := dG_dX11_readLaw_139.1
theorem dX11_readLaw_140 : decode cX11_readLaw 140 = .ok (.iconst 0, 1) := dG_dX11_readLaw_139.2.1
theorem dX11_readLaw_141 : decode cX11_readLaw 141 = .ok (.sipush 999, 3) := dG_dX11_readLaw_139.2.2.1
theorem dX11_readLaw_144 : decode cX11_readLaw 144 = .ok (.invokevirtual 236, 3) := dG_dX11_readLaw_139.2.2.2.1
theorem dX11_readLaw_147 : decode cX11_readLaw 147 = .ok (.goto 4, 3) := dG_dX11_readLaw_139.2.2.2.2.1
theorem dX11_readLaw_150 : decode cX11_readLaw 150 = .ok (.iconst 0, 1) := dG_dX11_readLaw_139.2.2.2.2.2.1
theorem dX11_readLaw_151 : decode cX11_readLaw 151 = .ok (.iastore, 1) := dG_dX11_readLaw_139.2.2.2.2.2.2.1
theorem dX11_readLaw_152 : decode cX11_readLaw 152 = .ok (.aload_n 0, 1) := dG_dX11_readLaw_139.2.2.2.2.2.2.2.1
theorem dX11_readLaw_153 : decode cX11_readLaw 153 = .ok (.dup, 1) := dG_dX11_readLaw_139.2.2.2.2.2.2.2.2.1
theorem dX11_readLaw_154 : decode cX11_readLaw 154 = .ok (.getfield 207, 3) := dG_dX11_readLaw_139.2.2.2.2.2.2.2.2.2.1
theorem dX11_readLaw_157 : decode cX11_readLaw 157 = .ok (.iconst 1, 1) := dG_dX11_readLaw_139.2.2.2.2.2.2.2.2.2.2.1
theorem dX11_readLaw_158 : decode cX11_readLaw 158 = .ok (.iadd, 1) := dG_dX11_readLaw_139.2.2.2.2.2.2.2.2.2.2.2
theorem dG_dX11_readLaw_159 : (decode cX11_readLaw 159 = .ok (.putfield 207, 3)) ∧ (decode cX11_readLaw 162 = .ok (.goto 84, 3)) ∧ (decode cX11_readLaw 165 = .ok (.aload_n 0, 1)) ∧ (decode cX11_readLaw 166 = .ok (.invokevirtual 240, 3)) ∧ (decode cX11_readLaw 169 = .ok (.goto 77, 3)) ∧ (decode cX11_readLaw 172 = .ok (.aload_n 0, 1)) ∧ (decode cX11_readLaw 173 = .ok (.invokevirtual 243, 3)) ∧ (decode cX11_readLaw 176 = .ok (.goto 70, 3)) ∧ (decode cX11_readLaw 179 = .ok (.aload_n 0, 1)) ∧ (decode cX11_readLaw 180 = .ok (.aload_n 0, 1)) ∧ (decode cX11_readLaw 181 = .ok (.bipush 98, 2)) ∧ (decode cX11_readLaw 183 = .ok (.bipush 97, 2)) := by decide +kernel
theorem dX11_readLaw_159 : decode cX11_readLaw 159 = .ok (.putfield 207, 3) := dG_dX11_readLaw_159.1
theorem dX11_readLaw_162 : decode cX11_readLaw 162 = .ok (.goto 84, 3) := dG_dX11_readLaw_159.2.1
theorem dX11_readLaw_165 : decode cX11_readLaw 165 = .ok (.aload_n 0, 1) := dG_dX11_readLaw_159.2.2.1
theorem dX11_readLaw_166 : decode cX11_readLaw 166 = .ok (.invokevirtual 240, 3) := dG_dX11_readLaw_159.2.2.2.1
theorem dX11_readLaw_169 : decode cX11_readLaw 169 = .ok (.goto 77, 3) := dG_dX11_readLaw_159.2.2.2.2.1
theorem dX11_readLaw_172 : decode cX11_readLaw 172 = .ok (.aload_n 0, 1) := dG_dX11_readLaw_159.2.2.2.2.2.1
theorem dX11_readLaw_173 : decode cX11_readLaw 173 = .ok (.invokevirtual 243, 3) := dG_dX11_readLaw_159.2.2.2.2.2.2.1
theorem dX11_readLaw_176 : decode cX11_readLaw 176 = .ok (.goto 70, 3) := dG_dX11_readLaw_159.2.2.2.2.2.2.2.1
theorem dX11_readLaw_179 : decode cX11_readLaw 179 = .ok (.aload_n 0, 1) := dG_dX11_readLaw_159.2.2.2.2.2.2.2.2.1
theorem dX11_readLaw_180 : decode cX11_readLaw 180 = .ok (.aload_n 0, 1) := dG_dX11_readLaw_159.2.2.2.2.2.2.2.2.2.1
theorem dX11_readLaw_181 : decode cX11_readLaw 181 = .ok (.bipush 98, 2) := dG_dX11_readLaw_159.2.2.2.2.2.2.2.2.2.2.1
theorem dX11_readLaw_183 : decode cX11_readLaw 183 = .ok (.bipush 97, 2) := dG_dX11_readLaw_159.2.2.2.2.2.2.2.2.2.2.2
theorem dG_dX11_readLaw_185 : (decode cX11_readLaw 185 = .ok (.bipush 99, 2)) ∧ (decode cX11_readLaw 187 = .ok (.bipush 107, 2)) ∧ (decode cX11_readLaw 189 = .ok (.iconst 0, 1)) ∧ (decode cX11_readLaw 190 = .ok (.iconst 0, 1)) ∧ (decode cX11_readLaw 191 = .ok (.iconst 0, 1)) ∧ (decode cX11_readLaw 192 = .ok (.invokestatic 228, 3)) ∧ (decode cX11_readLaw 195 = .ok (.invokevirtual 232, 3)) ∧ (decode cX11_readLaw 198 = .ok (.putfield 210, 3)) ∧ (decode cX11_readLaw 201 = .ok (.aload_n 0, 1)) ∧ (decode cX11_readLaw 202 = .ok (.getfield 210, 3)) ∧ (decode cX11_readLaw 205 = .ok (.ifCond .ne 30, 3)) ∧ (decode cX11_readLaw 208 = .ok (.aload_n 0, 1)) := by decide +kernel
theorem dX11_readLaw_185 : decode cX11_readLaw 185 = .ok (.bipush 99, 2) := dG_dX11_readLaw_185.1
theorem dX11_readLaw_187 : decode cX11_readLaw 187 = .ok (.bipush 107, 2) := dG_dX11_readLaw_185.2.1
theorem dX11_readLaw_189 : decode cX11_readLaw 189 = .ok (.iconst 0, 1) := dG_dX11_readLaw_185.2.2.1
theorem dX11_readLaw_190 : decode cX11_readLaw 190 = .ok (.iconst 0, 1) := dG_dX11_readLaw_185.2.2.2.1
theorem dX11_readLaw_191 : decode cX11_readLaw 191 = .ok (.iconst 0, 1) := dG_dX11_readLaw_185.2.2.2.2.1
theorem dX11_readLaw_192 : decode cX11_readLaw 192 = .ok (.invokestatic 228, 3) := dG_dX11_readLaw_185.2.2.2.2.2.1
theorem dX11_readLaw_195 : decode cX11_readLaw 195 = .ok (.invokevirtual 232, 3) := dG_dX11_readLaw_185.2.2.2.2.2.2.1
theorem dX11_readLaw_198 : decode cX11_readLaw 198 = .ok (.putfield 210, 3) := dG_dX11_readLaw_185.2.2.2.2.2.2.2.1
theorem dX11_readLaw_201 : decode cX11_readLaw 201 = .ok (.aload_n 0, 1) := dG_dX11_readLaw_185.2.2.2.2.2.2.2.2.1
theorem dX11_readLaw_202 : decode cX11_readLaw 202 = .ok (.getfield 210, 3) := dG_dX11_readLaw_185.2.2.2.2.2.2.2.2.2.1
theorem dX11_readLaw_205 : decode cX11_readLaw 205 = .ok (.ifCond .ne 30, 3) := dG_dX11_readLaw_185.2.2.2.2.2.2.2.2.2.2.1
theorem dX11_readLaw_208 : decode cX11_readLaw 208 = .ok (.aload_n 0, 1) := dG_dX11_readLaw_185.2.2.2.2.2.2.2.2.2.2.2
theorem dG_dX11_readLaw_209 : (decode cX11_readLaw 209 = .ok (.bipush 115, 2)) ∧ (decode cX11_readLaw 211 = .ok (.bipush 104, 2)) ∧ (decode cX11_readLaw 213 = .ok (.bipush 97, 2)) ∧ (decode cX11_readLaw 215 = .ok (.bipush 114, 2)) ∧ (decode cX11_readLaw 217 = .ok (.bipush 101, 2)) ∧ (decode cX11_readLaw 219 = .ok (.bipush 100, 2)) ∧ (decode cX11_readLaw 221 = .ok (.iconst 0, 1)) ∧ (decode cX11_readLaw 222 = .ok (.invokestatic 228, 3)) ∧ (decode cX11_readLaw 225 = .ok (.invokevirtual 232, 3)) ∧ (decode cX11_readLaw 228 = .ok (.ifCond .ne 7, 3)) ∧ (decode cX11_readLaw 231 = .ok (.aload_n 0, 1)) ∧ (decode cX11_readLaw 232 = .ok (.invokevirtual 198, 3)) := by decide +kernel
theorem dX11_readLaw_209 : decode cX11_readLaw 209 = .ok (.bipush 115, 2) := dG_dX11_readLaw_209.1
theorem dX11_readLaw_211 : decode cX11_readLaw 211 = .ok (.bipush 104, 2) := dG_dX11_readLaw_209.2.1
theorem dX11_readLaw_213 : decode cX11_readLaw 213 = .ok (.bipush 97, 2) := dG_dX11_readLaw_209.2.2.1
theorem dX11_readLaw_215 : decode cX11_readLaw 215 = .ok (.bipush 114, 2) := dG_dX11_readLaw_209.2.2.2.1
theorem dX11_readLaw_217 : decode cX11_readLaw 217 = .ok (.bipush 101, 2) := dG_dX11_readLaw_209.2.2.2.2.1
theorem dX11_readLaw_219 : decode cX11_readLaw 219 = .ok (.bipush 100, 2) := dG_dX11_readLaw_209.2.2.2.2.2.1
theorem dX11_readLaw_221 : decode cX11_readLaw 221 = .ok (.iconst 0, 1) := dG_dX11_readLaw_209.2.2.2.2.2.2.1
theorem dX11_readLaw_222 : decode cX11_readLaw 222 = .ok (.invokestatic 228, 3) := dG_dX11_readLaw_209.2.2.2.2.2.2.2.1
theorem dX11_readLaw_225 : decode cX11_readLaw 225 = .ok (.invokevirtual 232, 3) := dG_dX11_readLaw_209.2.2.2.2.2.2.2.2.1
theorem dX11_readLaw_228 : decode cX11_readLaw 228 = .ok (.ifCond .ne 7, 3) := dG_dX11_readLaw_209.2.2.2.2.2.2.2.2.2.1
theorem dX11_readLaw_231 : decode cX11_readLaw 231 = .ok (.aload_n 0, 1) := dG_dX11_readLaw_209.2.2.2.2.2.2.2.2.2.2.1
theorem dX11_readLaw_232 : decode cX11_readLaw 232 = .ok (.invokevirtual 198, 3) := dG_dX11_readLaw_209.2.2.2.2.2.2.2.2.2.2.2
theorem dG_dX11_readLaw_235 : (decode cX11_readLaw 235 = .ok (.aload_n 0, 1)) ∧ (decode cX11_readLaw 236 = .ok (.getfield 188, 3)) ∧ (decode cX11_readLaw 239 = .ok (.ifCond .ne 7, 3)) ∧ (decode cX11_readLaw 242 = .ok (.aload_n 0, 1)) ∧ (decode cX11_readLaw 243 = .ok (.invokevirtual 201, 3)) ∧ (decode cX11_readLaw 246 = .ok (.aload_n 0, 1)) ∧ (decode cX11_readLaw 247 = .ok (.getfield 188, 3)) ∧ (decode cX11_readLaw 250 = .ok (.ifCond .ne 7, 3)) ∧ (decode cX11_readLaw 253 = .ok (.aload_n 0, 1)) ∧ (decode cX11_readLaw 254 = .ok (.invokevirtual 246, 3)) ∧ (decode cX11_readLaw 257 = .ok (.return_, 1)) := by decide +kernel
theorem dX11_readLaw_235 : decode cX11_readLaw 235 = .ok (.aload_n 0, 1) := dG_dX11_readLaw_235.1
theorem dX11_readLaw_236 : decode cX11_readLaw 236 = .ok (.getfield 188, 3) := dG_dX11_readLaw_235.2.1
theorem dX11_readLaw_239 : decode cX11_readLaw 239 = .ok (.ifCond .ne 7, 3) := dG_dX11_readLaw_235.2.2.1
theorem dX11_readLaw_242 : decode cX11_readLaw 242 = .ok (.aload_n 0, 1) := dG_dX11_readLaw_235.2.2.2.1
theorem dX11_readLaw_243 : decode cX11_readLaw 243 = .ok (.invokevirtual 201, 3) := dG_dX11_readLaw_235.2.2.2.2.1
theorem dX11_readLaw_246 : decode cX11_readLaw 246 = .ok (.aload_n 0, 1) := dG_dX11_readLaw_235.2.2.2.2.2.1
theorem dX11_readLaw_247 : decode cX11_readLaw 247 = .ok (.getfield 188, 3) := dG_dX11_readLaw_235.2.2.2.2.2.2.1
theorem dX11_readLaw_250 : decode cX11_readLaw 250 = .ok (.ifCond .ne 7, 3) := dG_dX11_readLaw_235.2.2.2.2.2.2.2.1
theorem dX11_readLaw_253 : decode cX11_readLaw 253 = .ok (.aload_n 0, 1) := dG_dX11_readLaw_235.2.2.2.2.2.2.2.2.1
theorem dX11_readLaw_254 : decode cX11_readLaw 254 = .ok (.invokevirtual 246, 3) := dG_dX11_readLaw_235.2.2.2.2.2.2.2.2.2.1
theorem dX11_readLaw_257 : decode cX11_readLaw 257 = .ok (.return_, 1) := dG_dX11_readLaw_235.2.2.2.2.2.2.2.2.2.2
end

section
theorem seenK : ∀ a b c : Fin 2, ((iI (2 * (a.val : Int) + 4 * (b.val : Int) + 8 * (c.val : Int)) >>> (iI 1 &&& 31)) &&& iI 1 = iI (a.val : Int) ∧ (iI (2 * (a.val : Int) + 4 * (b.val : Int) + 8 * (c.val : Int)) >>> (iI 2 &&& 31)) &&& iI 1 = iI (b.val : Int) ∧ (iI (2 * (a.val : Int) + 4 * (b.val : Int) + 8 * (c.val : Int)) >>> (iI 3 &&& 31)) &&& iI 1 = iI (c.val : Int)) ∧ (iI (2 * (a.val : Int) + 4 * (b.val : Int) + 8 * (c.val : Int)) ||| (iI 1 <<< (iI 1 &&& 31)) = iI (2 * 1 + 4 * (b.val : Int) + 8 * (c.val : Int)) ∧ iI (2 * (a.val : Int) + 4 * (b.val : Int) + 8 * (c.val : Int)) ||| (iI 1 <<< (iI 2 &&& 31)) = iI (2 * (a.val : Int) + 4 * 1 + 8 * (c.val : Int)) ∧ iI (2 * (a.val : Int) + 4 * (b.val : Int) + 8 * (c.val : Int)) ||| (iI 1 <<< (iI 3 &&& 31)) = iI (2 * (a.val : Int) + 4 * (b.val : Int) + 8 * 1)) ∧ iI (2 * (a.val : Int) + 4 * (b.val : Int) + 8 * (c.val : Int)) ||| iI 0 = iI (2 * (a.val : Int) + 4 * (b.val : Int) + 8 * (c.val : Int)) := by decide +kernel
theorem fin2 {t : Int} (h : 0 ≤ t ∧ t ≤ 1) : ∃ a : Fin 2, t = (a.val : Int) := by
  rcases (show t = 0 ∨ t = 1 by omega) with rfl | rfl
  · exact ⟨0, rfl⟩
  · exact ⟨1, rfl⟩
theorem seenB {t1 t2 t3 x z xa xb : Int} (h1 : 0 ≤ t1 ∧ t1 ≤ 1) (h2 : 0 ≤ t2 ∧ t2 ≤ 1) (h3 : 0 ≤ t3 ∧ t3 ≤ 1) (hx : x = 2 * t1 + 4 * t2 + 8 * t3) (ea : iI x >>> (iI z &&& 31) = iI xa) (eb : iI xa &&& iI 1 = iI xb) (hb : 0 ≤ xb ∧ xb ≤ 1) : (z = 1 → xb = t1) ∧ (z = 2 → xb = t2) ∧ (z = 3 → xb = t3) := by
  obtain ⟨a, rfl⟩ := fin2 h1
  obtain ⟨b, rfl⟩ := fin2 h2
  obtain ⟨c, rfl⟩ := fin2 h3
  subst hx
  rw [← ea] at eb
  have k := (seenK a b c).1
  refine ⟨fun hz => ?_, fun hz => ?_, fun hz => ?_⟩ <;> subst hz
  · exact (iI_eq (by omega) (by omega)).mp (eb.symm.trans k.1)
  · exact (iI_eq (by omega) (by omega)).mp (eb.symm.trans k.2.1)
  · exact (iI_eq (by omega) (by omega)).mp (eb.symm.trans k.2.2)
theorem seenO {t1 t2 t3 x z xs y : Int} (h1 : 0 ≤ t1 ∧ t1 ≤ 1) (h2 : 0 ≤ t2 ∧ t2 ≤ 1) (h3 : 0 ≤ t3 ∧ t3 ≤ 1) (hx : x = 2 * t1 + 4 * t2 + 8 * t3) (es : iI 1 <<< (iI z &&& 31) = iI xs) (eo : iI x ||| iI xs = iI y) (hy : inR y) : (z = 1 → y = 2 * 1 + 4 * t2 + 8 * t3) ∧ (z = 2 → y = 2 * t1 + 4 * 1 + 8 * t3) ∧ (z = 3 → y = 2 * t1 + 4 * t2 + 8 * 1) := by
  obtain ⟨a, rfl⟩ := fin2 h1
  obtain ⟨b, rfl⟩ := fin2 h2
  obtain ⟨c, rfl⟩ := fin2 h3
  subst hx
  rw [← es] at eo
  have k := (seenK a b c).2.1
  refine ⟨fun hz => ?_, fun hz => ?_, fun hz => ?_⟩ <;> subst hz
  · exact (iI_eq (by omega) (by omega)).mp (eo.symm.trans k.1)
  · exact (iI_eq (by omega) (by omega)).mp (eo.symm.trans k.2.1)
  · exact (iI_eq (by omega) (by omega)).mp (eo.symm.trans k.2.2)
theorem seen0 {t1 t2 t3 x y : Int} (h1 : 0 ≤ t1 ∧ t1 ≤ 1) (h2 : 0 ≤ t2 ∧ t2 ≤ 1) (h3 : 0 ≤ t3 ∧ t3 ≤ 1) (hx : x = 2 * t1 + 4 * t2 + 8 * t3) (eo : iI x ||| iI 0 = iI y) (hy : inR y) : y = x := by
  obtain ⟨a, rfl⟩ := fin2 h1
  obtain ⟨b, rfl⟩ := fin2 h2
  obtain ⟨c, rfl⟩ := fin2 h3
  subst hx
  exact (iI_eq (by omega) (by omega)).mp (eo.symm.trans (seenK a b c).2.2)
theorem law1_t {B : Int → Int} {n p r t1 t2 t3 : Int} (h1 : tK B n p = 261 → t1 = 0) (h2 : tK B n p = 262 → t2 = 0) (h3 : tK B n p = 263 → t3 = 0) : law1 B n p r t1 t2 t3 = law1 B n p r 0 0 0 := by
  have e : law0 B n p r t1 t2 t3 = law0 B n p r 0 0 0 := by
    unfold law0
    by_cases a0 : tK B n p = 260
    · rw [if_pos a0, if_pos a0]
    · rw [if_neg a0, if_neg a0]
      by_cases a1 : tK B n p = 261
      · rw [if_pos a1, if_pos a1, h1 a1]
      · rw [if_neg a1, if_neg a1]
        by_cases a2 : tK B n p = 262
        · rw [if_pos a2, if_pos a2, h2 a2]
        · rw [if_neg a2, if_neg a2]
          by_cases a3 : tK B n p = 263
          · rw [if_pos a3, if_pos a3, h3 a3]
          · rw [if_neg a3, if_neg a3]
  unfold law1
  rw [e]
theorem law1_no {B : Int → Int} {n p r t1 t2 t3 : Int} (h : tK B n p ≠ 260 ∧ tK B n p ≠ 261 ∧ tK B n p ≠ 262 ∧ tK B n p ≠ 263) : law1 B n p r t1 t2 t3 = (fk B n p, p) := by
  unfold law1 law0
  rw [if_neg h.1, if_neg h.2.1, if_neg h.2.2.1, if_neg h.2.2.2]
  exact semi_fk
theorem law1_ag {B : Int → Int} {n p r t1 t2 t3 : Int} (h : (tK B n p = 261 ∧ t1 ≠ 0) ∨ (tK B n p = 262 ∧ t2 ≠ 0) ∨ (tK B n p = 263 ∧ t3 ≠ 0)) : law1 B n p r t1 t2 t3 = (5, p) := by
  have e : law0 B n p r t1 t2 t3 = (5, p) := by
    unfold law0
    rcases h with ⟨h, ht⟩ | ⟨h, ht⟩ | ⟨h, ht⟩
    · rw [if_neg (by omega), if_pos h, if_pos ht]
    · rw [if_neg (by omega), if_neg (by omega), if_pos h, if_pos ht]
    · rw [if_neg (by omega), if_neg (by omega), if_neg (by omega), if_pos h, if_pos ht]
  unfold law1
  rw [e]
  exact semi_bad (show (5 : Int) ≠ 0 by decide)
theorem law1_le {B : Int → Int} {n p r t1 t2 t3 : Int} (hp : p < n) : p ≤ (law1 B n p r t1 t2 t3).2 := by
  by_cases h : (law1 B n p r t1 t2 t3).1 = 0
  · have := law1_ge hp h; omega
  · have h1 := tX_up (B := B) hp
    have h0 : p ≤ (law0 B n p r t1 t2 t3).2 ∧ (law0 B n p r t1 t2 t3).2 ≤ n := by
      have a1 := rnd_ge (B := B) 4 0 (tX B n p) h1.2
      have a2 := exF_ge (B := B) 702 (tX B n p) 0 [] [] h1.2
      have a3 := kys_ge (B := B) 4 (tX B n p) h1.2
      have h2 := tX_ge (B := B) h1.2
      unfold law0 exO tie
      repeat' split
      all_goals (first | exact ⟨Int.le_refl p, Int.le_of_lt hp⟩ | omega | (constructor <;> show _ ≤ _ <;> omega))
    have h3 := tX_ge (B := B) h0.2
    unfold law1 semi
    by_cases c1 : (law0 B n p r t1 t2 t3).1 ≠ 0
    · rw [if_pos c1]; exact h0.1
    · rw [if_neg c1]
      by_cases c2 : tK B n (law0 B n p r t1 t2 t3).2 ≠ 59
      · rw [if_pos c2]; exact h0.1
      · rw [if_neg c2]; show p ≤ tX B n (law0 B n p r t1 t2 t3).2; omega
end

section
theorem dG_dX11_readText_0 : (decode cX11_readText 0 = .ok (.aload_n 0, 1)) ∧ (decode cX11_readText 1 = .ok (.iconst 0, 1)) ∧ (decode cX11_readText 2 = .ok (.putfield 207, 3)) ∧ (decode cX11_readText 5 = .ok (.aload_n 0, 1)) ∧ (decode cX11_readText 6 = .ok (.iconst 0, 1)) ∧ (decode cX11_readText 7 = .ok (.putfield 210, 3)) ∧ (decode cX11_readText 10 = .ok (.aload_n 0, 1)) ∧ (decode cX11_readText 11 = .ok (.iconst 1, 1)) ∧ (decode cX11_readText 12 = .ok (.putfield 214, 3)) ∧ (decode cX11_readText 15 = .ok (.aload_n 0, 1)) ∧ (decode cX11_readText 16 = .ok (.getfield 60, 3)) ∧ (decode cX11_readText 19 = .ok (.iconst 0, 1)) := by decide +kernel
theorem dX11_readText_0 : decode cX11_readText 0 = .ok (.aload_n 0, 1) := dG_dX11_readText_0.1
theorem dX11_readText_1 : decode cX11_readText 1 = .ok (.iconst 0, 1) := dG_dX11_readText_0.2.1
theorem dX11_readText_2 : decode cX11_readText 2 = .ok (.putfield 207, 3) := dG_dX11_readText_0.2.2.1
theorem dX11_readText_5 : decode cX11_readText 5 = .ok (.aload_n 0, 1) := dG_dX11_readText_0.2.2.2.1
theorem dX11_readText_6 : decode cX11_readText 6 = .ok (.iconst 0, 1) := dG_dX11_readText_0.2.2.2.2.1
theorem dX11_readText_7 : decode cX11_readText 7 = .ok (.putfield 210, 3) := dG_dX11_readText_0.2.2.2.2.2.1
theorem dX11_readText_10 : decode cX11_readText 10 = .ok (.aload_n 0, 1) := dG_dX11_readText_0.2.2.2.2.2.2.1
theorem dX11_readText_11 : decode cX11_readText 11 = .ok (.iconst 1, 1) := dG_dX11_readText_0.2.2.2.2.2.2.2.1
theorem dX11_readText_12 : decode cX11_readText 12 = .ok (.putfield 214, 3) := dG_dX11_readText_0.2.2.2.2.2.2.2.2.1
theorem dX11_readText_15 : decode cX11_readText 15 = .ok (.aload_n 0, 1) := dG_dX11_readText_0.2.2.2.2.2.2.2.2.2.1
theorem dX11_readText_16 : decode cX11_readText 16 = .ok (.getfield 60, 3) := dG_dX11_readText_0.2.2.2.2.2.2.2.2.2.2.1
theorem dX11_readText_19 : decode cX11_readText 19 = .ok (.iconst 0, 1) := dG_dX11_readText_0.2.2.2.2.2.2.2.2.2.2.2
theorem dG_dX11_readText_20 : (decode cX11_readText 20 = .ok (.iconst 0, 1)) ∧ (decode cX11_readText 21 = .ok (.iastore, 1)) ∧ (decode cX11_readText 22 = .ok (.aload_n 0, 1)) ∧ (decode cX11_readText 23 = .ok (.getfield 67, 3)) ∧ (decode cX11_readText 26 = .ok (.iconst 0, 1)) ∧ (decode cX11_readText 27 = .ok (.iconst 0, 1)) ∧ (decode cX11_readText 28 = .ok (.bastore, 1)) ∧ (decode cX11_readText 29 = .ok (.aload_n 0, 1)) ∧ (decode cX11_readText 30 = .ok (.iconst 5, 1)) ∧ (decode cX11_readText 31 = .ok (.putfield 217, 3)) ∧ (decode cX11_readText 34 = .ok (.aload_n 0, 1)) ∧ (decode cX11_readText 35 = .ok (.getfield 51, 3)) := by decide +kernel
theorem dX11_readText_20 : decode cX11_readText 20 = .ok (.iconst 0, 1) := dG_dX11_readText_20.1
theorem dX11_readText_21 : decode cX11_readText 21 = .ok (.iastore, 1) := dG_dX11_readText_20.2.1
theorem dX11_readText_22 : decode cX11_readText 22 = .ok (.aload_n 0, 1) := dG_dX11_readText_20.2.2.1
theorem dX11_readText_23 : decode cX11_readText 23 = .ok (.getfield 67, 3) := dG_dX11_readText_20.2.2.2.1
theorem dX11_readText_26 : decode cX11_readText 26 = .ok (.iconst 0, 1) := dG_dX11_readText_20.2.2.2.2.1
theorem dX11_readText_27 : decode cX11_readText 27 = .ok (.iconst 0, 1) := dG_dX11_readText_20.2.2.2.2.2.1
theorem dX11_readText_28 : decode cX11_readText 28 = .ok (.bastore, 1) := dG_dX11_readText_20.2.2.2.2.2.2.1
theorem dX11_readText_29 : decode cX11_readText 29 = .ok (.aload_n 0, 1) := dG_dX11_readText_20.2.2.2.2.2.2.2.1
theorem dX11_readText_30 : decode cX11_readText 30 = .ok (.iconst 5, 1) := dG_dX11_readText_20.2.2.2.2.2.2.2.2.1
theorem dX11_readText_31 : decode cX11_readText 31 = .ok (.putfield 217, 3) := dG_dX11_readText_20.2.2.2.2.2.2.2.2.2.1
theorem dX11_readText_34 : decode cX11_readText 34 = .ok (.aload_n 0, 1) := dG_dX11_readText_20.2.2.2.2.2.2.2.2.2.2.1
theorem dX11_readText_35 : decode cX11_readText 35 = .ok (.getfield 51, 3) := dG_dX11_readText_20.2.2.2.2.2.2.2.2.2.2.2
theorem dG_dX11_readText_38 : (decode cX11_readText 38 = .ok (.iconst 0, 1)) ∧ (decode cX11_readText 39 = .ok (.iconst 0, 1)) ∧ (decode cX11_readText 40 = .ok (.iastore, 1)) ∧ (decode cX11_readText 41 = .ok (.aload_n 0, 1)) ∧ (decode cX11_readText 42 = .ok (.getfield 54, 3)) ∧ (decode cX11_readText 45 = .ok (.iconst 0, 1)) ∧ (decode cX11_readText 46 = .ok (.bipush 100, 2)) ∧ (decode cX11_readText 48 = .ok (.iastore, 1)) ∧ (decode cX11_readText 49 = .ok (.aload_n 0, 1)) ∧ (decode cX11_readText 50 = .ok (.getfield 51, 3)) ∧ (decode cX11_readText 53 = .ok (.iconst 1, 1)) ∧ (decode cX11_readText 54 = .ok (.iconst 1, 1)) := by decide +kernel
theorem dX11_readText_38 : decode cX11_readText 38 = .ok (.iconst 0, 1) := dG_dX11_readText_38.1
theorem dX11_readText_39 : decode cX11_readText 39 = .ok (.iconst 0, 1) := dG_dX11_readText_38.2.1
theorem dX11_readText_40 : decode cX11_readText 40 = .ok (.iastore, 1) := dG_dX11_readText_38.2.2.1
theorem dX11_readText_41 : decode cX11_readText 41 = .ok (.aload_n 0, 1) := dG_dX11_readText_38.2.2.2.1
theorem dX11_readText_42 : decode cX11_readText 42 = .ok (.getfield 54, 3) := dG_dX11_readText_38.2.2.2.2.1
theorem dX11_readText_45 : decode cX11_readText 45 = .ok (.iconst 0, 1) := dG_dX11_readText_38.2.2.2.2.2.1
theorem dX11_readText_46 : decode cX11_readText 46 = .ok (.bipush 100, 2) := dG_dX11_readText_38.2.2.2.2.2.2.1
theorem dX11_readText_48 : decode cX11_readText 48 = .ok (.iastore, 1) := dG_dX11_readText_38.2.2.2.2.2.2.2.1
theorem dX11_readText_49 : decode cX11_readText 49 = .ok (.aload_n 0, 1) := dG_dX11_readText_38.2.2.2.2.2.2.2.2.1
theorem dX11_readText_50 : decode cX11_readText 50 = .ok (.getfield 51, 3) := dG_dX11_readText_38.2.2.2.2.2.2.2.2.2.1
theorem dX11_readText_53 : decode cX11_readText 53 = .ok (.iconst 1, 1) := dG_dX11_readText_38.2.2.2.2.2.2.2.2.2.2.1
theorem dX11_readText_54 : decode cX11_readText 54 = .ok (.iconst 1, 1) := dG_dX11_readText_38.2.2.2.2.2.2.2.2.2.2.2
theorem dG_dX11_readText_55 : (decode cX11_readText 55 = .ok (.iastore, 1)) ∧ (decode cX11_readText 56 = .ok (.aload_n 0, 1)) ∧ (decode cX11_readText 57 = .ok (.getfield 51, 3)) ∧ (decode cX11_readText 60 = .ok (.iconst 2, 1)) ∧ (decode cX11_readText 61 = .ok (.bipush 9, 2)) ∧ (decode cX11_readText 63 = .ok (.iastore, 1)) ∧ (decode cX11_readText 64 = .ok (.aload_n 0, 1)) ∧ (decode cX11_readText 65 = .ok (.getfield 51, 3)) ∧ (decode cX11_readText 68 = .ok (.iconst 3, 1)) ∧ (decode cX11_readText 69 = .ok (.iconst 2, 1)) ∧ (decode cX11_readText 70 = .ok (.iastore, 1)) ∧ (decode cX11_readText 71 = .ok (.aload_n 0, 1)) := by decide +kernel
theorem dX11_readText_55 : decode cX11_readText 55 = .ok (.iastore, 1) := dG_dX11_readText_55.1
theorem dX11_readText_56 : decode cX11_readText 56 = .ok (.aload_n 0, 1) := dG_dX11_readText_55.2.1
theorem dX11_readText_57 : decode cX11_readText 57 = .ok (.getfield 51, 3) := dG_dX11_readText_55.2.2.1
theorem dX11_readText_60 : decode cX11_readText 60 = .ok (.iconst 2, 1) := dG_dX11_readText_55.2.2.2.1
theorem dX11_readText_61 : decode cX11_readText 61 = .ok (.bipush 9, 2) := dG_dX11_readText_55.2.2.2.2.1
theorem dX11_readText_63 : decode cX11_readText 63 = .ok (.iastore, 1) := dG_dX11_readText_55.2.2.2.2.2.1
theorem dX11_readText_64 : decode cX11_readText 64 = .ok (.aload_n 0, 1) := dG_dX11_readText_55.2.2.2.2.2.2.1
theorem dX11_readText_65 : decode cX11_readText 65 = .ok (.getfield 51, 3) := dG_dX11_readText_55.2.2.2.2.2.2.2.1
theorem dX11_readText_68 : decode cX11_readText 68 = .ok (.iconst 3, 1) := dG_dX11_readText_55.2.2.2.2.2.2.2.2.1
theorem dX11_readText_69 : decode cX11_readText 69 = .ok (.iconst 2, 1) := dG_dX11_readText_55.2.2.2.2.2.2.2.2.2.1
theorem dX11_readText_70 : decode cX11_readText 70 = .ok (.iastore, 1) := dG_dX11_readText_55.2.2.2.2.2.2.2.2.2.2.1
theorem dX11_readText_71 : decode cX11_readText 71 = .ok (.aload_n 0, 1) := dG_dX11_readText_55.2.2.2.2.2.2.2.2.2.2.2
theorem dG_dX11_readText_72 : (decode cX11_readText 72 = .ok (.getfield 51, 3)) ∧ (decode cX11_readText 75 = .ok (.iconst 4, 1)) ∧ (decode cX11_readText 76 = .ok (.bipush 7, 2)) ∧ (decode cX11_readText 78 = .ok (.iastore, 1)) ∧ (decode cX11_readText 79 = .ok (.iconst 0, 1)) ∧ (decode cX11_readText 80 = .ok (.istore_n 1, 1)) ∧ (decode cX11_readText 81 = .ok (.aload_n 0, 1)) ∧ (decode cX11_readText 82 = .ok (.invokevirtual 201, 3)) ∧ (decode cX11_readText 85 = .ok (.aload_n 0, 1)) ∧ (decode cX11_readText 86 = .ok (.getfield 188, 3)) ∧ (decode cX11_readText 89 = .ok (.ifCond .ne 77, 3)) ∧ (decode cX11_readText 92 = .ok (.aload_n 0, 1)) := by decide +kernel
theorem dX11_readText_72 : decode cX11_readText 72 = .ok (.getfield 51, 3) := dG_dX11_readText_72.1
theorem dX11_readText_75 : decode cX11_readText 75 = .ok (.iconst 4, 1) := dG_dX11_readText_72.2.1
theorem dX11_readText_76 : decode cX11_readText 76 = .ok (.bipush 7, 2) := dG_dX11_readText_72.2.2.1
theorem dX11_readText_78 : decode cX11_readText 78 = .ok (.iastore, 1) := dG_dX11_readText_72.2.2.2.1
theorem dX11_readText_79 : decode cX11_readText 79 = .ok (.iconst 0, 1) := dG_dX11_readText_72.2.2.2.2.1
theorem dX11_readText_80 : decode cX11_readText 80 = .ok (.istore_n 1, 1) := dG_dX11_readText_72.2.2.2.2.2.1
theorem dX11_readText_81 : decode cX11_readText 81 = .ok (.aload_n 0, 1) := dG_dX11_readText_72.2.2.2.2.2.2.1
theorem dX11_readText_82 : decode cX11_readText 82 = .ok (.invokevirtual 201, 3) := dG_dX11_readText_72.2.2.2.2.2.2.2.1
theorem dX11_readText_85 : decode cX11_readText 85 = .ok (.aload_n 0, 1) := dG_dX11_readText_72.2.2.2.2.2.2.2.2.1
theorem dX11_readText_86 : decode cX11_readText 86 = .ok (.getfield 188, 3) := dG_dX11_readText_72.2.2.2.2.2.2.2.2.2.1
theorem dX11_readText_89 : decode cX11_readText 89 = .ok (.ifCond .ne 77, 3) := dG_dX11_readText_72.2.2.2.2.2.2.2.2.2.2.1
theorem dX11_readText_92 : decode cX11_readText 92 = .ok (.aload_n 0, 1) := dG_dX11_readText_72.2.2.2.2.2.2.2.2.2.2.2
theorem dG_dX11_readText_93 : (decode cX11_readText 93 = .ok (.getfield 165, 3)) ∧ (decode cX11_readText 96 = .ok (.ifCond .eq 70, 3)) ∧ (decode cX11_readText 99 = .ok (.aload_n 0, 1)) ∧ (decode cX11_readText 100 = .ok (.invokevirtual 220, 3)) ∧ (decode cX11_readText 103 = .ok (.istore_n 2, 1)) ∧ (decode cX11_readText 104 = .ok (.iload_n 2, 1)) ∧ (decode cX11_readText 105 = .ok (.ifCond .ge 10, 3)) ∧ (decode cX11_readText 108 = .ok (.aload_n 0, 1)) ∧ (decode cX11_readText 109 = .ok (.invokevirtual 198, 3)) ∧ (decode cX11_readText 112 = .ok (.goto 25, 3)) ∧ (decode cX11_readText 115 = .ok (.iload_n 2, 1)) ∧ (decode cX11_readText 116 = .ok (.ifCond .le 21, 3)) := by decide +kernel
theorem dX11_readText_93 : decode cX11_readText 93 = .ok (.getfield 165, 3) := dG_dX11_readText_93.1
theorem dX11_readText_96 : decode cX11_readText 96 = .ok (.ifCond .eq 70, 3) := dG_dX11_readText_93.2.1
theorem dX11_readText_99 : decode cX11_readText 99 = .ok (.aload_n 0, 1) := dG_dX11_readText_93.2.2.1
theorem dX11_readText_100 : decode cX11_readText 100 = .ok (.invokevirtual 220, 3) := dG_dX11_readText_93.2.2.2.1
theorem dX11_readText_103 : decode cX11_readText 103 = .ok (.istore_n 2, 1) := dG_dX11_readText_93.2.2.2.2.1
theorem dX11_readText_104 : decode cX11_readText 104 = .ok (.iload_n 2, 1) := dG_dX11_readText_93.2.2.2.2.2.1
theorem dX11_readText_105 : decode cX11_readText 105 = .ok (.ifCond .ge 10, 3) := dG_dX11_readText_93.2.2.2.2.2.2.1
theorem dX11_readText_108 : decode cX11_readText 108 = .ok (.aload_n 0, 1) := dG_dX11_readText_93.2.2.2.2.2.2.2.1
theorem dX11_readText_109 : decode cX11_readText 109 = .ok (.invokevirtual 198, 3) := dG_dX11_readText_93.2.2.2.2.2.2.2.2.1
theorem dX11_readText_112 : decode cX11_readText 112 = .ok (.goto 25, 3) := dG_dX11_readText_93.2.2.2.2.2.2.2.2.2.1
theorem dX11_readText_115 : decode cX11_readText 115 = .ok (.iload_n 2, 1) := dG_dX11_readText_93.2.2.2.2.2.2.2.2.2.2.1
theorem dX11_readText_116 : decode cX11_readText 116 = .ok (.ifCond .le 21, 3) := dG_dX11_readText_93.2.2.2.2.2.2.2.2.2.2.2
theorem dG_dX11_readText_119 : (decode cX11_readText 119 = .ok (.iload_n 1, 1)) ∧ (decode cX11_readText 120 = .ok (.iload_n 2, 1)) ∧ (decode cX11_readText 121 = .ok (.ishr, 1)) ∧ (decode cX11_readText 122 = .ok (.iconst 1, 1)) ∧ (decode cX11_readText 123 = .ok (.iand, 1)) ∧ (decode cX11_readText 124 = .ok (.iconst 1, 1)) ∧ (decode cX11_readText 125 = .ok (.if_icmp .ne 12, 3)) ∧ (decode cX11_readText 128 = .ok (.aload_n 0, 1)) ∧ (decode cX11_readText 129 = .ok (.iconst 5, 1)) ∧ (decode cX11_readText 130 = .ok (.aload_n 0, 1)) ∧ (decode cX11_readText 131 = .ok (.getfield 158, 3)) ∧ (decode cX11_readText 134 = .ok (.invokevirtual 194, 3)) := by decide +kernel
theorem dX11_readText_119 : decode cX11_readText 119 = .ok (.iload_n 1, 1) := dG_dX11_readText_119.1
theorem dX11_readText_120 : decode cX11_readText 120 = .ok (.iload_n 2, 1) := dG_dX11_readText_119.2.1
theorem dX11_readText_121 : decode cX11_readText 121 = .ok (.ishr, 1) := dG_dX11_readText_119.2.2.1
theorem dX11_readText_122 : decode cX11_readText 122 = .ok (.iconst 1, 1) := dG_dX11_readText_119.2.2.2.1
theorem dX11_readText_123 : decode cX11_readText 123 = .ok (.iand, 1) := dG_dX11_readText_119.2.2.2.2.1
theorem dX11_readText_124 : decode cX11_readText 124 = .ok (.iconst 1, 1) := dG_dX11_readText_119.2.2.2.2.2.1
theorem dX11_readText_125 : decode cX11_readText 125 = .ok (.if_icmp .ne 12, 3) := dG_dX11_readText_119.2.2.2.2.2.2.1
theorem dX11_readText_128 : decode cX11_readText 128 = .ok (.aload_n 0, 1) := dG_dX11_readText_119.2.2.2.2.2.2.2.1
theorem dX11_readText_129 : decode cX11_readText 129 = .ok (.iconst 5, 1) := dG_dX11_readText_119.2.2.2.2.2.2.2.2.1
theorem dX11_readText_130 : decode cX11_readText 130 = .ok (.aload_n 0, 1) := dG_dX11_readText_119.2.2.2.2.2.2.2.2.2.1
theorem dX11_readText_131 : decode cX11_readText 131 = .ok (.getfield 158, 3) := dG_dX11_readText_119.2.2.2.2.2.2.2.2.2.2.1
theorem dX11_readText_134 : decode cX11_readText 134 = .ok (.invokevirtual 194, 3) := dG_dX11_readText_119.2.2.2.2.2.2.2.2.2.2.2
theorem dG_dX11_readText_137 : (decode cX11_readText 137 = .ok (.iload_n 1, 1)) ∧ (decode cX11_readText 138 = .ok (.iload_n 2, 1)) ∧ (decode cX11_readText 139 = .ok (.ifCond .le 9, 3)) ∧ (decode cX11_readText 142 = .ok (.iconst 1, 1)) ∧ (decode cX11_readText 143 = .ok (.iload_n 2, 1)) ∧ (decode cX11_readText 144 = .ok (.ishl, 1)) ∧ (decode cX11_readText 145 = .ok (.goto 4, 3)) ∧ (decode cX11_readText 148 = .ok (.iconst 0, 1)) ∧ (decode cX11_readText 149 = .ok (.ior, 1)) ∧ (decode cX11_readText 150 = .ok (.istore_n 1, 1)) ∧ (decode cX11_readText 151 = .ok (.aload_n 0, 1)) ∧ (decode cX11_readText 152 = .ok (.getfield 188, 3)) := by decide +kernel
theorem dX11_readText_137 : decode cX11_readText 137 = .ok (.iload_n 1, 1) := dG_dX11_readText_137.1
theorem dX11_readText_138 : decode cX11_readText 138 = .ok (.iload_n 2, 1) := dG_dX11_readText_137.2.1
theorem dX11_readText_139 : decode cX11_readText 139 = .ok (.ifCond .le 9, 3) := dG_dX11_readText_137.2.2.1
theorem dX11_readText_142 : decode cX11_readText 142 = .ok (.iconst 1, 1) := dG_dX11_readText_137.2.2.2.1
theorem dX11_readText_143 : decode cX11_readText 143 = .ok (.iload_n 2, 1) := dG_dX11_readText_137.2.2.2.2.1
theorem dX11_readText_144 : decode cX11_readText 144 = .ok (.ishl, 1) := dG_dX11_readText_137.2.2.2.2.2.1
theorem dX11_readText_145 : decode cX11_readText 145 = .ok (.goto 4, 3) := dG_dX11_readText_137.2.2.2.2.2.2.1
theorem dX11_readText_148 : decode cX11_readText 148 = .ok (.iconst 0, 1) := dG_dX11_readText_137.2.2.2.2.2.2.2.1
theorem dX11_readText_149 : decode cX11_readText 149 = .ok (.ior, 1) := dG_dX11_readText_137.2.2.2.2.2.2.2.2.1
theorem dX11_readText_150 : decode cX11_readText 150 = .ok (.istore_n 1, 1) := dG_dX11_readText_137.2.2.2.2.2.2.2.2.2.1
theorem dX11_readText_151 : decode cX11_readText 151 = .ok (.aload_n 0, 1) := dG_dX11_readText_137.2.2.2.2.2.2.2.2.2.2.1
theorem dX11_readText_152 : decode cX11_readText 152 = .ok (.getfield 188, 3) := dG_dX11_readText_137.2.2.2.2.2.2.2.2.2.2.2
theorem dG_dX11_readText_155 : (decode cX11_readText 155 = .ok (.ifCond .ne 8, 3)) ∧ (decode cX11_readText 158 = .ok (.aload_n 0, 1)) ∧ (decode cX11_readText 159 = .ok (.iload_n 2, 1)) ∧ (decode cX11_readText 160 = .ok (.invokevirtual 224, 3)) ∧ (decode cX11_readText 163 = .ok (.goto (-78), 3)) ∧ (decode cX11_readText 166 = .ok (.return_, 1)) := by decide +kernel
theorem dX11_readText_155 : decode cX11_readText 155 = .ok (.ifCond .ne 8, 3) := dG_dX11_readText_155.1
theorem dX11_readText_158 : decode cX11_readText 158 = .ok (.aload_n 0, 1) := dG_dX11_readText_155.2.1
theorem dX11_readText_159 : decode cX11_readText 159 = .ok (.iload_n 2, 1) := dG_dX11_readText_155.2.2.1
theorem dX11_readText_160 : decode cX11_readText 160 = .ok (.invokevirtual 224, 3) := dG_dX11_readText_155.2.2.2.1
theorem dX11_readText_163 : decode cX11_readText 163 = .ok (.goto (-78), 3) := dG_dX11_readText_155.2.2.2.2.1
theorem dX11_readText_166 : decode cX11_readText 166 = .ok (.return_, 1) := dG_dX11_readText_155.2.2.2.2.2
end

section
def bG (a : Int → Int) (t x1 x2 x3 x4 x5 : Int) : Int → Int := bP (bP (bP (bP (bP a t x1) (t + 4) x2) (t + 4 + 4) x3) (t + 4 + 4 + 4) x4) (t + 4 + 4 + 4 + 4) x5
end

section
theorem gif1 {P : Prop} {z : Int} (h : (z = 1 ∧ P) ∨ (z = 0 ∧ ¬ P)) (hz : z ≠ 0) : P := h.elim (fun q => q.2) (fun q => absurd q.1 hz)
theorem gif0 {P : Prop} {z : Int} (h : (z = 1 ∧ P) ∨ (z = 0 ∧ ¬ P)) (hz : z = 0) : ¬ P := h.elim (fun q => absurd (q.1.symm.trans hz) (by decide)) (fun q => q.2)
/-! counts over places -/
theorem cn_y {p : Int → Bool} {x : Int} (h : 0 ≤ x) (hp : p x = true) : cn p (x + 1).toNat = cn p x.toNat + 1 := by
  obtain ⟨j, rfl⟩ : ∃ j : Nat, x = (j : Int) := ⟨x.toNat, by omega⟩
  rw [show ((j : Int) + 1).toNat = j + 1 by omega, show ((j : Int)).toNat = j by omega]
  show cn p j + (if p (j : Int) then 1 else 0) = _
  rw [if_pos hp]
theorem cn_n {p : Int → Bool} {x : Int} (h : 0 ≤ x) (hp : p x = false) : cn p (x + 1).toNat = cn p x.toNat := by
  obtain ⟨j, rfl⟩ : ∃ j : Nat, x = (j : Int) := ⟨x.toNat, by omega⟩
  rw [show ((j : Int) + 1).toNat = j + 1 by omega, show ((j : Int)).toNat = j by omega]
  show cn p j + (if p (j : Int) then 1 else 0) = _
  rw [hp]
  show cn p j + 0 = _
  omega
theorem cn_0 (p : Int → Bool) : cn p (0 : Int).toNat = 0 := rfl
theorem cn_hi {p : Int → Bool} {x n : Int} (h0 : 0 ≤ x) (h1 : x < n) (hp : p x = true) : 1 ≤ cn p n.toNat := by
  obtain ⟨j, rfl⟩ : ∃ j : Nat, x = (j : Int) := ⟨x.toNat, by omega⟩
  exact cn_pos j hp n.toNat (by omega)
theorem cn_r {p : Int → Bool} {n : Int} (h : 0 ≤ n) : 0 ≤ cn p n.toNat ∧ cn p n.toNat ≤ n := by
  have := cn_rng p n.toNat
  omega
theorem cn_eq {p q : Int → Bool} {n : Int} (h : ∀ j, 0 ≤ j → j < n → p j = q j) : cn p n.toNat = cn q n.toNat := cn_congr _ (fun j hj => h j (by omega) (by omega))
/-- of a round: who is in -/
def pIn (la : Int → Int) (r c : Int) : Bool := decide (r ≤ la c)
/-! open tries, and those whose seconds are over -/
def OI (n : Int) (wh hw on : Int → Int) : Prop := (∀ c, 0 ≤ c → c < 16 → 0 ≤ on c ∧ on c ≤ n ∧ (0 < on c → wh (on c - 1) = c ∧ hw (on c - 1) = 0)) ∧ ∀ k, 0 ≤ k → k < n → hw k = 0 → on (wh k) = k + 1
abbrev ovC (n s : Int) (hw bg L : Int → Int) (k : Int) : Prop := 0 ≤ k ∧ k < n ∧ hw k = 0 ∧ bg k + L k ≤ s
def ovH (n s : Int) (hw bg L : Int → Int) : Int → Int := fun k => if ovC n s hw bg L k then 3 else hw k
def ovE (n s : Int) (hw bg L en : Int → Int) : Int → Int := fun k => if ovC n s hw bg L k then bg k + L k else en k
def ovO (s : Int) (bg L on : Int → Int) : Int → Int := fun c => if (0 ≤ c ∧ c < 16) ∧ 0 < on c ∧ bg (on c - 1) + L (on c - 1) ≤ s then 0 else on c
section OV
variable {n s x : Int} {wh hw bg L L' en on : Int → Int}
theorem ovH_0 : ovH 0 s hw bg L = hw := funext fun k => if_neg (by intro h; omega)
theorem ovE_0 : ovE 0 s hw bg L en = en := funext fun k => if_neg (by intro h; omega)
theorem ovH_at (h : n ≤ x) : ovH n s hw bg L x = hw x := if_neg (by intro h; omega)
theorem ovE_at (h : n ≤ x) : ovE n s hw bg L en x = en x := if_neg (by intro h; omega)
theorem ovH_skip (h : ¬ (hw x = 0 ∧ bg x + L x ≤ s)) : ovH (x + 1) s hw bg L = ovH x s hw bg L := by
  funext k
  unfold ovH
  by_cases hk : k = x
  · subst hk; rw [if_neg (fun q => h q.2.2), if_neg (fun q => h q.2.2)]
  · by_cases hc : ovC x s hw bg L k
    · rw [if_pos hc, if_pos ⟨hc.1, by omega, hc.2.2⟩]
    · rw [if_neg hc, if_neg (fun q => hc ⟨q.1, by omega, q.2.2⟩)]
theorem ovE_skip (h : ¬ (hw x = 0 ∧ bg x + L x ≤ s)) : ovE (x + 1) s hw bg L en = ovE x s hw bg L en := by
  funext k
  unfold ovE
  by_cases hk : k = x
  · subst hk; rw [if_neg (fun q => h q.2.2), if_neg (fun q => h q.2.2)]
  · by_cases hc : ovC x s hw bg L k
    · rw [if_pos hc, if_pos ⟨hc.1, by omega, hc.2.2⟩]
    · rw [if_neg hc, if_neg (fun q => hc ⟨q.1, by omega, q.2.2⟩)]
theorem ovH_hit (h0 : 0 ≤ x) (h : hw x = 0 ∧ bg x + L x ≤ s) : u1 (ovH x s hw bg L) x 3 = ovH (x + 1) s hw bg L := by
  funext k
  unfold u1 ovH
  by_cases hk : k = x
  · subst hk; rw [if_pos rfl, if_pos ⟨h0, by omega, h⟩]
  · rw [if_neg hk]
    by_cases hc : ovC x s hw bg L k
    · rw [if_pos hc, if_pos ⟨hc.1, by omega, hc.2.2⟩]
    · rw [if_neg hc, if_neg (fun q => hc ⟨q.1, by omega, q.2.2⟩)]
theorem ovE_hit {y : Int} (h0 : 0 ≤ x) (h : hw x = 0 ∧ bg x + L x ≤ s) (hy : y = bg x + L x) : u1 (ovE x s hw bg L en) x y = ovE (x + 1) s hw bg L en := by
  funext k
  unfold u1 ovE
  by_cases hk : k = x
  · subst hk; rw [if_pos rfl, if_pos ⟨h0, by omega, h⟩, hy]
  · rw [if_neg hk]
    by_cases hc : ovC x s hw bg L k
    · rw [if_pos hc, if_pos ⟨hc.1, by omega, hc.2.2⟩]
    · rw [if_neg hc, if_neg (fun q => hc ⟨q.1, by omega, q.2.2⟩)]
theorem ovC_L (h : ∀ k, 0 ≤ k → k < n → hw k = 0 → L k = L' k) (k : Int) : ovC n s hw bg L k ↔ ovC n s hw bg L' k :=
  ⟨fun q => ⟨q.1, q.2.1, q.2.2.1, by rw [← h k q.1 q.2.1 q.2.2.1]; exact q.2.2.2⟩, fun q => ⟨q.1, q.2.1, q.2.2.1, by rw [h k q.1 q.2.1 q.2.2.1]; exact q.2.2.2⟩⟩
theorem ovH_L (h : ∀ k, 0 ≤ k → k < n → hw k = 0 → L k = L' k) : ovH n s hw bg L = ovH n s hw bg L' := by
  funext k
  unfold ovH
  by_cases hc : ovC n s hw bg L k
  · rw [if_pos hc, if_pos ((ovC_L h k).mp hc)]
  · rw [if_neg hc, if_neg (fun q => hc ((ovC_L h k).mpr q))]
theorem ovE_L (h : ∀ k, 0 ≤ k → k < n → hw k = 0 → L k = L' k) : ovE n s hw bg L en = ovE n s hw bg L' en := by
  funext k
  unfold ovE
  by_cases hc : ovC n s hw bg L k
  · rw [if_pos hc, if_pos ((ovC_L h k).mp hc), h k hc.1 hc.2.1 hc.2.2.1]
  · rw [if_neg hc, if_neg (fun q => hc ((ovC_L h k).mpr q))]
theorem ovO_L (hO : OI n wh hw on) (h : ∀ k, 0 ≤ k → k < n → hw k = 0 → L k = L' k) : ovO s bg L on = ovO s bg L' on := by
  funext c
  unfold ovO
  by_cases hc : (0 ≤ c ∧ c < 16) ∧ 0 < on c
  · have h1 := hO.1 c hc.1.1 hc.1.2
    have h2 := h (on c - 1) (by omega) (by omega) (h1.2.2 hc.2).2
    rw [h2]
  · rw [if_neg (fun q => hc ⟨q.1, q.2.1⟩), if_neg (fun q => hc ⟨q.1, q.2.1⟩)]
theorem OI_ov (hO : OI n wh hw on) (hr : ∀ k, 0 ≤ wh k ∧ wh k ≤ 15) : OI n wh (ovH n s hw bg L) (ovO s bg L on) := by
  refine ⟨fun c h0 h1 => ?_, fun k h0 h1 h2 => ?_⟩
  · have h := hO.1 c h0 h1
    unfold ovO
    by_cases hc : (0 ≤ c ∧ c < 16) ∧ 0 < on c ∧ bg (on c - 1) + L (on c - 1) ≤ s
    · rw [if_pos hc]
      exact ⟨Int.le_refl 0, by omega, fun q => absurd q (by decide)⟩
    · rw [if_neg hc]
      refine ⟨h.1, h.2.1, fun q => ⟨(h.2.2 q).1, ?_⟩⟩
      unfold ovH
      rw [if_neg (fun z => hc ⟨⟨h0, h1⟩, q, z.2.2.2⟩)]
      exact (h.2.2 q).2
  · unfold ovH at h2
    by_cases hc : ovC n s hw bg L k
    · rw [if_pos hc] at h2; exact absurd h2 (by decide)
    · rw [if_neg hc] at h2
      have h := hO.2 k h0 h1 h2
      have hk := hr k
      unfold ovO
      rw [if_neg (fun z => hc ⟨h0, h1, h2, by have := z.2.2; rw [h, show k + 1 - 1 = k by omega] at this; exact this⟩)]
      exact h
theorem OI_start {c : Int} (hO : OI n wh hw on) (hn : 0 ≤ n) (hc : 0 ≤ c ∧ c < 16) (h0 : on c = 0) : OI (n + 1) (u1 wh n c) (u1 hw n 0) (u1 on c (n + 1)) := by
  refine ⟨fun d d0 d1 => ?_, fun k k0 k1 k2 => ?_⟩
  · have h := hO.1 d d0 d1
    by_cases e : d = c
    · subst e
      rw [u1_s]
      refine ⟨by omega, by omega, fun _ => ?_⟩
      rw [show n + 1 - 1 = n by omega, u1_s, u1_s]
      exact ⟨rfl, rfl⟩
    · rw [u1_n e]
      refine ⟨h.1, by omega, fun q => ?_⟩
      rw [u1_n (by omega), u1_n (by omega)]
      exact h.2.2 q
  · by_cases e : k = n
    · subst e
      rw [u1_s, u1_s]
    · rw [u1_n e] at k2 ⊢
      have h := hO.2 k k0 (by omega) k2
      have e2 : wh k ≠ c := fun z => by rw [z, h0] at h; omega
      rw [u1_n e2]
      exact h
theorem OI_fin {c w : Int} (hO : OI n wh hw on) (hc : 0 ≤ c ∧ c < 16) (h0 : 0 < on c) (hw0 : w ≠ 0) : OI n wh (u1 hw (on c - 1) w) (u1 on c 0) := by
  have hcc := hO.1 c hc.1 hc.2
  refine ⟨fun d d0 d1 => ?_, fun k k0 k1 k2 => ?_⟩
  · have h := hO.1 d d0 d1
    by_cases e : d = c
    · subst e
      rw [u1_s]
      exact ⟨Int.le_refl 0, by omega, fun q => absurd q (by decide)⟩
    · rw [u1_n e]
      refine ⟨h.1, h.2.1, fun q => ⟨(h.2.2 q).1, ?_⟩⟩
      have e2 : on d - 1 ≠ on c - 1 := fun z => e (by rw [← (h.2.2 q).1, z]; exact (hcc.2.2 h0).1)
      rw [u1_n e2]
      exact (h.2.2 q).2
  · by_cases e : k = on c - 1
    · rw [e, u1_s] at k2; exact absurd k2 hw0
    · rw [u1_n e] at k2
      have h := hO.2 k k0 k1 k2
      have e2 : wh k ≠ c := fun z => e (by rw [z] at h; omega)
      rw [u1_n e2]
      exact h
theorem OI_fill (wh hw on : Int → Int) : OI 0 wh hw (gfill on 16 0) := by
  refine ⟨fun c h0 h1 => ?_, fun k h0 h1 => absurd h1 (by omega)⟩
  have e : gfill on 16 0 c = 0 := if_pos ⟨h0, h1⟩
  rw [e]
  exact ⟨Int.le_refl 0, Int.le_refl 0, fun q => absurd q (by decide)⟩
/-- the class goes through the climbers -/
def oxH (x n s : Int) (wh hw bg L : Int → Int) : Int → Int := fun k => if ovC n s hw bg L k ∧ wh k < x then 3 else hw k
def oxE (x n s : Int) (wh hw bg L en : Int → Int) : Int → Int := fun k => if ovC n s hw bg L k ∧ wh k < x then bg k + L k else en k
def oxO (x s : Int) (bg L on : Int → Int) : Int → Int := fun c => if ((0 ≤ c ∧ c < 16) ∧ 0 < on c ∧ bg (on c - 1) + L (on c - 1) ≤ s) ∧ c < x then 0 else on c
theorem oxH_0 (hr : ∀ k, 0 ≤ wh k ∧ wh k ≤ 15) : oxH 0 n s wh hw bg L = hw := funext fun k => if_neg (by intro h; have := hr k; omega)
theorem oxE_0 (hr : ∀ k, 0 ≤ wh k ∧ wh k ≤ 15) : oxE 0 n s wh hw bg L en = en := funext fun k => if_neg (by intro h; have := hr k; omega)
theorem oxO_0 : oxO 0 s bg L on = on := funext fun k => if_neg (by intro h; omega)
theorem oxO_at : oxO x s bg L on x = on x := if_neg (by intro h; omega)
theorem oxH_16 (hr : ∀ k, 0 ≤ wh k ∧ wh k ≤ 15) : oxH 16 n s wh hw bg L = ovH n s hw bg L := by
  funext k
  unfold oxH ovH
  by_cases hc : ovC n s hw bg L k
  · rw [if_pos hc, if_pos ⟨hc, by have := hr k; omega⟩]
  · rw [if_neg hc, if_neg (fun q => hc q.1)]
theorem oxE_16 (hr : ∀ k, 0 ≤ wh k ∧ wh k ≤ 15) : oxE 16 n s wh hw bg L en = ovE n s hw bg L en := by
  funext k
  unfold oxE ovE
  by_cases hc : ovC n s hw bg L k
  · rw [if_pos hc, if_pos ⟨hc, by have := hr k; omega⟩]
  · rw [if_neg hc, if_neg (fun q => hc q.1)]
theorem oxO_16 : oxO 16 s bg L on = ovO s bg L on := by
  funext c
  unfold oxO ovO
  by_cases hc : (0 ≤ c ∧ c < 16) ∧ 0 < on c ∧ bg (on c - 1) + L (on c - 1) ≤ s
  · rw [if_pos hc, if_pos ⟨hc, hc.1.2⟩]
  · rw [if_neg hc, if_neg (fun q => hc q.1)]
theorem oxH_skip (h : ∀ k, ovC n s hw bg L k → wh k ≠ x) : oxH (x + 1) n s wh hw bg L = oxH x n s wh hw bg L := by
  funext k
  unfold oxH
  by_cases hc : ovC n s hw bg L k
  · have := h k hc
    by_cases h2 : wh k < x
    · rw [if_pos ⟨hc, by omega⟩, if_pos ⟨hc, by omega⟩]
    · rw [if_neg (fun q => h2 (by have := q.2; omega)), if_neg (fun q => h2 (by have := q.2; omega))]
  · rw [if_neg (fun q => hc q.1), if_neg (fun q => hc q.1)]
theorem oxE_skip (h : ∀ k, ovC n s hw bg L k → wh k ≠ x) : oxE (x + 1) n s wh hw bg L en = oxE x n s wh hw bg L en := by
  funext k
  unfold oxE
  by_cases hc : ovC n s hw bg L k
  · have := h k hc
    by_cases h2 : wh k < x
    · rw [if_pos ⟨hc, by omega⟩, if_pos ⟨hc, by omega⟩]
    · rw [if_neg (fun q => h2 (by have := q.2; omega)), if_neg (fun q => h2 (by have := q.2; omega))]
  · rw [if_neg (fun q => hc q.1), if_neg (fun q => hc q.1)]
theorem oxO_skip (h : ¬ (0 < on x ∧ bg (on x - 1) + L (on x - 1) ≤ s)) : oxO (x + 1) s bg L on = oxO x s bg L on := by
  funext c
  unfold oxO
  by_cases e : c = x
  · subst e; rw [if_neg (fun q => h q.1.2), if_neg (fun q => h q.1.2)]
  · by_cases hc : ((0 ≤ c ∧ c < 16) ∧ 0 < on c ∧ bg (on c - 1) + L (on c - 1) ≤ s) ∧ c < x
    · rw [if_pos hc, if_pos ⟨hc.1, by omega⟩]
    · rw [if_neg hc, if_neg (fun q => hc ⟨q.1, by omega⟩)]
/-- whose seconds aren't over, or who has none open -/
theorem ox_no (hO : OI n wh hw on) (h : ¬ (0 < on x ∧ bg (on x - 1) + L (on x - 1) ≤ s)) : ∀ k, ovC n s hw bg L k → wh k ≠ x := fun k hc e => by
  have h1 := hO.2 k hc.1 hc.2.1 hc.2.2.1
  rw [e] at h1
  exact h ⟨by omega, by rw [h1, show k + 1 - 1 = k by omega]; exact hc.2.2.2⟩
theorem oxH_hit {j : Int} (hO : OI n wh hw on) (hx : 0 ≤ x ∧ x < 16) (hj : j = on x - 1) (h : 0 < on x ∧ bg j + L j ≤ s) : u1 (oxH x n s wh hw bg L) j 3 = oxH (x + 1) n s wh hw bg L := by
  subst hj
  have h1 := hO.1 x hx.1 hx.2
  have h2 := h1.2.2 h.1
  funext k
  unfold u1 oxH
  by_cases e : k = on x - 1
  · rw [if_pos e, if_pos ⟨⟨by omega, by omega, by rw [e]; exact h2.2, by rw [e]; exact h.2⟩, by rw [e, h2.1]; omega⟩]
  · rw [if_neg e]
    by_cases hc : ovC n s hw bg L k
    · have h3 := hO.2 k hc.1 hc.2.1 hc.2.2.1
      have h4 : wh k ≠ x := fun z => e (by rw [z] at h3; omega)
      by_cases h5 : wh k < x
      · rw [if_pos ⟨hc, h5⟩, if_pos ⟨hc, by omega⟩]
      · rw [if_neg (fun q => h5 q.2), if_neg (fun q => h5 (by have := q.2; omega))]
    · rw [if_neg (fun q => hc q.1), if_neg (fun q => hc q.1)]
theorem oxE_hit {j y : Int} (hO : OI n wh hw on) (hx : 0 ≤ x ∧ x < 16) (hj : j = on x - 1) (h : 0 < on x ∧ bg j + L j ≤ s) (hy : y = bg j + L j) : u1 (oxE x n s wh hw bg L en) j y = oxE (x + 1) n s wh hw bg L en := by
  subst hj
  have h1 := hO.1 x hx.1 hx.2
  have h2 := h1.2.2 h.1
  funext k
  unfold u1 oxE
  by_cases e : k = on x - 1
  · rw [if_pos e, if_pos ⟨⟨by omega, by omega, by rw [e]; exact h2.2, by rw [e]; exact h.2⟩, by rw [e, h2.1]; omega⟩, hy, e]
  · rw [if_neg e]
    by_cases hc : ovC n s hw bg L k
    · have h3 := hO.2 k hc.1 hc.2.1 hc.2.2.1
      have h4 : wh k ≠ x := fun z => e (by rw [z] at h3; omega)
      by_cases h5 : wh k < x
      · rw [if_pos ⟨hc, h5⟩, if_pos ⟨hc, by omega⟩]
      · rw [if_neg (fun q => h5 q.2), if_neg (fun q => h5 (by have := q.2; omega))]
    · rw [if_neg (fun q => hc q.1), if_neg (fun q => hc q.1)]
theorem oxO_hit (hx : 0 ≤ x ∧ x < 16) (h : 0 < on x ∧ bg (on x - 1) + L (on x - 1) ≤ s) : u1 (oxO x s bg L on) x 0 = oxO (x + 1) s bg L on := by
  funext c
  unfold u1 oxO
  by_cases e : c = x
  · rw [if_pos e, if_pos (by rw [e]; exact ⟨⟨hx, h⟩, by omega⟩)]
  · rw [if_neg e]
    by_cases hc : ((0 ≤ c ∧ c < 16) ∧ 0 < on c ∧ bg (on c - 1) + L (on c - 1) ≤ s) ∧ c < x
    · rw [if_pos hc, if_pos ⟨hc.1, by omega⟩]
    · rw [if_neg hc, if_neg (fun q => hc ⟨q.1, by omega⟩)]
end OV
/-! her tries on a route: those that count, those that topped; the last end -/
def pDo (wh rd rt hw : Int → Int) (c r t k : Int) : Bool := decide ((wh k = c ∧ rd k = r ∧ rt k = t) ∧ hw k ≠ 4)
def pTo (wh rd rt hw : Int → Int) (c r t k : Int) : Bool := decide ((wh k = c ∧ rd k = r ∧ rt k = t) ∧ hw k = 1)
def mxE (wh rd en : Int → Int) (c r : Int) : Nat → Int
  | 0 => -1
  | k + 1 => if wh (k : Int) = c ∧ rd (k : Int) = r then (if mxE wh rd en c r k ≤ en (k : Int) then en (k : Int) else mxE wh rd en c r k) else mxE wh rd en c r k
theorem mxE_s {wh rd en : Int → Int} {c r x : Int} (h : 0 ≤ x) : mxE wh rd en c r (x + 1).toNat = if wh x = c ∧ rd x = r then (if mxE wh rd en c r x.toNat ≤ en x then en x else mxE wh rd en c r x.toNat) else mxE wh rd en c r x.toNat := by
  obtain ⟨j, rfl⟩ : ∃ j : Nat, x = (j : Int) := ⟨x.toNat, by omega⟩
  rw [show ((j : Int) + 1).toNat = j + 1 by omega, show ((j : Int)).toNat = j by omega]
  rfl
theorem mxE_r {wh rd en : Int → Int} {c r : Int} (he : ∀ k, (-1) ≤ en k ∧ en k ≤ 1000999) : ∀ m : Nat, (-1) ≤ mxE wh rd en c r m ∧ mxE wh rd en c r m ≤ 1000999
  | 0 => ⟨Int.le_refl _, by show (-1 : Int) ≤ 1000999; decide⟩
  | m + 1 => by
    have h := mxE_r (wh := wh) (rd := rd) (c := c) (r := r) he m
    have h2 := he m
    show (-1) ≤ (if wh (m : Int) = c ∧ rd (m : Int) = r then (if mxE wh rd en c r m ≤ en (m : Int) then en (m : Int) else mxE wh rd en c r m) else mxE wh rd en c r m) ∧ (if wh (m : Int) = c ∧ rd (m : Int) = r then (if mxE wh rd en c r m ≤ en (m : Int) then en (m : Int) else mxE wh rd en c r m) else mxE wh rd en c r m) ≤ 1000999
    repeat' split
    all_goals omega
/-! out while another one had a try there -/
def pOu (wo ci : Int → Int) (tm c fr to i : Int) : Bool := decide (wo (c * 20 + i) ≤ to ∧ fr ≤ (if ci (c * 20 + i) = -1 then tm else ci (c * 20 + i)))
def pSe (wh rd rt bg en wo ci ti : Int → Int) (tm c r t k : Int) : Bool := decide ((rd k = r ∧ rt k = t ∧ wh k ≠ c) ∧ 1 ≤ cn (pOu wo ci tm c (bg k) (if en k = -1 then tm else en k)) (ti c).toNat)
/-! zones that a hold has come to -/
def zU (zo : Int → Int) (b h : Int) : Int := (if 0 < zo (b + 0) ∧ zo (b + 0) ≤ h then 1 else 0) + (if 0 < zo (b + 1) ∧ zo (b + 1) ≤ h then 1 else 0) + (if 0 < zo (b + 2) ∧ zo (b + 2) ≤ h then 1 else 0)
def pOn (on : Int → Int) (c : Int) : Bool := decide (0 < on c)
section OU
variable {wo ci : Int → Int} {tm c fr to x u : Int}
theorem pOu_at (hu : u = (if ci x = -1 then tm else ci x)) : pOu wo ci tm c fr to (x - c * 20) = decide (wo x ≤ to ∧ fr ≤ u) := by
  unfold pOu
  rw [show c * 20 + (x - c * 20) = x by omega, hu]
theorem ou_n (h : cn (pOu wo ci tm c fr to) (x - c * 20).toNat = 0) (h0 : c * 20 ≤ x) (hu : u = (if ci x = -1 then tm else ci x)) (hn : ¬ (wo x ≤ to ∧ fr ≤ u)) : cn (pOu wo ci tm c fr to) (x + 1 - c * 20).toNat = 0 := by
  rw [show x + 1 - c * 20 = (x - c * 20) + 1 by omega, cn_n (by omega) (by rw [pOu_at hu]; exact decide_eq_false hn)]
  exact h
theorem ou_y {t : Int} (h0 : c * 20 ≤ x) (h1 : x < c * 20 + t) (hu : u = (if ci x = -1 then tm else ci x)) (hn : wo x ≤ to ∧ fr ≤ u) : 1 ≤ cn (pOu wo ci tm c fr to) t.toNat :=
  cn_hi (x := x - c * 20) (by omega) (by omega) (by rw [pOu_at hu]; exact decide_eq_true hn)
end OU
/-! who comes to the next round -/
def pLc (la rk : Int → Int) (op mo c : Int) : Bool := decide (la c = op ∧ rk c ≤ mo)
def lcF (la rk : Int → Int) (op mo cl : Int) : Int → Int := fun c => if (0 ≤ c ∧ c < cl) ∧ la c = op ∧ rk c ≤ mo then op + 1 else la c
section LC
variable {la rk : Int → Int} {op mo x : Int}
theorem lcF_0 : lcF la rk op mo 0 = la := funext fun c => if_neg (by intro h; omega)
theorem lcF_at : lcF la rk op mo x x = la x := if_neg (by intro h; omega)
theorem lcF_skip (h : ¬ (la x = op ∧ rk x ≤ mo)) : lcF la rk op mo (x + 1) = lcF la rk op mo x := by
  funext c
  unfold lcF
  by_cases e : c = x
  · subst e; rw [if_neg (fun q => h q.2), if_neg (fun q => h q.2)]
  · by_cases hc : (0 ≤ c ∧ c < x) ∧ la c = op ∧ rk c ≤ mo
    · rw [if_pos hc, if_pos ⟨⟨hc.1.1, by omega⟩, hc.2⟩]
    · rw [if_neg hc, if_neg (fun q => hc ⟨⟨q.1.1, by omega⟩, q.2⟩)]
theorem lcF_hit {y : Int} (h0 : 0 ≤ x) (h : la x = op ∧ rk x ≤ mo) (hy : y = op + 1) : u1 (lcF la rk op mo x) x y = lcF la rk op mo (x + 1) := by
  funext c
  unfold u1 lcF
  by_cases e : c = x
  · subst e; rw [if_pos rfl, if_pos ⟨⟨h0, by omega⟩, h⟩, hy]
  · rw [if_neg e]
    by_cases hc : (0 ≤ c ∧ c < x) ∧ la c = op ∧ rk c ≤ mo
    · rw [if_pos hc, if_pos ⟨⟨hc.1.1, by omega⟩, hc.2⟩]
    · rw [if_neg hc, if_neg (fun q => hc ⟨⟨q.1.1, by omega⟩, q.2⟩)]
end LC
/-! what a round's law tells, by its place -/
def shF (rn : Int) (sh : Int → Int) (r k : Int) : Int := if 0 ≤ r ∧ r < rn then sh (r * 4 + k) else 0
theorem shF_of {rn r z k : Int} {sh : Int → Int} (h : z = (if (0 ≤ r ∧ r < rn) ∧ 0 ≤ k ∧ k < 4 then sh (r * 4 + k) else 0)) (hk : 0 ≤ k ∧ k < 4 := by decide) : z = shF rn sh r k := by
  rw [h]
  unfold shF
  by_cases c : 0 ≤ r ∧ r < rn
  · rw [if_pos ⟨c, hk⟩, if_pos c]
  · rw [if_neg (fun q => c q.1), if_neg c]
theorem shF_r {rn r : Int} {sh : Int → Int} (hs : shOk rn sh) : 0 ≤ shF rn sh r 0 ∧ shF rn sh r 0 ≤ 5 ∧ 0 ≤ shF rn sh r 1 ∧ shF rn sh r 1 ≤ 9 ∧ 0 ≤ shF rn sh r 2 ∧ shF rn sh r 2 ≤ 999 ∧ 0 ≤ shF rn sh r 3 ∧ shF rn sh r 3 ≤ 999 := by
  unfold shF
  by_cases c : 0 ≤ r ∧ r < rn
  · have h := hs r c.1 c.2
    simp only [if_pos c, Int.add_zero]
    omega
  · simp only [if_neg c]
    decide
def rsF (m r : Int) : Int := if m = -1 then 0 else m + r
theorem u3_eq {a : Int → Int} {i j k i' j' k' x y z : Int} (h1 : i = i') (h2 : j = j') (h3 : k = k') : u1 (u1 (u1 a i x) j y) k z = u1 (u1 (u1 a i' x) j' y) k' z := by rw [h1, h2, h3]
/-- the reference's codes, as the class has them -/
def mcF (x : Int) : Int := if x = 0 then 6 else if x ≤ 6 then x - 1 else x
/-! tries and times: begun by now; open ones have no end; ends behind beginnings -/
def TI (n tm : Int) (bg en hw : Int → Int) : Prop := ∀ k, 0 ≤ k → k < n → bg k ≤ tm ∧ (hw k = 0 → en k = -1) ∧ (hw k ≠ 0 → bg k ≤ en k ∧ 0 ≤ en k)
def WI (tm : Int) (wo ci ti : Int → Int) (c : Int) : Prop := ∀ i, 0 ≤ i → i < ti c → wo (c * 20 + i) ≤ tm ∧ (ci (c * 20 + i) ≠ -1 → wo (c * 20 + i) ≤ ci (c * 20 + i))
theorem WI_mono {tm s c : Int} {wo ci ti : Int → Int} (h : WI tm wo ci ti c) (hs : tm ≤ s) : WI s wo ci ti c := fun i h0 h1 => ⟨Int.le_trans (h i h0 h1).1 hs, (h i h0 h1).2⟩
theorem TI_ov {n tm s : Int} {bg en hw L : Int → Int} (h : TI n tm bg en hw) (hs : tm ≤ s) (hb : ∀ k, 0 ≤ bg k) (hL : ∀ k, 0 ≤ L k) : TI n s bg (ovE n s hw bg L en) (ovH n s hw bg L) := fun k h0 h1 => by
  have q := h k h0 h1
  have b := hb k
  have l := hL k
  unfold ovE ovH
  by_cases c : ovC n s hw bg L k
  · rw [if_pos c, if_pos c]
    exact ⟨by omega, fun z => absurd z (by decide), fun _ => ⟨by omega, by omega⟩⟩
  · rw [if_neg c, if_neg c]
    exact ⟨by omega, q.2⟩
end

section
/-! appeals: what is known of a try on a day -/
def kD (an ad : Int → Int) (d k : Int) : Nat → Int
  | 0 => -1
  | i + 1 => if an (i : Int) = k ∧ ad (i : Int) ≤ d ∧ kD an ad d k i ≤ ad (i : Int) then ad (i : Int) else kD an ad d k i
def kH (an ah ad : Int → Int) (d k h : Int) : Nat → Int
  | 0 => h
  | i + 1 => if an (i : Int) = k ∧ ad (i : Int) ≤ d ∧ kD an ad d k i ≤ ad (i : Int) then ah (i : Int) else kH an ah ad d k h i
section KN
variable {an ah ad ho kn kd : Int → Int} {d k h x n : Int}
theorem kD_s (h0 : 0 ≤ x) : kD an ad d k (x + 1).toNat = if an x = k ∧ ad x ≤ d ∧ kD an ad d k x.toNat ≤ ad x then ad x else kD an ad d k x.toNat := by
  obtain ⟨j, rfl⟩ : ∃ j : Nat, x = (j : Int) := ⟨x.toNat, by omega⟩
  rw [show ((j : Int) + 1).toNat = j + 1 by omega, show ((j : Int)).toNat = j by omega]
  rfl
theorem kH_s (h0 : 0 ≤ x) : kH an ah ad d k h (x + 1).toNat = if an x = k ∧ ad x ≤ d ∧ kD an ad d k x.toNat ≤ ad x then ah x else kH an ah ad d k h x.toNat := by
  obtain ⟨j, rfl⟩ : ∃ j : Nat, x = (j : Int) := ⟨x.toNat, by omega⟩
  rw [show ((j : Int) + 1).toNat = j + 1 by omega, show ((j : Int)).toNat = j by omega]
  rfl
theorem kH_r (hh : 0 ≤ h ∧ h ≤ 60) (ha : ∀ i, 0 ≤ ah i ∧ ah i ≤ 60) : ∀ m : Nat, 0 ≤ kH an ah ad d k h m ∧ kH an ah ad d k h m ≤ 60
  | 0 => hh
  | m + 1 => by
    have h1 := kH_r hh ha m
    have h2 := ha m
    show 0 ≤ (if an (m : Int) = k ∧ ad (m : Int) ≤ d ∧ kD an ad d k m ≤ ad (m : Int) then ah (m : Int) else kH an ah ad d k h m) ∧ (if an (m : Int) = k ∧ ad (m : Int) ≤ d ∧ kD an ad d k m ≤ ad (m : Int) then ah (m : Int) else kH an ah ad d k h m) ≤ 60
    split <;> omega
/-- the class's rows hold it for all tries -/
def kOk (an ah ad ho : Int → Int) (d n x : Int) (kn kd : Int → Int) : Prop := ∀ k, 0 ≤ k → k < n → kn k = kH an ah ad d k (ho k) x.toNat ∧ kd k = kD an ad d k x.toNat
theorem kOk_0 (h : ∀ k, 0 ≤ k → k < n → kn k = ho k ∧ kd k = -1) : kOk an ah ad ho d n 0 kn kd := h
theorem kOk_hit (h0 : 0 ≤ x) (hK : kOk an ah ad ho d n x kn kd) (h : ad x ≤ d ∧ kd (an x) ≤ ad x) : kOk an ah ad ho d n (x + 1) (u1 kn (an x) (ah x)) (u1 kd (an x) (ad x)) := fun k k0 k1 => by
  have q := hK k k0 k1
  rw [kH_s h0, kD_s h0]
  by_cases e : k = an x
  · subst e
    have c : an x = an x ∧ ad x ≤ d ∧ kD an ad d (an x) x.toNat ≤ ad x := ⟨rfl, h.1, by rw [← q.2]; exact h.2⟩
    rw [u1_s, u1_s, if_pos c, if_pos c]
    exact ⟨rfl, rfl⟩
  · rw [u1_n e, u1_n e, if_neg (fun z => e z.1.symm), if_neg (fun z => e z.1.symm)]
    exact q
theorem kOk_skip (h0 : 0 ≤ x) (hK : kOk an ah ad ho d n x kn kd) (h : ¬ (ad x ≤ d ∧ kd (an x) ≤ ad x)) : kOk an ah ad ho d n (x + 1) kn kd := fun k k0 k1 => by
  have q := hK k k0 k1
  rw [kH_s h0, kD_s h0]
  have c : ¬ (an x = k ∧ ad x ≤ d ∧ kD an ad d k x.toNat ≤ ad x) := fun z => by
    obtain ⟨z1, z2, z3⟩ := z
    subst z1
    exact h ⟨z2, by rw [q.2]; exact z3⟩
  rw [if_neg c, if_neg c]
  exact q
theorem kn_fill {ho kn kd : Int → Int} {x : Int} (h : ∀ k, 0 ≤ k → k < x → kn k = ho k ∧ kd k = (-1)) : ∀ k, 0 ≤ k → k < x + 1 → u1 kn x (ho x) k = ho k ∧ u1 kd x (-1) k = (-1) := fun k h0 h1 => by
  by_cases e : k = x
  · rw [e, u1_s, u1_s]; exact ⟨rfl, rfl⟩
  · rw [u1_n e, u1_n e]; exact h k h0 (by omega)
end KN
/-! the try that counts: how many, the greatest hold, the try, its number -/
def fS (wh rd rt hw kn : Int → Int) (c r t : Int) : Nat → Int × Int × Int × Int
  | 0 => (0, -1, -1, 0)
  | k + 1 => if (wh (k : Int) = c ∧ rd (k : Int) = r ∧ rt (k : Int) = t) ∧ hw (k : Int) ≠ 4 then (if (fS wh rd rt hw kn c r t k).2.1 < kn (k : Int) then ((fS wh rd rt hw kn c r t k).1 + 1, kn (k : Int), (k : Int), (fS wh rd rt hw kn c r t k).1 + 1) else ((fS wh rd rt hw kn c r t k).1 + 1, (fS wh rd rt hw kn c r t k).2.1, (fS wh rd rt hw kn c r t k).2.2.1, (fS wh rd rt hw kn c r t k).2.2.2)) else fS wh rd rt hw kn c r t k
section FS
variable {wh rd rt hw kn : Int → Int} {c r t x : Int}
theorem fS_s (h0 : 0 ≤ x) : fS wh rd rt hw kn c r t (x + 1).toNat = if (wh x = c ∧ rd x = r ∧ rt x = t) ∧ hw x ≠ 4 then (if (fS wh rd rt hw kn c r t x.toNat).2.1 < kn x then ((fS wh rd rt hw kn c r t x.toNat).1 + 1, kn x, x, (fS wh rd rt hw kn c r t x.toNat).1 + 1) else ((fS wh rd rt hw kn c r t x.toNat).1 + 1, (fS wh rd rt hw kn c r t x.toNat).2.1, (fS wh rd rt hw kn c r t x.toNat).2.2.1, (fS wh rd rt hw kn c r t x.toNat).2.2.2)) else fS wh rd rt hw kn c r t x.toNat := by
  obtain ⟨j, rfl⟩ : ∃ j : Nat, x = (j : Int) := ⟨x.toNat, by omega⟩
  rw [show ((j : Int) + 1).toNat = j + 1 by omega, show ((j : Int)).toNat = j by omega]
  rfl
theorem fS_skip (h0 : 0 ≤ x) (h : ¬ ((wh x = c ∧ rd x = r ∧ rt x = t) ∧ hw x ≠ 4)) : fS wh rd rt hw kn c r t (x + 1).toNat = fS wh rd rt hw kn c r t x.toNat := by rw [fS_s h0, if_neg h]
theorem fS_new (h0 : 0 ≤ x) (h : (wh x = c ∧ rd x = r ∧ rt x = t) ∧ hw x ≠ 4) (h2 : (fS wh rd rt hw kn c r t x.toNat).2.1 < kn x) : fS wh rd rt hw kn c r t (x + 1).toNat = ((fS wh rd rt hw kn c r t x.toNat).1 + 1, kn x, x, (fS wh rd rt hw kn c r t x.toNat).1 + 1) := by rw [fS_s h0, if_pos h, if_pos h2]
theorem fS_old (h0 : 0 ≤ x) (h : (wh x = c ∧ rd x = r ∧ rt x = t) ∧ hw x ≠ 4) (h2 : ¬ (fS wh rd rt hw kn c r t x.toNat).2.1 < kn x) : fS wh rd rt hw kn c r t (x + 1).toNat = ((fS wh rd rt hw kn c r t x.toNat).1 + 1, (fS wh rd rt hw kn c r t x.toNat).2.1, (fS wh rd rt hw kn c r t x.toNat).2.2.1, (fS wh rd rt hw kn c r t x.toNat).2.2.2) := by rw [fS_s h0, if_pos h, if_neg h2]
/-- what can be said of it -/
theorem fS_ok (hk : ∀ k, 0 ≤ kn k ∧ kn k ≤ 60) : ∀ m : Nat, (0 ≤ (fS wh rd rt hw kn c r t m).1 ∧ (fS wh rd rt hw kn c r t m).1 ≤ m) ∧ ((fS wh rd rt hw kn c r t m).1 = 0 → fS wh rd rt hw kn c r t m = (0, -1, -1, 0)) ∧ (0 < (fS wh rd rt hw kn c r t m).1 → (0 ≤ (fS wh rd rt hw kn c r t m).2.2.1 ∧ (fS wh rd rt hw kn c r t m).2.2.1 < m) ∧ kn (fS wh rd rt hw kn c r t m).2.2.1 = (fS wh rd rt hw kn c r t m).2.1 ∧ (1 ≤ (fS wh rd rt hw kn c r t m).2.2.2 ∧ (fS wh rd rt hw kn c r t m).2.2.2 ≤ (fS wh rd rt hw kn c r t m).1))
  | 0 => ⟨⟨Int.le_refl 0, Int.le_refl 0⟩, fun _ => rfl, fun h => absurd h (by show ¬ (0 : Int) < 0; decide)⟩
  | m + 1 => by
    have ih := fS_ok hk m
    have e := fS_s (wh := wh) (rd := rd) (rt := rt) (hw := hw) (kn := kn) (c := c) (r := r) (t := t) (x := (m : Int)) (by omega)
    rw [show ((m : Int) + 1).toNat = m + 1 by omega, show ((m : Int)).toNat = m by omega] at e
    have hm := hk m
    obtain ⟨i1, i2, i3⟩ := ih
    rw [e]
    by_cases c1 : (wh (m : Int) = c ∧ rd (m : Int) = r ∧ rt (m : Int) = t) ∧ hw (m : Int) ≠ 4
    · rw [if_pos c1]
      by_cases c2 : (fS wh rd rt hw kn c r t m).2.1 < kn (m : Int)
      · rw [if_pos c2]
        refine ⟨⟨by show 0 ≤ _ + 1; omega, by show _ + 1 ≤ _; omega⟩, fun q => ?_, fun _ => ⟨⟨by show 0 ≤ (m : Int); omega, by show (m : Int) < _; omega⟩, rfl, by show 1 ≤ _ + 1; omega, Int.le_refl _⟩⟩
        have q : (fS wh rd rt hw kn c r t m).1 + 1 = 0 := q
        omega
      · rw [if_neg c2]
        have hp : 0 < (fS wh rd rt hw kn c r t m).1 := by
          by_cases z : (fS wh rd rt hw kn c r t m).1 = 0
          · have := i2 z
            rw [this] at c2
            exact absurd (show (-1 : Int) < kn (m : Int) by omega) c2
          · omega
        obtain ⟨j1, j2, j3⟩ := i3 hp
        refine ⟨⟨by show 0 ≤ _ + 1; omega, by show _ + 1 ≤ _; omega⟩, fun q => ?_, fun _ => ⟨⟨j1.1, by show (fS wh rd rt hw kn c r t m).2.2.1 < _; omega⟩, j2, j3.1, by show (fS wh rd rt hw kn c r t m).2.2.2 ≤ _ + 1; omega⟩⟩
        have q : (fS wh rd rt hw kn c r t m).1 + 1 = 0 := q
        omega
    · rw [if_neg c1]
      refine ⟨⟨i1.1, by omega⟩, i2, fun q => ?_⟩
      obtain ⟨j1, j2, j3⟩ := i3 q
      exact ⟨⟨j1.1, by omega⟩, j2, j3⟩
theorem fS_kn {kn2 : Int → Int} : ∀ m : Nat, (∀ k : Nat, k < m → kn (k : Int) = kn2 (k : Int)) → fS wh rd rt hw kn c r t m = fS wh rd rt hw kn2 c r t m
  | 0, _ => rfl
  | m + 1, h => by
    have ih := fS_kn m (fun k hk => h k (by omega))
    have e1 : ∀ f : Int → Int, fS wh rd rt hw f c r t (m + 1) = if (wh (m : Int) = c ∧ rd (m : Int) = r ∧ rt (m : Int) = t) ∧ hw (m : Int) ≠ 4 then (if (fS wh rd rt hw f c r t m).2.1 < f (m : Int) then ((fS wh rd rt hw f c r t m).1 + 1, f (m : Int), (m : Int), (fS wh rd rt hw f c r t m).1 + 1) else ((fS wh rd rt hw f c r t m).1 + 1, (fS wh rd rt hw f c r t m).2.1, (fS wh rd rt hw f c r t m).2.2.1, (fS wh rd rt hw f c r t m).2.2.2)) else fS wh rd rt hw f c r t m := fun f => rfl
    rw [e1 kn, e1 kn2, ih, h m (by omega)]
end FS
/-- the class's rows, a cell for each climber on each route -/
def svC (s : Int × Int × Int × Int) (n b m : Int) : Prop := n = s.1 ∧ (0 < s.1 → b = s.2.2.1 ∧ m = s.2.2.2)
def svOk (wh rd rt hw kn : Int → Int) (x : Int) (cnt bst bno : Int → Int) : Prop := ∀ c r t, (0 ≤ c ∧ c < 16) → (0 ≤ r ∧ r < 4) → (0 ≤ t ∧ t < 5) → svC (fS wh rd rt hw kn c r t x.toNat) (cnt (r * 80 + c * 5 + t)) (bst (r * 80 + c * 5 + t)) (bno (r * 80 + c * 5 + t))
section SV
variable {wh rd rt hw kn cnt bst bno : Int → Int} {x e : Int}
theorem svOk_0 (h : ∀ k, 0 ≤ k → k < 320 → cnt k = 0) : svOk wh rd rt hw kn 0 cnt bst bno := fun c r t hc hr ht => ⟨h _ (by omega) (by omega), fun q => absurd q (by show ¬ (0 : Int) < 0; decide)⟩
theorem svOk_skip (h0 : 0 ≤ x) (hS : svOk wh rd rt hw kn x cnt bst bno) (h : hw x = 4) : svOk wh rd rt hw kn (x + 1) cnt bst bno := fun c r t hc hr ht => by
  rw [fS_skip h0 (fun q => q.2 h)]
  exact hS c r t hc hr ht
theorem sv_most (hk : ∀ k, 0 ≤ kn k ∧ kn k ≤ 60) (hr1 : (0 ≤ wh x ∧ wh x ≤ 15) ∧ (0 ≤ rd x ∧ rd x ≤ 3) ∧ (0 ≤ rt x ∧ rt x ≤ 4)) (hS : svOk wh rd rt hw kn x cnt bst bno) (he : e = rd x * 80 + wh x * 5 + rt x) : (cnt e = 0 → (fS wh rd rt hw kn (wh x) (rd x) (rt x) x.toNat).2.1 = -1) ∧ (0 < cnt e → kn (bst e) = (fS wh rd rt hw kn (wh x) (rd x) (rt x) x.toNat).2.1 ∧ 0 ≤ bst e ∧ bst e < x.toNat) ∧ 0 ≤ cnt e := by
  have q := hS (wh x) (rd x) (rt x) (by omega) (by omega) (by omega)
  have o := fS_ok (wh := wh) (rd := rd) (rt := rt) (hw := hw) (c := wh x) (r := rd x) (t := rt x) hk x.toNat
  rw [← he] at q
  refine ⟨fun z => ?_, fun z => ?_, ?_⟩
  · have := o.2.1 (by rw [← q.1]; exact z)
    rw [this]
  · have z2 : 0 < (fS wh rd rt hw kn (wh x) (rd x) (rt x) x.toNat).1 := by rw [← q.1]; exact z
    rw [(q.2 z2).1]
    exact ⟨(o.2.2 z2).2.1, (o.2.2 z2).1⟩
  · rw [q.1]; exact o.1.1
theorem svOk_new {y z : Int} (h0 : 0 ≤ x) (hr1 : (0 ≤ wh x ∧ wh x ≤ 15) ∧ (0 ≤ rd x ∧ rd x ≤ 3) ∧ (0 ≤ rt x ∧ rt x ≤ 4)) (hS : svOk wh rd rt hw kn x cnt bst bno) (he : e = rd x * 80 + wh x * 5 + rt x) (h : hw x ≠ 4) (h2 : (fS wh rd rt hw kn (wh x) (rd x) (rt x) x.toNat).2.1 < kn x) (hy : y = cnt e + 1) (hz : z = cnt e + 1) : svOk wh rd rt hw kn (x + 1) (u1 cnt e y) (u1 bst e x) (u1 bno e z) := fun c r t hc hr ht => by
  have q := hS c r t hc hr ht
  by_cases hh : wh x = c ∧ rd x = r ∧ rt x = t
  · obtain ⟨a1, a2, a3⟩ := hh
    subst a1 a2 a3
    rw [fS_new h0 ⟨⟨rfl, rfl, rfl⟩, h⟩ h2, ← he, u1_s, u1_s, u1_s]
    rw [← he] at q
    exact ⟨by rw [hy, q.1], fun _ => ⟨rfl, by rw [hz, q.1]⟩⟩
  · have hne : r * 80 + c * 5 + t ≠ e := by omega
    rw [fS_skip h0 (fun z => hh z.1), u1_n hne, u1_n hne, u1_n hne]
    exact q
theorem svOk_old {y : Int} (h0 : 0 ≤ x) (hr1 : (0 ≤ wh x ∧ wh x ≤ 15) ∧ (0 ≤ rd x ∧ rd x ≤ 3) ∧ (0 ≤ rt x ∧ rt x ≤ 4)) (hS : svOk wh rd rt hw kn x cnt bst bno) (he : e = rd x * 80 + wh x * 5 + rt x) (h : hw x ≠ 4) (h1 : 0 < cnt e) (h2 : ¬ (fS wh rd rt hw kn (wh x) (rd x) (rt x) x.toNat).2.1 < kn x) (hy : y = cnt e + 1) : svOk wh rd rt hw kn (x + 1) (u1 cnt e y) bst bno := fun c r t hc hr ht => by
  have q := hS c r t hc hr ht
  by_cases hh : wh x = c ∧ rd x = r ∧ rt x = t
  · obtain ⟨a1, a2, a3⟩ := hh
    subst a1 a2 a3
    rw [fS_old h0 ⟨⟨rfl, rfl, rfl⟩, h⟩ h2, ← he, u1_s]
    rw [← he] at q
    exact ⟨by rw [hy, q.1], fun _ => q.2 (by rw [← q.1]; exact h1)⟩
  · have hne : r * 80 + c * 5 + t ≠ e := by omega
    rw [fS_skip h0 (fun z => hh z.1), u1_n hne]
    exact q
theorem sv_lt {known : Int → Int} {n : Int} (hk : ∀ k, 0 ≤ kn k ∧ kn k ≤ 60) (hr1 : (0 ≤ wh x ∧ wh x ≤ 15) ∧ (0 ≤ rd x ∧ rd x ≤ 3) ∧ (0 ≤ rt x ∧ rt x ≤ 4)) (hS : svOk wh rd rt hw kn x cnt bst bno) (he : e = rd x * 80 + wh x * 5 + rt x) (hkn : ∀ k, 0 ≤ k → k < n → known k = kn k) (h0 : 0 ≤ x) (hx : x < n) (hc : cnt e = 0 ∨ (0 < cnt e ∧ known (bst e) < known x)) : (fS wh rd rt hw kn (wh x) (rd x) (rt x) x.toNat).2.1 < kn x := by
  have hm := sv_most hk hr1 hS he
  have h1 := hk x
  rcases hc with c | c
  · rw [hm.1 c]; omega
  · have h2 := hm.2.1 c.1
    have h3 := hkn (bst e) h2.2.1 (by omega)
    have h4 := hkn x h0 hx
    omega
theorem sv_ge {known : Int → Int} {n : Int} (hk : ∀ k, 0 ≤ kn k ∧ kn k ≤ 60) (hr1 : (0 ≤ wh x ∧ wh x ≤ 15) ∧ (0 ≤ rd x ∧ rd x ≤ 3) ∧ (0 ≤ rt x ∧ rt x ≤ 4)) (hS : svOk wh rd rt hw kn x cnt bst bno) (he : e = rd x * 80 + wh x * 5 + rt x) (hkn : ∀ k, 0 ≤ k → k < n → known k = kn k) (h0 : 0 ≤ x) (hx : x < n) (hc : 0 < cnt e ∧ ¬ known (bst e) < known x) : ¬ (fS wh rd rt hw kn (wh x) (rd x) (rt x) x.toNat).2.1 < kn x := by
  have hm := sv_most hk hr1 hS he
  have h2 := hm.2.1 hc.1
  have h3 := hkn (bst e) h2.2.1 (by omega)
  have h4 := hkn x h0 hx
  have h5 := hc.2
  omega
end SV
/-! facts -/
def fA (s : Int × Int × Int × Int) (hd : Int) (zo : Int → Int) (b : Int) (hw en bg : Int → Int) (i : Int) : Int :=
  if s.1 = 0 then 0 else if i = 0 then (if s.2.1 = hd then 1 else 0) else if i = 1 then zU zo b s.2.1 else if i = 2 then s.2.1 else if i = 3 then s.2.2.2 else if i = 4 then (if hw s.2.2.1 = 0 then 0 else en s.2.2.1 - bg s.2.2.1) else (if s.2.1 = hd ∧ s.2.2.2 = 1 then 1 else 0)
def Fk (an ah ad ho : Int → Int) (na d : Int) : Int → Int := fun k => kH an ah ad d k (ho k) na.toNat
def gFd (wh rd rt bg en ho hw an ah ad hs zo : Int → Int) (n na d r t c i : Int) : Int :=
  fA (fS wh rd rt hw (Fk an ah ad ho na d) c r t n.toNat) (hs (r * 5 + t)) zo ((r * 5 + t) * 3) hw en bg i
theorem u6 {a : Int → Int} {v0 v1 v2 v3 v4 v5 : Int} : u1 (u1 (u1 (u1 (u1 (u1 a 0 v0) 1 v1) 2 v2) 3 v3) 4 v4) 5 v5 0 = v0 ∧ u1 (u1 (u1 (u1 (u1 (u1 a 0 v0) 1 v1) 2 v2) 3 v3) 4 v4) 5 v5 1 = v1 ∧ u1 (u1 (u1 (u1 (u1 (u1 a 0 v0) 1 v1) 2 v2) 3 v3) 4 v4) 5 v5 2 = v2 ∧ u1 (u1 (u1 (u1 (u1 (u1 a 0 v0) 1 v1) 2 v2) 3 v3) 4 v4) 5 v5 3 = v3 ∧ u1 (u1 (u1 (u1 (u1 (u1 a 0 v0) 1 v1) 2 v2) 3 v3) 4 v4) 5 v5 4 = v4 ∧ u1 (u1 (u1 (u1 (u1 (u1 a 0 v0) 1 v1) 2 v2) 3 v3) 4 v4) 5 v5 5 = v5 := ⟨rfl, rfl, rfl, rfl, rfl, rfl⟩
section FA
variable {wh rd rt bg en ho hw an ah ad hs zo a : Int → Int} {n na d r t c : Int}
theorem fa_zero (h : (fS wh rd rt hw (Fk an ah ad ho na d) c r t n.toNat).1 = 0) : gfill a 6 0 0 = gFd wh rd rt bg en ho hw an ah ad hs zo n na d r t c 0 ∧ gfill a 6 0 1 = gFd wh rd rt bg en ho hw an ah ad hs zo n na d r t c 1 ∧ gfill a 6 0 2 = gFd wh rd rt bg en ho hw an ah ad hs zo n na d r t c 2 ∧ gfill a 6 0 3 = gFd wh rd rt bg en ho hw an ah ad hs zo n na d r t c 3 ∧ gfill a 6 0 4 = gFd wh rd rt bg en ho hw an ah ad hs zo n na d r t c 4 ∧ gfill a 6 0 5 = gFd wh rd rt bg en ho hw an ah ad hs zo n na d r t c 5 := by
  have e : ∀ i, gFd wh rd rt bg en ho hw an ah ad hs zo n na d r t c i = 0 := fun i => if_pos h
  rw [e, e, e, e, e, e]
  exact ⟨rfl, rfl, rfl, rfl, rfl, rfl⟩
theorem fa_all {hd nm bn v0 v1 v2 v3 v4 v5 : Int} (hp : 0 < (fS wh rd rt hw (Fk an ah ad ho na d) c r t n.toNat).1) (e1 : hd = (fS wh rd rt hw (Fk an ah ad ho na d) c r t n.toNat).2.1) (e2 : nm = (fS wh rd rt hw (Fk an ah ad ho na d) c r t n.toNat).2.2.1) (e3 : bn = (fS wh rd rt hw (Fk an ah ad ho na d) c r t n.toNat).2.2.2) (q0 : v0 = (if hd = hs (r * 5 + t) then 1 else 0)) (q1 : v1 = zU zo ((r * 5 + t) * 3) hd) (q2 : v2 = hd) (q3 : v3 = bn) (q4 : v4 = (if hw nm = 0 then 0 else en nm - bg nm)) (q5 : v5 = (if hd = hs (r * 5 + t) ∧ bn = 1 then 1 else 0)) : u1 (u1 (u1 (u1 (u1 (u1 a 0 v0) 1 v1) 2 v2) 3 v3) 4 v4) 5 v5 0 = gFd wh rd rt bg en ho hw an ah ad hs zo n na d r t c 0 ∧ u1 (u1 (u1 (u1 (u1 (u1 a 0 v0) 1 v1) 2 v2) 3 v3) 4 v4) 5 v5 1 = gFd wh rd rt bg en ho hw an ah ad hs zo n na d r t c 1 ∧ u1 (u1 (u1 (u1 (u1 (u1 a 0 v0) 1 v1) 2 v2) 3 v3) 4 v4) 5 v5 2 = gFd wh rd rt bg en ho hw an ah ad hs zo n na d r t c 2 ∧ u1 (u1 (u1 (u1 (u1 (u1 a 0 v0) 1 v1) 2 v2) 3 v3) 4 v4) 5 v5 3 = gFd wh rd rt bg en ho hw an ah ad hs zo n na d r t c 3 ∧ u1 (u1 (u1 (u1 (u1 (u1 a 0 v0) 1 v1) 2 v2) 3 v3) 4 v4) 5 v5 4 = gFd wh rd rt bg en ho hw an ah ad hs zo n na d r t c 4 ∧ u1 (u1 (u1 (u1 (u1 (u1 a 0 v0) 1 v1) 2 v2) 3 v3) 4 v4) 5 v5 5 = gFd wh rd rt bg en ho hw an ah ad hs zo n na d r t c 5 := by
  subst e1 e2 e3 q0 q1 q2 q3 q4 q5
  have hn : ¬ (fS wh rd rt hw (Fk an ah ad ho na d) c r t n.toNat).1 = 0 := by omega
  have e : ∀ i, gFd wh rd rt bg en ho hw an ah ad hs zo n na d r t c i = _ := fun i => if_neg hn
  rw [e 0, e 1, e 2, e 3, e 4, e 5]
  exact ⟨rfl, rfl, rfl, rfl, rfl, rfl⟩
end FA
/-! longs, exactly -/
theorem gl_lt {a b : Int} (ha : inL a) (hb : inL b) : iL a < iL b ↔ a < b := by
  rw [Int64.lt_iff_toInt_lt]
  unfold iL
  rw [Int64.toInt_ofInt_of_le (by have := ha.1; omega) (by have := ha.2; omega), Int64.toInt_ofInt_of_le (by have := hb.1; omega) (by have := hb.2; omega)]
section GX
variable {p : Program} {l : Launch} {e : Env} {R : Room} {s : State} {m : MethodId} {args : Array Value} {below : List Frame} {meth : Method} {c : Code} {H : Heap} {locs : List Loc} {cells slots : Nat} {Q : State → Prop}
variable {cc : ByteArray} {pc nL idx : Nat} {ls : Array Slot} {rest : List Value} {a b z : Int} {own : String} {D : va_G} {k : Nat → ClassId}
theorem gl_maxE (C : gC D k p s m args c cc own) (hml : c.maxLocals = nL) (hsz : ls.size = nL) (hm : Cond.methodLink own idx Lib.MathLoose.max_long.x ∈ gWs) (ha : inL a) (hb2 : inL b) (hfr : 1 ≤ R.frames) (hlo : (rest.map fun v => v.category).sum + 15 ≤ R.locals) (hdg : decode cc pc = .ok (.invokestatic idx, 3)) (kk : ∀ z : Int, (z = a ∨ z = b) ∧ a ≤ z ∧ b ≤ z → W p l e R s m args below meth c H locs 0 0 Q (F0 m (pc + 3) ls (.long (iL z) :: rest))) : W p l e R s m args below meth c H locs 0 0 Q (F0 m pc ls (.long (iL b) :: .long (iL a) :: rest)) := by
  refine va_mmax_long C.1 C.2.1 (hml.trans hsz.symm) C.2.2.2.1 (C.2.2.1 _ hm) (C.2.2.1 _ mS_math_maxl) (C.2.2.1 _ mN_J9) (C.2.2.1 _ mC_math_maxl) hfr hlo (Nat.zero_le _) (Nat.zero_le _) hdg ?_
  by_cases h : b < a
  · rw [if_pos ((gl_lt hb2 ha).mpr h)]; exact kk a ⟨Or.inl rfl, by omega, by omega⟩
  · rw [if_neg (fun q => h ((gl_lt hb2 ha).mp q))]; exact kk b ⟨Or.inr rfl, by omega, by omega⟩
theorem gl_minE (C : gC D k p s m args c cc own) (hml : c.maxLocals = nL) (hsz : ls.size = nL) (hm : Cond.methodLink own idx Lib.MathLoose.min_long.x ∈ gWs) (ha : inL a) (hb2 : inL b) (hfr : 1 ≤ R.frames) (hlo : (rest.map fun v => v.category).sum + 15 ≤ R.locals) (hdg : decode cc pc = .ok (.invokestatic idx, 3)) (kk : ∀ z : Int, (z = a ∨ z = b) ∧ z ≤ a ∧ z ≤ b → W p l e R s m args below meth c H locs 0 0 Q (F0 m (pc + 3) ls (.long (iL z) :: rest))) : W p l e R s m args below meth c H locs 0 0 Q (F0 m pc ls (.long (iL b) :: .long (iL a) :: rest)) := by
  refine va_mmin_long C.1 C.2.1 (hml.trans hsz.symm) C.2.2.2.1 (C.2.2.1 _ hm) (C.2.2.1 _ mS_math_minl) (C.2.2.1 _ mN_J9) (C.2.2.1 _ mC_math_minl) hfr hlo (Nat.zero_le _) (Nat.zero_le _) hdg ?_
  by_cases h : b < a
  · rw [if_pos ((gl_lt hb2 ha).mpr h)]; exact kk b ⟨Or.inr rfl, by omega, by omega⟩
  · rw [if_neg (fun q => h ((gl_lt hb2 ha).mp q))]; exact kk a ⟨Or.inl rfl, by omega, by omega⟩
theorem gl_l2iE (hx : p.tables.exec = Jvm.exec) (hb : c.code = cc) (ha : inR a) (hdg : decode cc pc = .ok (.l2i, 1)) (k : W p l e R s m args below meth c H locs cells slots Q (F0 m (pc + 1) ls (.int (iI a) :: rest))) : W p l e R s m args below meth c H locs cells slots Q (F0 m pc ls (.long (iL a) :: rest)) := by
  refine lv_l2i (v := iI a) hx hb hdg ?_ k
  show (Int64.ofInt a).toInt32 = Int32.ofInt a
  exact Int64.toInt32_ofInt
end GX
/-! points: the code worked out on facts -/
def bd (x : Int) : Int := if x < -1000000000 then -1000000000 else if 1000000000 < x then 1000000000 else x
theorem bd_r (x : Int) : -1000000000 ≤ bd x ∧ bd x ≤ 1000000000 := by unfold bd; repeat' split <;> omega
def evS (c x : Int) (fa : Int → Int) (S : List Int) : List Int :=
  if c ≤ 6 then (if c = 6 then x else fa c) :: S
  else if c = 10 then (match S with | [] => [] | a :: S => (-a) :: S)
  else (match S with | [] => [] | [a] => [a] | b :: a :: S => bd (if c = 9 then a * b else if c = 7 then a + b else a - b) :: S)
def evL (it nu fa : Int → Int) : Nat → List Int
  | 0 => []
  | k + 1 => evS (it (k : Int)) (nu (k : Int)) fa (evL it nu fa k)
def evT : List Int → Int
  | [] => 0
  | [a] => a
  | _ :: b :: S => evT (b :: S)
def evR (it nu fa : Int → Int) (m : Int) : Int := evT (evL it nu fa m.toNat)
def bdL (S : List Int) : Prop := ∀ x ∈ S, -1000000000 ≤ x ∧ x ≤ 1000000000
section EV
variable {it nu fa : Int → Int} {x c : Int} {S : List Int}
theorem evL_s (h : 0 ≤ x) : evL it nu fa (x + 1).toNat = evS (it x) (nu x) fa (evL it nu fa x.toNat) := by
  obtain ⟨j, rfl⟩ : ∃ j : Nat, x = (j : Int) := ⟨x.toNat, by omega⟩
  rw [show ((j : Int) + 1).toNat = j + 1 by omega, show ((j : Int)).toNat = j by omega]
  rfl
theorem evS_bd {y : Int} (hS : bdL S) (hy : -1000000000 ≤ y ∧ y ≤ 1000000000) (hf : ∀ i, 0 ≤ i → i < 6 → -1000000000 ≤ fa i ∧ fa i ≤ 1000000000) (hc : 0 ≤ c) : bdL (evS c y fa S) := by
  unfold evS
  split
  · intro q hq
    rcases List.mem_cons.mp hq with h | h
    · rw [h]; split
      · exact hy
      · exact hf c hc (by omega)
    · exact hS q h
  · split
    · cases S with
      | nil => exact hS
      | cons a S =>
        intro q hq
        rcases List.mem_cons.mp hq with h | h
        · have := hS a (List.mem_cons_self)
          rw [h]; omega
        · exact hS q (List.mem_cons_of_mem _ h)
    · match S, hS with
      | [], h => exact h
      | [a], h => exact h
      | b :: a :: S, h =>
        intro q hq
        rcases List.mem_cons.mp hq with h1 | h1
        · rw [h1]; exact bd_r _
        · exact h q (List.mem_cons_of_mem _ (List.mem_cons_of_mem _ h1))
theorem evL_bd (hn : ∀ k, 0 ≤ nu k ∧ nu k ≤ 999999) (hf : ∀ i, 0 ≤ i → i < 6 → -1000000000 ≤ fa i ∧ fa i ≤ 1000000000) (hc : ∀ k, 0 ≤ it k) : ∀ m : Nat, bdL (evL it nu fa m)
  | 0 => fun q hq => absurd hq (by show ¬ q ∈ ([] : List Int); simp)
  | m + 1 => evS_bd (evL_bd hn hf hc m) (by have := hn m; omega) hf (hc m)
theorem evT_bd : ∀ S : List Int, bdL S → -1000000000 ≤ evT S ∧ evT S ≤ 1000000000
  | [], _ => by decide
  | [a], h => h a (List.mem_cons_self)
  | _ :: b :: S, h => evT_bd (b :: S) (fun q hq => h q (List.mem_cons_of_mem _ hq))
theorem evL_fa {fb : Int → Int} (hc : ∀ k, 0 ≤ it k ∧ it k ≤ 11) (h : ∀ i, 0 ≤ i → i < 6 → fa i = fb i) : ∀ m : Nat, evL it nu fa m = evL it nu fb m
  | 0 => rfl
  | m + 1 => by
    show evS (it m) (nu m) fa (evL it nu fa m) = evS (it m) (nu m) fb (evL it nu fb m)
    rw [evL_fa hc h m]
    unfold evS
    by_cases c6 : it (m : Int) ≤ 6
    · rw [if_pos c6, if_pos c6]
      by_cases c7 : it (m : Int) = 6
      · rw [if_pos c7, if_pos c7]
      · rw [if_neg c7, if_neg c7, h _ (hc m).1 (by omega)]
    · rw [if_neg c6, if_neg c6]
theorem rep_bot {a : Int → Int} : ∀ (S : List Int) (w : Int), rep S a w → 0 < w → a 0 = evT S
  | [], w, h, h0 => by have h : w = 0 := h; omega
  | [x], w, h, _ => by
    have h1 : a (w - 1) = x := h.1
    have h2 : w - 1 = 0 := h.2
    show a 0 = x
    rw [← h1, h2]
  | x :: b :: S, w, h, h0 => by
    have h2 : rep (b :: S) a (w - 1) := h.2
    have := rep_len (b :: S) a (w - 1) h2
    simp only [List.length_cons] at this
    exact rep_bot (b :: S) (w - 1) h2 (by omega)
theorem rep_neg {a : Int → Int} {w i y : Int} (h : rep S a w) (h0 : 0 < w) (x c : Int) (hc : c = 10) (hi : i = w - 1) (hy : y = -(a i)) : rep (evS c x fa S) (u1 a i y) w := by
  subst hc hi
  cases S with
  | nil => have h : w = 0 := h; omega
  | cons b S =>
    have e : evS 10 x fa (b :: S) = (-b) :: S := rfl
    rw [e]
    refine ⟨by rw [u1_s, hy, h.1], rep_ext S a _ (w - 1) h.2 (fun j hj => u1_n (by omega))⟩
theorem rep_bin {a : Int → Int} {w i j v y : Int} (h : rep S a w) (h0 : 1 < w) (x c : Int) (hc : 6 < c ∧ c ≠ 10) (hi : i = w - 2) (hj : j = w - 1) (hv : v = w - 1) (hy : y = bd (if c = 9 then a i * a j else if c = 7 then a i + a j else a i - a j)) : rep (evS c x fa S) (u1 a i y) v := by
  subst hi hj hv
  match S, h with
  | [], h => have h : w = 0 := h; omega
  | [b], h => have h1 : w - 1 = 0 := h.2; omega
  | b :: d :: S, h =>
    have e : evS c x fa (b :: d :: S) = bd (if c = 9 then d * b else if c = 7 then d + b else d - b) :: S := by
      unfold evS
      rw [if_neg (by omega), if_neg hc.2]
    have h1 : a (w - 1) = b := h.1
    have h2 : a (w - 1 - 1) = d := h.2.1
    rw [show w - 1 - 1 = w - 2 by omega] at h2
    rw [e, ← h1, ← h2]
    refine ⟨by rw [show w - 1 - 1 = w - 2 by omega, u1_s, hy], ?_⟩
    have h3 : rep S a (w - 1 - 1) := h.2.2
    exact rep_ext S a _ (w - 1 - 1) h3 (fun j hj => u1_n (by omega))
theorem rep_bnd {a : Int → Int} : ∀ (S : List Int) (w : Int), rep S a w → bdL S → ∀ i, 0 ≤ i → i < w → -1000000000 ≤ a i ∧ a i ≤ 1000000000
  | [], w, h, _, i, h0, h1 => by have h : w = 0 := h; omega
  | x :: S, w, h, hb, i, h0, h1 => by
    by_cases e : i = w - 1
    · rw [e, h.1]; exact hb x (List.mem_cons_self)
    · exact rep_bnd S (w - 1) h.2 (fun q hq => hb q (List.mem_cons_of_mem _ hq)) i h0 (by omega)
theorem rep_em {a : Int → Int} {w : Int} (h : rep S a w) (h0 : w ≤ 0) : evT S = 0 := by
  cases S with
  | nil => rfl
  | cons b S => have := rep_len _ a w h; simp only [List.length_cons] at this; omega
theorem wk_in {c a b z : Int} (ha : -1000000000 ≤ a ∧ a ≤ 1000000000) (hb : -1000000000 ≤ b ∧ b ≤ 1000000000) (hz : z = if c = 9 then a * b else if c = 7 then a + b else a - b) : inL z := by
  have h1 : a * b ≤ 1000000000000000000 ∧ -1000000000000000000 ≤ a * b := by
    have e1 : a * b ≤ (a * b).natAbs := by omega
    have e2 : -((a * b).natAbs : Int) ≤ a * b := by omega
    have e3 : (a * b).natAbs = a.natAbs * b.natAbs := Int.natAbs_mul a b
    have e4 : a.natAbs * b.natAbs ≤ 1000000000 * 1000000000 := Nat.mul_le_mul (by omega) (by omega)
    omega
  rw [hz]
  unfold inL
  repeat' split
  all_goals omega
theorem rep_num {a : Int → Int} {w y : Int} (h : rep S a w) (x c : Int) (hc : c ≤ 6) (hy : (c = 6 ∧ y = x) ∨ (c ≠ 6 ∧ y = fa c)) : rep (evS c x fa S) (u1 a w y) (w + 1) := by
  have e : evS c x fa S = y :: S := by
    unfold evS
    rw [if_pos hc]
    rcases hy with ⟨h1, h2⟩ | ⟨h1, h2⟩
    · rw [if_pos h1, h2]
    · rw [if_neg h1, h2]
  rw [e]
  exact rep_push h
theorem rep_low {a : Int → Int} {w : Int} (h : rep S a w) (h0 : w ≤ 0) (x c : Int) (hc : 6 < c) : rep (evS c x fa S) a w := by
  cases S with
  | nil =>
    have e : evS c x fa [] = [] := by
      unfold evS
      rw [if_neg (by omega)]
      split <;> rfl
    rw [e]; exact h
  | cons b S => have := rep_len _ a w h; simp only [List.length_cons] at this; omega
theorem rep_low1 {a : Int → Int} {w : Int} (h : rep S a w) (h0 : w ≤ 1) (x c : Int) (hc : 6 < c ∧ c ≠ 10) : rep (evS c x fa S) a w := by
  match S, h with
  | [], h => exact rep_low h (by have h : w = 0 := h; omega) x c hc.1
  | [b], h =>
    have e : evS c x fa [b] = [b] := by
      unfold evS
      rw [if_neg (by omega), if_neg hc.2]
    rw [e]; exact h
  | b :: d :: S, h => have := rep_len _ a w h; simp only [List.length_cons] at this; omega
end EV
end

section
/-! sums, greatest ones; keys; who is ahead -/
def sumI (g : Int → Int) : Nat → Int
  | 0 => 0
  | k + 1 => sumI g k + g (k : Int)
def mxI (g : Int → Int) : Nat → Int
  | 0 => -1000000000
  | k + 1 => if mxI g k ≤ g (k : Int) then g (k : Int) else mxI g k
theorem sumI_s {g : Int → Int} {x : Int} (h : 0 ≤ x) : sumI g (x + 1).toNat = sumI g x.toNat + g x := by
  obtain ⟨j, rfl⟩ : ∃ j : Nat, x = (j : Int) := ⟨x.toNat, by omega⟩
  rw [show ((j : Int) + 1).toNat = j + 1 by omega, show ((j : Int)).toNat = j by omega]
  rfl
theorem mxI_s {g : Int → Int} {x : Int} (h : 0 ≤ x) : mxI g (x + 1).toNat = if mxI g x.toNat ≤ g x then g x else mxI g x.toNat := by
  obtain ⟨j, rfl⟩ : ∃ j : Nat, x = (j : Int) := ⟨x.toNat, by omega⟩
  rw [show ((j : Int) + 1).toNat = j + 1 by omega, show ((j : Int)).toNat = j by omega]
  rfl
theorem mxI_r {g : Int → Int} (hg : ∀ k, -1000000000 ≤ g k ∧ g k ≤ 1000000000) : ∀ m : Nat, -1000000000 ≤ mxI g m ∧ mxI g m ≤ 1000000000
  | 0 => by show (-1000000000 : Int) ≤ -1000000000 ∧ (-1000000000 : Int) ≤ 1000000000; decide
  | m + 1 => by
    have h := mxI_r hg m
    have h2 := hg m
    show -1000000000 ≤ (if mxI g m ≤ g (m : Int) then g (m : Int) else mxI g m) ∧ (if mxI g m ≤ g (m : Int) then g (m : Int) else mxI g m) ≤ 1000000000
    split <;> omega
theorem sumI_r {g : Int → Int} {b : Int} (hg : ∀ k, -b ≤ g k ∧ g k ≤ b) : ∀ m : Nat, -(b * m) ≤ sumI g m ∧ sumI g m ≤ b * m
  | 0 => by simp [sumI]
  | m + 1 => by
    have h := sumI_r hg m
    have h2 := hg m
    show -(b * ((m + 1 : Nat) : Int)) ≤ sumI g m + g (m : Int) ∧ sumI g m + g (m : Int) ≤ b * ((m + 1 : Nat) : Int)
    have e : b * ((m + 1 : Nat) : Int) = b * (m : Int) + b := by rw [Int.natCast_succ, Int.mul_add, Int.mul_one]
    omega
theorem sumI_eq {g g2 : Int → Int} : ∀ m : Nat, (∀ k : Nat, k < m → g (k : Int) = g2 (k : Int)) → sumI g m = sumI g2 m
  | 0, _ => rfl
  | m + 1, h => by
    show sumI g m + g (m : Int) = sumI g2 m + g2 (m : Int)
    rw [sumI_eq m (fun k hk => h k (by omega)), h m (by omega)]
theorem tot4 {T : Int → Int} {A B C D : Int} : u1 (u1 (u1 (u1 T 0 A) 1 B) 2 C) 3 D 0 = A ∧ u1 (u1 (u1 (u1 T 0 A) 1 B) 2 C) 3 D 1 = B ∧ u1 (u1 (u1 (u1 T 0 A) 1 B) 2 C) 3 D 2 = C ∧ u1 (u1 (u1 (u1 T 0 A) 1 B) 2 C) 3 D 3 = D := ⟨rfl, rfl, rfl, rfl⟩
def kV (it nu : Int → Int) (m : Int) (F : Int → Int → Int → Int → Int) (R kd r c : Int) : Int :=
  if kd = 0 then sumI (fun t => evR it nu (F r t c) m) R.toNat else if kd = 1 then mxI (fun t => evR it nu (F r t c) m) R.toNat else if kd = 2 then sumI (fun t => F r t c 0) R.toNat else sumI (fun t => F r t c 1) R.toNat
theorem kv_pick {it nu T : Int → Int} {m : Int} {F : Int → Int → Int → Int → Int} {R kd r c : Int} (h0 : T 0 = sumI (fun t => evR it nu (F r t c) m) R.toNat) (h1 : T 1 = mxI (fun t => evR it nu (F r t c) m) R.toNat) (h2 : T 2 = sumI (fun t => F r t c 0) R.toNat) (h3 : T 3 = sumI (fun t => F r t c 1) R.toNat) (hk : 0 ≤ kd ∧ kd ≤ 3) : T kd = kV it nu m F R kd r c := by
  unfold kV
  rcases (show kd = 0 ∨ kd = 1 ∨ kd = 2 ∨ kd = 3 by omega) with rfl | rfl | rfl | rfl
  · rw [if_pos rfl]; exact h0
  · rw [if_neg (by decide), if_pos rfl]; exact h1
  · rw [if_neg (by decide), if_neg (by decide), if_pos rfl]; exact h2
  · rw [if_neg (by decide), if_neg (by decide), if_neg (by decide)]; exact h3
section FR
variable {wh rd rt bg en ho hw an ah ad hs zo it nu : Int → Int} {n na d r t c m : Int}
theorem zU_r (b h : Int) : 0 ≤ zU zo b h ∧ zU zo b h ≤ 3 := by unfold zU; (repeat' split) <;> omega
theorem Fd_r (hho : ∀ k, 0 ≤ ho k ∧ ho k ≤ 60) (hah : ∀ k, 0 ≤ ah k ∧ ah k ≤ 60) (hen : ∀ k, (-1) ≤ en k ∧ en k ≤ 1000999) (hbg : ∀ k, 0 ≤ bg k ∧ bg k ≤ 1000000) (hn : 0 ≤ n ∧ n ≤ 300) (i : Int) : (-2000000) ≤ gFd wh rd rt bg en ho hw an ah ad hs zo n na d r t c i ∧ gFd wh rd rt bg en ho hw an ah ad hs zo n na d r t c i ≤ 2000000 := by
  have hk : ∀ k, 0 ≤ Fk an ah ad ho na d k ∧ Fk an ah ad ho na d k ≤ 60 := fun k => kH_r (hho k) hah _
  have o := fS_ok (wh := wh) (rd := rd) (rt := rt) (hw := hw) (c := c) (r := r) (t := t) hk n.toNat
  unfold gFd
  generalize fS wh rd rt hw (Fk an ah ad ho na d) c r t n.toNat = s at o ⊢
  have hz := zU_r (zo := zo) ((r * 5 + t) * 3) s.2.1
  have h1 := hen s.2.2.1
  have h2 := hbg s.2.2.1
  unfold fA
  by_cases h0 : s.1 = 0
  · rw [if_pos h0]; decide
  · rw [if_neg h0]
    have o2 := o.2.2 (by omega)
    have h3 := hk s.2.2.1
    rw [o2.2.1] at h3
    repeat' split
    all_goals omega
theorem pt_r (hn : ∀ k, 0 ≤ nu k ∧ nu k ≤ 999999) (hc : ∀ k, 0 ≤ it k) {fa : Int → Int} (hf : ∀ i, (-2000000) ≤ fa i ∧ fa i ≤ 2000000) : -1000000000 ≤ evR it nu fa m ∧ evR it nu fa m ≤ 1000000000 := evT_bd _ (evL_bd hn (fun i _ _ => by have := hf i; omega) hc _)
theorem kV_r {F : Int → Int → Int → Int → Int} {R kd : Int} (hp : ∀ r t c, -1000000000 ≤ evR it nu (F r t c) m ∧ evR it nu (F r t c) m ≤ 1000000000) (hf : ∀ r t c i, (-2000000) ≤ F r t c i ∧ F r t c i ≤ 2000000) (hR : R ≤ 5) : (-5000000000) ≤ kV it nu m F R kd r c ∧ kV it nu m F R kd r c ≤ 5000000000 := by
  have h1 := sumI_r (g := fun t => evR it nu (F r t c) m) (b := 1000000000) (fun t => hp r t c) R.toNat
  have h2 := mxI_r (g := fun t => evR it nu (F r t c) m) (fun t => hp r t c) R.toNat
  have h3 := sumI_r (g := fun t => F r t c 0) (b := 2000000) (fun t => hf r t c 0) R.toNat
  have h4 := sumI_r (g := fun t => F r t c 1) (b := 2000000) (fun t => hf r t c 1) R.toNat
  unfold kV
  repeat' split
  all_goals omega
end FR
/-- a row of keys in which two differ -/
def ahK (X Y dn : Int → Int) : Nat → Int → Int
  | 0, _ => 0
  | j + 1, i => if X i = Y i then ahK X Y dn j (i + 1) else if (Y i < X i ∧ dn i = 1) ∨ (X i < Y i ∧ dn i ≠ 1) then 1 else 2
def ahR (q : Int → Int → Int → Int) (dn : Int → Int) (ks : Int) (bk a b : Int) : Nat → Int
  | 0 => 0
  | r + 1 => if ahK (q (r : Int) a) (q (r : Int) b) dn ks.toNat 0 ≠ 0 then ahK (q (r : Int) a) (q (r : Int) b) dn ks.toNat 0 else if bk = 0 then 0 else ahR q dn ks bk a b r
section AH
variable {X Y X2 Y2 dn dn2 : Int → Int} {q q2 : Int → Int → Int → Int} {ks bk a b r x : Int}
theorem ahK_e (h0 : x < ks) (h : X x = Y x) : ahK X Y dn (ks - x).toNat x = ahK X Y dn (ks - (x + 1)).toNat (x + 1) := by
  rw [show (ks - x).toNat = (ks - (x + 1)).toNat + 1 by omega]
  conv => lhs; unfold ahK
  rw [if_pos h]
theorem ahK_1 (h0 : x < ks) (h : (Y x < X x ∧ dn x = 1) ∨ (X x < Y x ∧ dn x ≠ 1)) : ahK X Y dn (ks - x).toNat x = 1 := by
  rw [show (ks - x).toNat = (ks - (x + 1)).toNat + 1 by omega]
  unfold ahK
  rw [if_neg (by omega), if_pos h]
theorem ahK_2 (h0 : x < ks) (h : X x ≠ Y x) (h2 : ¬ ((Y x < X x ∧ dn x = 1) ∨ (X x < Y x ∧ dn x ≠ 1))) : ahK X Y dn (ks - x).toNat x = 2 := by
  rw [show (ks - x).toNat = (ks - (x + 1)).toNat + 1 by omega]
  unfold ahK
  rw [if_neg h, if_neg h2]
theorem ahK_z (h0 : ks ≤ x) : ahK X Y dn (ks - x).toNat x = 0 := by
  rw [show (ks - x).toNat = 0 by omega]
  rfl
theorem ahK_s0 : ahK X Y dn (ks - 0).toNat 0 = ahK X Y dn ks.toNat 0 := by rw [Int.sub_zero]
theorem ahK_self : ∀ (j : Nat) (i : Int), ahK X X dn j i = 0
  | 0, _ => rfl
  | j + 1, i => by
    unfold ahK
    rw [if_pos rfl]
    exact ahK_self j (i + 1)
theorem ahK_eq : ∀ (j : Nat) (i : Int), (∀ k, i ≤ k → k < i + j → X k = X2 k ∧ Y k = Y2 k ∧ dn k = dn2 k) → ahK X Y dn j i = ahK X2 Y2 dn2 j i
  | 0, _, _ => rfl
  | j + 1, i, h => by
    have h1 := h i (by omega) (by omega)
    have h2 := ahK_eq j (i + 1) (fun k h3 h4 => h k (by omega) (by omega))
    unfold ahK
    rw [h1.1, h1.2.1, h1.2.2, h2]
theorem ahR_s (h : 0 ≤ r) : ahR q dn ks bk a b (r + 1).toNat = if ahK (q r a) (q r b) dn ks.toNat 0 ≠ 0 then ahK (q r a) (q r b) dn ks.toNat 0 else if bk = 0 then 0 else ahR q dn ks bk a b r.toNat := by
  obtain ⟨j, rfl⟩ : ∃ j : Nat, r = (j : Int) := ⟨r.toNat, by omega⟩
  rw [show ((j : Int) + 1).toNat = j + 1 by omega, show ((j : Int)).toNat = j by omega]
  rfl
theorem ahR_self : ∀ j : Nat, ahR q dn ks bk a a j = 0
  | 0 => rfl
  | j + 1 => by
    unfold ahR
    rw [ahK_self, if_neg (fun h => h rfl)]
    split
    · rfl
    · exact ahR_self j
theorem ahR_eq (hks : 0 ≤ ks) (hdn : ∀ k, 0 ≤ k → k < ks → dn k = dn2 k) : ∀ j : Nat, (∀ r k : Int, 0 ≤ r → r < (j : Int) → (bk = 0 → r = (j : Int) - 1) → 0 ≤ k → k < ks → q r a k = q2 r a k ∧ q r b k = q2 r b k) → ahR q dn ks bk a b j = ahR q2 dn2 ks bk a b j
  | 0, _ => rfl
  | j + 1, h => by
    have h1 : ahK (q (j : Int) a) (q (j : Int) b) dn ks.toNat 0 = ahK (q2 (j : Int) a) (q2 (j : Int) b) dn2 ks.toNat 0 := ahK_eq _ _ (fun k k0 k1 => by
      have h2 := h j k (by omega) (by omega) (by omega) (by omega) (by omega)
      exact ⟨h2.1, h2.2, hdn k (by omega) (by omega)⟩)
    unfold ahR
    rw [h1]
    by_cases hb : bk = 0
    · rw [if_pos hb, if_pos hb]
    · rw [if_neg hb, if_neg hb, ahR_eq hks hdn j (fun r k r0 r1 _ k0 k1 => h r k r0 (by omega) (fun z => absurd z hb) k0 k1)]
end AH
def qG (a : Int → Int) (r c k : Int) : Int := a ((r * 16 + c) * 4 + k)
def pAh (q : Int → Int → Int → Int) (dn : Int → Int) (ks bk : Int) (la : Int → Int) (r c o : Int) : Bool := decide (r ≤ la o ∧ ahR q dn ks bk o c (r + 1).toNat = 1)
/-- the rank of one in a round -/
def rkF (q : Int → Int → Int → Int) (dn : Int → Int) (ks bk : Int) (la : Int → Int) (cl r c : Int) : Int := if r ≤ la c then 1 + cn (pAh q dn ks bk la r c) cl.toNat else -1
/-! sets of routes -/
def btI (s t : Int) : Int := ((iI s >>> (iI t &&& 31)) &&& iI 1).toInt
theorem bt_of {s t x y : Int} (e1 : iI s >>> (iI t &&& 31) = iI x) (e2 : iI x &&& iI 1 = iI y) (hy : 0 ≤ y ∧ y ≤ 1) : btI s t = y := by
  unfold btI
  rw [e1, e2]
  exact iI_toInt ⟨by omega, by omega⟩
def tgS (p : Int → Int) (s : Int) : Nat → Int
  | 0 => 0
  | k + 1 => tgS p s k + (if btI s (k : Int) = 1 then p (k : Int) else 0)
theorem tgS_s {p : Int → Int} {s x : Int} (h : 0 ≤ x) : tgS p s (x + 1).toNat = tgS p s x.toNat + (if btI s x = 1 then p x else 0) := by
  obtain ⟨j, rfl⟩ : ∃ j : Nat, x = (j : Int) := ⟨x.toNat, by omega⟩
  rw [show ((j : Int) + 1).toNat = j + 1 by omega, show ((j : Int)).toNat = j by omega]
  rfl
theorem tgS_r {p : Int → Int} {s : Int} (hp : ∀ k, -2147483648 ≤ p k ∧ p k ≤ 2147483647) : ∀ m : Nat, -(2147483648 * m) ≤ tgS p s m ∧ tgS p s m ≤ 2147483648 * m
  | 0 => by simp [tgS]
  | m + 1 => by
    have h := tgS_r (s := s) hp m
    have h2 := hp m
    show -(2147483648 * ((m + 1 : Nat) : Int)) ≤ tgS p s m + (if btI s (m : Int) = 1 then p (m : Int) else 0) ∧ tgS p s m + (if btI s (m : Int) = 1 then p (m : Int) else 0) ≤ 2147483648 * ((m + 1 : Nat) : Int)
    split <;> omega
theorem tgS_eq {p p2 : Int → Int} {s : Int} : ∀ m : Nat, (∀ k : Nat, k < m → btI s (k : Int) = 1 → p (k : Int) = p2 (k : Int)) → tgS p s m = tgS p2 s m
  | 0, _ => rfl
  | m + 1, h => by
    show tgS p s m + (if btI s (m : Int) = 1 then p (m : Int) else 0) = tgS p2 s m + (if btI s (m : Int) = 1 then p2 (m : Int) else 0)
    rw [tgS_eq m (fun k hk => h k (by omega))]
    by_cases e : btI s (m : Int) = 1
    · rw [if_pos e, if_pos e, h m (by omega) e]
    · rw [if_neg e, if_neg e]
def tgU (E : Int → Int → Int) (s c : Int) : Int := tgS (E c) s (5 : Int).toNat
/-- pairs that a set parts: of each the one with the greater number counted with those ahead of her -/
def pPr (la : Int → Int) (r : Int) (u : Int → Int) (a b : Int) : Bool := decide ((r ≤ la a ∧ r ≤ la b) ∧ u a ≠ u b)
def prC (la : Int → Int) (r : Int) (u : Int → Int) : Nat → Int
  | 0 => 0
  | k + 1 => prC la r u k + cn (pPr la r u (k : Int)) k
theorem prC_s {la u : Int → Int} {r x : Int} (h : 0 ≤ x) : prC la r u (x + 1).toNat = prC la r u x.toNat + cn (pPr la r u x) x.toNat := by
  obtain ⟨j, rfl⟩ : ∃ j : Nat, x = (j : Int) := ⟨x.toNat, by omega⟩
  rw [show ((j : Int) + 1).toNat = j + 1 by omega, show ((j : Int)).toNat = j by omega]
  rfl
theorem prC_eq {la u u2 : Int → Int} {r : Int} : ∀ m : Nat, (∀ k : Nat, k < m → r ≤ la (k : Int) → u (k : Int) = u2 (k : Int)) → prC la r u m = prC la r u2 m
  | 0, _ => rfl
  | m + 1, h => by
    show prC la r u m + cn (pPr la r u (m : Int)) m = prC la r u2 m + cn (pPr la r u2 (m : Int)) m
    rw [prC_eq m (fun k hk => h k (by omega))]
    congr 1
    refine cn_congr m (fun j hj => ?_)
    unfold pPr
    by_cases c : r ≤ la (m : Int) ∧ r ≤ la (j : Int)
    · rw [h m (by omega) c.1, h j (by omega) c.2]
    · exact decide_eq_decide.mpr ⟨fun q => absurd q.1 c, fun q => absurd q.1 c⟩
/-- the set that parts most, of several the first -/
def bsF (P bc : Int → Int) (mn : Int) : Nat → Int × Int
  | 0 => (-1, -1)
  | s + 1 => if bc (s : Int) = mn ∧ (bsF P bc mn s).2 < P (s : Int) then ((s : Int), P (s : Int)) else bsF P bc mn s
theorem bsF_s {P bc : Int → Int} {mn x : Int} (h : 0 ≤ x) : bsF P bc mn (x + 1).toNat = if bc x = mn ∧ (bsF P bc mn x.toNat).2 < P x then (x, P x) else bsF P bc mn x.toNat := by
  obtain ⟨j, rfl⟩ : ∃ j : Nat, x = (j : Int) := ⟨x.toNat, by omega⟩
  rw [show ((j : Int) + 1).toNat = j + 1 by omega, show ((j : Int)).toNat = j by omega]
  rfl
def pw2 (r : Int) : Int := if r = 0 then 1 else if r = 1 then 2 else if r = 2 then 4 else if r = 3 then 8 else if r = 4 then 16 else 32
theorem pw2_r (r : Int) : 1 ≤ pw2 r ∧ pw2 r ≤ 32 := by unfold pw2; (repeat' split) <;> omega
theorem gShlE (r : Int) (h : 0 ≤ r ∧ r ≤ 5) : iI 1 <<< (iI r &&& 31) = iI (pw2 r) := by
  rcases (show r = 0 ∨ r = 1 ∨ r = 2 ∨ r = 3 ∨ r = 4 ∨ r = 5 by omega) with rfl | rfl | rfl | rfl | rfl | rfl <;> decide
/-! rows of keys, as the class fills them -/
theorem fa_i {a b : Int → Int} (h : a 0 = b 0 ∧ a 1 = b 1 ∧ a 2 = b 2 ∧ a 3 = b 3 ∧ a 4 = b 4 ∧ a 5 = b 5) {i : Int} (h0 : 0 ≤ i) (h1 : i < 6) : a i = b i := by
  obtain ⟨e0, e1, e2, e3, e4, e5⟩ := h
  rcases (show i = 0 ∨ i = 1 ∨ i = 2 ∨ i = 3 ∨ i = 4 ∨ i = 5 by omega) with rfl | rfl | rfl | rfl | rfl | rfl <;> assumption
theorem kr_s {d K : Int → Int} {b x i V : Int} (h : ∀ j, 0 ≤ j → j < x → d (b + j) = K j) (hi : i = b + x) (hv : V = K x) : ∀ j, 0 ≤ j → j < x + 1 → u1 d i V (b + j) = K j := fun j h0 h1 => by
  by_cases e : j = x
  · rw [e, hi, u1_s, hv]
  · rw [u1_n (by omega)]; exact h j h0 (by omega)
theorem kr_o {d g : Int → Int} {b x i V : Int} (h : ∀ e, e < b ∨ b + 4 ≤ e → d e = g e) (hi : i = b + x) (hx : 0 ≤ x ∧ x < 4) : ∀ e, e < b ∨ b + 4 ≤ e → u1 d i V e = g e := fun e he => by
  rw [u1_n (by omega)]; exact h e he
def kvF (it nu kk R : Int → Int) (m : Int) (F : Int → Int → Int → Int → Int) : Int → Int → Int → Int := fun r c k => kV it nu m F (R r) (kk k) r c
def krC (q q2 : Int → Int → Int → Int) (ks bk a c hi : Int) : Prop := ∀ r k, 0 ≤ r → r < hi → (bk = 0 → r = a) → 0 ≤ k → k < ks → q r c k = q2 r c k
def krOk (q q2 : Int → Int → Int → Int) (la : Int → Int) (ks bk a x : Int) : Prop := ∀ c, 0 ≤ c → c < x → a ≤ la c → krC q q2 ks bk a c (a + 1)
section KR
variable {g g1 la dn : Int → Int} {q2 : Int → Int → Int → Int} {ks bk a x y cl r c : Int}
theorem krOk_0 : krOk (qG g) q2 la ks bk a 0 := fun c h0 h1 => by omega
theorem krC_0 (h : bk = 0 → a ≤ y) (h2 : bk ≠ 0 → y = 0) (ha : y ≤ a) : krC (qG g) q2 ks bk a c y := fun r k r0 r1 rb => by
  intro _ _
  exfalso
  by_cases e : bk = 0
  · have := h e; have := rb e; omega
  · have := h2 e; omega
theorem krOk_keep (hO : krOk (qG g) q2 la ks bk a x) (hx : x ≤ 15) (hks : ks ≤ 4) (ho : ∀ e, e < (y * 16 + x) * 4 ∨ (y * 16 + x) * 4 + 4 ≤ e → g1 e = g e) : krOk (qG g1) q2 la ks bk a x := fun c c0 c1 c2 r k r0 r1 rb k0 k1 => by
  rw [← hO c c0 c1 c2 r k r0 r1 rb k0 k1]
  exact ho _ (by omega)
theorem krC_s (hC : krC (qG g) q2 ks bk a x y) (hks : ks ≤ 4) (hk : ∀ j, 0 ≤ j → j < ks → g1 ((y * 16 + x) * 4 + j) = q2 y x j) (ho : ∀ e, e < (y * 16 + x) * 4 ∨ (y * 16 + x) * 4 + 4 ≤ e → g1 e = g e) : krC (qG g1) q2 ks bk a x (y + 1) := fun r k r0 r1 rb k0 k1 => by
  by_cases e : r = y
  · rw [e]; exact hk k k0 k1
  · rw [← hC r k r0 (by omega) rb k0 k1]
    exact ho _ (by omega)
theorem krOk_s (hO : krOk (qG g) q2 la ks bk a x) (hC : a ≤ la x → krC (qG g) q2 ks bk a x (a + 1)) : krOk (qG g) q2 la ks bk a (x + 1) := fun c c0 c1 c2 => by
  by_cases e : c = x
  · rw [e] at c2 ⊢; exact hC c2
  · exact hO c c0 (by omega) c2
theorem rk_eq (hO : krOk (qG g) q2 la ks bk r cl) (hks : 0 ≤ ks) (hr : 0 ≤ r) (hc : (0 ≤ c ∧ c < cl) ∧ r ≤ la c) : cn (pAh (qG g) dn ks bk la r c) cl.toNat = cn (pAh q2 dn ks bk la r c) cl.toNat := by
  refine cn_eq (fun o o0 o1 => ?_)
  unfold pAh
  by_cases ho : r ≤ la o
  · have e : ahR (qG g) dn ks bk o c (r + 1).toNat = ahR q2 dn ks bk o c (r + 1).toNat := ahR_eq hks (fun _ _ _ => rfl) _ (fun r' k r0 r1 rb k0 k1 => ⟨hO o o0 o1 ho r' k r0 (by omega) (fun z => by have := rb z; omega) k0 k1, hO c hc.1.1 hc.1.2 hc.2 r' k r0 (by omega) (fun z => by have := rb z; omega) k0 k1⟩)
    rw [e]
  · exact decide_eq_decide.mpr ⟨fun q => absurd q.1 ho, fun q => absurd q.1 ho⟩
theorem rk_s {d K : Int → Int} {V : Int} (h : ∀ c, 0 ≤ c → c < x → d c = K c) (hv : V = K x) : ∀ c, 0 ≤ c → c < x + 1 → u1 d x V c = K c := fun c h0 h1 => by
  by_cases e : c = x
  · rw [e, u1_s, hv]
  · rw [u1_n e]; exact h c h0 (by omega)
end KR
/-- points of all on all routes of a round, as the class lays them -/
def ptOk (p : Int → Int) (E : Int → Int → Int) (x R : Int) : Prop := ∀ c t, 0 ≤ c → c < x → 0 ≤ t → t < R → p (c * 5 + t) = E c t
theorem pt_s {p : Int → Int} {E : Int → Int → Int} {x y R V i : Int} (h : ptOk p E x R) (h2 : ∀ t, 0 ≤ t → t < y → p (x * 5 + t) = E x t) (hR : R ≤ 5) (hy : 0 ≤ y ∧ y < R) (hi : i = x * 5 + y) (hv : V = E x y) : ptOk (u1 p i V) E x R ∧ ∀ t, 0 ≤ t → t < y + 1 → u1 p i V (x * 5 + t) = E x t := by
  refine ⟨fun c t c0 c1 t0 t1 => ?_, fun t t0 t1 => ?_⟩
  · rw [u1_n (by omega)]; exact h c t c0 c1 t0 t1
  · by_cases e : t = y
    · rw [e, hi, u1_s, hv]
    · rw [u1_n (by omega)]; exact h2 t t0 (by omega)
theorem pt_n {p : Int → Int} {E : Int → Int → Int} {x R : Int} (h : ptOk p E x R) (h2 : ∀ t, 0 ≤ t → t < R → p (x * 5 + t) = E x t) : ptOk p E (x + 1) R := fun c t c0 c1 t0 t1 => by
  by_cases e : c = x
  · rw [e]; exact h2 t t0 t1
  · exact h c t c0 (by omega) t0 t1
/-! how many bits -/
def bcU (a : Int32) (k : Int) : Int32 := (a.toUInt32 >>> ((iI k).toUInt32 &&& Int32.toUInt32 31)).toInt32
def bc1 (a : Int32) : Int32 := a - (bcU a 1 &&& iI 1431655765)
def bc2 (a : Int32) : Int32 := (a &&& iI 858993459) + (bcU a 2 &&& iI 858993459)
def bc3 (a : Int32) : Int32 := (a + bcU a 4) &&& iI 252645135
def bc4 (a : Int32) : Int32 := a + bcU a 8
def bc5 (a : Int32) : Int32 := a + bcU a 16
def bcI (a : Int) : Int := (bc5 (bc4 (bc3 (bc2 (bc1 (iI a))))) &&& iI 63).toInt
theorem bc_z : bcI 0 = 0 := by decide
section GO
variable {la rk rk2 p : Int → Int} {E : Int → Int → Int} {op mo cl r R s : Int}
theorem lc_cn (h : ∀ c, 0 ≤ c → c < cl → rk c = rk2 c) : cn (pLc la rk op mo) cl.toNat = cn (pLc la rk2 op mo) cl.toNat := cn_eq (fun j h0 h1 => by unfold pLc; rw [h j h0 h1])
theorem lc_f (h : ∀ c, 0 ≤ c → c < cl → rk c = rk2 c) : lcF la rk op mo cl = lcF la rk2 op mo cl := by
  funext c
  unfold lcF
  by_cases hc : 0 ≤ c ∧ c < cl
  · rw [h c hc.1 hc.2]
  · rw [if_neg (fun q => hc q.1), if_neg (fun q => hc q.1)]
theorem sh_ro {rn : Int} {sh : Int → Int} (h0 : 0 ≤ r) (h1 : r < rn) : shF rn sh r 0 = sh (r * 4) := by
  unfold shF
  rw [if_pos ⟨h0, h1⟩, Int.add_zero]
theorem bt_tab : ∀ s : Fin 32, ∀ t : Fin 5, pw2 ((t : Nat) : Int) ≤ ((s : Nat) : Int) ∨ btI ((s : Nat) : Int) ((t : Nat) : Int) = 0 := by decide +kernel
theorem bt_hi {t : Int} (hs : 0 ≤ s ∧ s < pw2 R) (hR : 0 ≤ R ∧ R ≤ 5) (ht : R ≤ t ∧ t < 5) : btI s t = 0 := by
  have h1 := pw2_r R
  have h2 := bt_tab ⟨s.toNat, by omega⟩ ⟨t.toNat, by omega⟩
  simp only [Int.toNat_of_nonneg hs.1, Int.toNat_of_nonneg (show 0 ≤ t by omega)] at h2
  rcases h2 with h | h
  · exfalso
    have h3 : pw2 R ≤ pw2 t := by
      rcases (show t = 0 ∨ t = 1 ∨ t = 2 ∨ t = 3 ∨ t = 4 by omega) with rfl | rfl | rfl | rfl | rfl <;>
        (rcases (show R = 0 ∨ R = 1 ∨ R = 2 ∨ R = 3 ∨ R = 4 by omega) with rfl | rfl | rfl | rfl | rfl <;> first | decide | (exfalso; omega))
    omega
  · exact h
theorem pr_go (hpo : ptOk p E cl R) (hR : 0 ≤ R ∧ R ≤ 5) (hs : 0 ≤ s ∧ s < pw2 R) : prC la r (tgU (fun c t => p (c * 5 + t)) s) cl.toNat = prC la r (tgU E s) cl.toNat := by
  refine prC_eq _ (fun k hk _ => tgS_eq _ (fun t ht hb => ?_))
  have ht5 : (t : Int) < 5 := by
    have h9 : (5 : Int).toNat = 5 := rfl
    omega
  by_cases h : (t : Int) < R
  · exact hpo k t (by omega) (by omega) (by omega) h
  · have := bt_hi (t := (t : Int)) hs hR ⟨by omega, ht5⟩
    omega
theorem bsF_eq {P P2 bc : Int → Int} {mn : Int} : ∀ m : Nat, (∀ s : Nat, s < m → P (s : Int) = P2 (s : Int)) → bsF P bc mn m = bsF P2 bc mn m
  | 0, _ => rfl
  | m + 1, h => by
    have ih := bsF_eq (bc := bc) (mn := mn) m (fun s hs => h s (by omega))
    show (if bc (m : Int) = mn ∧ (bsF P bc mn m).2 < P (m : Int) then ((m : Int), P (m : Int)) else bsF P bc mn m) = (if bc (m : Int) = mn ∧ (bsF P2 bc mn m).2 < P2 (m : Int) then ((m : Int), P2 (m : Int)) else bsF P2 bc mn m)
    rw [ih, h m (by omega)]
theorem bs_go {bc : Int → Int} {mn : Int} (hpo : ptOk p E cl R) (hR : 0 ≤ R ∧ R ≤ 5) : (bsF (fun s => prC la r (tgU (fun c t => p (c * 5 + t)) s) cl.toNat) bc mn (pw2 R).toNat).1 = (bsF (fun s => prC la r (tgU E s) cl.toNat) bc mn (pw2 R).toNat).1 := by
  have h := bsF_eq (bc := bc) (mn := mn) (P := fun s => prC la r (tgU (fun c t => p (c * 5 + t)) s) cl.toNat) (P2 := fun s => prC la r (tgU E s) cl.toNat) (pw2 R).toNat (fun s hs => pr_go hpo hR ⟨by omega, by omega⟩)
  rw [h]
end GO
/-! the reference's side -/
theorem mcF_r {x : Int} (h : 0 ≤ x ∧ x ≤ 11) : 0 ≤ mcF x ∧ mcF x ≤ 11 := by unfold mcF; (repeat' split) <;> omega
theorem mcF_c (x : Int) : (x = 0 → mcF x = 6) ∧ (1 ≤ x ∧ x ≤ 6 → mcF x = x - 1) ∧ (7 ≤ x → mcF x = x) := by
  unfold mcF
  refine ⟨fun h => if_pos h, fun h => ?_, fun h => ?_⟩
  · rw [if_neg (by omega), if_pos (by omega)]
  · rw [if_neg (by omega), if_neg (by omega)]
theorem u1_id {a : Int → Int} {e x : Int} (h : a e = x) : u1 a e x = a := by
  funext k
  unfold u1
  by_cases hk : k = e
  · rw [if_pos hk, hk, h]
  · rw [if_neg hk]
theorem u1_u1 {a : Int → Int} {e x y : Int} : u1 (u1 a e x) e y = u1 a e y := by
  funext k
  unfold u1
  by_cases hk : k = e
  · rw [if_pos hk, if_pos hk]
  · rw [if_neg hk, if_neg hk, if_neg hk]
theorem zu_y {A c : Int → Int} {e y : Int} (h : c = u1 A e y) : u1 c e (c e + 1) = u1 A e (y + 1) := by rw [h, u1_s, u1_u1]
theorem zu_n {A c : Int → Int} {e y : Int} (h : c = u1 A e y) : u1 c e (c e) = u1 A e (y + 0) := by rw [h, u1_s, u1_u1, Int.add_zero]
def zUk (zo : Int → Int) (b h : Int) : Nat → Int
  | 0 => 0
  | k + 1 => zUk zo b h k + (if 0 < zo (b + (k : Int)) ∧ zo (b + (k : Int)) ≤ h then 1 else 0)
theorem zUk_s {zo : Int → Int} {b h x : Int} (h0 : 0 ≤ x) : zUk zo b h (x + 1).toNat = zUk zo b h x.toNat + (if 0 < zo (b + x) ∧ zo (b + x) ≤ h then 1 else 0) := by
  obtain ⟨j, rfl⟩ : ∃ j : Nat, x = (j : Int) := ⟨x.toNat, by omega⟩
  rw [show ((j : Int) + 1).toNat = j + 1 by omega, show ((j : Int)).toNat = j by omega]
  rfl
theorem zUk_r {zo : Int → Int} (b h : Int) : ∀ k : Nat, 0 ≤ zUk zo b h k ∧ zUk zo b h k ≤ k
  | 0 => ⟨Int.le_refl 0, Int.le_refl 0⟩
  | k + 1 => by
    have q := zUk_r (zo := zo) b h k
    show 0 ≤ zUk zo b h k + (if 0 < zo (b + (k : Int)) ∧ zo (b + (k : Int)) ≤ h then 1 else 0) ∧ zUk zo b h k + (if 0 < zo (b + (k : Int)) ∧ zo (b + (k : Int)) ≤ h then 1 else 0) ≤ ((k + 1 : Nat) : Int)
    split <;> omega
theorem zU_k (zo : Int → Int) (b h : Int) : zUk zo b h (3 : Int).toNat = zU zo b h := by
  show ((0 + (if 0 < zo (b + ((0 : Nat) : Int)) ∧ zo (b + ((0 : Nat) : Int)) ≤ h then 1 else 0)) + (if 0 < zo (b + ((1 : Nat) : Int)) ∧ zo (b + ((1 : Nat) : Int)) ≤ h then 1 else 0)) + (if 0 < zo (b + ((2 : Nat) : Int)) ∧ zo (b + ((2 : Nat) : Int)) ≤ h then 1 else 0) = zU zo b h
  unfold zU
  rw [Int.zero_add]
  rfl
theorem wk3_in {a b z : Int} (ha : -1000000000 ≤ a ∧ a ≤ 1000000000) (hb : -1000000000 ≤ b ∧ b ≤ 1000000000) (hz : z = a + b ∨ z = a - b ∨ z = a * b) : inL z := by
  rcases hz with h | h | h
  · exact wk_in (c := 7) ha hb h
  · exact wk_in (c := 8) ha hb h
  · exact wk_in (c := 9) ha hb h
theorem kV_post {it nu : Int → Int} {m r c R kd : Int} {F : Int → Int → Int → Int → Int} (hp : ∀ r t c, -1000000000 ≤ evR it nu (F r t c) m ∧ evR it nu (F r t c) m ≤ 1000000000) (hf : ∀ r t c i, (-2000000) ≤ F r t c i ∧ F r t c i ≤ 2000000) (hR : R ≤ 5) {z : Int} (hz : z = kV it nu m F R kd r c) : (-5000000000) ≤ z ∧ z ≤ 5000000000 := by rw [hz]; exact kV_r hp hf hR
/-- in a round, by the reference's row -/
def liF (isn : Int → Int) (r c : Int) : Int := if isn (16 * r + c) ≠ 0 then r else r - 1
theorem liF_1 {isn : Int → Int} {r c : Int} (h : isn (16 * r + c) ≠ 0) : liF isn r c = r := if_pos h
theorem liF_0 {isn : Int → Int} {r c : Int} (h : isn (16 * r + c) = 0) : liF isn r c = r - 1 := if_neg (fun q => q h)
/-! pairs, counted from the first -/
def prD (la : Int → Int) (r : Int) (u : Int → Int) (m : Nat) : Nat → Int
  | 0 => 0
  | a + 1 => prD la r u m a + (cn (pPr la r u (a : Int)) m - cn (pPr la r u (a : Int)) (a + 1))
theorem prD_s {la u : Int → Int} {r x : Int} {m : Nat} (h : 0 ≤ x) : prD la r u m (x + 1).toNat = prD la r u m x.toNat + (cn (pPr la r u x) m - cn (pPr la r u x) (x + 1).toNat) := by
  obtain ⟨j, rfl⟩ : ∃ j : Nat, x = (j : Int) := ⟨x.toNat, by omega⟩
  rw [show ((j : Int) + 1).toNat = j + 1 by omega, show ((j : Int)).toNat = j by omega]
  rfl
theorem prD_m (la : Int → Int) (r : Int) (u : Int → Int) (m : Nat) : ∀ a : Nat, prD la r u (m + 1) a = prD la r u m a + cn (fun i => pPr la r u i (m : Int)) a
  | 0 => rfl
  | a + 1 => by
    show prD la r u (m + 1) a + ((cn (pPr la r u (a : Int)) m + (if pPr la r u (a : Int) (m : Int) then 1 else 0)) - cn (pPr la r u (a : Int)) (a + 1)) = prD la r u m a + (cn (pPr la r u (a : Int)) m - cn (pPr la r u (a : Int)) (a + 1)) + (cn (fun i => pPr la r u i (m : Int)) a + (if pPr la r u (a : Int) (m : Int) then 1 else 0))
    rw [prD_m la r u m a]
    omega
theorem pPr_sym (la : Int → Int) (r : Int) (u : Int → Int) (a b : Int) : pPr la r u a b = pPr la r u b a := by
  unfold pPr
  exact decide_eq_decide.mpr ⟨fun q => ⟨⟨q.1.2, q.1.1⟩, fun z => q.2 z.symm⟩, fun q => ⟨⟨q.1.2, q.1.1⟩, fun z => q.2 z.symm⟩⟩
theorem prD_eq (la : Int → Int) (r : Int) (u : Int → Int) : ∀ m : Nat, prD la r u m m = prC la r u m
  | 0 => rfl
  | m + 1 => by
    show prD la r u (m + 1) m + (cn (pPr la r u (m : Int)) (m + 1) - cn (pPr la r u (m : Int)) (m + 1)) = prC la r u m + cn (pPr la r u (m : Int)) m
    rw [prD_m, prD_eq la r u m, cn_congr (p := fun i => pPr la r u i (m : Int)) (q := pPr la r u (m : Int)) m (fun j _ => pPr_sym la r u j m)]
    omega
theorem prD_prC (la : Int → Int) (r : Int) (u : Int → Int) (c : Int) : prD la r u c.toNat c.toNat = prC la r u c.toNat := prD_eq la r u c.toNat
theorem sm_next {d K : Int → Int} {x : Int} (h : ∀ c, 0 ≤ c → c < x → d c = K c) (hx : d x = K x) : ∀ c, 0 ≤ c → c < x + 1 → d c = K c := fun c h0 h1 => by
  by_cases e : c = x
  · rw [e]; exact hx
  · exact h c h0 (by omega)
theorem sm_keep {d K : Int → Int} {x V : Int} (h : ∀ c, 0 ≤ c → c < x → d c = K c) : ∀ c, 0 ≤ c → c < x → u1 d x V c = K c := fun c h0 h1 => by
  rw [u1_n (by omega)]; exact h c h0 h1
theorem tgS_up {p : Int → Int} {s : Int} (R : Nat) : ∀ m : Nat, (∀ t : Nat, R ≤ t → t < R + m → btI s (t : Int) ≠ 1) → tgS p s (R + m) = tgS p s R
  | 0, _ => rfl
  | m + 1, h => by
    show tgS p s (R + m) + (if btI s ((R + m : Nat) : Int) = 1 then p ((R + m : Nat) : Int) else 0) = tgS p s R
    rw [if_neg (h (R + m) (by omega) (by omega)), tgS_up R m (fun t h0 h1 => h t h0 (by omega))]
    omega
theorem tgS_R {p : Int → Int} {s R : Int} (hR : 0 ≤ R ∧ R ≤ 5) (h : ∀ t, R ≤ t → t < 5 → btI s t ≠ 1) : tgS p s R.toNat = tgS p s (5 : Int).toNat := by
  have e : (5 : Int).toNat = R.toNat + (5 - R).toNat := by
    have h9 : (5 : Int).toNat = 5 := rfl
    omega
  rw [e]
  exact (tgS_up R.toNat (5 - R).toNat (fun t h0 h1 => h t (by omega) (by omega))).symm
/-- who comes to the next round, by the reference's rows -/
def pAv (rk : Int → Int) (mo c : Int) : Bool := decide (0 < rk c ∧ rk c ≤ mo)
def aiP (isn : Int → Int) (p : Int → Bool) (t cl : Int) : Int → Int := fun e => if (16 * t ≤ e ∧ e < 16 * t + cl) ∧ p (e - 16 * t) = true then 1 else isn e
theorem aiP_eq {isn : Int → Int} {p q : Int → Bool} {t cl : Int} (h : ∀ j, 0 ≤ j → j < cl → p j = q j) : aiP isn p t cl = aiP isn q t cl := by
  funext e
  unfold aiP
  by_cases hc : 16 * t ≤ e ∧ e < 16 * t + cl
  · rw [h (e - 16 * t) (by omega) (by omega)]
  · rw [if_neg (fun z => hc z.1), if_neg (fun z => hc z.1)]
theorem aiP_none {isn : Int → Int} {p : Int → Bool} {t cl : Int} (h : ∀ j, 0 ≤ j → j < cl → p j = false) : aiP isn p t cl = isn := by
  funext e
  unfold aiP
  by_cases hc : 16 * t ≤ e ∧ e < 16 * t + cl
  · rw [if_neg (fun z => by have := h (e - 16 * t) (by omega) (by omega); rw [this] at z; exact absurd z.2 (by decide))]
  · rw [if_neg (fun z => hc z.1)]
theorem aiP_hit {isn : Int → Int} {p q : Int → Bool} {t cl c i : Int} (hc : 0 ≤ c ∧ c < cl) (hi : i = 16 * t + c) (hq : q c = true) (h : ∀ j, j ≠ c → p j = q j) : u1 (aiP isn p t cl) i 1 = aiP isn q t cl := by
  funext e
  unfold u1 aiP
  by_cases he : e = i
  · rw [if_pos he, if_pos ⟨by omega, by rw [he, hi, show 16 * t + c - 16 * t = c by omega]; exact hq⟩]
  · rw [if_neg he, h (e - 16 * t) (by omega)]
theorem cP_one {a : Int → Int} {r t c j : Int} (h : a c ≠ r) : cP a r t c j = cP a r t (c + (-1)) j := by
  unfold cP
  refine decide_eq_decide.mpr ⟨fun q => by omega, fun q => ?_⟩
  rcases q with q | q
  · exact Or.inl q
  · rcases (show j = c ∨ c < j by omega) with e | e
    · rw [e] at q; exact absurd q.1 h
    · exact Or.inr ⟨q.1, e⟩
theorem cP_av {a : Int → Int} {t m j : Int} (h : j < m) : cP a 0 t (m - 1) j = pAv a t j := by
  unfold cP pAv
  exact decide_eq_decide.mpr ⟨fun q => by omega, fun q => by omega⟩
theorem pAv_eq {a b : Int → Int} {t j : Int} (h : a j = b j) : pAv a t j = pAv b t j := by
  unfold pAv
  rw [h]
end

section
theorem dG_dX0_clear_0 : (decode cX0_clear 0 = .ok (.aload_n 0, 1)) ∧ (decode cX0_clear 1 = .ok (.iconst 0, 1)) ∧ (decode cX0_clear 2 = .ok (.putfield 21, 3)) ∧ (decode cX0_clear 5 = .ok (.return_, 1)) ∧ (decode cX0_put 0 = .ok (.aload_n 0, 1)) ∧ (decode cX0_put 1 = .ok (.getfield 9, 3)) ∧ (decode cX0_put 4 = .ok (.aload_n 0, 1)) ∧ (decode cX0_put 5 = .ok (.getfield 21, 3)) ∧ (decode cX0_put 8 = .ok (.iload_n 1, 1)) ∧ (decode cX0_put 9 = .ok (.iastore, 1)) ∧ (decode cX0_put 10 = .ok (.aload_n 0, 1)) ∧ (decode cX0_put 11 = .ok (.getfield 15, 3)) := by decide +kernel
theorem dX0_clear_0 : decode cX0_clear 0 = .ok (.aload_n 0, 1) := dG_dX0_clear_0.1
theorem dX0_clear_1 : decode cX0_clear 1 = .ok (.iconst 0, 1) := dG_dX0_clear_0.2.1
theorem dX0_clear_2 : decode cX0_clear 2 = .ok (.putfield 21, 3) := dG_dX0_clear_0.2.2.1
theorem dX0_clear_5 : decode cX0_clear 5 = .ok (.return_, 1) := dG_dX0_clear_0.2.2.2.1
theorem dX0_put_0 : decode cX0_put 0 = .ok (.aload_n 0, 1) := dG_dX0_clear_0.2.2.2.2.1
theorem dX0_put_1 : decode cX0_put 1 = .ok (.getfield 9, 3) := dG_dX0_clear_0.2.2.2.2.2.1
theorem dX0_put_4 : decode cX0_put 4 = .ok (.aload_n 0, 1) := dG_dX0_clear_0.2.2.2.2.2.2.1
theorem dX0_put_5 : decode cX0_put 5 = .ok (.getfield 21, 3) := dG_dX0_clear_0.2.2.2.2.2.2.2.1
theorem dX0_put_8 : decode cX0_put 8 = .ok (.iload_n 1, 1) := dG_dX0_clear_0.2.2.2.2.2.2.2.2.1
theorem dX0_put_9 : decode cX0_put 9 = .ok (.iastore, 1) := dG_dX0_clear_0.2.2.2.2.2.2.2.2.2.1
theorem dX0_put_10 : decode cX0_put 10 = .ok (.aload_n 0, 1) := dG_dX0_clear_0.2.2.2.2.2.2.2.2.2.2.1
theorem dX0_put_11 : decode cX0_put 11 = .ok (.getfield 15, 3) := dG_dX0_clear_0.2.2.2.2.2.2.2.2.2.2.2
theorem dG_dX0_put_14 : (decode cX0_put 14 = .ok (.aload_n 0, 1)) ∧ (decode cX0_put 15 = .ok (.getfield 21, 3)) ∧ (decode cX0_put 18 = .ok (.iload_n 2, 1)) ∧ (decode cX0_put 19 = .ok (.iastore, 1)) ∧ (decode cX0_put 20 = .ok (.aload_n 0, 1)) ∧ (decode cX0_put 21 = .ok (.getfield 18, 3)) ∧ (decode cX0_put 24 = .ok (.aload_n 0, 1)) ∧ (decode cX0_put 25 = .ok (.getfield 21, 3)) ∧ (decode cX0_put 28 = .ok (.iload_n 3, 1)) ∧ (decode cX0_put 29 = .ok (.iastore, 1)) ∧ (decode cX0_put 30 = .ok (.aload_n 0, 1)) ∧ (decode cX0_put 31 = .ok (.dup, 1)) := by decide +kernel
theorem dX0_put_14 : decode cX0_put 14 = .ok (.aload_n 0, 1) := dG_dX0_put_14.1
theorem dX0_put_15 : decode cX0_put 15 = .ok (.getfield 21, 3) := dG_dX0_put_14.2.1
theorem dX0_put_18 : decode cX0_put 18 = .ok (.iload_n 2, 1) := dG_dX0_put_14.2.2.1
theorem dX0_put_19 : decode cX0_put 19 = .ok (.iastore, 1) := dG_dX0_put_14.2.2.2.1
theorem dX0_put_20 : decode cX0_put 20 = .ok (.aload_n 0, 1) := dG_dX0_put_14.2.2.2.2.1
theorem dX0_put_21 : decode cX0_put 21 = .ok (.getfield 18, 3) := dG_dX0_put_14.2.2.2.2.2.1
theorem dX0_put_24 : decode cX0_put 24 = .ok (.aload_n 0, 1) := dG_dX0_put_14.2.2.2.2.2.2.1
theorem dX0_put_25 : decode cX0_put 25 = .ok (.getfield 21, 3) := dG_dX0_put_14.2.2.2.2.2.2.2.1
theorem dX0_put_28 : decode cX0_put 28 = .ok (.iload_n 3, 1) := dG_dX0_put_14.2.2.2.2.2.2.2.2.1
theorem dX0_put_29 : decode cX0_put 29 = .ok (.iastore, 1) := dG_dX0_put_14.2.2.2.2.2.2.2.2.2.1
theorem dX0_put_30 : decode cX0_put 30 = .ok (.aload_n 0, 1) := dG_dX0_put_14.2.2.2.2.2.2.2.2.2.2.1
theorem dX0_put_31 : decode cX0_put 31 = .ok (.dup, 1) := dG_dX0_put_14.2.2.2.2.2.2.2.2.2.2.2
theorem dG_dX0_put_32 : (decode cX0_put 32 = .ok (.getfield 21, 3)) ∧ (decode cX0_put 35 = .ok (.iconst 1, 1)) ∧ (decode cX0_put 36 = .ok (.iadd, 1)) ∧ (decode cX0_put 37 = .ok (.putfield 21, 3)) ∧ (decode cX0_put 40 = .ok (.return_, 1)) ∧ (decode cX2_clear 0 = .ok (.aload_n 0, 1)) ∧ (decode cX2_clear 1 = .ok (.iconst 0, 1)) ∧ (decode cX2_clear 2 = .ok (.putfield 18, 3)) ∧ (decode cX2_clear 5 = .ok (.aload_n 0, 1)) ∧ (decode cX2_clear 6 = .ok (.iconst 0, 1)) ∧ (decode cX2_clear 7 = .ok (.putfield 22, 3)) ∧ (decode cX2_clear 10 = .ok (.return_, 1)) := by decide +kernel
theorem dX0_put_32 : decode cX0_put 32 = .ok (.getfield 21, 3) := dG_dX0_put_32.1
theorem dX0_put_35 : decode cX0_put 35 = .ok (.iconst 1, 1) := dG_dX0_put_32.2.1
theorem dX0_put_36 : decode cX0_put 36 = .ok (.iadd, 1) := dG_dX0_put_32.2.2.1
theorem dX0_put_37 : decode cX0_put 37 = .ok (.putfield 21, 3) := dG_dX0_put_32.2.2.2.1
theorem dX0_put_40 : decode cX0_put 40 = .ok (.return_, 1) := dG_dX0_put_32.2.2.2.2.1
theorem dX2_clear_0 : decode cX2_clear 0 = .ok (.aload_n 0, 1) := dG_dX0_put_32.2.2.2.2.2.1
theorem dX2_clear_1 : decode cX2_clear 1 = .ok (.iconst 0, 1) := dG_dX0_put_32.2.2.2.2.2.2.1
theorem dX2_clear_2 : decode cX2_clear 2 = .ok (.putfield 18, 3) := dG_dX0_put_32.2.2.2.2.2.2.2.1
theorem dX2_clear_5 : decode cX2_clear 5 = .ok (.aload_n 0, 1) := dG_dX0_put_32.2.2.2.2.2.2.2.2.1
theorem dX2_clear_6 : decode cX2_clear 6 = .ok (.iconst 0, 1) := dG_dX0_put_32.2.2.2.2.2.2.2.2.2.1
theorem dX2_clear_7 : decode cX2_clear 7 = .ok (.putfield 22, 3) := dG_dX0_put_32.2.2.2.2.2.2.2.2.2.2.1
theorem dX2_clear_10 : decode cX2_clear 10 = .ok (.return_, 1) := dG_dX0_put_32.2.2.2.2.2.2.2.2.2.2.2
theorem dG_dX2_enter_0 : (decode cX2_enter 0 = .ok (.aload_n 0, 1)) ∧ (decode cX2_enter 1 = .ok (.getfield 9, 3)) ∧ (decode cX2_enter 4 = .ok (.aload_n 0, 1)) ∧ (decode cX2_enter 5 = .ok (.getfield 18, 3)) ∧ (decode cX2_enter 8 = .ok (.iconst 0, 1)) ∧ (decode cX2_enter 9 = .ok (.iastore, 1)) ∧ (decode cX2_enter 10 = .ok (.aload_n 0, 1)) ∧ (decode cX2_enter 11 = .ok (.dup, 1)) ∧ (decode cX2_enter 12 = .ok (.getfield 18, 3)) ∧ (decode cX2_enter 15 = .ok (.iconst 1, 1)) ∧ (decode cX2_enter 16 = .ok (.iadd, 1)) ∧ (decode cX2_enter 17 = .ok (.putfield 18, 3)) := by decide +kernel
theorem dX2_enter_0 : decode cX2_enter 0 = .ok (.aload_n 0, 1) := dG_dX2_enter_0.1
theorem dX2_enter_1 : decode cX2_enter 1 = .ok (.getfield 9, 3) := dG_dX2_enter_0.2.1
theorem dX2_enter_4 : decode cX2_enter 4 = .ok (.aload_n 0, 1) := dG_dX2_enter_0.2.2.1
theorem dX2_enter_5 : decode cX2_enter 5 = .ok (.getfield 18, 3) := dG_dX2_enter_0.2.2.2.1
theorem dX2_enter_8 : decode cX2_enter 8 = .ok (.iconst 0, 1) := dG_dX2_enter_0.2.2.2.2.1
theorem dX2_enter_9 : decode cX2_enter 9 = .ok (.iastore, 1) := dG_dX2_enter_0.2.2.2.2.2.1
theorem dX2_enter_10 : decode cX2_enter 10 = .ok (.aload_n 0, 1) := dG_dX2_enter_0.2.2.2.2.2.2.1
theorem dX2_enter_11 : decode cX2_enter 11 = .ok (.dup, 1) := dG_dX2_enter_0.2.2.2.2.2.2.2.1
theorem dX2_enter_12 : decode cX2_enter 12 = .ok (.getfield 18, 3) := dG_dX2_enter_0.2.2.2.2.2.2.2.2.1
theorem dX2_enter_15 : decode cX2_enter 15 = .ok (.iconst 1, 1) := dG_dX2_enter_0.2.2.2.2.2.2.2.2.2.1
theorem dX2_enter_16 : decode cX2_enter 16 = .ok (.iadd, 1) := dG_dX2_enter_0.2.2.2.2.2.2.2.2.2.2.1
theorem dX2_enter_17 : decode cX2_enter 17 = .ok (.putfield 18, 3) := dG_dX2_enter_0.2.2.2.2.2.2.2.2.2.2.2
theorem dG_dX2_enter_20 : (decode cX2_enter 20 = .ok (.aload_n 0, 1)) ∧ (decode cX2_enter 21 = .ok (.getfield 18, 3)) ∧ (decode cX2_enter 24 = .ok (.iconst 1, 1)) ∧ (decode cX2_enter 25 = .ok (.isub, 1)) ∧ (decode cX2_enter 26 = .ok (.ireturn, 1)) ∧ (decode cX2_knows 0 = .ok (.iload_n 1, 1)) ∧ (decode cX2_knows 1 = .ok (.ifCond .lt 15, 3)) ∧ (decode cX2_knows 4 = .ok (.iload_n 1, 1)) ∧ (decode cX2_knows 5 = .ok (.aload_n 0, 1)) ∧ (decode cX2_knows 6 = .ok (.getfield 18, 3)) ∧ (decode cX2_knows 9 = .ok (.if_icmp .ge 7, 3)) ∧ (decode cX2_knows 12 = .ok (.iconst 1, 1)) := by decide +kernel
theorem dX2_enter_20 : decode cX2_enter 20 = .ok (.aload_n 0, 1) := dG_dX2_enter_20.1
theorem dX2_enter_21 : decode cX2_enter 21 = .ok (.getfield 18, 3) := dG_dX2_enter_20.2.1
theorem dX2_enter_24 : decode cX2_enter 24 = .ok (.iconst 1, 1) := dG_dX2_enter_20.2.2.1
theorem dX2_enter_25 : decode cX2_enter 25 = .ok (.isub, 1) := dG_dX2_enter_20.2.2.2.1
theorem dX2_enter_26 : decode cX2_enter 26 = .ok (.ireturn, 1) := dG_dX2_enter_20.2.2.2.2.1
theorem dX2_knows_0 : decode cX2_knows 0 = .ok (.iload_n 1, 1) := dG_dX2_enter_20.2.2.2.2.2.1
theorem dX2_knows_1 : decode cX2_knows 1 = .ok (.ifCond .lt 15, 3) := dG_dX2_enter_20.2.2.2.2.2.2.1
theorem dX2_knows_4 : decode cX2_knows 4 = .ok (.iload_n 1, 1) := dG_dX2_enter_20.2.2.2.2.2.2.2.1
theorem dX2_knows_5 : decode cX2_knows 5 = .ok (.aload_n 0, 1) := dG_dX2_enter_20.2.2.2.2.2.2.2.2.1
theorem dX2_knows_6 : decode cX2_knows 6 = .ok (.getfield 18, 3) := dG_dX2_enter_20.2.2.2.2.2.2.2.2.2.1
theorem dX2_knows_9 : decode cX2_knows 9 = .ok (.if_icmp .ge 7, 3) := dG_dX2_enter_20.2.2.2.2.2.2.2.2.2.2.1
theorem dX2_knows_12 : decode cX2_knows 12 = .ok (.iconst 1, 1) := dG_dX2_enter_20.2.2.2.2.2.2.2.2.2.2.2
theorem dG_dX2_knows_13 : (decode cX2_knows 13 = .ok (.goto 4, 3)) ∧ (decode cX2_knows 16 = .ok (.iconst 0, 1)) ∧ (decode cX2_knows 17 = .ok (.ireturn, 1)) ∧ (decode cX2_isIn 0 = .ok (.aload_n 0, 1)) ∧ (decode cX2_isIn 1 = .ok (.iload_n 2, 1)) ∧ (decode cX2_isIn 2 = .ok (.invokevirtual 25, 3)) ∧ (decode cX2_isIn 5 = .ok (.ifCond .eq 17, 3)) ∧ (decode cX2_isIn 8 = .ok (.aload_n 0, 1)) ∧ (decode cX2_isIn 9 = .ok (.getfield 9, 3)) ∧ (decode cX2_isIn 12 = .ok (.iload_n 2, 1)) ∧ (decode cX2_isIn 13 = .ok (.iaload, 1)) ∧ (decode cX2_isIn 14 = .ok (.iload_n 1, 1)) := by decide +kernel
theorem dX2_knows_13 : decode cX2_knows 13 = .ok (.goto 4, 3) := dG_dX2_knows_13.1
theorem dX2_knows_16 : decode cX2_knows 16 = .ok (.iconst 0, 1) := dG_dX2_knows_13.2.1
theorem dX2_knows_17 : decode cX2_knows 17 = .ok (.ireturn, 1) := dG_dX2_knows_13.2.2.1
theorem dX2_isIn_0 : decode cX2_isIn 0 = .ok (.aload_n 0, 1) := dG_dX2_knows_13.2.2.2.1
theorem dX2_isIn_1 : decode cX2_isIn 1 = .ok (.iload_n 2, 1) := dG_dX2_knows_13.2.2.2.2.1
theorem dX2_isIn_2 : decode cX2_isIn 2 = .ok (.invokevirtual 25, 3) := dG_dX2_knows_13.2.2.2.2.2.1
theorem dX2_isIn_5 : decode cX2_isIn 5 = .ok (.ifCond .eq 17, 3) := dG_dX2_knows_13.2.2.2.2.2.2.1
theorem dX2_isIn_8 : decode cX2_isIn 8 = .ok (.aload_n 0, 1) := dG_dX2_knows_13.2.2.2.2.2.2.2.1
theorem dX2_isIn_9 : decode cX2_isIn 9 = .ok (.getfield 9, 3) := dG_dX2_knows_13.2.2.2.2.2.2.2.2.1
theorem dX2_isIn_12 : decode cX2_isIn 12 = .ok (.iload_n 2, 1) := dG_dX2_knows_13.2.2.2.2.2.2.2.2.2.1
theorem dX2_isIn_13 : decode cX2_isIn 13 = .ok (.iaload, 1) := dG_dX2_knows_13.2.2.2.2.2.2.2.2.2.2.1
theorem dX2_isIn_14 : decode cX2_isIn 14 = .ok (.iload_n 1, 1) := dG_dX2_knows_13.2.2.2.2.2.2.2.2.2.2.2
theorem dG_dX2_isIn_15 : (decode cX2_isIn 15 = .ok (.if_icmp .lt 7, 3)) ∧ (decode cX2_isIn 18 = .ok (.iconst 1, 1)) ∧ (decode cX2_isIn 19 = .ok (.goto 4, 3)) ∧ (decode cX2_isIn 22 = .ok (.iconst 0, 1)) ∧ (decode cX2_isIn 23 = .ok (.ireturn, 1)) ∧ (decode cX2_manyIn 0 = .ok (.iconst 0, 1)) ∧ (decode cX2_manyIn 1 = .ok (.istore_n 2, 1)) ∧ (decode cX2_manyIn 2 = .ok (.iconst 0, 1)) ∧ (decode cX2_manyIn 3 = .ok (.istore_n 3, 1)) ∧ (decode cX2_manyIn 4 = .ok (.iload_n 3, 1)) ∧ (decode cX2_manyIn 5 = .ok (.aload_n 0, 1)) ∧ (decode cX2_manyIn 6 = .ok (.getfield 18, 3)) := by decide +kernel
theorem dX2_isIn_15 : decode cX2_isIn 15 = .ok (.if_icmp .lt 7, 3) := dG_dX2_isIn_15.1
theorem dX2_isIn_18 : decode cX2_isIn 18 = .ok (.iconst 1, 1) := dG_dX2_isIn_15.2.1
theorem dX2_isIn_19 : decode cX2_isIn 19 = .ok (.goto 4, 3) := dG_dX2_isIn_15.2.2.1
theorem dX2_isIn_22 : decode cX2_isIn 22 = .ok (.iconst 0, 1) := dG_dX2_isIn_15.2.2.2.1
theorem dX2_isIn_23 : decode cX2_isIn 23 = .ok (.ireturn, 1) := dG_dX2_isIn_15.2.2.2.2.1
theorem dX2_manyIn_0 : decode cX2_manyIn 0 = .ok (.iconst 0, 1) := dG_dX2_isIn_15.2.2.2.2.2.1
theorem dX2_manyIn_1 : decode cX2_manyIn 1 = .ok (.istore_n 2, 1) := dG_dX2_isIn_15.2.2.2.2.2.2.1
theorem dX2_manyIn_2 : decode cX2_manyIn 2 = .ok (.iconst 0, 1) := dG_dX2_isIn_15.2.2.2.2.2.2.2.1
theorem dX2_manyIn_3 : decode cX2_manyIn 3 = .ok (.istore_n 3, 1) := dG_dX2_isIn_15.2.2.2.2.2.2.2.2.1
theorem dX2_manyIn_4 : decode cX2_manyIn 4 = .ok (.iload_n 3, 1) := dG_dX2_isIn_15.2.2.2.2.2.2.2.2.2.1
theorem dX2_manyIn_5 : decode cX2_manyIn 5 = .ok (.aload_n 0, 1) := dG_dX2_isIn_15.2.2.2.2.2.2.2.2.2.2.1
theorem dX2_manyIn_6 : decode cX2_manyIn 6 = .ok (.getfield 18, 3) := dG_dX2_isIn_15.2.2.2.2.2.2.2.2.2.2.2
theorem dG_dX2_manyIn_9 : (decode cX2_manyIn 9 = .ok (.if_icmp .ge 22, 3)) ∧ (decode cX2_manyIn 12 = .ok (.aload_n 0, 1)) ∧ (decode cX2_manyIn 13 = .ok (.getfield 9, 3)) ∧ (decode cX2_manyIn 16 = .ok (.iload_n 3, 1)) ∧ (decode cX2_manyIn 17 = .ok (.iaload, 1)) ∧ (decode cX2_manyIn 18 = .ok (.iload_n 1, 1)) ∧ (decode cX2_manyIn 19 = .ok (.if_icmp .lt 6, 3)) ∧ (decode cX2_manyIn 22 = .ok (.iinc 2 1, 3)) ∧ (decode cX2_manyIn 25 = .ok (.iinc 3 1, 3)) ∧ (decode cX2_manyIn 28 = .ok (.goto (-24), 3)) ∧ (decode cX2_manyIn 31 = .ok (.iload_n 2, 1)) ∧ (decode cX2_manyIn 32 = .ok (.ireturn, 1)) := by decide +kernel
theorem dX2_manyIn_9 : decode cX2_manyIn 9 = .ok (.if_icmp .ge 22, 3) := dG_dX2_manyIn_9.1
theorem dX2_manyIn_12 : decode cX2_manyIn 12 = .ok (.aload_n 0, 1) := dG_dX2_manyIn_9.2.1
theorem dX2_manyIn_13 : decode cX2_manyIn 13 = .ok (.getfield 9, 3) := dG_dX2_manyIn_9.2.2.1
theorem dX2_manyIn_16 : decode cX2_manyIn 16 = .ok (.iload_n 3, 1) := dG_dX2_manyIn_9.2.2.2.1
theorem dX2_manyIn_17 : decode cX2_manyIn 17 = .ok (.iaload, 1) := dG_dX2_manyIn_9.2.2.2.2.1
theorem dX2_manyIn_18 : decode cX2_manyIn 18 = .ok (.iload_n 1, 1) := dG_dX2_manyIn_9.2.2.2.2.2.1
theorem dX2_manyIn_19 : decode cX2_manyIn 19 = .ok (.if_icmp .lt 6, 3) := dG_dX2_manyIn_9.2.2.2.2.2.2.1
theorem dX2_manyIn_22 : decode cX2_manyIn 22 = .ok (.iinc 2 1, 3) := dG_dX2_manyIn_9.2.2.2.2.2.2.2.1
theorem dX2_manyIn_25 : decode cX2_manyIn 25 = .ok (.iinc 3 1, 3) := dG_dX2_manyIn_9.2.2.2.2.2.2.2.2.1
theorem dX2_manyIn_28 : decode cX2_manyIn 28 = .ok (.goto (-24), 3) := dG_dX2_manyIn_9.2.2.2.2.2.2.2.2.2.1
theorem dX2_manyIn_31 : decode cX2_manyIn 31 = .ok (.iload_n 2, 1) := dG_dX2_manyIn_9.2.2.2.2.2.2.2.2.2.2.1
theorem dX2_manyIn_32 : decode cX2_manyIn 32 = .ok (.ireturn, 1) := dG_dX2_manyIn_9.2.2.2.2.2.2.2.2.2.2.2
theorem dG_dX2_dayOf_0 : (decode cX2_dayOf 0 = .ok (.aload_n 0, 1)) ∧ (decode cX2_dayOf 1 = .ok (.getfield 15, 3)) ∧ (decode cX2_dayOf 4 = .ok (.iload_n 1, 1)) ∧ (decode cX2_dayOf 5 = .ok (.iaload, 1)) ∧ (decode cX2_dayOf 6 = .ok (.ireturn, 1)) ∧ (decode cX4_hasRound 0 = .ok (.iload_n 1, 1)) ∧ (decode cX4_hasRound 1 = .ok (.ifCond .lt 15, 3)) ∧ (decode cX4_hasRound 4 = .ok (.iload_n 1, 1)) ∧ (decode cX4_hasRound 5 = .ok (.aload_n 0, 1)) ∧ (decode cX4_hasRound 6 = .ok (.getfield 31, 3)) ∧ (decode cX4_hasRound 9 = .ok (.if_icmp .ge 7, 3)) ∧ (decode cX4_hasRound 12 = .ok (.iconst 1, 1)) := by decide +kernel
theorem dX2_dayOf_0 : decode cX2_dayOf 0 = .ok (.aload_n 0, 1) := dG_dX2_dayOf_0.1
theorem dX2_dayOf_1 : decode cX2_dayOf 1 = .ok (.getfield 15, 3) := dG_dX2_dayOf_0.2.1
theorem dX2_dayOf_4 : decode cX2_dayOf 4 = .ok (.iload_n 1, 1) := dG_dX2_dayOf_0.2.2.1
theorem dX2_dayOf_5 : decode cX2_dayOf 5 = .ok (.iaload, 1) := dG_dX2_dayOf_0.2.2.2.1
theorem dX2_dayOf_6 : decode cX2_dayOf 6 = .ok (.ireturn, 1) := dG_dX2_dayOf_0.2.2.2.2.1
theorem dX4_hasRound_0 : decode cX4_hasRound 0 = .ok (.iload_n 1, 1) := dG_dX2_dayOf_0.2.2.2.2.2.1
theorem dX4_hasRound_1 : decode cX4_hasRound 1 = .ok (.ifCond .lt 15, 3) := dG_dX2_dayOf_0.2.2.2.2.2.2.1
theorem dX4_hasRound_4 : decode cX4_hasRound 4 = .ok (.iload_n 1, 1) := dG_dX2_dayOf_0.2.2.2.2.2.2.2.1
theorem dX4_hasRound_5 : decode cX4_hasRound 5 = .ok (.aload_n 0, 1) := dG_dX2_dayOf_0.2.2.2.2.2.2.2.2.1
theorem dX4_hasRound_6 : decode cX4_hasRound 6 = .ok (.getfield 31, 3) := dG_dX2_dayOf_0.2.2.2.2.2.2.2.2.2.1
theorem dX4_hasRound_9 : decode cX4_hasRound 9 = .ok (.if_icmp .ge 7, 3) := dG_dX2_dayOf_0.2.2.2.2.2.2.2.2.2.2.1
theorem dX4_hasRound_12 : decode cX4_hasRound 12 = .ok (.iconst 1, 1) := dG_dX2_dayOf_0.2.2.2.2.2.2.2.2.2.2.2
theorem dG_dX4_hasRound_13 : (decode cX4_hasRound 13 = .ok (.goto 4, 3)) ∧ (decode cX4_hasRound 16 = .ok (.iconst 0, 1)) ∧ (decode cX4_hasRound 17 = .ok (.ireturn, 1)) ∧ (decode cX4_hasRoute 0 = .ok (.aload_n 0, 1)) ∧ (decode cX4_hasRoute 1 = .ok (.iload_n 1, 1)) ∧ (decode cX4_hasRoute 2 = .ok (.invokevirtual 59, 3)) ∧ (decode cX4_hasRoute 5 = .ok (.ifCond .eq 25, 3)) ∧ (decode cX4_hasRoute 8 = .ok (.iload_n 2, 1)) ∧ (decode cX4_hasRoute 9 = .ok (.ifCond .lt 21, 3)) ∧ (decode cX4_hasRoute 12 = .ok (.iload_n 2, 1)) ∧ (decode cX4_hasRoute 13 = .ok (.aload_n 0, 1)) ∧ (decode cX4_hasRoute 14 = .ok (.getfield 9, 3)) := by decide +kernel
theorem dX4_hasRound_13 : decode cX4_hasRound 13 = .ok (.goto 4, 3) := dG_dX4_hasRound_13.1
theorem dX4_hasRound_16 : decode cX4_hasRound 16 = .ok (.iconst 0, 1) := dG_dX4_hasRound_13.2.1
theorem dX4_hasRound_17 : decode cX4_hasRound 17 = .ok (.ireturn, 1) := dG_dX4_hasRound_13.2.2.1
theorem dX4_hasRoute_0 : decode cX4_hasRoute 0 = .ok (.aload_n 0, 1) := dG_dX4_hasRound_13.2.2.2.1
theorem dX4_hasRoute_1 : decode cX4_hasRoute 1 = .ok (.iload_n 1, 1) := dG_dX4_hasRound_13.2.2.2.2.1
theorem dX4_hasRoute_2 : decode cX4_hasRoute 2 = .ok (.invokevirtual 59, 3) := dG_dX4_hasRound_13.2.2.2.2.2.1
theorem dX4_hasRoute_5 : decode cX4_hasRoute 5 = .ok (.ifCond .eq 25, 3) := dG_dX4_hasRound_13.2.2.2.2.2.2.1
theorem dX4_hasRoute_8 : decode cX4_hasRoute 8 = .ok (.iload_n 2, 1) := dG_dX4_hasRound_13.2.2.2.2.2.2.2.1
theorem dX4_hasRoute_9 : decode cX4_hasRoute 9 = .ok (.ifCond .lt 21, 3) := dG_dX4_hasRound_13.2.2.2.2.2.2.2.2.1
theorem dX4_hasRoute_12 : decode cX4_hasRoute 12 = .ok (.iload_n 2, 1) := dG_dX4_hasRound_13.2.2.2.2.2.2.2.2.2.1
theorem dX4_hasRoute_13 : decode cX4_hasRoute 13 = .ok (.aload_n 0, 1) := dG_dX4_hasRound_13.2.2.2.2.2.2.2.2.2.2.1
theorem dX4_hasRoute_14 : decode cX4_hasRoute 14 = .ok (.getfield 9, 3) := dG_dX4_hasRound_13.2.2.2.2.2.2.2.2.2.2.2
theorem dG_dX4_hasRoute_17 : (decode cX4_hasRoute 17 = .ok (.iload_n 1, 1)) ∧ (decode cX4_hasRoute 18 = .ok (.iconst 4, 1)) ∧ (decode cX4_hasRoute 19 = .ok (.imul, 1)) ∧ (decode cX4_hasRoute 20 = .ok (.iconst 0, 1)) ∧ (decode cX4_hasRoute 21 = .ok (.iadd, 1)) ∧ (decode cX4_hasRoute 22 = .ok (.iaload, 1)) ∧ (decode cX4_hasRoute 23 = .ok (.if_icmp .ge 7, 3)) ∧ (decode cX4_hasRoute 26 = .ok (.iconst 1, 1)) ∧ (decode cX4_hasRoute 27 = .ok (.goto 4, 3)) ∧ (decode cX4_hasRoute 30 = .ok (.iconst 0, 1)) ∧ (decode cX4_hasRoute 31 = .ok (.ireturn, 1)) ∧ (decode cX4_shapeOf 0 = .ok (.aload_n 0, 1)) := by decide +kernel
theorem dX4_hasRoute_17 : decode cX4_hasRoute 17 = .ok (.iload_n 1, 1) := dG_dX4_hasRoute_17.1
theorem dX4_hasRoute_18 : decode cX4_hasRoute 18 = .ok (.iconst 4, 1) := dG_dX4_hasRoute_17.2.1
theorem dX4_hasRoute_19 : decode cX4_hasRoute 19 = .ok (.imul, 1) := dG_dX4_hasRoute_17.2.2.1
theorem dX4_hasRoute_20 : decode cX4_hasRoute 20 = .ok (.iconst 0, 1) := dG_dX4_hasRoute_17.2.2.2.1
theorem dX4_hasRoute_21 : decode cX4_hasRoute 21 = .ok (.iadd, 1) := dG_dX4_hasRoute_17.2.2.2.2.1
theorem dX4_hasRoute_22 : decode cX4_hasRoute 22 = .ok (.iaload, 1) := dG_dX4_hasRoute_17.2.2.2.2.2.1
theorem dX4_hasRoute_23 : decode cX4_hasRoute 23 = .ok (.if_icmp .ge 7, 3) := dG_dX4_hasRoute_17.2.2.2.2.2.2.1
theorem dX4_hasRoute_26 : decode cX4_hasRoute 26 = .ok (.iconst 1, 1) := dG_dX4_hasRoute_17.2.2.2.2.2.2.2.1
theorem dX4_hasRoute_27 : decode cX4_hasRoute 27 = .ok (.goto 4, 3) := dG_dX4_hasRoute_17.2.2.2.2.2.2.2.2.1
theorem dX4_hasRoute_30 : decode cX4_hasRoute 30 = .ok (.iconst 0, 1) := dG_dX4_hasRoute_17.2.2.2.2.2.2.2.2.2.1
theorem dX4_hasRoute_31 : decode cX4_hasRoute 31 = .ok (.ireturn, 1) := dG_dX4_hasRoute_17.2.2.2.2.2.2.2.2.2.2.1
theorem dX4_shapeOf_0 : decode cX4_shapeOf 0 = .ok (.aload_n 0, 1) := dG_dX4_hasRoute_17.2.2.2.2.2.2.2.2.2.2.2
theorem dG_dX4_shapeOf_1 : (decode cX4_shapeOf 1 = .ok (.iload_n 1, 1)) ∧ (decode cX4_shapeOf 2 = .ok (.invokevirtual 59, 3)) ∧ (decode cX4_shapeOf 5 = .ok (.ifCond .eq 25, 3)) ∧ (decode cX4_shapeOf 8 = .ok (.iload_n 2, 1)) ∧ (decode cX4_shapeOf 9 = .ok (.ifCond .lt 21, 3)) ∧ (decode cX4_shapeOf 12 = .ok (.iload_n 2, 1)) ∧ (decode cX4_shapeOf 13 = .ok (.iconst 4, 1)) ∧ (decode cX4_shapeOf 14 = .ok (.if_icmp .ge 16, 3)) ∧ (decode cX4_shapeOf 17 = .ok (.aload_n 0, 1)) ∧ (decode cX4_shapeOf 18 = .ok (.getfield 9, 3)) ∧ (decode cX4_shapeOf 21 = .ok (.iload_n 1, 1)) ∧ (decode cX4_shapeOf 22 = .ok (.iconst 4, 1)) := by decide +kernel
theorem dX4_shapeOf_1 : decode cX4_shapeOf 1 = .ok (.iload_n 1, 1) := dG_dX4_shapeOf_1.1
theorem dX4_shapeOf_2 : decode cX4_shapeOf 2 = .ok (.invokevirtual 59, 3) := dG_dX4_shapeOf_1.2.1
theorem dX4_shapeOf_5 : decode cX4_shapeOf 5 = .ok (.ifCond .eq 25, 3) := dG_dX4_shapeOf_1.2.2.1
theorem dX4_shapeOf_8 : decode cX4_shapeOf 8 = .ok (.iload_n 2, 1) := dG_dX4_shapeOf_1.2.2.2.1
theorem dX4_shapeOf_9 : decode cX4_shapeOf 9 = .ok (.ifCond .lt 21, 3) := dG_dX4_shapeOf_1.2.2.2.2.1
theorem dX4_shapeOf_12 : decode cX4_shapeOf 12 = .ok (.iload_n 2, 1) := dG_dX4_shapeOf_1.2.2.2.2.2.1
theorem dX4_shapeOf_13 : decode cX4_shapeOf 13 = .ok (.iconst 4, 1) := dG_dX4_shapeOf_1.2.2.2.2.2.2.1
theorem dX4_shapeOf_14 : decode cX4_shapeOf 14 = .ok (.if_icmp .ge 16, 3) := dG_dX4_shapeOf_1.2.2.2.2.2.2.2.1
theorem dX4_shapeOf_17 : decode cX4_shapeOf 17 = .ok (.aload_n 0, 1) := dG_dX4_shapeOf_1.2.2.2.2.2.2.2.2.1
theorem dX4_shapeOf_18 : decode cX4_shapeOf 18 = .ok (.getfield 9, 3) := dG_dX4_shapeOf_1.2.2.2.2.2.2.2.2.2.1
theorem dX4_shapeOf_21 : decode cX4_shapeOf 21 = .ok (.iload_n 1, 1) := dG_dX4_shapeOf_1.2.2.2.2.2.2.2.2.2.2.1
theorem dX4_shapeOf_22 : decode cX4_shapeOf 22 = .ok (.iconst 4, 1) := dG_dX4_shapeOf_1.2.2.2.2.2.2.2.2.2.2.2
theorem dG_dX4_shapeOf_23 : (decode cX4_shapeOf 23 = .ok (.imul, 1)) ∧ (decode cX4_shapeOf 24 = .ok (.iload_n 2, 1)) ∧ (decode cX4_shapeOf 25 = .ok (.iadd, 1)) ∧ (decode cX4_shapeOf 26 = .ok (.iaload, 1)) ∧ (decode cX4_shapeOf 27 = .ok (.goto 4, 3)) ∧ (decode cX4_shapeOf 30 = .ok (.iconst 0, 1)) ∧ (decode cX4_shapeOf 31 = .ok (.ireturn, 1)) ∧ (decode cX7_clear 0 = .ok (.aload_n 0, 1)) ∧ (decode cX7_clear 1 = .ok (.iconst 0, 1)) ∧ (decode cX7_clear 2 = .ok (.putfield 36, 3)) ∧ (decode cX7_clear 5 = .ok (.aload_n 0, 1)) ∧ (decode cX7_clear 6 = .ok (.getfield 33, 3)) := by decide +kernel
theorem dX4_shapeOf_23 : decode cX4_shapeOf 23 = .ok (.imul, 1) := dG_dX4_shapeOf_23.1
theorem dX4_shapeOf_24 : decode cX4_shapeOf 24 = .ok (.iload_n 2, 1) := dG_dX4_shapeOf_23.2.1
theorem dX4_shapeOf_25 : decode cX4_shapeOf 25 = .ok (.iadd, 1) := dG_dX4_shapeOf_23.2.2.1
theorem dX4_shapeOf_26 : decode cX4_shapeOf 26 = .ok (.iaload, 1) := dG_dX4_shapeOf_23.2.2.2.1
theorem dX4_shapeOf_27 : decode cX4_shapeOf 27 = .ok (.goto 4, 3) := dG_dX4_shapeOf_23.2.2.2.2.1
theorem dX4_shapeOf_30 : decode cX4_shapeOf 30 = .ok (.iconst 0, 1) := dG_dX4_shapeOf_23.2.2.2.2.2.1
theorem dX4_shapeOf_31 : decode cX4_shapeOf 31 = .ok (.ireturn, 1) := dG_dX4_shapeOf_23.2.2.2.2.2.2.1
theorem dX7_clear_0 : decode cX7_clear 0 = .ok (.aload_n 0, 1) := dG_dX4_shapeOf_23.2.2.2.2.2.2.2.1
theorem dX7_clear_1 : decode cX7_clear 1 = .ok (.iconst 0, 1) := dG_dX4_shapeOf_23.2.2.2.2.2.2.2.2.1
theorem dX7_clear_2 : decode cX7_clear 2 = .ok (.putfield 36, 3) := dG_dX4_shapeOf_23.2.2.2.2.2.2.2.2.2.1
theorem dX7_clear_5 : decode cX7_clear 5 = .ok (.aload_n 0, 1) := dG_dX4_shapeOf_23.2.2.2.2.2.2.2.2.2.2.1
theorem dX7_clear_6 : decode cX7_clear 6 = .ok (.getfield 33, 3) := dG_dX4_shapeOf_23.2.2.2.2.2.2.2.2.2.2.2
theorem dG_dX7_clear_9 : (decode cX7_clear 9 = .ok (.iconst 0, 1)) ∧ (decode cX7_clear 10 = .ok (.invokestatic 40, 3)) ∧ (decode cX7_clear 13 = .ok (.return_, 1)) ∧ (decode cX7_knows 0 = .ok (.iload_n 1, 1)) ∧ (decode cX7_knows 1 = .ok (.ifCond .lt 15, 3)) ∧ (decode cX7_knows 4 = .ok (.iload_n 1, 1)) ∧ (decode cX7_knows 5 = .ok (.aload_n 0, 1)) ∧ (decode cX7_knows 6 = .ok (.getfield 36, 3)) ∧ (decode cX7_knows 9 = .ok (.if_icmp .ge 7, 3)) ∧ (decode cX7_knows 12 = .ok (.iconst 1, 1)) ∧ (decode cX7_knows 13 = .ok (.goto 4, 3)) ∧ (decode cX7_knows 16 = .ok (.iconst 0, 1)) := by decide +kernel
theorem dX7_clear_9 : decode cX7_clear 9 = .ok (.iconst 0, 1) := dG_dX7_clear_9.1
theorem dX7_clear_10 : decode cX7_clear 10 = .ok (.invokestatic 40, 3) := dG_dX7_clear_9.2.1
theorem dX7_clear_13 : decode cX7_clear 13 = .ok (.return_, 1) := dG_dX7_clear_9.2.2.1
theorem dX7_knows_0 : decode cX7_knows 0 = .ok (.iload_n 1, 1) := dG_dX7_clear_9.2.2.2.1
theorem dX7_knows_1 : decode cX7_knows 1 = .ok (.ifCond .lt 15, 3) := dG_dX7_clear_9.2.2.2.2.1
theorem dX7_knows_4 : decode cX7_knows 4 = .ok (.iload_n 1, 1) := dG_dX7_clear_9.2.2.2.2.2.1
theorem dX7_knows_5 : decode cX7_knows 5 = .ok (.aload_n 0, 1) := dG_dX7_clear_9.2.2.2.2.2.2.1
theorem dX7_knows_6 : decode cX7_knows 6 = .ok (.getfield 36, 3) := dG_dX7_clear_9.2.2.2.2.2.2.2.1
theorem dX7_knows_9 : decode cX7_knows 9 = .ok (.if_icmp .ge 7, 3) := dG_dX7_clear_9.2.2.2.2.2.2.2.2.1
theorem dX7_knows_12 : decode cX7_knows 12 = .ok (.iconst 1, 1) := dG_dX7_clear_9.2.2.2.2.2.2.2.2.2.1
theorem dX7_knows_13 : decode cX7_knows 13 = .ok (.goto 4, 3) := dG_dX7_clear_9.2.2.2.2.2.2.2.2.2.2.1
theorem dX7_knows_16 : decode cX7_knows 16 = .ok (.iconst 0, 1) := dG_dX7_clear_9.2.2.2.2.2.2.2.2.2.2.2
theorem dG_dX7_knows_17 : (decode cX7_knows 17 = .ok (.ireturn, 1)) ∧ (decode cX7_openOf 0 = .ok (.aload_n 0, 1)) ∧ (decode cX7_openOf 1 = .ok (.getfield 33, 3)) ∧ (decode cX7_openOf 4 = .ok (.iload_n 1, 1)) ∧ (decode cX7_openOf 5 = .ok (.iaload, 1)) ∧ (decode cX7_openOf 6 = .ok (.iconst 1, 1)) ∧ (decode cX7_openOf 7 = .ok (.isub, 1)) ∧ (decode cX7_openOf 8 = .ok (.ireturn, 1)) ∧ (decode cX7_anyOpen 0 = .ok (.iconst 0, 1)) ∧ (decode cX7_anyOpen 1 = .ok (.istore_n 1, 1)) ∧ (decode cX7_anyOpen 2 = .ok (.iload_n 1, 1)) ∧ (decode cX7_anyOpen 3 = .ok (.bipush 16, 2)) := by decide +kernel
theorem dX7_knows_17 : decode cX7_knows 17 = .ok (.ireturn, 1) := dG_dX7_knows_17.1
theorem dX7_openOf_0 : decode cX7_openOf 0 = .ok (.aload_n 0, 1) := dG_dX7_knows_17.2.1
theorem dX7_openOf_1 : decode cX7_openOf 1 = .ok (.getfield 33, 3) := dG_dX7_knows_17.2.2.1
theorem dX7_openOf_4 : decode cX7_openOf 4 = .ok (.iload_n 1, 1) := dG_dX7_knows_17.2.2.2.1
theorem dX7_openOf_5 : decode cX7_openOf 5 = .ok (.iaload, 1) := dG_dX7_knows_17.2.2.2.2.1
theorem dX7_openOf_6 : decode cX7_openOf 6 = .ok (.iconst 1, 1) := dG_dX7_knows_17.2.2.2.2.2.1
theorem dX7_openOf_7 : decode cX7_openOf 7 = .ok (.isub, 1) := dG_dX7_knows_17.2.2.2.2.2.2.1
theorem dX7_openOf_8 : decode cX7_openOf 8 = .ok (.ireturn, 1) := dG_dX7_knows_17.2.2.2.2.2.2.2.1
theorem dX7_anyOpen_0 : decode cX7_anyOpen 0 = .ok (.iconst 0, 1) := dG_dX7_knows_17.2.2.2.2.2.2.2.2.1
theorem dX7_anyOpen_1 : decode cX7_anyOpen 1 = .ok (.istore_n 1, 1) := dG_dX7_knows_17.2.2.2.2.2.2.2.2.2.1
theorem dX7_anyOpen_2 : decode cX7_anyOpen 2 = .ok (.iload_n 1, 1) := dG_dX7_knows_17.2.2.2.2.2.2.2.2.2.2.1
theorem dX7_anyOpen_3 : decode cX7_anyOpen 3 = .ok (.bipush 16, 2) := dG_dX7_knows_17.2.2.2.2.2.2.2.2.2.2.2
theorem dG_dX7_anyOpen_5 : (decode cX7_anyOpen 5 = .ok (.if_icmp .ge 20, 3)) ∧ (decode cX7_anyOpen 8 = .ok (.aload_n 0, 1)) ∧ (decode cX7_anyOpen 9 = .ok (.getfield 33, 3)) ∧ (decode cX7_anyOpen 12 = .ok (.iload_n 1, 1)) ∧ (decode cX7_anyOpen 13 = .ok (.iaload, 1)) ∧ (decode cX7_anyOpen 14 = .ok (.ifCond .le 5, 3)) ∧ (decode cX7_anyOpen 17 = .ok (.iconst 1, 1)) ∧ (decode cX7_anyOpen 18 = .ok (.ireturn, 1)) ∧ (decode cX7_anyOpen 19 = .ok (.iinc 1 1, 3)) ∧ (decode cX7_anyOpen 22 = .ok (.goto (-20), 3)) ∧ (decode cX7_anyOpen 25 = .ok (.iconst 0, 1)) ∧ (decode cX7_anyOpen 26 = .ok (.ireturn, 1)) := by decide +kernel
theorem dX7_anyOpen_5 : decode cX7_anyOpen 5 = .ok (.if_icmp .ge 20, 3) := dG_dX7_anyOpen_5.1
theorem dX7_anyOpen_8 : decode cX7_anyOpen 8 = .ok (.aload_n 0, 1) := dG_dX7_anyOpen_5.2.1
theorem dX7_anyOpen_9 : decode cX7_anyOpen 9 = .ok (.getfield 33, 3) := dG_dX7_anyOpen_5.2.2.1
theorem dX7_anyOpen_12 : decode cX7_anyOpen 12 = .ok (.iload_n 1, 1) := dG_dX7_anyOpen_5.2.2.2.1
theorem dX7_anyOpen_13 : decode cX7_anyOpen 13 = .ok (.iaload, 1) := dG_dX7_anyOpen_5.2.2.2.2.1
theorem dX7_anyOpen_14 : decode cX7_anyOpen 14 = .ok (.ifCond .le 5, 3) := dG_dX7_anyOpen_5.2.2.2.2.2.1
theorem dX7_anyOpen_17 : decode cX7_anyOpen 17 = .ok (.iconst 1, 1) := dG_dX7_anyOpen_5.2.2.2.2.2.2.1
theorem dX7_anyOpen_18 : decode cX7_anyOpen 18 = .ok (.ireturn, 1) := dG_dX7_anyOpen_5.2.2.2.2.2.2.2.1
theorem dX7_anyOpen_19 : decode cX7_anyOpen 19 = .ok (.iinc 1 1, 3) := dG_dX7_anyOpen_5.2.2.2.2.2.2.2.2.1
theorem dX7_anyOpen_22 : decode cX7_anyOpen 22 = .ok (.goto (-20), 3) := dG_dX7_anyOpen_5.2.2.2.2.2.2.2.2.2.1
theorem dX7_anyOpen_25 : decode cX7_anyOpen 25 = .ok (.iconst 0, 1) := dG_dX7_anyOpen_5.2.2.2.2.2.2.2.2.2.2.1
theorem dX7_anyOpen_26 : decode cX7_anyOpen 26 = .ok (.ireturn, 1) := dG_dX7_anyOpen_5.2.2.2.2.2.2.2.2.2.2.2
theorem dG_dX7_start_0 : (decode cX7_start 0 = .ok (.aload_n 0, 1)) ∧ (decode cX7_start 1 = .ok (.getfield 36, 3)) ∧ (decode cX7_start 4 = .ok (.istore 5, 2)) ∧ (decode cX7_start 6 = .ok (.aload_n 0, 1)) ∧ (decode cX7_start 7 = .ok (.getfield 9, 3)) ∧ (decode cX7_start 10 = .ok (.iload 5, 2)) ∧ (decode cX7_start 12 = .ok (.iload_n 1, 1)) ∧ (decode cX7_start 13 = .ok (.iastore, 1)) ∧ (decode cX7_start 14 = .ok (.aload_n 0, 1)) ∧ (decode cX7_start 15 = .ok (.getfield 15, 3)) ∧ (decode cX7_start 18 = .ok (.iload 5, 2)) ∧ (decode cX7_start 20 = .ok (.iload_n 2, 1)) := by decide +kernel
theorem dX7_start_0 : decode cX7_start 0 = .ok (.aload_n 0, 1) := dG_dX7_start_0.1
theorem dX7_start_1 : decode cX7_start 1 = .ok (.getfield 36, 3) := dG_dX7_start_0.2.1
theorem dX7_start_4 : decode cX7_start 4 = .ok (.istore 5, 2) := dG_dX7_start_0.2.2.1
theorem dX7_start_6 : decode cX7_start 6 = .ok (.aload_n 0, 1) := dG_dX7_start_0.2.2.2.1
theorem dX7_start_7 : decode cX7_start 7 = .ok (.getfield 9, 3) := dG_dX7_start_0.2.2.2.2.1
theorem dX7_start_10 : decode cX7_start 10 = .ok (.iload 5, 2) := dG_dX7_start_0.2.2.2.2.2.1
theorem dX7_start_12 : decode cX7_start 12 = .ok (.iload_n 1, 1) := dG_dX7_start_0.2.2.2.2.2.2.1
theorem dX7_start_13 : decode cX7_start 13 = .ok (.iastore, 1) := dG_dX7_start_0.2.2.2.2.2.2.2.1
theorem dX7_start_14 : decode cX7_start 14 = .ok (.aload_n 0, 1) := dG_dX7_start_0.2.2.2.2.2.2.2.2.1
theorem dX7_start_15 : decode cX7_start 15 = .ok (.getfield 15, 3) := dG_dX7_start_0.2.2.2.2.2.2.2.2.2.1
theorem dX7_start_18 : decode cX7_start 18 = .ok (.iload 5, 2) := dG_dX7_start_0.2.2.2.2.2.2.2.2.2.2.1
theorem dX7_start_20 : decode cX7_start 20 = .ok (.iload_n 2, 1) := dG_dX7_start_0.2.2.2.2.2.2.2.2.2.2.2
theorem dG_dX7_start_21 : (decode cX7_start 21 = .ok (.iastore, 1)) ∧ (decode cX7_start 22 = .ok (.aload_n 0, 1)) ∧ (decode cX7_start 23 = .ok (.getfield 18, 3)) ∧ (decode cX7_start 26 = .ok (.iload 5, 2)) ∧ (decode cX7_start 28 = .ok (.iload_n 3, 1)) ∧ (decode cX7_start 29 = .ok (.iastore, 1)) ∧ (decode cX7_start 30 = .ok (.aload_n 0, 1)) ∧ (decode cX7_start 31 = .ok (.getfield 21, 3)) ∧ (decode cX7_start 34 = .ok (.iload 5, 2)) ∧ (decode cX7_start 36 = .ok (.iload 4, 2)) ∧ (decode cX7_start 38 = .ok (.iastore, 1)) ∧ (decode cX7_start 39 = .ok (.aload_n 0, 1)) := by decide +kernel
theorem dX7_start_21 : decode cX7_start 21 = .ok (.iastore, 1) := dG_dX7_start_21.1
theorem dX7_start_22 : decode cX7_start 22 = .ok (.aload_n 0, 1) := dG_dX7_start_21.2.1
theorem dX7_start_23 : decode cX7_start 23 = .ok (.getfield 18, 3) := dG_dX7_start_21.2.2.1
theorem dX7_start_26 : decode cX7_start 26 = .ok (.iload 5, 2) := dG_dX7_start_21.2.2.2.1
theorem dX7_start_28 : decode cX7_start 28 = .ok (.iload_n 3, 1) := dG_dX7_start_21.2.2.2.2.1
theorem dX7_start_29 : decode cX7_start 29 = .ok (.iastore, 1) := dG_dX7_start_21.2.2.2.2.2.1
theorem dX7_start_30 : decode cX7_start 30 = .ok (.aload_n 0, 1) := dG_dX7_start_21.2.2.2.2.2.2.1
theorem dX7_start_31 : decode cX7_start 31 = .ok (.getfield 21, 3) := dG_dX7_start_21.2.2.2.2.2.2.2.1
theorem dX7_start_34 : decode cX7_start 34 = .ok (.iload 5, 2) := dG_dX7_start_21.2.2.2.2.2.2.2.2.1
theorem dX7_start_36 : decode cX7_start 36 = .ok (.iload 4, 2) := dG_dX7_start_21.2.2.2.2.2.2.2.2.2.1
theorem dX7_start_38 : decode cX7_start 38 = .ok (.iastore, 1) := dG_dX7_start_21.2.2.2.2.2.2.2.2.2.2.1
theorem dX7_start_39 : decode cX7_start 39 = .ok (.aload_n 0, 1) := dG_dX7_start_21.2.2.2.2.2.2.2.2.2.2.2
theorem dG_dX7_start_40 : (decode cX7_start 40 = .ok (.getfield 24, 3)) ∧ (decode cX7_start 43 = .ok (.iload 5, 2)) ∧ (decode cX7_start 45 = .ok (.iconst (-1), 1)) ∧ (decode cX7_start 46 = .ok (.iastore, 1)) ∧ (decode cX7_start 47 = .ok (.aload_n 0, 1)) ∧ (decode cX7_start 48 = .ok (.getfield 27, 3)) ∧ (decode cX7_start 51 = .ok (.iload 5, 2)) ∧ (decode cX7_start 53 = .ok (.iconst 0, 1)) ∧ (decode cX7_start 54 = .ok (.iastore, 1)) ∧ (decode cX7_start 55 = .ok (.aload_n 0, 1)) ∧ (decode cX7_start 56 = .ok (.getfield 30, 3)) ∧ (decode cX7_start 59 = .ok (.iload 5, 2)) := by decide +kernel
theorem dX7_start_40 : decode cX7_start 40 = .ok (.getfield 24, 3) := dG_dX7_start_40.1
theorem dX7_start_43 : decode cX7_start 43 = .ok (.iload 5, 2) := dG_dX7_start_40.2.1
theorem dX7_start_45 : decode cX7_start 45 = .ok (.iconst (-1), 1) := dG_dX7_start_40.2.2.1
theorem dX7_start_46 : decode cX7_start 46 = .ok (.iastore, 1) := dG_dX7_start_40.2.2.2.1
theorem dX7_start_47 : decode cX7_start 47 = .ok (.aload_n 0, 1) := dG_dX7_start_40.2.2.2.2.1
theorem dX7_start_48 : decode cX7_start 48 = .ok (.getfield 27, 3) := dG_dX7_start_40.2.2.2.2.2.1
theorem dX7_start_51 : decode cX7_start 51 = .ok (.iload 5, 2) := dG_dX7_start_40.2.2.2.2.2.2.1
theorem dX7_start_53 : decode cX7_start 53 = .ok (.iconst 0, 1) := dG_dX7_start_40.2.2.2.2.2.2.2.1
theorem dX7_start_54 : decode cX7_start 54 = .ok (.iastore, 1) := dG_dX7_start_40.2.2.2.2.2.2.2.2.1
theorem dX7_start_55 : decode cX7_start 55 = .ok (.aload_n 0, 1) := dG_dX7_start_40.2.2.2.2.2.2.2.2.2.1
theorem dX7_start_56 : decode cX7_start 56 = .ok (.getfield 30, 3) := dG_dX7_start_40.2.2.2.2.2.2.2.2.2.2.1
theorem dX7_start_59 : decode cX7_start 59 = .ok (.iload 5, 2) := dG_dX7_start_40.2.2.2.2.2.2.2.2.2.2.2
theorem dG_dX7_start_61 : (decode cX7_start 61 = .ok (.iconst 0, 1)) ∧ (decode cX7_start 62 = .ok (.iastore, 1)) ∧ (decode cX7_start 63 = .ok (.aload_n 0, 1)) ∧ (decode cX7_start 64 = .ok (.getfield 33, 3)) ∧ (decode cX7_start 67 = .ok (.iload_n 1, 1)) ∧ (decode cX7_start 68 = .ok (.iload 5, 2)) ∧ (decode cX7_start 70 = .ok (.iconst 1, 1)) ∧ (decode cX7_start 71 = .ok (.iadd, 1)) ∧ (decode cX7_start 72 = .ok (.iastore, 1)) ∧ (decode cX7_start 73 = .ok (.aload_n 0, 1)) ∧ (decode cX7_start 74 = .ok (.dup, 1)) ∧ (decode cX7_start 75 = .ok (.getfield 36, 3)) := by decide +kernel
theorem dX7_start_61 : decode cX7_start 61 = .ok (.iconst 0, 1) := dG_dX7_start_61.1
theorem dX7_start_62 : decode cX7_start 62 = .ok (.iastore, 1) := dG_dX7_start_61.2.1
theorem dX7_start_63 : decode cX7_start 63 = .ok (.aload_n 0, 1) := dG_dX7_start_61.2.2.1
theorem dX7_start_64 : decode cX7_start 64 = .ok (.getfield 33, 3) := dG_dX7_start_61.2.2.2.1
theorem dX7_start_67 : decode cX7_start 67 = .ok (.iload_n 1, 1) := dG_dX7_start_61.2.2.2.2.1
theorem dX7_start_68 : decode cX7_start 68 = .ok (.iload 5, 2) := dG_dX7_start_61.2.2.2.2.2.1
theorem dX7_start_70 : decode cX7_start 70 = .ok (.iconst 1, 1) := dG_dX7_start_61.2.2.2.2.2.2.1
theorem dX7_start_71 : decode cX7_start 71 = .ok (.iadd, 1) := dG_dX7_start_61.2.2.2.2.2.2.2.1
theorem dX7_start_72 : decode cX7_start 72 = .ok (.iastore, 1) := dG_dX7_start_61.2.2.2.2.2.2.2.2.1
theorem dX7_start_73 : decode cX7_start 73 = .ok (.aload_n 0, 1) := dG_dX7_start_61.2.2.2.2.2.2.2.2.2.1
theorem dX7_start_74 : decode cX7_start 74 = .ok (.dup, 1) := dG_dX7_start_61.2.2.2.2.2.2.2.2.2.2.1
theorem dX7_start_75 : decode cX7_start 75 = .ok (.getfield 36, 3) := dG_dX7_start_61.2.2.2.2.2.2.2.2.2.2.2
theorem dG_dX7_start_78 : (decode cX7_start 78 = .ok (.iconst 1, 1)) ∧ (decode cX7_start 79 = .ok (.iadd, 1)) ∧ (decode cX7_start 80 = .ok (.putfield 36, 3)) ∧ (decode cX7_start 83 = .ok (.iload 5, 2)) ∧ (decode cX7_start 85 = .ok (.ireturn, 1)) ∧ (decode cX7_finish 0 = .ok (.aload_n 0, 1)) ∧ (decode cX7_finish 1 = .ok (.getfield 24, 3)) ∧ (decode cX7_finish 4 = .ok (.iload_n 1, 1)) ∧ (decode cX7_finish 5 = .ok (.iload_n 2, 1)) ∧ (decode cX7_finish 6 = .ok (.iastore, 1)) ∧ (decode cX7_finish 7 = .ok (.aload_n 0, 1)) ∧ (decode cX7_finish 8 = .ok (.getfield 30, 3)) := by decide +kernel
theorem dX7_start_78 : decode cX7_start 78 = .ok (.iconst 1, 1) := dG_dX7_start_78.1
theorem dX7_start_79 : decode cX7_start 79 = .ok (.iadd, 1) := dG_dX7_start_78.2.1
theorem dX7_start_80 : decode cX7_start 80 = .ok (.putfield 36, 3) := dG_dX7_start_78.2.2.1
theorem dX7_start_83 : decode cX7_start 83 = .ok (.iload 5, 2) := dG_dX7_start_78.2.2.2.1
theorem dX7_start_85 : decode cX7_start 85 = .ok (.ireturn, 1) := dG_dX7_start_78.2.2.2.2.1
theorem dX7_finish_0 : decode cX7_finish 0 = .ok (.aload_n 0, 1) := dG_dX7_start_78.2.2.2.2.2.1
theorem dX7_finish_1 : decode cX7_finish 1 = .ok (.getfield 24, 3) := dG_dX7_start_78.2.2.2.2.2.2.1
theorem dX7_finish_4 : decode cX7_finish 4 = .ok (.iload_n 1, 1) := dG_dX7_start_78.2.2.2.2.2.2.2.1
theorem dX7_finish_5 : decode cX7_finish 5 = .ok (.iload_n 2, 1) := dG_dX7_start_78.2.2.2.2.2.2.2.2.1
theorem dX7_finish_6 : decode cX7_finish 6 = .ok (.iastore, 1) := dG_dX7_start_78.2.2.2.2.2.2.2.2.2.1
theorem dX7_finish_7 : decode cX7_finish 7 = .ok (.aload_n 0, 1) := dG_dX7_start_78.2.2.2.2.2.2.2.2.2.2.1
theorem dX7_finish_8 : decode cX7_finish 8 = .ok (.getfield 30, 3) := dG_dX7_start_78.2.2.2.2.2.2.2.2.2.2.2
theorem dG_dX7_finish_11 : (decode cX7_finish 11 = .ok (.iload_n 1, 1)) ∧ (decode cX7_finish 12 = .ok (.iload_n 3, 1)) ∧ (decode cX7_finish 13 = .ok (.iastore, 1)) ∧ (decode cX7_finish 14 = .ok (.aload_n 0, 1)) ∧ (decode cX7_finish 15 = .ok (.getfield 33, 3)) ∧ (decode cX7_finish 18 = .ok (.aload_n 0, 1)) ∧ (decode cX7_finish 19 = .ok (.getfield 9, 3)) ∧ (decode cX7_finish 22 = .ok (.iload_n 1, 1)) ∧ (decode cX7_finish 23 = .ok (.iaload, 1)) ∧ (decode cX7_finish 24 = .ok (.iconst 0, 1)) ∧ (decode cX7_finish 25 = .ok (.iastore, 1)) ∧ (decode cX7_finish 26 = .ok (.return_, 1)) := by decide +kernel
theorem dX7_finish_11 : decode cX7_finish 11 = .ok (.iload_n 1, 1) := dG_dX7_finish_11.1
theorem dX7_finish_12 : decode cX7_finish 12 = .ok (.iload_n 3, 1) := dG_dX7_finish_11.2.1
theorem dX7_finish_13 : decode cX7_finish 13 = .ok (.iastore, 1) := dG_dX7_finish_11.2.2.1
theorem dX7_finish_14 : decode cX7_finish 14 = .ok (.aload_n 0, 1) := dG_dX7_finish_11.2.2.2.1
theorem dX7_finish_15 : decode cX7_finish 15 = .ok (.getfield 33, 3) := dG_dX7_finish_11.2.2.2.2.1
theorem dX7_finish_18 : decode cX7_finish 18 = .ok (.aload_n 0, 1) := dG_dX7_finish_11.2.2.2.2.2.1
theorem dX7_finish_19 : decode cX7_finish 19 = .ok (.getfield 9, 3) := dG_dX7_finish_11.2.2.2.2.2.2.1
theorem dX7_finish_22 : decode cX7_finish 22 = .ok (.iload_n 1, 1) := dG_dX7_finish_11.2.2.2.2.2.2.2.1
theorem dX7_finish_23 : decode cX7_finish 23 = .ok (.iaload, 1) := dG_dX7_finish_11.2.2.2.2.2.2.2.2.1
theorem dX7_finish_24 : decode cX7_finish 24 = .ok (.iconst 0, 1) := dG_dX7_finish_11.2.2.2.2.2.2.2.2.2.1
theorem dX7_finish_25 : decode cX7_finish 25 = .ok (.iastore, 1) := dG_dX7_finish_11.2.2.2.2.2.2.2.2.2.2.1
theorem dX7_finish_26 : decode cX7_finish 26 = .ok (.return_, 1) := dG_dX7_finish_11.2.2.2.2.2.2.2.2.2.2.2
theorem dG_dX7_endOverdue_0 : (decode cX7_endOverdue 0 = .ok (.iconst 0, 1)) ∧ (decode cX7_endOverdue 1 = .ok (.istore_n 3, 1)) ∧ (decode cX7_endOverdue 2 = .ok (.iload_n 3, 1)) ∧ (decode cX7_endOverdue 3 = .ok (.bipush 16, 2)) ∧ (decode cX7_endOverdue 5 = .ok (.if_icmp .ge 51, 3)) ∧ (decode cX7_endOverdue 8 = .ok (.aload_n 0, 1)) ∧ (decode cX7_endOverdue 9 = .ok (.iload_n 3, 1)) ∧ (decode cX7_endOverdue 10 = .ok (.invokevirtual 46, 3)) ∧ (decode cX7_endOverdue 13 = .ok (.istore 4, 2)) ∧ (decode cX7_endOverdue 15 = .ok (.iload 4, 2)) ∧ (decode cX7_endOverdue 17 = .ok (.iconst (-1), 1)) ∧ (decode cX7_endOverdue 18 = .ok (.if_icmp .eq 32, 3)) := by decide +kernel
theorem dX7_endOverdue_0 : decode cX7_endOverdue 0 = .ok (.iconst 0, 1) := dG_dX7_endOverdue_0.1
theorem dX7_endOverdue_1 : decode cX7_endOverdue 1 = .ok (.istore_n 3, 1) := dG_dX7_endOverdue_0.2.1
theorem dX7_endOverdue_2 : decode cX7_endOverdue 2 = .ok (.iload_n 3, 1) := dG_dX7_endOverdue_0.2.2.1
theorem dX7_endOverdue_3 : decode cX7_endOverdue 3 = .ok (.bipush 16, 2) := dG_dX7_endOverdue_0.2.2.2.1
theorem dX7_endOverdue_5 : decode cX7_endOverdue 5 = .ok (.if_icmp .ge 51, 3) := dG_dX7_endOverdue_0.2.2.2.2.1
theorem dX7_endOverdue_8 : decode cX7_endOverdue 8 = .ok (.aload_n 0, 1) := dG_dX7_endOverdue_0.2.2.2.2.2.1
theorem dX7_endOverdue_9 : decode cX7_endOverdue 9 = .ok (.iload_n 3, 1) := dG_dX7_endOverdue_0.2.2.2.2.2.2.1
theorem dX7_endOverdue_10 : decode cX7_endOverdue 10 = .ok (.invokevirtual 46, 3) := dG_dX7_endOverdue_0.2.2.2.2.2.2.2.1
theorem dX7_endOverdue_13 : decode cX7_endOverdue 13 = .ok (.istore 4, 2) := dG_dX7_endOverdue_0.2.2.2.2.2.2.2.2.1
theorem dX7_endOverdue_15 : decode cX7_endOverdue 15 = .ok (.iload 4, 2) := dG_dX7_endOverdue_0.2.2.2.2.2.2.2.2.2.1
theorem dX7_endOverdue_17 : decode cX7_endOverdue 17 = .ok (.iconst (-1), 1) := dG_dX7_endOverdue_0.2.2.2.2.2.2.2.2.2.2.1
theorem dX7_endOverdue_18 : decode cX7_endOverdue 18 = .ok (.if_icmp .eq 32, 3) := dG_dX7_endOverdue_0.2.2.2.2.2.2.2.2.2.2.2
theorem dG_dX7_endOverdue_21 : (decode cX7_endOverdue 21 = .ok (.iload_n 1, 1)) ∧ (decode cX7_endOverdue 22 = .ok (.aload_n 0, 1)) ∧ (decode cX7_endOverdue 23 = .ok (.getfield 21, 3)) ∧ (decode cX7_endOverdue 26 = .ok (.iload 4, 2)) ∧ (decode cX7_endOverdue 28 = .ok (.iaload, 1)) ∧ (decode cX7_endOverdue 29 = .ok (.iload_n 2, 1)) ∧ (decode cX7_endOverdue 30 = .ok (.iadd, 1)) ∧ (decode cX7_endOverdue 31 = .ok (.if_icmp .lt 19, 3)) ∧ (decode cX7_endOverdue 34 = .ok (.aload_n 0, 1)) ∧ (decode cX7_endOverdue 35 = .ok (.iload 4, 2)) ∧ (decode cX7_endOverdue 37 = .ok (.aload_n 0, 1)) ∧ (decode cX7_endOverdue 38 = .ok (.getfield 21, 3)) := by decide +kernel
theorem dX7_endOverdue_21 : decode cX7_endOverdue 21 = .ok (.iload_n 1, 1) := dG_dX7_endOverdue_21.1
theorem dX7_endOverdue_22 : decode cX7_endOverdue 22 = .ok (.aload_n 0, 1) := dG_dX7_endOverdue_21.2.1
theorem dX7_endOverdue_23 : decode cX7_endOverdue 23 = .ok (.getfield 21, 3) := dG_dX7_endOverdue_21.2.2.1
theorem dX7_endOverdue_26 : decode cX7_endOverdue 26 = .ok (.iload 4, 2) := dG_dX7_endOverdue_21.2.2.2.1
theorem dX7_endOverdue_28 : decode cX7_endOverdue 28 = .ok (.iaload, 1) := dG_dX7_endOverdue_21.2.2.2.2.1
theorem dX7_endOverdue_29 : decode cX7_endOverdue 29 = .ok (.iload_n 2, 1) := dG_dX7_endOverdue_21.2.2.2.2.2.1
theorem dX7_endOverdue_30 : decode cX7_endOverdue 30 = .ok (.iadd, 1) := dG_dX7_endOverdue_21.2.2.2.2.2.2.1
theorem dX7_endOverdue_31 : decode cX7_endOverdue 31 = .ok (.if_icmp .lt 19, 3) := dG_dX7_endOverdue_21.2.2.2.2.2.2.2.1
theorem dX7_endOverdue_34 : decode cX7_endOverdue 34 = .ok (.aload_n 0, 1) := dG_dX7_endOverdue_21.2.2.2.2.2.2.2.2.1
theorem dX7_endOverdue_35 : decode cX7_endOverdue 35 = .ok (.iload 4, 2) := dG_dX7_endOverdue_21.2.2.2.2.2.2.2.2.2.1
theorem dX7_endOverdue_37 : decode cX7_endOverdue 37 = .ok (.aload_n 0, 1) := dG_dX7_endOverdue_21.2.2.2.2.2.2.2.2.2.2.1
theorem dX7_endOverdue_38 : decode cX7_endOverdue 38 = .ok (.getfield 21, 3) := dG_dX7_endOverdue_21.2.2.2.2.2.2.2.2.2.2.2
theorem dG_dX7_endOverdue_41 : (decode cX7_endOverdue 41 = .ok (.iload 4, 2)) ∧ (decode cX7_endOverdue 43 = .ok (.iaload, 1)) ∧ (decode cX7_endOverdue 44 = .ok (.iload_n 2, 1)) ∧ (decode cX7_endOverdue 45 = .ok (.iadd, 1)) ∧ (decode cX7_endOverdue 46 = .ok (.iconst 3, 1)) ∧ (decode cX7_endOverdue 47 = .ok (.invokevirtual 50, 3)) ∧ (decode cX7_endOverdue 50 = .ok (.iinc 3 1, 3)) ∧ (decode cX7_endOverdue 53 = .ok (.goto (-51), 3)) ∧ (decode cX7_endOverdue 56 = .ok (.return_, 1)) ∧ (decode cX7_isOf 0 = .ok (.aload_n 0, 1)) ∧ (decode cX7_isOf 1 = .ok (.getfield 9, 3)) ∧ (decode cX7_isOf 4 = .ok (.iload_n 1, 1)) := by decide +kernel
theorem dX7_endOverdue_41 : decode cX7_endOverdue 41 = .ok (.iload 4, 2) := dG_dX7_endOverdue_41.1
theorem dX7_endOverdue_43 : decode cX7_endOverdue 43 = .ok (.iaload, 1) := dG_dX7_endOverdue_41.2.1
theorem dX7_endOverdue_44 : decode cX7_endOverdue 44 = .ok (.iload_n 2, 1) := dG_dX7_endOverdue_41.2.2.1
theorem dX7_endOverdue_45 : decode cX7_endOverdue 45 = .ok (.iadd, 1) := dG_dX7_endOverdue_41.2.2.2.1
theorem dX7_endOverdue_46 : decode cX7_endOverdue 46 = .ok (.iconst 3, 1) := dG_dX7_endOverdue_41.2.2.2.2.1
theorem dX7_endOverdue_47 : decode cX7_endOverdue 47 = .ok (.invokevirtual 50, 3) := dG_dX7_endOverdue_41.2.2.2.2.2.1
theorem dX7_endOverdue_50 : decode cX7_endOverdue 50 = .ok (.iinc 3 1, 3) := dG_dX7_endOverdue_41.2.2.2.2.2.2.1
theorem dX7_endOverdue_53 : decode cX7_endOverdue 53 = .ok (.goto (-51), 3) := dG_dX7_endOverdue_41.2.2.2.2.2.2.2.1
theorem dX7_endOverdue_56 : decode cX7_endOverdue 56 = .ok (.return_, 1) := dG_dX7_endOverdue_41.2.2.2.2.2.2.2.2.1
theorem dX7_isOf_0 : decode cX7_isOf 0 = .ok (.aload_n 0, 1) := dG_dX7_endOverdue_41.2.2.2.2.2.2.2.2.2.1
theorem dX7_isOf_1 : decode cX7_isOf 1 = .ok (.getfield 9, 3) := dG_dX7_endOverdue_41.2.2.2.2.2.2.2.2.2.2.1
theorem dX7_isOf_4 : decode cX7_isOf 4 = .ok (.iload_n 1, 1) := dG_dX7_endOverdue_41.2.2.2.2.2.2.2.2.2.2.2
theorem dG_dX7_isOf_5 : (decode cX7_isOf 5 = .ok (.iaload, 1)) ∧ (decode cX7_isOf 6 = .ok (.iload_n 2, 1)) ∧ (decode cX7_isOf 7 = .ok (.if_icmp .ne 28, 3)) ∧ (decode cX7_isOf 10 = .ok (.aload_n 0, 1)) ∧ (decode cX7_isOf 11 = .ok (.getfield 15, 3)) ∧ (decode cX7_isOf 14 = .ok (.iload_n 1, 1)) ∧ (decode cX7_isOf 15 = .ok (.iaload, 1)) ∧ (decode cX7_isOf 16 = .ok (.iload_n 3, 1)) ∧ (decode cX7_isOf 17 = .ok (.if_icmp .ne 18, 3)) ∧ (decode cX7_isOf 20 = .ok (.aload_n 0, 1)) ∧ (decode cX7_isOf 21 = .ok (.getfield 18, 3)) ∧ (decode cX7_isOf 24 = .ok (.iload_n 1, 1)) := by decide +kernel
theorem dX7_isOf_5 : decode cX7_isOf 5 = .ok (.iaload, 1) := dG_dX7_isOf_5.1
theorem dX7_isOf_6 : decode cX7_isOf 6 = .ok (.iload_n 2, 1) := dG_dX7_isOf_5.2.1
theorem dX7_isOf_7 : decode cX7_isOf 7 = .ok (.if_icmp .ne 28, 3) := dG_dX7_isOf_5.2.2.1
theorem dX7_isOf_10 : decode cX7_isOf 10 = .ok (.aload_n 0, 1) := dG_dX7_isOf_5.2.2.2.1
theorem dX7_isOf_11 : decode cX7_isOf 11 = .ok (.getfield 15, 3) := dG_dX7_isOf_5.2.2.2.2.1
theorem dX7_isOf_14 : decode cX7_isOf 14 = .ok (.iload_n 1, 1) := dG_dX7_isOf_5.2.2.2.2.2.1
theorem dX7_isOf_15 : decode cX7_isOf 15 = .ok (.iaload, 1) := dG_dX7_isOf_5.2.2.2.2.2.2.1
theorem dX7_isOf_16 : decode cX7_isOf 16 = .ok (.iload_n 3, 1) := dG_dX7_isOf_5.2.2.2.2.2.2.2.1
theorem dX7_isOf_17 : decode cX7_isOf 17 = .ok (.if_icmp .ne 18, 3) := dG_dX7_isOf_5.2.2.2.2.2.2.2.2.1
theorem dX7_isOf_20 : decode cX7_isOf 20 = .ok (.aload_n 0, 1) := dG_dX7_isOf_5.2.2.2.2.2.2.2.2.2.1
theorem dX7_isOf_21 : decode cX7_isOf 21 = .ok (.getfield 18, 3) := dG_dX7_isOf_5.2.2.2.2.2.2.2.2.2.2.1
theorem dX7_isOf_24 : decode cX7_isOf 24 = .ok (.iload_n 1, 1) := dG_dX7_isOf_5.2.2.2.2.2.2.2.2.2.2.2
theorem dG_dX7_isOf_25 : (decode cX7_isOf 25 = .ok (.iaload, 1)) ∧ (decode cX7_isOf 26 = .ok (.iload 4, 2)) ∧ (decode cX7_isOf 28 = .ok (.if_icmp .ne 7, 3)) ∧ (decode cX7_isOf 31 = .ok (.iconst 1, 1)) ∧ (decode cX7_isOf 32 = .ok (.goto 4, 3)) ∧ (decode cX7_isOf 35 = .ok (.iconst 0, 1)) ∧ (decode cX7_isOf 36 = .ok (.ireturn, 1)) ∧ (decode cX7_mayNotTry 0 = .ok (.iconst 0, 1)) ∧ (decode cX7_mayNotTry 1 = .ok (.istore 5, 2)) ∧ (decode cX7_mayNotTry 3 = .ok (.iconst 0, 1)) ∧ (decode cX7_mayNotTry 4 = .ok (.istore 6, 2)) ∧ (decode cX7_mayNotTry 6 = .ok (.iload 6, 2)) := by decide +kernel
theorem dX7_isOf_25 : decode cX7_isOf 25 = .ok (.iaload, 1) := dG_dX7_isOf_25.1
theorem dX7_isOf_26 : decode cX7_isOf 26 = .ok (.iload 4, 2) := dG_dX7_isOf_25.2.1
theorem dX7_isOf_28 : decode cX7_isOf 28 = .ok (.if_icmp .ne 7, 3) := dG_dX7_isOf_25.2.2.1
theorem dX7_isOf_31 : decode cX7_isOf 31 = .ok (.iconst 1, 1) := dG_dX7_isOf_25.2.2.2.1
theorem dX7_isOf_32 : decode cX7_isOf 32 = .ok (.goto 4, 3) := dG_dX7_isOf_25.2.2.2.2.1
theorem dX7_isOf_35 : decode cX7_isOf 35 = .ok (.iconst 0, 1) := dG_dX7_isOf_25.2.2.2.2.2.1
theorem dX7_isOf_36 : decode cX7_isOf 36 = .ok (.ireturn, 1) := dG_dX7_isOf_25.2.2.2.2.2.2.1
theorem dX7_mayNotTry_0 : decode cX7_mayNotTry 0 = .ok (.iconst 0, 1) := dG_dX7_isOf_25.2.2.2.2.2.2.2.1
theorem dX7_mayNotTry_1 : decode cX7_mayNotTry 1 = .ok (.istore 5, 2) := dG_dX7_isOf_25.2.2.2.2.2.2.2.2.1
theorem dX7_mayNotTry_3 : decode cX7_mayNotTry 3 = .ok (.iconst 0, 1) := dG_dX7_isOf_25.2.2.2.2.2.2.2.2.2.1
theorem dX7_mayNotTry_4 : decode cX7_mayNotTry 4 = .ok (.istore 6, 2) := dG_dX7_isOf_25.2.2.2.2.2.2.2.2.2.2.1
theorem dX7_mayNotTry_6 : decode cX7_mayNotTry 6 = .ok (.iload 6, 2) := dG_dX7_isOf_25.2.2.2.2.2.2.2.2.2.2.2
theorem dG_dX7_mayNotTry_8 : (decode cX7_mayNotTry 8 = .ok (.aload_n 0, 1)) ∧ (decode cX7_mayNotTry 9 = .ok (.getfield 36, 3)) ∧ (decode cX7_mayNotTry 12 = .ok (.if_icmp .ge 48, 3)) ∧ (decode cX7_mayNotTry 15 = .ok (.aload_n 0, 1)) ∧ (decode cX7_mayNotTry 16 = .ok (.iload 6, 2)) ∧ (decode cX7_mayNotTry 18 = .ok (.iload_n 1, 1)) ∧ (decode cX7_mayNotTry 19 = .ok (.iload_n 2, 1)) ∧ (decode cX7_mayNotTry 20 = .ok (.iload_n 3, 1)) ∧ (decode cX7_mayNotTry 21 = .ok (.invokevirtual 54, 3)) ∧ (decode cX7_mayNotTry 24 = .ok (.ifCond .eq 30, 3)) ∧ (decode cX7_mayNotTry 27 = .ok (.aload_n 0, 1)) ∧ (decode cX7_mayNotTry 28 = .ok (.getfield 30, 3)) := by decide +kernel
theorem dX7_mayNotTry_8 : decode cX7_mayNotTry 8 = .ok (.aload_n 0, 1) := dG_dX7_mayNotTry_8.1
theorem dX7_mayNotTry_9 : decode cX7_mayNotTry 9 = .ok (.getfield 36, 3) := dG_dX7_mayNotTry_8.2.1
theorem dX7_mayNotTry_12 : decode cX7_mayNotTry 12 = .ok (.if_icmp .ge 48, 3) := dG_dX7_mayNotTry_8.2.2.1
theorem dX7_mayNotTry_15 : decode cX7_mayNotTry 15 = .ok (.aload_n 0, 1) := dG_dX7_mayNotTry_8.2.2.2.1
theorem dX7_mayNotTry_16 : decode cX7_mayNotTry 16 = .ok (.iload 6, 2) := dG_dX7_mayNotTry_8.2.2.2.2.1
theorem dX7_mayNotTry_18 : decode cX7_mayNotTry 18 = .ok (.iload_n 1, 1) := dG_dX7_mayNotTry_8.2.2.2.2.2.1
theorem dX7_mayNotTry_19 : decode cX7_mayNotTry 19 = .ok (.iload_n 2, 1) := dG_dX7_mayNotTry_8.2.2.2.2.2.2.1
theorem dX7_mayNotTry_20 : decode cX7_mayNotTry 20 = .ok (.iload_n 3, 1) := dG_dX7_mayNotTry_8.2.2.2.2.2.2.2.1
theorem dX7_mayNotTry_21 : decode cX7_mayNotTry 21 = .ok (.invokevirtual 54, 3) := dG_dX7_mayNotTry_8.2.2.2.2.2.2.2.2.1
theorem dX7_mayNotTry_24 : decode cX7_mayNotTry 24 = .ok (.ifCond .eq 30, 3) := dG_dX7_mayNotTry_8.2.2.2.2.2.2.2.2.2.1
theorem dX7_mayNotTry_27 : decode cX7_mayNotTry 27 = .ok (.aload_n 0, 1) := dG_dX7_mayNotTry_8.2.2.2.2.2.2.2.2.2.2.1
theorem dX7_mayNotTry_28 : decode cX7_mayNotTry 28 = .ok (.getfield 30, 3) := dG_dX7_mayNotTry_8.2.2.2.2.2.2.2.2.2.2.2
theorem dG_dX7_mayNotTry_31 : (decode cX7_mayNotTry 31 = .ok (.iload 6, 2)) ∧ (decode cX7_mayNotTry 33 = .ok (.iaload, 1)) ∧ (decode cX7_mayNotTry 34 = .ok (.iconst 4, 1)) ∧ (decode cX7_mayNotTry 35 = .ok (.if_icmp .eq 19, 3)) ∧ (decode cX7_mayNotTry 38 = .ok (.aload_n 0, 1)) ∧ (decode cX7_mayNotTry 39 = .ok (.getfield 30, 3)) ∧ (decode cX7_mayNotTry 42 = .ok (.iload 6, 2)) ∧ (decode cX7_mayNotTry 44 = .ok (.iaload, 1)) ∧ (decode cX7_mayNotTry 45 = .ok (.iconst 1, 1)) ∧ (decode cX7_mayNotTry 46 = .ok (.if_icmp .ne 5, 3)) ∧ (decode cX7_mayNotTry 49 = .ok (.iconst 1, 1)) ∧ (decode cX7_mayNotTry 50 = .ok (.ireturn, 1)) := by decide +kernel
theorem dX7_mayNotTry_31 : decode cX7_mayNotTry 31 = .ok (.iload 6, 2) := dG_dX7_mayNotTry_31.1
theorem dX7_mayNotTry_33 : decode cX7_mayNotTry 33 = .ok (.iaload, 1) := dG_dX7_mayNotTry_31.2.1
theorem dX7_mayNotTry_34 : decode cX7_mayNotTry 34 = .ok (.iconst 4, 1) := dG_dX7_mayNotTry_31.2.2.1
theorem dX7_mayNotTry_35 : decode cX7_mayNotTry 35 = .ok (.if_icmp .eq 19, 3) := dG_dX7_mayNotTry_31.2.2.2.1
theorem dX7_mayNotTry_38 : decode cX7_mayNotTry 38 = .ok (.aload_n 0, 1) := dG_dX7_mayNotTry_31.2.2.2.2.1
theorem dX7_mayNotTry_39 : decode cX7_mayNotTry 39 = .ok (.getfield 30, 3) := dG_dX7_mayNotTry_31.2.2.2.2.2.1
theorem dX7_mayNotTry_42 : decode cX7_mayNotTry 42 = .ok (.iload 6, 2) := dG_dX7_mayNotTry_31.2.2.2.2.2.2.1
theorem dX7_mayNotTry_44 : decode cX7_mayNotTry 44 = .ok (.iaload, 1) := dG_dX7_mayNotTry_31.2.2.2.2.2.2.2.1
theorem dX7_mayNotTry_45 : decode cX7_mayNotTry 45 = .ok (.iconst 1, 1) := dG_dX7_mayNotTry_31.2.2.2.2.2.2.2.2.1
theorem dX7_mayNotTry_46 : decode cX7_mayNotTry 46 = .ok (.if_icmp .ne 5, 3) := dG_dX7_mayNotTry_31.2.2.2.2.2.2.2.2.2.1
theorem dX7_mayNotTry_49 : decode cX7_mayNotTry 49 = .ok (.iconst 1, 1) := dG_dX7_mayNotTry_31.2.2.2.2.2.2.2.2.2.2.1
theorem dX7_mayNotTry_50 : decode cX7_mayNotTry 50 = .ok (.ireturn, 1) := dG_dX7_mayNotTry_31.2.2.2.2.2.2.2.2.2.2.2
theorem dG_dX7_mayNotTry_51 : (decode cX7_mayNotTry 51 = .ok (.iinc 5 1, 3)) ∧ (decode cX7_mayNotTry 54 = .ok (.iinc 6 1, 3)) ∧ (decode cX7_mayNotTry 57 = .ok (.goto (-51), 3)) ∧ (decode cX7_mayNotTry 60 = .ok (.iload 5, 2)) ∧ (decode cX7_mayNotTry 62 = .ok (.iload 4, 2)) ∧ (decode cX7_mayNotTry 64 = .ok (.if_icmp .lt 7, 3)) ∧ (decode cX7_mayNotTry 67 = .ok (.iconst 1, 1)) ∧ (decode cX7_mayNotTry 68 = .ok (.goto 4, 3)) ∧ (decode cX7_mayNotTry 71 = .ok (.iconst 0, 1)) ∧ (decode cX7_mayNotTry 72 = .ok (.ireturn, 1)) ∧ (decode cX7_lastEnd 0 = .ok (.iconst (-1), 1)) ∧ (decode cX7_lastEnd 1 = .ok (.istore_n 3, 1)) := by decide +kernel
theorem dX7_mayNotTry_51 : decode cX7_mayNotTry 51 = .ok (.iinc 5 1, 3) := dG_dX7_mayNotTry_51.1
theorem dX7_mayNotTry_54 : decode cX7_mayNotTry 54 = .ok (.iinc 6 1, 3) := dG_dX7_mayNotTry_51.2.1
theorem dX7_mayNotTry_57 : decode cX7_mayNotTry 57 = .ok (.goto (-51), 3) := dG_dX7_mayNotTry_51.2.2.1
theorem dX7_mayNotTry_60 : decode cX7_mayNotTry 60 = .ok (.iload 5, 2) := dG_dX7_mayNotTry_51.2.2.2.1
theorem dX7_mayNotTry_62 : decode cX7_mayNotTry 62 = .ok (.iload 4, 2) := dG_dX7_mayNotTry_51.2.2.2.2.1
theorem dX7_mayNotTry_64 : decode cX7_mayNotTry 64 = .ok (.if_icmp .lt 7, 3) := dG_dX7_mayNotTry_51.2.2.2.2.2.1
theorem dX7_mayNotTry_67 : decode cX7_mayNotTry 67 = .ok (.iconst 1, 1) := dG_dX7_mayNotTry_51.2.2.2.2.2.2.1
theorem dX7_mayNotTry_68 : decode cX7_mayNotTry 68 = .ok (.goto 4, 3) := dG_dX7_mayNotTry_51.2.2.2.2.2.2.2.1
theorem dX7_mayNotTry_71 : decode cX7_mayNotTry 71 = .ok (.iconst 0, 1) := dG_dX7_mayNotTry_51.2.2.2.2.2.2.2.2.1
theorem dX7_mayNotTry_72 : decode cX7_mayNotTry 72 = .ok (.ireturn, 1) := dG_dX7_mayNotTry_51.2.2.2.2.2.2.2.2.2.1
theorem dX7_lastEnd_0 : decode cX7_lastEnd 0 = .ok (.iconst (-1), 1) := dG_dX7_mayNotTry_51.2.2.2.2.2.2.2.2.2.2.1
theorem dX7_lastEnd_1 : decode cX7_lastEnd 1 = .ok (.istore_n 3, 1) := dG_dX7_mayNotTry_51.2.2.2.2.2.2.2.2.2.2.2
theorem dG_dX7_lastEnd_2 : (decode cX7_lastEnd 2 = .ok (.iconst 0, 1)) ∧ (decode cX7_lastEnd 3 = .ok (.istore 4, 2)) ∧ (decode cX7_lastEnd 5 = .ok (.iload 4, 2)) ∧ (decode cX7_lastEnd 7 = .ok (.aload_n 0, 1)) ∧ (decode cX7_lastEnd 8 = .ok (.getfield 36, 3)) ∧ (decode cX7_lastEnd 11 = .ok (.if_icmp .ge 43, 3)) ∧ (decode cX7_lastEnd 14 = .ok (.aload_n 0, 1)) ∧ (decode cX7_lastEnd 15 = .ok (.getfield 9, 3)) ∧ (decode cX7_lastEnd 18 = .ok (.iload 4, 2)) ∧ (decode cX7_lastEnd 20 = .ok (.iaload, 1)) ∧ (decode cX7_lastEnd 21 = .ok (.iload_n 1, 1)) ∧ (decode cX7_lastEnd 22 = .ok (.if_icmp .ne 26, 3)) := by decide +kernel
theorem dX7_lastEnd_2 : decode cX7_lastEnd 2 = .ok (.iconst 0, 1) := dG_dX7_lastEnd_2.1
theorem dX7_lastEnd_3 : decode cX7_lastEnd 3 = .ok (.istore 4, 2) := dG_dX7_lastEnd_2.2.1
theorem dX7_lastEnd_5 : decode cX7_lastEnd 5 = .ok (.iload 4, 2) := dG_dX7_lastEnd_2.2.2.1
theorem dX7_lastEnd_7 : decode cX7_lastEnd 7 = .ok (.aload_n 0, 1) := dG_dX7_lastEnd_2.2.2.2.1
theorem dX7_lastEnd_8 : decode cX7_lastEnd 8 = .ok (.getfield 36, 3) := dG_dX7_lastEnd_2.2.2.2.2.1
theorem dX7_lastEnd_11 : decode cX7_lastEnd 11 = .ok (.if_icmp .ge 43, 3) := dG_dX7_lastEnd_2.2.2.2.2.2.1
theorem dX7_lastEnd_14 : decode cX7_lastEnd 14 = .ok (.aload_n 0, 1) := dG_dX7_lastEnd_2.2.2.2.2.2.2.1
theorem dX7_lastEnd_15 : decode cX7_lastEnd 15 = .ok (.getfield 9, 3) := dG_dX7_lastEnd_2.2.2.2.2.2.2.2.1
theorem dX7_lastEnd_18 : decode cX7_lastEnd 18 = .ok (.iload 4, 2) := dG_dX7_lastEnd_2.2.2.2.2.2.2.2.2.1
theorem dX7_lastEnd_20 : decode cX7_lastEnd 20 = .ok (.iaload, 1) := dG_dX7_lastEnd_2.2.2.2.2.2.2.2.2.2.1
theorem dX7_lastEnd_21 : decode cX7_lastEnd 21 = .ok (.iload_n 1, 1) := dG_dX7_lastEnd_2.2.2.2.2.2.2.2.2.2.2.1
theorem dX7_lastEnd_22 : decode cX7_lastEnd 22 = .ok (.if_icmp .ne 26, 3) := dG_dX7_lastEnd_2.2.2.2.2.2.2.2.2.2.2.2
theorem dG_dX7_lastEnd_25 : (decode cX7_lastEnd 25 = .ok (.aload_n 0, 1)) ∧ (decode cX7_lastEnd 26 = .ok (.getfield 15, 3)) ∧ (decode cX7_lastEnd 29 = .ok (.iload 4, 2)) ∧ (decode cX7_lastEnd 31 = .ok (.iaload, 1)) ∧ (decode cX7_lastEnd 32 = .ok (.iload_n 2, 1)) ∧ (decode cX7_lastEnd 33 = .ok (.if_icmp .ne 15, 3)) ∧ (decode cX7_lastEnd 36 = .ok (.iload_n 3, 1)) ∧ (decode cX7_lastEnd 37 = .ok (.aload_n 0, 1)) ∧ (decode cX7_lastEnd 38 = .ok (.getfield 24, 3)) ∧ (decode cX7_lastEnd 41 = .ok (.iload 4, 2)) ∧ (decode cX7_lastEnd 43 = .ok (.iaload, 1)) ∧ (decode cX7_lastEnd 44 = .ok (.invokestatic 58, 3)) := by decide +kernel
theorem dX7_lastEnd_25 : decode cX7_lastEnd 25 = .ok (.aload_n 0, 1) := dG_dX7_lastEnd_25.1
theorem dX7_lastEnd_26 : decode cX7_lastEnd 26 = .ok (.getfield 15, 3) := dG_dX7_lastEnd_25.2.1
theorem dX7_lastEnd_29 : decode cX7_lastEnd 29 = .ok (.iload 4, 2) := dG_dX7_lastEnd_25.2.2.1
theorem dX7_lastEnd_31 : decode cX7_lastEnd 31 = .ok (.iaload, 1) := dG_dX7_lastEnd_25.2.2.2.1
theorem dX7_lastEnd_32 : decode cX7_lastEnd 32 = .ok (.iload_n 2, 1) := dG_dX7_lastEnd_25.2.2.2.2.1
theorem dX7_lastEnd_33 : decode cX7_lastEnd 33 = .ok (.if_icmp .ne 15, 3) := dG_dX7_lastEnd_25.2.2.2.2.2.1
theorem dX7_lastEnd_36 : decode cX7_lastEnd 36 = .ok (.iload_n 3, 1) := dG_dX7_lastEnd_25.2.2.2.2.2.2.1
theorem dX7_lastEnd_37 : decode cX7_lastEnd 37 = .ok (.aload_n 0, 1) := dG_dX7_lastEnd_25.2.2.2.2.2.2.2.1
theorem dX7_lastEnd_38 : decode cX7_lastEnd 38 = .ok (.getfield 24, 3) := dG_dX7_lastEnd_25.2.2.2.2.2.2.2.2.1
theorem dX7_lastEnd_41 : decode cX7_lastEnd 41 = .ok (.iload 4, 2) := dG_dX7_lastEnd_25.2.2.2.2.2.2.2.2.2.1
theorem dX7_lastEnd_43 : decode cX7_lastEnd 43 = .ok (.iaload, 1) := dG_dX7_lastEnd_25.2.2.2.2.2.2.2.2.2.2.1
theorem dX7_lastEnd_44 : decode cX7_lastEnd 44 = .ok (.invokestatic 58, 3) := dG_dX7_lastEnd_25.2.2.2.2.2.2.2.2.2.2.2
theorem dG_dX7_lastEnd_47 : (decode cX7_lastEnd 47 = .ok (.istore_n 3, 1)) ∧ (decode cX7_lastEnd 48 = .ok (.iinc 4 1, 3)) ∧ (decode cX7_lastEnd 51 = .ok (.goto (-46), 3)) ∧ (decode cX7_lastEnd 54 = .ok (.iload_n 3, 1)) ∧ (decode cX7_lastEnd 55 = .ok (.ireturn, 1)) ∧ (decode cX8_clear 0 = .ok (.aload_n 0, 1)) ∧ (decode cX8_clear 1 = .ok (.getfield 9, 3)) ∧ (decode cX8_clear 4 = .ok (.bipush 10, 2)) ∧ (decode cX8_clear 6 = .ok (.invokestatic 21, 3)) ∧ (decode cX8_clear 9 = .ok (.aload_n 0, 1)) ∧ (decode cX8_clear 10 = .ok (.getfield 15, 3)) ∧ (decode cX8_clear 13 = .ok (.iconst 0, 1)) := by decide +kernel
theorem dX7_lastEnd_47 : decode cX7_lastEnd 47 = .ok (.istore_n 3, 1) := dG_dX7_lastEnd_47.1
theorem dX7_lastEnd_48 : decode cX7_lastEnd 48 = .ok (.iinc 4 1, 3) := dG_dX7_lastEnd_47.2.1
theorem dX7_lastEnd_51 : decode cX7_lastEnd 51 = .ok (.goto (-46), 3) := dG_dX7_lastEnd_47.2.2.1
theorem dX7_lastEnd_54 : decode cX7_lastEnd 54 = .ok (.iload_n 3, 1) := dG_dX7_lastEnd_47.2.2.2.1
theorem dX7_lastEnd_55 : decode cX7_lastEnd 55 = .ok (.ireturn, 1) := dG_dX7_lastEnd_47.2.2.2.2.1
theorem dX8_clear_0 : decode cX8_clear 0 = .ok (.aload_n 0, 1) := dG_dX7_lastEnd_47.2.2.2.2.2.1
theorem dX8_clear_1 : decode cX8_clear 1 = .ok (.getfield 9, 3) := dG_dX7_lastEnd_47.2.2.2.2.2.2.1
theorem dX8_clear_4 : decode cX8_clear 4 = .ok (.bipush 10, 2) := dG_dX7_lastEnd_47.2.2.2.2.2.2.2.1
theorem dX8_clear_6 : decode cX8_clear 6 = .ok (.invokestatic 21, 3) := dG_dX7_lastEnd_47.2.2.2.2.2.2.2.2.1
theorem dX8_clear_9 : decode cX8_clear 9 = .ok (.aload_n 0, 1) := dG_dX7_lastEnd_47.2.2.2.2.2.2.2.2.2.1
theorem dX8_clear_10 : decode cX8_clear 10 = .ok (.getfield 15, 3) := dG_dX7_lastEnd_47.2.2.2.2.2.2.2.2.2.2.1
theorem dX8_clear_13 : decode cX8_clear 13 = .ok (.iconst 0, 1) := dG_dX7_lastEnd_47.2.2.2.2.2.2.2.2.2.2.2
theorem dG_dX8_clear_14 : (decode cX8_clear 14 = .ok (.invokestatic 21, 3)) ∧ (decode cX8_clear 17 = .ok (.aload_n 0, 1)) ∧ (decode cX8_clear 18 = .ok (.getfield 18, 3)) ∧ (decode cX8_clear 21 = .ok (.iconst 0, 1)) ∧ (decode cX8_clear 22 = .ok (.invokestatic 21, 3)) ∧ (decode cX8_clear 25 = .ok (.return_, 1)) ∧ (decode cX8_holdsOf 0 = .ok (.aload_n 0, 1)) ∧ (decode cX8_holdsOf 1 = .ok (.getfield 9, 3)) ∧ (decode cX8_holdsOf 4 = .ok (.iload_n 1, 1)) ∧ (decode cX8_holdsOf 5 = .ok (.iconst 5, 1)) ∧ (decode cX8_holdsOf 6 = .ok (.imul, 1)) ∧ (decode cX8_holdsOf 7 = .ok (.iload_n 2, 1)) := by decide +kernel
theorem dX8_clear_14 : decode cX8_clear 14 = .ok (.invokestatic 21, 3) := dG_dX8_clear_14.1
theorem dX8_clear_17 : decode cX8_clear 17 = .ok (.aload_n 0, 1) := dG_dX8_clear_14.2.1
theorem dX8_clear_18 : decode cX8_clear 18 = .ok (.getfield 18, 3) := dG_dX8_clear_14.2.2.1
theorem dX8_clear_21 : decode cX8_clear 21 = .ok (.iconst 0, 1) := dG_dX8_clear_14.2.2.2.1
theorem dX8_clear_22 : decode cX8_clear 22 = .ok (.invokestatic 21, 3) := dG_dX8_clear_14.2.2.2.2.1
theorem dX8_clear_25 : decode cX8_clear 25 = .ok (.return_, 1) := dG_dX8_clear_14.2.2.2.2.2.1
theorem dX8_holdsOf_0 : decode cX8_holdsOf 0 = .ok (.aload_n 0, 1) := dG_dX8_clear_14.2.2.2.2.2.2.1
theorem dX8_holdsOf_1 : decode cX8_holdsOf 1 = .ok (.getfield 9, 3) := dG_dX8_clear_14.2.2.2.2.2.2.2.1
theorem dX8_holdsOf_4 : decode cX8_holdsOf 4 = .ok (.iload_n 1, 1) := dG_dX8_clear_14.2.2.2.2.2.2.2.2.1
theorem dX8_holdsOf_5 : decode cX8_holdsOf 5 = .ok (.iconst 5, 1) := dG_dX8_clear_14.2.2.2.2.2.2.2.2.2.1
theorem dX8_holdsOf_6 : decode cX8_holdsOf 6 = .ok (.imul, 1) := dG_dX8_clear_14.2.2.2.2.2.2.2.2.2.2.1
theorem dX8_holdsOf_7 : decode cX8_holdsOf 7 = .ok (.iload_n 2, 1) := dG_dX8_clear_14.2.2.2.2.2.2.2.2.2.2.2
theorem dG_dX8_holdsOf_8 : (decode cX8_holdsOf 8 = .ok (.iadd, 1)) ∧ (decode cX8_holdsOf 9 = .ok (.iaload, 1)) ∧ (decode cX8_holdsOf 10 = .ok (.ireturn, 1)) ∧ (decode cX8_begunOn 0 = .ok (.aload_n 0, 1)) ∧ (decode cX8_begunOn 1 = .ok (.getfield 15, 3)) ∧ (decode cX8_begunOn 4 = .ok (.iload_n 1, 1)) ∧ (decode cX8_begunOn 5 = .ok (.iconst 5, 1)) ∧ (decode cX8_begunOn 6 = .ok (.imul, 1)) ∧ (decode cX8_begunOn 7 = .ok (.iload_n 2, 1)) ∧ (decode cX8_begunOn 8 = .ok (.iadd, 1)) ∧ (decode cX8_begunOn 9 = .ok (.iaload, 1)) ∧ (decode cX8_begunOn 10 = .ok (.ireturn, 1)) := by decide +kernel
theorem dX8_holdsOf_8 : decode cX8_holdsOf 8 = .ok (.iadd, 1) := dG_dX8_holdsOf_8.1
theorem dX8_holdsOf_9 : decode cX8_holdsOf 9 = .ok (.iaload, 1) := dG_dX8_holdsOf_8.2.1
theorem dX8_holdsOf_10 : decode cX8_holdsOf 10 = .ok (.ireturn, 1) := dG_dX8_holdsOf_8.2.2.1
theorem dX8_begunOn_0 : decode cX8_begunOn 0 = .ok (.aload_n 0, 1) := dG_dX8_holdsOf_8.2.2.2.1
theorem dX8_begunOn_1 : decode cX8_begunOn 1 = .ok (.getfield 15, 3) := dG_dX8_holdsOf_8.2.2.2.2.1
theorem dX8_begunOn_4 : decode cX8_begunOn 4 = .ok (.iload_n 1, 1) := dG_dX8_holdsOf_8.2.2.2.2.2.1
theorem dX8_begunOn_5 : decode cX8_begunOn 5 = .ok (.iconst 5, 1) := dG_dX8_holdsOf_8.2.2.2.2.2.2.1
theorem dX8_begunOn_6 : decode cX8_begunOn 6 = .ok (.imul, 1) := dG_dX8_holdsOf_8.2.2.2.2.2.2.2.1
theorem dX8_begunOn_7 : decode cX8_begunOn 7 = .ok (.iload_n 2, 1) := dG_dX8_holdsOf_8.2.2.2.2.2.2.2.2.1
theorem dX8_begunOn_8 : decode cX8_begunOn 8 = .ok (.iadd, 1) := dG_dX8_holdsOf_8.2.2.2.2.2.2.2.2.2.1
theorem dX8_begunOn_9 : decode cX8_begunOn 9 = .ok (.iaload, 1) := dG_dX8_holdsOf_8.2.2.2.2.2.2.2.2.2.2.1
theorem dX8_begunOn_10 : decode cX8_begunOn 10 = .ok (.ireturn, 1) := dG_dX8_holdsOf_8.2.2.2.2.2.2.2.2.2.2.2
theorem dG_dX8_zoneOf_0 : (decode cX8_zoneOf 0 = .ok (.aload_n 0, 1)) ∧ (decode cX8_zoneOf 1 = .ok (.getfield 18, 3)) ∧ (decode cX8_zoneOf 4 = .ok (.iload_n 1, 1)) ∧ (decode cX8_zoneOf 5 = .ok (.iconst 5, 1)) ∧ (decode cX8_zoneOf 6 = .ok (.imul, 1)) ∧ (decode cX8_zoneOf 7 = .ok (.iload_n 2, 1)) ∧ (decode cX8_zoneOf 8 = .ok (.iadd, 1)) ∧ (decode cX8_zoneOf 9 = .ok (.iconst 3, 1)) ∧ (decode cX8_zoneOf 10 = .ok (.imul, 1)) ∧ (decode cX8_zoneOf 11 = .ok (.iload_n 3, 1)) ∧ (decode cX8_zoneOf 12 = .ok (.iadd, 1)) ∧ (decode cX8_zoneOf 13 = .ok (.iaload, 1)) := by decide +kernel
theorem dX8_zoneOf_0 : decode cX8_zoneOf 0 = .ok (.aload_n 0, 1) := dG_dX8_zoneOf_0.1
theorem dX8_zoneOf_1 : decode cX8_zoneOf 1 = .ok (.getfield 18, 3) := dG_dX8_zoneOf_0.2.1
theorem dX8_zoneOf_4 : decode cX8_zoneOf 4 = .ok (.iload_n 1, 1) := dG_dX8_zoneOf_0.2.2.1
theorem dX8_zoneOf_5 : decode cX8_zoneOf 5 = .ok (.iconst 5, 1) := dG_dX8_zoneOf_0.2.2.2.1
theorem dX8_zoneOf_6 : decode cX8_zoneOf 6 = .ok (.imul, 1) := dG_dX8_zoneOf_0.2.2.2.2.1
theorem dX8_zoneOf_7 : decode cX8_zoneOf 7 = .ok (.iload_n 2, 1) := dG_dX8_zoneOf_0.2.2.2.2.2.1
theorem dX8_zoneOf_8 : decode cX8_zoneOf 8 = .ok (.iadd, 1) := dG_dX8_zoneOf_0.2.2.2.2.2.2.1
theorem dX8_zoneOf_9 : decode cX8_zoneOf 9 = .ok (.iconst 3, 1) := dG_dX8_zoneOf_0.2.2.2.2.2.2.2.1
theorem dX8_zoneOf_10 : decode cX8_zoneOf 10 = .ok (.imul, 1) := dG_dX8_zoneOf_0.2.2.2.2.2.2.2.2.1
theorem dX8_zoneOf_11 : decode cX8_zoneOf 11 = .ok (.iload_n 3, 1) := dG_dX8_zoneOf_0.2.2.2.2.2.2.2.2.2.1
theorem dX8_zoneOf_12 : decode cX8_zoneOf 12 = .ok (.iadd, 1) := dG_dX8_zoneOf_0.2.2.2.2.2.2.2.2.2.2.1
theorem dX8_zoneOf_13 : decode cX8_zoneOf 13 = .ok (.iaload, 1) := dG_dX8_zoneOf_0.2.2.2.2.2.2.2.2.2.2.2
theorem dG_dX8_zoneOf_14 : (decode cX8_zoneOf 14 = .ok (.ireturn, 1)) ∧ (decode cX8_set 0 = .ok (.aload_n 0, 1)) ∧ (decode cX8_set 1 = .ok (.getfield 9, 3)) ∧ (decode cX8_set 4 = .ok (.iload_n 1, 1)) ∧ (decode cX8_set 5 = .ok (.iconst 5, 1)) ∧ (decode cX8_set 6 = .ok (.imul, 1)) ∧ (decode cX8_set 7 = .ok (.iload_n 2, 1)) ∧ (decode cX8_set 8 = .ok (.iadd, 1)) ∧ (decode cX8_set 9 = .ok (.iload_n 3, 1)) ∧ (decode cX8_set 10 = .ok (.iastore, 1)) ∧ (decode cX8_set 11 = .ok (.return_, 1)) ∧ (decode cX8_setZone 0 = .ok (.aload_n 0, 1)) := by decide +kernel
theorem dX8_zoneOf_14 : decode cX8_zoneOf 14 = .ok (.ireturn, 1) := dG_dX8_zoneOf_14.1
theorem dX8_set_0 : decode cX8_set 0 = .ok (.aload_n 0, 1) := dG_dX8_zoneOf_14.2.1
theorem dX8_set_1 : decode cX8_set 1 = .ok (.getfield 9, 3) := dG_dX8_zoneOf_14.2.2.1
theorem dX8_set_4 : decode cX8_set 4 = .ok (.iload_n 1, 1) := dG_dX8_zoneOf_14.2.2.2.1
theorem dX8_set_5 : decode cX8_set 5 = .ok (.iconst 5, 1) := dG_dX8_zoneOf_14.2.2.2.2.1
theorem dX8_set_6 : decode cX8_set 6 = .ok (.imul, 1) := dG_dX8_zoneOf_14.2.2.2.2.2.1
theorem dX8_set_7 : decode cX8_set 7 = .ok (.iload_n 2, 1) := dG_dX8_zoneOf_14.2.2.2.2.2.2.1
theorem dX8_set_8 : decode cX8_set 8 = .ok (.iadd, 1) := dG_dX8_zoneOf_14.2.2.2.2.2.2.2.1
theorem dX8_set_9 : decode cX8_set 9 = .ok (.iload_n 3, 1) := dG_dX8_zoneOf_14.2.2.2.2.2.2.2.2.1
theorem dX8_set_10 : decode cX8_set 10 = .ok (.iastore, 1) := dG_dX8_zoneOf_14.2.2.2.2.2.2.2.2.2.1
theorem dX8_set_11 : decode cX8_set 11 = .ok (.return_, 1) := dG_dX8_zoneOf_14.2.2.2.2.2.2.2.2.2.2.1
theorem dX8_setZone_0 : decode cX8_setZone 0 = .ok (.aload_n 0, 1) := dG_dX8_zoneOf_14.2.2.2.2.2.2.2.2.2.2.2
theorem dG_dX8_setZone_1 : (decode cX8_setZone 1 = .ok (.getfield 18, 3)) ∧ (decode cX8_setZone 4 = .ok (.iload_n 1, 1)) ∧ (decode cX8_setZone 5 = .ok (.iconst 5, 1)) ∧ (decode cX8_setZone 6 = .ok (.imul, 1)) ∧ (decode cX8_setZone 7 = .ok (.iload_n 2, 1)) ∧ (decode cX8_setZone 8 = .ok (.iadd, 1)) ∧ (decode cX8_setZone 9 = .ok (.iconst 3, 1)) ∧ (decode cX8_setZone 10 = .ok (.imul, 1)) ∧ (decode cX8_setZone 11 = .ok (.iload_n 3, 1)) ∧ (decode cX8_setZone 12 = .ok (.iadd, 1)) ∧ (decode cX8_setZone 13 = .ok (.iload 4, 2)) ∧ (decode cX8_setZone 15 = .ok (.iastore, 1)) := by decide +kernel
theorem dX8_setZone_1 : decode cX8_setZone 1 = .ok (.getfield 18, 3) := dG_dX8_setZone_1.1
theorem dX8_setZone_4 : decode cX8_setZone 4 = .ok (.iload_n 1, 1) := dG_dX8_setZone_1.2.1
theorem dX8_setZone_5 : decode cX8_setZone 5 = .ok (.iconst 5, 1) := dG_dX8_setZone_1.2.2.1
theorem dX8_setZone_6 : decode cX8_setZone 6 = .ok (.imul, 1) := dG_dX8_setZone_1.2.2.2.1
theorem dX8_setZone_7 : decode cX8_setZone 7 = .ok (.iload_n 2, 1) := dG_dX8_setZone_1.2.2.2.2.1
theorem dX8_setZone_8 : decode cX8_setZone 8 = .ok (.iadd, 1) := dG_dX8_setZone_1.2.2.2.2.2.1
theorem dX8_setZone_9 : decode cX8_setZone 9 = .ok (.iconst 3, 1) := dG_dX8_setZone_1.2.2.2.2.2.2.1
theorem dX8_setZone_10 : decode cX8_setZone 10 = .ok (.imul, 1) := dG_dX8_setZone_1.2.2.2.2.2.2.2.1
theorem dX8_setZone_11 : decode cX8_setZone 11 = .ok (.iload_n 3, 1) := dG_dX8_setZone_1.2.2.2.2.2.2.2.2.1
theorem dX8_setZone_12 : decode cX8_setZone 12 = .ok (.iadd, 1) := dG_dX8_setZone_1.2.2.2.2.2.2.2.2.2.1
theorem dX8_setZone_13 : decode cX8_setZone 13 = .ok (.iload 4, 2) := dG_dX8_setZone_1.2.2.2.2.2.2.2.2.2.2.1
theorem dX8_setZone_15 : decode cX8_setZone 15 = .ok (.iastore, 1) := dG_dX8_setZone_1.2.2.2.2.2.2.2.2.2.2.2
theorem dG_dX8_setZone_16 : (decode cX8_setZone 16 = .ok (.return_, 1)) ∧ (decode cX8_countBegun 0 = .ok (.aload_n 0, 1)) ∧ (decode cX8_countBegun 1 = .ok (.getfield 15, 3)) ∧ (decode cX8_countBegun 4 = .ok (.iload_n 1, 1)) ∧ (decode cX8_countBegun 5 = .ok (.iconst 5, 1)) ∧ (decode cX8_countBegun 6 = .ok (.imul, 1)) ∧ (decode cX8_countBegun 7 = .ok (.iload_n 2, 1)) ∧ (decode cX8_countBegun 8 = .ok (.iadd, 1)) ∧ (decode cX8_countBegun 9 = .ok (.dup2, 1)) ∧ (decode cX8_countBegun 10 = .ok (.iaload, 1)) ∧ (decode cX8_countBegun 11 = .ok (.iconst 1, 1)) ∧ (decode cX8_countBegun 12 = .ok (.iadd, 1)) := by decide +kernel
theorem dX8_setZone_16 : decode cX8_setZone 16 = .ok (.return_, 1) := dG_dX8_setZone_16.1
theorem dX8_countBegun_0 : decode cX8_countBegun 0 = .ok (.aload_n 0, 1) := dG_dX8_setZone_16.2.1
theorem dX8_countBegun_1 : decode cX8_countBegun 1 = .ok (.getfield 15, 3) := dG_dX8_setZone_16.2.2.1
theorem dX8_countBegun_4 : decode cX8_countBegun 4 = .ok (.iload_n 1, 1) := dG_dX8_setZone_16.2.2.2.1
theorem dX8_countBegun_5 : decode cX8_countBegun 5 = .ok (.iconst 5, 1) := dG_dX8_setZone_16.2.2.2.2.1
theorem dX8_countBegun_6 : decode cX8_countBegun 6 = .ok (.imul, 1) := dG_dX8_setZone_16.2.2.2.2.2.1
theorem dX8_countBegun_7 : decode cX8_countBegun 7 = .ok (.iload_n 2, 1) := dG_dX8_setZone_16.2.2.2.2.2.2.1
theorem dX8_countBegun_8 : decode cX8_countBegun 8 = .ok (.iadd, 1) := dG_dX8_setZone_16.2.2.2.2.2.2.2.1
theorem dX8_countBegun_9 : decode cX8_countBegun 9 = .ok (.dup2, 1) := dG_dX8_setZone_16.2.2.2.2.2.2.2.2.1
theorem dX8_countBegun_10 : decode cX8_countBegun 10 = .ok (.iaload, 1) := dG_dX8_setZone_16.2.2.2.2.2.2.2.2.2.1
theorem dX8_countBegun_11 : decode cX8_countBegun 11 = .ok (.iconst 1, 1) := dG_dX8_setZone_16.2.2.2.2.2.2.2.2.2.2.1
theorem dX8_countBegun_12 : decode cX8_countBegun 12 = .ok (.iadd, 1) := dG_dX8_setZone_16.2.2.2.2.2.2.2.2.2.2.2
theorem dG_dX8_countBegun_13 : (decode cX8_countBegun 13 = .ok (.iastore, 1)) ∧ (decode cX8_countBegun 14 = .ok (.return_, 1)) ∧ (decode cX8_zonesUpTo 0 = .ok (.iconst 0, 1)) ∧ (decode cX8_zonesUpTo 1 = .ok (.istore 4, 2)) ∧ (decode cX8_zonesUpTo 3 = .ok (.iconst 0, 1)) ∧ (decode cX8_zonesUpTo 4 = .ok (.istore 5, 2)) ∧ (decode cX8_zonesUpTo 6 = .ok (.iload 5, 2)) ∧ (decode cX8_zonesUpTo 8 = .ok (.iconst 3, 1)) ∧ (decode cX8_zonesUpTo 9 = .ok (.if_icmp .ge 33, 3)) ∧ (decode cX8_zonesUpTo 12 = .ok (.aload_n 0, 1)) ∧ (decode cX8_zonesUpTo 13 = .ok (.iload_n 1, 1)) ∧ (decode cX8_zonesUpTo 14 = .ok (.iload_n 2, 1)) := by decide +kernel
theorem dX8_countBegun_13 : decode cX8_countBegun 13 = .ok (.iastore, 1) := dG_dX8_countBegun_13.1
theorem dX8_countBegun_14 : decode cX8_countBegun 14 = .ok (.return_, 1) := dG_dX8_countBegun_13.2.1
theorem dX8_zonesUpTo_0 : decode cX8_zonesUpTo 0 = .ok (.iconst 0, 1) := dG_dX8_countBegun_13.2.2.1
theorem dX8_zonesUpTo_1 : decode cX8_zonesUpTo 1 = .ok (.istore 4, 2) := dG_dX8_countBegun_13.2.2.2.1
theorem dX8_zonesUpTo_3 : decode cX8_zonesUpTo 3 = .ok (.iconst 0, 1) := dG_dX8_countBegun_13.2.2.2.2.1
theorem dX8_zonesUpTo_4 : decode cX8_zonesUpTo 4 = .ok (.istore 5, 2) := dG_dX8_countBegun_13.2.2.2.2.2.1
theorem dX8_zonesUpTo_6 : decode cX8_zonesUpTo 6 = .ok (.iload 5, 2) := dG_dX8_countBegun_13.2.2.2.2.2.2.1
theorem dX8_zonesUpTo_8 : decode cX8_zonesUpTo 8 = .ok (.iconst 3, 1) := dG_dX8_countBegun_13.2.2.2.2.2.2.2.1
theorem dX8_zonesUpTo_9 : decode cX8_zonesUpTo 9 = .ok (.if_icmp .ge 33, 3) := dG_dX8_countBegun_13.2.2.2.2.2.2.2.2.1
theorem dX8_zonesUpTo_12 : decode cX8_zonesUpTo 12 = .ok (.aload_n 0, 1) := dG_dX8_countBegun_13.2.2.2.2.2.2.2.2.2.1
theorem dX8_zonesUpTo_13 : decode cX8_zonesUpTo 13 = .ok (.iload_n 1, 1) := dG_dX8_countBegun_13.2.2.2.2.2.2.2.2.2.2.1
theorem dX8_zonesUpTo_14 : decode cX8_zonesUpTo 14 = .ok (.iload_n 2, 1) := dG_dX8_countBegun_13.2.2.2.2.2.2.2.2.2.2.2
theorem dG_dX8_zonesUpTo_15 : (decode cX8_zonesUpTo 15 = .ok (.iload 5, 2)) ∧ (decode cX8_zonesUpTo 17 = .ok (.invokevirtual 27, 3)) ∧ (decode cX8_zonesUpTo 20 = .ok (.istore 6, 2)) ∧ (decode cX8_zonesUpTo 22 = .ok (.iload 6, 2)) ∧ (decode cX8_zonesUpTo 24 = .ok (.ifCond .le 12, 3)) ∧ (decode cX8_zonesUpTo 27 = .ok (.iload 6, 2)) ∧ (decode cX8_zonesUpTo 29 = .ok (.iload_n 3, 1)) ∧ (decode cX8_zonesUpTo 30 = .ok (.if_icmp .gt 6, 3)) ∧ (decode cX8_zonesUpTo 33 = .ok (.iinc 4 1, 3)) ∧ (decode cX8_zonesUpTo 36 = .ok (.iinc 5 1, 3)) ∧ (decode cX8_zonesUpTo 39 = .ok (.goto (-33), 3)) ∧ (decode cX8_zonesUpTo 42 = .ok (.iload 4, 2)) := by decide +kernel
theorem dX8_zonesUpTo_15 : decode cX8_zonesUpTo 15 = .ok (.iload 5, 2) := dG_dX8_zonesUpTo_15.1
theorem dX8_zonesUpTo_17 : decode cX8_zonesUpTo 17 = .ok (.invokevirtual 27, 3) := dG_dX8_zonesUpTo_15.2.1
theorem dX8_zonesUpTo_20 : decode cX8_zonesUpTo 20 = .ok (.istore 6, 2) := dG_dX8_zonesUpTo_15.2.2.1
theorem dX8_zonesUpTo_22 : decode cX8_zonesUpTo 22 = .ok (.iload 6, 2) := dG_dX8_zonesUpTo_15.2.2.2.1
theorem dX8_zonesUpTo_24 : decode cX8_zonesUpTo 24 = .ok (.ifCond .le 12, 3) := dG_dX8_zonesUpTo_15.2.2.2.2.1
theorem dX8_zonesUpTo_27 : decode cX8_zonesUpTo 27 = .ok (.iload 6, 2) := dG_dX8_zonesUpTo_15.2.2.2.2.2.1
theorem dX8_zonesUpTo_29 : decode cX8_zonesUpTo 29 = .ok (.iload_n 3, 1) := dG_dX8_zonesUpTo_15.2.2.2.2.2.2.1
theorem dX8_zonesUpTo_30 : decode cX8_zonesUpTo 30 = .ok (.if_icmp .gt 6, 3) := dG_dX8_zonesUpTo_15.2.2.2.2.2.2.2.1
theorem dX8_zonesUpTo_33 : decode cX8_zonesUpTo 33 = .ok (.iinc 4 1, 3) := dG_dX8_zonesUpTo_15.2.2.2.2.2.2.2.2.1
theorem dX8_zonesUpTo_36 : decode cX8_zonesUpTo 36 = .ok (.iinc 5 1, 3) := dG_dX8_zonesUpTo_15.2.2.2.2.2.2.2.2.2.1
theorem dX8_zonesUpTo_39 : decode cX8_zonesUpTo 39 = .ok (.goto (-33), 3) := dG_dX8_zonesUpTo_15.2.2.2.2.2.2.2.2.2.2.1
theorem dX8_zonesUpTo_42 : decode cX8_zonesUpTo 42 = .ok (.iload 4, 2) := dG_dX8_zonesUpTo_15.2.2.2.2.2.2.2.2.2.2.2
theorem dG_dX8_zonesUpTo_44 : (decode cX8_zonesUpTo 44 = .ok (.ireturn, 1)) ∧ (decode cX9_clear 0 = .ok (.aload_n 0, 1)) ∧ (decode cX9_clear 1 = .ok (.getfield 9, 3)) ∧ (decode cX9_clear 4 = .ok (.iconst 0, 1)) ∧ (decode cX9_clear 5 = .ok (.invokestatic 21, 3)) ∧ (decode cX9_clear 8 = .ok (.return_, 1)) ∧ (decode cX9_latest 0 = .ok (.iload_n 1, 1)) ∧ (decode cX9_latest 1 = .ok (.bipush 20, 2)) ∧ (decode cX9_latest 3 = .ok (.imul, 1)) ∧ (decode cX9_latest 4 = .ok (.aload_n 0, 1)) ∧ (decode cX9_latest 5 = .ok (.getfield 9, 3)) ∧ (decode cX9_latest 8 = .ok (.iload_n 1, 1)) := by decide +kernel
theorem dX8_zonesUpTo_44 : decode cX8_zonesUpTo 44 = .ok (.ireturn, 1) := dG_dX8_zonesUpTo_44.1
theorem dX9_clear_0 : decode cX9_clear 0 = .ok (.aload_n 0, 1) := dG_dX8_zonesUpTo_44.2.1
theorem dX9_clear_1 : decode cX9_clear 1 = .ok (.getfield 9, 3) := dG_dX8_zonesUpTo_44.2.2.1
theorem dX9_clear_4 : decode cX9_clear 4 = .ok (.iconst 0, 1) := dG_dX8_zonesUpTo_44.2.2.2.1
theorem dX9_clear_5 : decode cX9_clear 5 = .ok (.invokestatic 21, 3) := dG_dX8_zonesUpTo_44.2.2.2.2.1
theorem dX9_clear_8 : decode cX9_clear 8 = .ok (.return_, 1) := dG_dX8_zonesUpTo_44.2.2.2.2.2.1
theorem dX9_latest_0 : decode cX9_latest 0 = .ok (.iload_n 1, 1) := dG_dX8_zonesUpTo_44.2.2.2.2.2.2.1
theorem dX9_latest_1 : decode cX9_latest 1 = .ok (.bipush 20, 2) := dG_dX8_zonesUpTo_44.2.2.2.2.2.2.2.1
theorem dX9_latest_3 : decode cX9_latest 3 = .ok (.imul, 1) := dG_dX8_zonesUpTo_44.2.2.2.2.2.2.2.2.1
theorem dX9_latest_4 : decode cX9_latest 4 = .ok (.aload_n 0, 1) := dG_dX8_zonesUpTo_44.2.2.2.2.2.2.2.2.2.1
theorem dX9_latest_5 : decode cX9_latest 5 = .ok (.getfield 9, 3) := dG_dX8_zonesUpTo_44.2.2.2.2.2.2.2.2.2.2.1
theorem dX9_latest_8 : decode cX9_latest 8 = .ok (.iload_n 1, 1) := dG_dX8_zonesUpTo_44.2.2.2.2.2.2.2.2.2.2.2
theorem dG_dX9_latest_9 : (decode cX9_latest 9 = .ok (.iaload, 1)) ∧ (decode cX9_latest 10 = .ok (.iadd, 1)) ∧ (decode cX9_latest 11 = .ok (.iconst 1, 1)) ∧ (decode cX9_latest 12 = .ok (.isub, 1)) ∧ (decode cX9_latest 13 = .ok (.ireturn, 1)) ∧ (decode cX9_isOut 0 = .ok (.aload_n 0, 1)) ∧ (decode cX9_isOut 1 = .ok (.getfield 9, 3)) ∧ (decode cX9_isOut 4 = .ok (.iload_n 1, 1)) ∧ (decode cX9_isOut 5 = .ok (.iaload, 1)) ∧ (decode cX9_isOut 6 = .ok (.ifCond .le 21, 3)) ∧ (decode cX9_isOut 9 = .ok (.aload_n 0, 1)) ∧ (decode cX9_isOut 10 = .ok (.getfield 18, 3)) := by decide +kernel
theorem dX9_latest_9 : decode cX9_latest 9 = .ok (.iaload, 1) := dG_dX9_latest_9.1
theorem dX9_latest_10 : decode cX9_latest 10 = .ok (.iadd, 1) := dG_dX9_latest_9.2.1
theorem dX9_latest_11 : decode cX9_latest 11 = .ok (.iconst 1, 1) := dG_dX9_latest_9.2.2.1
theorem dX9_latest_12 : decode cX9_latest 12 = .ok (.isub, 1) := dG_dX9_latest_9.2.2.2.1
theorem dX9_latest_13 : decode cX9_latest 13 = .ok (.ireturn, 1) := dG_dX9_latest_9.2.2.2.2.1
theorem dX9_isOut_0 : decode cX9_isOut 0 = .ok (.aload_n 0, 1) := dG_dX9_latest_9.2.2.2.2.2.1
theorem dX9_isOut_1 : decode cX9_isOut 1 = .ok (.getfield 9, 3) := dG_dX9_latest_9.2.2.2.2.2.2.1
theorem dX9_isOut_4 : decode cX9_isOut 4 = .ok (.iload_n 1, 1) := dG_dX9_latest_9.2.2.2.2.2.2.2.1
theorem dX9_isOut_5 : decode cX9_isOut 5 = .ok (.iaload, 1) := dG_dX9_latest_9.2.2.2.2.2.2.2.2.1
theorem dX9_isOut_6 : decode cX9_isOut 6 = .ok (.ifCond .le 21, 3) := dG_dX9_latest_9.2.2.2.2.2.2.2.2.2.1
theorem dX9_isOut_9 : decode cX9_isOut 9 = .ok (.aload_n 0, 1) := dG_dX9_latest_9.2.2.2.2.2.2.2.2.2.2.1
theorem dX9_isOut_10 : decode cX9_isOut 10 = .ok (.getfield 18, 3) := dG_dX9_latest_9.2.2.2.2.2.2.2.2.2.2.2
theorem dG_dX9_isOut_13 : (decode cX9_isOut 13 = .ok (.aload_n 0, 1)) ∧ (decode cX9_isOut 14 = .ok (.iload_n 1, 1)) ∧ (decode cX9_isOut 15 = .ok (.invokevirtual 27, 3)) ∧ (decode cX9_isOut 18 = .ok (.iaload, 1)) ∧ (decode cX9_isOut 19 = .ok (.iconst (-1), 1)) ∧ (decode cX9_isOut 20 = .ok (.if_icmp .ne 7, 3)) ∧ (decode cX9_isOut 23 = .ok (.iconst 1, 1)) ∧ (decode cX9_isOut 24 = .ok (.goto 4, 3)) ∧ (decode cX9_isOut 27 = .ok (.iconst 0, 1)) ∧ (decode cX9_isOut 28 = .ok (.ireturn, 1)) ∧ (decode cX9_goOut 0 = .ok (.aload_n 0, 1)) ∧ (decode cX9_goOut 1 = .ok (.getfield 9, 3)) := by decide +kernel
theorem dX9_isOut_13 : decode cX9_isOut 13 = .ok (.aload_n 0, 1) := dG_dX9_isOut_13.1
theorem dX9_isOut_14 : decode cX9_isOut 14 = .ok (.iload_n 1, 1) := dG_dX9_isOut_13.2.1
theorem dX9_isOut_15 : decode cX9_isOut 15 = .ok (.invokevirtual 27, 3) := dG_dX9_isOut_13.2.2.1
theorem dX9_isOut_18 : decode cX9_isOut 18 = .ok (.iaload, 1) := dG_dX9_isOut_13.2.2.2.1
theorem dX9_isOut_19 : decode cX9_isOut 19 = .ok (.iconst (-1), 1) := dG_dX9_isOut_13.2.2.2.2.1
theorem dX9_isOut_20 : decode cX9_isOut 20 = .ok (.if_icmp .ne 7, 3) := dG_dX9_isOut_13.2.2.2.2.2.1
theorem dX9_isOut_23 : decode cX9_isOut 23 = .ok (.iconst 1, 1) := dG_dX9_isOut_13.2.2.2.2.2.2.1
theorem dX9_isOut_24 : decode cX9_isOut 24 = .ok (.goto 4, 3) := dG_dX9_isOut_13.2.2.2.2.2.2.2.1
theorem dX9_isOut_27 : decode cX9_isOut 27 = .ok (.iconst 0, 1) := dG_dX9_isOut_13.2.2.2.2.2.2.2.2.1
theorem dX9_isOut_28 : decode cX9_isOut 28 = .ok (.ireturn, 1) := dG_dX9_isOut_13.2.2.2.2.2.2.2.2.2.1
theorem dX9_goOut_0 : decode cX9_goOut 0 = .ok (.aload_n 0, 1) := dG_dX9_isOut_13.2.2.2.2.2.2.2.2.2.2.1
theorem dX9_goOut_1 : decode cX9_goOut 1 = .ok (.getfield 9, 3) := dG_dX9_isOut_13.2.2.2.2.2.2.2.2.2.2.2
theorem dG_dX9_goOut_4 : (decode cX9_goOut 4 = .ok (.iload_n 1, 1)) ∧ (decode cX9_goOut 5 = .ok (.dup2, 1)) ∧ (decode cX9_goOut 6 = .ok (.iaload, 1)) ∧ (decode cX9_goOut 7 = .ok (.iconst 1, 1)) ∧ (decode cX9_goOut 8 = .ok (.iadd, 1)) ∧ (decode cX9_goOut 9 = .ok (.iastore, 1)) ∧ (decode cX9_goOut 10 = .ok (.aload_n 0, 1)) ∧ (decode cX9_goOut 11 = .ok (.getfield 15, 3)) ∧ (decode cX9_goOut 14 = .ok (.aload_n 0, 1)) ∧ (decode cX9_goOut 15 = .ok (.iload_n 1, 1)) ∧ (decode cX9_goOut 16 = .ok (.invokevirtual 27, 3)) ∧ (decode cX9_goOut 19 = .ok (.iload_n 2, 1)) := by decide +kernel
theorem dX9_goOut_4 : decode cX9_goOut 4 = .ok (.iload_n 1, 1) := dG_dX9_goOut_4.1
theorem dX9_goOut_5 : decode cX9_goOut 5 = .ok (.dup2, 1) := dG_dX9_goOut_4.2.1
theorem dX9_goOut_6 : decode cX9_goOut 6 = .ok (.iaload, 1) := dG_dX9_goOut_4.2.2.1
theorem dX9_goOut_7 : decode cX9_goOut 7 = .ok (.iconst 1, 1) := dG_dX9_goOut_4.2.2.2.1
theorem dX9_goOut_8 : decode cX9_goOut 8 = .ok (.iadd, 1) := dG_dX9_goOut_4.2.2.2.2.1
theorem dX9_goOut_9 : decode cX9_goOut 9 = .ok (.iastore, 1) := dG_dX9_goOut_4.2.2.2.2.2.1
theorem dX9_goOut_10 : decode cX9_goOut 10 = .ok (.aload_n 0, 1) := dG_dX9_goOut_4.2.2.2.2.2.2.1
theorem dX9_goOut_11 : decode cX9_goOut 11 = .ok (.getfield 15, 3) := dG_dX9_goOut_4.2.2.2.2.2.2.2.1
theorem dX9_goOut_14 : decode cX9_goOut 14 = .ok (.aload_n 0, 1) := dG_dX9_goOut_4.2.2.2.2.2.2.2.2.1
theorem dX9_goOut_15 : decode cX9_goOut 15 = .ok (.iload_n 1, 1) := dG_dX9_goOut_4.2.2.2.2.2.2.2.2.2.1
theorem dX9_goOut_16 : decode cX9_goOut 16 = .ok (.invokevirtual 27, 3) := dG_dX9_goOut_4.2.2.2.2.2.2.2.2.2.2.1
theorem dX9_goOut_19 : decode cX9_goOut 19 = .ok (.iload_n 2, 1) := dG_dX9_goOut_4.2.2.2.2.2.2.2.2.2.2.2
theorem dG_dX9_goOut_20 : (decode cX9_goOut 20 = .ok (.iastore, 1)) ∧ (decode cX9_goOut 21 = .ok (.aload_n 0, 1)) ∧ (decode cX9_goOut 22 = .ok (.getfield 18, 3)) ∧ (decode cX9_goOut 25 = .ok (.aload_n 0, 1)) ∧ (decode cX9_goOut 26 = .ok (.iload_n 1, 1)) ∧ (decode cX9_goOut 27 = .ok (.invokevirtual 27, 3)) ∧ (decode cX9_goOut 30 = .ok (.iconst (-1), 1)) ∧ (decode cX9_goOut 31 = .ok (.iastore, 1)) ∧ (decode cX9_goOut 32 = .ok (.return_, 1)) ∧ (decode cX9_comeIn 0 = .ok (.aload_n 0, 1)) ∧ (decode cX9_comeIn 1 = .ok (.getfield 18, 3)) ∧ (decode cX9_comeIn 4 = .ok (.aload_n 0, 1)) := by decide +kernel
theorem dX9_goOut_20 : decode cX9_goOut 20 = .ok (.iastore, 1) := dG_dX9_goOut_20.1
theorem dX9_goOut_21 : decode cX9_goOut 21 = .ok (.aload_n 0, 1) := dG_dX9_goOut_20.2.1
theorem dX9_goOut_22 : decode cX9_goOut 22 = .ok (.getfield 18, 3) := dG_dX9_goOut_20.2.2.1
theorem dX9_goOut_25 : decode cX9_goOut 25 = .ok (.aload_n 0, 1) := dG_dX9_goOut_20.2.2.2.1
theorem dX9_goOut_26 : decode cX9_goOut 26 = .ok (.iload_n 1, 1) := dG_dX9_goOut_20.2.2.2.2.1
theorem dX9_goOut_27 : decode cX9_goOut 27 = .ok (.invokevirtual 27, 3) := dG_dX9_goOut_20.2.2.2.2.2.1
theorem dX9_goOut_30 : decode cX9_goOut 30 = .ok (.iconst (-1), 1) := dG_dX9_goOut_20.2.2.2.2.2.2.1
theorem dX9_goOut_31 : decode cX9_goOut 31 = .ok (.iastore, 1) := dG_dX9_goOut_20.2.2.2.2.2.2.2.1
theorem dX9_goOut_32 : decode cX9_goOut 32 = .ok (.return_, 1) := dG_dX9_goOut_20.2.2.2.2.2.2.2.2.1
theorem dX9_comeIn_0 : decode cX9_comeIn 0 = .ok (.aload_n 0, 1) := dG_dX9_goOut_20.2.2.2.2.2.2.2.2.2.1
theorem dX9_comeIn_1 : decode cX9_comeIn 1 = .ok (.getfield 18, 3) := dG_dX9_goOut_20.2.2.2.2.2.2.2.2.2.2.1
theorem dX9_comeIn_4 : decode cX9_comeIn 4 = .ok (.aload_n 0, 1) := dG_dX9_goOut_20.2.2.2.2.2.2.2.2.2.2.2
theorem dG_dX9_comeIn_5 : (decode cX9_comeIn 5 = .ok (.iload_n 1, 1)) ∧ (decode cX9_comeIn 6 = .ok (.invokevirtual 27, 3)) ∧ (decode cX9_comeIn 9 = .ok (.iload_n 2, 1)) ∧ (decode cX9_comeIn 10 = .ok (.iastore, 1)) ∧ (decode cX9_comeIn 11 = .ok (.return_, 1)) ∧ (decode cX10_refuse 0 = .ok (.aload_n 0, 1)) ∧ (decode cX10_refuse 1 = .ok (.iload_n 1, 1)) ∧ (decode cX10_refuse 2 = .ok (.putfield 71, 3)) ∧ (decode cX10_refuse 5 = .ok (.iconst (-1), 1)) ∧ (decode cX10_refuse 6 = .ok (.ireturn, 1)) ∧ (decode cX10_answer 0 = .ok (.aload_n 0, 1)) ∧ (decode cX10_answer 1 = .ok (.iconst 0, 1)) := by decide +kernel
theorem dX9_comeIn_5 : decode cX9_comeIn 5 = .ok (.iload_n 1, 1) := dG_dX9_comeIn_5.1
theorem dX9_comeIn_6 : decode cX9_comeIn 6 = .ok (.invokevirtual 27, 3) := dG_dX9_comeIn_5.2.1
theorem dX9_comeIn_9 : decode cX9_comeIn 9 = .ok (.iload_n 2, 1) := dG_dX9_comeIn_5.2.2.1
theorem dX9_comeIn_10 : decode cX9_comeIn 10 = .ok (.iastore, 1) := dG_dX9_comeIn_5.2.2.2.1
theorem dX9_comeIn_11 : decode cX9_comeIn 11 = .ok (.return_, 1) := dG_dX9_comeIn_5.2.2.2.2.1
theorem dX10_refuse_0 : decode cX10_refuse 0 = .ok (.aload_n 0, 1) := dG_dX9_comeIn_5.2.2.2.2.2.1
theorem dX10_refuse_1 : decode cX10_refuse 1 = .ok (.iload_n 1, 1) := dG_dX9_comeIn_5.2.2.2.2.2.2.1
theorem dX10_refuse_2 : decode cX10_refuse 2 = .ok (.putfield 71, 3) := dG_dX9_comeIn_5.2.2.2.2.2.2.2.1
theorem dX10_refuse_5 : decode cX10_refuse 5 = .ok (.iconst (-1), 1) := dG_dX9_comeIn_5.2.2.2.2.2.2.2.2.1
theorem dX10_refuse_6 : decode cX10_refuse 6 = .ok (.ireturn, 1) := dG_dX9_comeIn_5.2.2.2.2.2.2.2.2.2.1
theorem dX10_answer_0 : decode cX10_answer 0 = .ok (.aload_n 0, 1) := dG_dX9_comeIn_5.2.2.2.2.2.2.2.2.2.2.1
theorem dX10_answer_1 : decode cX10_answer 1 = .ok (.iconst 0, 1) := dG_dX9_comeIn_5.2.2.2.2.2.2.2.2.2.2.2
theorem dG_dX10_answer_2 : (decode cX10_answer 2 = .ok (.putfield 71, 3)) ∧ (decode cX10_answer 5 = .ok (.iload_n 1, 1)) ∧ (decode cX10_answer 6 = .ok (.ireturn, 1)) ∧ (decode cX10_deny 0 = .ok (.aload_n 0, 1)) ∧ (decode cX10_deny 1 = .ok (.iload_n 1, 1)) ∧ (decode cX10_deny 2 = .ok (.putfield 71, 3)) ∧ (decode cX10_deny 5 = .ok (.iconst 0, 1)) ∧ (decode cX10_deny 6 = .ok (.ireturn, 1)) ∧ (decode cX10_grant 0 = .ok (.aload_n 0, 1)) ∧ (decode cX10_grant 1 = .ok (.iconst 0, 1)) ∧ (decode cX10_grant 2 = .ok (.putfield 71, 3)) ∧ (decode cX10_grant 5 = .ok (.iconst 1, 1)) := by decide +kernel
theorem dX10_answer_2 : decode cX10_answer 2 = .ok (.putfield 71, 3) := dG_dX10_answer_2.1
theorem dX10_answer_5 : decode cX10_answer 5 = .ok (.iload_n 1, 1) := dG_dX10_answer_2.2.1
theorem dX10_answer_6 : decode cX10_answer 6 = .ok (.ireturn, 1) := dG_dX10_answer_2.2.2.1
theorem dX10_deny_0 : decode cX10_deny 0 = .ok (.aload_n 0, 1) := dG_dX10_answer_2.2.2.2.1
theorem dX10_deny_1 : decode cX10_deny 1 = .ok (.iload_n 1, 1) := dG_dX10_answer_2.2.2.2.2.1
theorem dX10_deny_2 : decode cX10_deny 2 = .ok (.putfield 71, 3) := dG_dX10_answer_2.2.2.2.2.2.1
theorem dX10_deny_5 : decode cX10_deny 5 = .ok (.iconst 0, 1) := dG_dX10_answer_2.2.2.2.2.2.2.1
theorem dX10_deny_6 : decode cX10_deny 6 = .ok (.ireturn, 1) := dG_dX10_answer_2.2.2.2.2.2.2.2.1
theorem dX10_grant_0 : decode cX10_grant 0 = .ok (.aload_n 0, 1) := dG_dX10_answer_2.2.2.2.2.2.2.2.2.1
theorem dX10_grant_1 : decode cX10_grant 1 = .ok (.iconst 0, 1) := dG_dX10_answer_2.2.2.2.2.2.2.2.2.2.1
theorem dX10_grant_2 : decode cX10_grant 2 = .ok (.putfield 71, 3) := dG_dX10_answer_2.2.2.2.2.2.2.2.2.2.2.1
theorem dX10_grant_5 : decode cX10_grant 5 = .ok (.iconst 1, 1) := dG_dX10_answer_2.2.2.2.2.2.2.2.2.2.2.2
theorem dG_dX10_grant_6 : (decode cX10_grant 6 = .ok (.ireturn, 1)) ∧ (decode cX10_isDay 0 = .ok (.iload_n 0, 1)) ∧ (decode cX10_isDay 1 = .ok (.ifCond .lt 14, 3)) ∧ (decode cX10_isDay 4 = .ok (.iload_n 0, 1)) ∧ (decode cX10_isDay 5 = .ok (.sipush 999, 3)) ∧ (decode cX10_isDay 8 = .ok (.if_icmp .gt 7, 3)) ∧ (decode cX10_isDay 11 = .ok (.iconst 1, 1)) ∧ (decode cX10_isDay 12 = .ok (.goto 4, 3)) ∧ (decode cX10_isDay 15 = .ok (.iconst 0, 1)) ∧ (decode cX10_isDay 16 = .ok (.ireturn, 1)) ∧ (decode cX10_zonesCanBe 0 = .ok (.iload_n 0, 1)) ∧ (decode cX10_zonesCanBe 1 = .ok (.iload_n 1, 1)) := by decide +kernel
theorem dX10_grant_6 : decode cX10_grant 6 = .ok (.ireturn, 1) := dG_dX10_grant_6.1
theorem dX10_isDay_0 : decode cX10_isDay 0 = .ok (.iload_n 0, 1) := dG_dX10_grant_6.2.1
theorem dX10_isDay_1 : decode cX10_isDay 1 = .ok (.ifCond .lt 14, 3) := dG_dX10_grant_6.2.2.1
theorem dX10_isDay_4 : decode cX10_isDay 4 = .ok (.iload_n 0, 1) := dG_dX10_grant_6.2.2.2.1
theorem dX10_isDay_5 : decode cX10_isDay 5 = .ok (.sipush 999, 3) := dG_dX10_grant_6.2.2.2.2.1
theorem dX10_isDay_8 : decode cX10_isDay 8 = .ok (.if_icmp .gt 7, 3) := dG_dX10_grant_6.2.2.2.2.2.1
theorem dX10_isDay_11 : decode cX10_isDay 11 = .ok (.iconst 1, 1) := dG_dX10_grant_6.2.2.2.2.2.2.1
theorem dX10_isDay_12 : decode cX10_isDay 12 = .ok (.goto 4, 3) := dG_dX10_grant_6.2.2.2.2.2.2.2.1
theorem dX10_isDay_15 : decode cX10_isDay 15 = .ok (.iconst 0, 1) := dG_dX10_grant_6.2.2.2.2.2.2.2.2.1
theorem dX10_isDay_16 : decode cX10_isDay 16 = .ok (.ireturn, 1) := dG_dX10_grant_6.2.2.2.2.2.2.2.2.2.1
theorem dX10_zonesCanBe_0 : decode cX10_zonesCanBe 0 = .ok (.iload_n 0, 1) := dG_dX10_grant_6.2.2.2.2.2.2.2.2.2.2.1
theorem dX10_zonesCanBe_1 : decode cX10_zonesCanBe 1 = .ok (.iload_n 1, 1) := dG_dX10_grant_6.2.2.2.2.2.2.2.2.2.2.2
theorem dG_dX10_zonesCanBe_2 : (decode cX10_zonesCanBe 2 = .ok (.iconst 0, 1)) ∧ (decode cX10_zonesCanBe 3 = .ok (.iconst 1, 1)) ∧ (decode cX10_zonesCanBe 4 = .ok (.invokestatic 309, 3)) ∧ (decode cX10_zonesCanBe 7 = .ok (.ifCond .eq 43, 3)) ∧ (decode cX10_zonesCanBe 10 = .ok (.iload_n 0, 1)) ∧ (decode cX10_zonesCanBe 11 = .ok (.iload_n 2, 1)) ∧ (decode cX10_zonesCanBe 12 = .ok (.iload_n 1, 1)) ∧ (decode cX10_zonesCanBe 13 = .ok (.iload_n 1, 1)) ∧ (decode cX10_zonesCanBe 14 = .ok (.ifCond .eq 7, 3)) ∧ (decode cX10_zonesCanBe 17 = .ok (.iconst 1, 1)) ∧ (decode cX10_zonesCanBe 18 = .ok (.goto 4, 3)) ∧ (decode cX10_zonesCanBe 21 = .ok (.iconst 0, 1)) := by decide +kernel
theorem dX10_zonesCanBe_2 : decode cX10_zonesCanBe 2 = .ok (.iconst 0, 1) := dG_dX10_zonesCanBe_2.1
theorem dX10_zonesCanBe_3 : decode cX10_zonesCanBe 3 = .ok (.iconst 1, 1) := dG_dX10_zonesCanBe_2.2.1
theorem dX10_zonesCanBe_4 : decode cX10_zonesCanBe 4 = .ok (.invokestatic 309, 3) := dG_dX10_zonesCanBe_2.2.2.1
theorem dX10_zonesCanBe_7 : decode cX10_zonesCanBe 7 = .ok (.ifCond .eq 43, 3) := dG_dX10_zonesCanBe_2.2.2.2.1
theorem dX10_zonesCanBe_10 : decode cX10_zonesCanBe 10 = .ok (.iload_n 0, 1) := dG_dX10_zonesCanBe_2.2.2.2.2.1
theorem dX10_zonesCanBe_11 : decode cX10_zonesCanBe 11 = .ok (.iload_n 2, 1) := dG_dX10_zonesCanBe_2.2.2.2.2.2.1
theorem dX10_zonesCanBe_12 : decode cX10_zonesCanBe 12 = .ok (.iload_n 1, 1) := dG_dX10_zonesCanBe_2.2.2.2.2.2.2.1
theorem dX10_zonesCanBe_13 : decode cX10_zonesCanBe 13 = .ok (.iload_n 1, 1) := dG_dX10_zonesCanBe_2.2.2.2.2.2.2.2.1
theorem dX10_zonesCanBe_14 : decode cX10_zonesCanBe 14 = .ok (.ifCond .eq 7, 3) := dG_dX10_zonesCanBe_2.2.2.2.2.2.2.2.2.1
theorem dX10_zonesCanBe_17 : decode cX10_zonesCanBe 17 = .ok (.iconst 1, 1) := dG_dX10_zonesCanBe_2.2.2.2.2.2.2.2.2.2.1
theorem dX10_zonesCanBe_18 : decode cX10_zonesCanBe 18 = .ok (.goto 4, 3) := dG_dX10_zonesCanBe_2.2.2.2.2.2.2.2.2.2.2.1
theorem dX10_zonesCanBe_21 : decode cX10_zonesCanBe 21 = .ok (.iconst 0, 1) := dG_dX10_zonesCanBe_2.2.2.2.2.2.2.2.2.2.2.2
theorem dG_dX10_zonesCanBe_22 : (decode cX10_zonesCanBe 22 = .ok (.invokestatic 309, 3)) ∧ (decode cX10_zonesCanBe 25 = .ok (.ifCond .eq 25, 3)) ∧ (decode cX10_zonesCanBe 28 = .ok (.iload_n 0, 1)) ∧ (decode cX10_zonesCanBe 29 = .ok (.iload_n 3, 1)) ∧ (decode cX10_zonesCanBe 30 = .ok (.iload_n 2, 1)) ∧ (decode cX10_zonesCanBe 31 = .ok (.iload_n 2, 1)) ∧ (decode cX10_zonesCanBe 32 = .ok (.ifCond .eq 7, 3)) ∧ (decode cX10_zonesCanBe 35 = .ok (.iconst 1, 1)) ∧ (decode cX10_zonesCanBe 36 = .ok (.goto 4, 3)) ∧ (decode cX10_zonesCanBe 39 = .ok (.iconst 0, 1)) ∧ (decode cX10_zonesCanBe 40 = .ok (.invokestatic 309, 3)) ∧ (decode cX10_zonesCanBe 43 = .ok (.ifCond .eq 7, 3)) := by decide +kernel
theorem dX10_zonesCanBe_22 : decode cX10_zonesCanBe 22 = .ok (.invokestatic 309, 3) := dG_dX10_zonesCanBe_22.1
theorem dX10_zonesCanBe_25 : decode cX10_zonesCanBe 25 = .ok (.ifCond .eq 25, 3) := dG_dX10_zonesCanBe_22.2.1
theorem dX10_zonesCanBe_28 : decode cX10_zonesCanBe 28 = .ok (.iload_n 0, 1) := dG_dX10_zonesCanBe_22.2.2.1
theorem dX10_zonesCanBe_29 : decode cX10_zonesCanBe 29 = .ok (.iload_n 3, 1) := dG_dX10_zonesCanBe_22.2.2.2.1
theorem dX10_zonesCanBe_30 : decode cX10_zonesCanBe 30 = .ok (.iload_n 2, 1) := dG_dX10_zonesCanBe_22.2.2.2.2.1
theorem dX10_zonesCanBe_31 : decode cX10_zonesCanBe 31 = .ok (.iload_n 2, 1) := dG_dX10_zonesCanBe_22.2.2.2.2.2.1
theorem dX10_zonesCanBe_32 : decode cX10_zonesCanBe 32 = .ok (.ifCond .eq 7, 3) := dG_dX10_zonesCanBe_22.2.2.2.2.2.2.1
theorem dX10_zonesCanBe_35 : decode cX10_zonesCanBe 35 = .ok (.iconst 1, 1) := dG_dX10_zonesCanBe_22.2.2.2.2.2.2.2.1
theorem dX10_zonesCanBe_36 : decode cX10_zonesCanBe 36 = .ok (.goto 4, 3) := dG_dX10_zonesCanBe_22.2.2.2.2.2.2.2.2.1
theorem dX10_zonesCanBe_39 : decode cX10_zonesCanBe 39 = .ok (.iconst 0, 1) := dG_dX10_zonesCanBe_22.2.2.2.2.2.2.2.2.2.1
theorem dX10_zonesCanBe_40 : decode cX10_zonesCanBe 40 = .ok (.invokestatic 309, 3) := dG_dX10_zonesCanBe_22.2.2.2.2.2.2.2.2.2.2.1
theorem dX10_zonesCanBe_43 : decode cX10_zonesCanBe 43 = .ok (.ifCond .eq 7, 3) := dG_dX10_zonesCanBe_22.2.2.2.2.2.2.2.2.2.2.2
theorem dG_dX10_zonesCanBe_46 : (decode cX10_zonesCanBe 46 = .ok (.iconst 1, 1)) ∧ (decode cX10_zonesCanBe 47 = .ok (.goto 4, 3)) ∧ (decode cX10_zonesCanBe 50 = .ok (.iconst 0, 1)) ∧ (decode cX10_zonesCanBe 51 = .ok (.ireturn, 1)) ∧ (decode cX10_zoneCanBe 0 = .ok (.iload_n 1, 1)) ∧ (decode cX10_zoneCanBe 1 = .ok (.ifCond .eq 17, 3)) ∧ (decode cX10_zoneCanBe 4 = .ok (.iload_n 3, 1)) ∧ (decode cX10_zoneCanBe 5 = .ok (.ifCond .eq 17, 3)) ∧ (decode cX10_zoneCanBe 8 = .ok (.iload_n 1, 1)) ∧ (decode cX10_zoneCanBe 9 = .ok (.iload_n 2, 1)) ∧ (decode cX10_zoneCanBe 10 = .ok (.if_icmp .le 12, 3)) ∧ (decode cX10_zoneCanBe 13 = .ok (.iload_n 1, 1)) := by decide +kernel
theorem dX10_zonesCanBe_46 : decode cX10_zonesCanBe 46 = .ok (.iconst 1, 1) := dG_dX10_zonesCanBe_46.1
theorem dX10_zonesCanBe_47 : decode cX10_zonesCanBe 47 = .ok (.goto 4, 3) := dG_dX10_zonesCanBe_46.2.1
theorem dX10_zonesCanBe_50 : decode cX10_zonesCanBe 50 = .ok (.iconst 0, 1) := dG_dX10_zonesCanBe_46.2.2.1
theorem dX10_zonesCanBe_51 : decode cX10_zonesCanBe 51 = .ok (.ireturn, 1) := dG_dX10_zonesCanBe_46.2.2.2.1
theorem dX10_zoneCanBe_0 : decode cX10_zoneCanBe 0 = .ok (.iload_n 1, 1) := dG_dX10_zonesCanBe_46.2.2.2.2.1
theorem dX10_zoneCanBe_1 : decode cX10_zoneCanBe 1 = .ok (.ifCond .eq 17, 3) := dG_dX10_zonesCanBe_46.2.2.2.2.2.1
theorem dX10_zoneCanBe_4 : decode cX10_zoneCanBe 4 = .ok (.iload_n 3, 1) := dG_dX10_zonesCanBe_46.2.2.2.2.2.2.1
theorem dX10_zoneCanBe_5 : decode cX10_zoneCanBe 5 = .ok (.ifCond .eq 17, 3) := dG_dX10_zonesCanBe_46.2.2.2.2.2.2.2.1
theorem dX10_zoneCanBe_8 : decode cX10_zoneCanBe 8 = .ok (.iload_n 1, 1) := dG_dX10_zonesCanBe_46.2.2.2.2.2.2.2.2.1
theorem dX10_zoneCanBe_9 : decode cX10_zoneCanBe 9 = .ok (.iload_n 2, 1) := dG_dX10_zonesCanBe_46.2.2.2.2.2.2.2.2.2.1
theorem dX10_zoneCanBe_10 : decode cX10_zoneCanBe 10 = .ok (.if_icmp .le 12, 3) := dG_dX10_zonesCanBe_46.2.2.2.2.2.2.2.2.2.2.1
theorem dX10_zoneCanBe_13 : decode cX10_zoneCanBe 13 = .ok (.iload_n 1, 1) := dG_dX10_zonesCanBe_46.2.2.2.2.2.2.2.2.2.2.2
theorem dG_dX10_zoneCanBe_14 : (decode cX10_zoneCanBe 14 = .ok (.iload_n 0, 1)) ∧ (decode cX10_zoneCanBe 15 = .ok (.if_icmp .gt 7, 3)) ∧ (decode cX10_zoneCanBe 18 = .ok (.iconst 1, 1)) ∧ (decode cX10_zoneCanBe 19 = .ok (.goto 4, 3)) ∧ (decode cX10_zoneCanBe 22 = .ok (.iconst 0, 1)) ∧ (decode cX10_zoneCanBe 23 = .ok (.ireturn, 1)) := by decide +kernel
theorem dX10_zoneCanBe_14 : decode cX10_zoneCanBe 14 = .ok (.iload_n 0, 1) := dG_dX10_zoneCanBe_14.1
theorem dX10_zoneCanBe_15 : decode cX10_zoneCanBe 15 = .ok (.if_icmp .gt 7, 3) := dG_dX10_zoneCanBe_14.2.1
theorem dX10_zoneCanBe_18 : decode cX10_zoneCanBe 18 = .ok (.iconst 1, 1) := dG_dX10_zoneCanBe_14.2.2.1
theorem dX10_zoneCanBe_19 : decode cX10_zoneCanBe 19 = .ok (.goto 4, 3) := dG_dX10_zoneCanBe_14.2.2.2.1
theorem dX10_zoneCanBe_22 : decode cX10_zoneCanBe 22 = .ok (.iconst 0, 1) := dG_dX10_zoneCanBe_14.2.2.2.2.1
theorem dX10_zoneCanBe_23 : decode cX10_zoneCanBe 23 = .ok (.ireturn, 1) := dG_dX10_zoneCanBe_14.2.2.2.2.2
end

section
set_option maxHeartbeats 4000000 in
set_option maxRecDepth 100000 in
theorem c_X10_refuse (l : Launch) (D : va_G) (k : Nat → ClassId) (A : Nat → Prop) (ad : Nat → Nat) (hD : rwD A k ad) (v : gV) (f g : gF) (a1 : Int) (h_a1 : inR a1) (ha : 0 ≤ a1 ∧ a1 ≤ 10) : GM l D k A (rwT k ad) yX10_refuse cX10_refuse 2 (some .int) 0 0 [.ref (ad 0), .int (iI a1)] v f g (fun r v1 f1 g1 => r = some (.int (iI (-1))) ∧ (va_up v 25 a1) = v1 ∧ f = f1 ∧ g = g1) := by
  refine GM.of (by decide) (Nat.le_of_ble_eq_true rfl) ?_
  intro p e s m args below meth c Q ls hQ C hml hr hlocks hP hl
  have hx := C.1
  have hb := C.2.1
  have hok := hP.2
  have hS : va_S A s.heap s.heap [] := va_S.rf
  have hl : lv_has ls 2 [(0, .ref (ad 0)), (1, .int (iI a1))] := hl
  have hP : gWd D (rwT k ad) (va_up v 25 (v 25)) f g s.heap := by rw [va_id]; exact hP
  refine lv_aload_n hx hb dX10_refuse_0 rfl (lv_at hl 0 rfl) ?_
  refine lv_iload_n hx hb dX10_refuse_1 rfl (lv_at hl 1 rfl) ?_
  refine rwP_state (v1 := (va_up v 25 a1)) C hP hD hS mF_X10_71 (by omega) rfl (Or.inr (gR_up (V := rwV) (F := rwF) ⟨hok.1, hok.2⟩ 25 (show 0 ≤ a1 ∧ a1 ≤ 10 from by omega))) dX10_refuse_2 (fun H locs hP hS => ?_)
  refine lv_iconst (v := iI (-1)) hx hb dX10_refuse_5 rfl ?_
  exact g_iret hQ C hr hlocks hP hS dX10_refuse_6 ⟨rfl, rfl, rfl, rfl⟩

set_option maxHeartbeats 4000000 in
set_option maxRecDepth 100000 in
theorem c_X10_answer (l : Launch) (D : va_G) (k : Nat → ClassId) (A : Nat → Prop) (ad : Nat → Nat) (hD : rwD A k ad) (v : gV) (f g : gF) (a1 : Int) (h_a1 : inR a1) : GM l D k A (rwT k ad) yX10_answer cX10_answer 2 (some .int) 0 0 [.ref (ad 0), .int (iI a1)] v f g (fun r v1 f1 g1 => ∃ (z : Int), r = some (.int (iI z)) ∧ (va_up v 25 0) = v1 ∧ f = f1 ∧ g = g1 ∧ (z = a1)) := by
  refine GM.of (by decide) (Nat.le_of_ble_eq_true rfl) ?_
  intro p e s m args below meth c Q ls hQ C hml hr hlocks hP hl
  have hx := C.1
  have hb := C.2.1
  have hok := hP.2
  have hS : va_S A s.heap s.heap [] := va_S.rf
  have hl : lv_has ls 2 [(0, .ref (ad 0)), (1, .int (iI a1))] := hl
  have hP : gWd D (rwT k ad) (va_up v 25 (v 25)) f g s.heap := by rw [va_id]; exact hP
  refine lv_aload_n hx hb dX10_answer_0 rfl (lv_at hl 0 rfl) ?_
  refine lv_iconst (v := iI 0) hx hb dX10_answer_1 rfl ?_
  refine rwP_state (v1 := (va_up v 25 0)) C hP hD hS mF_X10_71 (by decide) rfl (Or.inr (gR_up (V := rwV) (F := rwF) ⟨hok.1, hok.2⟩ 25 (show 0 ≤ 0 ∧ 0 ≤ 10 from by decide))) dX10_answer_2 (fun H locs hP hS => ?_)
  refine lv_iload_n hx hb dX10_answer_5 rfl (lv_at hl 1 rfl) ?_
  exact g_iret hQ C hr hlocks hP hS dX10_answer_6 ⟨a1, rfl, rfl, rfl, rfl, rfl⟩

set_option maxHeartbeats 4000000 in
set_option maxRecDepth 100000 in
theorem c_X10_deny (l : Launch) (D : va_G) (k : Nat → ClassId) (A : Nat → Prop) (ad : Nat → Nat) (hD : rwD A k ad) (v : gV) (f g : gF) (a1 : Int) (h_a1 : inR a1) (ha : 0 ≤ a1 ∧ a1 ≤ 10) : GM l D k A (rwT k ad) yX10_deny cX10_deny 2 (some .boolean) 0 0 [.ref (ad 0), .int (iI a1)] v f g (fun r v1 f1 g1 => r = some (.int (iI 0)) ∧ (va_up v 25 a1) = v1 ∧ f = f1 ∧ g = g1) := by
  refine GM.of (by decide) (Nat.le_of_ble_eq_true rfl) ?_
  intro p e s m args below meth c Q ls hQ C hml hr hlocks hP hl
  have hx := C.1
  have hb := C.2.1
  have hok := hP.2
  have hS : va_S A s.heap s.heap [] := va_S.rf
  have hl : lv_has ls 2 [(0, .ref (ad 0)), (1, .int (iI a1))] := hl
  have hP : gWd D (rwT k ad) (va_up v 25 (v 25)) f g s.heap := by rw [va_id]; exact hP
  refine lv_aload_n hx hb dX10_deny_0 rfl (lv_at hl 0 rfl) ?_
  refine lv_iload_n hx hb dX10_deny_1 rfl (lv_at hl 1 rfl) ?_
  refine rwP_state (v1 := (va_up v 25 a1)) C hP hD hS mF_X10_71 (by omega) rfl (Or.inr (gR_up (V := rwV) (F := rwF) ⟨hok.1, hok.2⟩ 25 (show 0 ≤ a1 ∧ a1 ≤ 10 from by omega))) dX10_deny_2 (fun H locs hP hS => ?_)
  refine lv_iconst (v := iI 0) hx hb dX10_deny_5 rfl ?_
  exact g_zret hQ C hr hlocks (by decide) hP hS dX10_deny_6 ⟨rfl, rfl, rfl, rfl⟩

set_option maxHeartbeats 4000000 in
set_option maxRecDepth 100000 in
theorem c_X10_grant (l : Launch) (D : va_G) (k : Nat → ClassId) (A : Nat → Prop) (ad : Nat → Nat) (hD : rwD A k ad) (v : gV) (f g : gF) : GM l D k A (rwT k ad) yX10_grant cX10_grant 1 (some .boolean) 0 0 [.ref (ad 0)] v f g (fun r v1 f1 g1 => r = some (.int (iI 1)) ∧ (va_up v 25 0) = v1 ∧ f = f1 ∧ g = g1) := by
  refine GM.of (by decide) (Nat.le_of_ble_eq_true rfl) ?_
  intro p e s m args below meth c Q ls hQ C hml hr hlocks hP hl
  have hx := C.1
  have hb := C.2.1
  have hok := hP.2
  have hS : va_S A s.heap s.heap [] := va_S.rf
  have hl : lv_has ls 1 [(0, .ref (ad 0))] := hl
  have hP : gWd D (rwT k ad) (va_up v 25 (v 25)) f g s.heap := by rw [va_id]; exact hP
  refine lv_aload_n hx hb dX10_grant_0 rfl (lv_at hl 0 rfl) ?_
  refine lv_iconst (v := iI 0) hx hb dX10_grant_1 rfl ?_
  refine rwP_state (v1 := (va_up v 25 0)) C hP hD hS mF_X10_71 (by decide) rfl (Or.inr (gR_up (V := rwV) (F := rwF) ⟨hok.1, hok.2⟩ 25 (show 0 ≤ 0 ∧ 0 ≤ 10 from by decide))) dX10_grant_2 (fun H locs hP hS => ?_)
  refine lv_iconst (v := iI 1) hx hb dX10_grant_5 rfl ?_
  exact g_zret hQ C hr hlocks (by decide) hP hS dX10_grant_6 ⟨rfl, rfl, rfl, rfl⟩

set_option maxHeartbeats 4000000 in
set_option maxRecDepth 100000 in
theorem c_X10_isDay (l : Launch) (D : va_G) (k : Nat → ClassId) (A : Nat → Prop) (ad : Nat → Nat) (hD : rwD A k ad) (v : gV) (f g : gF) (a1 : Int) (h_a1 : inR a1) : GM l D k A (rwT k ad) yX10_isDay cX10_isDay 1 (some .boolean) 0 0 [.int (iI a1)] v f g (fun r v1 f1 g1 => ∃ (z : Int), r = some (.int (iI z)) ∧ v = v1 ∧ f = f1 ∧ g = g1 ∧ (z = (if 0 ≤ a1 ∧ a1 ≤ 999 then 1 else 0))) := by
  refine GM.of (by decide) (Nat.le_of_ble_eq_true rfl) ?_
  intro p e s m args below meth c Q ls hQ C hml hr hlocks hP hl
  have hx := C.1
  have hb := C.2.1
  have hok := hP.2
  have hS : va_S A s.heap s.heap [] := va_S.rf
  have hl : lv_has ls 1 [(0, .int (iI a1))] := hl
  refine lv_iload_n hx hb dX10_isDay_0 rfl (lv_at hl 0 rfl) ?_
  refine gi_zlt (tgt := 15) hx hb dX10_isDay_1 (by decide) (by omega) (fun c_1 => ?_) (fun c_1 => ?_)
  · refine lv_iconst (v := iI 0) hx hb dX10_isDay_15 rfl ?_
    exact g_zret hQ C hr hlocks (by decide) hP hS dX10_isDay_16 ⟨0, rfl, rfl, rfl, rfl, (by first | omega | ((repeat' split) <;> omega))⟩
  · refine lv_iload_n hx hb dX10_isDay_4 rfl (lv_at hl 0 rfl) ?_
    refine lv_sipush (v := iI 999) hx hb dX10_isDay_5 (by decide) ?_
    refine gi_cgt (tgt := 15) hx hb dX10_isDay_8 (by decide) (by omega) (by decide) (fun c_2 => ?_) (fun c_2 => ?_)
    · refine lv_iconst (v := iI 0) hx hb dX10_isDay_15 rfl ?_
      exact g_zret hQ C hr hlocks (by decide) hP hS dX10_isDay_16 ⟨0, rfl, rfl, rfl, rfl, (by first | omega | ((repeat' split) <;> omega))⟩
    · refine lv_iconst (v := iI 1) hx hb dX10_isDay_11 rfl ?_
      refine lv_goto (tgt := 16) hx hb dX10_isDay_12 (by decide) ?_
      exact g_zret hQ C hr hlocks (by decide) hP hS dX10_isDay_16 ⟨1, rfl, rfl, rfl, rfl, (by first | omega | ((repeat' split) <;> omega))⟩

set_option maxHeartbeats 4000000 in
set_option maxRecDepth 100000 in
theorem c_X10_zoneCanBe (l : Launch) (D : va_G) (k : Nat → ClassId) (A : Nat → Prop) (ad : Nat → Nat) (hD : rwD A k ad) (v : gV) (f g : gF) (a1 : Int) (a2 : Int) (a3 : Int) (a4 : Int) (h_a1 : inR a1) (h_a2 : inR a2) (h_a3 : inR a3) (h_a4 : inR a4) : GM l D k A (rwT k ad) yX10_zoneCanBe cX10_zoneCanBe 4 (some .boolean) 0 0 [.int (iI a1), .int (iI a2), .int (iI a3), .int (iI a4)] v f g (fun r v1 f1 g1 => ∃ (z : Int), r = some (.int (iI z)) ∧ v = v1 ∧ f = f1 ∧ g = g1 ∧ (z = (if a2 = 0 ∨ (a4 ≠ 0 ∧ a3 < a2 ∧ a2 ≤ a1) then 1 else 0))) := by
  refine GM.of (by decide) (Nat.le_of_ble_eq_true rfl) ?_
  intro p e s m args below meth c Q ls hQ C hml hr hlocks hP hl
  have hx := C.1
  have hb := C.2.1
  have hok := hP.2
  have hS : va_S A s.heap s.heap [] := va_S.rf
  have hl : lv_has ls 4 [(0, .int (iI a1)), (1, .int (iI a2)), (2, .int (iI a3)), (3, .int (iI a4))] := hl
  refine lv_iload_n hx hb dX10_zoneCanBe_0 rfl (lv_at hl 1 rfl) ?_
  refine gi_zeq (tgt := 18) hx hb dX10_zoneCanBe_1 (by decide) (by omega) (fun c_1 => ?_) (fun c_1 => ?_)
  · refine lv_iconst (v := iI 1) hx hb dX10_zoneCanBe_18 rfl ?_
    refine lv_goto (tgt := 23) hx hb dX10_zoneCanBe_19 (by decide) ?_
    exact g_zret hQ C hr hlocks (by decide) hP hS dX10_zoneCanBe_23 ⟨1, rfl, rfl, rfl, rfl, (by first | omega | ((repeat' split) <;> omega))⟩
  · refine lv_iload_n hx hb dX10_zoneCanBe_4 rfl (lv_at hl 3 rfl) ?_
    refine gi_zeq (tgt := 22) hx hb dX10_zoneCanBe_5 (by decide) (by omega) (fun c_2 => ?_) (fun c_2 => ?_)
    · refine lv_iconst (v := iI 0) hx hb dX10_zoneCanBe_22 rfl ?_
      exact g_zret hQ C hr hlocks (by decide) hP hS dX10_zoneCanBe_23 ⟨0, rfl, rfl, rfl, rfl, (by first | omega | ((repeat' split) <;> omega))⟩
    · refine lv_iload_n hx hb dX10_zoneCanBe_8 rfl (lv_at hl 1 rfl) ?_
      refine lv_iload_n hx hb dX10_zoneCanBe_9 rfl (lv_at hl 2 rfl) ?_
      refine gi_cle (tgt := 22) hx hb dX10_zoneCanBe_10 (by decide) (by omega) (by omega) (fun c_3 => ?_) (fun c_3 => ?_)
      · refine lv_iconst (v := iI 0) hx hb dX10_zoneCanBe_22 rfl ?_
        exact g_zret hQ C hr hlocks (by decide) hP hS dX10_zoneCanBe_23 ⟨0, rfl, rfl, rfl, rfl, (by first | omega | ((repeat' split) <;> omega))⟩
      · refine lv_iload_n hx hb dX10_zoneCanBe_13 rfl (lv_at hl 1 rfl) ?_
        refine lv_iload_n hx hb dX10_zoneCanBe_14 rfl (lv_at hl 0 rfl) ?_
        refine gi_cgt (tgt := 22) hx hb dX10_zoneCanBe_15 (by decide) (by omega) (by omega) (fun c_4 => ?_) (fun c_4 => ?_)
        · refine lv_iconst (v := iI 0) hx hb dX10_zoneCanBe_22 rfl ?_
          exact g_zret hQ C hr hlocks (by decide) hP hS dX10_zoneCanBe_23 ⟨0, rfl, rfl, rfl, rfl, (by first | omega | ((repeat' split) <;> omega))⟩
        · refine lv_iconst (v := iI 1) hx hb dX10_zoneCanBe_18 rfl ?_
          refine lv_goto (tgt := 23) hx hb dX10_zoneCanBe_19 (by decide) ?_
          exact g_zret hQ C hr hlocks (by decide) hP hS dX10_zoneCanBe_23 ⟨1, rfl, rfl, rfl, rfl, (by first | omega | ((repeat' split) <;> omega))⟩

set_option maxHeartbeats 4000000 in
set_option maxRecDepth 100000 in
theorem c_X2_knows (l : Launch) (D : va_G) (k : Nat → ClassId) (A : Nat → Prop) (ad : Nat → Nat) (hD : rwD A k ad) (v : gV) (f g : gF) (a1 : Int) (h_a1 : inR a1) : GM l D k A (rwT k ad) yX2_knows cX2_knows 2 (some .boolean) 0 0 [.ref (ad 27), .int (iI a1)] v f g (fun r v1 f1 g1 => ∃ (z : Int), r = some (.int (iI z)) ∧ v = v1 ∧ f = f1 ∧ g = g1 ∧ (z = (if 0 ≤ a1 ∧ a1 < (v 21) then 1 else 0))) := by
  refine GM.of (by decide) (Nat.le_of_ble_eq_true rfl) ?_
  intro p e s m args below meth c Q ls hQ C hml hr hlocks hP hl
  have hx := C.1
  have hb := C.2.1
  have hok := hP.2
  have hS : va_S A s.heap s.heap [] := va_S.rf
  have hl : lv_has ls 2 [(0, .ref (ad 27)), (1, .int (iI a1))] := hl
  refine lv_iload_n hx hb dX2_knows_0 rfl (lv_at hl 1 rfl) ?_
  refine gi_zlt (tgt := 16) hx hb dX2_knows_1 (by decide) (by omega) (fun c_1 => ?_) (fun c_1 => ?_)
  · refine lv_iconst (v := iI 0) hx hb dX2_knows_16 rfl ?_
    exact g_zret hQ C hr hlocks (by decide) hP hS dX2_knows_17 ⟨0, rfl, rfl, rfl, rfl, (by first | omega | ((repeat' split) <;> omega))⟩
  · refine lv_iload_n hx hb dX2_knows_4 rfl (lv_at hl 1 rfl) ?_
    refine lv_aload_n hx hb dX2_knows_5 rfl (lv_at hl 0 rfl) ?_
    refine rwG_field_climbers C hP mF_X2_18 dX2_knows_6 ?_
    have r_2 : 0 ≤ (v 21) ∧ (v 21) ≤ 16 := hok.1 21
    refine gi_cge (tgt := 16) hx hb dX2_knows_9 (by decide) (by omega) (by omega) (fun c_3 => ?_) (fun c_3 => ?_)
    · refine lv_iconst (v := iI 0) hx hb dX2_knows_16 rfl ?_
      exact g_zret hQ C hr hlocks (by decide) hP hS dX2_knows_17 ⟨0, rfl, rfl, rfl, rfl, (by first | omega | ((repeat' split) <;> omega))⟩
    · refine lv_iconst (v := iI 1) hx hb dX2_knows_12 rfl ?_
      refine lv_goto (tgt := 17) hx hb dX2_knows_13 (by decide) ?_
      exact g_zret hQ C hr hlocks (by decide) hP hS dX2_knows_17 ⟨1, rfl, rfl, rfl, rfl, (by first | omega | ((repeat' split) <;> omega))⟩

set_option maxHeartbeats 4000000 in
set_option maxRecDepth 100000 in
theorem c_X7_knows (l : Launch) (D : va_G) (k : Nat → ClassId) (A : Nat → Prop) (ad : Nat → Nat) (hD : rwD A k ad) (v : gV) (f g : gF) (a1 : Int) (h_a1 : inR a1) : GM l D k A (rwT k ad) yX7_knows cX7_knows 2 (some .boolean) 0 0 [.ref (ad 30), .int (iI a1)] v f g (fun r v1 f1 g1 => ∃ (z : Int), r = some (.int (iI z)) ∧ v = v1 ∧ f = f1 ∧ g = g1 ∧ (z = (if 0 ≤ a1 ∧ a1 < (v 23) then 1 else 0))) := by
  refine GM.of (by decide) (Nat.le_of_ble_eq_true rfl) ?_
  intro p e s m args below meth c Q ls hQ C hml hr hlocks hP hl
  have hx := C.1
  have hb := C.2.1
  have hok := hP.2
  have hS : va_S A s.heap s.heap [] := va_S.rf
  have hl : lv_has ls 2 [(0, .ref (ad 30)), (1, .int (iI a1))] := hl
  refine lv_iload_n hx hb dX7_knows_0 rfl (lv_at hl 1 rfl) ?_
  refine gi_zlt (tgt := 16) hx hb dX7_knows_1 (by decide) (by omega) (fun c_1 => ?_) (fun c_1 => ?_)
  · refine lv_iconst (v := iI 0) hx hb dX7_knows_16 rfl ?_
    exact g_zret hQ C hr hlocks (by decide) hP hS dX7_knows_17 ⟨0, rfl, rfl, rfl, rfl, (by first | omega | ((repeat' split) <;> omega))⟩
  · refine lv_iload_n hx hb dX7_knows_4 rfl (lv_at hl 1 rfl) ?_
    refine lv_aload_n hx hb dX7_knows_5 rfl (lv_at hl 0 rfl) ?_
    refine rwG_tries_many C hP mF_X7_36 dX7_knows_6 ?_
    have r_2 : 0 ≤ (v 23) ∧ (v 23) ≤ 300 := hok.1 23
    refine gi_cge (tgt := 16) hx hb dX7_knows_9 (by decide) (by omega) (by omega) (fun c_3 => ?_) (fun c_3 => ?_)
    · refine lv_iconst (v := iI 0) hx hb dX7_knows_16 rfl ?_
      exact g_zret hQ C hr hlocks (by decide) hP hS dX7_knows_17 ⟨0, rfl, rfl, rfl, rfl, (by first | omega | ((repeat' split) <;> omega))⟩
    · refine lv_iconst (v := iI 1) hx hb dX7_knows_12 rfl ?_
      refine lv_goto (tgt := 17) hx hb dX7_knows_13 (by decide) ?_
      exact g_zret hQ C hr hlocks (by decide) hP hS dX7_knows_17 ⟨1, rfl, rfl, rfl, rfl, (by first | omega | ((repeat' split) <;> omega))⟩

set_option maxHeartbeats 4000000 in
set_option maxRecDepth 100000 in
theorem c_X4_hasRound (l : Launch) (D : va_G) (k : Nat → ClassId) (A : Nat → Prop) (ad : Nat → Nat) (hD : rwD A k ad) (v : gV) (f g : gF) (a1 : Int) (h_a1 : inR a1) : GM l D k A (rwT k ad) yX4_hasRound cX4_hasRound 2 (some .boolean) 0 0 [.ref (ad 2), .int (iI a1)] v f g (fun r v1 f1 g1 => ∃ (z : Int), r = some (.int (iI z)) ∧ v = v1 ∧ f = f1 ∧ g = g1 ∧ (z = (if 0 ≤ a1 ∧ a1 < (v 1) then 1 else 0))) := by
  refine GM.of (by decide) (Nat.le_of_ble_eq_true rfl) ?_
  intro p e s m args below meth c Q ls hQ C hml hr hlocks hP hl
  have hx := C.1
  have hb := C.2.1
  have hok := hP.2
  have hS : va_S A s.heap s.heap [] := va_S.rf
  have hl : lv_has ls 2 [(0, .ref (ad 2)), (1, .int (iI a1))] := hl
  refine lv_iload_n hx hb dX4_hasRound_0 rfl (lv_at hl 1 rfl) ?_
  refine gi_zlt (tgt := 16) hx hb dX4_hasRound_1 (by decide) (by omega) (fun c_1 => ?_) (fun c_1 => ?_)
  · refine lv_iconst (v := iI 0) hx hb dX4_hasRound_16 rfl ?_
    exact g_zret hQ C hr hlocks (by decide) hP hS dX4_hasRound_17 ⟨0, rfl, rfl, rfl, rfl, (by first | omega | ((repeat' split) <;> omega))⟩
  · refine lv_iload_n hx hb dX4_hasRound_4 rfl (lv_at hl 1 rfl) ?_
    refine lv_aload_n hx hb dX4_hasRound_5 rfl (lv_at hl 0 rfl) ?_
    refine rwG_laws_rounds C hP mF_X4_31 dX4_hasRound_6 ?_
    have r_2 : 0 ≤ (v 1) ∧ (v 1) ≤ 4 := hok.1 1
    refine gi_cge (tgt := 16) hx hb dX4_hasRound_9 (by decide) (by omega) (by omega) (fun c_3 => ?_) (fun c_3 => ?_)
    · refine lv_iconst (v := iI 0) hx hb dX4_hasRound_16 rfl ?_
      exact g_zret hQ C hr hlocks (by decide) hP hS dX4_hasRound_17 ⟨0, rfl, rfl, rfl, rfl, (by first | omega | ((repeat' split) <;> omega))⟩
    · refine lv_iconst (v := iI 1) hx hb dX4_hasRound_12 rfl ?_
      refine lv_goto (tgt := 17) hx hb dX4_hasRound_13 (by decide) ?_
      exact g_zret hQ C hr hlocks (by decide) hP hS dX4_hasRound_17 ⟨1, rfl, rfl, rfl, rfl, (by first | omega | ((repeat' split) <;> omega))⟩

set_option maxHeartbeats 4000000 in
set_option maxRecDepth 100000 in
theorem c_X4_hasRoute (l : Launch) (D : va_G) (k : Nat → ClassId) (A : Nat → Prop) (ad : Nat → Nat) (hD : rwD A k ad) (v : gV) (f g : gF) (a1 : Int) (a2 : Int) (h_a1 : inR a1) (h_a2 : inR a2) : GM l D k A (rwT k ad) yX4_hasRoute cX4_hasRoute 3 (some .boolean) 1 21 [.ref (ad 2), .int (iI a1), .int (iI a2)] v f g (fun r v1 f1 g1 => ∃ (z : Int), r = some (.int (iI z)) ∧ v = v1 ∧ f = f1 ∧ g = g1 ∧ (z = (if (0 ≤ a1 ∧ a1 < (v 1)) ∧ 0 ≤ a2 ∧ a2 < (f 1) (a1 * 4) then 1 else 0))) := by
  refine GM.of (by decide) (Nat.le_of_ble_eq_true rfl) ?_
  intro p e s m args below meth c Q ls hQ C hml hr hlocks hP hl
  have hx := C.1
  have hb := C.2.1
  have hok := hP.2
  have hS : va_S A s.heap s.heap [] := va_S.rf
  have hl : lv_has ls 3 [(0, .ref (ad 2)), (1, .int (iI a1)), (2, .int (iI a2))] := hl
  have r_1 : 0 ≤ (v 1) ∧ (v 1) ≤ 4 := hok.1 1
  refine lv_aload_n hx hb dX4_hasRoute_0 rfl (lv_at hl 0 rfl) ?_
  refine lv_iload_n hx hb dX4_hasRoute_1 rfl (lv_at hl 1 rfl) ?_
  refine g_cv (As := [.int (iI a1)]) (rest := []) (n := 1) C hml (c_X4_hasRound l D k A ad hD v f g a1 (by omega)) mM_X4_59 mI_X4_hasRound mE_X4_hasRound mN_X4 mC_X4_hasRound (by decide +kernel) 2 (ci := 4) rfl rfl hP hS (fun _ h => h) ⟨Nat.le_of_ble_eq_true rfl, Nat.le_of_ble_eq_true rfl⟩ ⟨Nat.zero_le _, Nat.zero_le _⟩ hl.1 rfl rfl (Nat.le_of_ble_eq_true rfl) dX4_hasRoute_2 (fun r_2 v_2 f_2 g_2 H locs hq_2 hP _ hS => ?_)
  obtain ⟨z_2, rfl, rfl, rfl, rfl, p0_2⟩ := hq_2
  show W p l e (gRm 1 21) s m args below meth c _ _ 0 0 Q (F0 m 5 ls [.int (iI z_2)])
  replace p0_2 : z_2 = (if 0 ≤ a1 ∧ a1 < (v 1) then 1 else 0) := p0_2
  have w_2 := gif (P := 0 ≤ a1 ∧ a1 < (v 1)) p0_2
  clear p0_2
  have hz_2 : inR z_2 := (by first | omega | (rw [p0_2]; split <;> omega))
  refine gi_zeq (tgt := 30) hx hb dX4_hasRoute_5 (by decide) (by omega) (fun c_3 => ?_) (fun c_3 => ?_)
  · have vz_2 := gif0 w_2 c_3
    clear w_2
    refine lv_iconst (v := iI 0) hx hb dX4_hasRoute_30 rfl ?_
    exact g_zret hQ C hr hlocks (by decide) hP hS dX4_hasRoute_31 ⟨0, rfl, rfl, rfl, rfl, (by first | omega | ((repeat' split) <;> omega))⟩
  · have vz_2 := gif1 w_2 c_3
    clear w_2
    refine lv_iload_n hx hb dX4_hasRoute_8 rfl (lv_at hl 2 rfl) ?_
    refine gi_zlt (tgt := 30) hx hb dX4_hasRoute_9 (by decide) (by omega) (fun c_4 => ?_) (fun c_4 => ?_)
    · refine lv_iconst (v := iI 0) hx hb dX4_hasRoute_30 rfl ?_
      exact g_zret hQ C hr hlocks (by decide) hP hS dX4_hasRoute_31 ⟨0, rfl, rfl, rfl, rfl, (by first | omega | ((repeat' split) <;> omega))⟩
    · refine lv_iload_n hx hb dX4_hasRoute_12 rfl (lv_at hl 2 rfl) ?_
      refine lv_aload_n hx hb dX4_hasRoute_13 rfl (lv_at hl 0 rfl) ?_
      refine rwG_laws_shape C hP mF_X4_9 dX4_hasRoute_14 ?_
      refine lv_iload_n hx hb dX4_hasRoute_17 rfl (lv_at hl 1 rfl) ?_
      refine lv_iconst (v := iI 4) hx hb dX4_hasRoute_18 rfl ?_
      refine gi_mul (z := (a1 * 4)) hx hb dX4_hasRoute_19 rfl ?_
      refine lv_iconst (v := iI 0) hx hb dX4_hasRoute_20 rfl ?_
      refine gi_add (z := (a1 * 4)) hx hb dX4_hasRoute_21 (by omega) ?_
      refine rwL_laws_shape C hP (by omega) (by omega) dX4_hasRoute_22 ?_
      have r_5 : 0 ≤ (f 1 (a1 * 4)) ∧ (f 1 (a1 * 4)) ≤ 999999 := hP.2.2 1 (a1 * 4)
      refine gi_cge (tgt := 30) hx hb dX4_hasRoute_23 (by decide) (by omega) (by omega) (fun c_6 => ?_) (fun c_6 => ?_)
      · refine lv_iconst (v := iI 0) hx hb dX4_hasRoute_30 rfl ?_
        exact g_zret hQ C hr hlocks (by decide) hP hS dX4_hasRoute_31 ⟨0, rfl, rfl, rfl, rfl, (by first | omega | ((repeat' split) <;> omega))⟩
      · refine lv_iconst (v := iI 1) hx hb dX4_hasRoute_26 rfl ?_
        refine lv_goto (tgt := 31) hx hb dX4_hasRoute_27 (by decide) ?_
        exact g_zret hQ C hr hlocks (by decide) hP hS dX4_hasRoute_31 ⟨1, rfl, rfl, rfl, rfl, (by first | omega | ((repeat' split) <;> omega))⟩

set_option maxHeartbeats 4000000 in
set_option maxRecDepth 100000 in
theorem c_X4_shapeOf (l : Launch) (D : va_G) (k : Nat → ClassId) (A : Nat → Prop) (ad : Nat → Nat) (hD : rwD A k ad) (v : gV) (f g : gF) (a1 : Int) (a2 : Int) (h_a1 : inR a1) (h_a2 : inR a2) : GM l D k A (rwT k ad) yX4_shapeOf cX4_shapeOf 3 (some .int) 1 21 [.ref (ad 2), .int (iI a1), .int (iI a2)] v f g (fun r v1 f1 g1 => ∃ (z : Int), r = some (.int (iI z)) ∧ v = v1 ∧ f = f1 ∧ g = g1 ∧ (z = (if (0 ≤ a1 ∧ a1 < (v 1)) ∧ 0 ≤ a2 ∧ a2 < 4 then (f 1) (a1 * 4 + a2) else 0)) ∧ (0 ≤ z ∧ z ≤ 999999)) := by
  refine GM.of (by decide) (Nat.le_of_ble_eq_true rfl) ?_
  intro p e s m args below meth c Q ls hQ C hml hr hlocks hP hl
  have hx := C.1
  have hb := C.2.1
  have hok := hP.2
  have hS : va_S A s.heap s.heap [] := va_S.rf
  have hl : lv_has ls 3 [(0, .ref (ad 2)), (1, .int (iI a1)), (2, .int (iI a2))] := hl
  have r_1 : 0 ≤ (v 1) ∧ (v 1) ≤ 4 := hok.1 1
  refine lv_aload_n hx hb dX4_shapeOf_0 rfl (lv_at hl 0 rfl) ?_
  refine lv_iload_n hx hb dX4_shapeOf_1 rfl (lv_at hl 1 rfl) ?_
  refine g_cv (As := [.int (iI a1)]) (rest := []) (n := 1) C hml (c_X4_hasRound l D k A ad hD v f g a1 (by omega)) mM_X4_59 mI_X4_hasRound mE_X4_hasRound mN_X4 mC_X4_hasRound (by decide +kernel) 2 (ci := 4) rfl rfl hP hS (fun _ h => h) ⟨Nat.le_of_ble_eq_true rfl, Nat.le_of_ble_eq_true rfl⟩ ⟨Nat.zero_le _, Nat.zero_le _⟩ hl.1 rfl rfl (Nat.le_of_ble_eq_true rfl) dX4_shapeOf_2 (fun r_2 v_2 f_2 g_2 H locs hq_2 hP _ hS => ?_)
  obtain ⟨z_2, rfl, rfl, rfl, rfl, p0_2⟩ := hq_2
  show W p l e (gRm 1 21) s m args below meth c _ _ 0 0 Q (F0 m 5 ls [.int (iI z_2)])
  replace p0_2 : z_2 = (if 0 ≤ a1 ∧ a1 < (v 1) then 1 else 0) := p0_2
  have w_2 := gif (P := 0 ≤ a1 ∧ a1 < (v 1)) p0_2
  clear p0_2
  have hz_2 : inR z_2 := (by first | omega | (rw [p0_2]; split <;> omega))
  refine gi_zeq (tgt := 30) hx hb dX4_shapeOf_5 (by decide) (by omega) (fun c_3 => ?_) (fun c_3 => ?_)
  · have vz_2 := gif0 w_2 c_3
    clear w_2
    refine lv_iconst (v := iI 0) hx hb dX4_shapeOf_30 rfl ?_
    exact g_iret hQ C hr hlocks hP hS dX4_shapeOf_31 ⟨0, rfl, rfl, rfl, rfl, (by first | omega | ((repeat' split) <;> omega)), (by first | omega | ((repeat' split) <;> omega))⟩
  · have vz_2 := gif1 w_2 c_3
    clear w_2
    refine lv_iload_n hx hb dX4_shapeOf_8 rfl (lv_at hl 2 rfl) ?_
    refine gi_zlt (tgt := 30) hx hb dX4_shapeOf_9 (by decide) (by omega) (fun c_4 => ?_) (fun c_4 => ?_)
    · refine lv_iconst (v := iI 0) hx hb dX4_shapeOf_30 rfl ?_
      exact g_iret hQ C hr hlocks hP hS dX4_shapeOf_31 ⟨0, rfl, rfl, rfl, rfl, (by first | omega | ((repeat' split) <;> omega)), (by first | omega | ((repeat' split) <;> omega))⟩
    · refine lv_iload_n hx hb dX4_shapeOf_12 rfl (lv_at hl 2 rfl) ?_
      refine lv_iconst (v := iI 4) hx hb dX4_shapeOf_13 rfl ?_
      refine gi_cge (tgt := 30) hx hb dX4_shapeOf_14 (by decide) (by omega) (by decide) (fun c_5 => ?_) (fun c_5 => ?_)
      · refine lv_iconst (v := iI 0) hx hb dX4_shapeOf_30 rfl ?_
        exact g_iret hQ C hr hlocks hP hS dX4_shapeOf_31 ⟨0, rfl, rfl, rfl, rfl, (by first | omega | ((repeat' split) <;> omega)), (by first | omega | ((repeat' split) <;> omega))⟩
      · refine lv_aload_n hx hb dX4_shapeOf_17 rfl (lv_at hl 0 rfl) ?_
        refine rwG_laws_shape C hP mF_X4_9 dX4_shapeOf_18 ?_
        refine lv_iload_n hx hb dX4_shapeOf_21 rfl (lv_at hl 1 rfl) ?_
        refine lv_iconst (v := iI 4) hx hb dX4_shapeOf_22 rfl ?_
        refine gi_mul (z := (a1 * 4)) hx hb dX4_shapeOf_23 rfl ?_
        refine lv_iload_n hx hb dX4_shapeOf_24 rfl (lv_at hl 2 rfl) ?_
        refine gi_add (z := ((a1 * 4) + a2)) hx hb dX4_shapeOf_25 rfl ?_
        refine rwL_laws_shape C hP (by omega) (by omega) dX4_shapeOf_26 ?_
        have r_6 : 0 ≤ (f 1 ((a1 * 4) + a2)) ∧ (f 1 ((a1 * 4) + a2)) ≤ 999999 := hP.2.2 1 ((a1 * 4) + a2)
        refine lv_goto (tgt := 31) hx hb dX4_shapeOf_27 (by decide) ?_
        exact g_iret hQ C hr hlocks hP hS dX4_shapeOf_31 ⟨(f 1 ((a1 * 4) + a2)), rfl, rfl, rfl, rfl, (by first | omega | ((repeat' split) <;> omega)), (by first | omega | ((repeat' split) <;> omega))⟩

set_option maxHeartbeats 4000000 in
set_option maxRecDepth 100000 in
theorem c_X8_clear (l : Launch) (D : va_G) (k : Nat → ClassId) (A : Nat → Prop) (ad : Nat → Nat) (hD : rwD A k ad) (v : gV) (f g : gF) : GM l D k A (rwT k ad) yX8_clear cX8_clear 1 none 1 23 [.ref (ad 23)] v f g (fun r v1 f1 g1 => r = none ∧ v = v1 ∧ (va_up (va_up (va_up f 15 (gfill (f 15) 20 10)) 16 (gfill (f 16) 20 0)) 17 (gfill (f 17) 60 0)) = f1 ∧ g = g1) := by
  refine GM.of (by decide) (Nat.le_of_ble_eq_true rfl) ?_
  intro p e s m args below meth c Q ls hQ C hml hr hlocks hP hl
  have hx := C.1
  have hb := C.2.1
  have hok := hP.2
  have hS : va_S A s.heap s.heap [] := va_S.rf
  have hl : lv_has ls 1 [(0, .ref (ad 23))] := hl
  have hP : gWd D (rwT k ad) v (va_up (va_up (va_up f 15 (f 15)) 16 (f 16)) 17 (f 17)) g s.heap := by rw [va_id, va_id, va_id]; exact hP
  refine lv_aload_n hx hb dX8_clear_0 rfl (lv_at hl 0 rfl) ?_
  refine rwG_wall_holds C hP mF_X8_9 dX8_clear_1 ?_
  refine lv_bipush (v := iI 10) hx hb dX8_clear_4 (by decide) ?_
  refine g_cs (As := [.ref (ad 24), .int (iI 10)]) (rest := []) (n := 2) C hml (c_fillI l D k A (rwT k ad) (ad 24) 24 15 20 (fun _ _ _ => rfl) (fun _ _ _ _ => rfl) hD (by decide) v (va_up (va_up (va_up f 15 (f 15)) 16 (f 16)) 17 (f 17)) g 10 (by decide) (show 0 ≤ 10 ∧ 10 ≤ 60 from (by decide))) mM_X8_21 mS_J7_fill_53178 mN_J7 mC_J7_fill_53178 (by decide +kernel) hP hS (fun _ h => h) ⟨Nat.le_of_ble_eq_true rfl, Nat.le_of_ble_eq_true rfl⟩ ⟨Nat.zero_le _, Nat.zero_le _⟩ hl.1 rfl rfl (Nat.le_of_ble_eq_true rfl) dX8_clear_6 (fun r v1 f1 g1 H locs hq hP _ hS => ?_)
  obtain ⟨rfl, rfl, rfl, rfl⟩ := hq
  show W p l e (gRm 1 23) s m args below meth c _ _ 0 0 Q (F0 m 9 ls [])
  have hP : gWd D (rwT k ad) v (va_up (va_up (va_up f 15 (gfill (f 15) 20 10)) 16 (f 16)) 17 (f 17)) g H := ⟨hP.1, (gF_up (V := rwV) (F := rwF) (gF_up (V := rwV) (F := rwF) (gF_up (V := rwV) (F := rwF) ⟨hok.1, hok.2⟩ 15 (hP.2.2 15)) 16 (hP.2.2 16)) 17 (hP.2.2 17))⟩
  refine lv_aload_n hx hb dX8_clear_9 rfl (lv_at hl 0 rfl) ?_
  refine rwG_wall_begun C hP mF_X8_15 dX8_clear_10 ?_
  refine lv_iconst (v := iI 0) hx hb dX8_clear_13 rfl ?_
  refine g_cs (As := [.ref (ad 25), .int (iI 0)]) (rest := []) (n := 2) C hml (c_fillI l D k A (rwT k ad) (ad 25) 25 16 20 (fun _ _ _ => rfl) (fun _ _ _ _ => rfl) hD (by decide) v (va_up (va_up (va_up f 15 (gfill (f 15) 20 10)) 16 (f 16)) 17 (f 17)) g 0 (by decide) (show 0 ≤ 0 ∧ 0 ≤ 300 from (by decide))) mM_X8_21 mS_J7_fill_53178 mN_J7 mC_J7_fill_53178 (by decide +kernel) hP hS (fun _ h => h) ⟨Nat.le_of_ble_eq_true rfl, Nat.le_of_ble_eq_true rfl⟩ ⟨Nat.zero_le _, Nat.zero_le _⟩ hl.1 rfl rfl (Nat.le_of_ble_eq_true rfl) dX8_clear_14 (fun r v1 f1 g1 H locs hq hP _ hS => ?_)
  obtain ⟨rfl, rfl, rfl, rfl⟩ := hq
  show W p l e (gRm 1 23) s m args below meth c _ _ 0 0 Q (F0 m 17 ls [])
  have hP : gWd D (rwT k ad) v (va_up (va_up (va_up f 15 (gfill (f 15) 20 10)) 16 (gfill (f 16) 20 0)) 17 (f 17)) g H := ⟨hP.1, (gF_up (V := rwV) (F := rwF) (gF_up (V := rwV) (F := rwF) (gF_up (V := rwV) (F := rwF) ⟨hok.1, hok.2⟩ 15 (hP.2.2 15)) 16 (hP.2.2 16)) 17 (hP.2.2 17))⟩
  refine lv_aload_n hx hb dX8_clear_17 rfl (lv_at hl 0 rfl) ?_
  refine rwG_wall_zones C hP mF_X8_18 dX8_clear_18 ?_
  refine lv_iconst (v := iI 0) hx hb dX8_clear_21 rfl ?_
  refine g_cs (As := [.ref (ad 26), .int (iI 0)]) (rest := []) (n := 2) C hml (c_fillI l D k A (rwT k ad) (ad 26) 26 17 60 (fun _ _ _ => rfl) (fun _ _ _ _ => rfl) hD (by decide) v (va_up (va_up (va_up f 15 (gfill (f 15) 20 10)) 16 (gfill (f 16) 20 0)) 17 (f 17)) g 0 (by decide) (show 0 ≤ 0 ∧ 0 ≤ 60 from (by decide))) mM_X8_21 mS_J7_fill_53178 mN_J7 mC_J7_fill_53178 (by decide +kernel) hP hS (fun _ h => h) ⟨Nat.le_of_ble_eq_true rfl, Nat.le_of_ble_eq_true rfl⟩ ⟨Nat.zero_le _, Nat.zero_le _⟩ hl.1 rfl rfl (Nat.le_of_ble_eq_true rfl) dX8_clear_22 (fun r v1 f1 g1 H locs hq hP _ hS => ?_)
  obtain ⟨rfl, rfl, rfl, rfl⟩ := hq
  show W p l e (gRm 1 23) s m args below meth c _ _ 0 0 Q (F0 m 25 ls [])
  have hP : gWd D (rwT k ad) v (va_up (va_up (va_up f 15 (gfill (f 15) 20 10)) 16 (gfill (f 16) 20 0)) 17 (gfill (f 17) 60 0)) g H := ⟨hP.1, (gF_up (V := rwV) (F := rwF) (gF_up (V := rwV) (F := rwF) (gF_up (V := rwV) (F := rwF) ⟨hok.1, hok.2⟩ 15 (hP.2.2 15)) 16 (hP.2.2 16)) 17 (hP.2.2 17))⟩
  exact g_vret hQ C hr hlocks hP hS dX8_clear_25 ⟨rfl, rfl, rfl, rfl⟩

set_option maxHeartbeats 4000000 in
set_option maxRecDepth 100000 in
theorem c_X8_holdsOf (l : Launch) (D : va_G) (k : Nat → ClassId) (A : Nat → Prop) (ad : Nat → Nat) (hD : rwD A k ad) (v : gV) (f g : gF) (a1 : Int) (a2 : Int) (h_a1 : inR a1) (h_a2 : inR a2) (h1 : 0 ≤ a1 ∧ a1 ≤ 3) (h2 : 0 ≤ a2 ∧ a2 ≤ 4) : GM l D k A (rwT k ad) yX8_holdsOf cX8_holdsOf 3 (some .int) 0 0 [.ref (ad 23), .int (iI a1), .int (iI a2)] v f g (fun r v1 f1 g1 => ∃ (z : Int), r = some (.int (iI z)) ∧ v = v1 ∧ f = f1 ∧ g = g1 ∧ (z = ((f 15) (a1 * 5 + a2))) ∧ (0 ≤ z ∧ z ≤ 60)) := by
  refine GM.of (by decide) (Nat.le_of_ble_eq_true rfl) ?_
  intro p e s m args below meth c Q ls hQ C hml hr hlocks hP hl
  have hx := C.1
  have hb := C.2.1
  have hok := hP.2
  have hS : va_S A s.heap s.heap [] := va_S.rf
  have hl : lv_has ls 3 [(0, .ref (ad 23)), (1, .int (iI a1)), (2, .int (iI a2))] := hl
  refine lv_aload_n hx hb dX8_holdsOf_0 rfl (lv_at hl 0 rfl) ?_
  refine rwG_wall_holds C hP mF_X8_9 dX8_holdsOf_1 ?_
  refine lv_iload_n hx hb dX8_holdsOf_4 rfl (lv_at hl 1 rfl) ?_
  refine lv_iconst (v := iI 5) hx hb dX8_holdsOf_5 rfl ?_
  refine gi_mul (z := (a1 * 5)) hx hb dX8_holdsOf_6 rfl ?_
  refine lv_iload_n hx hb dX8_holdsOf_7 rfl (lv_at hl 2 rfl) ?_
  refine gi_add (z := ((a1 * 5) + a2)) hx hb dX8_holdsOf_8 rfl ?_
  refine rwL_wall_holds C hP (by omega) (by omega) dX8_holdsOf_9 ?_
  have r_1 : 0 ≤ (f 15 ((a1 * 5) + a2)) ∧ (f 15 ((a1 * 5) + a2)) ≤ 60 := hP.2.2 15 ((a1 * 5) + a2)
  exact g_iret hQ C hr hlocks hP hS dX8_holdsOf_10 ⟨(f 15 ((a1 * 5) + a2)), rfl, rfl, rfl, rfl, (by first | omega | ((repeat' split) <;> omega)), (by first | omega | ((repeat' split) <;> omega))⟩

set_option maxHeartbeats 4000000 in
set_option maxRecDepth 100000 in
theorem c_X8_begunOn (l : Launch) (D : va_G) (k : Nat → ClassId) (A : Nat → Prop) (ad : Nat → Nat) (hD : rwD A k ad) (v : gV) (f g : gF) (a1 : Int) (a2 : Int) (h_a1 : inR a1) (h_a2 : inR a2) (h1 : 0 ≤ a1 ∧ a1 ≤ 3) (h2 : 0 ≤ a2 ∧ a2 ≤ 4) : GM l D k A (rwT k ad) yX8_begunOn cX8_begunOn 3 (some .int) 0 0 [.ref (ad 23), .int (iI a1), .int (iI a2)] v f g (fun r v1 f1 g1 => ∃ (z : Int), r = some (.int (iI z)) ∧ v = v1 ∧ f = f1 ∧ g = g1 ∧ (z = ((f 16) (a1 * 5 + a2))) ∧ (0 ≤ z ∧ z ≤ 300)) := by
  refine GM.of (by decide) (Nat.le_of_ble_eq_true rfl) ?_
  intro p e s m args below meth c Q ls hQ C hml hr hlocks hP hl
  have hx := C.1
  have hb := C.2.1
  have hok := hP.2
  have hS : va_S A s.heap s.heap [] := va_S.rf
  have hl : lv_has ls 3 [(0, .ref (ad 23)), (1, .int (iI a1)), (2, .int (iI a2))] := hl
  refine lv_aload_n hx hb dX8_begunOn_0 rfl (lv_at hl 0 rfl) ?_
  refine rwG_wall_begun C hP mF_X8_15 dX8_begunOn_1 ?_
  refine lv_iload_n hx hb dX8_begunOn_4 rfl (lv_at hl 1 rfl) ?_
  refine lv_iconst (v := iI 5) hx hb dX8_begunOn_5 rfl ?_
  refine gi_mul (z := (a1 * 5)) hx hb dX8_begunOn_6 rfl ?_
  refine lv_iload_n hx hb dX8_begunOn_7 rfl (lv_at hl 2 rfl) ?_
  refine gi_add (z := ((a1 * 5) + a2)) hx hb dX8_begunOn_8 rfl ?_
  refine rwL_wall_begun C hP (by omega) (by omega) dX8_begunOn_9 ?_
  have r_1 : 0 ≤ (f 16 ((a1 * 5) + a2)) ∧ (f 16 ((a1 * 5) + a2)) ≤ 300 := hP.2.2 16 ((a1 * 5) + a2)
  exact g_iret hQ C hr hlocks hP hS dX8_begunOn_10 ⟨(f 16 ((a1 * 5) + a2)), rfl, rfl, rfl, rfl, (by first | omega | ((repeat' split) <;> omega)), (by first | omega | ((repeat' split) <;> omega))⟩

set_option maxHeartbeats 4000000 in
set_option maxRecDepth 100000 in
theorem c_X8_zoneOf (l : Launch) (D : va_G) (k : Nat → ClassId) (A : Nat → Prop) (ad : Nat → Nat) (hD : rwD A k ad) (v : gV) (f g : gF) (a1 : Int) (a2 : Int) (a3 : Int) (h_a1 : inR a1) (h_a2 : inR a2) (h_a3 : inR a3) (h1 : 0 ≤ a1 ∧ a1 ≤ 3) (h2 : 0 ≤ a2 ∧ a2 ≤ 4) (h3 : 0 ≤ a3 ∧ a3 < 3) : GM l D k A (rwT k ad) yX8_zoneOf cX8_zoneOf 4 (some .int) 0 0 [.ref (ad 23), .int (iI a1), .int (iI a2), .int (iI a3)] v f g (fun r v1 f1 g1 => ∃ (z : Int), r = some (.int (iI z)) ∧ v = v1 ∧ f = f1 ∧ g = g1 ∧ (z = ((f 17) ((a1 * 5 + a2) * 3 + a3))) ∧ (0 ≤ z ∧ z ≤ 60)) := by
  refine GM.of (by decide) (Nat.le_of_ble_eq_true rfl) ?_
  intro p e s m args below meth c Q ls hQ C hml hr hlocks hP hl
  have hx := C.1
  have hb := C.2.1
  have hok := hP.2
  have hS : va_S A s.heap s.heap [] := va_S.rf
  have hl : lv_has ls 4 [(0, .ref (ad 23)), (1, .int (iI a1)), (2, .int (iI a2)), (3, .int (iI a3))] := hl
  refine lv_aload_n hx hb dX8_zoneOf_0 rfl (lv_at hl 0 rfl) ?_
  refine rwG_wall_zones C hP mF_X8_18 dX8_zoneOf_1 ?_
  refine lv_iload_n hx hb dX8_zoneOf_4 rfl (lv_at hl 1 rfl) ?_
  refine lv_iconst (v := iI 5) hx hb dX8_zoneOf_5 rfl ?_
  refine gi_mul (z := (a1 * 5)) hx hb dX8_zoneOf_6 rfl ?_
  refine lv_iload_n hx hb dX8_zoneOf_7 rfl (lv_at hl 2 rfl) ?_
  refine gi_add (z := ((a1 * 5) + a2)) hx hb dX8_zoneOf_8 rfl ?_
  refine lv_iconst (v := iI 3) hx hb dX8_zoneOf_9 rfl ?_
  refine gi_mul (z := (((a1 * 5) + a2) * 3)) hx hb dX8_zoneOf_10 rfl ?_
  refine lv_iload_n hx hb dX8_zoneOf_11 rfl (lv_at hl 3 rfl) ?_
  refine gi_add (z := ((((a1 * 5) + a2) * 3) + a3)) hx hb dX8_zoneOf_12 rfl ?_
  refine rwL_wall_zones C hP (by omega) (by omega) dX8_zoneOf_13 ?_
  have r_1 : 0 ≤ (f 17 ((((a1 * 5) + a2) * 3) + a3)) ∧ (f 17 ((((a1 * 5) + a2) * 3) + a3)) ≤ 60 := hP.2.2 17 ((((a1 * 5) + a2) * 3) + a3)
  exact g_iret hQ C hr hlocks hP hS dX8_zoneOf_14 ⟨(f 17 ((((a1 * 5) + a2) * 3) + a3)), rfl, rfl, rfl, rfl, (by first | omega | ((repeat' split) <;> omega)), (by first | omega | ((repeat' split) <;> omega))⟩

set_option maxHeartbeats 4000000 in
set_option maxRecDepth 100000 in
theorem c_X8_set (l : Launch) (D : va_G) (k : Nat → ClassId) (A : Nat → Prop) (ad : Nat → Nat) (hD : rwD A k ad) (v : gV) (f g : gF) (a1 : Int) (a2 : Int) (a3 : Int) (h_a1 : inR a1) (h_a2 : inR a2) (h_a3 : inR a3) (h1 : 0 ≤ a1 ∧ a1 ≤ 3) (h2 : 0 ≤ a2 ∧ a2 ≤ 4) (h3 : 0 ≤ a3 ∧ a3 ≤ 60) : GM l D k A (rwT k ad) yX8_set cX8_set 4 none 0 0 [.ref (ad 23), .int (iI a1), .int (iI a2), .int (iI a3)] v f g (fun r v1 f1 g1 => r = none ∧ v = v1 ∧ (va_up f 15 (u1 (f 15) (a1 * 5 + a2) a3)) = f1 ∧ g = g1) := by
  refine GM.of (by decide) (Nat.le_of_ble_eq_true rfl) ?_
  intro p e s m args below meth c Q ls hQ C hml hr hlocks hP hl
  have hx := C.1
  have hb := C.2.1
  have hok := hP.2
  have hS : va_S A s.heap s.heap [] := va_S.rf
  have hl : lv_has ls 4 [(0, .ref (ad 23)), (1, .int (iI a1)), (2, .int (iI a2)), (3, .int (iI a3))] := hl
  have hP : gWd D (rwT k ad) v (va_up f 15 (f 15)) g s.heap := by rw [va_id]; exact hP
  refine lv_aload_n hx hb dX8_set_0 rfl (lv_at hl 0 rfl) ?_
  refine rwG_wall_holds C hP mF_X8_9 dX8_set_1 ?_
  refine lv_iload_n hx hb dX8_set_4 rfl (lv_at hl 1 rfl) ?_
  refine lv_iconst (v := iI 5) hx hb dX8_set_5 rfl ?_
  refine gi_mul (z := (a1 * 5)) hx hb dX8_set_6 rfl ?_
  refine lv_iload_n hx hb dX8_set_7 rfl (lv_at hl 2 rfl) ?_
  refine gi_add (z := ((a1 * 5) + a2)) hx hb dX8_set_8 rfl ?_
  refine lv_iload_n hx hb dX8_set_9 rfl (lv_at hl 3 rfl) ?_
  refine rwS_wall_holds (f1 := (va_up f 15 (u1 (f 15) ((a1 * 5) + a2) a3))) C hP hD hS (by omega) (by omega) (by omega) rfl (Or.inr (gF_up (V := rwV) (F := rwF) ⟨hok.1, hok.2⟩ 15 (u1_rng (hP.2.2 15) (show 0 ≤ a3 ∧ a3 ≤ 60 from (by omega))))) dX8_set_10 (fun H locs hP hS => ?_)
  exact g_vret hQ C hr hlocks hP hS dX8_set_11 ⟨rfl, rfl, (by rw [show ((u1 (f 15) (a1 * 5 + a2) a3) : Int → Int) = (u1 (f 15) ((a1 * 5) + a2) a3) from rfl]), rfl⟩

set_option maxHeartbeats 4000000 in
set_option maxRecDepth 100000 in
theorem c_X8_setZone (l : Launch) (D : va_G) (k : Nat → ClassId) (A : Nat → Prop) (ad : Nat → Nat) (hD : rwD A k ad) (v : gV) (f g : gF) (a1 : Int) (a2 : Int) (a3 : Int) (a4 : Int) (h_a1 : inR a1) (h_a2 : inR a2) (h_a3 : inR a3) (h_a4 : inR a4) (h1 : 0 ≤ a1 ∧ a1 ≤ 3) (h2 : 0 ≤ a2 ∧ a2 ≤ 4) (h3 : 0 ≤ a3 ∧ a3 < 3) (h4 : 0 ≤ a4 ∧ a4 ≤ 60) : GM l D k A (rwT k ad) yX8_setZone cX8_setZone 5 none 0 0 [.ref (ad 23), .int (iI a1), .int (iI a2), .int (iI a3), .int (iI a4)] v f g (fun r v1 f1 g1 => r = none ∧ v = v1 ∧ (va_up f 17 (u1 (f 17) ((a1 * 5 + a2) * 3 + a3) a4)) = f1 ∧ g = g1) := by
  refine GM.of (by decide) (Nat.le_of_ble_eq_true rfl) ?_
  intro p e s m args below meth c Q ls hQ C hml hr hlocks hP hl
  have hx := C.1
  have hb := C.2.1
  have hok := hP.2
  have hS : va_S A s.heap s.heap [] := va_S.rf
  have hl : lv_has ls 5 [(0, .ref (ad 23)), (1, .int (iI a1)), (2, .int (iI a2)), (3, .int (iI a3)), (4, .int (iI a4))] := hl
  have hP : gWd D (rwT k ad) v (va_up f 17 (f 17)) g s.heap := by rw [va_id]; exact hP
  refine lv_aload_n hx hb dX8_setZone_0 rfl (lv_at hl 0 rfl) ?_
  refine rwG_wall_zones C hP mF_X8_18 dX8_setZone_1 ?_
  refine lv_iload_n hx hb dX8_setZone_4 rfl (lv_at hl 1 rfl) ?_
  refine lv_iconst (v := iI 5) hx hb dX8_setZone_5 rfl ?_
  refine gi_mul (z := (a1 * 5)) hx hb dX8_setZone_6 rfl ?_
  refine lv_iload_n hx hb dX8_setZone_7 rfl (lv_at hl 2 rfl) ?_
  refine gi_add (z := ((a1 * 5) + a2)) hx hb dX8_setZone_8 rfl ?_
  refine lv_iconst (v := iI 3) hx hb dX8_setZone_9 rfl ?_
  refine gi_mul (z := (((a1 * 5) + a2) * 3)) hx hb dX8_setZone_10 rfl ?_
  refine lv_iload_n hx hb dX8_setZone_11 rfl (lv_at hl 3 rfl) ?_
  refine gi_add (z := ((((a1 * 5) + a2) * 3) + a3)) hx hb dX8_setZone_12 rfl ?_
  refine lv_iload hx hb dX8_setZone_13 (lv_at hl 4 rfl) ?_
  refine rwS_wall_zones (f1 := (va_up f 17 (u1 (f 17) ((((a1 * 5) + a2) * 3) + a3) a4))) C hP hD hS (by omega) (by omega) (by omega) rfl (Or.inr (gF_up (V := rwV) (F := rwF) ⟨hok.1, hok.2⟩ 17 (u1_rng (hP.2.2 17) (show 0 ≤ a4 ∧ a4 ≤ 60 from (by omega))))) dX8_setZone_15 (fun H locs hP hS => ?_)
  exact g_vret hQ C hr hlocks hP hS dX8_setZone_16 ⟨rfl, rfl, (by rw [show ((u1 (f 17) ((a1 * 5 + a2) * 3 + a3) a4) : Int → Int) = (u1 (f 17) ((((a1 * 5) + a2) * 3) + a3) a4) from rfl]), rfl⟩

set_option maxHeartbeats 4000000 in
set_option maxRecDepth 100000 in
theorem c_X8_countBegun (l : Launch) (D : va_G) (k : Nat → ClassId) (A : Nat → Prop) (ad : Nat → Nat) (hD : rwD A k ad) (v : gV) (f g : gF) (a1 : Int) (a2 : Int) (h_a1 : inR a1) (h_a2 : inR a2) (h1 : 0 ≤ a1 ∧ a1 ≤ 3) (h2 : 0 ≤ a2 ∧ a2 ≤ 4) (h3 : (f 16) (a1 * 5 + a2) < 300) : GM l D k A (rwT k ad) yX8_countBegun cX8_countBegun 3 none 0 0 [.ref (ad 23), .int (iI a1), .int (iI a2)] v f g (fun r v1 f1 g1 => r = none ∧ v = v1 ∧ (va_up f 16 (u1 (f 16) (a1 * 5 + a2) ((f 16) (a1 * 5 + a2) + 1))) = f1 ∧ g = g1) := by
  refine GM.of (by decide) (Nat.le_of_ble_eq_true rfl) ?_
  intro p e s m args below meth c Q ls hQ C hml hr hlocks hP hl
  have hx := C.1
  have hb := C.2.1
  have hok := hP.2
  have hS : va_S A s.heap s.heap [] := va_S.rf
  have hl : lv_has ls 3 [(0, .ref (ad 23)), (1, .int (iI a1)), (2, .int (iI a2))] := hl
  have hP : gWd D (rwT k ad) v (va_up f 16 (f 16)) g s.heap := by rw [va_id]; exact hP
  refine lv_aload_n hx hb dX8_countBegun_0 rfl (lv_at hl 0 rfl) ?_
  refine rwG_wall_begun C hP mF_X8_15 dX8_countBegun_1 ?_
  refine lv_iload_n hx hb dX8_countBegun_4 rfl (lv_at hl 1 rfl) ?_
  refine lv_iconst (v := iI 5) hx hb dX8_countBegun_5 rfl ?_
  refine gi_mul (z := (a1 * 5)) hx hb dX8_countBegun_6 rfl ?_
  refine lv_iload_n hx hb dX8_countBegun_7 rfl (lv_at hl 2 rfl) ?_
  refine gi_add (z := ((a1 * 5) + a2)) hx hb dX8_countBegun_8 rfl ?_
  refine lv_dup2_11 hx hb dX8_countBegun_9 rfl rfl ?_
  refine rwL_wall_begun C hP (by omega) (by omega) dX8_countBegun_10 ?_
  show W p l e (gRm 0 0) s m args below meth c _ _ 0 0 Q (F0 m 11 ls [.int (iI (f 16 ((a1 * 5) + a2))), .int (iI ((a1 * 5) + a2)), .ref (ad 25)])
  have r_1 : 0 ≤ (f 16 ((a1 * 5) + a2)) ∧ (f 16 ((a1 * 5) + a2)) ≤ 300 := hP.2.2 16 ((a1 * 5) + a2)
  refine lv_iconst (v := iI 1) hx hb dX8_countBegun_11 rfl ?_
  refine gi_add (z := ((f 16 ((a1 * 5) + a2)) + 1)) hx hb dX8_countBegun_12 rfl ?_
  refine rwS_wall_begun (f1 := (va_up f 16 (u1 (f 16) ((a1 * 5) + a2) ((f 16 ((a1 * 5) + a2)) + 1)))) C hP hD hS (by omega) (by omega) (by omega) rfl (Or.inr (gF_up (V := rwV) (F := rwF) ⟨hok.1, hok.2⟩ 16 (u1_rng (hP.2.2 16) (show 0 ≤ ((f 16 ((a1 * 5) + a2)) + 1) ∧ ((f 16 ((a1 * 5) + a2)) + 1) ≤ 300 from (by omega))))) dX8_countBegun_13 (fun H locs hP hS => ?_)
  exact g_vret hQ C hr hlocks hP hS dX8_countBegun_14 ⟨rfl, rfl, (by rw [show ((u1 (f 16) (a1 * 5 + a2) ((f 16) (a1 * 5 + a2) + 1)) : Int → Int) = (u1 (f 16) ((a1 * 5) + a2) ((f 16 ((a1 * 5) + a2)) + 1)) from rfl]), rfl⟩

set_option maxHeartbeats 4000000 in
set_option maxRecDepth 100000 in
theorem c_X2_clear (l : Launch) (D : va_G) (k : Nat → ClassId) (A : Nat → Prop) (ad : Nat → Nat) (hD : rwD A k ad) (v : gV) (f g : gF) : GM l D k A (rwT k ad) yX2_clear cX2_clear 1 none 0 0 [.ref (ad 27)] v f g (fun r v1 f1 g1 => r = none ∧ (va_up (va_up v 21 0) 22 0) = v1 ∧ f = f1 ∧ g = g1) := by
  refine GM.of (by decide) (Nat.le_of_ble_eq_true rfl) ?_
  intro p e s m args below meth c Q ls hQ C hml hr hlocks hP hl
  have hx := C.1
  have hb := C.2.1
  have hok := hP.2
  have hS : va_S A s.heap s.heap [] := va_S.rf
  have hl : lv_has ls 1 [(0, .ref (ad 27))] := hl
  have hP : gWd D (rwT k ad) (va_up (va_up v 21 (v 21)) 22 (v 22)) f g s.heap := by rw [va_id, va_id]; exact hP
  refine lv_aload_n hx hb dX2_clear_0 rfl (lv_at hl 0 rfl) ?_
  refine lv_iconst (v := iI 0) hx hb dX2_clear_1 rfl ?_
  refine rwP_field_climbers (v1 := (va_up (va_up v 21 0) 22 (v 22))) C hP hD hS mF_X2_18 (by decide) rfl (Or.inr (gR_up (V := rwV) (F := rwF) (gR_up (V := rwV) (F := rwF) ⟨hok.1, hok.2⟩ 21 (show 0 ≤ 0 ∧ 0 ≤ 16 from by decide)) 22 (hP.2.1 22))) dX2_clear_2 (fun H locs hP hS => ?_)
  refine lv_aload_n hx hb dX2_clear_5 rfl (lv_at hl 0 rfl) ?_
  refine lv_iconst (v := iI 0) hx hb dX2_clear_6 rfl ?_
  refine rwP_field_open (v1 := (va_up (va_up v 21 0) 22 0)) C hP hD hS mF_X2_22 (by decide) rfl (Or.inr (gR_up (V := rwV) (F := rwF) (gR_up (V := rwV) (F := rwF) ⟨hok.1, hok.2⟩ 21 (hP.2.1 21)) 22 (show 0 ≤ 0 ∧ 0 ≤ 3 from by decide))) dX2_clear_7 (fun H locs hP hS => ?_)
  exact g_vret hQ C hr hlocks hP hS dX2_clear_10 ⟨rfl, rfl, rfl, rfl⟩

set_option maxHeartbeats 4000000 in
set_option maxRecDepth 100000 in
theorem c_X2_enter (l : Launch) (D : va_G) (k : Nat → ClassId) (A : Nat → Prop) (ad : Nat → Nat) (hD : rwD A k ad) (v : gV) (f g : gF) (h1 : (v 21) < 16) : GM l D k A (rwT k ad) yX2_enter cX2_enter 1 (some .int) 0 0 [.ref (ad 27)] v f g (fun r v1 f1 g1 => ∃ (z : Int), r = some (.int (iI z)) ∧ (va_up v 21 ((v 21) + 1)) = v1 ∧ (va_up f 18 (u1 (f 18) (v 21) 0)) = f1 ∧ g = g1 ∧ (z = (v 21))) := by
  refine GM.of (by decide) (Nat.le_of_ble_eq_true rfl) ?_
  intro p e s m args below meth c Q ls hQ C hml hr hlocks hP hl
  have hx := C.1
  have hb := C.2.1
  have hok := hP.2
  have hS : va_S A s.heap s.heap [] := va_S.rf
  have hl : lv_has ls 1 [(0, .ref (ad 27))] := hl
  have hP : gWd D (rwT k ad) (va_up v 21 (v 21)) (va_up f 18 (f 18)) g s.heap := by rw [va_id, va_id]; exact hP
  refine lv_aload_n hx hb dX2_enter_0 rfl (lv_at hl 0 rfl) ?_
  refine rwG_field_latest C hP mF_X2_9 dX2_enter_1 ?_
  refine lv_aload_n hx hb dX2_enter_4 rfl (lv_at hl 0 rfl) ?_
  refine rwG_field_climbers C hP mF_X2_18 dX2_enter_5 ?_
  show W p l e (gRm 0 0) s m args below meth c _ _ 0 0 Q (F0 m 8 ls [.int (iI (v 21)), .ref (ad 28)])
  have r_1 : 0 ≤ (v 21) ∧ (v 21) ≤ 16 := hok.1 21
  refine lv_iconst (v := iI 0) hx hb dX2_enter_8 rfl ?_
  refine rwS_field_latest (f1 := (va_up f 18 (u1 (f 18) (v 21) 0))) C hP hD hS (by omega) (by omega) (by decide) rfl (Or.inr (gF_up (V := rwV) (F := rwF) (gR_up (V := rwV) (F := rwF) ⟨hok.1, hok.2⟩ 21 (hP.2.1 21)) 18 (u1_rng (hP.2.2 18) (show 0 ≤ 0 ∧ 0 ≤ 3 from (by decide))))) dX2_enter_9 (fun H locs hP hS => ?_)
  refine lv_aload_n hx hb dX2_enter_10 rfl (lv_at hl 0 rfl) ?_
  refine lv_dup hx hb dX2_enter_11 rfl ?_
  refine rwG_field_climbers C hP mF_X2_18 dX2_enter_12 ?_
  show W p l e (gRm 0 0) s m args below meth c _ _ 0 0 Q (F0 m 15 ls [.int (iI (v 21)), .ref (ad 27)])
  refine lv_iconst (v := iI 1) hx hb dX2_enter_15 rfl ?_
  refine gi_add (z := ((v 21) + 1)) hx hb dX2_enter_16 rfl ?_
  refine rwP_field_climbers (v1 := (va_up v 21 ((v 21) + 1))) C hP hD hS mF_X2_18 (by omega) rfl (Or.inr (gF_up (V := rwV) (F := rwF) (gR_up (V := rwV) (F := rwF) ⟨hok.1, hok.2⟩ 21 (show 0 ≤ ((v 21) + 1) ∧ ((v 21) + 1) ≤ 16 from by omega)) 18 (hP.2.2 18))) dX2_enter_17 (fun H locs hP hS => ?_)
  refine lv_aload_n hx hb dX2_enter_20 rfl (lv_at hl 0 rfl) ?_
  refine rwG_field_climbers C hP mF_X2_18 dX2_enter_21 ?_
  show W p l e (gRm 0 0) s m args below meth c _ _ 0 0 Q (F0 m 24 ls [.int (iI ((v 21) + 1))])
  have r_2 : 0 ≤ ((v 21) + 1) ∧ ((v 21) + 1) ≤ 16 := hP.2.1 21
  refine lv_iconst (v := iI 1) hx hb dX2_enter_24 rfl ?_
  refine gi_sub (z := (((v 21) + 1) - 1)) hx hb dX2_enter_25 rfl ?_
  exact g_iret hQ C hr hlocks hP hS dX2_enter_26 ⟨(((v 21) + 1) - 1), rfl, rfl, rfl, rfl, (by first | omega | ((repeat' split) <;> omega))⟩

set_option maxHeartbeats 4000000 in
set_option maxRecDepth 100000 in
theorem c_X2_isIn (l : Launch) (D : va_G) (k : Nat → ClassId) (A : Nat → Prop) (ad : Nat → Nat) (hD : rwD A k ad) (v : gV) (f g : gF) (a1 : Int) (a2 : Int) (h_a1 : inR a1) (h_a2 : inR a2) : GM l D k A (rwT k ad) yX2_isIn cX2_isIn 3 (some .boolean) 1 21 [.ref (ad 27), .int (iI a1), .int (iI a2)] v f g (fun r v1 f1 g1 => ∃ (z : Int), r = some (.int (iI z)) ∧ v = v1 ∧ f = f1 ∧ g = g1 ∧ (z = (if (0 ≤ a2 ∧ a2 < (v 21)) ∧ a1 ≤ (f 18) a2 then 1 else 0))) := by
  refine GM.of (by decide) (Nat.le_of_ble_eq_true rfl) ?_
  intro p e s m args below meth c Q ls hQ C hml hr hlocks hP hl
  have hx := C.1
  have hb := C.2.1
  have hok := hP.2
  have hS : va_S A s.heap s.heap [] := va_S.rf
  have hl : lv_has ls 3 [(0, .ref (ad 27)), (1, .int (iI a1)), (2, .int (iI a2))] := hl
  have r_1 : 0 ≤ (v 21) ∧ (v 21) ≤ 16 := hok.1 21
  refine lv_aload_n hx hb dX2_isIn_0 rfl (lv_at hl 0 rfl) ?_
  refine lv_iload_n hx hb dX2_isIn_1 rfl (lv_at hl 2 rfl) ?_
  refine g_cv (As := [.int (iI a2)]) (rest := []) (n := 1) C hml (c_X2_knows l D k A ad hD v f g a2 (by omega)) mM_X2_25 mI_X2_knows mE_X2_knows mN_X2 mC_X2_knows (by decide +kernel) 27 (ci := 2) rfl rfl hP hS (fun _ h => h) ⟨Nat.le_of_ble_eq_true rfl, Nat.le_of_ble_eq_true rfl⟩ ⟨Nat.zero_le _, Nat.zero_le _⟩ hl.1 rfl rfl (Nat.le_of_ble_eq_true rfl) dX2_isIn_2 (fun r_2 v_2 f_2 g_2 H locs hq_2 hP _ hS => ?_)
  obtain ⟨z_2, rfl, rfl, rfl, rfl, p0_2⟩ := hq_2
  show W p l e (gRm 1 21) s m args below meth c _ _ 0 0 Q (F0 m 5 ls [.int (iI z_2)])
  replace p0_2 : z_2 = (if 0 ≤ a2 ∧ a2 < (v 21) then 1 else 0) := p0_2
  have w_2 := gif (P := 0 ≤ a2 ∧ a2 < (v 21)) p0_2
  clear p0_2
  have hz_2 : inR z_2 := (by first | omega | (rw [p0_2]; split <;> omega))
  refine gi_zeq (tgt := 22) hx hb dX2_isIn_5 (by decide) (by omega) (fun c_3 => ?_) (fun c_3 => ?_)
  · have vz_2 := gif0 w_2 c_3
    clear w_2
    refine lv_iconst (v := iI 0) hx hb dX2_isIn_22 rfl ?_
    exact g_zret hQ C hr hlocks (by decide) hP hS dX2_isIn_23 ⟨0, rfl, rfl, rfl, rfl, (by first | omega | ((repeat' split) <;> omega))⟩
  · have vz_2 := gif1 w_2 c_3
    clear w_2
    refine lv_aload_n hx hb dX2_isIn_8 rfl (lv_at hl 0 rfl) ?_
    refine rwG_field_latest C hP mF_X2_9 dX2_isIn_9 ?_
    refine lv_iload_n hx hb dX2_isIn_12 rfl (lv_at hl 2 rfl) ?_
    refine rwL_field_latest C hP (by omega) (by omega) dX2_isIn_13 ?_
    have r_4 : 0 ≤ (f 18 a2) ∧ (f 18 a2) ≤ 3 := hP.2.2 18 a2
    refine lv_iload_n hx hb dX2_isIn_14 rfl (lv_at hl 1 rfl) ?_
    refine gi_clt (tgt := 22) hx hb dX2_isIn_15 (by decide) (by omega) (by omega) (fun c_5 => ?_) (fun c_5 => ?_)
    · refine lv_iconst (v := iI 0) hx hb dX2_isIn_22 rfl ?_
      exact g_zret hQ C hr hlocks (by decide) hP hS dX2_isIn_23 ⟨0, rfl, rfl, rfl, rfl, (by first | omega | ((repeat' split) <;> omega))⟩
    · refine lv_iconst (v := iI 1) hx hb dX2_isIn_18 rfl ?_
      refine lv_goto (tgt := 23) hx hb dX2_isIn_19 (by decide) ?_
      exact g_zret hQ C hr hlocks (by decide) hP hS dX2_isIn_23 ⟨1, rfl, rfl, rfl, rfl, (by first | omega | ((repeat' split) <;> omega))⟩

set_option maxHeartbeats 4000000 in
set_option maxRecDepth 100000 in
theorem c_X2_dayOf (l : Launch) (D : va_G) (k : Nat → ClassId) (A : Nat → Prop) (ad : Nat → Nat) (hD : rwD A k ad) (v : gV) (f g : gF) (a1 : Int) (h_a1 : inR a1) (h1 : 0 ≤ a1 ∧ a1 ≤ 3) : GM l D k A (rwT k ad) yX2_dayOf cX2_dayOf 2 (some .int) 0 0 [.ref (ad 27), .int (iI a1)] v f g (fun r v1 f1 g1 => ∃ (z : Int), r = some (.int (iI z)) ∧ v = v1 ∧ f = f1 ∧ g = g1 ∧ (z = ((f 19) a1)) ∧ (0 ≤ z ∧ z ≤ 999)) := by
  refine GM.of (by decide) (Nat.le_of_ble_eq_true rfl) ?_
  intro p e s m args below meth c Q ls hQ C hml hr hlocks hP hl
  have hx := C.1
  have hb := C.2.1
  have hok := hP.2
  have hS : va_S A s.heap s.heap [] := va_S.rf
  have hl : lv_has ls 2 [(0, .ref (ad 27)), (1, .int (iI a1))] := hl
  refine lv_aload_n hx hb dX2_dayOf_0 rfl (lv_at hl 0 rfl) ?_
  refine rwG_field_cutDay C hP mF_X2_15 dX2_dayOf_1 ?_
  refine lv_iload_n hx hb dX2_dayOf_4 rfl (lv_at hl 1 rfl) ?_
  refine rwL_field_cutDay C hP (by omega) (by omega) dX2_dayOf_5 ?_
  have r_1 : 0 ≤ (f 19 a1) ∧ (f 19 a1) ≤ 999 := hP.2.2 19 a1
  exact g_iret hQ C hr hlocks hP hS dX2_dayOf_6 ⟨(f 19 a1), rfl, rfl, rfl, rfl, (by first | omega | ((repeat' split) <;> omega)), (by first | omega | ((repeat' split) <;> omega))⟩

set_option maxHeartbeats 4000000 in
set_option maxRecDepth 100000 in
theorem c_X7_clear (l : Launch) (D : va_G) (k : Nat → ClassId) (A : Nat → Prop) (ad : Nat → Nat) (hD : rwD A k ad) (v : gV) (f g : gF) : GM l D k A (rwT k ad) yX7_clear cX7_clear 1 none 1 23 [.ref (ad 30)] v f g (fun r v1 f1 g1 => r = none ∧ (va_up v 23 0) = v1 ∧ (va_up f 27 (gfill (f 27) 16 0)) = f1 ∧ g = g1) := by
  refine GM.of (by decide) (Nat.le_of_ble_eq_true rfl) ?_
  intro p e s m args below meth c Q ls hQ C hml hr hlocks hP hl
  have hx := C.1
  have hb := C.2.1
  have hok := hP.2
  have hS : va_S A s.heap s.heap [] := va_S.rf
  have hl : lv_has ls 1 [(0, .ref (ad 30))] := hl
  have hP : gWd D (rwT k ad) (va_up v 23 (v 23)) (va_up f 27 (f 27)) g s.heap := by rw [va_id, va_id]; exact hP
  refine lv_aload_n hx hb dX7_clear_0 rfl (lv_at hl 0 rfl) ?_
  refine lv_iconst (v := iI 0) hx hb dX7_clear_1 rfl ?_
  refine rwP_tries_many (v1 := (va_up v 23 0)) C hP hD hS mF_X7_36 (by decide) rfl (Or.inr (gF_up (V := rwV) (F := rwF) (gR_up (V := rwV) (F := rwF) ⟨hok.1, hok.2⟩ 23 (show 0 ≤ 0 ∧ 0 ≤ 300 from by decide)) 27 (hP.2.2 27))) dX7_clear_2 (fun H locs hP hS => ?_)
  refine lv_aload_n hx hb dX7_clear_5 rfl (lv_at hl 0 rfl) ?_
  refine rwG_tries_openNext C hP mF_X7_33 dX7_clear_6 ?_
  refine lv_iconst (v := iI 0) hx hb dX7_clear_9 rfl ?_
  refine g_cs (As := [.ref (ad 38), .int (iI 0)]) (rest := []) (n := 2) C hml (c_fillI l D k A (rwT k ad) (ad 38) 38 27 16 (fun _ _ _ => rfl) (fun _ _ _ _ => rfl) hD (by decide) (va_up v 23 0) (va_up f 27 (f 27)) g 0 (by decide) (show 0 ≤ 0 ∧ 0 ≤ 300 from (by decide))) mM_X7_40 mS_J7_fill_53178 mN_J7 mC_J7_fill_53178 (by decide +kernel) hP hS (fun _ h => h) ⟨Nat.le_of_ble_eq_true rfl, Nat.le_of_ble_eq_true rfl⟩ ⟨Nat.zero_le _, Nat.zero_le _⟩ hl.1 rfl rfl (Nat.le_of_ble_eq_true rfl) dX7_clear_10 (fun r v1 f1 g1 H locs hq hP _ hS => ?_)
  obtain ⟨rfl, rfl, rfl, rfl⟩ := hq
  show W p l e (gRm 1 23) s m args below meth c _ _ 0 0 Q (F0 m 13 ls [])
  have hP : gWd D (rwT k ad) (va_up v 23 0) (va_up f 27 (gfill (f 27) 16 0)) g H := ⟨hP.1, (gF_up (V := rwV) (F := rwF) (gR_up (V := rwV) (F := rwF) ⟨hok.1, hok.2⟩ 23 (hP.2.1 23)) 27 (hP.2.2 27))⟩
  exact g_vret hQ C hr hlocks hP hS dX7_clear_13 ⟨rfl, rfl, rfl, rfl⟩

set_option maxHeartbeats 4000000 in
set_option maxRecDepth 100000 in
theorem c_X7_openOf (l : Launch) (D : va_G) (k : Nat → ClassId) (A : Nat → Prop) (ad : Nat → Nat) (hD : rwD A k ad) (v : gV) (f g : gF) (a1 : Int) (h_a1 : inR a1) (h1 : 0 ≤ a1 ∧ a1 ≤ 15) : GM l D k A (rwT k ad) yX7_openOf cX7_openOf 2 (some .int) 0 0 [.ref (ad 30), .int (iI a1)] v f g (fun r v1 f1 g1 => ∃ (z : Int), r = some (.int (iI z)) ∧ v = v1 ∧ f = f1 ∧ g = g1 ∧ (z = ((f 27) a1 - 1)) ∧ ((-1) ≤ z ∧ z ≤ 299)) := by
  refine GM.of (by decide) (Nat.le_of_ble_eq_true rfl) ?_
  intro p e s m args below meth c Q ls hQ C hml hr hlocks hP hl
  have hx := C.1
  have hb := C.2.1
  have hok := hP.2
  have hS : va_S A s.heap s.heap [] := va_S.rf
  have hl : lv_has ls 2 [(0, .ref (ad 30)), (1, .int (iI a1))] := hl
  refine lv_aload_n hx hb dX7_openOf_0 rfl (lv_at hl 0 rfl) ?_
  refine rwG_tries_openNext C hP mF_X7_33 dX7_openOf_1 ?_
  refine lv_iload_n hx hb dX7_openOf_4 rfl (lv_at hl 1 rfl) ?_
  refine rwL_tries_openNext C hP (by omega) (by omega) dX7_openOf_5 ?_
  have r_1 : 0 ≤ (f 27 a1) ∧ (f 27 a1) ≤ 300 := hP.2.2 27 a1
  refine lv_iconst (v := iI 1) hx hb dX7_openOf_6 rfl ?_
  refine gi_sub (z := ((f 27 a1) - 1)) hx hb dX7_openOf_7 rfl ?_
  exact g_iret hQ C hr hlocks hP hS dX7_openOf_8 ⟨((f 27 a1) - 1), rfl, rfl, rfl, rfl, (by first | omega | ((repeat' split) <;> omega)), (by first | omega | ((repeat' split) <;> omega))⟩

set_option maxHeartbeats 4000000 in
set_option maxRecDepth 100000 in
theorem c_X7_start (l : Launch) (D : va_G) (k : Nat → ClassId) (A : Nat → Prop) (ad : Nat → Nat) (hD : rwD A k ad) (v : gV) (f g : gF) (a1 : Int) (a2 : Int) (a3 : Int) (a4 : Int) (h_a1 : inR a1) (h_a2 : inR a2) (h_a3 : inR a3) (h_a4 : inR a4) (h0 : (v 23) < 300) (h1 : 0 ≤ a1 ∧ a1 ≤ 15) (h2 : 0 ≤ a2 ∧ a2 ≤ 3) (h3 : 0 ≤ a3 ∧ a3 ≤ 4) (h4 : 0 ≤ a4 ∧ a4 ≤ 1000000) : GM l D k A (rwT k ad) yX7_start cX7_start 6 (some .int) 0 0 [.ref (ad 30), .int (iI a1), .int (iI a2), .int (iI a3), .int (iI a4)] v f g (fun r v1 f1 g1 => ∃ (z : Int), r = some (.int (iI z)) ∧ (va_up v 23 ((v 23) + 1)) = v1 ∧ (va_up (va_up (va_up (va_up (va_up (va_up (va_up (va_up f 20 (u1 (f 20) (v 23) a1)) 21 (u1 (f 21) (v 23) a2)) 22 (u1 (f 22) (v 23) a3)) 23 (u1 (f 23) (v 23) a4)) 24 (u1 (f 24) (v 23) (-1))) 25 (u1 (f 25) (v 23) 0)) 26 (u1 (f 26) (v 23) 0)) 27 (u1 (f 27) a1 ((v 23) + 1))) = f1 ∧ g = g1 ∧ (z = (v 23))) := by
  refine GM.of (by decide) (Nat.le_of_ble_eq_true rfl) ?_
  intro p e s m args below meth c Q ls hQ C hml hr hlocks hP hl
  have hx := C.1
  have hb := C.2.1
  have hok := hP.2
  have hS : va_S A s.heap s.heap [] := va_S.rf
  have hl : lv_has ls 6 [(0, .ref (ad 30)), (1, .int (iI a1)), (2, .int (iI a2)), (3, .int (iI a3)), (4, .int (iI a4))] := hl
  have hP : gWd D (rwT k ad) (va_up v 23 (v 23)) (va_up (va_up (va_up (va_up (va_up (va_up (va_up (va_up f 20 (f 20)) 21 (f 21)) 22 (f 22)) 23 (f 23)) 24 (f 24)) 25 (f 25)) 26 (f 26)) 27 (f 27)) g s.heap := by rw [va_id, va_id, va_id, va_id, va_id, va_id, va_id, va_id, va_id]; exact hP
  refine lv_aload_n hx hb dX7_start_0 rfl (lv_at hl 0 rfl) ?_
  refine rwG_tries_many C hP mF_X7_36 dX7_start_1 ?_
  show W p l e (gRm 0 0) s m args below meth c _ _ 0 0 Q (F0 m 4 ls [.int (iI (v 23))])
  have r_1 : 0 ≤ (v 23) ∧ (v 23) ≤ 300 := hok.1 23
  refine lv_istore (lv' := [(5, .int (iI (v 23))), (0, .ref (ad 30)), (1, .int (iI a1)), (2, .int (iI a2)), (3, .int (iI a3)), (4, .int (iI a4))]) hx hb dX7_start_4 hl (by decide) rfl (fun ls hl => ?_)
  refine lv_aload_n hx hb dX7_start_6 rfl (lv_at hl 1 rfl) ?_
  refine rwG_tries_climber C hP mF_X7_9 dX7_start_7 ?_
  refine lv_iload hx hb dX7_start_10 (lv_at hl 0 rfl) ?_
  refine lv_iload_n hx hb dX7_start_12 rfl (lv_at hl 2 rfl) ?_
  refine rwS_tries_climber (f1 := (va_up (va_up (va_up (va_up (va_up (va_up (va_up (va_up f 20 (u1 (f 20) (v 23) a1)) 21 (f 21)) 22 (f 22)) 23 (f 23)) 24 (f 24)) 25 (f 25)) 26 (f 26)) 27 (f 27))) C hP hD hS (by omega) (by omega) (by omega) rfl (Or.inr (gF_up (V := rwV) (F := rwF) (gF_up (V := rwV) (F := rwF) (gF_up (V := rwV) (F := rwF) (gF_up (V := rwV) (F := rwF) (gF_up (V := rwV) (F := rwF) (gF_up (V := rwV) (F := rwF) (gF_up (V := rwV) (F := rwF) (gF_up (V := rwV) (F := rwF) (gR_up (V := rwV) (F := rwF) ⟨hok.1, hok.2⟩ 23 (hP.2.1 23)) 20 (u1_rng (hP.2.2 20) (show 0 ≤ a1 ∧ a1 ≤ 15 from (by omega)))) 21 (hP.2.2 21)) 22 (hP.2.2 22)) 23 (hP.2.2 23)) 24 (hP.2.2 24)) 25 (hP.2.2 25)) 26 (hP.2.2 26)) 27 (hP.2.2 27))) dX7_start_13 (fun H locs hP hS => ?_)
  refine lv_aload_n hx hb dX7_start_14 rfl (lv_at hl 1 rfl) ?_
  refine rwG_tries_round C hP mF_X7_15 dX7_start_15 ?_
  refine lv_iload hx hb dX7_start_18 (lv_at hl 0 rfl) ?_
  refine lv_iload_n hx hb dX7_start_20 rfl (lv_at hl 3 rfl) ?_
  refine rwS_tries_round (f1 := (va_up (va_up (va_up (va_up (va_up (va_up (va_up (va_up f 20 (u1 (f 20) (v 23) a1)) 21 (u1 (f 21) (v 23) a2)) 22 (f 22)) 23 (f 23)) 24 (f 24)) 25 (f 25)) 26 (f 26)) 27 (f 27))) C hP hD hS (by omega) (by omega) (by omega) rfl (Or.inr (gF_up (V := rwV) (F := rwF) (gF_up (V := rwV) (F := rwF) (gF_up (V := rwV) (F := rwF) (gF_up (V := rwV) (F := rwF) (gF_up (V := rwV) (F := rwF) (gF_up (V := rwV) (F := rwF) (gF_up (V := rwV) (F := rwF) (gF_up (V := rwV) (F := rwF) (gR_up (V := rwV) (F := rwF) ⟨hok.1, hok.2⟩ 23 (hP.2.1 23)) 20 (hP.2.2 20)) 21 (u1_rng (hP.2.2 21) (show 0 ≤ a2 ∧ a2 ≤ 3 from (by omega)))) 22 (hP.2.2 22)) 23 (hP.2.2 23)) 24 (hP.2.2 24)) 25 (hP.2.2 25)) 26 (hP.2.2 26)) 27 (hP.2.2 27))) dX7_start_21 (fun H locs hP hS => ?_)
  refine lv_aload_n hx hb dX7_start_22 rfl (lv_at hl 1 rfl) ?_
  refine rwG_tries_route C hP mF_X7_18 dX7_start_23 ?_
  refine lv_iload hx hb dX7_start_26 (lv_at hl 0 rfl) ?_
  refine lv_iload_n hx hb dX7_start_28 rfl (lv_at hl 4 rfl) ?_
  refine rwS_tries_route (f1 := (va_up (va_up (va_up (va_up (va_up (va_up (va_up (va_up f 20 (u1 (f 20) (v 23) a1)) 21 (u1 (f 21) (v 23) a2)) 22 (u1 (f 22) (v 23) a3)) 23 (f 23)) 24 (f 24)) 25 (f 25)) 26 (f 26)) 27 (f 27))) C hP hD hS (by omega) (by omega) (by omega) rfl (Or.inr (gF_up (V := rwV) (F := rwF) (gF_up (V := rwV) (F := rwF) (gF_up (V := rwV) (F := rwF) (gF_up (V := rwV) (F := rwF) (gF_up (V := rwV) (F := rwF) (gF_up (V := rwV) (F := rwF) (gF_up (V := rwV) (F := rwF) (gF_up (V := rwV) (F := rwF) (gR_up (V := rwV) (F := rwF) ⟨hok.1, hok.2⟩ 23 (hP.2.1 23)) 20 (hP.2.2 20)) 21 (hP.2.2 21)) 22 (u1_rng (hP.2.2 22) (show 0 ≤ a3 ∧ a3 ≤ 4 from (by omega)))) 23 (hP.2.2 23)) 24 (hP.2.2 24)) 25 (hP.2.2 25)) 26 (hP.2.2 26)) 27 (hP.2.2 27))) dX7_start_29 (fun H locs hP hS => ?_)
  refine lv_aload_n hx hb dX7_start_30 rfl (lv_at hl 1 rfl) ?_
  refine rwG_tries_begun C hP mF_X7_21 dX7_start_31 ?_
  refine lv_iload hx hb dX7_start_34 (lv_at hl 0 rfl) ?_
  refine lv_iload hx hb dX7_start_36 (lv_at hl 5 rfl) ?_
  refine rwS_tries_begun (f1 := (va_up (va_up (va_up (va_up (va_up (va_up (va_up (va_up f 20 (u1 (f 20) (v 23) a1)) 21 (u1 (f 21) (v 23) a2)) 22 (u1 (f 22) (v 23) a3)) 23 (u1 (f 23) (v 23) a4)) 24 (f 24)) 25 (f 25)) 26 (f 26)) 27 (f 27))) C hP hD hS (by omega) (by omega) (by omega) rfl (Or.inr (gF_up (V := rwV) (F := rwF) (gF_up (V := rwV) (F := rwF) (gF_up (V := rwV) (F := rwF) (gF_up (V := rwV) (F := rwF) (gF_up (V := rwV) (F := rwF) (gF_up (V := rwV) (F := rwF) (gF_up (V := rwV) (F := rwF) (gF_up (V := rwV) (F := rwF) (gR_up (V := rwV) (F := rwF) ⟨hok.1, hok.2⟩ 23 (hP.2.1 23)) 20 (hP.2.2 20)) 21 (hP.2.2 21)) 22 (hP.2.2 22)) 23 (u1_rng (hP.2.2 23) (show 0 ≤ a4 ∧ a4 ≤ 1000000 from (by omega)))) 24 (hP.2.2 24)) 25 (hP.2.2 25)) 26 (hP.2.2 26)) 27 (hP.2.2 27))) dX7_start_38 (fun H locs hP hS => ?_)
  refine lv_aload_n hx hb dX7_start_39 rfl (lv_at hl 1 rfl) ?_
  refine rwG_tries_ended C hP mF_X7_24 dX7_start_40 ?_
  refine lv_iload hx hb dX7_start_43 (lv_at hl 0 rfl) ?_
  refine lv_iconst (v := iI (-1)) hx hb dX7_start_45 rfl ?_
  refine rwS_tries_ended (f1 := (va_up (va_up (va_up (va_up (va_up (va_up (va_up (va_up f 20 (u1 (f 20) (v 23) a1)) 21 (u1 (f 21) (v 23) a2)) 22 (u1 (f 22) (v 23) a3)) 23 (u1 (f 23) (v 23) a4)) 24 (u1 (f 24) (v 23) (-1))) 25 (f 25)) 26 (f 26)) 27 (f 27))) C hP hD hS (by omega) (by omega) (by decide) rfl (Or.inr (gF_up (V := rwV) (F := rwF) (gF_up (V := rwV) (F := rwF) (gF_up (V := rwV) (F := rwF) (gF_up (V := rwV) (F := rwF) (gF_up (V := rwV) (F := rwF) (gF_up (V := rwV) (F := rwF) (gF_up (V := rwV) (F := rwF) (gF_up (V := rwV) (F := rwF) (gR_up (V := rwV) (F := rwF) ⟨hok.1, hok.2⟩ 23 (hP.2.1 23)) 20 (hP.2.2 20)) 21 (hP.2.2 21)) 22 (hP.2.2 22)) 23 (hP.2.2 23)) 24 (u1_rng (hP.2.2 24) (show (-1) ≤ (-1) ∧ (-1) ≤ 1000999 from (by decide)))) 25 (hP.2.2 25)) 26 (hP.2.2 26)) 27 (hP.2.2 27))) dX7_start_46 (fun H locs hP hS => ?_)
  refine lv_aload_n hx hb dX7_start_47 rfl (lv_at hl 1 rfl) ?_
  refine rwG_tries_hold C hP mF_X7_27 dX7_start_48 ?_
  refine lv_iload hx hb dX7_start_51 (lv_at hl 0 rfl) ?_
  refine lv_iconst (v := iI 0) hx hb dX7_start_53 rfl ?_
  refine rwS_tries_hold (f1 := (va_up (va_up (va_up (va_up (va_up (va_up (va_up (va_up f 20 (u1 (f 20) (v 23) a1)) 21 (u1 (f 21) (v 23) a2)) 22 (u1 (f 22) (v 23) a3)) 23 (u1 (f 23) (v 23) a4)) 24 (u1 (f 24) (v 23) (-1))) 25 (u1 (f 25) (v 23) 0)) 26 (f 26)) 27 (f 27))) C hP hD hS (by omega) (by omega) (by decide) rfl (Or.inr (gF_up (V := rwV) (F := rwF) (gF_up (V := rwV) (F := rwF) (gF_up (V := rwV) (F := rwF) (gF_up (V := rwV) (F := rwF) (gF_up (V := rwV) (F := rwF) (gF_up (V := rwV) (F := rwF) (gF_up (V := rwV) (F := rwF) (gF_up (V := rwV) (F := rwF) (gR_up (V := rwV) (F := rwF) ⟨hok.1, hok.2⟩ 23 (hP.2.1 23)) 20 (hP.2.2 20)) 21 (hP.2.2 21)) 22 (hP.2.2 22)) 23 (hP.2.2 23)) 24 (hP.2.2 24)) 25 (u1_rng (hP.2.2 25) (show 0 ≤ 0 ∧ 0 ≤ 60 from (by decide)))) 26 (hP.2.2 26)) 27 (hP.2.2 27))) dX7_start_54 (fun H locs hP hS => ?_)
  refine lv_aload_n hx hb dX7_start_55 rfl (lv_at hl 1 rfl) ?_
  refine rwG_tries_how C hP mF_X7_30 dX7_start_56 ?_
  refine lv_iload hx hb dX7_start_59 (lv_at hl 0 rfl) ?_
  refine lv_iconst (v := iI 0) hx hb dX7_start_61 rfl ?_
  refine rwS_tries_how (f1 := (va_up (va_up (va_up (va_up (va_up (va_up (va_up (va_up f 20 (u1 (f 20) (v 23) a1)) 21 (u1 (f 21) (v 23) a2)) 22 (u1 (f 22) (v 23) a3)) 23 (u1 (f 23) (v 23) a4)) 24 (u1 (f 24) (v 23) (-1))) 25 (u1 (f 25) (v 23) 0)) 26 (u1 (f 26) (v 23) 0)) 27 (f 27))) C hP hD hS (by omega) (by omega) (by decide) rfl (Or.inr (gF_up (V := rwV) (F := rwF) (gF_up (V := rwV) (F := rwF) (gF_up (V := rwV) (F := rwF) (gF_up (V := rwV) (F := rwF) (gF_up (V := rwV) (F := rwF) (gF_up (V := rwV) (F := rwF) (gF_up (V := rwV) (F := rwF) (gF_up (V := rwV) (F := rwF) (gR_up (V := rwV) (F := rwF) ⟨hok.1, hok.2⟩ 23 (hP.2.1 23)) 20 (hP.2.2 20)) 21 (hP.2.2 21)) 22 (hP.2.2 22)) 23 (hP.2.2 23)) 24 (hP.2.2 24)) 25 (hP.2.2 25)) 26 (u1_rng (hP.2.2 26) (show 0 ≤ 0 ∧ 0 ≤ 4 from (by decide)))) 27 (hP.2.2 27))) dX7_start_62 (fun H locs hP hS => ?_)
  refine lv_aload_n hx hb dX7_start_63 rfl (lv_at hl 1 rfl) ?_
  refine rwG_tries_openNext C hP mF_X7_33 dX7_start_64 ?_
  refine lv_iload_n hx hb dX7_start_67 rfl (lv_at hl 2 rfl) ?_
  refine lv_iload hx hb dX7_start_68 (lv_at hl 0 rfl) ?_
  refine lv_iconst (v := iI 1) hx hb dX7_start_70 rfl ?_
  refine gi_add (z := ((v 23) + 1)) hx hb dX7_start_71 rfl ?_
  refine rwS_tries_openNext (f1 := (va_up (va_up (va_up (va_up (va_up (va_up (va_up (va_up f 20 (u1 (f 20) (v 23) a1)) 21 (u1 (f 21) (v 23) a2)) 22 (u1 (f 22) (v 23) a3)) 23 (u1 (f 23) (v 23) a4)) 24 (u1 (f 24) (v 23) (-1))) 25 (u1 (f 25) (v 23) 0)) 26 (u1 (f 26) (v 23) 0)) 27 (u1 (f 27) a1 ((v 23) + 1)))) C hP hD hS (by omega) (by omega) (by omega) rfl (Or.inr (gF_up (V := rwV) (F := rwF) (gF_up (V := rwV) (F := rwF) (gF_up (V := rwV) (F := rwF) (gF_up (V := rwV) (F := rwF) (gF_up (V := rwV) (F := rwF) (gF_up (V := rwV) (F := rwF) (gF_up (V := rwV) (F := rwF) (gF_up (V := rwV) (F := rwF) (gR_up (V := rwV) (F := rwF) ⟨hok.1, hok.2⟩ 23 (hP.2.1 23)) 20 (hP.2.2 20)) 21 (hP.2.2 21)) 22 (hP.2.2 22)) 23 (hP.2.2 23)) 24 (hP.2.2 24)) 25 (hP.2.2 25)) 26 (hP.2.2 26)) 27 (u1_rng (hP.2.2 27) (show 0 ≤ ((v 23) + 1) ∧ ((v 23) + 1) ≤ 300 from (by omega))))) dX7_start_72 (fun H locs hP hS => ?_)
  refine lv_aload_n hx hb dX7_start_73 rfl (lv_at hl 1 rfl) ?_
  refine lv_dup hx hb dX7_start_74 rfl ?_
  refine rwG_tries_many C hP mF_X7_36 dX7_start_75 ?_
  show W p l e (gRm 0 0) s m args below meth c _ _ 0 0 Q (F0 m 78 ls [.int (iI (v 23)), .ref (ad 30)])
  refine lv_iconst (v := iI 1) hx hb dX7_start_78 rfl ?_
  refine gi_add (z := ((v 23) + 1)) hx hb dX7_start_79 rfl ?_
  refine rwP_tries_many (v1 := (va_up v 23 ((v 23) + 1))) C hP hD hS mF_X7_36 (by omega) rfl (Or.inr (gF_up (V := rwV) (F := rwF) (gF_up (V := rwV) (F := rwF) (gF_up (V := rwV) (F := rwF) (gF_up (V := rwV) (F := rwF) (gF_up (V := rwV) (F := rwF) (gF_up (V := rwV) (F := rwF) (gF_up (V := rwV) (F := rwF) (gF_up (V := rwV) (F := rwF) (gR_up (V := rwV) (F := rwF) ⟨hok.1, hok.2⟩ 23 (show 0 ≤ ((v 23) + 1) ∧ ((v 23) + 1) ≤ 300 from by omega)) 20 (hP.2.2 20)) 21 (hP.2.2 21)) 22 (hP.2.2 22)) 23 (hP.2.2 23)) 24 (hP.2.2 24)) 25 (hP.2.2 25)) 26 (hP.2.2 26)) 27 (hP.2.2 27))) dX7_start_80 (fun H locs hP hS => ?_)
  refine lv_iload hx hb dX7_start_83 (lv_at hl 0 rfl) ?_
  exact g_iret hQ C hr hlocks hP hS dX7_start_85 ⟨(v 23), rfl, rfl, rfl, rfl, rfl⟩

set_option maxHeartbeats 4000000 in
set_option maxRecDepth 100000 in
theorem c_X7_finish (l : Launch) (D : va_G) (k : Nat → ClassId) (A : Nat → Prop) (ad : Nat → Nat) (hD : rwD A k ad) (v : gV) (f g : gF) (a1 : Int) (a2 : Int) (a3 : Int) (h_a1 : inR a1) (h_a2 : inR a2) (h_a3 : inR a3) (h1 : 0 ≤ a1 ∧ a1 ≤ 299) (h2 : (-1) ≤ a2 ∧ a2 ≤ 1000999) (h3 : 0 ≤ a3 ∧ a3 ≤ 4) : GM l D k A (rwT k ad) yX7_finish cX7_finish 4 none 0 0 [.ref (ad 30), .int (iI a1), .int (iI a2), .int (iI a3)] v f g (fun r v1 f1 g1 => r = none ∧ v = v1 ∧ (va_up (va_up (va_up f 24 (u1 (f 24) a1 a2)) 26 (u1 (f 26) a1 a3)) 27 (u1 (f 27) ((f 20) a1) 0)) = f1 ∧ g = g1) := by
  refine GM.of (by decide) (Nat.le_of_ble_eq_true rfl) ?_
  intro p e s m args below meth c Q ls hQ C hml hr hlocks hP hl
  have hx := C.1
  have hb := C.2.1
  have hok := hP.2
  have hS : va_S A s.heap s.heap [] := va_S.rf
  have hl : lv_has ls 4 [(0, .ref (ad 30)), (1, .int (iI a1)), (2, .int (iI a2)), (3, .int (iI a3))] := hl
  have hP : gWd D (rwT k ad) v (va_up (va_up (va_up f 24 (f 24)) 26 (f 26)) 27 (f 27)) g s.heap := by rw [va_id, va_id, va_id]; exact hP
  refine lv_aload_n hx hb dX7_finish_0 rfl (lv_at hl 0 rfl) ?_
  refine rwG_tries_ended C hP mF_X7_24 dX7_finish_1 ?_
  refine lv_iload_n hx hb dX7_finish_4 rfl (lv_at hl 1 rfl) ?_
  refine lv_iload_n hx hb dX7_finish_5 rfl (lv_at hl 2 rfl) ?_
  refine rwS_tries_ended (f1 := (va_up (va_up (va_up f 24 (u1 (f 24) a1 a2)) 26 (f 26)) 27 (f 27))) C hP hD hS (by omega) (by omega) (by omega) rfl (Or.inr (gF_up (V := rwV) (F := rwF) (gF_up (V := rwV) (F := rwF) (gF_up (V := rwV) (F := rwF) ⟨hok.1, hok.2⟩ 24 (u1_rng (hP.2.2 24) (show (-1) ≤ a2 ∧ a2 ≤ 1000999 from (by omega)))) 26 (hP.2.2 26)) 27 (hP.2.2 27))) dX7_finish_6 (fun H locs hP hS => ?_)
  refine lv_aload_n hx hb dX7_finish_7 rfl (lv_at hl 0 rfl) ?_
  refine rwG_tries_how C hP mF_X7_30 dX7_finish_8 ?_
  refine lv_iload_n hx hb dX7_finish_11 rfl (lv_at hl 1 rfl) ?_
  refine lv_iload_n hx hb dX7_finish_12 rfl (lv_at hl 3 rfl) ?_
  refine rwS_tries_how (f1 := (va_up (va_up (va_up f 24 (u1 (f 24) a1 a2)) 26 (u1 (f 26) a1 a3)) 27 (f 27))) C hP hD hS (by omega) (by omega) (by omega) rfl (Or.inr (gF_up (V := rwV) (F := rwF) (gF_up (V := rwV) (F := rwF) (gF_up (V := rwV) (F := rwF) ⟨hok.1, hok.2⟩ 24 (hP.2.2 24)) 26 (u1_rng (hP.2.2 26) (show 0 ≤ a3 ∧ a3 ≤ 4 from (by omega)))) 27 (hP.2.2 27))) dX7_finish_13 (fun H locs hP hS => ?_)
  refine lv_aload_n hx hb dX7_finish_14 rfl (lv_at hl 0 rfl) ?_
  refine rwG_tries_openNext C hP mF_X7_33 dX7_finish_15 ?_
  refine lv_aload_n hx hb dX7_finish_18 rfl (lv_at hl 0 rfl) ?_
  refine rwG_tries_climber C hP mF_X7_9 dX7_finish_19 ?_
  refine lv_iload_n hx hb dX7_finish_22 rfl (lv_at hl 1 rfl) ?_
  refine rwL_tries_climber C hP (by omega) (by omega) dX7_finish_23 ?_
  show W p l e (gRm 0 0) s m args below meth c _ _ 0 0 Q (F0 m 24 ls [.int (iI (f 20 a1)), .ref (ad 38)])
  have r_1 : 0 ≤ (f 20 a1) ∧ (f 20 a1) ≤ 15 := hP.2.2 20 a1
  refine lv_iconst (v := iI 0) hx hb dX7_finish_24 rfl ?_
  refine rwS_tries_openNext (f1 := (va_up (va_up (va_up f 24 (u1 (f 24) a1 a2)) 26 (u1 (f 26) a1 a3)) 27 (u1 (f 27) (f 20 a1) 0))) C hP hD hS (by omega) (by omega) (by decide) rfl (Or.inr (gF_up (V := rwV) (F := rwF) (gF_up (V := rwV) (F := rwF) (gF_up (V := rwV) (F := rwF) ⟨hok.1, hok.2⟩ 24 (hP.2.2 24)) 26 (hP.2.2 26)) 27 (u1_rng (hP.2.2 27) (show 0 ≤ 0 ∧ 0 ≤ 300 from (by decide))))) dX7_finish_25 (fun H locs hP hS => ?_)
  exact g_vret hQ C hr hlocks hP hS dX7_finish_26 ⟨rfl, rfl, (by rw [show ((u1 (f 27) ((f 20) a1) 0) : Int → Int) = (u1 (f 27) (f 20 a1) 0) from rfl]), rfl⟩

set_option maxHeartbeats 4000000 in
set_option maxRecDepth 100000 in
theorem c_X7_isOf (l : Launch) (D : va_G) (k : Nat → ClassId) (A : Nat → Prop) (ad : Nat → Nat) (hD : rwD A k ad) (v : gV) (f g : gF) (a1 : Int) (a2 : Int) (a3 : Int) (a4 : Int) (h_a1 : inR a1) (h_a2 : inR a2) (h_a3 : inR a3) (h_a4 : inR a4) (h1 : 0 ≤ a1 ∧ a1 ≤ 299) : GM l D k A (rwT k ad) yX7_isOf cX7_isOf 5 (some .boolean) 0 0 [.ref (ad 30), .int (iI a1), .int (iI a2), .int (iI a3), .int (iI a4)] v f g (fun r v1 f1 g1 => ∃ (z : Int), r = some (.int (iI z)) ∧ v = v1 ∧ f = f1 ∧ g = g1 ∧ (z = (if (f 20) a1 = a2 ∧ (f 21) a1 = a3 ∧ (f 22) a1 = a4 then 1 else 0))) := by
  refine GM.of (by decide) (Nat.le_of_ble_eq_true rfl) ?_
  intro p e s m args below meth c Q ls hQ C hml hr hlocks hP hl
  have hx := C.1
  have hb := C.2.1
  have hok := hP.2
  have hS : va_S A s.heap s.heap [] := va_S.rf
  have hl : lv_has ls 5 [(0, .ref (ad 30)), (1, .int (iI a1)), (2, .int (iI a2)), (3, .int (iI a3)), (4, .int (iI a4))] := hl
  refine lv_aload_n hx hb dX7_isOf_0 rfl (lv_at hl 0 rfl) ?_
  refine rwG_tries_climber C hP mF_X7_9 dX7_isOf_1 ?_
  refine lv_iload_n hx hb dX7_isOf_4 rfl (lv_at hl 1 rfl) ?_
  refine rwL_tries_climber C hP (by omega) (by omega) dX7_isOf_5 ?_
  have r_1 : 0 ≤ (f 20 a1) ∧ (f 20 a1) ≤ 15 := hP.2.2 20 a1
  refine lv_iload_n hx hb dX7_isOf_6 rfl (lv_at hl 2 rfl) ?_
  refine gi_cne (tgt := 35) hx hb dX7_isOf_7 (by decide) (by omega) (by omega) (fun c_2 => ?_) (fun c_2 => ?_)
  · refine lv_iconst (v := iI 0) hx hb dX7_isOf_35 rfl ?_
    exact g_zret hQ C hr hlocks (by decide) hP hS dX7_isOf_36 ⟨0, rfl, rfl, rfl, rfl, (by first | omega | ((repeat' split) <;> omega))⟩
  · refine lv_aload_n hx hb dX7_isOf_10 rfl (lv_at hl 0 rfl) ?_
    refine rwG_tries_round C hP mF_X7_15 dX7_isOf_11 ?_
    refine lv_iload_n hx hb dX7_isOf_14 rfl (lv_at hl 1 rfl) ?_
    refine rwL_tries_round C hP (by omega) (by omega) dX7_isOf_15 ?_
    have r_3 : 0 ≤ (f 21 a1) ∧ (f 21 a1) ≤ 3 := hP.2.2 21 a1
    refine lv_iload_n hx hb dX7_isOf_16 rfl (lv_at hl 3 rfl) ?_
    refine gi_cne (tgt := 35) hx hb dX7_isOf_17 (by decide) (by omega) (by omega) (fun c_4 => ?_) (fun c_4 => ?_)
    · refine lv_iconst (v := iI 0) hx hb dX7_isOf_35 rfl ?_
      exact g_zret hQ C hr hlocks (by decide) hP hS dX7_isOf_36 ⟨0, rfl, rfl, rfl, rfl, (by first | omega | ((repeat' split) <;> omega))⟩
    · refine lv_aload_n hx hb dX7_isOf_20 rfl (lv_at hl 0 rfl) ?_
      refine rwG_tries_route C hP mF_X7_18 dX7_isOf_21 ?_
      refine lv_iload_n hx hb dX7_isOf_24 rfl (lv_at hl 1 rfl) ?_
      refine rwL_tries_route C hP (by omega) (by omega) dX7_isOf_25 ?_
      have r_5 : 0 ≤ (f 22 a1) ∧ (f 22 a1) ≤ 4 := hP.2.2 22 a1
      refine lv_iload hx hb dX7_isOf_26 (lv_at hl 4 rfl) ?_
      refine gi_cne (tgt := 35) hx hb dX7_isOf_28 (by decide) (by omega) (by omega) (fun c_6 => ?_) (fun c_6 => ?_)
      · refine lv_iconst (v := iI 0) hx hb dX7_isOf_35 rfl ?_
        exact g_zret hQ C hr hlocks (by decide) hP hS dX7_isOf_36 ⟨0, rfl, rfl, rfl, rfl, (by first | omega | ((repeat' split) <;> omega))⟩
      · refine lv_iconst (v := iI 1) hx hb dX7_isOf_31 rfl ?_
        refine lv_goto (tgt := 36) hx hb dX7_isOf_32 (by decide) ?_
        exact g_zret hQ C hr hlocks (by decide) hP hS dX7_isOf_36 ⟨1, rfl, rfl, rfl, rfl, (by first | omega | ((repeat' split) <;> omega))⟩

set_option maxHeartbeats 4000000 in
set_option maxRecDepth 100000 in
theorem c_X0_clear (l : Launch) (D : va_G) (k : Nat → ClassId) (A : Nat → Prop) (ad : Nat → Nat) (hD : rwD A k ad) (v : gV) (f g : gF) : GM l D k A (rwT k ad) yX0_clear cX0_clear 1 none 0 0 [.ref (ad 39)] v f g (fun r v1 f1 g1 => r = none ∧ (va_up v 24 0) = v1 ∧ f = f1 ∧ g = g1) := by
  refine GM.of (by decide) (Nat.le_of_ble_eq_true rfl) ?_
  intro p e s m args below meth c Q ls hQ C hml hr hlocks hP hl
  have hx := C.1
  have hb := C.2.1
  have hok := hP.2
  have hS : va_S A s.heap s.heap [] := va_S.rf
  have hl : lv_has ls 1 [(0, .ref (ad 39))] := hl
  have hP : gWd D (rwT k ad) (va_up v 24 (v 24)) f g s.heap := by rw [va_id]; exact hP
  refine lv_aload_n hx hb dX0_clear_0 rfl (lv_at hl 0 rfl) ?_
  refine lv_iconst (v := iI 0) hx hb dX0_clear_1 rfl ?_
  refine rwP_appeals_many (v1 := (va_up v 24 0)) C hP hD hS mF_X0_21 (by decide) rfl (Or.inr (gR_up (V := rwV) (F := rwF) ⟨hok.1, hok.2⟩ 24 (show 0 ≤ 0 ∧ 0 ≤ 40 from by decide))) dX0_clear_2 (fun H locs hP hS => ?_)
  exact g_vret hQ C hr hlocks hP hS dX0_clear_5 ⟨rfl, rfl, rfl, rfl⟩

set_option maxHeartbeats 4000000 in
set_option maxRecDepth 100000 in
theorem c_X0_put (l : Launch) (D : va_G) (k : Nat → ClassId) (A : Nat → Prop) (ad : Nat → Nat) (hD : rwD A k ad) (v : gV) (f g : gF) (a1 : Int) (a2 : Int) (a3 : Int) (h_a1 : inR a1) (h_a2 : inR a2) (h_a3 : inR a3) (h0 : (v 24) < 40) (h1 : 0 ≤ a1 ∧ a1 ≤ 299) (h2 : 0 ≤ a2 ∧ a2 ≤ 60) (h3 : 0 ≤ a3 ∧ a3 ≤ 999) : GM l D k A (rwT k ad) yX0_put cX0_put 4 none 0 0 [.ref (ad 39), .int (iI a1), .int (iI a2), .int (iI a3)] v f g (fun r v1 f1 g1 => r = none ∧ (va_up v 24 ((v 24) + 1)) = v1 ∧ (va_up (va_up (va_up f 28 (u1 (f 28) (v 24) a1)) 29 (u1 (f 29) (v 24) a2)) 30 (u1 (f 30) (v 24) a3)) = f1 ∧ g = g1) := by
  refine GM.of (by decide) (Nat.le_of_ble_eq_true rfl) ?_
  intro p e s m args below meth c Q ls hQ C hml hr hlocks hP hl
  have hx := C.1
  have hb := C.2.1
  have hok := hP.2
  have hS : va_S A s.heap s.heap [] := va_S.rf
  have hl : lv_has ls 4 [(0, .ref (ad 39)), (1, .int (iI a1)), (2, .int (iI a2)), (3, .int (iI a3))] := hl
  have hP : gWd D (rwT k ad) (va_up v 24 (v 24)) (va_up (va_up (va_up f 28 (f 28)) 29 (f 29)) 30 (f 30)) g s.heap := by rw [va_id, va_id, va_id, va_id]; exact hP
  refine lv_aload_n hx hb dX0_put_0 rfl (lv_at hl 0 rfl) ?_
  refine rwG_appeals_number C hP mF_X0_9 dX0_put_1 ?_
  refine lv_aload_n hx hb dX0_put_4 rfl (lv_at hl 0 rfl) ?_
  refine rwG_appeals_many C hP mF_X0_21 dX0_put_5 ?_
  show W p l e (gRm 0 0) s m args below meth c _ _ 0 0 Q (F0 m 8 ls [.int (iI (v 24)), .ref (ad 40)])
  have r_1 : 0 ≤ (v 24) ∧ (v 24) ≤ 40 := hok.1 24
  refine lv_iload_n hx hb dX0_put_8 rfl (lv_at hl 1 rfl) ?_
  refine rwS_appeals_number (f1 := (va_up (va_up (va_up f 28 (u1 (f 28) (v 24) a1)) 29 (f 29)) 30 (f 30))) C hP hD hS (by omega) (by omega) (by omega) rfl (Or.inr (gF_up (V := rwV) (F := rwF) (gF_up (V := rwV) (F := rwF) (gF_up (V := rwV) (F := rwF) (gR_up (V := rwV) (F := rwF) ⟨hok.1, hok.2⟩ 24 (hP.2.1 24)) 28 (u1_rng (hP.2.2 28) (show 0 ≤ a1 ∧ a1 ≤ 299 from (by omega)))) 29 (hP.2.2 29)) 30 (hP.2.2 30))) dX0_put_9 (fun H locs hP hS => ?_)
  refine lv_aload_n hx hb dX0_put_10 rfl (lv_at hl 0 rfl) ?_
  refine rwG_appeals_hold C hP mF_X0_15 dX0_put_11 ?_
  refine lv_aload_n hx hb dX0_put_14 rfl (lv_at hl 0 rfl) ?_
  refine rwG_appeals_many C hP mF_X0_21 dX0_put_15 ?_
  show W p l e (gRm 0 0) s m args below meth c _ _ 0 0 Q (F0 m 18 ls [.int (iI (v 24)), .ref (ad 41)])
  refine lv_iload_n hx hb dX0_put_18 rfl (lv_at hl 2 rfl) ?_
  refine rwS_appeals_hold (f1 := (va_up (va_up (va_up f 28 (u1 (f 28) (v 24) a1)) 29 (u1 (f 29) (v 24) a2)) 30 (f 30))) C hP hD hS (by omega) (by omega) (by omega) rfl (Or.inr (gF_up (V := rwV) (F := rwF) (gF_up (V := rwV) (F := rwF) (gF_up (V := rwV) (F := rwF) (gR_up (V := rwV) (F := rwF) ⟨hok.1, hok.2⟩ 24 (hP.2.1 24)) 28 (hP.2.2 28)) 29 (u1_rng (hP.2.2 29) (show 0 ≤ a2 ∧ a2 ≤ 60 from (by omega)))) 30 (hP.2.2 30))) dX0_put_19 (fun H locs hP hS => ?_)
  refine lv_aload_n hx hb dX0_put_20 rfl (lv_at hl 0 rfl) ?_
  refine rwG_appeals_day C hP mF_X0_18 dX0_put_21 ?_
  refine lv_aload_n hx hb dX0_put_24 rfl (lv_at hl 0 rfl) ?_
  refine rwG_appeals_many C hP mF_X0_21 dX0_put_25 ?_
  show W p l e (gRm 0 0) s m args below meth c _ _ 0 0 Q (F0 m 28 ls [.int (iI (v 24)), .ref (ad 42)])
  refine lv_iload_n hx hb dX0_put_28 rfl (lv_at hl 3 rfl) ?_
  refine rwS_appeals_day (f1 := (va_up (va_up (va_up f 28 (u1 (f 28) (v 24) a1)) 29 (u1 (f 29) (v 24) a2)) 30 (u1 (f 30) (v 24) a3))) C hP hD hS (by omega) (by omega) (by omega) rfl (Or.inr (gF_up (V := rwV) (F := rwF) (gF_up (V := rwV) (F := rwF) (gF_up (V := rwV) (F := rwF) (gR_up (V := rwV) (F := rwF) ⟨hok.1, hok.2⟩ 24 (hP.2.1 24)) 28 (hP.2.2 28)) 29 (hP.2.2 29)) 30 (u1_rng (hP.2.2 30) (show 0 ≤ a3 ∧ a3 ≤ 999 from (by omega))))) dX0_put_29 (fun H locs hP hS => ?_)
  refine lv_aload_n hx hb dX0_put_30 rfl (lv_at hl 0 rfl) ?_
  refine lv_dup hx hb dX0_put_31 rfl ?_
  refine rwG_appeals_many C hP mF_X0_21 dX0_put_32 ?_
  show W p l e (gRm 0 0) s m args below meth c _ _ 0 0 Q (F0 m 35 ls [.int (iI (v 24)), .ref (ad 39)])
  refine lv_iconst (v := iI 1) hx hb dX0_put_35 rfl ?_
  refine gi_add (z := ((v 24) + 1)) hx hb dX0_put_36 rfl ?_
  refine rwP_appeals_many (v1 := (va_up v 24 ((v 24) + 1))) C hP hD hS mF_X0_21 (by omega) rfl (Or.inr (gF_up (V := rwV) (F := rwF) (gF_up (V := rwV) (F := rwF) (gF_up (V := rwV) (F := rwF) (gR_up (V := rwV) (F := rwF) ⟨hok.1, hok.2⟩ 24 (show 0 ≤ ((v 24) + 1) ∧ ((v 24) + 1) ≤ 40 from by omega)) 28 (hP.2.2 28)) 29 (hP.2.2 29)) 30 (hP.2.2 30))) dX0_put_37 (fun H locs hP hS => ?_)
  exact g_vret hQ C hr hlocks hP hS dX0_put_40 ⟨rfl, rfl, rfl, rfl⟩

set_option maxHeartbeats 4000000 in
set_option maxRecDepth 100000 in
theorem c_X9_clear (l : Launch) (D : va_G) (k : Nat → ClassId) (A : Nat → Prop) (ad : Nat → Nat) (hD : rwD A k ad) (v : gV) (f g : gF) : GM l D k A (rwT k ad) yX9_clear cX9_clear 1 none 1 23 [.ref (ad 43)] v f g (fun r v1 f1 g1 => r = none ∧ v = v1 ∧ (va_up f 31 (gfill (f 31) 16 0)) = f1 ∧ g = g1) := by
  refine GM.of (by decide) (Nat.le_of_ble_eq_true rfl) ?_
  intro p e s m args below meth c Q ls hQ C hml hr hlocks hP hl
  have hx := C.1
  have hb := C.2.1
  have hok := hP.2
  have hS : va_S A s.heap s.heap [] := va_S.rf
  have hl : lv_has ls 1 [(0, .ref (ad 43))] := hl
  have hP : gWd D (rwT k ad) v (va_up f 31 (f 31)) g s.heap := by rw [va_id]; exact hP
  refine lv_aload_n hx hb dX9_clear_0 rfl (lv_at hl 0 rfl) ?_
  refine rwG_watch_times C hP mF_X9_9 dX9_clear_1 ?_
  refine lv_iconst (v := iI 0) hx hb dX9_clear_4 rfl ?_
  refine g_cs (As := [.ref (ad 44), .int (iI 0)]) (rest := []) (n := 2) C hml (c_fillI l D k A (rwT k ad) (ad 44) 44 31 16 (fun _ _ _ => rfl) (fun _ _ _ _ => rfl) hD (by decide) v (va_up f 31 (f 31)) g 0 (by decide) (show 0 ≤ 0 ∧ 0 ≤ 20 from (by decide))) mM_X9_21 mS_J7_fill_53178 mN_J7 mC_J7_fill_53178 (by decide +kernel) hP hS (fun _ h => h) ⟨Nat.le_of_ble_eq_true rfl, Nat.le_of_ble_eq_true rfl⟩ ⟨Nat.zero_le _, Nat.zero_le _⟩ hl.1 rfl rfl (Nat.le_of_ble_eq_true rfl) dX9_clear_5 (fun r v1 f1 g1 H locs hq hP _ hS => ?_)
  obtain ⟨rfl, rfl, rfl, rfl⟩ := hq
  show W p l e (gRm 1 23) s m args below meth c _ _ 0 0 Q (F0 m 8 ls [])
  have hP : gWd D (rwT k ad) v (va_up f 31 (gfill (f 31) 16 0)) g H := ⟨hP.1, (gF_up (V := rwV) (F := rwF) ⟨hok.1, hok.2⟩ 31 (hP.2.2 31))⟩
  exact g_vret hQ C hr hlocks hP hS dX9_clear_8 ⟨rfl, rfl, rfl, rfl⟩

set_option maxHeartbeats 4000000 in
set_option maxRecDepth 100000 in
theorem c_X9_latest (l : Launch) (D : va_G) (k : Nat → ClassId) (A : Nat → Prop) (ad : Nat → Nat) (hD : rwD A k ad) (v : gV) (f g : gF) (a1 : Int) (h_a1 : inR a1) (hc : 0 ≤ a1 ∧ a1 ≤ 15) : GM l D k A (rwT k ad) yX9_latest cX9_latest 2 (some .int) 0 0 [.ref (ad 43), .int (iI a1)] v f g (fun r v1 f1 g1 => ∃ (z : Int), r = some (.int (iI z)) ∧ v = v1 ∧ f = f1 ∧ g = g1 ∧ (z = (a1 * 20 + (f 31) a1 - 1)) ∧ (z = a1 * 20 + (f 31) a1 - 1 ∧ 0 ≤ (f 31) a1 ∧ (f 31) a1 ≤ 20)) := by
  refine GM.of (by decide) (Nat.le_of_ble_eq_true rfl) ?_
  intro p e s m args below meth c Q ls hQ C hml hr hlocks hP hl
  have hx := C.1
  have hb := C.2.1
  have hok := hP.2
  have hS : va_S A s.heap s.heap [] := va_S.rf
  have hl : lv_has ls 2 [(0, .ref (ad 43)), (1, .int (iI a1))] := hl
  refine lv_iload_n hx hb dX9_latest_0 rfl (lv_at hl 1 rfl) ?_
  refine lv_bipush (v := iI 20) hx hb dX9_latest_1 (by decide) ?_
  refine gi_mul (z := (a1 * 20)) hx hb dX9_latest_3 rfl ?_
  refine lv_aload_n hx hb dX9_latest_4 rfl (lv_at hl 0 rfl) ?_
  refine rwG_watch_times C hP mF_X9_9 dX9_latest_5 ?_
  refine lv_iload_n hx hb dX9_latest_8 rfl (lv_at hl 1 rfl) ?_
  refine rwL_watch_times C hP (by omega) (by omega) dX9_latest_9 ?_
  have r_1 : 0 ≤ (f 31 a1) ∧ (f 31 a1) ≤ 20 := hP.2.2 31 a1
  refine gi_add (z := ((a1 * 20) + (f 31 a1))) hx hb dX9_latest_10 rfl ?_
  refine lv_iconst (v := iI 1) hx hb dX9_latest_11 rfl ?_
  refine gi_sub (z := (((a1 * 20) + (f 31 a1)) - 1)) hx hb dX9_latest_12 rfl ?_
  exact g_iret hQ C hr hlocks hP hS dX9_latest_13 ⟨(((a1 * 20) + (f 31 a1)) - 1), rfl, rfl, rfl, rfl, (by first | omega | ((repeat' split) <;> omega)), (by first | omega | ((repeat' split) <;> omega))⟩

set_option maxHeartbeats 4000000 in
set_option maxRecDepth 100000 in
theorem x_Ro_zonesCanBe (l : Launch) (D : va_G) (k : Nat → ClassId) (A : Nat → Prop) (ad : Nat → Nat) (hD : rwD A k ad) (v : gV) (f g : gF) (a1 : Int) (a2 : Int) (a3 : Int) (a4 : Int) (h_a1 : inR a1) (h_a2 : inR a2) (h_a3 : inR a3) (h_a4 : inR a4) : GM l D k A (rwT k ad) yX10_zonesCanBe cX10_zonesCanBe 4 (some .boolean) 1 23 [.int (iI a1), .int (iI a2), .int (iI a3), .int (iI a4)] v f g (fun r v1 f1 g1 => ∃ (z : Int), r = some (.int (iI z)) ∧ v = v1 ∧ f = f1 ∧ g = g1 ∧ (z = (if (a2 = 0 ∨ (0 < a2 ∧ a2 ≤ a1)) ∧ (a3 = 0 ∨ (a2 ≠ 0 ∧ a2 < a3 ∧ a3 ≤ a1)) ∧ (a4 = 0 ∨ (a3 ≠ 0 ∧ a3 < a4 ∧ a4 ≤ a1)) then 1 else 0))) := by
  refine GM.of (by decide) (Nat.le_of_ble_eq_true rfl) ?_
  intro p e s m args below meth c Q ls hQ C hml hr hlocks hP hl
  have hx := C.1
  have hb := C.2.1
  have hok := hP.2
  have hS : va_S A s.heap s.heap [] := va_S.rf
  have hl : lv_has ls 4 [(0, .int (iI a1)), (1, .int (iI a2)), (2, .int (iI a3)), (3, .int (iI a4))] := hl
  refine lv_iload_n hx hb dX10_zonesCanBe_0 rfl (lv_at hl 0 rfl) ?_
  refine lv_iload_n hx hb dX10_zonesCanBe_1 rfl (lv_at hl 1 rfl) ?_
  refine lv_iconst (v := iI 0) hx hb dX10_zonesCanBe_2 rfl ?_
  refine lv_iconst (v := iI 1) hx hb dX10_zonesCanBe_3 rfl ?_
  refine g_cs (As := [.int (iI a1), .int (iI a2), .int (iI 0), .int (iI 1)]) (rest := []) (n := 4) C hml (c_X10_zoneCanBe l D k A ad hD v f g a1 a2 0 1 (by omega) (by omega) (by decide) (by decide)) mM_X10_309 mS_X10_zoneCanBe mN_X10 mC_X10_zoneCanBe (by decide +kernel) hP hS (fun _ h => h) ⟨Nat.le_of_ble_eq_true rfl, Nat.le_of_ble_eq_true rfl⟩ ⟨Nat.zero_le _, Nat.zero_le _⟩ hl.1 rfl rfl (Nat.le_of_ble_eq_true rfl) dX10_zonesCanBe_4 (fun r_1 v_1 f_1 g_1 H locs hq_1 hP _ hS => ?_)
  obtain ⟨z_1, rfl, rfl, rfl, rfl, p0_1⟩ := hq_1
  show W p l e (gRm 1 23) s m args below meth c _ _ 0 0 Q (F0 m 7 ls [.int (iI z_1)])
  replace p0_1 : z_1 = (if a2 = 0 ∨ ((1 : Int) ≠ 0 ∧ (0 : Int) < a2 ∧ a2 ≤ a1) then 1 else 0) := p0_1
  have w_1 := gif (P := a2 = 0 ∨ ((1 : Int) ≠ 0 ∧ (0 : Int) < a2 ∧ a2 ≤ a1)) p0_1
  clear p0_1
  have hz_1 : inR z_1 := (by first | omega | (rw [p0_1]; split <;> omega))
  refine gi_zeq (tgt := 50) hx hb dX10_zonesCanBe_7 (by decide) (by omega) (fun c_2 => ?_) (fun c_2 => ?_)
  · have vz_1 := gif0 w_1 c_2
    clear w_1
    refine lv_iconst (v := iI 0) hx hb dX10_zonesCanBe_50 rfl ?_
    exact g_zret hQ C hr hlocks (by decide) hP hS dX10_zonesCanBe_51 ⟨0, rfl, rfl, rfl, rfl, (by first | omega | ((repeat' split) <;> omega))⟩
  · have vz_1 := gif1 w_1 c_2
    clear w_1
    refine lv_iload_n hx hb dX10_zonesCanBe_10 rfl (lv_at hl 0 rfl) ?_
    refine lv_iload_n hx hb dX10_zonesCanBe_11 rfl (lv_at hl 2 rfl) ?_
    refine lv_iload_n hx hb dX10_zonesCanBe_12 rfl (lv_at hl 1 rfl) ?_
    refine lv_iload_n hx hb dX10_zonesCanBe_13 rfl (lv_at hl 1 rfl) ?_
    refine gi_zeq (tgt := 21) hx hb dX10_zonesCanBe_14 (by decide) (by omega) (fun c_3 => ?_) (fun c_3 => ?_)
    · refine lv_iconst (v := iI 0) hx hb dX10_zonesCanBe_21 rfl ?_
      refine g_cs (As := [.int (iI a1), .int (iI a3), .int (iI a2), .int (iI 0)]) (rest := []) (n := 4) C hml (c_X10_zoneCanBe l D k A ad hD v f g a1 a3 a2 0 (by omega) (by omega) (by omega) (by decide)) mM_X10_309 mS_X10_zoneCanBe mN_X10 mC_X10_zoneCanBe (by decide +kernel) hP hS (fun _ h => h) ⟨Nat.le_of_ble_eq_true rfl, Nat.le_of_ble_eq_true rfl⟩ ⟨Nat.zero_le _, Nat.zero_le _⟩ hl.1 rfl rfl (Nat.le_of_ble_eq_true rfl) dX10_zonesCanBe_22 (fun r_4 v_4 f_4 g_4 H locs hq_4 hP _ hS => ?_)
      obtain ⟨z_4, rfl, rfl, rfl, rfl, p0_4⟩ := hq_4
      show W p l e (gRm 1 23) s m args below meth c _ _ 0 0 Q (F0 m 25 ls [.int (iI z_4)])
      replace p0_4 : z_4 = (if a3 = 0 ∨ ((0 : Int) ≠ 0 ∧ a2 < a3 ∧ a3 ≤ a1) then 1 else 0) := p0_4
      have w_4 := gif (P := a3 = 0 ∨ ((0 : Int) ≠ 0 ∧ a2 < a3 ∧ a3 ≤ a1)) p0_4
      clear p0_4
      have hz_4 : inR z_4 := (by first | omega | (rw [p0_4]; split <;> omega))
      refine gi_zeq (tgt := 50) hx hb dX10_zonesCanBe_25 (by decide) (by omega) (fun c_5 => ?_) (fun c_5 => ?_)
      · have vz_4 := gif0 w_4 c_5
        clear w_4
        refine lv_iconst (v := iI 0) hx hb dX10_zonesCanBe_50 rfl ?_
        exact g_zret hQ C hr hlocks (by decide) hP hS dX10_zonesCanBe_51 ⟨0, rfl, rfl, rfl, rfl, (by first | omega | ((repeat' split) <;> omega))⟩
      · have vz_4 := gif1 w_4 c_5
        clear w_4
        refine lv_iload_n hx hb dX10_zonesCanBe_28 rfl (lv_at hl 0 rfl) ?_
        refine lv_iload_n hx hb dX10_zonesCanBe_29 rfl (lv_at hl 3 rfl) ?_
        refine lv_iload_n hx hb dX10_zonesCanBe_30 rfl (lv_at hl 2 rfl) ?_
        refine lv_iload_n hx hb dX10_zonesCanBe_31 rfl (lv_at hl 2 rfl) ?_
        refine gi_zeq (tgt := 39) hx hb dX10_zonesCanBe_32 (by decide) (by omega) (fun c_6 => ?_) (fun c_6 => ?_)
        · refine lv_iconst (v := iI 0) hx hb dX10_zonesCanBe_39 rfl ?_
          refine g_cs (As := [.int (iI a1), .int (iI a4), .int (iI a3), .int (iI 0)]) (rest := []) (n := 4) C hml (c_X10_zoneCanBe l D k A ad hD v f g a1 a4 a3 0 (by omega) (by omega) (by omega) (by decide)) mM_X10_309 mS_X10_zoneCanBe mN_X10 mC_X10_zoneCanBe (by decide +kernel) hP hS (fun _ h => h) ⟨Nat.le_of_ble_eq_true rfl, Nat.le_of_ble_eq_true rfl⟩ ⟨Nat.zero_le _, Nat.zero_le _⟩ hl.1 rfl rfl (Nat.le_of_ble_eq_true rfl) dX10_zonesCanBe_40 (fun r_7 v_7 f_7 g_7 H locs hq_7 hP _ hS => ?_)
          obtain ⟨z_7, rfl, rfl, rfl, rfl, p0_7⟩ := hq_7
          show W p l e (gRm 1 23) s m args below meth c _ _ 0 0 Q (F0 m 43 ls [.int (iI z_7)])
          replace p0_7 : z_7 = (if a4 = 0 ∨ ((0 : Int) ≠ 0 ∧ a3 < a4 ∧ a4 ≤ a1) then 1 else 0) := p0_7
          have w_7 := gif (P := a4 = 0 ∨ ((0 : Int) ≠ 0 ∧ a3 < a4 ∧ a4 ≤ a1)) p0_7
          clear p0_7
          have hz_7 : inR z_7 := (by first | omega | (rw [p0_7]; split <;> omega))
          refine gi_zeq (tgt := 50) hx hb dX10_zonesCanBe_43 (by decide) (by omega) (fun c_8 => ?_) (fun c_8 => ?_)
          · have vz_7 := gif0 w_7 c_8
            clear w_7
            refine lv_iconst (v := iI 0) hx hb dX10_zonesCanBe_50 rfl ?_
            exact g_zret hQ C hr hlocks (by decide) hP hS dX10_zonesCanBe_51 ⟨0, rfl, rfl, rfl, rfl, (by first | omega | ((repeat' split) <;> omega))⟩
          · have vz_7 := gif1 w_7 c_8
            clear w_7
            refine lv_iconst (v := iI 1) hx hb dX10_zonesCanBe_46 rfl ?_
            refine lv_goto (tgt := 51) hx hb dX10_zonesCanBe_47 (by decide) ?_
            exact g_zret hQ C hr hlocks (by decide) hP hS dX10_zonesCanBe_51 ⟨1, rfl, rfl, rfl, rfl, (by first | omega | ((repeat' split) <;> omega))⟩
        · refine lv_iconst (v := iI 1) hx hb dX10_zonesCanBe_35 rfl ?_
          refine lv_goto (tgt := 40) hx hb dX10_zonesCanBe_36 (by decide) ?_
          refine g_cs (As := [.int (iI a1), .int (iI a4), .int (iI a3), .int (iI 1)]) (rest := []) (n := 4) C hml (c_X10_zoneCanBe l D k A ad hD v f g a1 a4 a3 1 (by omega) (by omega) (by omega) (by decide)) mM_X10_309 mS_X10_zoneCanBe mN_X10 mC_X10_zoneCanBe (by decide +kernel) hP hS (fun _ h => h) ⟨Nat.le_of_ble_eq_true rfl, Nat.le_of_ble_eq_true rfl⟩ ⟨Nat.zero_le _, Nat.zero_le _⟩ hl.1 rfl rfl (Nat.le_of_ble_eq_true rfl) dX10_zonesCanBe_40 (fun r_9 v_9 f_9 g_9 H locs hq_9 hP _ hS => ?_)
          obtain ⟨z_9, rfl, rfl, rfl, rfl, p0_9⟩ := hq_9
          show W p l e (gRm 1 23) s m args below meth c _ _ 0 0 Q (F0 m 43 ls [.int (iI z_9)])
          replace p0_9 : z_9 = (if a4 = 0 ∨ ((1 : Int) ≠ 0 ∧ a3 < a4 ∧ a4 ≤ a1) then 1 else 0) := p0_9
          have w_9 := gif (P := a4 = 0 ∨ ((1 : Int) ≠ 0 ∧ a3 < a4 ∧ a4 ≤ a1)) p0_9
          clear p0_9
          have hz_9 : inR z_9 := (by first | omega | (rw [p0_9]; split <;> omega))
          refine gi_zeq (tgt := 50) hx hb dX10_zonesCanBe_43 (by decide) (by omega) (fun c_10 => ?_) (fun c_10 => ?_)
          · have vz_9 := gif0 w_9 c_10
            clear w_9
            refine lv_iconst (v := iI 0) hx hb dX10_zonesCanBe_50 rfl ?_
            exact g_zret hQ C hr hlocks (by decide) hP hS dX10_zonesCanBe_51 ⟨0, rfl, rfl, rfl, rfl, (by first | omega | ((repeat' split) <;> omega))⟩
          · have vz_9 := gif1 w_9 c_10
            clear w_9
            refine lv_iconst (v := iI 1) hx hb dX10_zonesCanBe_46 rfl ?_
            refine lv_goto (tgt := 51) hx hb dX10_zonesCanBe_47 (by decide) ?_
            exact g_zret hQ C hr hlocks (by decide) hP hS dX10_zonesCanBe_51 ⟨1, rfl, rfl, rfl, rfl, (by first | omega | ((repeat' split) <;> omega))⟩
    · refine lv_iconst (v := iI 1) hx hb dX10_zonesCanBe_17 rfl ?_
      refine lv_goto (tgt := 22) hx hb dX10_zonesCanBe_18 (by decide) ?_
      refine g_cs (As := [.int (iI a1), .int (iI a3), .int (iI a2), .int (iI 1)]) (rest := []) (n := 4) C hml (c_X10_zoneCanBe l D k A ad hD v f g a1 a3 a2 1 (by omega) (by omega) (by omega) (by decide)) mM_X10_309 mS_X10_zoneCanBe mN_X10 mC_X10_zoneCanBe (by decide +kernel) hP hS (fun _ h => h) ⟨Nat.le_of_ble_eq_true rfl, Nat.le_of_ble_eq_true rfl⟩ ⟨Nat.zero_le _, Nat.zero_le _⟩ hl.1 rfl rfl (Nat.le_of_ble_eq_true rfl) dX10_zonesCanBe_22 (fun r_11 v_11 f_11 g_11 H locs hq_11 hP _ hS => ?_)
      obtain ⟨z_11, rfl, rfl, rfl, rfl, p0_11⟩ := hq_11
      show W p l e (gRm 1 23) s m args below meth c _ _ 0 0 Q (F0 m 25 ls [.int (iI z_11)])
      replace p0_11 : z_11 = (if a3 = 0 ∨ ((1 : Int) ≠ 0 ∧ a2 < a3 ∧ a3 ≤ a1) then 1 else 0) := p0_11
      have w_11 := gif (P := a3 = 0 ∨ ((1 : Int) ≠ 0 ∧ a2 < a3 ∧ a3 ≤ a1)) p0_11
      clear p0_11
      have hz_11 : inR z_11 := (by first | omega | (rw [p0_11]; split <;> omega))
      refine gi_zeq (tgt := 50) hx hb dX10_zonesCanBe_25 (by decide) (by omega) (fun c_12 => ?_) (fun c_12 => ?_)
      · have vz_11 := gif0 w_11 c_12
        clear w_11
        refine lv_iconst (v := iI 0) hx hb dX10_zonesCanBe_50 rfl ?_
        exact g_zret hQ C hr hlocks (by decide) hP hS dX10_zonesCanBe_51 ⟨0, rfl, rfl, rfl, rfl, (by first | omega | ((repeat' split) <;> omega))⟩
      · have vz_11 := gif1 w_11 c_12
        clear w_11
        refine lv_iload_n hx hb dX10_zonesCanBe_28 rfl (lv_at hl 0 rfl) ?_
        refine lv_iload_n hx hb dX10_zonesCanBe_29 rfl (lv_at hl 3 rfl) ?_
        refine lv_iload_n hx hb dX10_zonesCanBe_30 rfl (lv_at hl 2 rfl) ?_
        refine lv_iload_n hx hb dX10_zonesCanBe_31 rfl (lv_at hl 2 rfl) ?_
        refine gi_zeq (tgt := 39) hx hb dX10_zonesCanBe_32 (by decide) (by omega) (fun c_13 => ?_) (fun c_13 => ?_)
        · refine lv_iconst (v := iI 0) hx hb dX10_zonesCanBe_39 rfl ?_
          refine g_cs (As := [.int (iI a1), .int (iI a4), .int (iI a3), .int (iI 0)]) (rest := []) (n := 4) C hml (c_X10_zoneCanBe l D k A ad hD v f g a1 a4 a3 0 (by omega) (by omega) (by omega) (by decide)) mM_X10_309 mS_X10_zoneCanBe mN_X10 mC_X10_zoneCanBe (by decide +kernel) hP hS (fun _ h => h) ⟨Nat.le_of_ble_eq_true rfl, Nat.le_of_ble_eq_true rfl⟩ ⟨Nat.zero_le _, Nat.zero_le _⟩ hl.1 rfl rfl (Nat.le_of_ble_eq_true rfl) dX10_zonesCanBe_40 (fun r_14 v_14 f_14 g_14 H locs hq_14 hP _ hS => ?_)
          obtain ⟨z_14, rfl, rfl, rfl, rfl, p0_14⟩ := hq_14
          show W p l e (gRm 1 23) s m args below meth c _ _ 0 0 Q (F0 m 43 ls [.int (iI z_14)])
          replace p0_14 : z_14 = (if a4 = 0 ∨ ((0 : Int) ≠ 0 ∧ a3 < a4 ∧ a4 ≤ a1) then 1 else 0) := p0_14
          have w_14 := gif (P := a4 = 0 ∨ ((0 : Int) ≠ 0 ∧ a3 < a4 ∧ a4 ≤ a1)) p0_14
          clear p0_14
          have hz_14 : inR z_14 := (by first | omega | (rw [p0_14]; split <;> omega))
          refine gi_zeq (tgt := 50) hx hb dX10_zonesCanBe_43 (by decide) (by omega) (fun c_15 => ?_) (fun c_15 => ?_)
          · have vz_14 := gif0 w_14 c_15
            clear w_14
            refine lv_iconst (v := iI 0) hx hb dX10_zonesCanBe_50 rfl ?_
            exact g_zret hQ C hr hlocks (by decide) hP hS dX10_zonesCanBe_51 ⟨0, rfl, rfl, rfl, rfl, (by first | omega | ((repeat' split) <;> omega))⟩
          · have vz_14 := gif1 w_14 c_15
            clear w_14
            refine lv_iconst (v := iI 1) hx hb dX10_zonesCanBe_46 rfl ?_
            refine lv_goto (tgt := 51) hx hb dX10_zonesCanBe_47 (by decide) ?_
            exact g_zret hQ C hr hlocks (by decide) hP hS dX10_zonesCanBe_51 ⟨1, rfl, rfl, rfl, rfl, (by first | omega | ((repeat' split) <;> omega))⟩
        · refine lv_iconst (v := iI 1) hx hb dX10_zonesCanBe_35 rfl ?_
          refine lv_goto (tgt := 40) hx hb dX10_zonesCanBe_36 (by decide) ?_
          refine g_cs (As := [.int (iI a1), .int (iI a4), .int (iI a3), .int (iI 1)]) (rest := []) (n := 4) C hml (c_X10_zoneCanBe l D k A ad hD v f g a1 a4 a3 1 (by omega) (by omega) (by omega) (by decide)) mM_X10_309 mS_X10_zoneCanBe mN_X10 mC_X10_zoneCanBe (by decide +kernel) hP hS (fun _ h => h) ⟨Nat.le_of_ble_eq_true rfl, Nat.le_of_ble_eq_true rfl⟩ ⟨Nat.zero_le _, Nat.zero_le _⟩ hl.1 rfl rfl (Nat.le_of_ble_eq_true rfl) dX10_zonesCanBe_40 (fun r_16 v_16 f_16 g_16 H locs hq_16 hP _ hS => ?_)
          obtain ⟨z_16, rfl, rfl, rfl, rfl, p0_16⟩ := hq_16
          show W p l e (gRm 1 23) s m args below meth c _ _ 0 0 Q (F0 m 43 ls [.int (iI z_16)])
          replace p0_16 : z_16 = (if a4 = 0 ∨ ((1 : Int) ≠ 0 ∧ a3 < a4 ∧ a4 ≤ a1) then 1 else 0) := p0_16
          have w_16 := gif (P := a4 = 0 ∨ ((1 : Int) ≠ 0 ∧ a3 < a4 ∧ a4 ≤ a1)) p0_16
          clear p0_16
          have hz_16 : inR z_16 := (by first | omega | (rw [p0_16]; split <;> omega))
          refine gi_zeq (tgt := 50) hx hb dX10_zonesCanBe_43 (by decide) (by omega) (fun c_17 => ?_) (fun c_17 => ?_)
          · have vz_16 := gif0 w_16 c_17
            clear w_16
            refine lv_iconst (v := iI 0) hx hb dX10_zonesCanBe_50 rfl ?_
            exact g_zret hQ C hr hlocks (by decide) hP hS dX10_zonesCanBe_51 ⟨0, rfl, rfl, rfl, rfl, (by first | omega | ((repeat' split) <;> omega))⟩
          · have vz_16 := gif1 w_16 c_17
            clear w_16
            refine lv_iconst (v := iI 1) hx hb dX10_zonesCanBe_46 rfl ?_
            refine lv_goto (tgt := 51) hx hb dX10_zonesCanBe_47 (by decide) ?_
            exact g_zret hQ C hr hlocks (by decide) hP hS dX10_zonesCanBe_51 ⟨1, rfl, rfl, rfl, rfl, (by first | omega | ((repeat' split) <;> omega))⟩

set_option maxHeartbeats 4000000 in
set_option maxRecDepth 100000 in
theorem x_Wa_zonesUpTo (l : Launch) (D : va_G) (k : Nat → ClassId) (A : Nat → Prop) (ad : Nat → Nat) (hD : rwD A k ad) (v : gV) (f g : gF) (a1 : Int) (a2 : Int) (a3 : Int) (h_a1 : inR a1) (h_a2 : inR a2) (h_a3 : inR a3) (h1 : 0 ≤ a1 ∧ a1 ≤ 3) (h2 : 0 ≤ a2 ∧ a2 ≤ 4) : GM l D k A (rwT k ad) yX8_zonesUpTo cX8_zonesUpTo 7 (some .int) 1 23 [.ref (ad 23), .int (iI a1), .int (iI a2), .int (iI a3)] v f g (fun r v1 f1 g1 => ∃ (z : Int), r = some (.int (iI z)) ∧ v = v1 ∧ f = f1 ∧ g = g1 ∧ (z = (zU (f 17) ((a1 * 5 + a2) * 3) a3)) ∧ (0 ≤ z ∧ z ≤ 3)) := by
  refine GM.of (by decide) (Nat.le_of_ble_eq_true rfl) ?_
  intro p e s m args below meth c Q ls hQ C hml hr hlocks hP hl
  have hx := C.1
  have hb := C.2.1
  have hok := hP.2
  have hS : va_S A s.heap s.heap [] := va_S.rf
  have hl : lv_has ls 7 [(0, .ref (ad 23)), (1, .int (iI a1)), (2, .int (iI a2)), (3, .int (iI a3))] := hl
  refine lv_iconst (v := iI 0) hx hb dX8_zonesUpTo_0 rfl ?_
  refine lv_istore (lv' := [(4, .int (iI 0)), (0, .ref (ad 23)), (1, .int (iI a1)), (2, .int (iI a2)), (3, .int (iI a3))]) hx hb dX8_zonesUpTo_1 hl (by decide) rfl (fun ls hl => ?_)
  refine lv_iconst (v := iI 0) hx hb dX8_zonesUpTo_3 rfl ?_
  refine lv_istore (lv' := [(5, .int (iI 0)), (4, .int (iI 0)), (0, .ref (ad 23)), (1, .int (iI a1)), (2, .int (iI a2)), (3, .int (iI a3))]) hx hb dX8_zonesUpTo_4 hl (by decide) rfl (fun ls hl => ?_)
  refine lv_iload hx hb dX8_zonesUpTo_6 (lv_at hl 0 rfl) ?_
  refine lv_iconst (v := iI 3) hx hb dX8_zonesUpTo_8 rfl ?_
  refine gi_cge (tgt := 42) hx hb dX8_zonesUpTo_9 (by decide) (by decide) (by decide) (fun c_1 => ?_) (fun c_1 => ?_)
  · exfalso; omega
  · refine lv_aload_n hx hb dX8_zonesUpTo_12 rfl (lv_at hl 2 rfl) ?_
    refine lv_iload_n hx hb dX8_zonesUpTo_13 rfl (lv_at hl 3 rfl) ?_
    refine lv_iload_n hx hb dX8_zonesUpTo_14 rfl (lv_at hl 4 rfl) ?_
    refine lv_iload hx hb dX8_zonesUpTo_15 (lv_at hl 0 rfl) ?_
    refine g_cv (As := [.int (iI a1), .int (iI a2), .int (iI 0)]) (rest := []) (n := 3) C hml (c_X8_zoneOf l D k A ad hD v f g a1 a2 0 (by omega) (by omega) (by decide) (show 0 ≤ a1 ∧ a1 ≤ 3 from by omega) (show 0 ≤ a2 ∧ a2 ≤ 4 from by omega) (show 0 ≤ (0 : Int) ∧ (0 : Int) < 3 from by omega)) mM_X8_27 mI_X8_zoneOf mE_X8_zoneOf mN_X8 mC_X8_zoneOf (by decide +kernel) 23 (ci := 8) rfl rfl hP hS (fun _ h => h) ⟨Nat.le_of_ble_eq_true rfl, Nat.le_of_ble_eq_true rfl⟩ ⟨Nat.zero_le _, Nat.zero_le _⟩ hl.1 rfl rfl (Nat.le_of_ble_eq_true rfl) dX8_zonesUpTo_17 (fun r_2 v_2 f_2 g_2 H locs hq_2 hP _ hS => ?_)
    obtain ⟨z_2, rfl, rfl, rfl, rfl, p0_2, p1_2⟩ := hq_2
    show W p l e (gRm 1 23) s m args below meth c _ _ 0 0 Q (F0 m 20 ls [.int (iI z_2)])
    replace p0_2 : z_2 = ((f 17) ((a1 * 5 + a2) * 3 + (0 : Int))) := p0_2
    replace p1_2 : 0 ≤ z_2 ∧ z_2 ≤ 60 := p1_2
    have hz_2 : inR z_2 := (by first | omega | (rw [p0_2]; split <;> omega))
    refine lv_istore (lv' := [(6, .int (iI z_2)), (5, .int (iI 0)), (4, .int (iI 0)), (0, .ref (ad 23)), (1, .int (iI a1)), (2, .int (iI a2)), (3, .int (iI a3))]) hx hb dX8_zonesUpTo_20 hl (by decide) rfl (fun ls hl => ?_)
    refine lv_iload hx hb dX8_zonesUpTo_22 (lv_at hl 0 rfl) ?_
    refine gi_zle (tgt := 36) hx hb dX8_zonesUpTo_24 (by decide) (by omega) (fun c_3 => ?_) (fun c_3 => ?_)
    · refine lv_iinc (v := iI 1) (lv' := [(5, .int (iI 1)), (6, .int (iI z_2)), (4, .int (iI 0)), (0, .ref (ad 23)), (1, .int (iI a1)), (2, .int (iI a2)), (3, .int (iI a3))]) hx hb dX8_zonesUpTo_36 hl (k := 1) rfl (by show iI _ + iI 1 = _; rw [iI_add]; congr 1) (by decide) rfl (fun ls hl => ?_)
      refine lv_goto (tgt := 6) hx hb dX8_zonesUpTo_39 (by decide) ?_
      refine lv_iload hx hb dX8_zonesUpTo_6 (lv_at hl 0 rfl) ?_
      refine lv_iconst (v := iI 3) hx hb dX8_zonesUpTo_8 rfl ?_
      refine gi_cge (tgt := 42) hx hb dX8_zonesUpTo_9 (by decide) (by decide) (by decide) (fun c_4 => ?_) (fun c_4 => ?_)
      · exfalso; omega
      · refine lv_aload_n hx hb dX8_zonesUpTo_12 rfl (lv_at hl 3 rfl) ?_
        refine lv_iload_n hx hb dX8_zonesUpTo_13 rfl (lv_at hl 4 rfl) ?_
        refine lv_iload_n hx hb dX8_zonesUpTo_14 rfl (lv_at hl 5 rfl) ?_
        refine lv_iload hx hb dX8_zonesUpTo_15 (lv_at hl 0 rfl) ?_
        refine g_cv (As := [.int (iI a1), .int (iI a2), .int (iI 1)]) (rest := []) (n := 3) C hml (c_X8_zoneOf l D k A ad hD v f g a1 a2 1 (by omega) (by omega) (by decide) (show 0 ≤ a1 ∧ a1 ≤ 3 from by omega) (show 0 ≤ a2 ∧ a2 ≤ 4 from by omega) (show 0 ≤ (1 : Int) ∧ (1 : Int) < 3 from by omega)) mM_X8_27 mI_X8_zoneOf mE_X8_zoneOf mN_X8 mC_X8_zoneOf (by decide +kernel) 23 (ci := 8) rfl rfl hP hS (fun _ h => h) ⟨Nat.le_of_ble_eq_true rfl, Nat.le_of_ble_eq_true rfl⟩ ⟨Nat.zero_le _, Nat.zero_le _⟩ hl.1 rfl rfl (Nat.le_of_ble_eq_true rfl) dX8_zonesUpTo_17 (fun r_5 v_5 f_5 g_5 H locs hq_5 hP _ hS => ?_)
        obtain ⟨z_5, rfl, rfl, rfl, rfl, p0_5, p1_5⟩ := hq_5
        show W p l e (gRm 1 23) s m args below meth c _ _ 0 0 Q (F0 m 20 ls [.int (iI z_5)])
        replace p0_5 : z_5 = ((f 17) ((a1 * 5 + a2) * 3 + (1 : Int))) := p0_5
        replace p1_5 : 0 ≤ z_5 ∧ z_5 ≤ 60 := p1_5
        have hz_5 : inR z_5 := (by first | omega | (rw [p0_5]; split <;> omega))
        refine lv_istore (lv' := [(6, .int (iI z_5)), (5, .int (iI 1)), (4, .int (iI 0)), (0, .ref (ad 23)), (1, .int (iI a1)), (2, .int (iI a2)), (3, .int (iI a3))]) hx hb dX8_zonesUpTo_20 hl (by decide) rfl (fun ls hl => ?_)
        refine lv_iload hx hb dX8_zonesUpTo_22 (lv_at hl 0 rfl) ?_
        refine gi_zle (tgt := 36) hx hb dX8_zonesUpTo_24 (by decide) (by omega) (fun c_6 => ?_) (fun c_6 => ?_)
        · refine lv_iinc (v := iI 2) (lv' := [(5, .int (iI 2)), (6, .int (iI z_5)), (4, .int (iI 0)), (0, .ref (ad 23)), (1, .int (iI a1)), (2, .int (iI a2)), (3, .int (iI a3))]) hx hb dX8_zonesUpTo_36 hl (k := 1) rfl (by show iI _ + iI 1 = _; rw [iI_add]; congr 1) (by decide) rfl (fun ls hl => ?_)
          refine lv_goto (tgt := 6) hx hb dX8_zonesUpTo_39 (by decide) ?_
          refine lv_iload hx hb dX8_zonesUpTo_6 (lv_at hl 0 rfl) ?_
          refine lv_iconst (v := iI 3) hx hb dX8_zonesUpTo_8 rfl ?_
          refine gi_cge (tgt := 42) hx hb dX8_zonesUpTo_9 (by decide) (by decide) (by decide) (fun c_7 => ?_) (fun c_7 => ?_)
          · exfalso; omega
          · refine lv_aload_n hx hb dX8_zonesUpTo_12 rfl (lv_at hl 3 rfl) ?_
            refine lv_iload_n hx hb dX8_zonesUpTo_13 rfl (lv_at hl 4 rfl) ?_
            refine lv_iload_n hx hb dX8_zonesUpTo_14 rfl (lv_at hl 5 rfl) ?_
            refine lv_iload hx hb dX8_zonesUpTo_15 (lv_at hl 0 rfl) ?_
            refine g_cv (As := [.int (iI a1), .int (iI a2), .int (iI 2)]) (rest := []) (n := 3) C hml (c_X8_zoneOf l D k A ad hD v f g a1 a2 2 (by omega) (by omega) (by decide) (show 0 ≤ a1 ∧ a1 ≤ 3 from by omega) (show 0 ≤ a2 ∧ a2 ≤ 4 from by omega) (show 0 ≤ (2 : Int) ∧ (2 : Int) < 3 from by omega)) mM_X8_27 mI_X8_zoneOf mE_X8_zoneOf mN_X8 mC_X8_zoneOf (by decide +kernel) 23 (ci := 8) rfl rfl hP hS (fun _ h => h) ⟨Nat.le_of_ble_eq_true rfl, Nat.le_of_ble_eq_true rfl⟩ ⟨Nat.zero_le _, Nat.zero_le _⟩ hl.1 rfl rfl (Nat.le_of_ble_eq_true rfl) dX8_zonesUpTo_17 (fun r_8 v_8 f_8 g_8 H locs hq_8 hP _ hS => ?_)
            obtain ⟨z_8, rfl, rfl, rfl, rfl, p0_8, p1_8⟩ := hq_8
            show W p l e (gRm 1 23) s m args below meth c _ _ 0 0 Q (F0 m 20 ls [.int (iI z_8)])
            replace p0_8 : z_8 = ((f 17) ((a1 * 5 + a2) * 3 + (2 : Int))) := p0_8
            replace p1_8 : 0 ≤ z_8 ∧ z_8 ≤ 60 := p1_8
            have hz_8 : inR z_8 := (by first | omega | (rw [p0_8]; split <;> omega))
            refine lv_istore (lv' := [(6, .int (iI z_8)), (5, .int (iI 2)), (4, .int (iI 0)), (0, .ref (ad 23)), (1, .int (iI a1)), (2, .int (iI a2)), (3, .int (iI a3))]) hx hb dX8_zonesUpTo_20 hl (by decide) rfl (fun ls hl => ?_)
            refine lv_iload hx hb dX8_zonesUpTo_22 (lv_at hl 0 rfl) ?_
            refine gi_zle (tgt := 36) hx hb dX8_zonesUpTo_24 (by decide) (by omega) (fun c_9 => ?_) (fun c_9 => ?_)
            · refine lv_iinc (v := iI 3) (lv' := [(5, .int (iI 3)), (6, .int (iI z_8)), (4, .int (iI 0)), (0, .ref (ad 23)), (1, .int (iI a1)), (2, .int (iI a2)), (3, .int (iI a3))]) hx hb dX8_zonesUpTo_36 hl (k := 1) rfl (by show iI _ + iI 1 = _; rw [iI_add]; congr 1) (by decide) rfl (fun ls hl => ?_)
              refine lv_goto (tgt := 6) hx hb dX8_zonesUpTo_39 (by decide) ?_
              refine lv_iload hx hb dX8_zonesUpTo_6 (lv_at hl 0 rfl) ?_
              refine lv_iconst (v := iI 3) hx hb dX8_zonesUpTo_8 rfl ?_
              refine gi_cge (tgt := 42) hx hb dX8_zonesUpTo_9 (by decide) (by decide) (by decide) (fun c_10 => ?_) (fun c_10 => ?_)
              · refine lv_iload hx hb dX8_zonesUpTo_42 (lv_at hl 2 rfl) ?_
                exact g_iret hQ C hr hlocks hP hS dX8_zonesUpTo_44 ⟨0, rfl, rfl, rfl, rfl, (by unfold zU; (repeat' split) <;> omega), (by first | omega | ((repeat' split) <;> omega))⟩
              · exfalso; omega
            · refine lv_iload hx hb dX8_zonesUpTo_27 (lv_at hl 0 rfl) ?_
              refine lv_iload_n hx hb dX8_zonesUpTo_29 rfl (lv_at hl 6 rfl) ?_
              refine gi_cgt (tgt := 36) hx hb dX8_zonesUpTo_30 (by decide) (by omega) (by omega) (fun c_11 => ?_) (fun c_11 => ?_)
              · refine lv_iinc (v := iI 3) (lv' := [(5, .int (iI 3)), (6, .int (iI z_8)), (4, .int (iI 0)), (0, .ref (ad 23)), (1, .int (iI a1)), (2, .int (iI a2)), (3, .int (iI a3))]) hx hb dX8_zonesUpTo_36 hl (k := 1) rfl (by show iI _ + iI 1 = _; rw [iI_add]; congr 1) (by decide) rfl (fun ls hl => ?_)
                refine lv_goto (tgt := 6) hx hb dX8_zonesUpTo_39 (by decide) ?_
                refine lv_iload hx hb dX8_zonesUpTo_6 (lv_at hl 0 rfl) ?_
                refine lv_iconst (v := iI 3) hx hb dX8_zonesUpTo_8 rfl ?_
                refine gi_cge (tgt := 42) hx hb dX8_zonesUpTo_9 (by decide) (by decide) (by decide) (fun c_12 => ?_) (fun c_12 => ?_)
                · refine lv_iload hx hb dX8_zonesUpTo_42 (lv_at hl 2 rfl) ?_
                  exact g_iret hQ C hr hlocks hP hS dX8_zonesUpTo_44 ⟨0, rfl, rfl, rfl, rfl, (by unfold zU; (repeat' split) <;> omega), (by first | omega | ((repeat' split) <;> omega))⟩
                · exfalso; omega
              · refine lv_iinc (v := iI 1) (lv' := [(4, .int (iI 1)), (6, .int (iI z_8)), (5, .int (iI 2)), (0, .ref (ad 23)), (1, .int (iI a1)), (2, .int (iI a2)), (3, .int (iI a3))]) hx hb dX8_zonesUpTo_33 hl (k := 2) rfl (by show iI _ + iI 1 = _; rw [iI_add]; congr 1) (by decide) rfl (fun ls hl => ?_)
                refine lv_iinc (v := iI 3) (lv' := [(5, .int (iI 3)), (4, .int (iI 1)), (6, .int (iI z_8)), (0, .ref (ad 23)), (1, .int (iI a1)), (2, .int (iI a2)), (3, .int (iI a3))]) hx hb dX8_zonesUpTo_36 hl (k := 2) rfl (by show iI _ + iI 1 = _; rw [iI_add]; congr 1) (by decide) rfl (fun ls hl => ?_)
                refine lv_goto (tgt := 6) hx hb dX8_zonesUpTo_39 (by decide) ?_
                refine lv_iload hx hb dX8_zonesUpTo_6 (lv_at hl 0 rfl) ?_
                refine lv_iconst (v := iI 3) hx hb dX8_zonesUpTo_8 rfl ?_
                refine gi_cge (tgt := 42) hx hb dX8_zonesUpTo_9 (by decide) (by decide) (by decide) (fun c_13 => ?_) (fun c_13 => ?_)
                · refine lv_iload hx hb dX8_zonesUpTo_42 (lv_at hl 1 rfl) ?_
                  exact g_iret hQ C hr hlocks hP hS dX8_zonesUpTo_44 ⟨1, rfl, rfl, rfl, rfl, (by unfold zU; (repeat' split) <;> omega), (by first | omega | ((repeat' split) <;> omega))⟩
                · exfalso; omega
        · refine lv_iload hx hb dX8_zonesUpTo_27 (lv_at hl 0 rfl) ?_
          refine lv_iload_n hx hb dX8_zonesUpTo_29 rfl (lv_at hl 6 rfl) ?_
          refine gi_cgt (tgt := 36) hx hb dX8_zonesUpTo_30 (by decide) (by omega) (by omega) (fun c_14 => ?_) (fun c_14 => ?_)
          · refine lv_iinc (v := iI 2) (lv' := [(5, .int (iI 2)), (6, .int (iI z_5)), (4, .int (iI 0)), (0, .ref (ad 23)), (1, .int (iI a1)), (2, .int (iI a2)), (3, .int (iI a3))]) hx hb dX8_zonesUpTo_36 hl (k := 1) rfl (by show iI _ + iI 1 = _; rw [iI_add]; congr 1) (by decide) rfl (fun ls hl => ?_)
            refine lv_goto (tgt := 6) hx hb dX8_zonesUpTo_39 (by decide) ?_
            refine lv_iload hx hb dX8_zonesUpTo_6 (lv_at hl 0 rfl) ?_
            refine lv_iconst (v := iI 3) hx hb dX8_zonesUpTo_8 rfl ?_
            refine gi_cge (tgt := 42) hx hb dX8_zonesUpTo_9 (by decide) (by decide) (by decide) (fun c_15 => ?_) (fun c_15 => ?_)
            · exfalso; omega
            · refine lv_aload_n hx hb dX8_zonesUpTo_12 rfl (lv_at hl 3 rfl) ?_
              refine lv_iload_n hx hb dX8_zonesUpTo_13 rfl (lv_at hl 4 rfl) ?_
              refine lv_iload_n hx hb dX8_zonesUpTo_14 rfl (lv_at hl 5 rfl) ?_
              refine lv_iload hx hb dX8_zonesUpTo_15 (lv_at hl 0 rfl) ?_
              refine g_cv (As := [.int (iI a1), .int (iI a2), .int (iI 2)]) (rest := []) (n := 3) C hml (c_X8_zoneOf l D k A ad hD v f g a1 a2 2 (by omega) (by omega) (by decide) (show 0 ≤ a1 ∧ a1 ≤ 3 from by omega) (show 0 ≤ a2 ∧ a2 ≤ 4 from by omega) (show 0 ≤ (2 : Int) ∧ (2 : Int) < 3 from by omega)) mM_X8_27 mI_X8_zoneOf mE_X8_zoneOf mN_X8 mC_X8_zoneOf (by decide +kernel) 23 (ci := 8) rfl rfl hP hS (fun _ h => h) ⟨Nat.le_of_ble_eq_true rfl, Nat.le_of_ble_eq_true rfl⟩ ⟨Nat.zero_le _, Nat.zero_le _⟩ hl.1 rfl rfl (Nat.le_of_ble_eq_true rfl) dX8_zonesUpTo_17 (fun r_16 v_16 f_16 g_16 H locs hq_16 hP _ hS => ?_)
              obtain ⟨z_16, rfl, rfl, rfl, rfl, p0_16, p1_16⟩ := hq_16
              show W p l e (gRm 1 23) s m args below meth c _ _ 0 0 Q (F0 m 20 ls [.int (iI z_16)])
              replace p0_16 : z_16 = ((f 17) ((a1 * 5 + a2) * 3 + (2 : Int))) := p0_16
              replace p1_16 : 0 ≤ z_16 ∧ z_16 ≤ 60 := p1_16
              have hz_16 : inR z_16 := (by first | omega | (rw [p0_16]; split <;> omega))
              refine lv_istore (lv' := [(6, .int (iI z_16)), (5, .int (iI 2)), (4, .int (iI 0)), (0, .ref (ad 23)), (1, .int (iI a1)), (2, .int (iI a2)), (3, .int (iI a3))]) hx hb dX8_zonesUpTo_20 hl (by decide) rfl (fun ls hl => ?_)
              refine lv_iload hx hb dX8_zonesUpTo_22 (lv_at hl 0 rfl) ?_
              refine gi_zle (tgt := 36) hx hb dX8_zonesUpTo_24 (by decide) (by omega) (fun c_17 => ?_) (fun c_17 => ?_)
              · refine lv_iinc (v := iI 3) (lv' := [(5, .int (iI 3)), (6, .int (iI z_16)), (4, .int (iI 0)), (0, .ref (ad 23)), (1, .int (iI a1)), (2, .int (iI a2)), (3, .int (iI a3))]) hx hb dX8_zonesUpTo_36 hl (k := 1) rfl (by show iI _ + iI 1 = _; rw [iI_add]; congr 1) (by decide) rfl (fun ls hl => ?_)
                refine lv_goto (tgt := 6) hx hb dX8_zonesUpTo_39 (by decide) ?_
                refine lv_iload hx hb dX8_zonesUpTo_6 (lv_at hl 0 rfl) ?_
                refine lv_iconst (v := iI 3) hx hb dX8_zonesUpTo_8 rfl ?_
                refine gi_cge (tgt := 42) hx hb dX8_zonesUpTo_9 (by decide) (by decide) (by decide) (fun c_18 => ?_) (fun c_18 => ?_)
                · refine lv_iload hx hb dX8_zonesUpTo_42 (lv_at hl 2 rfl) ?_
                  exact g_iret hQ C hr hlocks hP hS dX8_zonesUpTo_44 ⟨0, rfl, rfl, rfl, rfl, (by unfold zU; (repeat' split) <;> omega), (by first | omega | ((repeat' split) <;> omega))⟩
                · exfalso; omega
              · refine lv_iload hx hb dX8_zonesUpTo_27 (lv_at hl 0 rfl) ?_
                refine lv_iload_n hx hb dX8_zonesUpTo_29 rfl (lv_at hl 6 rfl) ?_
                refine gi_cgt (tgt := 36) hx hb dX8_zonesUpTo_30 (by decide) (by omega) (by omega) (fun c_19 => ?_) (fun c_19 => ?_)
                · refine lv_iinc (v := iI 3) (lv' := [(5, .int (iI 3)), (6, .int (iI z_16)), (4, .int (iI 0)), (0, .ref (ad 23)), (1, .int (iI a1)), (2, .int (iI a2)), (3, .int (iI a3))]) hx hb dX8_zonesUpTo_36 hl (k := 1) rfl (by show iI _ + iI 1 = _; rw [iI_add]; congr 1) (by decide) rfl (fun ls hl => ?_)
                  refine lv_goto (tgt := 6) hx hb dX8_zonesUpTo_39 (by decide) ?_
                  refine lv_iload hx hb dX8_zonesUpTo_6 (lv_at hl 0 rfl) ?_
                  refine lv_iconst (v := iI 3) hx hb dX8_zonesUpTo_8 rfl ?_
                  refine gi_cge (tgt := 42) hx hb dX8_zonesUpTo_9 (by decide) (by decide) (by decide) (fun c_20 => ?_) (fun c_20 => ?_)
                  · refine lv_iload hx hb dX8_zonesUpTo_42 (lv_at hl 2 rfl) ?_
                    exact g_iret hQ C hr hlocks hP hS dX8_zonesUpTo_44 ⟨0, rfl, rfl, rfl, rfl, (by unfold zU; (repeat' split) <;> omega), (by first | omega | ((repeat' split) <;> omega))⟩
                  · exfalso; omega
                · refine lv_iinc (v := iI 1) (lv' := [(4, .int (iI 1)), (6, .int (iI z_16)), (5, .int (iI 2)), (0, .ref (ad 23)), (1, .int (iI a1)), (2, .int (iI a2)), (3, .int (iI a3))]) hx hb dX8_zonesUpTo_33 hl (k := 2) rfl (by show iI _ + iI 1 = _; rw [iI_add]; congr 1) (by decide) rfl (fun ls hl => ?_)
                  refine lv_iinc (v := iI 3) (lv' := [(5, .int (iI 3)), (4, .int (iI 1)), (6, .int (iI z_16)), (0, .ref (ad 23)), (1, .int (iI a1)), (2, .int (iI a2)), (3, .int (iI a3))]) hx hb dX8_zonesUpTo_36 hl (k := 2) rfl (by show iI _ + iI 1 = _; rw [iI_add]; congr 1) (by decide) rfl (fun ls hl => ?_)
                  refine lv_goto (tgt := 6) hx hb dX8_zonesUpTo_39 (by decide) ?_
                  refine lv_iload hx hb dX8_zonesUpTo_6 (lv_at hl 0 rfl) ?_
                  refine lv_iconst (v := iI 3) hx hb dX8_zonesUpTo_8 rfl ?_
                  refine gi_cge (tgt := 42) hx hb dX8_zonesUpTo_9 (by decide) (by decide) (by decide) (fun c_21 => ?_) (fun c_21 => ?_)
                  · refine lv_iload hx hb dX8_zonesUpTo_42 (lv_at hl 1 rfl) ?_
                    exact g_iret hQ C hr hlocks hP hS dX8_zonesUpTo_44 ⟨1, rfl, rfl, rfl, rfl, (by unfold zU; (repeat' split) <;> omega), (by first | omega | ((repeat' split) <;> omega))⟩
                  · exfalso; omega
          · refine lv_iinc (v := iI 1) (lv' := [(4, .int (iI 1)), (6, .int (iI z_5)), (5, .int (iI 1)), (0, .ref (ad 23)), (1, .int (iI a1)), (2, .int (iI a2)), (3, .int (iI a3))]) hx hb dX8_zonesUpTo_33 hl (k := 2) rfl (by show iI _ + iI 1 = _; rw [iI_add]; congr 1) (by decide) rfl (fun ls hl => ?_)
            refine lv_iinc (v := iI 2) (lv' := [(5, .int (iI 2)), (4, .int (iI 1)), (6, .int (iI z_5)), (0, .ref (ad 23)), (1, .int (iI a1)), (2, .int (iI a2)), (3, .int (iI a3))]) hx hb dX8_zonesUpTo_36 hl (k := 2) rfl (by show iI _ + iI 1 = _; rw [iI_add]; congr 1) (by decide) rfl (fun ls hl => ?_)
            refine lv_goto (tgt := 6) hx hb dX8_zonesUpTo_39 (by decide) ?_
            refine lv_iload hx hb dX8_zonesUpTo_6 (lv_at hl 0 rfl) ?_
            refine lv_iconst (v := iI 3) hx hb dX8_zonesUpTo_8 rfl ?_
            refine gi_cge (tgt := 42) hx hb dX8_zonesUpTo_9 (by decide) (by decide) (by decide) (fun c_22 => ?_) (fun c_22 => ?_)
            · exfalso; omega
            · refine lv_aload_n hx hb dX8_zonesUpTo_12 rfl (lv_at hl 3 rfl) ?_
              refine lv_iload_n hx hb dX8_zonesUpTo_13 rfl (lv_at hl 4 rfl) ?_
              refine lv_iload_n hx hb dX8_zonesUpTo_14 rfl (lv_at hl 5 rfl) ?_
              refine lv_iload hx hb dX8_zonesUpTo_15 (lv_at hl 0 rfl) ?_
              refine g_cv (As := [.int (iI a1), .int (iI a2), .int (iI 2)]) (rest := []) (n := 3) C hml (c_X8_zoneOf l D k A ad hD v f g a1 a2 2 (by omega) (by omega) (by decide) (show 0 ≤ a1 ∧ a1 ≤ 3 from by omega) (show 0 ≤ a2 ∧ a2 ≤ 4 from by omega) (show 0 ≤ (2 : Int) ∧ (2 : Int) < 3 from by omega)) mM_X8_27 mI_X8_zoneOf mE_X8_zoneOf mN_X8 mC_X8_zoneOf (by decide +kernel) 23 (ci := 8) rfl rfl hP hS (fun _ h => h) ⟨Nat.le_of_ble_eq_true rfl, Nat.le_of_ble_eq_true rfl⟩ ⟨Nat.zero_le _, Nat.zero_le _⟩ hl.1 rfl rfl (Nat.le_of_ble_eq_true rfl) dX8_zonesUpTo_17 (fun r_23 v_23 f_23 g_23 H locs hq_23 hP _ hS => ?_)
              obtain ⟨z_23, rfl, rfl, rfl, rfl, p0_23, p1_23⟩ := hq_23
              show W p l e (gRm 1 23) s m args below meth c _ _ 0 0 Q (F0 m 20 ls [.int (iI z_23)])
              replace p0_23 : z_23 = ((f 17) ((a1 * 5 + a2) * 3 + (2 : Int))) := p0_23
              replace p1_23 : 0 ≤ z_23 ∧ z_23 ≤ 60 := p1_23
              have hz_23 : inR z_23 := (by first | omega | (rw [p0_23]; split <;> omega))
              refine lv_istore (lv' := [(6, .int (iI z_23)), (5, .int (iI 2)), (4, .int (iI 1)), (0, .ref (ad 23)), (1, .int (iI a1)), (2, .int (iI a2)), (3, .int (iI a3))]) hx hb dX8_zonesUpTo_20 hl (by decide) rfl (fun ls hl => ?_)
              refine lv_iload hx hb dX8_zonesUpTo_22 (lv_at hl 0 rfl) ?_
              refine gi_zle (tgt := 36) hx hb dX8_zonesUpTo_24 (by decide) (by omega) (fun c_24 => ?_) (fun c_24 => ?_)
              · refine lv_iinc (v := iI 3) (lv' := [(5, .int (iI 3)), (6, .int (iI z_23)), (4, .int (iI 1)), (0, .ref (ad 23)), (1, .int (iI a1)), (2, .int (iI a2)), (3, .int (iI a3))]) hx hb dX8_zonesUpTo_36 hl (k := 1) rfl (by show iI _ + iI 1 = _; rw [iI_add]; congr 1) (by decide) rfl (fun ls hl => ?_)
                refine lv_goto (tgt := 6) hx hb dX8_zonesUpTo_39 (by decide) ?_
                refine lv_iload hx hb dX8_zonesUpTo_6 (lv_at hl 0 rfl) ?_
                refine lv_iconst (v := iI 3) hx hb dX8_zonesUpTo_8 rfl ?_
                refine gi_cge (tgt := 42) hx hb dX8_zonesUpTo_9 (by decide) (by decide) (by decide) (fun c_25 => ?_) (fun c_25 => ?_)
                · refine lv_iload hx hb dX8_zonesUpTo_42 (lv_at hl 2 rfl) ?_
                  exact g_iret hQ C hr hlocks hP hS dX8_zonesUpTo_44 ⟨1, rfl, rfl, rfl, rfl, (by unfold zU; (repeat' split) <;> omega), (by first | omega | ((repeat' split) <;> omega))⟩
                · exfalso; omega
              · refine lv_iload hx hb dX8_zonesUpTo_27 (lv_at hl 0 rfl) ?_
                refine lv_iload_n hx hb dX8_zonesUpTo_29 rfl (lv_at hl 6 rfl) ?_
                refine gi_cgt (tgt := 36) hx hb dX8_zonesUpTo_30 (by decide) (by omega) (by omega) (fun c_26 => ?_) (fun c_26 => ?_)
                · refine lv_iinc (v := iI 3) (lv' := [(5, .int (iI 3)), (6, .int (iI z_23)), (4, .int (iI 1)), (0, .ref (ad 23)), (1, .int (iI a1)), (2, .int (iI a2)), (3, .int (iI a3))]) hx hb dX8_zonesUpTo_36 hl (k := 1) rfl (by show iI _ + iI 1 = _; rw [iI_add]; congr 1) (by decide) rfl (fun ls hl => ?_)
                  refine lv_goto (tgt := 6) hx hb dX8_zonesUpTo_39 (by decide) ?_
                  refine lv_iload hx hb dX8_zonesUpTo_6 (lv_at hl 0 rfl) ?_
                  refine lv_iconst (v := iI 3) hx hb dX8_zonesUpTo_8 rfl ?_
                  refine gi_cge (tgt := 42) hx hb dX8_zonesUpTo_9 (by decide) (by decide) (by decide) (fun c_27 => ?_) (fun c_27 => ?_)
                  · refine lv_iload hx hb dX8_zonesUpTo_42 (lv_at hl 2 rfl) ?_
                    exact g_iret hQ C hr hlocks hP hS dX8_zonesUpTo_44 ⟨1, rfl, rfl, rfl, rfl, (by unfold zU; (repeat' split) <;> omega), (by first | omega | ((repeat' split) <;> omega))⟩
                  · exfalso; omega
                · refine lv_iinc (v := iI 2) (lv' := [(4, .int (iI 2)), (6, .int (iI z_23)), (5, .int (iI 2)), (0, .ref (ad 23)), (1, .int (iI a1)), (2, .int (iI a2)), (3, .int (iI a3))]) hx hb dX8_zonesUpTo_33 hl (k := 2) rfl (by show iI _ + iI 1 = _; rw [iI_add]; congr 1) (by decide) rfl (fun ls hl => ?_)
                  refine lv_iinc (v := iI 3) (lv' := [(5, .int (iI 3)), (4, .int (iI 2)), (6, .int (iI z_23)), (0, .ref (ad 23)), (1, .int (iI a1)), (2, .int (iI a2)), (3, .int (iI a3))]) hx hb dX8_zonesUpTo_36 hl (k := 2) rfl (by show iI _ + iI 1 = _; rw [iI_add]; congr 1) (by decide) rfl (fun ls hl => ?_)
                  refine lv_goto (tgt := 6) hx hb dX8_zonesUpTo_39 (by decide) ?_
                  refine lv_iload hx hb dX8_zonesUpTo_6 (lv_at hl 0 rfl) ?_
                  refine lv_iconst (v := iI 3) hx hb dX8_zonesUpTo_8 rfl ?_
                  refine gi_cge (tgt := 42) hx hb dX8_zonesUpTo_9 (by decide) (by decide) (by decide) (fun c_28 => ?_) (fun c_28 => ?_)
                  · refine lv_iload hx hb dX8_zonesUpTo_42 (lv_at hl 1 rfl) ?_
                    exact g_iret hQ C hr hlocks hP hS dX8_zonesUpTo_44 ⟨2, rfl, rfl, rfl, rfl, (by unfold zU; (repeat' split) <;> omega), (by first | omega | ((repeat' split) <;> omega))⟩
                  · exfalso; omega
    · refine lv_iload hx hb dX8_zonesUpTo_27 (lv_at hl 0 rfl) ?_
      refine lv_iload_n hx hb dX8_zonesUpTo_29 rfl (lv_at hl 6 rfl) ?_
      refine gi_cgt (tgt := 36) hx hb dX8_zonesUpTo_30 (by decide) (by omega) (by omega) (fun c_29 => ?_) (fun c_29 => ?_)
      · refine lv_iinc (v := iI 1) (lv' := [(5, .int (iI 1)), (6, .int (iI z_2)), (4, .int (iI 0)), (0, .ref (ad 23)), (1, .int (iI a1)), (2, .int (iI a2)), (3, .int (iI a3))]) hx hb dX8_zonesUpTo_36 hl (k := 1) rfl (by show iI _ + iI 1 = _; rw [iI_add]; congr 1) (by decide) rfl (fun ls hl => ?_)
        refine lv_goto (tgt := 6) hx hb dX8_zonesUpTo_39 (by decide) ?_
        refine lv_iload hx hb dX8_zonesUpTo_6 (lv_at hl 0 rfl) ?_
        refine lv_iconst (v := iI 3) hx hb dX8_zonesUpTo_8 rfl ?_
        refine gi_cge (tgt := 42) hx hb dX8_zonesUpTo_9 (by decide) (by decide) (by decide) (fun c_30 => ?_) (fun c_30 => ?_)
        · exfalso; omega
        · refine lv_aload_n hx hb dX8_zonesUpTo_12 rfl (lv_at hl 3 rfl) ?_
          refine lv_iload_n hx hb dX8_zonesUpTo_13 rfl (lv_at hl 4 rfl) ?_
          refine lv_iload_n hx hb dX8_zonesUpTo_14 rfl (lv_at hl 5 rfl) ?_
          refine lv_iload hx hb dX8_zonesUpTo_15 (lv_at hl 0 rfl) ?_
          refine g_cv (As := [.int (iI a1), .int (iI a2), .int (iI 1)]) (rest := []) (n := 3) C hml (c_X8_zoneOf l D k A ad hD v f g a1 a2 1 (by omega) (by omega) (by decide) (show 0 ≤ a1 ∧ a1 ≤ 3 from by omega) (show 0 ≤ a2 ∧ a2 ≤ 4 from by omega) (show 0 ≤ (1 : Int) ∧ (1 : Int) < 3 from by omega)) mM_X8_27 mI_X8_zoneOf mE_X8_zoneOf mN_X8 mC_X8_zoneOf (by decide +kernel) 23 (ci := 8) rfl rfl hP hS (fun _ h => h) ⟨Nat.le_of_ble_eq_true rfl, Nat.le_of_ble_eq_true rfl⟩ ⟨Nat.zero_le _, Nat.zero_le _⟩ hl.1 rfl rfl (Nat.le_of_ble_eq_true rfl) dX8_zonesUpTo_17 (fun r_31 v_31 f_31 g_31 H locs hq_31 hP _ hS => ?_)
          obtain ⟨z_31, rfl, rfl, rfl, rfl, p0_31, p1_31⟩ := hq_31
          show W p l e (gRm 1 23) s m args below meth c _ _ 0 0 Q (F0 m 20 ls [.int (iI z_31)])
          replace p0_31 : z_31 = ((f 17) ((a1 * 5 + a2) * 3 + (1 : Int))) := p0_31
          replace p1_31 : 0 ≤ z_31 ∧ z_31 ≤ 60 := p1_31
          have hz_31 : inR z_31 := (by first | omega | (rw [p0_31]; split <;> omega))
          refine lv_istore (lv' := [(6, .int (iI z_31)), (5, .int (iI 1)), (4, .int (iI 0)), (0, .ref (ad 23)), (1, .int (iI a1)), (2, .int (iI a2)), (3, .int (iI a3))]) hx hb dX8_zonesUpTo_20 hl (by decide) rfl (fun ls hl => ?_)
          refine lv_iload hx hb dX8_zonesUpTo_22 (lv_at hl 0 rfl) ?_
          refine gi_zle (tgt := 36) hx hb dX8_zonesUpTo_24 (by decide) (by omega) (fun c_32 => ?_) (fun c_32 => ?_)
          · refine lv_iinc (v := iI 2) (lv' := [(5, .int (iI 2)), (6, .int (iI z_31)), (4, .int (iI 0)), (0, .ref (ad 23)), (1, .int (iI a1)), (2, .int (iI a2)), (3, .int (iI a3))]) hx hb dX8_zonesUpTo_36 hl (k := 1) rfl (by show iI _ + iI 1 = _; rw [iI_add]; congr 1) (by decide) rfl (fun ls hl => ?_)
            refine lv_goto (tgt := 6) hx hb dX8_zonesUpTo_39 (by decide) ?_
            refine lv_iload hx hb dX8_zonesUpTo_6 (lv_at hl 0 rfl) ?_
            refine lv_iconst (v := iI 3) hx hb dX8_zonesUpTo_8 rfl ?_
            refine gi_cge (tgt := 42) hx hb dX8_zonesUpTo_9 (by decide) (by decide) (by decide) (fun c_33 => ?_) (fun c_33 => ?_)
            · exfalso; omega
            · refine lv_aload_n hx hb dX8_zonesUpTo_12 rfl (lv_at hl 3 rfl) ?_
              refine lv_iload_n hx hb dX8_zonesUpTo_13 rfl (lv_at hl 4 rfl) ?_
              refine lv_iload_n hx hb dX8_zonesUpTo_14 rfl (lv_at hl 5 rfl) ?_
              refine lv_iload hx hb dX8_zonesUpTo_15 (lv_at hl 0 rfl) ?_
              refine g_cv (As := [.int (iI a1), .int (iI a2), .int (iI 2)]) (rest := []) (n := 3) C hml (c_X8_zoneOf l D k A ad hD v f g a1 a2 2 (by omega) (by omega) (by decide) (show 0 ≤ a1 ∧ a1 ≤ 3 from by omega) (show 0 ≤ a2 ∧ a2 ≤ 4 from by omega) (show 0 ≤ (2 : Int) ∧ (2 : Int) < 3 from by omega)) mM_X8_27 mI_X8_zoneOf mE_X8_zoneOf mN_X8 mC_X8_zoneOf (by decide +kernel) 23 (ci := 8) rfl rfl hP hS (fun _ h => h) ⟨Nat.le_of_ble_eq_true rfl, Nat.le_of_ble_eq_true rfl⟩ ⟨Nat.zero_le _, Nat.zero_le _⟩ hl.1 rfl rfl (Nat.le_of_ble_eq_true rfl) dX8_zonesUpTo_17 (fun r_34 v_34 f_34 g_34 H locs hq_34 hP _ hS => ?_)
              obtain ⟨z_34, rfl, rfl, rfl, rfl, p0_34, p1_34⟩ := hq_34
              show W p l e (gRm 1 23) s m args below meth c _ _ 0 0 Q (F0 m 20 ls [.int (iI z_34)])
              replace p0_34 : z_34 = ((f 17) ((a1 * 5 + a2) * 3 + (2 : Int))) := p0_34
              replace p1_34 : 0 ≤ z_34 ∧ z_34 ≤ 60 := p1_34
              have hz_34 : inR z_34 := (by first | omega | (rw [p0_34]; split <;> omega))
              refine lv_istore (lv' := [(6, .int (iI z_34)), (5, .int (iI 2)), (4, .int (iI 0)), (0, .ref (ad 23)), (1, .int (iI a1)), (2, .int (iI a2)), (3, .int (iI a3))]) hx hb dX8_zonesUpTo_20 hl (by decide) rfl (fun ls hl => ?_)
              refine lv_iload hx hb dX8_zonesUpTo_22 (lv_at hl 0 rfl) ?_
              refine gi_zle (tgt := 36) hx hb dX8_zonesUpTo_24 (by decide) (by omega) (fun c_35 => ?_) (fun c_35 => ?_)
              · refine lv_iinc (v := iI 3) (lv' := [(5, .int (iI 3)), (6, .int (iI z_34)), (4, .int (iI 0)), (0, .ref (ad 23)), (1, .int (iI a1)), (2, .int (iI a2)), (3, .int (iI a3))]) hx hb dX8_zonesUpTo_36 hl (k := 1) rfl (by show iI _ + iI 1 = _; rw [iI_add]; congr 1) (by decide) rfl (fun ls hl => ?_)
                refine lv_goto (tgt := 6) hx hb dX8_zonesUpTo_39 (by decide) ?_
                refine lv_iload hx hb dX8_zonesUpTo_6 (lv_at hl 0 rfl) ?_
                refine lv_iconst (v := iI 3) hx hb dX8_zonesUpTo_8 rfl ?_
                refine gi_cge (tgt := 42) hx hb dX8_zonesUpTo_9 (by decide) (by decide) (by decide) (fun c_36 => ?_) (fun c_36 => ?_)
                · refine lv_iload hx hb dX8_zonesUpTo_42 (lv_at hl 2 rfl) ?_
                  exact g_iret hQ C hr hlocks hP hS dX8_zonesUpTo_44 ⟨0, rfl, rfl, rfl, rfl, (by unfold zU; (repeat' split) <;> omega), (by first | omega | ((repeat' split) <;> omega))⟩
                · exfalso; omega
              · refine lv_iload hx hb dX8_zonesUpTo_27 (lv_at hl 0 rfl) ?_
                refine lv_iload_n hx hb dX8_zonesUpTo_29 rfl (lv_at hl 6 rfl) ?_
                refine gi_cgt (tgt := 36) hx hb dX8_zonesUpTo_30 (by decide) (by omega) (by omega) (fun c_37 => ?_) (fun c_37 => ?_)
                · refine lv_iinc (v := iI 3) (lv' := [(5, .int (iI 3)), (6, .int (iI z_34)), (4, .int (iI 0)), (0, .ref (ad 23)), (1, .int (iI a1)), (2, .int (iI a2)), (3, .int (iI a3))]) hx hb dX8_zonesUpTo_36 hl (k := 1) rfl (by show iI _ + iI 1 = _; rw [iI_add]; congr 1) (by decide) rfl (fun ls hl => ?_)
                  refine lv_goto (tgt := 6) hx hb dX8_zonesUpTo_39 (by decide) ?_
                  refine lv_iload hx hb dX8_zonesUpTo_6 (lv_at hl 0 rfl) ?_
                  refine lv_iconst (v := iI 3) hx hb dX8_zonesUpTo_8 rfl ?_
                  refine gi_cge (tgt := 42) hx hb dX8_zonesUpTo_9 (by decide) (by decide) (by decide) (fun c_38 => ?_) (fun c_38 => ?_)
                  · refine lv_iload hx hb dX8_zonesUpTo_42 (lv_at hl 2 rfl) ?_
                    exact g_iret hQ C hr hlocks hP hS dX8_zonesUpTo_44 ⟨0, rfl, rfl, rfl, rfl, (by unfold zU; (repeat' split) <;> omega), (by first | omega | ((repeat' split) <;> omega))⟩
                  · exfalso; omega
                · refine lv_iinc (v := iI 1) (lv' := [(4, .int (iI 1)), (6, .int (iI z_34)), (5, .int (iI 2)), (0, .ref (ad 23)), (1, .int (iI a1)), (2, .int (iI a2)), (3, .int (iI a3))]) hx hb dX8_zonesUpTo_33 hl (k := 2) rfl (by show iI _ + iI 1 = _; rw [iI_add]; congr 1) (by decide) rfl (fun ls hl => ?_)
                  refine lv_iinc (v := iI 3) (lv' := [(5, .int (iI 3)), (4, .int (iI 1)), (6, .int (iI z_34)), (0, .ref (ad 23)), (1, .int (iI a1)), (2, .int (iI a2)), (3, .int (iI a3))]) hx hb dX8_zonesUpTo_36 hl (k := 2) rfl (by show iI _ + iI 1 = _; rw [iI_add]; congr 1) (by decide) rfl (fun ls hl => ?_)
                  refine lv_goto (tgt := 6) hx hb dX8_zonesUpTo_39 (by decide) ?_
                  refine lv_iload hx hb dX8_zonesUpTo_6 (lv_at hl 0 rfl) ?_
                  refine lv_iconst (v := iI 3) hx hb dX8_zonesUpTo_8 rfl ?_
                  refine gi_cge (tgt := 42) hx hb dX8_zonesUpTo_9 (by decide) (by decide) (by decide) (fun c_39 => ?_) (fun c_39 => ?_)
                  · refine lv_iload hx hb dX8_zonesUpTo_42 (lv_at hl 1 rfl) ?_
                    exact g_iret hQ C hr hlocks hP hS dX8_zonesUpTo_44 ⟨1, rfl, rfl, rfl, rfl, (by unfold zU; (repeat' split) <;> omega), (by first | omega | ((repeat' split) <;> omega))⟩
                  · exfalso; omega
          · refine lv_iload hx hb dX8_zonesUpTo_27 (lv_at hl 0 rfl) ?_
            refine lv_iload_n hx hb dX8_zonesUpTo_29 rfl (lv_at hl 6 rfl) ?_
            refine gi_cgt (tgt := 36) hx hb dX8_zonesUpTo_30 (by decide) (by omega) (by omega) (fun c_40 => ?_) (fun c_40 => ?_)
            · refine lv_iinc (v := iI 2) (lv' := [(5, .int (iI 2)), (6, .int (iI z_31)), (4, .int (iI 0)), (0, .ref (ad 23)), (1, .int (iI a1)), (2, .int (iI a2)), (3, .int (iI a3))]) hx hb dX8_zonesUpTo_36 hl (k := 1) rfl (by show iI _ + iI 1 = _; rw [iI_add]; congr 1) (by decide) rfl (fun ls hl => ?_)
              refine lv_goto (tgt := 6) hx hb dX8_zonesUpTo_39 (by decide) ?_
              refine lv_iload hx hb dX8_zonesUpTo_6 (lv_at hl 0 rfl) ?_
              refine lv_iconst (v := iI 3) hx hb dX8_zonesUpTo_8 rfl ?_
              refine gi_cge (tgt := 42) hx hb dX8_zonesUpTo_9 (by decide) (by decide) (by decide) (fun c_41 => ?_) (fun c_41 => ?_)
              · exfalso; omega
              · refine lv_aload_n hx hb dX8_zonesUpTo_12 rfl (lv_at hl 3 rfl) ?_
                refine lv_iload_n hx hb dX8_zonesUpTo_13 rfl (lv_at hl 4 rfl) ?_
                refine lv_iload_n hx hb dX8_zonesUpTo_14 rfl (lv_at hl 5 rfl) ?_
                refine lv_iload hx hb dX8_zonesUpTo_15 (lv_at hl 0 rfl) ?_
                refine g_cv (As := [.int (iI a1), .int (iI a2), .int (iI 2)]) (rest := []) (n := 3) C hml (c_X8_zoneOf l D k A ad hD v f g a1 a2 2 (by omega) (by omega) (by decide) (show 0 ≤ a1 ∧ a1 ≤ 3 from by omega) (show 0 ≤ a2 ∧ a2 ≤ 4 from by omega) (show 0 ≤ (2 : Int) ∧ (2 : Int) < 3 from by omega)) mM_X8_27 mI_X8_zoneOf mE_X8_zoneOf mN_X8 mC_X8_zoneOf (by decide +kernel) 23 (ci := 8) rfl rfl hP hS (fun _ h => h) ⟨Nat.le_of_ble_eq_true rfl, Nat.le_of_ble_eq_true rfl⟩ ⟨Nat.zero_le _, Nat.zero_le _⟩ hl.1 rfl rfl (Nat.le_of_ble_eq_true rfl) dX8_zonesUpTo_17 (fun r_42 v_42 f_42 g_42 H locs hq_42 hP _ hS => ?_)
                obtain ⟨z_42, rfl, rfl, rfl, rfl, p0_42, p1_42⟩ := hq_42
                show W p l e (gRm 1 23) s m args below meth c _ _ 0 0 Q (F0 m 20 ls [.int (iI z_42)])
                replace p0_42 : z_42 = ((f 17) ((a1 * 5 + a2) * 3 + (2 : Int))) := p0_42
                replace p1_42 : 0 ≤ z_42 ∧ z_42 ≤ 60 := p1_42
                have hz_42 : inR z_42 := (by first | omega | (rw [p0_42]; split <;> omega))
                refine lv_istore (lv' := [(6, .int (iI z_42)), (5, .int (iI 2)), (4, .int (iI 0)), (0, .ref (ad 23)), (1, .int (iI a1)), (2, .int (iI a2)), (3, .int (iI a3))]) hx hb dX8_zonesUpTo_20 hl (by decide) rfl (fun ls hl => ?_)
                refine lv_iload hx hb dX8_zonesUpTo_22 (lv_at hl 0 rfl) ?_
                refine gi_zle (tgt := 36) hx hb dX8_zonesUpTo_24 (by decide) (by omega) (fun c_43 => ?_) (fun c_43 => ?_)
                · refine lv_iinc (v := iI 3) (lv' := [(5, .int (iI 3)), (6, .int (iI z_42)), (4, .int (iI 0)), (0, .ref (ad 23)), (1, .int (iI a1)), (2, .int (iI a2)), (3, .int (iI a3))]) hx hb dX8_zonesUpTo_36 hl (k := 1) rfl (by show iI _ + iI 1 = _; rw [iI_add]; congr 1) (by decide) rfl (fun ls hl => ?_)
                  refine lv_goto (tgt := 6) hx hb dX8_zonesUpTo_39 (by decide) ?_
                  refine lv_iload hx hb dX8_zonesUpTo_6 (lv_at hl 0 rfl) ?_
                  refine lv_iconst (v := iI 3) hx hb dX8_zonesUpTo_8 rfl ?_
                  refine gi_cge (tgt := 42) hx hb dX8_zonesUpTo_9 (by decide) (by decide) (by decide) (fun c_44 => ?_) (fun c_44 => ?_)
                  · refine lv_iload hx hb dX8_zonesUpTo_42 (lv_at hl 2 rfl) ?_
                    exact g_iret hQ C hr hlocks hP hS dX8_zonesUpTo_44 ⟨0, rfl, rfl, rfl, rfl, (by unfold zU; (repeat' split) <;> omega), (by first | omega | ((repeat' split) <;> omega))⟩
                  · exfalso; omega
                · refine lv_iload hx hb dX8_zonesUpTo_27 (lv_at hl 0 rfl) ?_
                  refine lv_iload_n hx hb dX8_zonesUpTo_29 rfl (lv_at hl 6 rfl) ?_
                  refine gi_cgt (tgt := 36) hx hb dX8_zonesUpTo_30 (by decide) (by omega) (by omega) (fun c_45 => ?_) (fun c_45 => ?_)
                  · refine lv_iinc (v := iI 3) (lv' := [(5, .int (iI 3)), (6, .int (iI z_42)), (4, .int (iI 0)), (0, .ref (ad 23)), (1, .int (iI a1)), (2, .int (iI a2)), (3, .int (iI a3))]) hx hb dX8_zonesUpTo_36 hl (k := 1) rfl (by show iI _ + iI 1 = _; rw [iI_add]; congr 1) (by decide) rfl (fun ls hl => ?_)
                    refine lv_goto (tgt := 6) hx hb dX8_zonesUpTo_39 (by decide) ?_
                    refine lv_iload hx hb dX8_zonesUpTo_6 (lv_at hl 0 rfl) ?_
                    refine lv_iconst (v := iI 3) hx hb dX8_zonesUpTo_8 rfl ?_
                    refine gi_cge (tgt := 42) hx hb dX8_zonesUpTo_9 (by decide) (by decide) (by decide) (fun c_46 => ?_) (fun c_46 => ?_)
                    · refine lv_iload hx hb dX8_zonesUpTo_42 (lv_at hl 2 rfl) ?_
                      exact g_iret hQ C hr hlocks hP hS dX8_zonesUpTo_44 ⟨0, rfl, rfl, rfl, rfl, (by unfold zU; (repeat' split) <;> omega), (by first | omega | ((repeat' split) <;> omega))⟩
                    · exfalso; omega
                  · refine lv_iinc (v := iI 1) (lv' := [(4, .int (iI 1)), (6, .int (iI z_42)), (5, .int (iI 2)), (0, .ref (ad 23)), (1, .int (iI a1)), (2, .int (iI a2)), (3, .int (iI a3))]) hx hb dX8_zonesUpTo_33 hl (k := 2) rfl (by show iI _ + iI 1 = _; rw [iI_add]; congr 1) (by decide) rfl (fun ls hl => ?_)
                    refine lv_iinc (v := iI 3) (lv' := [(5, .int (iI 3)), (4, .int (iI 1)), (6, .int (iI z_42)), (0, .ref (ad 23)), (1, .int (iI a1)), (2, .int (iI a2)), (3, .int (iI a3))]) hx hb dX8_zonesUpTo_36 hl (k := 2) rfl (by show iI _ + iI 1 = _; rw [iI_add]; congr 1) (by decide) rfl (fun ls hl => ?_)
                    refine lv_goto (tgt := 6) hx hb dX8_zonesUpTo_39 (by decide) ?_
                    refine lv_iload hx hb dX8_zonesUpTo_6 (lv_at hl 0 rfl) ?_
                    refine lv_iconst (v := iI 3) hx hb dX8_zonesUpTo_8 rfl ?_
                    refine gi_cge (tgt := 42) hx hb dX8_zonesUpTo_9 (by decide) (by decide) (by decide) (fun c_47 => ?_) (fun c_47 => ?_)
                    · refine lv_iload hx hb dX8_zonesUpTo_42 (lv_at hl 1 rfl) ?_
                      exact g_iret hQ C hr hlocks hP hS dX8_zonesUpTo_44 ⟨1, rfl, rfl, rfl, rfl, (by unfold zU; (repeat' split) <;> omega), (by first | omega | ((repeat' split) <;> omega))⟩
                    · exfalso; omega
            · refine lv_iinc (v := iI 1) (lv' := [(4, .int (iI 1)), (6, .int (iI z_31)), (5, .int (iI 1)), (0, .ref (ad 23)), (1, .int (iI a1)), (2, .int (iI a2)), (3, .int (iI a3))]) hx hb dX8_zonesUpTo_33 hl (k := 2) rfl (by show iI _ + iI 1 = _; rw [iI_add]; congr 1) (by decide) rfl (fun ls hl => ?_)
              refine lv_iinc (v := iI 2) (lv' := [(5, .int (iI 2)), (4, .int (iI 1)), (6, .int (iI z_31)), (0, .ref (ad 23)), (1, .int (iI a1)), (2, .int (iI a2)), (3, .int (iI a3))]) hx hb dX8_zonesUpTo_36 hl (k := 2) rfl (by show iI _ + iI 1 = _; rw [iI_add]; congr 1) (by decide) rfl (fun ls hl => ?_)
              refine lv_goto (tgt := 6) hx hb dX8_zonesUpTo_39 (by decide) ?_
              refine lv_iload hx hb dX8_zonesUpTo_6 (lv_at hl 0 rfl) ?_
              refine lv_iconst (v := iI 3) hx hb dX8_zonesUpTo_8 rfl ?_
              refine gi_cge (tgt := 42) hx hb dX8_zonesUpTo_9 (by decide) (by decide) (by decide) (fun c_48 => ?_) (fun c_48 => ?_)
              · exfalso; omega
              · refine lv_aload_n hx hb dX8_zonesUpTo_12 rfl (lv_at hl 3 rfl) ?_
                refine lv_iload_n hx hb dX8_zonesUpTo_13 rfl (lv_at hl 4 rfl) ?_
                refine lv_iload_n hx hb dX8_zonesUpTo_14 rfl (lv_at hl 5 rfl) ?_
                refine lv_iload hx hb dX8_zonesUpTo_15 (lv_at hl 0 rfl) ?_
                refine g_cv (As := [.int (iI a1), .int (iI a2), .int (iI 2)]) (rest := []) (n := 3) C hml (c_X8_zoneOf l D k A ad hD v f g a1 a2 2 (by omega) (by omega) (by decide) (show 0 ≤ a1 ∧ a1 ≤ 3 from by omega) (show 0 ≤ a2 ∧ a2 ≤ 4 from by omega) (show 0 ≤ (2 : Int) ∧ (2 : Int) < 3 from by omega)) mM_X8_27 mI_X8_zoneOf mE_X8_zoneOf mN_X8 mC_X8_zoneOf (by decide +kernel) 23 (ci := 8) rfl rfl hP hS (fun _ h => h) ⟨Nat.le_of_ble_eq_true rfl, Nat.le_of_ble_eq_true rfl⟩ ⟨Nat.zero_le _, Nat.zero_le _⟩ hl.1 rfl rfl (Nat.le_of_ble_eq_true rfl) dX8_zonesUpTo_17 (fun r_49 v_49 f_49 g_49 H locs hq_49 hP _ hS => ?_)
                obtain ⟨z_49, rfl, rfl, rfl, rfl, p0_49, p1_49⟩ := hq_49
                show W p l e (gRm 1 23) s m args below meth c _ _ 0 0 Q (F0 m 20 ls [.int (iI z_49)])
                replace p0_49 : z_49 = ((f 17) ((a1 * 5 + a2) * 3 + (2 : Int))) := p0_49
                replace p1_49 : 0 ≤ z_49 ∧ z_49 ≤ 60 := p1_49
                have hz_49 : inR z_49 := (by first | omega | (rw [p0_49]; split <;> omega))
                refine lv_istore (lv' := [(6, .int (iI z_49)), (5, .int (iI 2)), (4, .int (iI 1)), (0, .ref (ad 23)), (1, .int (iI a1)), (2, .int (iI a2)), (3, .int (iI a3))]) hx hb dX8_zonesUpTo_20 hl (by decide) rfl (fun ls hl => ?_)
                refine lv_iload hx hb dX8_zonesUpTo_22 (lv_at hl 0 rfl) ?_
                refine gi_zle (tgt := 36) hx hb dX8_zonesUpTo_24 (by decide) (by omega) (fun c_50 => ?_) (fun c_50 => ?_)
                · refine lv_iinc (v := iI 3) (lv' := [(5, .int (iI 3)), (6, .int (iI z_49)), (4, .int (iI 1)), (0, .ref (ad 23)), (1, .int (iI a1)), (2, .int (iI a2)), (3, .int (iI a3))]) hx hb dX8_zonesUpTo_36 hl (k := 1) rfl (by show iI _ + iI 1 = _; rw [iI_add]; congr 1) (by decide) rfl (fun ls hl => ?_)
                  refine lv_goto (tgt := 6) hx hb dX8_zonesUpTo_39 (by decide) ?_
                  refine lv_iload hx hb dX8_zonesUpTo_6 (lv_at hl 0 rfl) ?_
                  refine lv_iconst (v := iI 3) hx hb dX8_zonesUpTo_8 rfl ?_
                  refine gi_cge (tgt := 42) hx hb dX8_zonesUpTo_9 (by decide) (by decide) (by decide) (fun c_51 => ?_) (fun c_51 => ?_)
                  · refine lv_iload hx hb dX8_zonesUpTo_42 (lv_at hl 2 rfl) ?_
                    exact g_iret hQ C hr hlocks hP hS dX8_zonesUpTo_44 ⟨1, rfl, rfl, rfl, rfl, (by unfold zU; (repeat' split) <;> omega), (by first | omega | ((repeat' split) <;> omega))⟩
                  · exfalso; omega
                · refine lv_iload hx hb dX8_zonesUpTo_27 (lv_at hl 0 rfl) ?_
                  refine lv_iload_n hx hb dX8_zonesUpTo_29 rfl (lv_at hl 6 rfl) ?_
                  refine gi_cgt (tgt := 36) hx hb dX8_zonesUpTo_30 (by decide) (by omega) (by omega) (fun c_52 => ?_) (fun c_52 => ?_)
                  · refine lv_iinc (v := iI 3) (lv' := [(5, .int (iI 3)), (6, .int (iI z_49)), (4, .int (iI 1)), (0, .ref (ad 23)), (1, .int (iI a1)), (2, .int (iI a2)), (3, .int (iI a3))]) hx hb dX8_zonesUpTo_36 hl (k := 1) rfl (by show iI _ + iI 1 = _; rw [iI_add]; congr 1) (by decide) rfl (fun ls hl => ?_)
                    refine lv_goto (tgt := 6) hx hb dX8_zonesUpTo_39 (by decide) ?_
                    refine lv_iload hx hb dX8_zonesUpTo_6 (lv_at hl 0 rfl) ?_
                    refine lv_iconst (v := iI 3) hx hb dX8_zonesUpTo_8 rfl ?_
                    refine gi_cge (tgt := 42) hx hb dX8_zonesUpTo_9 (by decide) (by decide) (by decide) (fun c_53 => ?_) (fun c_53 => ?_)
                    · refine lv_iload hx hb dX8_zonesUpTo_42 (lv_at hl 2 rfl) ?_
                      exact g_iret hQ C hr hlocks hP hS dX8_zonesUpTo_44 ⟨1, rfl, rfl, rfl, rfl, (by unfold zU; (repeat' split) <;> omega), (by first | omega | ((repeat' split) <;> omega))⟩
                    · exfalso; omega
                  · refine lv_iinc (v := iI 2) (lv' := [(4, .int (iI 2)), (6, .int (iI z_49)), (5, .int (iI 2)), (0, .ref (ad 23)), (1, .int (iI a1)), (2, .int (iI a2)), (3, .int (iI a3))]) hx hb dX8_zonesUpTo_33 hl (k := 2) rfl (by show iI _ + iI 1 = _; rw [iI_add]; congr 1) (by decide) rfl (fun ls hl => ?_)
                    refine lv_iinc (v := iI 3) (lv' := [(5, .int (iI 3)), (4, .int (iI 2)), (6, .int (iI z_49)), (0, .ref (ad 23)), (1, .int (iI a1)), (2, .int (iI a2)), (3, .int (iI a3))]) hx hb dX8_zonesUpTo_36 hl (k := 2) rfl (by show iI _ + iI 1 = _; rw [iI_add]; congr 1) (by decide) rfl (fun ls hl => ?_)
                    refine lv_goto (tgt := 6) hx hb dX8_zonesUpTo_39 (by decide) ?_
                    refine lv_iload hx hb dX8_zonesUpTo_6 (lv_at hl 0 rfl) ?_
                    refine lv_iconst (v := iI 3) hx hb dX8_zonesUpTo_8 rfl ?_
                    refine gi_cge (tgt := 42) hx hb dX8_zonesUpTo_9 (by decide) (by decide) (by decide) (fun c_54 => ?_) (fun c_54 => ?_)
                    · refine lv_iload hx hb dX8_zonesUpTo_42 (lv_at hl 1 rfl) ?_
                      exact g_iret hQ C hr hlocks hP hS dX8_zonesUpTo_44 ⟨2, rfl, rfl, rfl, rfl, (by unfold zU; (repeat' split) <;> omega), (by first | omega | ((repeat' split) <;> omega))⟩
                    · exfalso; omega
      · refine lv_iinc (v := iI 1) (lv' := [(4, .int (iI 1)), (6, .int (iI z_2)), (5, .int (iI 0)), (0, .ref (ad 23)), (1, .int (iI a1)), (2, .int (iI a2)), (3, .int (iI a3))]) hx hb dX8_zonesUpTo_33 hl (k := 2) rfl (by show iI _ + iI 1 = _; rw [iI_add]; congr 1) (by decide) rfl (fun ls hl => ?_)
        refine lv_iinc (v := iI 1) (lv' := [(5, .int (iI 1)), (4, .int (iI 1)), (6, .int (iI z_2)), (0, .ref (ad 23)), (1, .int (iI a1)), (2, .int (iI a2)), (3, .int (iI a3))]) hx hb dX8_zonesUpTo_36 hl (k := 2) rfl (by show iI _ + iI 1 = _; rw [iI_add]; congr 1) (by decide) rfl (fun ls hl => ?_)
        refine lv_goto (tgt := 6) hx hb dX8_zonesUpTo_39 (by decide) ?_
        refine lv_iload hx hb dX8_zonesUpTo_6 (lv_at hl 0 rfl) ?_
        refine lv_iconst (v := iI 3) hx hb dX8_zonesUpTo_8 rfl ?_
        refine gi_cge (tgt := 42) hx hb dX8_zonesUpTo_9 (by decide) (by decide) (by decide) (fun c_55 => ?_) (fun c_55 => ?_)
        · exfalso; omega
        · refine lv_aload_n hx hb dX8_zonesUpTo_12 rfl (lv_at hl 3 rfl) ?_
          refine lv_iload_n hx hb dX8_zonesUpTo_13 rfl (lv_at hl 4 rfl) ?_
          refine lv_iload_n hx hb dX8_zonesUpTo_14 rfl (lv_at hl 5 rfl) ?_
          refine lv_iload hx hb dX8_zonesUpTo_15 (lv_at hl 0 rfl) ?_
          refine g_cv (As := [.int (iI a1), .int (iI a2), .int (iI 1)]) (rest := []) (n := 3) C hml (c_X8_zoneOf l D k A ad hD v f g a1 a2 1 (by omega) (by omega) (by decide) (show 0 ≤ a1 ∧ a1 ≤ 3 from by omega) (show 0 ≤ a2 ∧ a2 ≤ 4 from by omega) (show 0 ≤ (1 : Int) ∧ (1 : Int) < 3 from by omega)) mM_X8_27 mI_X8_zoneOf mE_X8_zoneOf mN_X8 mC_X8_zoneOf (by decide +kernel) 23 (ci := 8) rfl rfl hP hS (fun _ h => h) ⟨Nat.le_of_ble_eq_true rfl, Nat.le_of_ble_eq_true rfl⟩ ⟨Nat.zero_le _, Nat.zero_le _⟩ hl.1 rfl rfl (Nat.le_of_ble_eq_true rfl) dX8_zonesUpTo_17 (fun r_56 v_56 f_56 g_56 H locs hq_56 hP _ hS => ?_)
          obtain ⟨z_56, rfl, rfl, rfl, rfl, p0_56, p1_56⟩ := hq_56
          show W p l e (gRm 1 23) s m args below meth c _ _ 0 0 Q (F0 m 20 ls [.int (iI z_56)])
          replace p0_56 : z_56 = ((f 17) ((a1 * 5 + a2) * 3 + (1 : Int))) := p0_56
          replace p1_56 : 0 ≤ z_56 ∧ z_56 ≤ 60 := p1_56
          have hz_56 : inR z_56 := (by first | omega | (rw [p0_56]; split <;> omega))
          refine lv_istore (lv' := [(6, .int (iI z_56)), (5, .int (iI 1)), (4, .int (iI 1)), (0, .ref (ad 23)), (1, .int (iI a1)), (2, .int (iI a2)), (3, .int (iI a3))]) hx hb dX8_zonesUpTo_20 hl (by decide) rfl (fun ls hl => ?_)
          refine lv_iload hx hb dX8_zonesUpTo_22 (lv_at hl 0 rfl) ?_
          refine gi_zle (tgt := 36) hx hb dX8_zonesUpTo_24 (by decide) (by omega) (fun c_57 => ?_) (fun c_57 => ?_)
          · refine lv_iinc (v := iI 2) (lv' := [(5, .int (iI 2)), (6, .int (iI z_56)), (4, .int (iI 1)), (0, .ref (ad 23)), (1, .int (iI a1)), (2, .int (iI a2)), (3, .int (iI a3))]) hx hb dX8_zonesUpTo_36 hl (k := 1) rfl (by show iI _ + iI 1 = _; rw [iI_add]; congr 1) (by decide) rfl (fun ls hl => ?_)
            refine lv_goto (tgt := 6) hx hb dX8_zonesUpTo_39 (by decide) ?_
            refine lv_iload hx hb dX8_zonesUpTo_6 (lv_at hl 0 rfl) ?_
            refine lv_iconst (v := iI 3) hx hb dX8_zonesUpTo_8 rfl ?_
            refine gi_cge (tgt := 42) hx hb dX8_zonesUpTo_9 (by decide) (by decide) (by decide) (fun c_58 => ?_) (fun c_58 => ?_)
            · exfalso; omega
            · refine lv_aload_n hx hb dX8_zonesUpTo_12 rfl (lv_at hl 3 rfl) ?_
              refine lv_iload_n hx hb dX8_zonesUpTo_13 rfl (lv_at hl 4 rfl) ?_
              refine lv_iload_n hx hb dX8_zonesUpTo_14 rfl (lv_at hl 5 rfl) ?_
              refine lv_iload hx hb dX8_zonesUpTo_15 (lv_at hl 0 rfl) ?_
              refine g_cv (As := [.int (iI a1), .int (iI a2), .int (iI 2)]) (rest := []) (n := 3) C hml (c_X8_zoneOf l D k A ad hD v f g a1 a2 2 (by omega) (by omega) (by decide) (show 0 ≤ a1 ∧ a1 ≤ 3 from by omega) (show 0 ≤ a2 ∧ a2 ≤ 4 from by omega) (show 0 ≤ (2 : Int) ∧ (2 : Int) < 3 from by omega)) mM_X8_27 mI_X8_zoneOf mE_X8_zoneOf mN_X8 mC_X8_zoneOf (by decide +kernel) 23 (ci := 8) rfl rfl hP hS (fun _ h => h) ⟨Nat.le_of_ble_eq_true rfl, Nat.le_of_ble_eq_true rfl⟩ ⟨Nat.zero_le _, Nat.zero_le _⟩ hl.1 rfl rfl (Nat.le_of_ble_eq_true rfl) dX8_zonesUpTo_17 (fun r_59 v_59 f_59 g_59 H locs hq_59 hP _ hS => ?_)
              obtain ⟨z_59, rfl, rfl, rfl, rfl, p0_59, p1_59⟩ := hq_59
              show W p l e (gRm 1 23) s m args below meth c _ _ 0 0 Q (F0 m 20 ls [.int (iI z_59)])
              replace p0_59 : z_59 = ((f 17) ((a1 * 5 + a2) * 3 + (2 : Int))) := p0_59
              replace p1_59 : 0 ≤ z_59 ∧ z_59 ≤ 60 := p1_59
              have hz_59 : inR z_59 := (by first | omega | (rw [p0_59]; split <;> omega))
              refine lv_istore (lv' := [(6, .int (iI z_59)), (5, .int (iI 2)), (4, .int (iI 1)), (0, .ref (ad 23)), (1, .int (iI a1)), (2, .int (iI a2)), (3, .int (iI a3))]) hx hb dX8_zonesUpTo_20 hl (by decide) rfl (fun ls hl => ?_)
              refine lv_iload hx hb dX8_zonesUpTo_22 (lv_at hl 0 rfl) ?_
              refine gi_zle (tgt := 36) hx hb dX8_zonesUpTo_24 (by decide) (by omega) (fun c_60 => ?_) (fun c_60 => ?_)
              · refine lv_iinc (v := iI 3) (lv' := [(5, .int (iI 3)), (6, .int (iI z_59)), (4, .int (iI 1)), (0, .ref (ad 23)), (1, .int (iI a1)), (2, .int (iI a2)), (3, .int (iI a3))]) hx hb dX8_zonesUpTo_36 hl (k := 1) rfl (by show iI _ + iI 1 = _; rw [iI_add]; congr 1) (by decide) rfl (fun ls hl => ?_)
                refine lv_goto (tgt := 6) hx hb dX8_zonesUpTo_39 (by decide) ?_
                refine lv_iload hx hb dX8_zonesUpTo_6 (lv_at hl 0 rfl) ?_
                refine lv_iconst (v := iI 3) hx hb dX8_zonesUpTo_8 rfl ?_
                refine gi_cge (tgt := 42) hx hb dX8_zonesUpTo_9 (by decide) (by decide) (by decide) (fun c_61 => ?_) (fun c_61 => ?_)
                · refine lv_iload hx hb dX8_zonesUpTo_42 (lv_at hl 2 rfl) ?_
                  exact g_iret hQ C hr hlocks hP hS dX8_zonesUpTo_44 ⟨1, rfl, rfl, rfl, rfl, (by unfold zU; (repeat' split) <;> omega), (by first | omega | ((repeat' split) <;> omega))⟩
                · exfalso; omega
              · refine lv_iload hx hb dX8_zonesUpTo_27 (lv_at hl 0 rfl) ?_
                refine lv_iload_n hx hb dX8_zonesUpTo_29 rfl (lv_at hl 6 rfl) ?_
                refine gi_cgt (tgt := 36) hx hb dX8_zonesUpTo_30 (by decide) (by omega) (by omega) (fun c_62 => ?_) (fun c_62 => ?_)
                · refine lv_iinc (v := iI 3) (lv' := [(5, .int (iI 3)), (6, .int (iI z_59)), (4, .int (iI 1)), (0, .ref (ad 23)), (1, .int (iI a1)), (2, .int (iI a2)), (3, .int (iI a3))]) hx hb dX8_zonesUpTo_36 hl (k := 1) rfl (by show iI _ + iI 1 = _; rw [iI_add]; congr 1) (by decide) rfl (fun ls hl => ?_)
                  refine lv_goto (tgt := 6) hx hb dX8_zonesUpTo_39 (by decide) ?_
                  refine lv_iload hx hb dX8_zonesUpTo_6 (lv_at hl 0 rfl) ?_
                  refine lv_iconst (v := iI 3) hx hb dX8_zonesUpTo_8 rfl ?_
                  refine gi_cge (tgt := 42) hx hb dX8_zonesUpTo_9 (by decide) (by decide) (by decide) (fun c_63 => ?_) (fun c_63 => ?_)
                  · refine lv_iload hx hb dX8_zonesUpTo_42 (lv_at hl 2 rfl) ?_
                    exact g_iret hQ C hr hlocks hP hS dX8_zonesUpTo_44 ⟨1, rfl, rfl, rfl, rfl, (by unfold zU; (repeat' split) <;> omega), (by first | omega | ((repeat' split) <;> omega))⟩
                  · exfalso; omega
                · refine lv_iinc (v := iI 2) (lv' := [(4, .int (iI 2)), (6, .int (iI z_59)), (5, .int (iI 2)), (0, .ref (ad 23)), (1, .int (iI a1)), (2, .int (iI a2)), (3, .int (iI a3))]) hx hb dX8_zonesUpTo_33 hl (k := 2) rfl (by show iI _ + iI 1 = _; rw [iI_add]; congr 1) (by decide) rfl (fun ls hl => ?_)
                  refine lv_iinc (v := iI 3) (lv' := [(5, .int (iI 3)), (4, .int (iI 2)), (6, .int (iI z_59)), (0, .ref (ad 23)), (1, .int (iI a1)), (2, .int (iI a2)), (3, .int (iI a3))]) hx hb dX8_zonesUpTo_36 hl (k := 2) rfl (by show iI _ + iI 1 = _; rw [iI_add]; congr 1) (by decide) rfl (fun ls hl => ?_)
                  refine lv_goto (tgt := 6) hx hb dX8_zonesUpTo_39 (by decide) ?_
                  refine lv_iload hx hb dX8_zonesUpTo_6 (lv_at hl 0 rfl) ?_
                  refine lv_iconst (v := iI 3) hx hb dX8_zonesUpTo_8 rfl ?_
                  refine gi_cge (tgt := 42) hx hb dX8_zonesUpTo_9 (by decide) (by decide) (by decide) (fun c_64 => ?_) (fun c_64 => ?_)
                  · refine lv_iload hx hb dX8_zonesUpTo_42 (lv_at hl 1 rfl) ?_
                    exact g_iret hQ C hr hlocks hP hS dX8_zonesUpTo_44 ⟨2, rfl, rfl, rfl, rfl, (by unfold zU; (repeat' split) <;> omega), (by first | omega | ((repeat' split) <;> omega))⟩
                  · exfalso; omega
          · refine lv_iload hx hb dX8_zonesUpTo_27 (lv_at hl 0 rfl) ?_
            refine lv_iload_n hx hb dX8_zonesUpTo_29 rfl (lv_at hl 6 rfl) ?_
            refine gi_cgt (tgt := 36) hx hb dX8_zonesUpTo_30 (by decide) (by omega) (by omega) (fun c_65 => ?_) (fun c_65 => ?_)
            · refine lv_iinc (v := iI 2) (lv' := [(5, .int (iI 2)), (6, .int (iI z_56)), (4, .int (iI 1)), (0, .ref (ad 23)), (1, .int (iI a1)), (2, .int (iI a2)), (3, .int (iI a3))]) hx hb dX8_zonesUpTo_36 hl (k := 1) rfl (by show iI _ + iI 1 = _; rw [iI_add]; congr 1) (by decide) rfl (fun ls hl => ?_)
              refine lv_goto (tgt := 6) hx hb dX8_zonesUpTo_39 (by decide) ?_
              refine lv_iload hx hb dX8_zonesUpTo_6 (lv_at hl 0 rfl) ?_
              refine lv_iconst (v := iI 3) hx hb dX8_zonesUpTo_8 rfl ?_
              refine gi_cge (tgt := 42) hx hb dX8_zonesUpTo_9 (by decide) (by decide) (by decide) (fun c_66 => ?_) (fun c_66 => ?_)
              · exfalso; omega
              · refine lv_aload_n hx hb dX8_zonesUpTo_12 rfl (lv_at hl 3 rfl) ?_
                refine lv_iload_n hx hb dX8_zonesUpTo_13 rfl (lv_at hl 4 rfl) ?_
                refine lv_iload_n hx hb dX8_zonesUpTo_14 rfl (lv_at hl 5 rfl) ?_
                refine lv_iload hx hb dX8_zonesUpTo_15 (lv_at hl 0 rfl) ?_
                refine g_cv (As := [.int (iI a1), .int (iI a2), .int (iI 2)]) (rest := []) (n := 3) C hml (c_X8_zoneOf l D k A ad hD v f g a1 a2 2 (by omega) (by omega) (by decide) (show 0 ≤ a1 ∧ a1 ≤ 3 from by omega) (show 0 ≤ a2 ∧ a2 ≤ 4 from by omega) (show 0 ≤ (2 : Int) ∧ (2 : Int) < 3 from by omega)) mM_X8_27 mI_X8_zoneOf mE_X8_zoneOf mN_X8 mC_X8_zoneOf (by decide +kernel) 23 (ci := 8) rfl rfl hP hS (fun _ h => h) ⟨Nat.le_of_ble_eq_true rfl, Nat.le_of_ble_eq_true rfl⟩ ⟨Nat.zero_le _, Nat.zero_le _⟩ hl.1 rfl rfl (Nat.le_of_ble_eq_true rfl) dX8_zonesUpTo_17 (fun r_67 v_67 f_67 g_67 H locs hq_67 hP _ hS => ?_)
                obtain ⟨z_67, rfl, rfl, rfl, rfl, p0_67, p1_67⟩ := hq_67
                show W p l e (gRm 1 23) s m args below meth c _ _ 0 0 Q (F0 m 20 ls [.int (iI z_67)])
                replace p0_67 : z_67 = ((f 17) ((a1 * 5 + a2) * 3 + (2 : Int))) := p0_67
                replace p1_67 : 0 ≤ z_67 ∧ z_67 ≤ 60 := p1_67
                have hz_67 : inR z_67 := (by first | omega | (rw [p0_67]; split <;> omega))
                refine lv_istore (lv' := [(6, .int (iI z_67)), (5, .int (iI 2)), (4, .int (iI 1)), (0, .ref (ad 23)), (1, .int (iI a1)), (2, .int (iI a2)), (3, .int (iI a3))]) hx hb dX8_zonesUpTo_20 hl (by decide) rfl (fun ls hl => ?_)
                refine lv_iload hx hb dX8_zonesUpTo_22 (lv_at hl 0 rfl) ?_
                refine gi_zle (tgt := 36) hx hb dX8_zonesUpTo_24 (by decide) (by omega) (fun c_68 => ?_) (fun c_68 => ?_)
                · refine lv_iinc (v := iI 3) (lv' := [(5, .int (iI 3)), (6, .int (iI z_67)), (4, .int (iI 1)), (0, .ref (ad 23)), (1, .int (iI a1)), (2, .int (iI a2)), (3, .int (iI a3))]) hx hb dX8_zonesUpTo_36 hl (k := 1) rfl (by show iI _ + iI 1 = _; rw [iI_add]; congr 1) (by decide) rfl (fun ls hl => ?_)
                  refine lv_goto (tgt := 6) hx hb dX8_zonesUpTo_39 (by decide) ?_
                  refine lv_iload hx hb dX8_zonesUpTo_6 (lv_at hl 0 rfl) ?_
                  refine lv_iconst (v := iI 3) hx hb dX8_zonesUpTo_8 rfl ?_
                  refine gi_cge (tgt := 42) hx hb dX8_zonesUpTo_9 (by decide) (by decide) (by decide) (fun c_69 => ?_) (fun c_69 => ?_)
                  · refine lv_iload hx hb dX8_zonesUpTo_42 (lv_at hl 2 rfl) ?_
                    exact g_iret hQ C hr hlocks hP hS dX8_zonesUpTo_44 ⟨1, rfl, rfl, rfl, rfl, (by unfold zU; (repeat' split) <;> omega), (by first | omega | ((repeat' split) <;> omega))⟩
                  · exfalso; omega
                · refine lv_iload hx hb dX8_zonesUpTo_27 (lv_at hl 0 rfl) ?_
                  refine lv_iload_n hx hb dX8_zonesUpTo_29 rfl (lv_at hl 6 rfl) ?_
                  refine gi_cgt (tgt := 36) hx hb dX8_zonesUpTo_30 (by decide) (by omega) (by omega) (fun c_70 => ?_) (fun c_70 => ?_)
                  · refine lv_iinc (v := iI 3) (lv' := [(5, .int (iI 3)), (6, .int (iI z_67)), (4, .int (iI 1)), (0, .ref (ad 23)), (1, .int (iI a1)), (2, .int (iI a2)), (3, .int (iI a3))]) hx hb dX8_zonesUpTo_36 hl (k := 1) rfl (by show iI _ + iI 1 = _; rw [iI_add]; congr 1) (by decide) rfl (fun ls hl => ?_)
                    refine lv_goto (tgt := 6) hx hb dX8_zonesUpTo_39 (by decide) ?_
                    refine lv_iload hx hb dX8_zonesUpTo_6 (lv_at hl 0 rfl) ?_
                    refine lv_iconst (v := iI 3) hx hb dX8_zonesUpTo_8 rfl ?_
                    refine gi_cge (tgt := 42) hx hb dX8_zonesUpTo_9 (by decide) (by decide) (by decide) (fun c_71 => ?_) (fun c_71 => ?_)
                    · refine lv_iload hx hb dX8_zonesUpTo_42 (lv_at hl 2 rfl) ?_
                      exact g_iret hQ C hr hlocks hP hS dX8_zonesUpTo_44 ⟨1, rfl, rfl, rfl, rfl, (by unfold zU; (repeat' split) <;> omega), (by first | omega | ((repeat' split) <;> omega))⟩
                    · exfalso; omega
                  · refine lv_iinc (v := iI 2) (lv' := [(4, .int (iI 2)), (6, .int (iI z_67)), (5, .int (iI 2)), (0, .ref (ad 23)), (1, .int (iI a1)), (2, .int (iI a2)), (3, .int (iI a3))]) hx hb dX8_zonesUpTo_33 hl (k := 2) rfl (by show iI _ + iI 1 = _; rw [iI_add]; congr 1) (by decide) rfl (fun ls hl => ?_)
                    refine lv_iinc (v := iI 3) (lv' := [(5, .int (iI 3)), (4, .int (iI 2)), (6, .int (iI z_67)), (0, .ref (ad 23)), (1, .int (iI a1)), (2, .int (iI a2)), (3, .int (iI a3))]) hx hb dX8_zonesUpTo_36 hl (k := 2) rfl (by show iI _ + iI 1 = _; rw [iI_add]; congr 1) (by decide) rfl (fun ls hl => ?_)
                    refine lv_goto (tgt := 6) hx hb dX8_zonesUpTo_39 (by decide) ?_
                    refine lv_iload hx hb dX8_zonesUpTo_6 (lv_at hl 0 rfl) ?_
                    refine lv_iconst (v := iI 3) hx hb dX8_zonesUpTo_8 rfl ?_
                    refine gi_cge (tgt := 42) hx hb dX8_zonesUpTo_9 (by decide) (by decide) (by decide) (fun c_72 => ?_) (fun c_72 => ?_)
                    · refine lv_iload hx hb dX8_zonesUpTo_42 (lv_at hl 1 rfl) ?_
                      exact g_iret hQ C hr hlocks hP hS dX8_zonesUpTo_44 ⟨2, rfl, rfl, rfl, rfl, (by unfold zU; (repeat' split) <;> omega), (by first | omega | ((repeat' split) <;> omega))⟩
                    · exfalso; omega
            · refine lv_iinc (v := iI 2) (lv' := [(4, .int (iI 2)), (6, .int (iI z_56)), (5, .int (iI 1)), (0, .ref (ad 23)), (1, .int (iI a1)), (2, .int (iI a2)), (3, .int (iI a3))]) hx hb dX8_zonesUpTo_33 hl (k := 2) rfl (by show iI _ + iI 1 = _; rw [iI_add]; congr 1) (by decide) rfl (fun ls hl => ?_)
              refine lv_iinc (v := iI 2) (lv' := [(5, .int (iI 2)), (4, .int (iI 2)), (6, .int (iI z_56)), (0, .ref (ad 23)), (1, .int (iI a1)), (2, .int (iI a2)), (3, .int (iI a3))]) hx hb dX8_zonesUpTo_36 hl (k := 2) rfl (by show iI _ + iI 1 = _; rw [iI_add]; congr 1) (by decide) rfl (fun ls hl => ?_)
              refine lv_goto (tgt := 6) hx hb dX8_zonesUpTo_39 (by decide) ?_
              refine lv_iload hx hb dX8_zonesUpTo_6 (lv_at hl 0 rfl) ?_
              refine lv_iconst (v := iI 3) hx hb dX8_zonesUpTo_8 rfl ?_
              refine gi_cge (tgt := 42) hx hb dX8_zonesUpTo_9 (by decide) (by decide) (by decide) (fun c_73 => ?_) (fun c_73 => ?_)
              · exfalso; omega
              · refine lv_aload_n hx hb dX8_zonesUpTo_12 rfl (lv_at hl 3 rfl) ?_
                refine lv_iload_n hx hb dX8_zonesUpTo_13 rfl (lv_at hl 4 rfl) ?_
                refine lv_iload_n hx hb dX8_zonesUpTo_14 rfl (lv_at hl 5 rfl) ?_
                refine lv_iload hx hb dX8_zonesUpTo_15 (lv_at hl 0 rfl) ?_
                refine g_cv (As := [.int (iI a1), .int (iI a2), .int (iI 2)]) (rest := []) (n := 3) C hml (c_X8_zoneOf l D k A ad hD v f g a1 a2 2 (by omega) (by omega) (by decide) (show 0 ≤ a1 ∧ a1 ≤ 3 from by omega) (show 0 ≤ a2 ∧ a2 ≤ 4 from by omega) (show 0 ≤ (2 : Int) ∧ (2 : Int) < 3 from by omega)) mM_X8_27 mI_X8_zoneOf mE_X8_zoneOf mN_X8 mC_X8_zoneOf (by decide +kernel) 23 (ci := 8) rfl rfl hP hS (fun _ h => h) ⟨Nat.le_of_ble_eq_true rfl, Nat.le_of_ble_eq_true rfl⟩ ⟨Nat.zero_le _, Nat.zero_le _⟩ hl.1 rfl rfl (Nat.le_of_ble_eq_true rfl) dX8_zonesUpTo_17 (fun r_74 v_74 f_74 g_74 H locs hq_74 hP _ hS => ?_)
                obtain ⟨z_74, rfl, rfl, rfl, rfl, p0_74, p1_74⟩ := hq_74
                show W p l e (gRm 1 23) s m args below meth c _ _ 0 0 Q (F0 m 20 ls [.int (iI z_74)])
                replace p0_74 : z_74 = ((f 17) ((a1 * 5 + a2) * 3 + (2 : Int))) := p0_74
                replace p1_74 : 0 ≤ z_74 ∧ z_74 ≤ 60 := p1_74
                have hz_74 : inR z_74 := (by first | omega | (rw [p0_74]; split <;> omega))
                refine lv_istore (lv' := [(6, .int (iI z_74)), (5, .int (iI 2)), (4, .int (iI 2)), (0, .ref (ad 23)), (1, .int (iI a1)), (2, .int (iI a2)), (3, .int (iI a3))]) hx hb dX8_zonesUpTo_20 hl (by decide) rfl (fun ls hl => ?_)
                refine lv_iload hx hb dX8_zonesUpTo_22 (lv_at hl 0 rfl) ?_
                refine gi_zle (tgt := 36) hx hb dX8_zonesUpTo_24 (by decide) (by omega) (fun c_75 => ?_) (fun c_75 => ?_)
                · refine lv_iinc (v := iI 3) (lv' := [(5, .int (iI 3)), (6, .int (iI z_74)), (4, .int (iI 2)), (0, .ref (ad 23)), (1, .int (iI a1)), (2, .int (iI a2)), (3, .int (iI a3))]) hx hb dX8_zonesUpTo_36 hl (k := 1) rfl (by show iI _ + iI 1 = _; rw [iI_add]; congr 1) (by decide) rfl (fun ls hl => ?_)
                  refine lv_goto (tgt := 6) hx hb dX8_zonesUpTo_39 (by decide) ?_
                  refine lv_iload hx hb dX8_zonesUpTo_6 (lv_at hl 0 rfl) ?_
                  refine lv_iconst (v := iI 3) hx hb dX8_zonesUpTo_8 rfl ?_
                  refine gi_cge (tgt := 42) hx hb dX8_zonesUpTo_9 (by decide) (by decide) (by decide) (fun c_76 => ?_) (fun c_76 => ?_)
                  · refine lv_iload hx hb dX8_zonesUpTo_42 (lv_at hl 2 rfl) ?_
                    exact g_iret hQ C hr hlocks hP hS dX8_zonesUpTo_44 ⟨2, rfl, rfl, rfl, rfl, (by unfold zU; (repeat' split) <;> omega), (by first | omega | ((repeat' split) <;> omega))⟩
                  · exfalso; omega
                · refine lv_iload hx hb dX8_zonesUpTo_27 (lv_at hl 0 rfl) ?_
                  refine lv_iload_n hx hb dX8_zonesUpTo_29 rfl (lv_at hl 6 rfl) ?_
                  refine gi_cgt (tgt := 36) hx hb dX8_zonesUpTo_30 (by decide) (by omega) (by omega) (fun c_77 => ?_) (fun c_77 => ?_)
                  · refine lv_iinc (v := iI 3) (lv' := [(5, .int (iI 3)), (6, .int (iI z_74)), (4, .int (iI 2)), (0, .ref (ad 23)), (1, .int (iI a1)), (2, .int (iI a2)), (3, .int (iI a3))]) hx hb dX8_zonesUpTo_36 hl (k := 1) rfl (by show iI _ + iI 1 = _; rw [iI_add]; congr 1) (by decide) rfl (fun ls hl => ?_)
                    refine lv_goto (tgt := 6) hx hb dX8_zonesUpTo_39 (by decide) ?_
                    refine lv_iload hx hb dX8_zonesUpTo_6 (lv_at hl 0 rfl) ?_
                    refine lv_iconst (v := iI 3) hx hb dX8_zonesUpTo_8 rfl ?_
                    refine gi_cge (tgt := 42) hx hb dX8_zonesUpTo_9 (by decide) (by decide) (by decide) (fun c_78 => ?_) (fun c_78 => ?_)
                    · refine lv_iload hx hb dX8_zonesUpTo_42 (lv_at hl 2 rfl) ?_
                      exact g_iret hQ C hr hlocks hP hS dX8_zonesUpTo_44 ⟨2, rfl, rfl, rfl, rfl, (by unfold zU; (repeat' split) <;> omega), (by first | omega | ((repeat' split) <;> omega))⟩
                    · exfalso; omega
                  · refine lv_iinc (v := iI 3) (lv' := [(4, .int (iI 3)), (6, .int (iI z_74)), (5, .int (iI 2)), (0, .ref (ad 23)), (1, .int (iI a1)), (2, .int (iI a2)), (3, .int (iI a3))]) hx hb dX8_zonesUpTo_33 hl (k := 2) rfl (by show iI _ + iI 1 = _; rw [iI_add]; congr 1) (by decide) rfl (fun ls hl => ?_)
                    refine lv_iinc (v := iI 3) (lv' := [(5, .int (iI 3)), (4, .int (iI 3)), (6, .int (iI z_74)), (0, .ref (ad 23)), (1, .int (iI a1)), (2, .int (iI a2)), (3, .int (iI a3))]) hx hb dX8_zonesUpTo_36 hl (k := 2) rfl (by show iI _ + iI 1 = _; rw [iI_add]; congr 1) (by decide) rfl (fun ls hl => ?_)
                    refine lv_goto (tgt := 6) hx hb dX8_zonesUpTo_39 (by decide) ?_
                    refine lv_iload hx hb dX8_zonesUpTo_6 (lv_at hl 0 rfl) ?_
                    refine lv_iconst (v := iI 3) hx hb dX8_zonesUpTo_8 rfl ?_
                    refine gi_cge (tgt := 42) hx hb dX8_zonesUpTo_9 (by decide) (by decide) (by decide) (fun c_79 => ?_) (fun c_79 => ?_)
                    · refine lv_iload hx hb dX8_zonesUpTo_42 (lv_at hl 1 rfl) ?_
                      exact g_iret hQ C hr hlocks hP hS dX8_zonesUpTo_44 ⟨3, rfl, rfl, rfl, rfl, (by unfold zU; (repeat' split) <;> omega), (by first | omega | ((repeat' split) <;> omega))⟩
                    · exfalso; omega

set_option maxHeartbeats 4000000 in
set_option maxRecDepth 100000 in
theorem x_Fi_manyIn (l : Launch) (D : va_G) (k : Nat → ClassId) (A : Nat → Prop) (ad : Nat → Nat) (hD : rwD A k ad) (v : gV) (f g : gF) (a1 : Int) (h_a1 : inR a1) : GM l D k A (rwT k ad) yX2_manyIn cX2_manyIn 4 (some .int) 0 0 [.ref (ad 27), .int (iI a1)] v f g (fun r v1 f1 g1 => ∃ (z : Int), r = some (.int (iI z)) ∧ v = v1 ∧ f = f1 ∧ g = g1 ∧ (z = (cn (pIn (f 18) a1) (v 21).toNat)) ∧ (0 ≤ z ∧ z ≤ 16)) := by
  refine GM.of (by decide) (Nat.le_of_ble_eq_true rfl) ?_
  intro p e s m args below meth c Q ls hQ C hml hr hlocks hP hl
  have hx := C.1
  have hb := C.2.1
  have hok := hP.2
  have hS : va_S A s.heap s.heap [] := va_S.rf
  have hl : lv_has ls 4 [(0, .ref (ad 27)), (1, .int (iI a1))] := hl
  have r_1 : 0 ≤ (v 21) ∧ (v 21) ≤ 16 := hok.1 21
  refine lv_iconst (v := iI 0) hx hb dX2_manyIn_0 rfl ?_
  refine lv_istore_n (lv' := [(2, .int (iI 0)), (0, .ref (ad 27)), (1, .int (iI a1))]) hx hb dX2_manyIn_1 rfl hl (by decide) rfl (fun ls hl => ?_)
  refine lv_iconst (v := iI 0) hx hb dX2_manyIn_2 rfl ?_
  refine lv_istore_n (lv' := [(3, .int (iI 0)), (2, .int (iI 0)), (0, .ref (ad 27)), (1, .int (iI a1))]) hx hb dX2_manyIn_3 rfl hl (by decide) rfl (fun ls hl => ?_)
  have L_2 : ∀ (n : Nat) (x2 : Int) (x3 : Int) (H : Heap) (locs : List Loc) (ls : Array Slot), 16 - x3 < (n : Int) → (0 ≤ x3 ∧ x3 ≤ (v 21)) → (0 ≤ x2 ∧ x2 ≤ x3) → (x2 = cn (pIn (f 18) a1) x3.toNat) → gWd D (rwT k ad) v f g H → va_S A s.heap H locs → lv_has ls 4 [(0, .ref (ad 27)), (1, .int (iI a1)), (2, .int (iI x2)), (3, .int (iI x3))] → W p l e (gRm 0 0) s m args below meth c H locs 0 0 Q (F0 m 4 ls []) := by
    intro n
    induction n with
    | zero =>
      intro x2 x3 H locs ls hn_2 i2_0 i2_1 i2_2 hP hS hl
      exfalso; omega
    | succ n ih_4 =>
      intro x2 x3 H locs ls hn_2 i2_0 i2_1 i2_2 hP hS hl
      refine lv_iload_n hx hb dX2_manyIn_4 rfl (lv_at hl 3 rfl) ?_
      refine lv_aload_n hx hb dX2_manyIn_5 rfl (lv_at hl 0 rfl) ?_
      refine rwG_field_climbers C hP mF_X2_18 dX2_manyIn_6 ?_
      refine gi_cge (tgt := 31) hx hb dX2_manyIn_9 (by decide) (by omega) (by omega) (fun c_3 => ?_) (fun c_3 => ?_)
      · refine lv_iload_n hx hb dX2_manyIn_31 rfl (lv_at hl 2 rfl) ?_
        exact g_iret hQ C hr hlocks hP hS dX2_manyIn_32 ⟨x2, rfl, rfl, rfl, rfl, (by rw [show (v 21) = x3 by omega]; assumption), (by first | omega | ((repeat' split) <;> omega))⟩
      · refine lv_aload_n hx hb dX2_manyIn_12 rfl (lv_at hl 0 rfl) ?_
        refine rwG_field_latest C hP mF_X2_9 dX2_manyIn_13 ?_
        refine lv_iload_n hx hb dX2_manyIn_16 rfl (lv_at hl 3 rfl) ?_
        refine rwL_field_latest C hP (by omega) (by omega) dX2_manyIn_17 ?_
        have r_4 : 0 ≤ (f 18 x3) ∧ (f 18 x3) ≤ 3 := hP.2.2 18 x3
        refine lv_iload_n hx hb dX2_manyIn_18 rfl (lv_at hl 1 rfl) ?_
        refine gi_clt (tgt := 25) hx hb dX2_manyIn_19 (by decide) (by omega) (by omega) (fun c_5 => ?_) (fun c_5 => ?_)
        · refine lv_iinc (v := iI (x3 + 1)) (lv' := [(3, .int (iI (x3 + 1))), (0, .ref (ad 27)), (1, .int (iI a1)), (2, .int (iI x2))]) hx hb dX2_manyIn_25 hl (k := 3) rfl (by show iI _ + iI 1 = _; rw [iI_add]) (by decide) rfl (fun ls hl => ?_)
          refine lv_goto (tgt := 4) hx hb dX2_manyIn_28 (by decide) ?_
          exact ih_4 x2 (x3 + 1) _ _ _ (by omega) (by omega) (by omega) (by first | (rw [cn_y (by omega) (decide_eq_true (by omega))]; omega) | (rw [cn_n (by omega) (decide_eq_false (by omega))]; omega)) hP hS (lv_sub hl [1, 2, 3, 0] rfl)
        · refine lv_iinc (v := iI (x2 + 1)) (lv' := [(2, .int (iI (x2 + 1))), (0, .ref (ad 27)), (1, .int (iI a1)), (3, .int (iI x3))]) hx hb dX2_manyIn_22 hl (k := 2) rfl (by show iI _ + iI 1 = _; rw [iI_add]) (by decide) rfl (fun ls hl => ?_)
          refine lv_iinc (v := iI (x3 + 1)) (lv' := [(3, .int (iI (x3 + 1))), (2, .int (iI (x2 + 1))), (0, .ref (ad 27)), (1, .int (iI a1))]) hx hb dX2_manyIn_25 hl (k := 3) rfl (by show iI _ + iI 1 = _; rw [iI_add]) (by decide) rfl (fun ls hl => ?_)
          refine lv_goto (tgt := 4) hx hb dX2_manyIn_28 (by decide) ?_
          exact ih_4 (x2 + 1) (x3 + 1) _ _ _ (by omega) (by omega) (by omega) (by first | (rw [cn_y (by omega) (decide_eq_true (by omega))]; omega) | (rw [cn_n (by omega) (decide_eq_false (by omega))]; omega)) hP hS (lv_sub hl [2, 3, 1, 0] rfl)
  exact L_2 17 0 0 _ _ _ (by omega) (by omega) (by omega) rfl hP hS (lv_sub hl [2, 3, 1, 0] rfl)

set_option maxHeartbeats 4000000 in
set_option maxRecDepth 100000 in
theorem x_Tr_anyOpen (l : Launch) (D : va_G) (k : Nat → ClassId) (A : Nat → Prop) (ad : Nat → Nat) (hD : rwD A k ad) (v : gV) (f g : gF) : GM l D k A (rwT k ad) yX7_anyOpen cX7_anyOpen 2 (some .boolean) 0 0 [.ref (ad 30)] v f g (fun r v1 f1 g1 => ∃ (z : Int), r = some (.int (iI z)) ∧ v = v1 ∧ f = f1 ∧ g = g1 ∧ (z = (if 1 ≤ cn (pOn (f 27)) (16 : Int).toNat then 1 else 0))) := by
  refine GM.of (by decide) (Nat.le_of_ble_eq_true rfl) ?_
  intro p e s m args below meth c Q ls hQ C hml hr hlocks hP hl
  have hx := C.1
  have hb := C.2.1
  have hok := hP.2
  have hS : va_S A s.heap s.heap [] := va_S.rf
  have hl : lv_has ls 2 [(0, .ref (ad 30))] := hl
  refine lv_iconst (v := iI 0) hx hb dX7_anyOpen_0 rfl ?_
  refine lv_istore_n (lv' := [(1, .int (iI 0)), (0, .ref (ad 30))]) hx hb dX7_anyOpen_1 rfl hl (by decide) rfl (fun ls hl => ?_)
  have L_1 : ∀ (n : Nat) (x1 : Int) (H : Heap) (locs : List Loc) (ls : Array Slot), 16 - x1 < (n : Int) → (0 ≤ x1 ∧ x1 ≤ 16) → (cn (pOn (f 27)) x1.toNat = 0) → gWd D (rwT k ad) v f g H → va_S A s.heap H locs → lv_has ls 2 [(0, .ref (ad 30)), (1, .int (iI x1))] → W p l e (gRm 0 0) s m args below meth c H locs 0 0 Q (F0 m 2 ls []) := by
    intro n
    induction n with
    | zero =>
      intro x1 H locs ls hn_1 i1_0 i1_1 hP hS hl
      exfalso; omega
    | succ n ih_2 =>
      intro x1 H locs ls hn_1 i1_0 i1_1 hP hS hl
      have hI := i1_1
      refine lv_iload_n hx hb dX7_anyOpen_2 rfl (lv_at hl 1 rfl) ?_
      refine lv_bipush (v := iI 16) hx hb dX7_anyOpen_3 (by decide) ?_
      refine gi_cge (tgt := 25) hx hb dX7_anyOpen_5 (by decide) (by omega) (by decide) (fun c_2 => ?_) (fun c_2 => ?_)
      · refine lv_iconst (v := iI 0) hx hb dX7_anyOpen_25 rfl ?_
        exact g_zret hQ C hr hlocks (by decide) hP hS dX7_anyOpen_26 ⟨0, rfl, rfl, rfl, rfl, (by first | (rw [if_pos (cn_hi (x := x1) (by omega) (by omega) (decide_eq_true (by omega)))]) | (rw [if_neg (by rw [show (16 : Int) = x1 by omega, hI]; decide)]))⟩
      · refine lv_aload_n hx hb dX7_anyOpen_8 rfl (lv_at hl 0 rfl) ?_
        refine rwG_tries_openNext C hP mF_X7_33 dX7_anyOpen_9 ?_
        refine lv_iload_n hx hb dX7_anyOpen_12 rfl (lv_at hl 1 rfl) ?_
        refine rwL_tries_openNext C hP (by omega) (by omega) dX7_anyOpen_13 ?_
        have r_3 : 0 ≤ (f 27 x1) ∧ (f 27 x1) ≤ 300 := hP.2.2 27 x1
        refine gi_zle (tgt := 19) hx hb dX7_anyOpen_14 (by decide) (by omega) (fun c_4 => ?_) (fun c_4 => ?_)
        · refine lv_iinc (v := iI (x1 + 1)) (lv' := [(1, .int (iI (x1 + 1))), (0, .ref (ad 30))]) hx hb dX7_anyOpen_19 hl (k := 1) rfl (by show iI _ + iI 1 = _; rw [iI_add]) (by decide) rfl (fun ls hl => ?_)
          refine lv_goto (tgt := 2) hx hb dX7_anyOpen_22 (by decide) ?_
          exact ih_2 (x1 + 1) _ _ _ (by omega) (by omega) (by first | (rw [cn_y (by omega) (decide_eq_true (by omega))]; omega) | (rw [cn_n (by omega) (decide_eq_false (by omega))]; omega)) hP hS (lv_sub hl [1, 0] rfl)
        · refine lv_iconst (v := iI 1) hx hb dX7_anyOpen_17 rfl ?_
          exact g_zret hQ C hr hlocks (by decide) hP hS dX7_anyOpen_18 ⟨1, rfl, rfl, rfl, rfl, (by first | (rw [if_pos (cn_hi (x := x1) (by omega) (by omega) (decide_eq_true (by omega)))]) | (rw [if_neg (by rw [show (16 : Int) = x1 by omega, hI]; decide)]))⟩
  exact L_1 17 0 _ _ _ (by omega) (by omega) rfl hP hS (lv_sub hl [1, 0] rfl)

set_option maxHeartbeats 4000000 in
set_option maxRecDepth 100000 in
theorem x_Tr_endOverdue (l : Launch) (D : va_G) (k : Nat → ClassId) (A : Nat → Prop) (ad : Nat → Nat) (hD : rwD A k ad) (v : gV) (f g : gF) (a1 : Int) (a2 : Int) (h_a1 : inR a1) (h_a2 : inR a2) (h1 : 0 ≤ a1 ∧ a1 ≤ 1000000) (h2 : 0 ≤ a2 ∧ a2 ≤ 999) (hO : OI (v 23) (f 20) (f 26) (f 27)) : GM l D k A (rwT k ad) yX7_endOverdue cX7_endOverdue 5 none 1 23 [.ref (ad 30), .int (iI a1), .int (iI a2)] v f g (fun r v1 f1 g1 => r = none ∧ v = v1 ∧ (va_up (va_up (va_up f 24 (ovE (v 23) a1 (f 26) (f 23) (fun _ => a2) (f 24))) 26 (ovH (v 23) a1 (f 26) (f 23) (fun _ => a2))) 27 (ovO a1 (f 23) (fun _ => a2) (f 27))) = f1 ∧ g = g1) := by
  refine GM.of (by decide) (Nat.le_of_ble_eq_true rfl) ?_
  intro p e s m args below meth c Q ls hQ C hml hr hlocks hP hl
  have hx := C.1
  have hb := C.2.1
  have hok := hP.2
  have hS : va_S A s.heap s.heap [] := va_S.rf
  have hl : lv_has ls 5 [(0, .ref (ad 30)), (1, .int (iI a1)), (2, .int (iI a2))] := hl
  have hP : gWd D (rwT k ad) v (va_up (va_up (va_up f 24 (f 24)) 26 (f 26)) 27 (f 27)) g s.heap := by rw [va_id, va_id, va_id]; exact hP
  have hwr : ∀ k, 0 ≤ (f 20) k ∧ (f 20) k ≤ 15 := fun k => hok.2 20 k
  refine lv_iconst (v := iI 0) hx hb dX7_endOverdue_0 rfl ?_
  refine lv_istore_n (lv' := [(3, .int (iI 0)), (0, .ref (ad 30)), (1, .int (iI a1)), (2, .int (iI a2))]) hx hb dX7_endOverdue_1 rfl hl (by decide) rfl (fun ls hl => ?_)
  have L_1 : ∀ (n : Nat) (x3 : Int) (c24_1 : Int → Int) (c26_1 : Int → Int) (c27_1 : Int → Int) (H : Heap) (locs : List Loc) (ls : Array Slot), 16 - x3 < (n : Int) → (0 ≤ x3 ∧ x3 ≤ 16) → (c24_1 = oxE x3 (v 23) a1 (f 20) (f 26) (f 23) (fun _ => a2) (f 24)) → (c26_1 = oxH x3 (v 23) a1 (f 20) (f 26) (f 23) (fun _ => a2)) → (c27_1 = oxO x3 a1 (f 23) (fun _ => a2) (f 27)) → gWd D (rwT k ad) v (va_up (va_up (va_up f 24 c24_1) 26 c26_1) 27 c27_1) g H → va_S A s.heap H locs → lv_has ls 5 [(0, .ref (ad 30)), (1, .int (iI a1)), (2, .int (iI a2)), (3, .int (iI x3))] → W p l e (gRm 1 23) s m args below meth c H locs 0 0 Q (F0 m 2 ls []) := by
    intro n
    induction n with
    | zero =>
      intro x3 c24_1 c26_1 c27_1 H locs ls hn_1 i1_0 i1_1 i1_2 i1_3 hP hS hl
      exfalso; omega
    | succ n ih_2 =>
      intro x3 c24_1 c26_1 c27_1 H locs ls hn_1 i1_0 i1_1 i1_2 i1_3 hP hS hl
      have hI1 := i1_1
      have hI2 := i1_2
      have hI3 := i1_3
      refine lv_iload_n hx hb dX7_endOverdue_2 rfl (lv_at hl 3 rfl) ?_
      refine lv_bipush (v := iI 16) hx hb dX7_endOverdue_3 (by decide) ?_
      refine gi_cge (tgt := 56) hx hb dX7_endOverdue_5 (by decide) (by omega) (by decide) (fun c_2 => ?_) (fun c_2 => ?_)
      · exact g_vret hQ C hr hlocks hP hS dX7_endOverdue_56 ⟨rfl, rfl, (by rw [show ((ovE (v 23) a1 (f 26) (f 23) (fun _ => a2) (f 24)) : Int → Int) = c24_1 from by rw [hI1, show x3 = 16 by omega]; exact (oxE_16 hwr).symm, show ((ovH (v 23) a1 (f 26) (f 23) (fun _ => a2)) : Int → Int) = c26_1 from by rw [hI2, show x3 = 16 by omega]; exact (oxH_16 hwr).symm, show ((ovO a1 (f 23) (fun _ => a2) (f 27)) : Int → Int) = c27_1 from by rw [hI3, show x3 = 16 by omega]; exact oxO_16.symm]), rfl⟩
      · refine lv_aload_n hx hb dX7_endOverdue_8 rfl (lv_at hl 0 rfl) ?_
        refine lv_iload_n hx hb dX7_endOverdue_9 rfl (lv_at hl 3 rfl) ?_
        refine g_cv (As := [.int (iI x3)]) (rest := []) (n := 1) C hml (c_X7_openOf l D k A ad hD v (va_up (va_up (va_up f 24 c24_1) 26 c26_1) 27 c27_1) g x3 (by omega) (show 0 ≤ x3 ∧ x3 ≤ 15 from by omega)) mM_X7_46 mI_X7_openOf mE_X7_openOf mN_X7 mC_X7_openOf (by decide +kernel) 30 (ci := 7) rfl rfl hP hS (fun _ h => h) ⟨Nat.le_of_ble_eq_true rfl, Nat.le_of_ble_eq_true rfl⟩ ⟨Nat.zero_le _, Nat.zero_le _⟩ hl.1 rfl rfl (Nat.le_of_ble_eq_true rfl) dX7_endOverdue_10 (fun r_3 v_3 f_3 g_3 H locs hq_3 hP _ hS => ?_)
        obtain ⟨z_3, rfl, rfl, rfl, rfl, p0_3, p1_3⟩ := hq_3
        show W p l e (gRm 1 23) s m args below meth c _ _ 0 0 Q (F0 m 13 ls [.int (iI z_3)])
        replace p0_3 : z_3 = (c27_1 x3 - 1) := p0_3
        replace p1_3 : (-1) ≤ z_3 ∧ z_3 ≤ 299 := p1_3
        have hz_3 : inR z_3 := (by first | omega | (rw [p0_3]; split <;> omega))
        have hz1 : z_3 = (f 27) x3 - 1 := by rw [p0_3, hI3, oxO_at]
        have hbz : (f 23) ((f 27) x3 - 1) = (f 23) z_3 := by rw [hz1]
        have hwh : 0 < (f 27) x3 → (f 20) z_3 = x3 := fun h => by rw [hz1]; exact ((hO.1 x3 (by omega) (by omega)).2.2 h).1
        refine lv_istore (lv' := [(4, .int (iI z_3)), (0, .ref (ad 30)), (1, .int (iI a1)), (2, .int (iI a2)), (3, .int (iI x3))]) hx hb dX7_endOverdue_13 hl (by decide) rfl (fun ls hl => ?_)
        refine lv_iload hx hb dX7_endOverdue_15 (lv_at hl 0 rfl) ?_
        refine lv_iconst (v := iI (-1)) hx hb dX7_endOverdue_17 rfl ?_
        refine gi_ceq (tgt := 50) hx hb dX7_endOverdue_18 (by decide) (by omega) (by decide) (fun c_4 => ?_) (fun c_4 => ?_)
        · refine lv_iinc (v := iI (x3 + 1)) (lv' := [(3, .int (iI (x3 + 1))), (4, .int (iI z_3)), (0, .ref (ad 30)), (1, .int (iI a1)), (2, .int (iI a2))]) hx hb dX7_endOverdue_50 hl (k := 4) rfl (by show iI _ + iI 1 = _; rw [iI_add]) (by decide) rfl (fun ls hl => ?_)
          refine lv_goto (tgt := 2) hx hb dX7_endOverdue_53 (by decide) ?_
          exact ih_2 (x3 + 1) c24_1 c26_1 c27_1 _ _ _ (by omega) (by omega) (by first | (rw [hI1]; exact oxE_hit hO (by omega) hz1 ⟨by omega, by show _ + a2 ≤ a1; omega⟩ rfl) | (rw [hI1]; exact (oxE_skip (ox_no hO (fun h => by have h1 := h.1; have h2 : (f 23) ((f 27) x3 - 1) + a2 ≤ a1 := h.2; omega))).symm)) (by first | (rw [hI2]; exact oxH_hit hO (by omega) hz1 ⟨by omega, by show _ + a2 ≤ a1; omega⟩) | (rw [hI2]; exact (oxH_skip (ox_no hO (fun h => by have h1 := h.1; have h2 : (f 23) ((f 27) x3 - 1) + a2 ≤ a1 := h.2; omega))).symm)) (by first | (rw [hI3, hwh (by omega)]; exact oxO_hit (by omega) ⟨by omega, by show _ + a2 ≤ a1; omega⟩) | (rw [hI3]; exact (oxO_skip (fun h => by have h1 := h.1; have h2 : (f 23) ((f 27) x3 - 1) + a2 ≤ a1 := h.2; omega)).symm)) hP hS (lv_sub hl [2, 3, 4, 0] rfl)
        · refine lv_iload_n hx hb dX7_endOverdue_21 rfl (lv_at hl 2 rfl) ?_
          refine lv_aload_n hx hb dX7_endOverdue_22 rfl (lv_at hl 1 rfl) ?_
          refine rwG_tries_begun C hP mF_X7_21 dX7_endOverdue_23 ?_
          refine lv_iload hx hb dX7_endOverdue_26 (lv_at hl 0 rfl) ?_
          refine rwL_tries_begun C hP (by omega) (by omega) dX7_endOverdue_28 ?_
          show W p l e (gRm 1 23) s m args below meth c _ _ 0 0 Q (F0 m 29 ls [.int (iI (f 23 z_3)), .int (iI a1)])
          have r_5 : 0 ≤ (f 23 z_3) ∧ (f 23 z_3) ≤ 1000000 := hP.2.2 23 z_3
          refine lv_iload_n hx hb dX7_endOverdue_29 rfl (lv_at hl 3 rfl) ?_
          refine gi_add (z := ((f 23 z_3) + a2)) hx hb dX7_endOverdue_30 rfl ?_
          refine gi_clt (tgt := 50) hx hb dX7_endOverdue_31 (by decide) (by omega) (by omega) (fun c_6 => ?_) (fun c_6 => ?_)
          · refine lv_iinc (v := iI (x3 + 1)) (lv' := [(3, .int (iI (x3 + 1))), (4, .int (iI z_3)), (0, .ref (ad 30)), (1, .int (iI a1)), (2, .int (iI a2))]) hx hb dX7_endOverdue_50 hl (k := 4) rfl (by show iI _ + iI 1 = _; rw [iI_add]) (by decide) rfl (fun ls hl => ?_)
            refine lv_goto (tgt := 2) hx hb dX7_endOverdue_53 (by decide) ?_
            exact ih_2 (x3 + 1) c24_1 c26_1 c27_1 _ _ _ (by omega) (by omega) (by first | (rw [hI1]; exact oxE_hit hO (by omega) hz1 ⟨by omega, by show _ + a2 ≤ a1; omega⟩ rfl) | (rw [hI1]; exact (oxE_skip (ox_no hO (fun h => by have h1 := h.1; have h2 : (f 23) ((f 27) x3 - 1) + a2 ≤ a1 := h.2; omega))).symm)) (by first | (rw [hI2]; exact oxH_hit hO (by omega) hz1 ⟨by omega, by show _ + a2 ≤ a1; omega⟩) | (rw [hI2]; exact (oxH_skip (ox_no hO (fun h => by have h1 := h.1; have h2 : (f 23) ((f 27) x3 - 1) + a2 ≤ a1 := h.2; omega))).symm)) (by first | (rw [hI3, hwh (by omega)]; exact oxO_hit (by omega) ⟨by omega, by show _ + a2 ≤ a1; omega⟩) | (rw [hI3]; exact (oxO_skip (fun h => by have h1 := h.1; have h2 : (f 23) ((f 27) x3 - 1) + a2 ≤ a1 := h.2; omega)).symm)) hP hS (lv_sub hl [2, 3, 4, 0] rfl)
          · refine lv_aload_n hx hb dX7_endOverdue_34 rfl (lv_at hl 1 rfl) ?_
            refine lv_iload hx hb dX7_endOverdue_35 (lv_at hl 0 rfl) ?_
            refine lv_aload_n hx hb dX7_endOverdue_37 rfl (lv_at hl 1 rfl) ?_
            refine rwG_tries_begun C hP mF_X7_21 dX7_endOverdue_38 ?_
            refine lv_iload hx hb dX7_endOverdue_41 (lv_at hl 0 rfl) ?_
            refine rwL_tries_begun C hP (by omega) (by omega) dX7_endOverdue_43 ?_
            show W p l e (gRm 1 23) s m args below meth c _ _ 0 0 Q (F0 m 44 ls [.int (iI (f 23 z_3)), .int (iI z_3), .ref (ad 30)])
            refine lv_iload_n hx hb dX7_endOverdue_44 rfl (lv_at hl 3 rfl) ?_
            refine gi_add (z := ((f 23 z_3) + a2)) hx hb dX7_endOverdue_45 rfl ?_
            refine lv_iconst (v := iI 3) hx hb dX7_endOverdue_46 rfl ?_
            refine g_cv (As := [.int (iI z_3), .int (iI ((f 23 z_3) + a2)), .int (iI 3)]) (rest := []) (n := 3) C hml (c_X7_finish l D k A ad hD v (va_up (va_up (va_up f 24 c24_1) 26 c26_1) 27 c27_1) g z_3 ((f 23 z_3) + a2) 3 (by omega) (by omega) (by decide) (show 0 ≤ z_3 ∧ z_3 ≤ 299 from by omega) (show (-1) ≤ ((f 23 z_3) + a2) ∧ ((f 23 z_3) + a2) ≤ 1000999 from by omega) (show 0 ≤ (3 : Int) ∧ (3 : Int) ≤ 4 from by omega)) mM_X7_50 mI_X7_finish mE_X7_finish mN_X7 mC_X7_finish (by decide +kernel) 30 (ci := 7) rfl rfl hP hS (fun _ h => h) ⟨Nat.le_of_ble_eq_true rfl, Nat.le_of_ble_eq_true rfl⟩ ⟨Nat.zero_le _, Nat.zero_le _⟩ hl.1 rfl rfl (Nat.le_of_ble_eq_true rfl) dX7_endOverdue_47 (fun r_7 v_7 f_7 g_7 H locs hq_7 hP _ hS => ?_)
            obtain ⟨rfl, rfl, rfl, rfl⟩ := hq_7
            show W p l e (gRm 1 23) s m args below meth c _ _ 0 0 Q (F0 m 50 ls [])
            have hP : gWd D (rwT k ad) v (va_up (va_up (va_up f 24 (u1 c24_1 z_3 ((f 23 z_3) + a2))) 26 (u1 c26_1 z_3 (3 : Int))) 27 (u1 c27_1 ((f 20) z_3) 0)) g H := ⟨hP.1, (gF_up (V := rwV) (F := rwF) (gF_up (V := rwV) (F := rwF) (gF_up (V := rwV) (F := rwF) ⟨hok.1, hok.2⟩ 24 (hP.2.2 24)) 26 (hP.2.2 26)) 27 (hP.2.2 27))⟩
            refine lv_iinc (v := iI (x3 + 1)) (lv' := [(3, .int (iI (x3 + 1))), (4, .int (iI z_3)), (0, .ref (ad 30)), (1, .int (iI a1)), (2, .int (iI a2))]) hx hb dX7_endOverdue_50 hl (k := 4) rfl (by show iI _ + iI 1 = _; rw [iI_add]) (by decide) rfl (fun ls hl => ?_)
            refine lv_goto (tgt := 2) hx hb dX7_endOverdue_53 (by decide) ?_
            exact ih_2 (x3 + 1) (u1 c24_1 z_3 ((f 23 z_3) + a2)) (u1 c26_1 z_3 (3 : Int)) (u1 c27_1 ((f 20) z_3) 0) _ _ _ (by omega) (by omega) (by first | (rw [hI1]; exact oxE_hit hO (by omega) hz1 ⟨by omega, by show _ + a2 ≤ a1; omega⟩ rfl) | (rw [hI1]; exact (oxE_skip (ox_no hO (fun h => by have h1 := h.1; have h2 : (f 23) ((f 27) x3 - 1) + a2 ≤ a1 := h.2; omega))).symm)) (by first | (rw [hI2]; exact oxH_hit hO (by omega) hz1 ⟨by omega, by show _ + a2 ≤ a1; omega⟩) | (rw [hI2]; exact (oxH_skip (ox_no hO (fun h => by have h1 := h.1; have h2 : (f 23) ((f 27) x3 - 1) + a2 ≤ a1 := h.2; omega))).symm)) (by first | (rw [hI3, hwh (by omega)]; exact oxO_hit (by omega) ⟨by omega, by show _ + a2 ≤ a1; omega⟩) | (rw [hI3]; exact (oxO_skip (fun h => by have h1 := h.1; have h2 : (f 23) ((f 27) x3 - 1) + a2 ≤ a1 := h.2; omega)).symm)) hP hS (lv_sub hl [2, 3, 4, 0] rfl)
  exact L_1 17 0 (f 24) (f 26) (f 27) _ _ _ (by omega) (by omega) (oxE_0 hwr).symm (oxH_0 hwr).symm oxO_0.symm hP hS (lv_sub hl [1, 2, 3, 0] rfl)

set_option maxHeartbeats 4000000 in
set_option maxRecDepth 100000 in
theorem x_Tr_mayNotTry (l : Launch) (D : va_G) (k : Nat → ClassId) (A : Nat → Prop) (ad : Nat → Nat) (hD : rwD A k ad) (v : gV) (f g : gF) (a1 : Int) (a2 : Int) (a3 : Int) (a4 : Int) (h_a1 : inR a1) (h_a2 : inR a2) (h_a3 : inR a3) (h_a4 : inR a4) : GM l D k A (rwT k ad) yX7_mayNotTry cX7_mayNotTry 7 (some .boolean) 1 24 [.ref (ad 30), .int (iI a1), .int (iI a2), .int (iI a3), .int (iI a4)] v f g (fun r v1 f1 g1 => ∃ (z : Int), r = some (.int (iI z)) ∧ v = v1 ∧ f = f1 ∧ g = g1 ∧ (z = (if 1 ≤ cn (pTo (f 20) (f 21) (f 22) (f 26) a1 a2 a3) (v 23).toNat ∨ a4 ≤ cn (pDo (f 20) (f 21) (f 22) (f 26) a1 a2 a3) (v 23).toNat then 1 else 0))) := by
  refine GM.of (by decide) (Nat.le_of_ble_eq_true rfl) ?_
  intro p e s m args below meth c Q ls hQ C hml hr hlocks hP hl
  have hx := C.1
  have hb := C.2.1
  have hok := hP.2
  have hS : va_S A s.heap s.heap [] := va_S.rf
  have hl : lv_has ls 7 [(0, .ref (ad 30)), (1, .int (iI a1)), (2, .int (iI a2)), (3, .int (iI a3)), (4, .int (iI a4))] := hl
  have r_1 : 0 ≤ (v 23) ∧ (v 23) ≤ 300 := hok.1 23
  refine lv_iconst (v := iI 0) hx hb dX7_mayNotTry_0 rfl ?_
  refine lv_istore (lv' := [(5, .int (iI 0)), (0, .ref (ad 30)), (1, .int (iI a1)), (2, .int (iI a2)), (3, .int (iI a3)), (4, .int (iI a4))]) hx hb dX7_mayNotTry_1 hl (by decide) rfl (fun ls hl => ?_)
  refine lv_iconst (v := iI 0) hx hb dX7_mayNotTry_3 rfl ?_
  refine lv_istore (lv' := [(6, .int (iI 0)), (5, .int (iI 0)), (0, .ref (ad 30)), (1, .int (iI a1)), (2, .int (iI a2)), (3, .int (iI a3)), (4, .int (iI a4))]) hx hb dX7_mayNotTry_4 hl (by decide) rfl (fun ls hl => ?_)
  have L_2 : ∀ (n : Nat) (x5 : Int) (x6 : Int) (H : Heap) (locs : List Loc) (ls : Array Slot), 300 - x6 < (n : Int) → (0 ≤ x6 ∧ x6 ≤ (v 23)) → (0 ≤ x5 ∧ x5 ≤ x6) → (x5 = cn (pDo (f 20) (f 21) (f 22) (f 26) a1 a2 a3) x6.toNat) → (cn (pTo (f 20) (f 21) (f 22) (f 26) a1 a2 a3) x6.toNat = 0) → gWd D (rwT k ad) v f g H → va_S A s.heap H locs → lv_has ls 7 [(0, .ref (ad 30)), (1, .int (iI a1)), (2, .int (iI a2)), (3, .int (iI a3)), (4, .int (iI a4)), (5, .int (iI x5)), (6, .int (iI x6))] → W p l e (gRm 1 24) s m args below meth c H locs 0 0 Q (F0 m 6 ls []) := by
    intro n
    induction n with
    | zero =>
      intro x5 x6 H locs ls hn_2 i2_0 i2_1 i2_2 i2_3 hP hS hl
      exfalso; omega
    | succ n ih_6 =>
      intro x5 x6 H locs ls hn_2 i2_0 i2_1 i2_2 i2_3 hP hS hl
      have hI2 := i2_2
      have hI3 := i2_3
      refine lv_iload hx hb dX7_mayNotTry_6 (lv_at hl 6 rfl) ?_
      refine lv_aload_n hx hb dX7_mayNotTry_8 rfl (lv_at hl 0 rfl) ?_
      refine rwG_tries_many C hP mF_X7_36 dX7_mayNotTry_9 ?_
      refine gi_cge (tgt := 60) hx hb dX7_mayNotTry_12 (by decide) (by omega) (by omega) (fun c_3 => ?_) (fun c_3 => ?_)
      · refine lv_iload hx hb dX7_mayNotTry_60 (lv_at hl 5 rfl) ?_
        refine lv_iload hx hb dX7_mayNotTry_62 (lv_at hl 4 rfl) ?_
        refine gi_clt (tgt := 71) hx hb dX7_mayNotTry_64 (by decide) (by omega) (by omega) (fun c_4 => ?_) (fun c_4 => ?_)
        · refine lv_iconst (v := iI 0) hx hb dX7_mayNotTry_71 rfl ?_
          exact g_zret hQ C hr hlocks (by decide) hP hS dX7_mayNotTry_72 ⟨0, rfl, rfl, rfl, rfl, (by first | (rw [if_pos (Or.inl (cn_hi (x := x6) (by omega) (by omega) (decide_eq_true (by omega))))]) | (rw [show (v 23) = x6 by omega]; first | rw [if_pos (by omega)] | rw [if_neg (by omega)]))⟩
        · refine lv_iconst (v := iI 1) hx hb dX7_mayNotTry_67 rfl ?_
          refine lv_goto (tgt := 72) hx hb dX7_mayNotTry_68 (by decide) ?_
          exact g_zret hQ C hr hlocks (by decide) hP hS dX7_mayNotTry_72 ⟨1, rfl, rfl, rfl, rfl, (by first | (rw [if_pos (Or.inl (cn_hi (x := x6) (by omega) (by omega) (decide_eq_true (by omega))))]) | (rw [show (v 23) = x6 by omega]; first | rw [if_pos (by omega)] | rw [if_neg (by omega)]))⟩
      · refine lv_aload_n hx hb dX7_mayNotTry_15 rfl (lv_at hl 0 rfl) ?_
        refine lv_iload hx hb dX7_mayNotTry_16 (lv_at hl 6 rfl) ?_
        refine lv_iload_n hx hb dX7_mayNotTry_18 rfl (lv_at hl 1 rfl) ?_
        refine lv_iload_n hx hb dX7_mayNotTry_19 rfl (lv_at hl 2 rfl) ?_
        refine lv_iload_n hx hb dX7_mayNotTry_20 rfl (lv_at hl 3 rfl) ?_
        refine g_cv (As := [.int (iI x6), .int (iI a1), .int (iI a2), .int (iI a3)]) (rest := []) (n := 4) C hml (c_X7_isOf l D k A ad hD v f g x6 a1 a2 a3 (by omega) (by omega) (by omega) (by omega) (show 0 ≤ x6 ∧ x6 ≤ 299 from by omega)) mM_X7_54 mI_X7_isOf mE_X7_isOf mN_X7 mC_X7_isOf (by decide +kernel) 30 (ci := 7) rfl rfl hP hS (fun _ h => h) ⟨Nat.le_of_ble_eq_true rfl, Nat.le_of_ble_eq_true rfl⟩ ⟨Nat.zero_le _, Nat.zero_le _⟩ hl.1 rfl rfl (Nat.le_of_ble_eq_true rfl) dX7_mayNotTry_21 (fun r_5 v_5 f_5 g_5 H locs hq_5 hP _ hS => ?_)
        obtain ⟨z_5, rfl, rfl, rfl, rfl, p0_5⟩ := hq_5
        show W p l e (gRm 1 24) s m args below meth c _ _ 0 0 Q (F0 m 24 ls [.int (iI z_5)])
        replace p0_5 : z_5 = (if (f 20) x6 = a1 ∧ (f 21) x6 = a2 ∧ (f 22) x6 = a3 then 1 else 0) := p0_5
        have w_5 := gif (P := (f 20) x6 = a1 ∧ (f 21) x6 = a2 ∧ (f 22) x6 = a3) p0_5
        clear p0_5
        have hz_5 : inR z_5 := (by first | omega | (rw [p0_5]; split <;> omega))
        refine gi_zeq (tgt := 54) hx hb dX7_mayNotTry_24 (by decide) (by omega) (fun c_6 => ?_) (fun c_6 => ?_)
        · have vz_5 := gif0 w_5 c_6
          clear w_5
          refine lv_iinc (v := iI (x6 + 1)) (lv' := [(6, .int (iI (x6 + 1))), (0, .ref (ad 30)), (1, .int (iI a1)), (2, .int (iI a2)), (3, .int (iI a3)), (4, .int (iI a4)), (5, .int (iI x5))]) hx hb dX7_mayNotTry_54 hl (k := 6) rfl (by show iI _ + iI 1 = _; rw [iI_add]) (by decide) rfl (fun ls hl => ?_)
          refine lv_goto (tgt := 6) hx hb dX7_mayNotTry_57 (by decide) ?_
          exact ih_6 x5 (x6 + 1) _ _ _ (by omega) (by omega) (by omega) (by first | (rw [cn_y (p := (pDo (f 20) (f 21) (f 22) (f 26) a1 a2 a3)) (by omega) (decide_eq_true (by omega))]; omega) | (rw [cn_n (p := (pDo (f 20) (f 21) (f 22) (f 26) a1 a2 a3)) (by omega) (decide_eq_false (by omega))]; omega)) (by first | (rw [cn_y (p := (pTo (f 20) (f 21) (f 22) (f 26) a1 a2 a3)) (by omega) (decide_eq_true (by omega))]; omega) | (rw [cn_n (p := (pTo (f 20) (f 21) (f 22) (f 26) a1 a2 a3)) (by omega) (decide_eq_false (by omega))]; omega)) hP hS (lv_sub hl [1, 2, 3, 4, 5, 6, 0] rfl)
        · have vz_5 := gif1 w_5 c_6
          clear w_5
          refine lv_aload_n hx hb dX7_mayNotTry_27 rfl (lv_at hl 0 rfl) ?_
          refine rwG_tries_how C hP mF_X7_30 dX7_mayNotTry_28 ?_
          refine lv_iload hx hb dX7_mayNotTry_31 (lv_at hl 6 rfl) ?_
          refine rwL_tries_how C hP (by omega) (by omega) dX7_mayNotTry_33 ?_
          have r_7 : 0 ≤ (f 26 x6) ∧ (f 26 x6) ≤ 4 := hP.2.2 26 x6
          refine lv_iconst (v := iI 4) hx hb dX7_mayNotTry_34 rfl ?_
          refine gi_ceq (tgt := 54) hx hb dX7_mayNotTry_35 (by decide) (by omega) (by decide) (fun c_8 => ?_) (fun c_8 => ?_)
          · refine lv_iinc (v := iI (x6 + 1)) (lv' := [(6, .int (iI (x6 + 1))), (0, .ref (ad 30)), (1, .int (iI a1)), (2, .int (iI a2)), (3, .int (iI a3)), (4, .int (iI a4)), (5, .int (iI x5))]) hx hb dX7_mayNotTry_54 hl (k := 6) rfl (by show iI _ + iI 1 = _; rw [iI_add]) (by decide) rfl (fun ls hl => ?_)
            refine lv_goto (tgt := 6) hx hb dX7_mayNotTry_57 (by decide) ?_
            exact ih_6 x5 (x6 + 1) _ _ _ (by omega) (by omega) (by omega) (by first | (rw [cn_y (p := (pDo (f 20) (f 21) (f 22) (f 26) a1 a2 a3)) (by omega) (decide_eq_true (by omega))]; omega) | (rw [cn_n (p := (pDo (f 20) (f 21) (f 22) (f 26) a1 a2 a3)) (by omega) (decide_eq_false (by omega))]; omega)) (by first | (rw [cn_y (p := (pTo (f 20) (f 21) (f 22) (f 26) a1 a2 a3)) (by omega) (decide_eq_true (by omega))]; omega) | (rw [cn_n (p := (pTo (f 20) (f 21) (f 22) (f 26) a1 a2 a3)) (by omega) (decide_eq_false (by omega))]; omega)) hP hS (lv_sub hl [1, 2, 3, 4, 5, 6, 0] rfl)
          · refine lv_aload_n hx hb dX7_mayNotTry_38 rfl (lv_at hl 0 rfl) ?_
            refine rwG_tries_how C hP mF_X7_30 dX7_mayNotTry_39 ?_
            refine lv_iload hx hb dX7_mayNotTry_42 (lv_at hl 6 rfl) ?_
            refine rwL_tries_how C hP (by omega) (by omega) dX7_mayNotTry_44 ?_
            refine lv_iconst (v := iI 1) hx hb dX7_mayNotTry_45 rfl ?_
            refine gi_cne (tgt := 51) hx hb dX7_mayNotTry_46 (by decide) (by omega) (by decide) (fun c_9 => ?_) (fun c_9 => ?_)
            · refine lv_iinc (v := iI (x5 + 1)) (lv' := [(5, .int (iI (x5 + 1))), (0, .ref (ad 30)), (1, .int (iI a1)), (2, .int (iI a2)), (3, .int (iI a3)), (4, .int (iI a4)), (6, .int (iI x6))]) hx hb dX7_mayNotTry_51 hl (k := 5) rfl (by show iI _ + iI 1 = _; rw [iI_add]) (by decide) rfl (fun ls hl => ?_)
              refine lv_iinc (v := iI (x6 + 1)) (lv' := [(6, .int (iI (x6 + 1))), (5, .int (iI (x5 + 1))), (0, .ref (ad 30)), (1, .int (iI a1)), (2, .int (iI a2)), (3, .int (iI a3)), (4, .int (iI a4))]) hx hb dX7_mayNotTry_54 hl (k := 6) rfl (by show iI _ + iI 1 = _; rw [iI_add]) (by decide) rfl (fun ls hl => ?_)
              refine lv_goto (tgt := 6) hx hb dX7_mayNotTry_57 (by decide) ?_
              exact ih_6 (x5 + 1) (x6 + 1) _ _ _ (by omega) (by omega) (by omega) (by first | (rw [cn_y (p := (pDo (f 20) (f 21) (f 22) (f 26) a1 a2 a3)) (by omega) (decide_eq_true (by omega))]; omega) | (rw [cn_n (p := (pDo (f 20) (f 21) (f 22) (f 26) a1 a2 a3)) (by omega) (decide_eq_false (by omega))]; omega)) (by first | (rw [cn_y (p := (pTo (f 20) (f 21) (f 22) (f 26) a1 a2 a3)) (by omega) (decide_eq_true (by omega))]; omega) | (rw [cn_n (p := (pTo (f 20) (f 21) (f 22) (f 26) a1 a2 a3)) (by omega) (decide_eq_false (by omega))]; omega)) hP hS (lv_sub hl [2, 3, 4, 5, 6, 1, 0] rfl)
            · refine lv_iconst (v := iI 1) hx hb dX7_mayNotTry_49 rfl ?_
              exact g_zret hQ C hr hlocks (by decide) hP hS dX7_mayNotTry_50 ⟨1, rfl, rfl, rfl, rfl, (by first | (rw [if_pos (Or.inl (cn_hi (x := x6) (by omega) (by omega) (decide_eq_true (by omega))))]) | (rw [show (v 23) = x6 by omega]; first | rw [if_pos (by omega)] | rw [if_neg (by omega)]))⟩
  exact L_2 301 0 0 _ _ _ (by omega) (by omega) (by omega) rfl rfl hP hS (lv_sub hl [2, 3, 4, 5, 6, 1, 0] rfl)

set_option maxHeartbeats 4000000 in
set_option maxRecDepth 100000 in
theorem x_Tr_lastEnd (l : Launch) (D : va_G) (k : Nat → ClassId) (A : Nat → Prop) (ad : Nat → Nat) (hD : rwD A k ad) (v : gV) (f g : gF) (a1 : Int) (a2 : Int) (h_a1 : inR a1) (h_a2 : inR a2) : GM l D k A (rwT k ad) yX7_lastEnd cX7_lastEnd 5 (some .int) 1 30 [.ref (ad 30), .int (iI a1), .int (iI a2)] v f g (fun r v1 f1 g1 => ∃ (z : Int), r = some (.int (iI z)) ∧ v = v1 ∧ f = f1 ∧ g = g1 ∧ (z = (mxE (f 20) (f 21) (f 24) a1 a2 (v 23).toNat)) ∧ ((-1) ≤ z ∧ z ≤ 1000999)) := by
  refine GM.of (by decide) (Nat.le_of_ble_eq_true rfl) ?_
  intro p e s m args below meth c Q ls hQ C hml hr hlocks hP hl
  have hx := C.1
  have hb := C.2.1
  have hok := hP.2
  have hS : va_S A s.heap s.heap [] := va_S.rf
  have hl : lv_has ls 5 [(0, .ref (ad 30)), (1, .int (iI a1)), (2, .int (iI a2))] := hl
  have r_1 : 0 ≤ (v 23) ∧ (v 23) ≤ 300 := hok.1 23
  refine lv_iconst (v := iI (-1)) hx hb dX7_lastEnd_0 rfl ?_
  refine lv_istore_n (lv' := [(3, .int (iI (-1))), (0, .ref (ad 30)), (1, .int (iI a1)), (2, .int (iI a2))]) hx hb dX7_lastEnd_1 rfl hl (by decide) rfl (fun ls hl => ?_)
  refine lv_iconst (v := iI 0) hx hb dX7_lastEnd_2 rfl ?_
  refine lv_istore (lv' := [(4, .int (iI 0)), (3, .int (iI (-1))), (0, .ref (ad 30)), (1, .int (iI a1)), (2, .int (iI a2))]) hx hb dX7_lastEnd_3 hl (by decide) rfl (fun ls hl => ?_)
  have L_2 : ∀ (n : Nat) (x3 : Int) (x4 : Int) (H : Heap) (locs : List Loc) (ls : Array Slot), 300 - x4 < (n : Int) → (0 ≤ x4 ∧ x4 ≤ (v 23)) → ((-1) ≤ x3 ∧ x3 ≤ 1000999) → (x3 = mxE (f 20) (f 21) (f 24) a1 a2 x4.toNat) → gWd D (rwT k ad) v f g H → va_S A s.heap H locs → lv_has ls 5 [(0, .ref (ad 30)), (1, .int (iI a1)), (2, .int (iI a2)), (3, .int (iI x3)), (4, .int (iI x4))] → W p l e (gRm 1 30) s m args below meth c H locs 0 0 Q (F0 m 5 ls []) := by
    intro n
    induction n with
    | zero =>
      intro x3 x4 H locs ls hn_2 i2_0 i2_1 i2_2 hP hS hl
      exfalso; omega
    | succ n ih_5 =>
      intro x3 x4 H locs ls hn_2 i2_0 i2_1 i2_2 hP hS hl
      refine lv_iload hx hb dX7_lastEnd_5 (lv_at hl 4 rfl) ?_
      refine lv_aload_n hx hb dX7_lastEnd_7 rfl (lv_at hl 0 rfl) ?_
      refine rwG_tries_many C hP mF_X7_36 dX7_lastEnd_8 ?_
      refine gi_cge (tgt := 54) hx hb dX7_lastEnd_11 (by decide) (by omega) (by omega) (fun c_3 => ?_) (fun c_3 => ?_)
      · refine lv_iload_n hx hb dX7_lastEnd_54 rfl (lv_at hl 3 rfl) ?_
        exact g_iret hQ C hr hlocks hP hS dX7_lastEnd_55 ⟨x3, rfl, rfl, rfl, rfl, (by rw [show (v 23) = x4 by omega]; assumption), (by first | omega | ((repeat' split) <;> omega))⟩
      · refine lv_aload_n hx hb dX7_lastEnd_14 rfl (lv_at hl 0 rfl) ?_
        refine rwG_tries_climber C hP mF_X7_9 dX7_lastEnd_15 ?_
        refine lv_iload hx hb dX7_lastEnd_18 (lv_at hl 4 rfl) ?_
        refine rwL_tries_climber C hP (by omega) (by omega) dX7_lastEnd_20 ?_
        have r_4 : 0 ≤ (f 20 x4) ∧ (f 20 x4) ≤ 15 := hP.2.2 20 x4
        refine lv_iload_n hx hb dX7_lastEnd_21 rfl (lv_at hl 1 rfl) ?_
        refine gi_cne (tgt := 48) hx hb dX7_lastEnd_22 (by decide) (by omega) (by omega) (fun c_5 => ?_) (fun c_5 => ?_)
        · refine lv_iinc (v := iI (x4 + 1)) (lv' := [(4, .int (iI (x4 + 1))), (0, .ref (ad 30)), (1, .int (iI a1)), (2, .int (iI a2)), (3, .int (iI x3))]) hx hb dX7_lastEnd_48 hl (k := 4) rfl (by show iI _ + iI 1 = _; rw [iI_add]) (by decide) rfl (fun ls hl => ?_)
          refine lv_goto (tgt := 5) hx hb dX7_lastEnd_51 (by decide) ?_
          exact ih_5 x3 (x4 + 1) _ _ _ (by omega) (by omega) (by omega) (by rw [mxE_s (by omega)]; (repeat' split) <;> omega) hP hS (lv_sub hl [1, 2, 3, 4, 0] rfl)
        · refine lv_aload_n hx hb dX7_lastEnd_25 rfl (lv_at hl 0 rfl) ?_
          refine rwG_tries_round C hP mF_X7_15 dX7_lastEnd_26 ?_
          refine lv_iload hx hb dX7_lastEnd_29 (lv_at hl 4 rfl) ?_
          refine rwL_tries_round C hP (by omega) (by omega) dX7_lastEnd_31 ?_
          have r_6 : 0 ≤ (f 21 x4) ∧ (f 21 x4) ≤ 3 := hP.2.2 21 x4
          refine lv_iload_n hx hb dX7_lastEnd_32 rfl (lv_at hl 2 rfl) ?_
          refine gi_cne (tgt := 48) hx hb dX7_lastEnd_33 (by decide) (by omega) (by omega) (fun c_7 => ?_) (fun c_7 => ?_)
          · refine lv_iinc (v := iI (x4 + 1)) (lv' := [(4, .int (iI (x4 + 1))), (0, .ref (ad 30)), (1, .int (iI a1)), (2, .int (iI a2)), (3, .int (iI x3))]) hx hb dX7_lastEnd_48 hl (k := 4) rfl (by show iI _ + iI 1 = _; rw [iI_add]) (by decide) rfl (fun ls hl => ?_)
            refine lv_goto (tgt := 5) hx hb dX7_lastEnd_51 (by decide) ?_
            exact ih_5 x3 (x4 + 1) _ _ _ (by omega) (by omega) (by omega) (by rw [mxE_s (by omega)]; (repeat' split) <;> omega) hP hS (lv_sub hl [1, 2, 3, 4, 0] rfl)
          · refine lv_iload_n hx hb dX7_lastEnd_36 rfl (lv_at hl 3 rfl) ?_
            refine lv_aload_n hx hb dX7_lastEnd_37 rfl (lv_at hl 0 rfl) ?_
            refine rwG_tries_ended C hP mF_X7_24 dX7_lastEnd_38 ?_
            refine lv_iload hx hb dX7_lastEnd_41 (lv_at hl 4 rfl) ?_
            refine rwL_tries_ended C hP (by omega) (by omega) dX7_lastEnd_43 ?_
            have r_8 : (-1) ≤ (f 24 x4) ∧ (f 24 x4) ≤ 1000999 := hP.2.2 24 x4
            refine gi_max C hml hl.1 mM_X7_58 (by omega) (by omega) (Nat.le_of_ble_eq_true rfl) (Nat.le_of_ble_eq_true rfl) dX7_lastEnd_44 (fun x_9 hx_9 => ?_)
            refine lv_istore_n (lv' := [(3, .int (iI x_9)), (0, .ref (ad 30)), (1, .int (iI a1)), (2, .int (iI a2)), (4, .int (iI x4))]) hx hb dX7_lastEnd_47 rfl hl (by decide) rfl (fun ls hl => ?_)
            refine lv_iinc (v := iI (x4 + 1)) (lv' := [(4, .int (iI (x4 + 1))), (3, .int (iI x_9)), (0, .ref (ad 30)), (1, .int (iI a1)), (2, .int (iI a2))]) hx hb dX7_lastEnd_48 hl (k := 4) rfl (by show iI _ + iI 1 = _; rw [iI_add]) (by decide) rfl (fun ls hl => ?_)
            refine lv_goto (tgt := 5) hx hb dX7_lastEnd_51 (by decide) ?_
            exact ih_5 x_9 (x4 + 1) _ _ _ (by omega) (by omega) (by omega) (by rw [mxE_s (by omega)]; (repeat' split) <;> omega) hP hS (lv_sub hl [2, 3, 4, 1, 0] rfl)
  exact L_2 301 (-1) 0 _ _ _ (by omega) (by omega) (by omega) rfl hP hS (lv_sub hl [2, 3, 4, 1, 0] rfl)

set_option maxHeartbeats 4000000 in
set_option maxRecDepth 100000 in
theorem x_Wa_isOut (l : Launch) (D : va_G) (k : Nat → ClassId) (A : Nat → Prop) (ad : Nat → Nat) (hD : rwD A k ad) (v : gV) (f g : gF) (a1 : Int) (h_a1 : inR a1) (hc : 0 ≤ a1 ∧ a1 ≤ 15) : GM l D k A (rwT k ad) yX9_isOut cX9_isOut 2 (some .boolean) 1 21 [.ref (ad 43), .int (iI a1)] v f g (fun r v1 f1 g1 => ∃ (z : Int), r = some (.int (iI z)) ∧ v = v1 ∧ f = f1 ∧ g = g1 ∧ (z = (if 0 < (f 31) a1 ∧ (f 33) (a1 * 20 + (f 31) a1 - 1) = (-1) then 1 else 0))) := by
  refine GM.of (by decide) (Nat.le_of_ble_eq_true rfl) ?_
  intro p e s m args below meth c Q ls hQ C hml hr hlocks hP hl
  have hx := C.1
  have hb := C.2.1
  have hok := hP.2
  have hS : va_S A s.heap s.heap [] := va_S.rf
  have hl : lv_has ls 2 [(0, .ref (ad 43)), (1, .int (iI a1))] := hl
  refine lv_aload_n hx hb dX9_isOut_0 rfl (lv_at hl 0 rfl) ?_
  refine rwG_watch_times C hP mF_X9_9 dX9_isOut_1 ?_
  refine lv_iload_n hx hb dX9_isOut_4 rfl (lv_at hl 1 rfl) ?_
  refine rwL_watch_times C hP (by omega) (by omega) dX9_isOut_5 ?_
  have r_1 : 0 ≤ (f 31 a1) ∧ (f 31 a1) ≤ 20 := hP.2.2 31 a1
  refine gi_zle (tgt := 27) hx hb dX9_isOut_6 (by decide) (by omega) (fun c_2 => ?_) (fun c_2 => ?_)
  · refine lv_iconst (v := iI 0) hx hb dX9_isOut_27 rfl ?_
    exact g_zret hQ C hr hlocks (by decide) hP hS dX9_isOut_28 ⟨0, rfl, rfl, rfl, rfl, (by first | omega | ((repeat' split) <;> omega))⟩
  · refine lv_aload_n hx hb dX9_isOut_9 rfl (lv_at hl 0 rfl) ?_
    refine rwG_watch_cameIn C hP mF_X9_18 dX9_isOut_10 ?_
    refine lv_aload_n hx hb dX9_isOut_13 rfl (lv_at hl 0 rfl) ?_
    refine lv_iload_n hx hb dX9_isOut_14 rfl (lv_at hl 1 rfl) ?_
    refine g_cv (As := [.int (iI a1)]) (rest := [.ref (ad 46)]) (n := 1) C hml (c_X9_latest l D k A ad hD v f g a1 (by omega) (show 0 ≤ a1 ∧ a1 ≤ 15 from by omega)) mM_X9_27 mI_X9_latest mE_X9_latest mN_X9 mC_X9_latest (by decide +kernel) 43 (ci := 9) rfl rfl hP hS (fun _ h => h) ⟨Nat.le_of_ble_eq_true rfl, Nat.le_of_ble_eq_true rfl⟩ ⟨Nat.zero_le _, Nat.zero_le _⟩ hl.1 rfl rfl (Nat.le_of_ble_eq_true rfl) dX9_isOut_15 (fun r_3 v_3 f_3 g_3 H locs hq_3 hP _ hS => ?_)
    obtain ⟨z_3, rfl, rfl, rfl, rfl, p0_3, p1_3⟩ := hq_3
    show W p l e (gRm 1 21) s m args below meth c _ _ 0 0 Q (F0 m 18 ls [.int (iI z_3), .ref (ad 46)])
    replace p0_3 : z_3 = (a1 * 20 + (f 31) a1 - 1) := p0_3
    replace p1_3 : z_3 = a1 * 20 + (f 31) a1 - 1 ∧ 0 ≤ (f 31) a1 ∧ (f 31) a1 ≤ 20 := p1_3
    have hz_3 : inR z_3 := (by first | omega | (rw [p0_3]; split <;> omega))
    have hcz : (f 33) z_3 = (f 33) (a1 * 20 + (f 31) a1 - 1) := by rw [p0_3]
    refine rwL_watch_cameIn C hP (by omega) (by omega) dX9_isOut_18 ?_
    have r_4 : (-1) ≤ (f 33 z_3) ∧ (f 33 z_3) ≤ 1000000 := hP.2.2 33 z_3
    refine lv_iconst (v := iI (-1)) hx hb dX9_isOut_19 rfl ?_
    refine gi_cne (tgt := 27) hx hb dX9_isOut_20 (by decide) (by omega) (by decide) (fun c_5 => ?_) (fun c_5 => ?_)
    · refine lv_iconst (v := iI 0) hx hb dX9_isOut_27 rfl ?_
      exact g_zret hQ C hr hlocks (by decide) hP hS dX9_isOut_28 ⟨0, rfl, rfl, rfl, rfl, (by first | omega | ((repeat' split) <;> omega))⟩
    · refine lv_iconst (v := iI 1) hx hb dX9_isOut_23 rfl ?_
      refine lv_goto (tgt := 28) hx hb dX9_isOut_24 (by decide) ?_
      exact g_zret hQ C hr hlocks (by decide) hP hS dX9_isOut_28 ⟨1, rfl, rfl, rfl, rfl, (by first | omega | ((repeat' split) <;> omega))⟩

set_option maxHeartbeats 4000000 in
set_option maxRecDepth 100000 in
theorem x_Wa_goOut (l : Launch) (D : va_G) (k : Nat → ClassId) (A : Nat → Prop) (ad : Nat → Nat) (hD : rwD A k ad) (v : gV) (f g : gF) (a1 : Int) (a2 : Int) (h_a1 : inR a1) (h_a2 : inR a2) (hc : 0 ≤ a1 ∧ a1 ≤ 15) (h1 : (f 31) a1 < 20) (h2 : 0 ≤ a2 ∧ a2 ≤ 1000000) : GM l D k A (rwT k ad) yX9_goOut cX9_goOut 3 none 1 21 [.ref (ad 43), .int (iI a1), .int (iI a2)] v f g (fun r v1 f1 g1 => r = none ∧ v = v1 ∧ (va_up (va_up (va_up f 31 (u1 (f 31) a1 ((f 31) a1 + 1))) 32 (u1 (f 32) (a1 * 20 + (f 31) a1) a2)) 33 (u1 (f 33) (a1 * 20 + (f 31) a1) (-1))) = f1 ∧ g = g1) := by
  refine GM.of (by decide) (Nat.le_of_ble_eq_true rfl) ?_
  intro p e s m args below meth c Q ls hQ C hml hr hlocks hP hl
  have hx := C.1
  have hb := C.2.1
  have hok := hP.2
  have hS : va_S A s.heap s.heap [] := va_S.rf
  have hl : lv_has ls 3 [(0, .ref (ad 43)), (1, .int (iI a1)), (2, .int (iI a2))] := hl
  have hP : gWd D (rwT k ad) v (va_up (va_up (va_up f 31 (f 31)) 32 (f 32)) 33 (f 33)) g s.heap := by rw [va_id, va_id, va_id]; exact hP
  refine lv_aload_n hx hb dX9_goOut_0 rfl (lv_at hl 0 rfl) ?_
  refine rwG_watch_times C hP mF_X9_9 dX9_goOut_1 ?_
  refine lv_iload_n hx hb dX9_goOut_4 rfl (lv_at hl 1 rfl) ?_
  refine lv_dup2_11 hx hb dX9_goOut_5 rfl rfl ?_
  refine rwL_watch_times C hP (by omega) (by omega) dX9_goOut_6 ?_
  show W p l e (gRm 1 21) s m args below meth c _ _ 0 0 Q (F0 m 7 ls [.int (iI (f 31 a1)), .int (iI a1), .ref (ad 44)])
  have r_1 : 0 ≤ (f 31 a1) ∧ (f 31 a1) ≤ 20 := hP.2.2 31 a1
  refine lv_iconst (v := iI 1) hx hb dX9_goOut_7 rfl ?_
  refine gi_add (z := ((f 31 a1) + 1)) hx hb dX9_goOut_8 rfl ?_
  refine rwS_watch_times (f1 := (va_up (va_up (va_up f 31 (u1 (f 31) a1 ((f 31 a1) + 1))) 32 (f 32)) 33 (f 33))) C hP hD hS (by omega) (by omega) (by omega) rfl (Or.inr (gF_up (V := rwV) (F := rwF) (gF_up (V := rwV) (F := rwF) (gF_up (V := rwV) (F := rwF) ⟨hok.1, hok.2⟩ 31 (u1_rng (hP.2.2 31) (show 0 ≤ ((f 31 a1) + 1) ∧ ((f 31 a1) + 1) ≤ 20 from (by omega)))) 32 (hP.2.2 32)) 33 (hP.2.2 33))) dX9_goOut_9 (fun H locs hP hS => ?_)
  refine lv_aload_n hx hb dX9_goOut_10 rfl (lv_at hl 0 rfl) ?_
  refine rwG_watch_wentOut C hP mF_X9_15 dX9_goOut_11 ?_
  refine lv_aload_n hx hb dX9_goOut_14 rfl (lv_at hl 0 rfl) ?_
  refine lv_iload_n hx hb dX9_goOut_15 rfl (lv_at hl 1 rfl) ?_
  refine g_cv (As := [.int (iI a1)]) (rest := [.ref (ad 45)]) (n := 1) C hml (c_X9_latest l D k A ad hD v (va_up (va_up (va_up f 31 (u1 (f 31) a1 ((f 31 a1) + 1))) 32 (f 32)) 33 (f 33)) g a1 (by omega) (show 0 ≤ a1 ∧ a1 ≤ 15 from by omega)) mM_X9_27 mI_X9_latest mE_X9_latest mN_X9 mC_X9_latest (by decide +kernel) 43 (ci := 9) rfl rfl hP hS (fun _ h => h) ⟨Nat.le_of_ble_eq_true rfl, Nat.le_of_ble_eq_true rfl⟩ ⟨Nat.zero_le _, Nat.zero_le _⟩ hl.1 rfl rfl (Nat.le_of_ble_eq_true rfl) dX9_goOut_16 (fun r_2 v_2 f_2 g_2 H locs hq_2 hP _ hS => ?_)
  obtain ⟨z_2, rfl, rfl, rfl, rfl, p0_2, p1_2⟩ := hq_2
  show W p l e (gRm 1 21) s m args below meth c _ _ 0 0 Q (F0 m 19 ls [.int (iI z_2), .ref (ad 45)])
  replace p0_2 : z_2 = (a1 * 20 + (u1 (f 31) a1 ((f 31 a1) + 1)) a1 - 1) := p0_2
  replace p1_2 : z_2 = a1 * 20 + (u1 (f 31) a1 ((f 31 a1) + 1)) a1 - 1 ∧ 0 ≤ (u1 (f 31) a1 ((f 31 a1) + 1)) a1 ∧ (u1 (f 31) a1 ((f 31 a1) + 1)) a1 ≤ 20 := p1_2
  have hz_2 : inR z_2 := (by first | omega | (rw [p0_2]; split <;> omega))
  have q_2 : u1 (f 31) a1 ((f 31) a1 + 1) a1 = (f 31) a1 + 1 := u1_s
  refine lv_iload_n hx hb dX9_goOut_19 rfl (lv_at hl 2 rfl) ?_
  refine rwS_watch_wentOut (f1 := (va_up (va_up (va_up f 31 (u1 (f 31) a1 ((f 31 a1) + 1))) 32 (u1 (f 32) z_2 a2)) 33 (f 33))) C hP hD hS (by omega) (by omega) (by omega) rfl (Or.inr (gF_up (V := rwV) (F := rwF) (gF_up (V := rwV) (F := rwF) (gF_up (V := rwV) (F := rwF) ⟨hok.1, hok.2⟩ 31 (hP.2.2 31)) 32 (u1_rng (hP.2.2 32) (show 0 ≤ a2 ∧ a2 ≤ 1000000 from (by omega)))) 33 (hP.2.2 33))) dX9_goOut_20 (fun H locs hP hS => ?_)
  refine lv_aload_n hx hb dX9_goOut_21 rfl (lv_at hl 0 rfl) ?_
  refine rwG_watch_cameIn C hP mF_X9_18 dX9_goOut_22 ?_
  refine lv_aload_n hx hb dX9_goOut_25 rfl (lv_at hl 0 rfl) ?_
  refine lv_iload_n hx hb dX9_goOut_26 rfl (lv_at hl 1 rfl) ?_
  refine g_cv (As := [.int (iI a1)]) (rest := [.ref (ad 46)]) (n := 1) C hml (c_X9_latest l D k A ad hD v (va_up (va_up (va_up f 31 (u1 (f 31) a1 ((f 31 a1) + 1))) 32 (u1 (f 32) z_2 a2)) 33 (f 33)) g a1 (by omega) (show 0 ≤ a1 ∧ a1 ≤ 15 from by omega)) mM_X9_27 mI_X9_latest mE_X9_latest mN_X9 mC_X9_latest (by decide +kernel) 43 (ci := 9) rfl rfl hP hS (fun _ h => h) ⟨Nat.le_of_ble_eq_true rfl, Nat.le_of_ble_eq_true rfl⟩ ⟨Nat.zero_le _, Nat.zero_le _⟩ hl.1 rfl rfl (Nat.le_of_ble_eq_true rfl) dX9_goOut_27 (fun r_3 v_3 f_3 g_3 H locs hq_3 hP _ hS => ?_)
  obtain ⟨z_3, rfl, rfl, rfl, rfl, p0_3, p1_3⟩ := hq_3
  show W p l e (gRm 1 21) s m args below meth c _ _ 0 0 Q (F0 m 30 ls [.int (iI z_3), .ref (ad 46)])
  replace p0_3 : z_3 = (a1 * 20 + (u1 (f 31) a1 ((f 31 a1) + 1)) a1 - 1) := p0_3
  replace p1_3 : z_3 = a1 * 20 + (u1 (f 31) a1 ((f 31 a1) + 1)) a1 - 1 ∧ 0 ≤ (u1 (f 31) a1 ((f 31 a1) + 1)) a1 ∧ (u1 (f 31) a1 ((f 31 a1) + 1)) a1 ≤ 20 := p1_3
  have hz_3 : inR z_3 := (by first | omega | (rw [p0_3]; split <;> omega))
  have q_3 : u1 (f 31) a1 ((f 31) a1 + 1) a1 = (f 31) a1 + 1 := u1_s
  refine lv_iconst (v := iI (-1)) hx hb dX9_goOut_30 rfl ?_
  refine rwS_watch_cameIn (f1 := (va_up (va_up (va_up f 31 (u1 (f 31) a1 ((f 31 a1) + 1))) 32 (u1 (f 32) z_2 a2)) 33 (u1 (f 33) z_3 (-1)))) C hP hD hS (by omega) (by omega) (by decide) rfl (Or.inr (gF_up (V := rwV) (F := rwF) (gF_up (V := rwV) (F := rwF) (gF_up (V := rwV) (F := rwF) ⟨hok.1, hok.2⟩ 31 (hP.2.2 31)) 32 (hP.2.2 32)) 33 (u1_rng (hP.2.2 33) (show (-1) ≤ (-1) ∧ (-1) ≤ 1000000 from (by decide))))) dX9_goOut_31 (fun H locs hP hS => ?_)
  exact g_vret hQ C hr hlocks hP hS dX9_goOut_32 ⟨rfl, rfl, (by rw [show ((u1 (f 31) a1 ((f 31) a1 + 1)) : Int → Int) = (u1 (f 31) a1 ((f 31 a1) + 1)) from by first | rfl | rw [if_pos (by omega)] | rw [if_neg (by omega)], show ((u1 (f 32) (a1 * 20 + (f 31) a1) a2) : Int → Int) = (u1 (f 32) z_2 a2) from by congr 1; omega, show ((u1 (f 33) (a1 * 20 + (f 31) a1) (-1)) : Int → Int) = (u1 (f 33) z_3 (-1)) from by congr 1; omega]), rfl⟩

set_option maxHeartbeats 4000000 in
set_option maxRecDepth 100000 in
theorem x_Wa_comeIn (l : Launch) (D : va_G) (k : Nat → ClassId) (A : Nat → Prop) (ad : Nat → Nat) (hD : rwD A k ad) (v : gV) (f g : gF) (a1 : Int) (a2 : Int) (h_a1 : inR a1) (h_a2 : inR a2) (hc : 0 ≤ a1 ∧ a1 ≤ 15) (h1 : 0 < (f 31) a1) (h2 : 0 ≤ a2 ∧ a2 ≤ 1000000) : GM l D k A (rwT k ad) yX9_comeIn cX9_comeIn 3 none 1 21 [.ref (ad 43), .int (iI a1), .int (iI a2)] v f g (fun r v1 f1 g1 => r = none ∧ v = v1 ∧ (va_up f 33 (u1 (f 33) (a1 * 20 + (f 31) a1 - 1) a2)) = f1 ∧ g = g1) := by
  refine GM.of (by decide) (Nat.le_of_ble_eq_true rfl) ?_
  intro p e s m args below meth c Q ls hQ C hml hr hlocks hP hl
  have hx := C.1
  have hb := C.2.1
  have hok := hP.2
  have hS : va_S A s.heap s.heap [] := va_S.rf
  have hl : lv_has ls 3 [(0, .ref (ad 43)), (1, .int (iI a1)), (2, .int (iI a2))] := hl
  have hP : gWd D (rwT k ad) v (va_up f 33 (f 33)) g s.heap := by rw [va_id]; exact hP
  refine lv_aload_n hx hb dX9_comeIn_0 rfl (lv_at hl 0 rfl) ?_
  refine rwG_watch_cameIn C hP mF_X9_18 dX9_comeIn_1 ?_
  refine lv_aload_n hx hb dX9_comeIn_4 rfl (lv_at hl 0 rfl) ?_
  refine lv_iload_n hx hb dX9_comeIn_5 rfl (lv_at hl 1 rfl) ?_
  refine g_cv (As := [.int (iI a1)]) (rest := [.ref (ad 46)]) (n := 1) C hml (c_X9_latest l D k A ad hD v (va_up f 33 (f 33)) g a1 (by omega) (show 0 ≤ a1 ∧ a1 ≤ 15 from by omega)) mM_X9_27 mI_X9_latest mE_X9_latest mN_X9 mC_X9_latest (by decide +kernel) 43 (ci := 9) rfl rfl hP hS (fun _ h => h) ⟨Nat.le_of_ble_eq_true rfl, Nat.le_of_ble_eq_true rfl⟩ ⟨Nat.zero_le _, Nat.zero_le _⟩ hl.1 rfl rfl (Nat.le_of_ble_eq_true rfl) dX9_comeIn_6 (fun r_1 v_1 f_1 g_1 H locs hq_1 hP _ hS => ?_)
  obtain ⟨z_1, rfl, rfl, rfl, rfl, p0_1, p1_1⟩ := hq_1
  show W p l e (gRm 1 21) s m args below meth c _ _ 0 0 Q (F0 m 9 ls [.int (iI z_1), .ref (ad 46)])
  replace p0_1 : z_1 = (a1 * 20 + (f 31) a1 - 1) := p0_1
  replace p1_1 : z_1 = a1 * 20 + (f 31) a1 - 1 ∧ 0 ≤ (f 31) a1 ∧ (f 31) a1 ≤ 20 := p1_1
  have hz_1 : inR z_1 := (by first | omega | (rw [p0_1]; split <;> omega))
  refine lv_iload_n hx hb dX9_comeIn_9 rfl (lv_at hl 2 rfl) ?_
  refine rwS_watch_cameIn (f1 := (va_up f 33 (u1 (f 33) z_1 a2))) C hP hD hS (by omega) (by omega) (by omega) rfl (Or.inr (gF_up (V := rwV) (F := rwF) ⟨hok.1, hok.2⟩ 33 (u1_rng (hP.2.2 33) (show (-1) ≤ a2 ∧ a2 ≤ 1000000 from (by omega))))) dX9_comeIn_10 (fun H locs hP hS => ?_)
  exact g_vret hQ C hr hlocks hP hS dX9_comeIn_11 ⟨rfl, rfl, (by rw [show ((u1 (f 33) (a1 * 20 + (f 31) a1 - 1) a2) : Int → Int) = (u1 (f 33) z_1 a2) from by congr 1; omega]), rfl⟩
end
