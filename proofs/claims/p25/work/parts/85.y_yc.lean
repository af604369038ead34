section
theorem dG_dX11_reach_0 : (decode cX11_reach 0 = .ok (.aload_n 0, 1)) ∧ (decode cX11_reach 1 = .ok (.iconst 0, 1)) ∧ (decode cX11_reach 2 = .ok (.putfield 146, 3)) ∧ (decode cX11_reach 5 = .ok (.aload_n 0, 1)) ∧ (decode cX11_reach 6 = .ok (.iconst 0, 1)) ∧ (decode cX11_reach 7 = .ok (.putfield 149, 3)) ∧ (decode cX11_reach 10 = .ok (.aload_n 0, 1)) ∧ (decode cX11_reach 11 = .ok (.iload_n 1, 1)) ∧ (decode cX11_reach 12 = .ok (.invokevirtual 349, 3)) ∧ (decode cX11_reach 15 = .ok (.ifCond .ne 9, 3)) ∧ (decode cX11_reach 18 = .ok (.aload_n 0, 1)) ∧ (decode cX11_reach 19 = .ok (.iconst 1, 1)) := by decide +kernel
theorem dX11_reach_0 : decode cX11_reach 0 = .ok (.aload_n 0, 1) := dG_dX11_reach_0.1
theorem dX11_reach_1 : decode cX11_reach 1 = .ok (.iconst 0, 1) := dG_dX11_reach_0.2.1
theorem dX11_reach_2 : decode cX11_reach 2 = .ok (.putfield 146, 3) := dG_dX11_reach_0.2.2.1
theorem dX11_reach_5 : decode cX11_reach 5 = .ok (.aload_n 0, 1) := dG_dX11_reach_0.2.2.2.1
theorem dX11_reach_6 : decode cX11_reach 6 = .ok (.iconst 0, 1) := dG_dX11_reach_0.2.2.2.2.1
theorem dX11_reach_7 : decode cX11_reach 7 = .ok (.putfield 149, 3) := dG_dX11_reach_0.2.2.2.2.2.1
theorem dX11_reach_10 : decode cX11_reach 10 = .ok (.aload_n 0, 1) := dG_dX11_reach_0.2.2.2.2.2.2.1
theorem dX11_reach_11 : decode cX11_reach 11 = .ok (.iload_n 1, 1) := dG_dX11_reach_0.2.2.2.2.2.2.2.1
theorem dX11_reach_12 : decode cX11_reach 12 = .ok (.invokevirtual 349, 3) := dG_dX11_reach_0.2.2.2.2.2.2.2.2.1
theorem dX11_reach_15 : decode cX11_reach 15 = .ok (.ifCond .ne 9, 3) := dG_dX11_reach_0.2.2.2.2.2.2.2.2.2.1
theorem dX11_reach_18 : decode cX11_reach 18 = .ok (.aload_n 0, 1) := dG_dX11_reach_0.2.2.2.2.2.2.2.2.2.2.1
theorem dX11_reach_19 : decode cX11_reach 19 = .ok (.iconst 1, 1) := dG_dX11_reach_0.2.2.2.2.2.2.2.2.2.2.2
theorem dG_dX11_reach_20 : (decode cX11_reach 20 = .ok (.invokevirtual 295, 3)) ∧ (decode cX11_reach 23 = .ok (.ireturn, 1)) ∧ (decode cX11_reach 24 = .ok (.iload_n 2, 1)) ∧ (decode cX11_reach 25 = .ok (.iconst 1, 1)) ∧ (decode cX11_reach 26 = .ok (.if_icmp .lt 9, 3)) ∧ (decode cX11_reach 29 = .ok (.iload_n 2, 1)) ∧ (decode cX11_reach 30 = .ok (.bipush 60, 2)) ∧ (decode cX11_reach 32 = .ok (.if_icmp .le 9, 3)) ∧ (decode cX11_reach 35 = .ok (.aload_n 0, 1)) ∧ (decode cX11_reach 36 = .ok (.iconst 2, 1)) ∧ (decode cX11_reach 37 = .ok (.invokevirtual 295, 3)) ∧ (decode cX11_reach 40 = .ok (.ireturn, 1)) := by decide +kernel
theorem dX11_reach_20 : decode cX11_reach 20 = .ok (.invokevirtual 295, 3) := dG_dX11_reach_20.1
theorem dX11_reach_23 : decode cX11_reach 23 = .ok (.ireturn, 1) := dG_dX11_reach_20.2.1
theorem dX11_reach_24 : decode cX11_reach 24 = .ok (.iload_n 2, 1) := dG_dX11_reach_20.2.2.1
theorem dX11_reach_25 : decode cX11_reach 25 = .ok (.iconst 1, 1) := dG_dX11_reach_20.2.2.2.1
theorem dX11_reach_26 : decode cX11_reach 26 = .ok (.if_icmp .lt 9, 3) := dG_dX11_reach_20.2.2.2.2.1
theorem dX11_reach_29 : decode cX11_reach 29 = .ok (.iload_n 2, 1) := dG_dX11_reach_20.2.2.2.2.2.1
theorem dX11_reach_30 : decode cX11_reach 30 = .ok (.bipush 60, 2) := dG_dX11_reach_20.2.2.2.2.2.2.1
theorem dX11_reach_32 : decode cX11_reach 32 = .ok (.if_icmp .le 9, 3) := dG_dX11_reach_20.2.2.2.2.2.2.2.1
theorem dX11_reach_35 : decode cX11_reach 35 = .ok (.aload_n 0, 1) := dG_dX11_reach_20.2.2.2.2.2.2.2.2.1
theorem dX11_reach_36 : decode cX11_reach 36 = .ok (.iconst 2, 1) := dG_dX11_reach_20.2.2.2.2.2.2.2.2.2.1
theorem dX11_reach_37 : decode cX11_reach 37 = .ok (.invokevirtual 295, 3) := dG_dX11_reach_20.2.2.2.2.2.2.2.2.2.2.1
theorem dX11_reach_40 : decode cX11_reach 40 = .ok (.ireturn, 1) := dG_dX11_reach_20.2.2.2.2.2.2.2.2.2.2.2
theorem dG_dX11_reach_41 : (decode cX11_reach 41 = .ok (.aload_n 0, 1)) ∧ (decode cX11_reach 42 = .ok (.iload_n 3, 1)) ∧ (decode cX11_reach 43 = .ok (.invokevirtual 352, 3)) ∧ (decode cX11_reach 46 = .ok (.istore 4, 2)) ∧ (decode cX11_reach 48 = .ok (.iload 4, 2)) ∧ (decode cX11_reach 50 = .ok (.ifCond .le 10, 3)) ∧ (decode cX11_reach 53 = .ok (.aload_n 0, 1)) ∧ (decode cX11_reach 54 = .ok (.iload 4, 2)) ∧ (decode cX11_reach 56 = .ok (.invokevirtual 295, 3)) ∧ (decode cX11_reach 59 = .ok (.ireturn, 1)) ∧ (decode cX11_reach 60 = .ok (.aload_n 0, 1)) ∧ (decode cX11_reach 61 = .ok (.iload_n 1, 1)) := by decide +kernel
theorem dX11_reach_41 : decode cX11_reach 41 = .ok (.aload_n 0, 1) := dG_dX11_reach_41.1
theorem dX11_reach_42 : decode cX11_reach 42 = .ok (.iload_n 3, 1) := dG_dX11_reach_41.2.1
theorem dX11_reach_43 : decode cX11_reach 43 = .ok (.invokevirtual 352, 3) := dG_dX11_reach_41.2.2.1
theorem dX11_reach_46 : decode cX11_reach 46 = .ok (.istore 4, 2) := dG_dX11_reach_41.2.2.2.1
theorem dX11_reach_48 : decode cX11_reach 48 = .ok (.iload 4, 2) := dG_dX11_reach_41.2.2.2.2.1
theorem dX11_reach_50 : decode cX11_reach 50 = .ok (.ifCond .le 10, 3) := dG_dX11_reach_41.2.2.2.2.2.1
theorem dX11_reach_53 : decode cX11_reach 53 = .ok (.aload_n 0, 1) := dG_dX11_reach_41.2.2.2.2.2.2.1
theorem dX11_reach_54 : decode cX11_reach 54 = .ok (.iload 4, 2) := dG_dX11_reach_41.2.2.2.2.2.2.2.1
theorem dX11_reach_56 : decode cX11_reach 56 = .ok (.invokevirtual 295, 3) := dG_dX11_reach_41.2.2.2.2.2.2.2.2.1
theorem dX11_reach_59 : decode cX11_reach 59 = .ok (.ireturn, 1) := dG_dX11_reach_41.2.2.2.2.2.2.2.2.2.1
theorem dX11_reach_60 : decode cX11_reach 60 = .ok (.aload_n 0, 1) := dG_dX11_reach_41.2.2.2.2.2.2.2.2.2.2.1
theorem dX11_reach_61 : decode cX11_reach 61 = .ok (.iload_n 1, 1) := dG_dX11_reach_41.2.2.2.2.2.2.2.2.2.2.2
theorem dG_dX11_reach_62 : (decode cX11_reach 62 = .ok (.invokevirtual 355, 3)) ∧ (decode cX11_reach 65 = .ok (.istore 5, 2)) ∧ (decode cX11_reach 67 = .ok (.iload 5, 2)) ∧ (decode cX11_reach 69 = .ok (.ifCond .ge 9, 3)) ∧ (decode cX11_reach 72 = .ok (.aload_n 0, 1)) ∧ (decode cX11_reach 73 = .ok (.iconst 5, 1)) ∧ (decode cX11_reach 74 = .ok (.invokevirtual 295, 3)) ∧ (decode cX11_reach 77 = .ok (.ireturn, 1)) ∧ (decode cX11_reach 78 = .ok (.aload_n 0, 1)) ∧ (decode cX11_reach 79 = .ok (.getfield 73, 3)) ∧ (decode cX11_reach 82 = .ok (.aload_n 0, 1)) ∧ (decode cX11_reach 83 = .ok (.getfield 97, 3)) := by decide +kernel
theorem dX11_reach_62 : decode cX11_reach 62 = .ok (.invokevirtual 355, 3) := dG_dX11_reach_62.1
theorem dX11_reach_65 : decode cX11_reach 65 = .ok (.istore 5, 2) := dG_dX11_reach_62.2.1
theorem dX11_reach_67 : decode cX11_reach 67 = .ok (.iload 5, 2) := dG_dX11_reach_62.2.2.1
theorem dX11_reach_69 : decode cX11_reach 69 = .ok (.ifCond .ge 9, 3) := dG_dX11_reach_62.2.2.2.1
theorem dX11_reach_72 : decode cX11_reach 72 = .ok (.aload_n 0, 1) := dG_dX11_reach_62.2.2.2.2.1
theorem dX11_reach_73 : decode cX11_reach 73 = .ok (.iconst 5, 1) := dG_dX11_reach_62.2.2.2.2.2.1
theorem dX11_reach_74 : decode cX11_reach 74 = .ok (.invokevirtual 295, 3) := dG_dX11_reach_62.2.2.2.2.2.2.1
theorem dX11_reach_77 : decode cX11_reach 77 = .ok (.ireturn, 1) := dG_dX11_reach_62.2.2.2.2.2.2.2.1
theorem dX11_reach_78 : decode cX11_reach 78 = .ok (.aload_n 0, 1) := dG_dX11_reach_62.2.2.2.2.2.2.2.2.1
theorem dX11_reach_79 : decode cX11_reach 79 = .ok (.getfield 73, 3) := dG_dX11_reach_62.2.2.2.2.2.2.2.2.2.1
theorem dX11_reach_82 : decode cX11_reach 82 = .ok (.aload_n 0, 1) := dG_dX11_reach_62.2.2.2.2.2.2.2.2.2.2.1
theorem dX11_reach_83 : decode cX11_reach 83 = .ok (.getfield 97, 3) := dG_dX11_reach_62.2.2.2.2.2.2.2.2.2.2.2
theorem dG_dX11_reach_86 : (decode cX11_reach 86 = .ok (.iload 5, 2)) ∧ (decode cX11_reach 88 = .ok (.iaload, 1)) ∧ (decode cX11_reach 89 = .ok (.aload_n 0, 1)) ∧ (decode cX11_reach 90 = .ok (.getfield 100, 3)) ∧ (decode cX11_reach 93 = .ok (.iload 5, 2)) ∧ (decode cX11_reach 95 = .ok (.iaload, 1)) ∧ (decode cX11_reach 96 = .ok (.invokestatic 335, 3)) ∧ (decode cX11_reach 99 = .ok (.iaload, 1)) ∧ (decode cX11_reach 100 = .ok (.istore 6, 2)) ∧ (decode cX11_reach 102 = .ok (.iload_n 2, 1)) ∧ (decode cX11_reach 103 = .ok (.aload_n 0, 1)) ∧ (decode cX11_reach 104 = .ok (.getfield 109, 3)) := by decide +kernel
theorem dX11_reach_86 : decode cX11_reach 86 = .ok (.iload 5, 2) := dG_dX11_reach_86.1
theorem dX11_reach_88 : decode cX11_reach 88 = .ok (.iaload, 1) := dG_dX11_reach_86.2.1
theorem dX11_reach_89 : decode cX11_reach 89 = .ok (.aload_n 0, 1) := dG_dX11_reach_86.2.2.1
theorem dX11_reach_90 : decode cX11_reach 90 = .ok (.getfield 100, 3) := dG_dX11_reach_86.2.2.2.1
theorem dX11_reach_93 : decode cX11_reach 93 = .ok (.iload 5, 2) := dG_dX11_reach_86.2.2.2.2.1
theorem dX11_reach_95 : decode cX11_reach 95 = .ok (.iaload, 1) := dG_dX11_reach_86.2.2.2.2.2.1
theorem dX11_reach_96 : decode cX11_reach 96 = .ok (.invokestatic 335, 3) := dG_dX11_reach_86.2.2.2.2.2.2.1
theorem dX11_reach_99 : decode cX11_reach 99 = .ok (.iaload, 1) := dG_dX11_reach_86.2.2.2.2.2.2.2.1
theorem dX11_reach_100 : decode cX11_reach 100 = .ok (.istore 6, 2) := dG_dX11_reach_86.2.2.2.2.2.2.2.2.1
theorem dX11_reach_102 : decode cX11_reach 102 = .ok (.iload_n 2, 1) := dG_dX11_reach_86.2.2.2.2.2.2.2.2.2.1
theorem dX11_reach_103 : decode cX11_reach 103 = .ok (.aload_n 0, 1) := dG_dX11_reach_86.2.2.2.2.2.2.2.2.2.2.1
theorem dX11_reach_104 : decode cX11_reach 104 = .ok (.getfield 109, 3) := dG_dX11_reach_86.2.2.2.2.2.2.2.2.2.2.2
theorem dG_dX11_reach_107 : (decode cX11_reach 107 = .ok (.iload 5, 2)) ∧ (decode cX11_reach 109 = .ok (.iaload, 1)) ∧ (decode cX11_reach 110 = .ok (.if_icmp .le 9, 3)) ∧ (decode cX11_reach 113 = .ok (.iload_n 2, 1)) ∧ (decode cX11_reach 114 = .ok (.iload 6, 2)) ∧ (decode cX11_reach 116 = .ok (.if_icmp .le 10, 3)) ∧ (decode cX11_reach 119 = .ok (.aload_n 0, 1)) ∧ (decode cX11_reach 120 = .ok (.bipush 10, 2)) ∧ (decode cX11_reach 122 = .ok (.invokevirtual 295, 3)) ∧ (decode cX11_reach 125 = .ok (.ireturn, 1)) ∧ (decode cX11_reach 126 = .ok (.aload_n 0, 1)) ∧ (decode cX11_reach 127 = .ok (.getfield 109, 3)) := by decide +kernel
theorem dX11_reach_107 : decode cX11_reach 107 = .ok (.iload 5, 2) := dG_dX11_reach_107.1
theorem dX11_reach_109 : decode cX11_reach 109 = .ok (.iaload, 1) := dG_dX11_reach_107.2.1
theorem dX11_reach_110 : decode cX11_reach 110 = .ok (.if_icmp .le 9, 3) := dG_dX11_reach_107.2.2.1
theorem dX11_reach_113 : decode cX11_reach 113 = .ok (.iload_n 2, 1) := dG_dX11_reach_107.2.2.2.1
theorem dX11_reach_114 : decode cX11_reach 114 = .ok (.iload 6, 2) := dG_dX11_reach_107.2.2.2.2.1
theorem dX11_reach_116 : decode cX11_reach 116 = .ok (.if_icmp .le 10, 3) := dG_dX11_reach_107.2.2.2.2.2.1
theorem dX11_reach_119 : decode cX11_reach 119 = .ok (.aload_n 0, 1) := dG_dX11_reach_107.2.2.2.2.2.2.1
theorem dX11_reach_120 : decode cX11_reach 120 = .ok (.bipush 10, 2) := dG_dX11_reach_107.2.2.2.2.2.2.2.1
theorem dX11_reach_122 : decode cX11_reach 122 = .ok (.invokevirtual 295, 3) := dG_dX11_reach_107.2.2.2.2.2.2.2.2.1
theorem dX11_reach_125 : decode cX11_reach 125 = .ok (.ireturn, 1) := dG_dX11_reach_107.2.2.2.2.2.2.2.2.2.1
theorem dX11_reach_126 : decode cX11_reach 126 = .ok (.aload_n 0, 1) := dG_dX11_reach_107.2.2.2.2.2.2.2.2.2.2.1
theorem dX11_reach_127 : decode cX11_reach 127 = .ok (.getfield 109, 3) := dG_dX11_reach_107.2.2.2.2.2.2.2.2.2.2.2
theorem dG_dX11_reach_130 : (decode cX11_reach 130 = .ok (.iload 5, 2)) ∧ (decode cX11_reach 132 = .ok (.iload_n 2, 1)) ∧ (decode cX11_reach 133 = .ok (.iastore, 1)) ∧ (decode cX11_reach 134 = .ok (.iload_n 2, 1)) ∧ (decode cX11_reach 135 = .ok (.iload 6, 2)) ∧ (decode cX11_reach 137 = .ok (.if_icmp .ge 5, 3)) ∧ (decode cX11_reach 140 = .ok (.iconst 0, 1)) ∧ (decode cX11_reach 141 = .ok (.ireturn, 1)) ∧ (decode cX11_reach 142 = .ok (.aload_n 0, 1)) ∧ (decode cX11_reach 143 = .ok (.getfield 112, 3)) ∧ (decode cX11_reach 146 = .ok (.iload 5, 2)) ∧ (decode cX11_reach 148 = .ok (.iconst 1, 1)) := by decide +kernel
theorem dX11_reach_130 : decode cX11_reach 130 = .ok (.iload 5, 2) := dG_dX11_reach_130.1
theorem dX11_reach_132 : decode cX11_reach 132 = .ok (.iload_n 2, 1) := dG_dX11_reach_130.2.1
theorem dX11_reach_133 : decode cX11_reach 133 = .ok (.iastore, 1) := dG_dX11_reach_130.2.2.1
theorem dX11_reach_134 : decode cX11_reach 134 = .ok (.iload_n 2, 1) := dG_dX11_reach_130.2.2.2.1
theorem dX11_reach_135 : decode cX11_reach 135 = .ok (.iload 6, 2) := dG_dX11_reach_130.2.2.2.2.1
theorem dX11_reach_137 : decode cX11_reach 137 = .ok (.if_icmp .ge 5, 3) := dG_dX11_reach_130.2.2.2.2.2.1
theorem dX11_reach_140 : decode cX11_reach 140 = .ok (.iconst 0, 1) := dG_dX11_reach_130.2.2.2.2.2.2.1
theorem dX11_reach_141 : decode cX11_reach 141 = .ok (.ireturn, 1) := dG_dX11_reach_130.2.2.2.2.2.2.2.1
theorem dX11_reach_142 : decode cX11_reach 142 = .ok (.aload_n 0, 1) := dG_dX11_reach_130.2.2.2.2.2.2.2.2.1
theorem dX11_reach_143 : decode cX11_reach 143 = .ok (.getfield 112, 3) := dG_dX11_reach_130.2.2.2.2.2.2.2.2.2.1
theorem dX11_reach_146 : decode cX11_reach 146 = .ok (.iload 5, 2) := dG_dX11_reach_130.2.2.2.2.2.2.2.2.2.2.1
theorem dX11_reach_148 : decode cX11_reach 148 = .ok (.iconst 1, 1) := dG_dX11_reach_130.2.2.2.2.2.2.2.2.2.2.2
theorem dG_dX11_reach_149 : (decode cX11_reach 149 = .ok (.iastore, 1)) ∧ (decode cX11_reach 150 = .ok (.aload_n 0, 1)) ∧ (decode cX11_reach 151 = .ok (.getfield 106, 3)) ∧ (decode cX11_reach 154 = .ok (.iload 5, 2)) ∧ (decode cX11_reach 156 = .ok (.iload_n 3, 1)) ∧ (decode cX11_reach 157 = .ok (.iastore, 1)) ∧ (decode cX11_reach 158 = .ok (.iconst 1, 1)) ∧ (decode cX11_reach 159 = .ok (.ireturn, 1)) ∧ (decode cX11_fall 0 = .ok (.aload_n 0, 1)) ∧ (decode cX11_fall 1 = .ok (.iconst 0, 1)) ∧ (decode cX11_fall 2 = .ok (.putfield 146, 3)) ∧ (decode cX11_fall 5 = .ok (.aload_n 0, 1)) := by decide +kernel
theorem dX11_reach_149 : decode cX11_reach 149 = .ok (.iastore, 1) := dG_dX11_reach_149.1
theorem dX11_reach_150 : decode cX11_reach 150 = .ok (.aload_n 0, 1) := dG_dX11_reach_149.2.1
theorem dX11_reach_151 : decode cX11_reach 151 = .ok (.getfield 106, 3) := dG_dX11_reach_149.2.2.1
theorem dX11_reach_154 : decode cX11_reach 154 = .ok (.iload 5, 2) := dG_dX11_reach_149.2.2.2.1
theorem dX11_reach_156 : decode cX11_reach 156 = .ok (.iload_n 3, 1) := dG_dX11_reach_149.2.2.2.2.1
theorem dX11_reach_157 : decode cX11_reach 157 = .ok (.iastore, 1) := dG_dX11_reach_149.2.2.2.2.2.1
theorem dX11_reach_158 : decode cX11_reach 158 = .ok (.iconst 1, 1) := dG_dX11_reach_149.2.2.2.2.2.2.1
theorem dX11_reach_159 : decode cX11_reach 159 = .ok (.ireturn, 1) := dG_dX11_reach_149.2.2.2.2.2.2.2.1
theorem dX11_fall_0 : decode cX11_fall 0 = .ok (.aload_n 0, 1) := dG_dX11_reach_149.2.2.2.2.2.2.2.2.1
theorem dX11_fall_1 : decode cX11_fall 1 = .ok (.iconst 0, 1) := dG_dX11_reach_149.2.2.2.2.2.2.2.2.2.1
theorem dX11_fall_2 : decode cX11_fall 2 = .ok (.putfield 146, 3) := dG_dX11_reach_149.2.2.2.2.2.2.2.2.2.2.1
theorem dX11_fall_5 : decode cX11_fall 5 = .ok (.aload_n 0, 1) := dG_dX11_reach_149.2.2.2.2.2.2.2.2.2.2.2
theorem dG_dX11_fall_6 : (decode cX11_fall 6 = .ok (.iconst 0, 1)) ∧ (decode cX11_fall 7 = .ok (.putfield 149, 3)) ∧ (decode cX11_fall 10 = .ok (.aload_n 0, 1)) ∧ (decode cX11_fall 11 = .ok (.iload_n 1, 1)) ∧ (decode cX11_fall 12 = .ok (.invokevirtual 349, 3)) ∧ (decode cX11_fall 15 = .ok (.ifCond .ne 9, 3)) ∧ (decode cX11_fall 18 = .ok (.aload_n 0, 1)) ∧ (decode cX11_fall 19 = .ok (.iconst 1, 1)) ∧ (decode cX11_fall 20 = .ok (.invokevirtual 332, 3)) ∧ (decode cX11_fall 23 = .ok (.ireturn, 1)) ∧ (decode cX11_fall 24 = .ok (.aload_n 0, 1)) ∧ (decode cX11_fall 25 = .ok (.iload_n 2, 1)) := by decide +kernel
theorem dX11_fall_6 : decode cX11_fall 6 = .ok (.iconst 0, 1) := dG_dX11_fall_6.1
theorem dX11_fall_7 : decode cX11_fall 7 = .ok (.putfield 149, 3) := dG_dX11_fall_6.2.1
theorem dX11_fall_10 : decode cX11_fall 10 = .ok (.aload_n 0, 1) := dG_dX11_fall_6.2.2.1
theorem dX11_fall_11 : decode cX11_fall 11 = .ok (.iload_n 1, 1) := dG_dX11_fall_6.2.2.2.1
theorem dX11_fall_12 : decode cX11_fall 12 = .ok (.invokevirtual 349, 3) := dG_dX11_fall_6.2.2.2.2.1
theorem dX11_fall_15 : decode cX11_fall 15 = .ok (.ifCond .ne 9, 3) := dG_dX11_fall_6.2.2.2.2.2.1
theorem dX11_fall_18 : decode cX11_fall 18 = .ok (.aload_n 0, 1) := dG_dX11_fall_6.2.2.2.2.2.2.1
theorem dX11_fall_19 : decode cX11_fall 19 = .ok (.iconst 1, 1) := dG_dX11_fall_6.2.2.2.2.2.2.2.1
theorem dX11_fall_20 : decode cX11_fall 20 = .ok (.invokevirtual 332, 3) := dG_dX11_fall_6.2.2.2.2.2.2.2.2.1
theorem dX11_fall_23 : decode cX11_fall 23 = .ok (.ireturn, 1) := dG_dX11_fall_6.2.2.2.2.2.2.2.2.2.1
theorem dX11_fall_24 : decode cX11_fall 24 = .ok (.aload_n 0, 1) := dG_dX11_fall_6.2.2.2.2.2.2.2.2.2.2.1
theorem dX11_fall_25 : decode cX11_fall 25 = .ok (.iload_n 2, 1) := dG_dX11_fall_6.2.2.2.2.2.2.2.2.2.2.2
theorem dG_dX11_fall_26 : (decode cX11_fall 26 = .ok (.invokevirtual 352, 3)) ∧ (decode cX11_fall 29 = .ok (.istore 4, 2)) ∧ (decode cX11_fall 31 = .ok (.iload 4, 2)) ∧ (decode cX11_fall 33 = .ok (.ifCond .le 10, 3)) ∧ (decode cX11_fall 36 = .ok (.aload_n 0, 1)) ∧ (decode cX11_fall 37 = .ok (.iload 4, 2)) ∧ (decode cX11_fall 39 = .ok (.invokevirtual 332, 3)) ∧ (decode cX11_fall 42 = .ok (.ireturn, 1)) ∧ (decode cX11_fall 43 = .ok (.aload_n 0, 1)) ∧ (decode cX11_fall 44 = .ok (.iload_n 1, 1)) ∧ (decode cX11_fall 45 = .ok (.invokevirtual 355, 3)) ∧ (decode cX11_fall 48 = .ok (.istore 5, 2)) := by decide +kernel
theorem dX11_fall_26 : decode cX11_fall 26 = .ok (.invokevirtual 352, 3) := dG_dX11_fall_26.1
theorem dX11_fall_29 : decode cX11_fall 29 = .ok (.istore 4, 2) := dG_dX11_fall_26.2.1
theorem dX11_fall_31 : decode cX11_fall 31 = .ok (.iload 4, 2) := dG_dX11_fall_26.2.2.1
theorem dX11_fall_33 : decode cX11_fall 33 = .ok (.ifCond .le 10, 3) := dG_dX11_fall_26.2.2.2.1
theorem dX11_fall_36 : decode cX11_fall 36 = .ok (.aload_n 0, 1) := dG_dX11_fall_26.2.2.2.2.1
theorem dX11_fall_37 : decode cX11_fall 37 = .ok (.iload 4, 2) := dG_dX11_fall_26.2.2.2.2.2.1
theorem dX11_fall_39 : decode cX11_fall 39 = .ok (.invokevirtual 332, 3) := dG_dX11_fall_26.2.2.2.2.2.2.1
theorem dX11_fall_42 : decode cX11_fall 42 = .ok (.ireturn, 1) := dG_dX11_fall_26.2.2.2.2.2.2.2.1
theorem dX11_fall_43 : decode cX11_fall 43 = .ok (.aload_n 0, 1) := dG_dX11_fall_26.2.2.2.2.2.2.2.2.1
theorem dX11_fall_44 : decode cX11_fall 44 = .ok (.iload_n 1, 1) := dG_dX11_fall_26.2.2.2.2.2.2.2.2.2.1
theorem dX11_fall_45 : decode cX11_fall 45 = .ok (.invokevirtual 355, 3) := dG_dX11_fall_26.2.2.2.2.2.2.2.2.2.2.1
theorem dX11_fall_48 : decode cX11_fall 48 = .ok (.istore 5, 2) := dG_dX11_fall_26.2.2.2.2.2.2.2.2.2.2.2
theorem dG_dX11_fall_50 : (decode cX11_fall 50 = .ok (.iload 5, 2)) ∧ (decode cX11_fall 52 = .ok (.ifCond .ge 9, 3)) ∧ (decode cX11_fall 55 = .ok (.aload_n 0, 1)) ∧ (decode cX11_fall 56 = .ok (.iconst 5, 1)) ∧ (decode cX11_fall 57 = .ok (.invokevirtual 332, 3)) ∧ (decode cX11_fall 60 = .ok (.ireturn, 1)) ∧ (decode cX11_fall 61 = .ok (.aload_n 0, 1)) ∧ (decode cX11_fall 62 = .ok (.getfield 112, 3)) ∧ (decode cX11_fall 65 = .ok (.iload 5, 2)) ∧ (decode cX11_fall 67 = .ok (.iload_n 3, 1)) ∧ (decode cX11_fall 68 = .ok (.ifCond .eq 7, 3)) ∧ (decode cX11_fall 71 = .ok (.iconst 4, 1)) := by decide +kernel
theorem dX11_fall_50 : decode cX11_fall 50 = .ok (.iload 5, 2) := dG_dX11_fall_50.1
theorem dX11_fall_52 : decode cX11_fall 52 = .ok (.ifCond .ge 9, 3) := dG_dX11_fall_50.2.1
theorem dX11_fall_55 : decode cX11_fall 55 = .ok (.aload_n 0, 1) := dG_dX11_fall_50.2.2.1
theorem dX11_fall_56 : decode cX11_fall 56 = .ok (.iconst 5, 1) := dG_dX11_fall_50.2.2.2.1
theorem dX11_fall_57 : decode cX11_fall 57 = .ok (.invokevirtual 332, 3) := dG_dX11_fall_50.2.2.2.2.1
theorem dX11_fall_60 : decode cX11_fall 60 = .ok (.ireturn, 1) := dG_dX11_fall_50.2.2.2.2.2.1
theorem dX11_fall_61 : decode cX11_fall 61 = .ok (.aload_n 0, 1) := dG_dX11_fall_50.2.2.2.2.2.2.1
theorem dX11_fall_62 : decode cX11_fall 62 = .ok (.getfield 112, 3) := dG_dX11_fall_50.2.2.2.2.2.2.2.1
theorem dX11_fall_65 : decode cX11_fall 65 = .ok (.iload 5, 2) := dG_dX11_fall_50.2.2.2.2.2.2.2.2.1
theorem dX11_fall_67 : decode cX11_fall 67 = .ok (.iload_n 3, 1) := dG_dX11_fall_50.2.2.2.2.2.2.2.2.2.1
theorem dX11_fall_68 : decode cX11_fall 68 = .ok (.ifCond .eq 7, 3) := dG_dX11_fall_50.2.2.2.2.2.2.2.2.2.2.1
theorem dX11_fall_71 : decode cX11_fall 71 = .ok (.iconst 4, 1) := dG_dX11_fall_50.2.2.2.2.2.2.2.2.2.2.2
theorem dG_dX11_fall_72 : (decode cX11_fall 72 = .ok (.goto 4, 3)) ∧ (decode cX11_fall 75 = .ok (.iconst 2, 1)) ∧ (decode cX11_fall 76 = .ok (.iastore, 1)) ∧ (decode cX11_fall 77 = .ok (.aload_n 0, 1)) ∧ (decode cX11_fall 78 = .ok (.getfield 106, 3)) ∧ (decode cX11_fall 81 = .ok (.iload 5, 2)) ∧ (decode cX11_fall 83 = .ok (.iload_n 2, 1)) ∧ (decode cX11_fall 84 = .ok (.iastore, 1)) ∧ (decode cX11_fall 85 = .ok (.iconst 1, 1)) ∧ (decode cX11_fall 86 = .ok (.ireturn, 1)) ∧ (decode cX11_out 0 = .ok (.aload_n 0, 1)) ∧ (decode cX11_out 1 = .ok (.iconst 0, 1)) := by decide +kernel
theorem dX11_fall_72 : decode cX11_fall 72 = .ok (.goto 4, 3) := dG_dX11_fall_72.1
theorem dX11_fall_75 : decode cX11_fall 75 = .ok (.iconst 2, 1) := dG_dX11_fall_72.2.1
theorem dX11_fall_76 : decode cX11_fall 76 = .ok (.iastore, 1) := dG_dX11_fall_72.2.2.1
theorem dX11_fall_77 : decode cX11_fall 77 = .ok (.aload_n 0, 1) := dG_dX11_fall_72.2.2.2.1
theorem dX11_fall_78 : decode cX11_fall 78 = .ok (.getfield 106, 3) := dG_dX11_fall_72.2.2.2.2.1
theorem dX11_fall_81 : decode cX11_fall 81 = .ok (.iload 5, 2) := dG_dX11_fall_72.2.2.2.2.2.1
theorem dX11_fall_83 : decode cX11_fall 83 = .ok (.iload_n 2, 1) := dG_dX11_fall_72.2.2.2.2.2.2.1
theorem dX11_fall_84 : decode cX11_fall 84 = .ok (.iastore, 1) := dG_dX11_fall_72.2.2.2.2.2.2.2.1
theorem dX11_fall_85 : decode cX11_fall 85 = .ok (.iconst 1, 1) := dG_dX11_fall_72.2.2.2.2.2.2.2.2.1
theorem dX11_fall_86 : decode cX11_fall 86 = .ok (.ireturn, 1) := dG_dX11_fall_72.2.2.2.2.2.2.2.2.2.1
theorem dX11_out_0 : decode cX11_out 0 = .ok (.aload_n 0, 1) := dG_dX11_fall_72.2.2.2.2.2.2.2.2.2.2.1
theorem dX11_out_1 : decode cX11_out 1 = .ok (.iconst 0, 1) := dG_dX11_fall_72.2.2.2.2.2.2.2.2.2.2.2
theorem dG_dX11_out_2 : (decode cX11_out 2 = .ok (.putfield 146, 3)) ∧ (decode cX11_out 5 = .ok (.aload_n 0, 1)) ∧ (decode cX11_out 6 = .ok (.iconst 0, 1)) ∧ (decode cX11_out 7 = .ok (.putfield 149, 3)) ∧ (decode cX11_out 10 = .ok (.aload_n 0, 1)) ∧ (decode cX11_out 11 = .ok (.iload_n 1, 1)) ∧ (decode cX11_out 12 = .ok (.invokevirtual 349, 3)) ∧ (decode cX11_out 15 = .ok (.ifCond .ne 9, 3)) ∧ (decode cX11_out 18 = .ok (.aload_n 0, 1)) ∧ (decode cX11_out 19 = .ok (.iconst 1, 1)) ∧ (decode cX11_out 20 = .ok (.invokevirtual 332, 3)) ∧ (decode cX11_out 23 = .ok (.ireturn, 1)) := by decide +kernel
theorem dX11_out_2 : decode cX11_out 2 = .ok (.putfield 146, 3) := dG_dX11_out_2.1
theorem dX11_out_5 : decode cX11_out 5 = .ok (.aload_n 0, 1) := dG_dX11_out_2.2.1
theorem dX11_out_6 : decode cX11_out 6 = .ok (.iconst 0, 1) := dG_dX11_out_2.2.2.1
theorem dX11_out_7 : decode cX11_out 7 = .ok (.putfield 149, 3) := dG_dX11_out_2.2.2.2.1
theorem dX11_out_10 : decode cX11_out 10 = .ok (.aload_n 0, 1) := dG_dX11_out_2.2.2.2.2.1
theorem dX11_out_11 : decode cX11_out 11 = .ok (.iload_n 1, 1) := dG_dX11_out_2.2.2.2.2.2.1
theorem dX11_out_12 : decode cX11_out 12 = .ok (.invokevirtual 349, 3) := dG_dX11_out_2.2.2.2.2.2.2.1
theorem dX11_out_15 : decode cX11_out 15 = .ok (.ifCond .ne 9, 3) := dG_dX11_out_2.2.2.2.2.2.2.2.1
theorem dX11_out_18 : decode cX11_out 18 = .ok (.aload_n 0, 1) := dG_dX11_out_2.2.2.2.2.2.2.2.2.1
theorem dX11_out_19 : decode cX11_out 19 = .ok (.iconst 1, 1) := dG_dX11_out_2.2.2.2.2.2.2.2.2.2.1
theorem dX11_out_20 : decode cX11_out 20 = .ok (.invokevirtual 332, 3) := dG_dX11_out_2.2.2.2.2.2.2.2.2.2.2.1
theorem dX11_out_23 : decode cX11_out 23 = .ok (.ireturn, 1) := dG_dX11_out_2.2.2.2.2.2.2.2.2.2.2.2
theorem dG_dX11_out_24 : (decode cX11_out 24 = .ok (.aload_n 0, 1)) ∧ (decode cX11_out 25 = .ok (.iload_n 2, 1)) ∧ (decode cX11_out 26 = .ok (.invokevirtual 352, 3)) ∧ (decode cX11_out 29 = .ok (.istore 4, 2)) ∧ (decode cX11_out 31 = .ok (.iload 4, 2)) ∧ (decode cX11_out 33 = .ok (.ifCond .le 10, 3)) ∧ (decode cX11_out 36 = .ok (.aload_n 0, 1)) ∧ (decode cX11_out 37 = .ok (.iload 4, 2)) ∧ (decode cX11_out 39 = .ok (.invokevirtual 332, 3)) ∧ (decode cX11_out 42 = .ok (.ireturn, 1)) ∧ (decode cX11_out 43 = .ok (.aload_n 0, 1)) ∧ (decode cX11_out 44 = .ok (.getfield 124, 3)) := by decide +kernel
theorem dX11_out_24 : decode cX11_out 24 = .ok (.aload_n 0, 1) := dG_dX11_out_24.1
theorem dX11_out_25 : decode cX11_out 25 = .ok (.iload_n 2, 1) := dG_dX11_out_24.2.1
theorem dX11_out_26 : decode cX11_out 26 = .ok (.invokevirtual 352, 3) := dG_dX11_out_24.2.2.1
theorem dX11_out_29 : decode cX11_out 29 = .ok (.istore 4, 2) := dG_dX11_out_24.2.2.2.1
theorem dX11_out_31 : decode cX11_out 31 = .ok (.iload 4, 2) := dG_dX11_out_24.2.2.2.2.1
theorem dX11_out_33 : decode cX11_out 33 = .ok (.ifCond .le 10, 3) := dG_dX11_out_24.2.2.2.2.2.1
theorem dX11_out_36 : decode cX11_out 36 = .ok (.aload_n 0, 1) := dG_dX11_out_24.2.2.2.2.2.2.1
theorem dX11_out_37 : decode cX11_out 37 = .ok (.iload 4, 2) := dG_dX11_out_24.2.2.2.2.2.2.2.1
theorem dX11_out_39 : decode cX11_out 39 = .ok (.invokevirtual 332, 3) := dG_dX11_out_24.2.2.2.2.2.2.2.2.1
theorem dX11_out_42 : decode cX11_out 42 = .ok (.ireturn, 1) := dG_dX11_out_24.2.2.2.2.2.2.2.2.2.1
theorem dX11_out_43 : decode cX11_out 43 = .ok (.aload_n 0, 1) := dG_dX11_out_24.2.2.2.2.2.2.2.2.2.2.1
theorem dX11_out_44 : decode cX11_out 44 = .ok (.getfield 124, 3) := dG_dX11_out_24.2.2.2.2.2.2.2.2.2.2.2
theorem dG_dX11_out_47 : (decode cX11_out 47 = .ok (.iload_n 1, 1)) ∧ (decode cX11_out 48 = .ok (.iaload, 1)) ∧ (decode cX11_out 49 = .ok (.istore 5, 2)) ∧ (decode cX11_out 51 = .ok (.iload 5, 2)) ∧ (decode cX11_out 53 = .ok (.ifCond .le 24, 3)) ∧ (decode cX11_out 56 = .ok (.aload_n 0, 1)) ∧ (decode cX11_out 57 = .ok (.getfield 130, 3)) ∧ (decode cX11_out 60 = .ok (.bipush 20, 2)) ∧ (decode cX11_out 62 = .ok (.iload_n 1, 1)) ∧ (decode cX11_out 63 = .ok (.imul, 1)) ∧ (decode cX11_out 64 = .ok (.iload 5, 2)) ∧ (decode cX11_out 66 = .ok (.iadd, 1)) := by decide +kernel
theorem dX11_out_47 : decode cX11_out 47 = .ok (.iload_n 1, 1) := dG_dX11_out_47.1
theorem dX11_out_48 : decode cX11_out 48 = .ok (.iaload, 1) := dG_dX11_out_47.2.1
theorem dX11_out_49 : decode cX11_out 49 = .ok (.istore 5, 2) := dG_dX11_out_47.2.2.1
theorem dX11_out_51 : decode cX11_out 51 = .ok (.iload 5, 2) := dG_dX11_out_47.2.2.2.1
theorem dX11_out_53 : decode cX11_out 53 = .ok (.ifCond .le 24, 3) := dG_dX11_out_47.2.2.2.2.1
theorem dX11_out_56 : decode cX11_out 56 = .ok (.aload_n 0, 1) := dG_dX11_out_47.2.2.2.2.2.1
theorem dX11_out_57 : decode cX11_out 57 = .ok (.getfield 130, 3) := dG_dX11_out_47.2.2.2.2.2.2.1
theorem dX11_out_60 : decode cX11_out 60 = .ok (.bipush 20, 2) := dG_dX11_out_47.2.2.2.2.2.2.2.1
theorem dX11_out_62 : decode cX11_out 62 = .ok (.iload_n 1, 1) := dG_dX11_out_47.2.2.2.2.2.2.2.2.1
theorem dX11_out_63 : decode cX11_out 63 = .ok (.imul, 1) := dG_dX11_out_47.2.2.2.2.2.2.2.2.2.1
theorem dX11_out_64 : decode cX11_out 64 = .ok (.iload 5, 2) := dG_dX11_out_47.2.2.2.2.2.2.2.2.2.2.1
theorem dX11_out_66 : decode cX11_out 66 = .ok (.iadd, 1) := dG_dX11_out_47.2.2.2.2.2.2.2.2.2.2.2
theorem dG_dX11_out_67 : (decode cX11_out 67 = .ok (.iconst 1, 1)) ∧ (decode cX11_out 68 = .ok (.isub, 1)) ∧ (decode cX11_out 69 = .ok (.iaload, 1)) ∧ (decode cX11_out 70 = .ok (.ifCond .ge 7, 3)) ∧ (decode cX11_out 73 = .ok (.iconst 1, 1)) ∧ (decode cX11_out 74 = .ok (.goto 4, 3)) ∧ (decode cX11_out 77 = .ok (.iconst 0, 1)) ∧ (decode cX11_out 78 = .ok (.istore 6, 2)) ∧ (decode cX11_out 80 = .ok (.iload 6, 2)) ∧ (decode cX11_out 82 = .ok (.iload_n 3, 1)) ∧ (decode cX11_out 83 = .ok (.if_icmp .ne 10, 3)) ∧ (decode cX11_out 86 = .ok (.aload_n 0, 1)) := by decide +kernel
theorem dX11_out_67 : decode cX11_out 67 = .ok (.iconst 1, 1) := dG_dX11_out_67.1
theorem dX11_out_68 : decode cX11_out 68 = .ok (.isub, 1) := dG_dX11_out_67.2.1
theorem dX11_out_69 : decode cX11_out 69 = .ok (.iaload, 1) := dG_dX11_out_67.2.2.1
theorem dX11_out_70 : decode cX11_out 70 = .ok (.ifCond .ge 7, 3) := dG_dX11_out_67.2.2.2.1
theorem dX11_out_73 : decode cX11_out 73 = .ok (.iconst 1, 1) := dG_dX11_out_67.2.2.2.2.1
theorem dX11_out_74 : decode cX11_out 74 = .ok (.goto 4, 3) := dG_dX11_out_67.2.2.2.2.2.1
theorem dX11_out_77 : decode cX11_out 77 = .ok (.iconst 0, 1) := dG_dX11_out_67.2.2.2.2.2.2.1
theorem dX11_out_78 : decode cX11_out 78 = .ok (.istore 6, 2) := dG_dX11_out_67.2.2.2.2.2.2.2.1
theorem dX11_out_80 : decode cX11_out 80 = .ok (.iload 6, 2) := dG_dX11_out_67.2.2.2.2.2.2.2.2.1
theorem dX11_out_82 : decode cX11_out 82 = .ok (.iload_n 3, 1) := dG_dX11_out_67.2.2.2.2.2.2.2.2.2.1
theorem dX11_out_83 : decode cX11_out 83 = .ok (.if_icmp .ne 10, 3) := dG_dX11_out_67.2.2.2.2.2.2.2.2.2.2.1
theorem dX11_out_86 : decode cX11_out 86 = .ok (.aload_n 0, 1) := dG_dX11_out_67.2.2.2.2.2.2.2.2.2.2.2
theorem dG_dX11_out_87 : (decode cX11_out 87 = .ok (.bipush 10, 2)) ∧ (decode cX11_out 89 = .ok (.invokevirtual 332, 3)) ∧ (decode cX11_out 92 = .ok (.ireturn, 1)) ∧ (decode cX11_out 93 = .ok (.iload_n 3, 1)) ∧ (decode cX11_out 94 = .ok (.ifCond .eq 16, 3)) ∧ (decode cX11_out 97 = .ok (.iload 5, 2)) ∧ (decode cX11_out 99 = .ok (.bipush 20, 2)) ∧ (decode cX11_out 101 = .ok (.if_icmp .ne 9, 3)) ∧ (decode cX11_out 104 = .ok (.aload_n 0, 1)) ∧ (decode cX11_out 105 = .ok (.iconst 3, 1)) ∧ (decode cX11_out 106 = .ok (.invokevirtual 332, 3)) ∧ (decode cX11_out 109 = .ok (.ireturn, 1)) := by decide +kernel
theorem dX11_out_87 : decode cX11_out 87 = .ok (.bipush 10, 2) := dG_dX11_out_87.1
theorem dX11_out_89 : decode cX11_out 89 = .ok (.invokevirtual 332, 3) := dG_dX11_out_87.2.1
theorem dX11_out_92 : decode cX11_out 92 = .ok (.ireturn, 1) := dG_dX11_out_87.2.2.1
theorem dX11_out_93 : decode cX11_out 93 = .ok (.iload_n 3, 1) := dG_dX11_out_87.2.2.2.1
theorem dX11_out_94 : decode cX11_out 94 = .ok (.ifCond .eq 16, 3) := dG_dX11_out_87.2.2.2.2.1
theorem dX11_out_97 : decode cX11_out 97 = .ok (.iload 5, 2) := dG_dX11_out_87.2.2.2.2.2.1
theorem dX11_out_99 : decode cX11_out 99 = .ok (.bipush 20, 2) := dG_dX11_out_87.2.2.2.2.2.2.1
theorem dX11_out_101 : decode cX11_out 101 = .ok (.if_icmp .ne 9, 3) := dG_dX11_out_87.2.2.2.2.2.2.2.1
theorem dX11_out_104 : decode cX11_out 104 = .ok (.aload_n 0, 1) := dG_dX11_out_87.2.2.2.2.2.2.2.2.1
theorem dX11_out_105 : decode cX11_out 105 = .ok (.iconst 3, 1) := dG_dX11_out_87.2.2.2.2.2.2.2.2.2.1
theorem dX11_out_106 : decode cX11_out 106 = .ok (.invokevirtual 332, 3) := dG_dX11_out_87.2.2.2.2.2.2.2.2.2.2.1
theorem dX11_out_109 : decode cX11_out 109 = .ok (.ireturn, 1) := dG_dX11_out_87.2.2.2.2.2.2.2.2.2.2.2
theorem dG_dX11_out_110 : (decode cX11_out 110 = .ok (.iload_n 3, 1)) ∧ (decode cX11_out 111 = .ok (.ifCond .eq 42, 3)) ∧ (decode cX11_out 114 = .ok (.aload_n 0, 1)) ∧ (decode cX11_out 115 = .ok (.getfield 127, 3)) ∧ (decode cX11_out 118 = .ok (.bipush 20, 2)) ∧ (decode cX11_out 120 = .ok (.iload_n 1, 1)) ∧ (decode cX11_out 121 = .ok (.imul, 1)) ∧ (decode cX11_out 122 = .ok (.iload 5, 2)) ∧ (decode cX11_out 124 = .ok (.iadd, 1)) ∧ (decode cX11_out 125 = .ok (.iload_n 2, 1)) ∧ (decode cX11_out 126 = .ok (.iastore, 1)) ∧ (decode cX11_out 127 = .ok (.aload_n 0, 1)) := by decide +kernel
theorem dX11_out_110 : decode cX11_out 110 = .ok (.iload_n 3, 1) := dG_dX11_out_110.1
theorem dX11_out_111 : decode cX11_out 111 = .ok (.ifCond .eq 42, 3) := dG_dX11_out_110.2.1
theorem dX11_out_114 : decode cX11_out 114 = .ok (.aload_n 0, 1) := dG_dX11_out_110.2.2.1
theorem dX11_out_115 : decode cX11_out 115 = .ok (.getfield 127, 3) := dG_dX11_out_110.2.2.2.1
theorem dX11_out_118 : decode cX11_out 118 = .ok (.bipush 20, 2) := dG_dX11_out_110.2.2.2.2.1
theorem dX11_out_120 : decode cX11_out 120 = .ok (.iload_n 1, 1) := dG_dX11_out_110.2.2.2.2.2.1
theorem dX11_out_121 : decode cX11_out 121 = .ok (.imul, 1) := dG_dX11_out_110.2.2.2.2.2.2.1
theorem dX11_out_122 : decode cX11_out 122 = .ok (.iload 5, 2) := dG_dX11_out_110.2.2.2.2.2.2.2.1
theorem dX11_out_124 : decode cX11_out 124 = .ok (.iadd, 1) := dG_dX11_out_110.2.2.2.2.2.2.2.2.1
theorem dX11_out_125 : decode cX11_out 125 = .ok (.iload_n 2, 1) := dG_dX11_out_110.2.2.2.2.2.2.2.2.2.1
theorem dX11_out_126 : decode cX11_out 126 = .ok (.iastore, 1) := dG_dX11_out_110.2.2.2.2.2.2.2.2.2.2.1
theorem dX11_out_127 : decode cX11_out 127 = .ok (.aload_n 0, 1) := dG_dX11_out_110.2.2.2.2.2.2.2.2.2.2.2
theorem dG_dX11_out_128 : (decode cX11_out 128 = .ok (.getfield 130, 3)) ∧ (decode cX11_out 131 = .ok (.bipush 20, 2)) ∧ (decode cX11_out 133 = .ok (.iload_n 1, 1)) ∧ (decode cX11_out 134 = .ok (.imul, 1)) ∧ (decode cX11_out 135 = .ok (.iload 5, 2)) ∧ (decode cX11_out 137 = .ok (.iadd, 1)) ∧ (decode cX11_out 138 = .ok (.iconst (-1), 1)) ∧ (decode cX11_out 139 = .ok (.iastore, 1)) ∧ (decode cX11_out 140 = .ok (.aload_n 0, 1)) ∧ (decode cX11_out 141 = .ok (.getfield 124, 3)) ∧ (decode cX11_out 144 = .ok (.iload_n 1, 1)) ∧ (decode cX11_out 145 = .ok (.dup2, 1)) := by decide +kernel
theorem dX11_out_128 : decode cX11_out 128 = .ok (.getfield 130, 3) := dG_dX11_out_128.1
theorem dX11_out_131 : decode cX11_out 131 = .ok (.bipush 20, 2) := dG_dX11_out_128.2.1
theorem dX11_out_133 : decode cX11_out 133 = .ok (.iload_n 1, 1) := dG_dX11_out_128.2.2.1
theorem dX11_out_134 : decode cX11_out 134 = .ok (.imul, 1) := dG_dX11_out_128.2.2.2.1
theorem dX11_out_135 : decode cX11_out 135 = .ok (.iload 5, 2) := dG_dX11_out_128.2.2.2.2.1
theorem dX11_out_137 : decode cX11_out 137 = .ok (.iadd, 1) := dG_dX11_out_128.2.2.2.2.2.1
theorem dX11_out_138 : decode cX11_out 138 = .ok (.iconst (-1), 1) := dG_dX11_out_128.2.2.2.2.2.2.1
theorem dX11_out_139 : decode cX11_out 139 = .ok (.iastore, 1) := dG_dX11_out_128.2.2.2.2.2.2.2.1
theorem dX11_out_140 : decode cX11_out 140 = .ok (.aload_n 0, 1) := dG_dX11_out_128.2.2.2.2.2.2.2.2.1
theorem dX11_out_141 : decode cX11_out 141 = .ok (.getfield 124, 3) := dG_dX11_out_128.2.2.2.2.2.2.2.2.2.1
theorem dX11_out_144 : decode cX11_out 144 = .ok (.iload_n 1, 1) := dG_dX11_out_128.2.2.2.2.2.2.2.2.2.2.1
theorem dX11_out_145 : decode cX11_out 145 = .ok (.dup2, 1) := dG_dX11_out_128.2.2.2.2.2.2.2.2.2.2.2
theorem dG_dX11_out_146 : (decode cX11_out 146 = .ok (.iaload, 1)) ∧ (decode cX11_out 147 = .ok (.iconst 1, 1)) ∧ (decode cX11_out 148 = .ok (.iadd, 1)) ∧ (decode cX11_out 149 = .ok (.iastore, 1)) ∧ (decode cX11_out 150 = .ok (.goto 18, 3)) ∧ (decode cX11_out 153 = .ok (.aload_n 0, 1)) ∧ (decode cX11_out 154 = .ok (.getfield 130, 3)) ∧ (decode cX11_out 157 = .ok (.bipush 20, 2)) ∧ (decode cX11_out 159 = .ok (.iload_n 1, 1)) ∧ (decode cX11_out 160 = .ok (.imul, 1)) ∧ (decode cX11_out 161 = .ok (.iload 5, 2)) ∧ (decode cX11_out 163 = .ok (.iadd, 1)) := by decide +kernel
theorem dX11_out_146 : decode cX11_out 146 = .ok (.iaload, 1) := dG_dX11_out_146.1
theorem dX11_out_147 : decode cX11_out 147 = .ok (.iconst 1, 1) := dG_dX11_out_146.2.1
theorem dX11_out_148 : decode cX11_out 148 = .ok (.iadd, 1) := dG_dX11_out_146.2.2.1
theorem dX11_out_149 : decode cX11_out 149 = .ok (.iastore, 1) := dG_dX11_out_146.2.2.2.1
theorem dX11_out_150 : decode cX11_out 150 = .ok (.goto 18, 3) := dG_dX11_out_146.2.2.2.2.1
theorem dX11_out_153 : decode cX11_out 153 = .ok (.aload_n 0, 1) := dG_dX11_out_146.2.2.2.2.2.1
theorem dX11_out_154 : decode cX11_out 154 = .ok (.getfield 130, 3) := dG_dX11_out_146.2.2.2.2.2.2.1
theorem dX11_out_157 : decode cX11_out 157 = .ok (.bipush 20, 2) := dG_dX11_out_146.2.2.2.2.2.2.2.1
theorem dX11_out_159 : decode cX11_out 159 = .ok (.iload_n 1, 1) := dG_dX11_out_146.2.2.2.2.2.2.2.2.1
theorem dX11_out_160 : decode cX11_out 160 = .ok (.imul, 1) := dG_dX11_out_146.2.2.2.2.2.2.2.2.2.1
theorem dX11_out_161 : decode cX11_out 161 = .ok (.iload 5, 2) := dG_dX11_out_146.2.2.2.2.2.2.2.2.2.2.1
theorem dX11_out_163 : decode cX11_out 163 = .ok (.iadd, 1) := dG_dX11_out_146.2.2.2.2.2.2.2.2.2.2.2
theorem dG_dX11_out_164 : (decode cX11_out 164 = .ok (.iconst 1, 1)) ∧ (decode cX11_out 165 = .ok (.isub, 1)) ∧ (decode cX11_out 166 = .ok (.iload_n 2, 1)) ∧ (decode cX11_out 167 = .ok (.iastore, 1)) ∧ (decode cX11_out 168 = .ok (.iconst 1, 1)) ∧ (decode cX11_out 169 = .ok (.ireturn, 1)) ∧ (decode cX11_clock 0 = .ok (.aload_n 0, 1)) ∧ (decode cX11_clock 1 = .ok (.iconst 0, 1)) ∧ (decode cX11_clock 2 = .ok (.putfield 146, 3)) ∧ (decode cX11_clock 5 = .ok (.aload_n 0, 1)) ∧ (decode cX11_clock 6 = .ok (.aload_n 0, 1)) ∧ (decode cX11_clock 7 = .ok (.iload_n 1, 1)) := by decide +kernel
theorem dX11_out_164 : decode cX11_out 164 = .ok (.iconst 1, 1) := dG_dX11_out_164.1
theorem dX11_out_165 : decode cX11_out 165 = .ok (.isub, 1) := dG_dX11_out_164.2.1
theorem dX11_out_166 : decode cX11_out 166 = .ok (.iload_n 2, 1) := dG_dX11_out_164.2.2.1
theorem dX11_out_167 : decode cX11_out 167 = .ok (.iastore, 1) := dG_dX11_out_164.2.2.2.1
theorem dX11_out_168 : decode cX11_out 168 = .ok (.iconst 1, 1) := dG_dX11_out_164.2.2.2.2.1
theorem dX11_out_169 : decode cX11_out 169 = .ok (.ireturn, 1) := dG_dX11_out_164.2.2.2.2.2.1
theorem dX11_clock_0 : decode cX11_clock 0 = .ok (.aload_n 0, 1) := dG_dX11_out_164.2.2.2.2.2.2.1
theorem dX11_clock_1 : decode cX11_clock 1 = .ok (.iconst 0, 1) := dG_dX11_out_164.2.2.2.2.2.2.2.1
theorem dX11_clock_2 : decode cX11_clock 2 = .ok (.putfield 146, 3) := dG_dX11_out_164.2.2.2.2.2.2.2.2.1
theorem dX11_clock_5 : decode cX11_clock 5 = .ok (.aload_n 0, 1) := dG_dX11_out_164.2.2.2.2.2.2.2.2.2.1
theorem dX11_clock_6 : decode cX11_clock 6 = .ok (.aload_n 0, 1) := dG_dX11_out_164.2.2.2.2.2.2.2.2.2.2.1
theorem dX11_clock_7 : decode cX11_clock 7 = .ok (.iload_n 1, 1) := dG_dX11_out_164.2.2.2.2.2.2.2.2.2.2.2
theorem dG_dX11_clock_8 : (decode cX11_clock 8 = .ok (.invokevirtual 352, 3)) ∧ (decode cX11_clock 11 = .ok (.putfield 149, 3)) ∧ (decode cX11_clock 14 = .ok (.aload_n 0, 1)) ∧ (decode cX11_clock 15 = .ok (.getfield 149, 3)) ∧ (decode cX11_clock 18 = .ok (.ifCond .ne 7, 3)) ∧ (decode cX11_clock 21 = .ok (.iconst 1, 1)) ∧ (decode cX11_clock 22 = .ok (.goto 4, 3)) ∧ (decode cX11_clock 25 = .ok (.iconst 0, 1)) ∧ (decode cX11_clock 26 = .ok (.ireturn, 1)) ∧ (decode cX11_now 0 = .ok (.aload_n 0, 1)) ∧ (decode cX11_now 1 = .ok (.iconst 0, 1)) ∧ (decode cX11_now 2 = .ok (.putfield 146, 3)) := by decide +kernel
theorem dX11_clock_8 : decode cX11_clock 8 = .ok (.invokevirtual 352, 3) := dG_dX11_clock_8.1
theorem dX11_clock_11 : decode cX11_clock 11 = .ok (.putfield 149, 3) := dG_dX11_clock_8.2.1
theorem dX11_clock_14 : decode cX11_clock 14 = .ok (.aload_n 0, 1) := dG_dX11_clock_8.2.2.1
theorem dX11_clock_15 : decode cX11_clock 15 = .ok (.getfield 149, 3) := dG_dX11_clock_8.2.2.2.1
theorem dX11_clock_18 : decode cX11_clock 18 = .ok (.ifCond .ne 7, 3) := dG_dX11_clock_8.2.2.2.2.1
theorem dX11_clock_21 : decode cX11_clock 21 = .ok (.iconst 1, 1) := dG_dX11_clock_8.2.2.2.2.2.1
theorem dX11_clock_22 : decode cX11_clock 22 = .ok (.goto 4, 3) := dG_dX11_clock_8.2.2.2.2.2.2.1
theorem dX11_clock_25 : decode cX11_clock 25 = .ok (.iconst 0, 1) := dG_dX11_clock_8.2.2.2.2.2.2.2.1
theorem dX11_clock_26 : decode cX11_clock 26 = .ok (.ireturn, 1) := dG_dX11_clock_8.2.2.2.2.2.2.2.2.1
theorem dX11_now_0 : decode cX11_now 0 = .ok (.aload_n 0, 1) := dG_dX11_clock_8.2.2.2.2.2.2.2.2.2.1
theorem dX11_now_1 : decode cX11_now 1 = .ok (.iconst 0, 1) := dG_dX11_clock_8.2.2.2.2.2.2.2.2.2.2.1
theorem dX11_now_2 : decode cX11_now 2 = .ok (.putfield 146, 3) := dG_dX11_clock_8.2.2.2.2.2.2.2.2.2.2.2
theorem dG_dX11_now_5 : (decode cX11_now 5 = .ok (.aload_n 0, 1)) ∧ (decode cX11_now 6 = .ok (.iconst 0, 1)) ∧ (decode cX11_now 7 = .ok (.putfield 149, 3)) ∧ (decode cX11_now 10 = .ok (.aload_n 0, 1)) ∧ (decode cX11_now 11 = .ok (.getfield 316, 3)) ∧ (decode cX11_now 14 = .ok (.ireturn, 1)) ∧ (decode cX11_tried 0 = .ok (.aload_n 0, 1)) ∧ (decode cX11_tried 1 = .ok (.iconst 0, 1)) ∧ (decode cX11_tried 2 = .ok (.putfield 146, 3)) ∧ (decode cX11_tried 5 = .ok (.aload_n 0, 1)) ∧ (decode cX11_tried 6 = .ok (.iconst 0, 1)) ∧ (decode cX11_tried 7 = .ok (.putfield 149, 3)) := by decide +kernel
theorem dX11_now_5 : decode cX11_now 5 = .ok (.aload_n 0, 1) := dG_dX11_now_5.1
theorem dX11_now_6 : decode cX11_now 6 = .ok (.iconst 0, 1) := dG_dX11_now_5.2.1
theorem dX11_now_7 : decode cX11_now 7 = .ok (.putfield 149, 3) := dG_dX11_now_5.2.2.1
theorem dX11_now_10 : decode cX11_now 10 = .ok (.aload_n 0, 1) := dG_dX11_now_5.2.2.2.1
theorem dX11_now_11 : decode cX11_now 11 = .ok (.getfield 316, 3) := dG_dX11_now_5.2.2.2.2.1
theorem dX11_now_14 : decode cX11_now 14 = .ok (.ireturn, 1) := dG_dX11_now_5.2.2.2.2.2.1
theorem dX11_tried_0 : decode cX11_tried 0 = .ok (.aload_n 0, 1) := dG_dX11_now_5.2.2.2.2.2.2.1
theorem dX11_tried_1 : decode cX11_tried 1 = .ok (.iconst 0, 1) := dG_dX11_now_5.2.2.2.2.2.2.2.1
theorem dX11_tried_2 : decode cX11_tried 2 = .ok (.putfield 146, 3) := dG_dX11_now_5.2.2.2.2.2.2.2.2.1
theorem dX11_tried_5 : decode cX11_tried 5 = .ok (.aload_n 0, 1) := dG_dX11_now_5.2.2.2.2.2.2.2.2.2.1
theorem dX11_tried_6 : decode cX11_tried 6 = .ok (.iconst 0, 1) := dG_dX11_now_5.2.2.2.2.2.2.2.2.2.2.1
theorem dX11_tried_7 : decode cX11_tried 7 = .ok (.putfield 149, 3) := dG_dX11_now_5.2.2.2.2.2.2.2.2.2.2.2
theorem dG_dX11_tried_10 : (decode cX11_tried 10 = .ok (.iload_n 1, 1)) ∧ (decode cX11_tried 11 = .ok (.ifCond .lt 11, 3)) ∧ (decode cX11_tried 14 = .ok (.iload_n 1, 1)) ∧ (decode cX11_tried 15 = .ok (.aload_n 0, 1)) ∧ (decode cX11_tried 16 = .ok (.getfield 319, 3)) ∧ (decode cX11_tried 19 = .ok (.if_icmp .lt 9, 3)) ∧ (decode cX11_tried 22 = .ok (.aload_n 0, 1)) ∧ (decode cX11_tried 23 = .ok (.iconst 1, 1)) ∧ (decode cX11_tried 24 = .ok (.invokevirtual 295, 3)) ∧ (decode cX11_tried 27 = .ok (.ireturn, 1)) ∧ (decode cX11_tried 28 = .ok (.iload_n 2, 1)) ∧ (decode cX11_tried 29 = .ok (.tableswitch 92 0 6 #[43, 50, 57, 64, 71, 78, 85], 43)) := by decide +kernel
theorem dX11_tried_10 : decode cX11_tried 10 = .ok (.iload_n 1, 1) := dG_dX11_tried_10.1
theorem dX11_tried_11 : decode cX11_tried 11 = .ok (.ifCond .lt 11, 3) := dG_dX11_tried_10.2.1
theorem dX11_tried_14 : decode cX11_tried 14 = .ok (.iload_n 1, 1) := dG_dX11_tried_10.2.2.1
theorem dX11_tried_15 : decode cX11_tried 15 = .ok (.aload_n 0, 1) := dG_dX11_tried_10.2.2.2.1
theorem dX11_tried_16 : decode cX11_tried 16 = .ok (.getfield 319, 3) := dG_dX11_tried_10.2.2.2.2.1
theorem dX11_tried_19 : decode cX11_tried 19 = .ok (.if_icmp .lt 9, 3) := dG_dX11_tried_10.2.2.2.2.2.1
theorem dX11_tried_22 : decode cX11_tried 22 = .ok (.aload_n 0, 1) := dG_dX11_tried_10.2.2.2.2.2.2.1
theorem dX11_tried_23 : decode cX11_tried 23 = .ok (.iconst 1, 1) := dG_dX11_tried_10.2.2.2.2.2.2.2.1
theorem dX11_tried_24 : decode cX11_tried 24 = .ok (.invokevirtual 295, 3) := dG_dX11_tried_10.2.2.2.2.2.2.2.2.1
theorem dX11_tried_27 : decode cX11_tried 27 = .ok (.ireturn, 1) := dG_dX11_tried_10.2.2.2.2.2.2.2.2.2.1
theorem dX11_tried_28 : decode cX11_tried 28 = .ok (.iload_n 2, 1) := dG_dX11_tried_10.2.2.2.2.2.2.2.2.2.2.1
theorem dX11_tried_29 : decode cX11_tried 29 = .ok (.tableswitch 92 0 6 #[43, 50, 57, 64, 71, 78, 85], 43) := dG_dX11_tried_10.2.2.2.2.2.2.2.2.2.2.2
theorem dG_dX11_tried_72 : (decode cX11_tried 72 = .ok (.aload_n 0, 1)) ∧ (decode cX11_tried 73 = .ok (.getfield 94, 3)) ∧ (decode cX11_tried 76 = .ok (.iload_n 1, 1)) ∧ (decode cX11_tried 77 = .ok (.iaload, 1)) ∧ (decode cX11_tried 78 = .ok (.ireturn, 1)) ∧ (decode cX11_tried 79 = .ok (.aload_n 0, 1)) ∧ (decode cX11_tried 80 = .ok (.getfield 97, 3)) ∧ (decode cX11_tried 83 = .ok (.iload_n 1, 1)) ∧ (decode cX11_tried 84 = .ok (.iaload, 1)) ∧ (decode cX11_tried 85 = .ok (.ireturn, 1)) ∧ (decode cX11_tried 86 = .ok (.aload_n 0, 1)) ∧ (decode cX11_tried 87 = .ok (.getfield 100, 3)) := by decide +kernel
theorem dX11_tried_72 : decode cX11_tried 72 = .ok (.aload_n 0, 1) := dG_dX11_tried_72.1
theorem dX11_tried_73 : decode cX11_tried 73 = .ok (.getfield 94, 3) := dG_dX11_tried_72.2.1
theorem dX11_tried_76 : decode cX11_tried 76 = .ok (.iload_n 1, 1) := dG_dX11_tried_72.2.2.1
theorem dX11_tried_77 : decode cX11_tried 77 = .ok (.iaload, 1) := dG_dX11_tried_72.2.2.2.1
theorem dX11_tried_78 : decode cX11_tried 78 = .ok (.ireturn, 1) := dG_dX11_tried_72.2.2.2.2.1
theorem dX11_tried_79 : decode cX11_tried 79 = .ok (.aload_n 0, 1) := dG_dX11_tried_72.2.2.2.2.2.1
theorem dX11_tried_80 : decode cX11_tried 80 = .ok (.getfield 97, 3) := dG_dX11_tried_72.2.2.2.2.2.2.1
theorem dX11_tried_83 : decode cX11_tried 83 = .ok (.iload_n 1, 1) := dG_dX11_tried_72.2.2.2.2.2.2.2.1
theorem dX11_tried_84 : decode cX11_tried 84 = .ok (.iaload, 1) := dG_dX11_tried_72.2.2.2.2.2.2.2.2.1
theorem dX11_tried_85 : decode cX11_tried 85 = .ok (.ireturn, 1) := dG_dX11_tried_72.2.2.2.2.2.2.2.2.2.1
theorem dX11_tried_86 : decode cX11_tried 86 = .ok (.aload_n 0, 1) := dG_dX11_tried_72.2.2.2.2.2.2.2.2.2.2.1
theorem dX11_tried_87 : decode cX11_tried 87 = .ok (.getfield 100, 3) := dG_dX11_tried_72.2.2.2.2.2.2.2.2.2.2.2
theorem dG_dX11_tried_90 : (decode cX11_tried 90 = .ok (.iload_n 1, 1)) ∧ (decode cX11_tried 91 = .ok (.iaload, 1)) ∧ (decode cX11_tried 92 = .ok (.ireturn, 1)) ∧ (decode cX11_tried 93 = .ok (.aload_n 0, 1)) ∧ (decode cX11_tried 94 = .ok (.getfield 103, 3)) ∧ (decode cX11_tried 97 = .ok (.iload_n 1, 1)) ∧ (decode cX11_tried 98 = .ok (.iaload, 1)) ∧ (decode cX11_tried 99 = .ok (.ireturn, 1)) ∧ (decode cX11_tried 100 = .ok (.aload_n 0, 1)) ∧ (decode cX11_tried 101 = .ok (.getfield 106, 3)) ∧ (decode cX11_tried 104 = .ok (.iload_n 1, 1)) ∧ (decode cX11_tried 105 = .ok (.iaload, 1)) := by decide +kernel
theorem dX11_tried_90 : decode cX11_tried 90 = .ok (.iload_n 1, 1) := dG_dX11_tried_90.1
theorem dX11_tried_91 : decode cX11_tried 91 = .ok (.iaload, 1) := dG_dX11_tried_90.2.1
theorem dX11_tried_92 : decode cX11_tried 92 = .ok (.ireturn, 1) := dG_dX11_tried_90.2.2.1
theorem dX11_tried_93 : decode cX11_tried 93 = .ok (.aload_n 0, 1) := dG_dX11_tried_90.2.2.2.1
theorem dX11_tried_94 : decode cX11_tried 94 = .ok (.getfield 103, 3) := dG_dX11_tried_90.2.2.2.2.1
theorem dX11_tried_97 : decode cX11_tried 97 = .ok (.iload_n 1, 1) := dG_dX11_tried_90.2.2.2.2.2.1
theorem dX11_tried_98 : decode cX11_tried 98 = .ok (.iaload, 1) := dG_dX11_tried_90.2.2.2.2.2.2.1
theorem dX11_tried_99 : decode cX11_tried 99 = .ok (.ireturn, 1) := dG_dX11_tried_90.2.2.2.2.2.2.2.1
theorem dX11_tried_100 : decode cX11_tried 100 = .ok (.aload_n 0, 1) := dG_dX11_tried_90.2.2.2.2.2.2.2.2.1
theorem dX11_tried_101 : decode cX11_tried 101 = .ok (.getfield 106, 3) := dG_dX11_tried_90.2.2.2.2.2.2.2.2.2.1
theorem dX11_tried_104 : decode cX11_tried 104 = .ok (.iload_n 1, 1) := dG_dX11_tried_90.2.2.2.2.2.2.2.2.2.2.1
theorem dX11_tried_105 : decode cX11_tried 105 = .ok (.iaload, 1) := dG_dX11_tried_90.2.2.2.2.2.2.2.2.2.2.2
theorem dG_dX11_tried_106 : (decode cX11_tried 106 = .ok (.ireturn, 1)) ∧ (decode cX11_tried 107 = .ok (.aload_n 0, 1)) ∧ (decode cX11_tried 108 = .ok (.getfield 109, 3)) ∧ (decode cX11_tried 111 = .ok (.iload_n 1, 1)) ∧ (decode cX11_tried 112 = .ok (.iaload, 1)) ∧ (decode cX11_tried 113 = .ok (.ireturn, 1)) ∧ (decode cX11_tried 114 = .ok (.aload_n 0, 1)) ∧ (decode cX11_tried 115 = .ok (.getfield 112, 3)) ∧ (decode cX11_tried 118 = .ok (.iload_n 1, 1)) ∧ (decode cX11_tried 119 = .ok (.iaload, 1)) ∧ (decode cX11_tried 120 = .ok (.ireturn, 1)) ∧ (decode cX11_tried 121 = .ok (.aload_n 0, 1)) := by decide +kernel
theorem dX11_tried_106 : decode cX11_tried 106 = .ok (.ireturn, 1) := dG_dX11_tried_106.1
theorem dX11_tried_107 : decode cX11_tried 107 = .ok (.aload_n 0, 1) := dG_dX11_tried_106.2.1
theorem dX11_tried_108 : decode cX11_tried 108 = .ok (.getfield 109, 3) := dG_dX11_tried_106.2.2.1
theorem dX11_tried_111 : decode cX11_tried 111 = .ok (.iload_n 1, 1) := dG_dX11_tried_106.2.2.2.1
theorem dX11_tried_112 : decode cX11_tried 112 = .ok (.iaload, 1) := dG_dX11_tried_106.2.2.2.2.1
theorem dX11_tried_113 : decode cX11_tried 113 = .ok (.ireturn, 1) := dG_dX11_tried_106.2.2.2.2.2.1
theorem dX11_tried_114 : decode cX11_tried 114 = .ok (.aload_n 0, 1) := dG_dX11_tried_106.2.2.2.2.2.2.1
theorem dX11_tried_115 : decode cX11_tried 115 = .ok (.getfield 112, 3) := dG_dX11_tried_106.2.2.2.2.2.2.2.1
theorem dX11_tried_118 : decode cX11_tried 118 = .ok (.iload_n 1, 1) := dG_dX11_tried_106.2.2.2.2.2.2.2.2.1
theorem dX11_tried_119 : decode cX11_tried 119 = .ok (.iaload, 1) := dG_dX11_tried_106.2.2.2.2.2.2.2.2.2.1
theorem dX11_tried_120 : decode cX11_tried 120 = .ok (.ireturn, 1) := dG_dX11_tried_106.2.2.2.2.2.2.2.2.2.2.1
theorem dX11_tried_121 : decode cX11_tried 121 = .ok (.aload_n 0, 1) := dG_dX11_tried_106.2.2.2.2.2.2.2.2.2.2.2
theorem dG_dX11_tried_122 : (decode cX11_tried 122 = .ok (.iconst 2, 1)) ∧ (decode cX11_tried 123 = .ok (.invokevirtual 295, 3)) ∧ (decode cX11_tried 126 = .ok (.ireturn, 1)) ∧ (decode cX11_seen 0 = .ok (.aload_n 0, 1)) ∧ (decode cX11_seen 1 = .ok (.iconst 0, 1)) ∧ (decode cX11_seen 2 = .ok (.putfield 146, 3)) ∧ (decode cX11_seen 5 = .ok (.aload_n 0, 1)) ∧ (decode cX11_seen 6 = .ok (.iconst 0, 1)) ∧ (decode cX11_seen 7 = .ok (.putfield 149, 3)) ∧ (decode cX11_seen 10 = .ok (.aload_n 0, 1)) ∧ (decode cX11_seen 11 = .ok (.iload_n 1, 1)) ∧ (decode cX11_seen 12 = .ok (.invokevirtual 349, 3)) := by decide +kernel
theorem dX11_tried_122 : decode cX11_tried 122 = .ok (.iconst 2, 1) := dG_dX11_tried_122.1
theorem dX11_tried_123 : decode cX11_tried 123 = .ok (.invokevirtual 295, 3) := dG_dX11_tried_122.2.1
theorem dX11_tried_126 : decode cX11_tried 126 = .ok (.ireturn, 1) := dG_dX11_tried_122.2.2.1
theorem dX11_seen_0 : decode cX11_seen 0 = .ok (.aload_n 0, 1) := dG_dX11_tried_122.2.2.2.1
theorem dX11_seen_1 : decode cX11_seen 1 = .ok (.iconst 0, 1) := dG_dX11_tried_122.2.2.2.2.1
theorem dX11_seen_2 : decode cX11_seen 2 = .ok (.putfield 146, 3) := dG_dX11_tried_122.2.2.2.2.2.1
theorem dX11_seen_5 : decode cX11_seen 5 = .ok (.aload_n 0, 1) := dG_dX11_tried_122.2.2.2.2.2.2.1
theorem dX11_seen_6 : decode cX11_seen 6 = .ok (.iconst 0, 1) := dG_dX11_tried_122.2.2.2.2.2.2.2.1
theorem dX11_seen_7 : decode cX11_seen 7 = .ok (.putfield 149, 3) := dG_dX11_tried_122.2.2.2.2.2.2.2.2.1
theorem dX11_seen_10 : decode cX11_seen 10 = .ok (.aload_n 0, 1) := dG_dX11_tried_122.2.2.2.2.2.2.2.2.2.1
theorem dX11_seen_11 : decode cX11_seen 11 = .ok (.iload_n 1, 1) := dG_dX11_tried_122.2.2.2.2.2.2.2.2.2.2.1
theorem dX11_seen_12 : decode cX11_seen 12 = .ok (.invokevirtual 349, 3) := dG_dX11_tried_122.2.2.2.2.2.2.2.2.2.2.2
theorem dG_dX11_seen_15 : (decode cX11_seen 15 = .ok (.ifCond .eq 22, 3)) ∧ (decode cX11_seen 18 = .ok (.aload_n 0, 1)) ∧ (decode cX11_seen 19 = .ok (.getfield 82, 3)) ∧ (decode cX11_seen 22 = .ok (.ifCond .lt 15, 3)) ∧ (decode cX11_seen 25 = .ok (.aload_n 0, 1)) ∧ (decode cX11_seen 26 = .ok (.aload_n 0, 1)) ∧ (decode cX11_seen 27 = .ok (.getfield 82, 3)) ∧ (decode cX11_seen 30 = .ok (.iload_n 2, 1)) ∧ (decode cX11_seen 31 = .ok (.invokevirtual 328, 3)) ∧ (decode cX11_seen 34 = .ok (.ifCond .ne 9, 3)) ∧ (decode cX11_seen 37 = .ok (.aload_n 0, 1)) ∧ (decode cX11_seen 38 = .ok (.iconst 1, 1)) := by decide +kernel
theorem dX11_seen_15 : decode cX11_seen 15 = .ok (.ifCond .eq 22, 3) := dG_dX11_seen_15.1
theorem dX11_seen_18 : decode cX11_seen 18 = .ok (.aload_n 0, 1) := dG_dX11_seen_15.2.1
theorem dX11_seen_19 : decode cX11_seen 19 = .ok (.getfield 82, 3) := dG_dX11_seen_15.2.2.1
theorem dX11_seen_22 : decode cX11_seen 22 = .ok (.ifCond .lt 15, 3) := dG_dX11_seen_15.2.2.2.1
theorem dX11_seen_25 : decode cX11_seen 25 = .ok (.aload_n 0, 1) := dG_dX11_seen_15.2.2.2.2.1
theorem dX11_seen_26 : decode cX11_seen 26 = .ok (.aload_n 0, 1) := dG_dX11_seen_15.2.2.2.2.2.1
theorem dX11_seen_27 : decode cX11_seen 27 = .ok (.getfield 82, 3) := dG_dX11_seen_15.2.2.2.2.2.2.1
theorem dX11_seen_30 : decode cX11_seen 30 = .ok (.iload_n 2, 1) := dG_dX11_seen_15.2.2.2.2.2.2.2.1
theorem dX11_seen_31 : decode cX11_seen 31 = .ok (.invokevirtual 328, 3) := dG_dX11_seen_15.2.2.2.2.2.2.2.2.1
theorem dX11_seen_34 : decode cX11_seen 34 = .ok (.ifCond .ne 9, 3) := dG_dX11_seen_15.2.2.2.2.2.2.2.2.2.1
theorem dX11_seen_37 : decode cX11_seen 37 = .ok (.aload_n 0, 1) := dG_dX11_seen_15.2.2.2.2.2.2.2.2.2.2.1
theorem dX11_seen_38 : decode cX11_seen 38 = .ok (.iconst 1, 1) := dG_dX11_seen_15.2.2.2.2.2.2.2.2.2.2.2
theorem dG_dX11_seen_39 : (decode cX11_seen 39 = .ok (.invokevirtual 295, 3)) ∧ (decode cX11_seen 42 = .ok (.ireturn, 1)) ∧ (decode cX11_seen 43 = .ok (.aload_n 0, 1)) ∧ (decode cX11_seen 44 = .ok (.iload_n 1, 1)) ∧ (decode cX11_seen 45 = .ok (.iload_n 2, 1)) ∧ (decode cX11_seen 46 = .ok (.invokevirtual 358, 3)) ∧ (decode cX11_seen 49 = .ok (.ifCond .eq 7, 3)) ∧ (decode cX11_seen 52 = .ok (.iconst 1, 1)) ∧ (decode cX11_seen 53 = .ok (.goto 4, 3)) ∧ (decode cX11_seen 56 = .ok (.iconst 0, 1)) ∧ (decode cX11_seen 57 = .ok (.ireturn, 1)) ∧ (decode cX11_ready 0 = .ok (.aload_n 0, 1)) := by decide +kernel
theorem dX11_seen_39 : decode cX11_seen 39 = .ok (.invokevirtual 295, 3) := dG_dX11_seen_39.1
theorem dX11_seen_42 : decode cX11_seen 42 = .ok (.ireturn, 1) := dG_dX11_seen_39.2.1
theorem dX11_seen_43 : decode cX11_seen 43 = .ok (.aload_n 0, 1) := dG_dX11_seen_39.2.2.1
theorem dX11_seen_44 : decode cX11_seen 44 = .ok (.iload_n 1, 1) := dG_dX11_seen_39.2.2.2.1
theorem dX11_seen_45 : decode cX11_seen 45 = .ok (.iload_n 2, 1) := dG_dX11_seen_39.2.2.2.2.1
theorem dX11_seen_46 : decode cX11_seen 46 = .ok (.invokevirtual 358, 3) := dG_dX11_seen_39.2.2.2.2.2.1
theorem dX11_seen_49 : decode cX11_seen 49 = .ok (.ifCond .eq 7, 3) := dG_dX11_seen_39.2.2.2.2.2.2.1
theorem dX11_seen_52 : decode cX11_seen 52 = .ok (.iconst 1, 1) := dG_dX11_seen_39.2.2.2.2.2.2.2.1
theorem dX11_seen_53 : decode cX11_seen 53 = .ok (.goto 4, 3) := dG_dX11_seen_39.2.2.2.2.2.2.2.2.1
theorem dX11_seen_56 : decode cX11_seen 56 = .ok (.iconst 0, 1) := dG_dX11_seen_39.2.2.2.2.2.2.2.2.2.1
theorem dX11_seen_57 : decode cX11_seen 57 = .ok (.ireturn, 1) := dG_dX11_seen_39.2.2.2.2.2.2.2.2.2.2.1
theorem dX11_ready_0 : decode cX11_ready 0 = .ok (.aload_n 0, 1) := dG_dX11_seen_39.2.2.2.2.2.2.2.2.2.2.2
theorem dG_dX11_ready_1 : (decode cX11_ready 1 = .ok (.iconst 0, 1)) ∧ (decode cX11_ready 2 = .ok (.putfield 146, 3)) ∧ (decode cX11_ready 5 = .ok (.aload_n 0, 1)) ∧ (decode cX11_ready 6 = .ok (.iconst 0, 1)) ∧ (decode cX11_ready 7 = .ok (.putfield 149, 3)) ∧ (decode cX11_ready 10 = .ok (.aload_n 0, 1)) ∧ (decode cX11_ready 11 = .ok (.iload_n 1, 1)) ∧ (decode cX11_ready 12 = .ok (.invokevirtual 349, 3)) ∧ (decode cX11_ready 15 = .ok (.ifCond .ne 9, 3)) ∧ (decode cX11_ready 18 = .ok (.aload_n 0, 1)) ∧ (decode cX11_ready 19 = .ok (.iconst 1, 1)) ∧ (decode cX11_ready 20 = .ok (.invokevirtual 295, 3)) := by decide +kernel
theorem dX11_ready_1 : decode cX11_ready 1 = .ok (.iconst 0, 1) := dG_dX11_ready_1.1
theorem dX11_ready_2 : decode cX11_ready 2 = .ok (.putfield 146, 3) := dG_dX11_ready_1.2.1
theorem dX11_ready_5 : decode cX11_ready 5 = .ok (.aload_n 0, 1) := dG_dX11_ready_1.2.2.1
theorem dX11_ready_6 : decode cX11_ready 6 = .ok (.iconst 0, 1) := dG_dX11_ready_1.2.2.2.1
theorem dX11_ready_7 : decode cX11_ready 7 = .ok (.putfield 149, 3) := dG_dX11_ready_1.2.2.2.2.1
theorem dX11_ready_10 : decode cX11_ready 10 = .ok (.aload_n 0, 1) := dG_dX11_ready_1.2.2.2.2.2.1
theorem dX11_ready_11 : decode cX11_ready 11 = .ok (.iload_n 1, 1) := dG_dX11_ready_1.2.2.2.2.2.2.1
theorem dX11_ready_12 : decode cX11_ready 12 = .ok (.invokevirtual 349, 3) := dG_dX11_ready_1.2.2.2.2.2.2.2.1
theorem dX11_ready_15 : decode cX11_ready 15 = .ok (.ifCond .ne 9, 3) := dG_dX11_ready_1.2.2.2.2.2.2.2.2.1
theorem dX11_ready_18 : decode cX11_ready 18 = .ok (.aload_n 0, 1) := dG_dX11_ready_1.2.2.2.2.2.2.2.2.2.1
theorem dX11_ready_19 : decode cX11_ready 19 = .ok (.iconst 1, 1) := dG_dX11_ready_1.2.2.2.2.2.2.2.2.2.2.1
theorem dX11_ready_20 : decode cX11_ready 20 = .ok (.invokevirtual 295, 3) := dG_dX11_ready_1.2.2.2.2.2.2.2.2.2.2.2
theorem dG_dX11_ready_23 : (decode cX11_ready 23 = .ok (.ireturn, 1)) ∧ (decode cX11_ready 24 = .ok (.aload_n 0, 1)) ∧ (decode cX11_ready 25 = .ok (.iload_n 1, 1)) ∧ (decode cX11_ready 26 = .ok (.invokevirtual 355, 3)) ∧ (decode cX11_ready 29 = .ok (.ifCond .lt 9, 3)) ∧ (decode cX11_ready 32 = .ok (.aload_n 0, 1)) ∧ (decode cX11_ready 33 = .ok (.iconst 5, 1)) ∧ (decode cX11_ready 34 = .ok (.invokevirtual 295, 3)) ∧ (decode cX11_ready 37 = .ok (.ireturn, 1)) ∧ (decode cX11_ready 38 = .ok (.aload_n 0, 1)) ∧ (decode cX11_ready 39 = .ok (.getfield 316, 3)) ∧ (decode cX11_ready 42 = .ok (.aload_n 0, 1)) := by decide +kernel
theorem dX11_ready_23 : decode cX11_ready 23 = .ok (.ireturn, 1) := dG_dX11_ready_23.1
theorem dX11_ready_24 : decode cX11_ready 24 = .ok (.aload_n 0, 1) := dG_dX11_ready_23.2.1
theorem dX11_ready_25 : decode cX11_ready 25 = .ok (.iload_n 1, 1) := dG_dX11_ready_23.2.2.1
theorem dX11_ready_26 : decode cX11_ready 26 = .ok (.invokevirtual 355, 3) := dG_dX11_ready_23.2.2.2.1
theorem dX11_ready_29 : decode cX11_ready 29 = .ok (.ifCond .lt 9, 3) := dG_dX11_ready_23.2.2.2.2.1
theorem dX11_ready_32 : decode cX11_ready 32 = .ok (.aload_n 0, 1) := dG_dX11_ready_23.2.2.2.2.2.1
theorem dX11_ready_33 : decode cX11_ready 33 = .ok (.iconst 5, 1) := dG_dX11_ready_23.2.2.2.2.2.2.1
theorem dX11_ready_34 : decode cX11_ready 34 = .ok (.invokevirtual 295, 3) := dG_dX11_ready_23.2.2.2.2.2.2.2.1
theorem dX11_ready_37 : decode cX11_ready 37 = .ok (.ireturn, 1) := dG_dX11_ready_23.2.2.2.2.2.2.2.2.1
theorem dX11_ready_38 : decode cX11_ready 38 = .ok (.aload_n 0, 1) := dG_dX11_ready_23.2.2.2.2.2.2.2.2.2.1
theorem dX11_ready_39 : decode cX11_ready 39 = .ok (.getfield 316, 3) := dG_dX11_ready_23.2.2.2.2.2.2.2.2.2.2.1
theorem dX11_ready_42 : decode cX11_ready 42 = .ok (.aload_n 0, 1) := dG_dX11_ready_23.2.2.2.2.2.2.2.2.2.2.2
theorem dG_dX11_ready_43 : (decode cX11_ready 43 = .ok (.iload_n 1, 1)) ∧ (decode cX11_ready 44 = .ok (.invokevirtual 361, 3)) ∧ (decode cX11_ready 47 = .ok (.invokestatic 341, 3)) ∧ (decode cX11_ready 50 = .ok (.ireturn, 1)) ∧ (decode cX11_appeal 0 = .ok (.aload_n 0, 1)) ∧ (decode cX11_appeal 1 = .ok (.iconst 0, 1)) ∧ (decode cX11_appeal 2 = .ok (.putfield 146, 3)) ∧ (decode cX11_appeal 5 = .ok (.aload_n 0, 1)) ∧ (decode cX11_appeal 6 = .ok (.iconst 0, 1)) ∧ (decode cX11_appeal 7 = .ok (.putfield 149, 3)) ∧ (decode cX11_appeal 10 = .ok (.iload_n 1, 1)) ∧ (decode cX11_appeal 11 = .ok (.ifCond .lt 11, 3)) := by decide +kernel
theorem dX11_ready_43 : decode cX11_ready 43 = .ok (.iload_n 1, 1) := dG_dX11_ready_43.1
theorem dX11_ready_44 : decode cX11_ready 44 = .ok (.invokevirtual 361, 3) := dG_dX11_ready_43.2.1
theorem dX11_ready_47 : decode cX11_ready 47 = .ok (.invokestatic 341, 3) := dG_dX11_ready_43.2.2.1
theorem dX11_ready_50 : decode cX11_ready 50 = .ok (.ireturn, 1) := dG_dX11_ready_43.2.2.2.1
theorem dX11_appeal_0 : decode cX11_appeal 0 = .ok (.aload_n 0, 1) := dG_dX11_ready_43.2.2.2.2.1
theorem dX11_appeal_1 : decode cX11_appeal 1 = .ok (.iconst 0, 1) := dG_dX11_ready_43.2.2.2.2.2.1
theorem dX11_appeal_2 : decode cX11_appeal 2 = .ok (.putfield 146, 3) := dG_dX11_ready_43.2.2.2.2.2.2.1
theorem dX11_appeal_5 : decode cX11_appeal 5 = .ok (.aload_n 0, 1) := dG_dX11_ready_43.2.2.2.2.2.2.2.1
theorem dX11_appeal_6 : decode cX11_appeal 6 = .ok (.iconst 0, 1) := dG_dX11_ready_43.2.2.2.2.2.2.2.2.1
theorem dX11_appeal_7 : decode cX11_appeal 7 = .ok (.putfield 149, 3) := dG_dX11_ready_43.2.2.2.2.2.2.2.2.2.1
theorem dX11_appeal_10 : decode cX11_appeal 10 = .ok (.iload_n 1, 1) := dG_dX11_ready_43.2.2.2.2.2.2.2.2.2.2.1
theorem dX11_appeal_11 : decode cX11_appeal 11 = .ok (.ifCond .lt 11, 3) := dG_dX11_ready_43.2.2.2.2.2.2.2.2.2.2.2
theorem dG_dX11_appeal_14 : (decode cX11_appeal 14 = .ok (.iload_n 1, 1)) ∧ (decode cX11_appeal 15 = .ok (.aload_n 0, 1)) ∧ (decode cX11_appeal 16 = .ok (.getfield 319, 3)) ∧ (decode cX11_appeal 19 = .ok (.if_icmp .lt 9, 3)) ∧ (decode cX11_appeal 22 = .ok (.aload_n 0, 1)) ∧ (decode cX11_appeal 23 = .ok (.iconst 1, 1)) ∧ (decode cX11_appeal 24 = .ok (.invokevirtual 332, 3)) ∧ (decode cX11_appeal 27 = .ok (.ireturn, 1)) ∧ (decode cX11_appeal 28 = .ok (.iload_n 2, 1)) ∧ (decode cX11_appeal 29 = .ok (.ifCond .lt 34, 3)) ∧ (decode cX11_appeal 32 = .ok (.iload_n 2, 1)) ∧ (decode cX11_appeal 33 = .ok (.aload_n 0, 1)) := by decide +kernel
theorem dX11_appeal_14 : decode cX11_appeal 14 = .ok (.iload_n 1, 1) := dG_dX11_appeal_14.1
theorem dX11_appeal_15 : decode cX11_appeal 15 = .ok (.aload_n 0, 1) := dG_dX11_appeal_14.2.1
theorem dX11_appeal_16 : decode cX11_appeal 16 = .ok (.getfield 319, 3) := dG_dX11_appeal_14.2.2.1
theorem dX11_appeal_19 : decode cX11_appeal 19 = .ok (.if_icmp .lt 9, 3) := dG_dX11_appeal_14.2.2.2.1
theorem dX11_appeal_22 : decode cX11_appeal 22 = .ok (.aload_n 0, 1) := dG_dX11_appeal_14.2.2.2.2.1
theorem dX11_appeal_23 : decode cX11_appeal 23 = .ok (.iconst 1, 1) := dG_dX11_appeal_14.2.2.2.2.2.1
theorem dX11_appeal_24 : decode cX11_appeal 24 = .ok (.invokevirtual 332, 3) := dG_dX11_appeal_14.2.2.2.2.2.2.1
theorem dX11_appeal_27 : decode cX11_appeal 27 = .ok (.ireturn, 1) := dG_dX11_appeal_14.2.2.2.2.2.2.2.1
theorem dX11_appeal_28 : decode cX11_appeal 28 = .ok (.iload_n 2, 1) := dG_dX11_appeal_14.2.2.2.2.2.2.2.2.1
theorem dX11_appeal_29 : decode cX11_appeal 29 = .ok (.ifCond .lt 34, 3) := dG_dX11_appeal_14.2.2.2.2.2.2.2.2.2.1
theorem dX11_appeal_32 : decode cX11_appeal 32 = .ok (.iload_n 2, 1) := dG_dX11_appeal_14.2.2.2.2.2.2.2.2.2.2.1
theorem dX11_appeal_33 : decode cX11_appeal 33 = .ok (.aload_n 0, 1) := dG_dX11_appeal_14.2.2.2.2.2.2.2.2.2.2.2
theorem dG_dX11_appeal_34 : (decode cX11_appeal 34 = .ok (.getfield 73, 3)) ∧ (decode cX11_appeal 37 = .ok (.aload_n 0, 1)) ∧ (decode cX11_appeal 38 = .ok (.getfield 97, 3)) ∧ (decode cX11_appeal 41 = .ok (.iload_n 1, 1)) ∧ (decode cX11_appeal 42 = .ok (.iaload, 1)) ∧ (decode cX11_appeal 43 = .ok (.aload_n 0, 1)) ∧ (decode cX11_appeal 44 = .ok (.getfield 100, 3)) ∧ (decode cX11_appeal 47 = .ok (.iload_n 1, 1)) ∧ (decode cX11_appeal 48 = .ok (.iaload, 1)) ∧ (decode cX11_appeal 49 = .ok (.invokestatic 335, 3)) ∧ (decode cX11_appeal 52 = .ok (.iaload, 1)) ∧ (decode cX11_appeal 53 = .ok (.if_icmp .gt 10, 3)) := by decide +kernel
theorem dX11_appeal_34 : decode cX11_appeal 34 = .ok (.getfield 73, 3) := dG_dX11_appeal_34.1
theorem dX11_appeal_37 : decode cX11_appeal 37 = .ok (.aload_n 0, 1) := dG_dX11_appeal_34.2.1
theorem dX11_appeal_38 : decode cX11_appeal 38 = .ok (.getfield 97, 3) := dG_dX11_appeal_34.2.2.1
theorem dX11_appeal_41 : decode cX11_appeal 41 = .ok (.iload_n 1, 1) := dG_dX11_appeal_34.2.2.2.1
theorem dX11_appeal_42 : decode cX11_appeal 42 = .ok (.iaload, 1) := dG_dX11_appeal_34.2.2.2.2.1
theorem dX11_appeal_43 : decode cX11_appeal 43 = .ok (.aload_n 0, 1) := dG_dX11_appeal_34.2.2.2.2.2.1
theorem dX11_appeal_44 : decode cX11_appeal 44 = .ok (.getfield 100, 3) := dG_dX11_appeal_34.2.2.2.2.2.2.1
theorem dX11_appeal_47 : decode cX11_appeal 47 = .ok (.iload_n 1, 1) := dG_dX11_appeal_34.2.2.2.2.2.2.2.1
theorem dX11_appeal_48 : decode cX11_appeal 48 = .ok (.iaload, 1) := dG_dX11_appeal_34.2.2.2.2.2.2.2.2.1
theorem dX11_appeal_49 : decode cX11_appeal 49 = .ok (.invokestatic 335, 3) := dG_dX11_appeal_34.2.2.2.2.2.2.2.2.2.1
theorem dX11_appeal_52 : decode cX11_appeal 52 = .ok (.iaload, 1) := dG_dX11_appeal_34.2.2.2.2.2.2.2.2.2.2.1
theorem dX11_appeal_53 : decode cX11_appeal 53 = .ok (.if_icmp .gt 10, 3) := dG_dX11_appeal_34.2.2.2.2.2.2.2.2.2.2.2
theorem dG_dX11_appeal_56 : (decode cX11_appeal 56 = .ok (.iload_n 3, 1)) ∧ (decode cX11_appeal 57 = .ok (.invokestatic 364, 3)) ∧ (decode cX11_appeal 60 = .ok (.ifCond .ne 9, 3)) ∧ (decode cX11_appeal 63 = .ok (.aload_n 0, 1)) ∧ (decode cX11_appeal 64 = .ok (.iconst 2, 1)) ∧ (decode cX11_appeal 65 = .ok (.invokevirtual 332, 3)) ∧ (decode cX11_appeal 68 = .ok (.ireturn, 1)) ∧ (decode cX11_appeal 69 = .ok (.aload_n 0, 1)) ∧ (decode cX11_appeal 70 = .ok (.getfield 112, 3)) ∧ (decode cX11_appeal 73 = .ok (.iload_n 1, 1)) ∧ (decode cX11_appeal 74 = .ok (.iaload, 1)) ∧ (decode cX11_appeal 75 = .ok (.ifCond .eq 13, 3)) := by decide +kernel
theorem dX11_appeal_56 : decode cX11_appeal 56 = .ok (.iload_n 3, 1) := dG_dX11_appeal_56.1
theorem dX11_appeal_57 : decode cX11_appeal 57 = .ok (.invokestatic 364, 3) := dG_dX11_appeal_56.2.1
theorem dX11_appeal_60 : decode cX11_appeal 60 = .ok (.ifCond .ne 9, 3) := dG_dX11_appeal_56.2.2.1
theorem dX11_appeal_63 : decode cX11_appeal 63 = .ok (.aload_n 0, 1) := dG_dX11_appeal_56.2.2.2.1
theorem dX11_appeal_64 : decode cX11_appeal 64 = .ok (.iconst 2, 1) := dG_dX11_appeal_56.2.2.2.2.1
theorem dX11_appeal_65 : decode cX11_appeal 65 = .ok (.invokevirtual 332, 3) := dG_dX11_appeal_56.2.2.2.2.2.1
theorem dX11_appeal_68 : decode cX11_appeal 68 = .ok (.ireturn, 1) := dG_dX11_appeal_56.2.2.2.2.2.2.1
theorem dX11_appeal_69 : decode cX11_appeal 69 = .ok (.aload_n 0, 1) := dG_dX11_appeal_56.2.2.2.2.2.2.2.1
theorem dX11_appeal_70 : decode cX11_appeal 70 = .ok (.getfield 112, 3) := dG_dX11_appeal_56.2.2.2.2.2.2.2.2.1
theorem dX11_appeal_73 : decode cX11_appeal 73 = .ok (.iload_n 1, 1) := dG_dX11_appeal_56.2.2.2.2.2.2.2.2.2.1
theorem dX11_appeal_74 : decode cX11_appeal 74 = .ok (.iaload, 1) := dG_dX11_appeal_56.2.2.2.2.2.2.2.2.2.2.1
theorem dX11_appeal_75 : decode cX11_appeal 75 = .ok (.ifCond .eq 13, 3) := dG_dX11_appeal_56.2.2.2.2.2.2.2.2.2.2.2
theorem dG_dX11_appeal_78 : (decode cX11_appeal 78 = .ok (.aload_n 0, 1)) ∧ (decode cX11_appeal 79 = .ok (.getfield 112, 3)) ∧ (decode cX11_appeal 82 = .ok (.iload_n 1, 1)) ∧ (decode cX11_appeal 83 = .ok (.iaload, 1)) ∧ (decode cX11_appeal 84 = .ok (.iconst 4, 1)) ∧ (decode cX11_appeal 85 = .ok (.if_icmp .ne 10, 3)) ∧ (decode cX11_appeal 88 = .ok (.aload_n 0, 1)) ∧ (decode cX11_appeal 89 = .ok (.bipush 10, 2)) ∧ (decode cX11_appeal 91 = .ok (.invokevirtual 332, 3)) ∧ (decode cX11_appeal 94 = .ok (.ireturn, 1)) ∧ (decode cX11_appeal 95 = .ok (.aload_n 0, 1)) ∧ (decode cX11_appeal 96 = .ok (.getfield 322, 3)) := by decide +kernel
theorem dX11_appeal_78 : decode cX11_appeal 78 = .ok (.aload_n 0, 1) := dG_dX11_appeal_78.1
theorem dX11_appeal_79 : decode cX11_appeal 79 = .ok (.getfield 112, 3) := dG_dX11_appeal_78.2.1
theorem dX11_appeal_82 : decode cX11_appeal 82 = .ok (.iload_n 1, 1) := dG_dX11_appeal_78.2.2.1
theorem dX11_appeal_83 : decode cX11_appeal 83 = .ok (.iaload, 1) := dG_dX11_appeal_78.2.2.2.1
theorem dX11_appeal_84 : decode cX11_appeal 84 = .ok (.iconst 4, 1) := dG_dX11_appeal_78.2.2.2.2.1
theorem dX11_appeal_85 : decode cX11_appeal 85 = .ok (.if_icmp .ne 10, 3) := dG_dX11_appeal_78.2.2.2.2.2.1
theorem dX11_appeal_88 : decode cX11_appeal 88 = .ok (.aload_n 0, 1) := dG_dX11_appeal_78.2.2.2.2.2.2.1
theorem dX11_appeal_89 : decode cX11_appeal 89 = .ok (.bipush 10, 2) := dG_dX11_appeal_78.2.2.2.2.2.2.2.1
theorem dX11_appeal_91 : decode cX11_appeal 91 = .ok (.invokevirtual 332, 3) := dG_dX11_appeal_78.2.2.2.2.2.2.2.2.1
theorem dX11_appeal_94 : decode cX11_appeal 94 = .ok (.ireturn, 1) := dG_dX11_appeal_78.2.2.2.2.2.2.2.2.2.1
theorem dX11_appeal_95 : decode cX11_appeal 95 = .ok (.aload_n 0, 1) := dG_dX11_appeal_78.2.2.2.2.2.2.2.2.2.2.1
theorem dX11_appeal_96 : decode cX11_appeal 96 = .ok (.getfield 322, 3) := dG_dX11_appeal_78.2.2.2.2.2.2.2.2.2.2.2
theorem dG_dX11_appeal_99 : (decode cX11_appeal 99 = .ok (.bipush 40, 2)) ∧ (decode cX11_appeal 101 = .ok (.if_icmp .ne 9, 3)) ∧ (decode cX11_appeal 104 = .ok (.aload_n 0, 1)) ∧ (decode cX11_appeal 105 = .ok (.iconst 3, 1)) ∧ (decode cX11_appeal 106 = .ok (.invokevirtual 332, 3)) ∧ (decode cX11_appeal 109 = .ok (.ireturn, 1)) ∧ (decode cX11_appeal 110 = .ok (.aload_n 0, 1)) ∧ (decode cX11_appeal 111 = .ok (.getfield 115, 3)) ∧ (decode cX11_appeal 114 = .ok (.aload_n 0, 1)) ∧ (decode cX11_appeal 115 = .ok (.getfield 322, 3)) ∧ (decode cX11_appeal 118 = .ok (.iload_n 1, 1)) ∧ (decode cX11_appeal 119 = .ok (.iastore, 1)) := by decide +kernel
theorem dX11_appeal_99 : decode cX11_appeal 99 = .ok (.bipush 40, 2) := dG_dX11_appeal_99.1
theorem dX11_appeal_101 : decode cX11_appeal 101 = .ok (.if_icmp .ne 9, 3) := dG_dX11_appeal_99.2.1
theorem dX11_appeal_104 : decode cX11_appeal 104 = .ok (.aload_n 0, 1) := dG_dX11_appeal_99.2.2.1
theorem dX11_appeal_105 : decode cX11_appeal 105 = .ok (.iconst 3, 1) := dG_dX11_appeal_99.2.2.2.1
theorem dX11_appeal_106 : decode cX11_appeal 106 = .ok (.invokevirtual 332, 3) := dG_dX11_appeal_99.2.2.2.2.1
theorem dX11_appeal_109 : decode cX11_appeal 109 = .ok (.ireturn, 1) := dG_dX11_appeal_99.2.2.2.2.2.1
theorem dX11_appeal_110 : decode cX11_appeal 110 = .ok (.aload_n 0, 1) := dG_dX11_appeal_99.2.2.2.2.2.2.1
theorem dX11_appeal_111 : decode cX11_appeal 111 = .ok (.getfield 115, 3) := dG_dX11_appeal_99.2.2.2.2.2.2.2.1
theorem dX11_appeal_114 : decode cX11_appeal 114 = .ok (.aload_n 0, 1) := dG_dX11_appeal_99.2.2.2.2.2.2.2.2.1
theorem dX11_appeal_115 : decode cX11_appeal 115 = .ok (.getfield 322, 3) := dG_dX11_appeal_99.2.2.2.2.2.2.2.2.2.1
theorem dX11_appeal_118 : decode cX11_appeal 118 = .ok (.iload_n 1, 1) := dG_dX11_appeal_99.2.2.2.2.2.2.2.2.2.2.1
theorem dX11_appeal_119 : decode cX11_appeal 119 = .ok (.iastore, 1) := dG_dX11_appeal_99.2.2.2.2.2.2.2.2.2.2.2
theorem dG_dX11_appeal_120 : (decode cX11_appeal 120 = .ok (.aload_n 0, 1)) ∧ (decode cX11_appeal 121 = .ok (.getfield 118, 3)) ∧ (decode cX11_appeal 124 = .ok (.aload_n 0, 1)) ∧ (decode cX11_appeal 125 = .ok (.getfield 322, 3)) ∧ (decode cX11_appeal 128 = .ok (.iload_n 2, 1)) ∧ (decode cX11_appeal 129 = .ok (.iastore, 1)) ∧ (decode cX11_appeal 130 = .ok (.aload_n 0, 1)) ∧ (decode cX11_appeal 131 = .ok (.getfield 121, 3)) ∧ (decode cX11_appeal 134 = .ok (.aload_n 0, 1)) ∧ (decode cX11_appeal 135 = .ok (.getfield 322, 3)) ∧ (decode cX11_appeal 138 = .ok (.iload_n 3, 1)) ∧ (decode cX11_appeal 139 = .ok (.iastore, 1)) := by decide +kernel
theorem dX11_appeal_120 : decode cX11_appeal 120 = .ok (.aload_n 0, 1) := dG_dX11_appeal_120.1
theorem dX11_appeal_121 : decode cX11_appeal 121 = .ok (.getfield 118, 3) := dG_dX11_appeal_120.2.1
theorem dX11_appeal_124 : decode cX11_appeal 124 = .ok (.aload_n 0, 1) := dG_dX11_appeal_120.2.2.1
theorem dX11_appeal_125 : decode cX11_appeal 125 = .ok (.getfield 322, 3) := dG_dX11_appeal_120.2.2.2.1
theorem dX11_appeal_128 : decode cX11_appeal 128 = .ok (.iload_n 2, 1) := dG_dX11_appeal_120.2.2.2.2.1
theorem dX11_appeal_129 : decode cX11_appeal 129 = .ok (.iastore, 1) := dG_dX11_appeal_120.2.2.2.2.2.1
theorem dX11_appeal_130 : decode cX11_appeal 130 = .ok (.aload_n 0, 1) := dG_dX11_appeal_120.2.2.2.2.2.2.1
theorem dX11_appeal_131 : decode cX11_appeal 131 = .ok (.getfield 121, 3) := dG_dX11_appeal_120.2.2.2.2.2.2.2.1
theorem dX11_appeal_134 : decode cX11_appeal 134 = .ok (.aload_n 0, 1) := dG_dX11_appeal_120.2.2.2.2.2.2.2.2.1
theorem dX11_appeal_135 : decode cX11_appeal 135 = .ok (.getfield 322, 3) := dG_dX11_appeal_120.2.2.2.2.2.2.2.2.2.1
theorem dX11_appeal_138 : decode cX11_appeal 138 = .ok (.iload_n 3, 1) := dG_dX11_appeal_120.2.2.2.2.2.2.2.2.2.2.1
theorem dX11_appeal_139 : decode cX11_appeal 139 = .ok (.iastore, 1) := dG_dX11_appeal_120.2.2.2.2.2.2.2.2.2.2.2
theorem dG_dX11_appeal_140 : (decode cX11_appeal 140 = .ok (.aload_n 0, 1)) ∧ (decode cX11_appeal 141 = .ok (.dup, 1)) ∧ (decode cX11_appeal 142 = .ok (.getfield 322, 3)) ∧ (decode cX11_appeal 145 = .ok (.iconst 1, 1)) ∧ (decode cX11_appeal 146 = .ok (.iadd, 1)) ∧ (decode cX11_appeal 147 = .ok (.putfield 322, 3)) ∧ (decode cX11_appeal 150 = .ok (.iconst 1, 1)) ∧ (decode cX11_appeal 151 = .ok (.ireturn, 1)) := by decide +kernel
theorem dX11_appeal_140 : decode cX11_appeal 140 = .ok (.aload_n 0, 1) := dG_dX11_appeal_140.1
theorem dX11_appeal_141 : decode cX11_appeal 141 = .ok (.dup, 1) := dG_dX11_appeal_140.2.1
theorem dX11_appeal_142 : decode cX11_appeal 142 = .ok (.getfield 322, 3) := dG_dX11_appeal_140.2.2.1
theorem dX11_appeal_145 : decode cX11_appeal 145 = .ok (.iconst 1, 1) := dG_dX11_appeal_140.2.2.2.1
theorem dX11_appeal_146 : decode cX11_appeal 146 = .ok (.iadd, 1) := dG_dX11_appeal_140.2.2.2.2.1
theorem dX11_appeal_147 : decode cX11_appeal 147 = .ok (.putfield 322, 3) := dG_dX11_appeal_140.2.2.2.2.2.1
theorem dX11_appeal_150 : decode cX11_appeal 150 = .ok (.iconst 1, 1) := dG_dX11_appeal_140.2.2.2.2.2.2.1
theorem dX11_appeal_151 : decode cX11_appeal 151 = .ok (.ireturn, 1) := dG_dX11_appeal_140.2.2.2.2.2.2.2
end

section
set_option maxHeartbeats 4000000 in
set_option maxRecDepth 100000 in
theorem y_reach (l : Launch) (D : va_G) (k : Nat → ClassId) (A : Nat → Prop) (ad : Nat → Nat) (hD : mdD A k ad) (v : gV) (f g : gF) (a1 : Int) (a2 : Int) (a3 : Int) (on : Int → Int) (h_a1 : inR a1) (h_a2 : inR a2) (h_a3 : inR a3) (hO : OI (v 25) (f 24) (f 30) on) : GM l D k A (mdT k ad) yX11_reach cX11_reach 7 (some .int) 2 43 [.ref (ad 0), .int (iI a1), .int (iI a2), .int (iI a3)] v f g (fun r v1 f1 g1 => ∃ (z : Int) (w0 : Int), r = some (.int (iI z)) ∧ (va_up (va_up (va_up v 0 w0) 1 0) 24 (if w0 = 1 ∨ w0 = 2 ∨ w0 = 9 then (v 24) else a3)) = v1 ∧ (va_up (va_up (va_up f 28 (if w0 = 1 ∨ w0 = 2 ∨ w0 = 9 then (f 28) else if w0 = 0 ∧ ¬ a2 < (f 18) ((f 25) ((ovO a3 (f 27) (fun k => (f 3) ((f 25) k)) on) a1 - 1) * 5 + (f 26) ((ovO a3 (f 27) (fun k => (f 3) ((f 25) k)) on) a1 - 1)) then u1 (ovE (v 25) a3 (f 30) (f 27) (fun k => (f 3) ((f 25) k)) (f 28)) ((ovO a3 (f 27) (fun k => (f 3) ((f 25) k)) on) a1 - 1) a3 else (ovE (v 25) a3 (f 30) (f 27) (fun k => (f 3) ((f 25) k)) (f 28)))) 29 (if w0 = 0 then u1 (f 29) ((ovO a3 (f 27) (fun k => (f 3) ((f 25) k)) on) a1 - 1) a2 else (f 29))) 30 (if w0 = 1 ∨ w0 = 2 ∨ w0 = 9 then (f 30) else if w0 = 0 ∧ ¬ a2 < (f 18) ((f 25) ((ovO a3 (f 27) (fun k => (f 3) ((f 25) k)) on) a1 - 1) * 5 + (f 26) ((ovO a3 (f 27) (fun k => (f 3) ((f 25) k)) on) a1 - 1)) then u1 (ovH (v 25) a3 (f 30) (f 27) (fun k => (f 3) ((f 25) k))) ((ovO a3 (f 27) (fun k => (f 3) ((f 25) k)) on) a1 - 1) 1 else (ovH (v 25) a3 (f 30) (f 27) (fun k => (f 3) ((f 25) k))))) = f1 ∧ g = g1 ∧ (z = (if w0 ≠ 0 then (-1) else if a2 < (f 18) ((f 25) ((ovO a3 (f 27) (fun k => (f 3) ((f 25) k)) on) a1 - 1) * 5 + (f 26) ((ovO a3 (f 27) (fun k => (f 3) ((f 25) k)) on) a1 - 1)) then 0 else 1)) ∧ ((-1) ≤ z ∧ z ≤ 1) ∧ (w0 = (if ¬ (0 ≤ a1 ∧ a1 < (v 22)) then 1 else if a2 < 1 ∨ 60 < a2 then 2 else if (if a3 < 0 ∨ 1000000 < a3 then (2 : Int) else if a3 < (v 24) then 9 else 0) ≠ 0 then (if a3 < 0 ∨ 1000000 < a3 then (2 : Int) else if a3 < (v 24) then 9 else 0) else if (ovO a3 (f 27) (fun k => (f 3) ((f 25) k)) on) a1 = 0 then 5 else if a2 ≤ (f 29) ((ovO a3 (f 27) (fun k => (f 3) ((f 25) k)) on) a1 - 1) ∨ (f 18) ((f 25) ((ovO a3 (f 27) (fun k => (f 3) ((f 25) k)) on) a1 - 1) * 5 + (f 26) ((ovO a3 (f 27) (fun k => (f 3) ((f 25) k)) on) a1 - 1)) < a2 then 10 else 0))) := by
  refine GM.of (by decide) (Nat.le_of_ble_eq_true rfl) ?_
  intro p e s m args below meth c Q ls hQ C hml hr hlocks hP hl
  have hx := C.1
  have hb := C.2.1
  have hok := hP.2
  have hS : va_S A s.heap s.heap [] := va_S.rf
  have hl : lv_has ls 7 [(0, .ref (ad 0)), (1, .int (iI a1)), (2, .int (iI a2)), (3, .int (iI a3))] := hl
  have hP : gWd D (mdT k ad) (va_up (va_up (va_up v 0 (v 0)) 1 (v 1)) 24 (v 24)) (va_up (va_up (va_up f 28 (f 28)) 29 (f 29)) 30 (f 30)) g s.heap := by rw [va_id, va_id, va_id, va_id, va_id, va_id]; exact hP
  have hwr : ∀ k, 0 ≤ (f 24) k ∧ (f 24) k ≤ 15 := fun k => hok.2 24 k
  have r_1 : 0 ≤ (v 22) ∧ (v 22) ≤ 16 := hok.1 22
  have r_2 : 0 ≤ (v 25) ∧ (v 25) ≤ 300 := hok.1 25
  refine lv_aload_n hx hb dX11_reach_0 rfl (lv_at hl 0 rfl) ?_
  refine lv_iconst (v := iI 0) hx hb dX11_reach_1 rfl ?_
  refine mdP_thrown (v1 := (va_up (va_up (va_up v 0 (v 0)) 1 0) 24 (v 24))) C hP hD hS mF_X11_146 (by decide) rfl (Or.inr (gF_up (V := mdV) (F := mdF) (gF_up (V := mdV) (F := mdF) (gF_up (V := mdV) (F := mdF) (gR_up (V := mdV) (F := mdF) (gR_up (V := mdV) (F := mdF) (gR_up (V := mdV) (F := mdF) ⟨hok.1, hok.2⟩ 0 (hP.2.1 0)) 1 (show 0 ≤ 0 ∧ 0 ≤ 0 from by decide)) 24 (hP.2.1 24)) 28 (hP.2.2 28)) 29 (hP.2.2 29)) 30 (hP.2.2 30))) dX11_reach_2 (fun H locs hP hS => ?_)
  refine lv_aload_n hx hb dX11_reach_5 rfl (lv_at hl 0 rfl) ?_
  refine lv_iconst (v := iI 0) hx hb dX11_reach_6 rfl ?_
  refine mdP_status (v1 := (va_up (va_up (va_up v 0 0) 1 0) 24 (v 24))) C hP hD hS mF_X11_149 (by decide) rfl (Or.inr (gF_up (V := mdV) (F := mdF) (gF_up (V := mdV) (F := mdF) (gF_up (V := mdV) (F := mdF) (gR_up (V := mdV) (F := mdF) (gR_up (V := mdV) (F := mdF) (gR_up (V := mdV) (F := mdF) ⟨hok.1, hok.2⟩ 0 (show 0 ≤ 0 ∧ 0 ≤ 10 from by decide)) 1 (hP.2.1 1)) 24 (hP.2.1 24)) 28 (hP.2.2 28)) 29 (hP.2.2 29)) 30 (hP.2.2 30))) dX11_reach_7 (fun H locs hP hS => ?_)
  refine lv_aload_n hx hb dX11_reach_10 rfl (lv_at hl 0 rfl) ?_
  refine lv_iload_n hx hb dX11_reach_11 rfl (lv_at hl 1 rfl) ?_
  refine g_cv (As := [.int (iI a1)]) (rest := []) (n := 1) C hml (m_X11_isClimber l D k A ad hD (va_up (va_up (va_up v 0 0) 1 0) 24 (v 24)) (va_up (va_up (va_up f 28 (f 28)) 29 (f 29)) 30 (f 30)) g a1 (by omega)) mM_X11_349 mI_X11_isClimber mE_X11_isClimber mN_X11 mC_X11_isClimber (by decide +kernel) 0 (ci := 11) rfl rfl hP hS (fun _ h => h) ⟨Nat.le_of_ble_eq_true rfl, Nat.le_of_ble_eq_true rfl⟩ ⟨Nat.zero_le _, Nat.zero_le _⟩ hl.1 rfl rfl (Nat.le_of_ble_eq_true rfl) dX11_reach_12 (fun r_3 v_3 f_3 g_3 H locs hq_3 hP _ hS => ?_)
  obtain ⟨z_3, rfl, rfl, rfl, rfl, p0_3, p1_3⟩ := hq_3
  show W p l e (gRm 2 43) s m args below meth c _ _ 0 0 Q (F0 m 15 ls [.int (iI z_3)])
  replace p0_3 : z_3 = (if 0 ≤ a1 ∧ a1 < (v 22) then 1 else 0) := p0_3
  have w_3 := gif (P := 0 ≤ a1 ∧ a1 < (v 22)) p0_3
  clear p0_3
  replace p1_3 : z_3 = 1 → 0 ≤ a1 ∧ a1 ≤ 15 := p1_3
  have hz_3 : inR z_3 := (by first | omega | (rw [p0_3]; split <;> omega))
  refine gi_zne (tgt := 24) hx hb dX11_reach_15 (by decide) (by omega) (fun c_4 => ?_) (fun c_4 => ?_)
  · have vz_3 := gif1 w_3 c_4
    have voz_3 := gif1o w_3 c_4
    clear w_3
    refine lv_iload_n hx hb dX11_reach_24 rfl (lv_at hl 2 rfl) ?_
    refine lv_iconst (v := iI 1) hx hb dX11_reach_25 rfl ?_
    refine gi_clt (tgt := 35) hx hb dX11_reach_26 (by decide) (by omega) (by decide) (fun c_5 => ?_) (fun c_5 => ?_)
    · refine lv_aload_n hx hb dX11_reach_35 rfl (lv_at hl 0 rfl) ?_
      refine lv_iconst (v := iI 2) hx hb dX11_reach_36 rfl ?_
      refine g_cv (As := [.int (iI 2)]) (rest := []) (n := 1) C hml (m_X11_refuse l D k A ad hD (va_up (va_up (va_up v 0 0) 1 0) 24 (v 24)) (va_up (va_up (va_up f 28 (f 28)) 29 (f 29)) 30 (f 30)) g 2 (by decide) (show 0 ≤ (2 : Int) ∧ (2 : Int) ≤ 10 from by omega)) mM_X11_295 mI_X11_refuse mE_X11_refuse mN_X11 mC_X11_refuse (by decide +kernel) 0 (ci := 11) rfl rfl hP hS (fun _ h => h) ⟨Nat.le_of_ble_eq_true rfl, Nat.le_of_ble_eq_true rfl⟩ ⟨Nat.zero_le _, Nat.zero_le _⟩ hl.1 rfl rfl (Nat.le_of_ble_eq_true rfl) dX11_reach_37 (fun r_6 v_6 f_6 g_6 H locs hq_6 hP _ hS => ?_)
      obtain ⟨rfl, rfl, rfl, rfl⟩ := hq_6
      show W p l e (gRm 2 43) s m args below meth c _ _ 0 0 Q (F0 m 40 ls [.int (iI (-1))])
      have hP : gWd D (mdT k ad) (va_up (va_up (va_up v 0 (2 : Int)) 1 0) 24 (v 24)) (va_up (va_up (va_up f 28 (f 28)) 29 (f 29)) 30 (f 30)) g H := ⟨hP.1, (gF_up (V := mdV) (F := mdF) (gF_up (V := mdV) (F := mdF) (gF_up (V := mdV) (F := mdF) (gR_up (V := mdV) (F := mdF) (gR_up (V := mdV) (F := mdF) (gR_up (V := mdV) (F := mdF) ⟨hok.1, hok.2⟩ 0 (hP.2.1 0)) 1 (hP.2.1 1)) 24 (hP.2.1 24)) 28 (hP.2.2 28)) 29 (hP.2.2 29)) 30 (hP.2.2 30))⟩
      exact g_iret hQ C hr hlocks hP hS dX11_reach_40 ⟨(-1), (2 : Int), rfl, (by rw [show ((if (2 : Int) = 1 ∨ (2 : Int) = 2 ∨ (2 : Int) = 9 then (v 24) else a3) : Int) = (v 24) from by first | rfl | omega | ((repeat' split) <;> omega)]), (by rw [show ((if (2 : Int) = 1 ∨ (2 : Int) = 2 ∨ (2 : Int) = 9 then (f 28) else if (2 : Int) = 0 ∧ ¬ a2 < (f 18) ((f 25) ((ovO a3 (f 27) (fun k => (f 3) ((f 25) k)) on) a1 - 1) * 5 + (f 26) ((ovO a3 (f 27) (fun k => (f 3) ((f 25) k)) on) a1 - 1)) then u1 (ovE (v 25) a3 (f 30) (f 27) (fun k => (f 3) ((f 25) k)) (f 28)) ((ovO a3 (f 27) (fun k => (f 3) ((f 25) k)) on) a1 - 1) a3 else (ovE (v 25) a3 (f 30) (f 27) (fun k => (f 3) ((f 25) k)) (f 28))) : Int → Int) = (f 28) from by first | rfl | (rw [if_pos (by omega)]) | (rw [if_neg (by omega), if_neg (by first | omega | (rw [← hla]; omega))]) | (rw [if_neg (by omega), if_pos (by rw [← hla]; omega), hj]), show ((if (2 : Int) = 0 then u1 (f 29) ((ovO a3 (f 27) (fun k => (f 3) ((f 25) k)) on) a1 - 1) a2 else (f 29)) : Int → Int) = (f 29) from by first | rfl | (rw [if_neg (by omega)]) | (rw [if_pos (by omega), hj]), show ((if (2 : Int) = 1 ∨ (2 : Int) = 2 ∨ (2 : Int) = 9 then (f 30) else if (2 : Int) = 0 ∧ ¬ a2 < (f 18) ((f 25) ((ovO a3 (f 27) (fun k => (f 3) ((f 25) k)) on) a1 - 1) * 5 + (f 26) ((ovO a3 (f 27) (fun k => (f 3) ((f 25) k)) on) a1 - 1)) then u1 (ovH (v 25) a3 (f 30) (f 27) (fun k => (f 3) ((f 25) k))) ((ovO a3 (f 27) (fun k => (f 3) ((f 25) k)) on) a1 - 1) 1 else (ovH (v 25) a3 (f 30) (f 27) (fun k => (f 3) ((f 25) k)))) : Int → Int) = (f 30) from by first | rfl | (rw [if_pos (by omega)]) | (rw [if_neg (by omega), if_neg (by first | omega | (rw [← hla]; omega))]) | (rw [if_neg (by omega), if_pos (by rw [← hla]; omega), hj])]), rfl, (by first | (rw [if_pos (by omega)]) | (rw [if_neg (by omega), ← hla]; first | rw [if_pos (by omega)] | rw [if_neg (by omega)])), (by first | omega | ((repeat' split) <;> omega)), (by first | omega | (rw [← hla, ← hj]; (repeat' split) <;> omega) | (rw [← hj]; (repeat' split) <;> omega) | ((repeat' split) <;> omega))⟩
    · refine lv_iload_n hx hb dX11_reach_29 rfl (lv_at hl 2 rfl) ?_
      refine lv_bipush (v := iI 60) hx hb dX11_reach_30 (by decide) ?_
      refine gi_cle (tgt := 41) hx hb dX11_reach_32 (by decide) (by omega) (by decide) (fun c_7 => ?_) (fun c_7 => ?_)
      · refine lv_aload_n hx hb dX11_reach_41 rfl (lv_at hl 0 rfl) ?_
        refine lv_iload_n hx hb dX11_reach_42 rfl (lv_at hl 3 rfl) ?_
        refine g_cv (As := [.int (iI a3)]) (rest := []) (n := 1) C hml (y_clocked l D k A ad hD (va_up (va_up (va_up v 0 0) 1 0) 24 (v 24)) (va_up (va_up (va_up f 28 (f 28)) 29 (f 29)) 30 (f 30)) g a3 (by omega)) mM_X11_352 mI_X11_clocked mE_X11_clocked mN_X11 mC_X11_clocked (by decide +kernel) 0 (ci := 11) rfl rfl hP hS (fun _ h => h) ⟨Nat.le_of_ble_eq_true rfl, Nat.le_of_ble_eq_true rfl⟩ ⟨Nat.zero_le _, Nat.zero_le _⟩ hl.1 rfl rfl (Nat.le_of_ble_eq_true rfl) dX11_reach_43 (fun r_8 v_8 f_8 g_8 H locs hq_8 hP _ hS => ?_)
        obtain ⟨z_8, rfl, rfl, rfl, rfl, p0_8⟩ := hq_8
        show W p l e (gRm 2 43) s m args below meth c _ _ 0 0 Q (F0 m 46 ls [.int (iI z_8)])
        have hP : gWd D (mdT k ad) (va_up (va_up (va_up v 0 0) 1 0) 24 (if z_8 = 0 then a3 else (v 24))) (va_up (va_up (va_up f 28 (if z_8 = 0 then (ovE (v 25) a3 (f 30) (f 27) (fun k => (f 3) ((f 25) k)) (f 28)) else (f 28))) 29 (f 29)) 30 (if z_8 = 0 then (ovH (v 25) a3 (f 30) (f 27) (fun k => (f 3) ((f 25) k))) else (f 30))) g H := ⟨hP.1, (gF_up (V := mdV) (F := mdF) (gF_up (V := mdV) (F := mdF) (gF_up (V := mdV) (F := mdF) (gR_up (V := mdV) (F := mdF) (gR_up (V := mdV) (F := mdF) (gR_up (V := mdV) (F := mdF) ⟨hok.1, hok.2⟩ 0 (hP.2.1 0)) 1 (hP.2.1 1)) 24 (hP.2.1 24)) 28 (hP.2.2 28)) 29 (hP.2.2 29)) 30 (hP.2.2 30))⟩
        replace p0_8 : z_8 = (if a3 < 0 ∨ 1000000 < a3 then (2 : Int) else if a3 < (v 24) then 9 else 0) := p0_8
        have hz_8 : inR z_8 := (by first | omega | (rw [p0_8]; split <;> omega))
        have hpz := p0_8
        clear p0_8
        rcases (show z_8 = 0 ∨ z_8 ≠ 0 by omega) with hzp | hzp
        · replace hP : gWd D (mdT k ad) (va_up (va_up (va_up v 0 0) 1 0) 24 a3) (va_up (va_up (va_up f 28 (ovE (v 25) a3 (f 30) (f 27) (fun k => (f 3) ((f 25) k)) (f 28))) 29 (f 29)) 30 (ovH (v 25) a3 (f 30) (f 27) (fun k => (f 3) ((f 25) k)))) g H := by have h9 := hP; simp only [if_pos hzp] at h9; exact h9
          have hO2 : OI (v 25) (f 24) (ovH (v 25) a3 (f 30) (f 27) (fun k => (f 3) ((f 25) k))) (ovO a3 (f 27) (fun k => (f 3) ((f 25) k)) on) := OI_ov hO hwr
          refine lv_istore (lv' := [(4, .int (iI z_8)), (0, .ref (ad 0)), (1, .int (iI a1)), (2, .int (iI a2)), (3, .int (iI a3))]) hx hb dX11_reach_46 hl (by decide) rfl (fun ls hl => ?_)
          refine lv_iload hx hb dX11_reach_48 (lv_at hl 0 rfl) ?_
          refine gi_zle (tgt := 60) hx hb dX11_reach_50 (by decide) (by omega) (fun c_9 => ?_) (fun c_9 => ?_)
          · refine lv_aload_n hx hb dX11_reach_60 rfl (lv_at hl 1 rfl) ?_
            refine lv_iload_n hx hb dX11_reach_61 rfl (lv_at hl 2 rfl) ?_
            refine g_cv (As := [.int (iI a1)]) (rest := []) (n := 1) C hml (y_openTry l D k A ad hD (va_up (va_up (va_up v 0 0) 1 0) 24 a3) (va_up (va_up (va_up f 28 (ovE (v 25) a3 (f 30) (f 27) (fun k => (f 3) ((f 25) k)) (f 28))) 29 (f 29)) 30 (ovH (v 25) a3 (f 30) (f 27) (fun k => (f 3) ((f 25) k)))) g a1 (ovO a3 (f 27) (fun k => (f 3) ((f 25) k)) on) (by omega) (show OI (v 25) (f 24) (ovH (v 25) a3 (f 30) (f 27) (fun k => (f 3) ((f 25) k))) (ovO a3 (f 27) (fun k => (f 3) ((f 25) k)) on) from hO2) (show 0 ≤ a1 ∧ a1 ≤ 15 from by omega)) mM_X11_355 mI_X11_openTry mE_X11_openTry mN_X11 mC_X11_openTry (by decide +kernel) 0 (ci := 11) rfl rfl hP hS (fun _ h => h) ⟨Nat.le_of_ble_eq_true rfl, Nat.le_of_ble_eq_true rfl⟩ ⟨Nat.zero_le _, Nat.zero_le _⟩ hl.1 rfl rfl (Nat.le_of_ble_eq_true rfl) dX11_reach_62 (fun r_10 v_10 f_10 g_10 H locs hq_10 hP _ hS => ?_)
            obtain ⟨z_10, rfl, rfl, rfl, rfl, p0_10, p1_10⟩ := hq_10
            show W p l e (gRm 2 43) s m args below meth c _ _ 0 0 Q (F0 m 65 ls [.int (iI z_10)])
            replace p0_10 : z_10 = ((ovO a3 (f 27) (fun k => (f 3) ((f 25) k)) on) a1 - 1) := p0_10
            replace p1_10 : (-1) ≤ z_10 ∧ z_10 ≤ 299 := p1_10
            have hz_10 : inR z_10 := (by first | omega | (rw [p0_10]; split <;> omega))
            have hj : z_10 = (ovO a3 (f 27) (fun k => (f 3) ((f 25) k)) on) a1 - 1 := p0_10
            refine lv_istore (lv' := [(5, .int (iI z_10)), (4, .int (iI z_8)), (0, .ref (ad 0)), (1, .int (iI a1)), (2, .int (iI a2)), (3, .int (iI a3))]) hx hb dX11_reach_65 hl (by decide) rfl (fun ls hl => ?_)
            refine lv_iload hx hb dX11_reach_67 (lv_at hl 0 rfl) ?_
            refine gi_zge (tgt := 78) hx hb dX11_reach_69 (by decide) (by omega) (fun c_11 => ?_) (fun c_11 => ?_)
            · refine lv_aload_n hx hb dX11_reach_78 rfl (lv_at hl 2 rfl) ?_
              refine mdG_holds C hP mF_X11_73 dX11_reach_79 ?_
              refine lv_aload_n hx hb dX11_reach_82 rfl (lv_at hl 2 rfl) ?_
              refine mdG_where C hP mF_X11_97 dX11_reach_83 ?_
              refine lv_iload hx hb dX11_reach_86 (lv_at hl 0 rfl) ?_
              refine mdL_where C hP (by omega) (by omega) dX11_reach_88 ?_
              show W p l e (gRm 2 43) s m args below meth c _ _ 0 0 Q (F0 m 89 ls [.int (iI (f 25 z_10)), .ref (ad 19)])
              have r_12 : 0 ≤ (f 25 z_10) ∧ (f 25 z_10) ≤ 3 := hP.2.2 25 z_10
              refine lv_aload_n hx hb dX11_reach_89 rfl (lv_at hl 2 rfl) ?_
              refine mdG_which C hP mF_X11_100 dX11_reach_90 ?_
              refine lv_iload hx hb dX11_reach_93 (lv_at hl 0 rfl) ?_
              refine mdL_which C hP (by omega) (by omega) dX11_reach_95 ?_
              show W p l e (gRm 2 43) s m args below meth c _ _ 0 0 Q (F0 m 96 ls [.int (iI (f 26 z_10)), .int (iI (f 25 z_10)), .ref (ad 19)])
              have r_13 : 0 ≤ (f 26 z_10) ∧ (f 26 z_10) ≤ 4 := hP.2.2 26 z_10
              refine g_cs (As := [.int (iI (f 25 z_10)), .int (iI (f 26 z_10))]) (rest := [.ref (ad 19)]) (n := 2) C hml (m_X11_at l D k A ad hD (va_up (va_up (va_up v 0 0) 1 0) 24 a3) (va_up (va_up (va_up f 28 (ovE (v 25) a3 (f 30) (f 27) (fun k => (f 3) ((f 25) k)) (f 28))) 29 (f 29)) 30 (ovH (v 25) a3 (f 30) (f 27) (fun k => (f 3) ((f 25) k)))) g (f 25 z_10) (f 26 z_10) (by omega) (by omega) (show 0 ≤ (f 25 z_10) ∧ (f 25 z_10) ≤ 3 from by omega) (show 0 ≤ (f 26 z_10) ∧ (f 26 z_10) ≤ 4 from by omega)) mM_X11_335 mS_X11_at mN_X11 mC_X11_at (by decide +kernel) hP hS (fun _ h => h) ⟨Nat.le_of_ble_eq_true rfl, Nat.le_of_ble_eq_true rfl⟩ ⟨Nat.zero_le _, Nat.zero_le _⟩ hl.1 rfl rfl (Nat.le_of_ble_eq_true rfl) dX11_reach_96 (fun r_14 v_14 f_14 g_14 H locs hq_14 hP _ hS => ?_)
              obtain ⟨z_14, rfl, rfl, rfl, rfl, p0_14⟩ := hq_14
              show W p l e (gRm 2 43) s m args below meth c _ _ 0 0 Q (F0 m 99 ls [.int (iI z_14), .ref (ad 19)])
              replace p0_14 : z_14 = (5 * (f 25 z_10) + (f 26 z_10)) := p0_14
              have hz_14 : inR z_14 := (by first | omega | (rw [p0_14]; split <;> omega))
              refine mdL_holds C hP (by omega) (by omega) dX11_reach_99 ?_
              show W p l e (gRm 2 43) s m args below meth c _ _ 0 0 Q (F0 m 100 ls [.int (iI (f 18 z_14))])
              have r_15 : 0 ≤ (f 18 z_14) ∧ (f 18 z_14) ≤ 60 := hP.2.2 18 z_14
              have hla : (f 18 z_14) = (f 18) ((f 25) ((ovO a3 (f 27) (fun k => (f 3) ((f 25) k)) on) a1 - 1) * 5 + (f 26) ((ovO a3 (f 27) (fun k => (f 3) ((f 25) k)) on) a1 - 1)) := by rw [← hj]; congr 1; omega
              refine lv_istore (lv' := [(6, .int (iI (f 18 z_14))), (5, .int (iI z_10)), (4, .int (iI z_8)), (0, .ref (ad 0)), (1, .int (iI a1)), (2, .int (iI a2)), (3, .int (iI a3))]) hx hb dX11_reach_100 hl (by decide) rfl (fun ls hl => ?_)
              refine lv_iload_n hx hb dX11_reach_102 rfl (lv_at hl 5 rfl) ?_
              refine lv_aload_n hx hb dX11_reach_103 rfl (lv_at hl 3 rfl) ?_
              refine mdG_hold C hP mF_X11_109 dX11_reach_104 ?_
              refine lv_iload hx hb dX11_reach_107 (lv_at hl 1 rfl) ?_
              refine mdL_hold C hP (by omega) (by omega) dX11_reach_109 ?_
              show W p l e (gRm 2 43) s m args below meth c _ _ 0 0 Q (F0 m 110 ls [.int (iI (f 29 z_10)), .int (iI a2)])
              have r_16 : 0 ≤ (f 29 z_10) ∧ (f 29 z_10) ≤ 60 := hP.2.2 29 z_10
              refine gi_cle (tgt := 119) hx hb dX11_reach_110 (by decide) (by omega) (by omega) (fun c_17 => ?_) (fun c_17 => ?_)
              · refine lv_aload_n hx hb dX11_reach_119 rfl (lv_at hl 3 rfl) ?_
                refine lv_bipush (v := iI 10) hx hb dX11_reach_120 (by decide) ?_
                refine g_cv (As := [.int (iI 10)]) (rest := []) (n := 1) C hml (m_X11_refuse l D k A ad hD (va_up (va_up (va_up v 0 0) 1 0) 24 a3) (va_up (va_up (va_up f 28 (ovE (v 25) a3 (f 30) (f 27) (fun k => (f 3) ((f 25) k)) (f 28))) 29 (f 29)) 30 (ovH (v 25) a3 (f 30) (f 27) (fun k => (f 3) ((f 25) k)))) g 10 (by decide) (show 0 ≤ (10 : Int) ∧ (10 : Int) ≤ 10 from by omega)) mM_X11_295 mI_X11_refuse mE_X11_refuse mN_X11 mC_X11_refuse (by decide +kernel) 0 (ci := 11) rfl rfl hP hS (fun _ h => h) ⟨Nat.le_of_ble_eq_true rfl, Nat.le_of_ble_eq_true rfl⟩ ⟨Nat.zero_le _, Nat.zero_le _⟩ hl.1 rfl rfl (Nat.le_of_ble_eq_true rfl) dX11_reach_122 (fun r_18 v_18 f_18 g_18 H locs hq_18 hP _ hS => ?_)
                obtain ⟨rfl, rfl, rfl, rfl⟩ := hq_18
                show W p l e (gRm 2 43) s m args below meth c _ _ 0 0 Q (F0 m 125 ls [.int (iI (-1))])
                have hP : gWd D (mdT k ad) (va_up (va_up (va_up v 0 (10 : Int)) 1 0) 24 a3) (va_up (va_up (va_up f 28 (ovE (v 25) a3 (f 30) (f 27) (fun k => (f 3) ((f 25) k)) (f 28))) 29 (f 29)) 30 (ovH (v 25) a3 (f 30) (f 27) (fun k => (f 3) ((f 25) k)))) g H := ⟨hP.1, (gF_up (V := mdV) (F := mdF) (gF_up (V := mdV) (F := mdF) (gF_up (V := mdV) (F := mdF) (gR_up (V := mdV) (F := mdF) (gR_up (V := mdV) (F := mdF) (gR_up (V := mdV) (F := mdF) ⟨hok.1, hok.2⟩ 0 (hP.2.1 0)) 1 (hP.2.1 1)) 24 (hP.2.1 24)) 28 (hP.2.2 28)) 29 (hP.2.2 29)) 30 (hP.2.2 30))⟩
                exact g_iret hQ C hr hlocks hP hS dX11_reach_125 ⟨(-1), (10 : Int), rfl, (by rw [show ((if (10 : Int) = 1 ∨ (10 : Int) = 2 ∨ (10 : Int) = 9 then (v 24) else a3) : Int) = a3 from by first | rfl | omega | ((repeat' split) <;> omega)]), (by rw [show ((if (10 : Int) = 1 ∨ (10 : Int) = 2 ∨ (10 : Int) = 9 then (f 28) else if (10 : Int) = 0 ∧ ¬ a2 < (f 18) ((f 25) ((ovO a3 (f 27) (fun k => (f 3) ((f 25) k)) on) a1 - 1) * 5 + (f 26) ((ovO a3 (f 27) (fun k => (f 3) ((f 25) k)) on) a1 - 1)) then u1 (ovE (v 25) a3 (f 30) (f 27) (fun k => (f 3) ((f 25) k)) (f 28)) ((ovO a3 (f 27) (fun k => (f 3) ((f 25) k)) on) a1 - 1) a3 else (ovE (v 25) a3 (f 30) (f 27) (fun k => (f 3) ((f 25) k)) (f 28))) : Int → Int) = (ovE (v 25) a3 (f 30) (f 27) (fun k => (f 3) ((f 25) k)) (f 28)) from by first | rfl | (rw [if_pos (by omega)]) | (rw [if_neg (by omega), if_neg (by first | omega | (rw [← hla]; omega))]) | (rw [if_neg (by omega), if_pos (by rw [← hla]; omega), hj]), show ((if (10 : Int) = 0 then u1 (f 29) ((ovO a3 (f 27) (fun k => (f 3) ((f 25) k)) on) a1 - 1) a2 else (f 29)) : Int → Int) = (f 29) from by first | rfl | (rw [if_neg (by omega)]) | (rw [if_pos (by omega), hj]), show ((if (10 : Int) = 1 ∨ (10 : Int) = 2 ∨ (10 : Int) = 9 then (f 30) else if (10 : Int) = 0 ∧ ¬ a2 < (f 18) ((f 25) ((ovO a3 (f 27) (fun k => (f 3) ((f 25) k)) on) a1 - 1) * 5 + (f 26) ((ovO a3 (f 27) (fun k => (f 3) ((f 25) k)) on) a1 - 1)) then u1 (ovH (v 25) a3 (f 30) (f 27) (fun k => (f 3) ((f 25) k))) ((ovO a3 (f 27) (fun k => (f 3) ((f 25) k)) on) a1 - 1) 1 else (ovH (v 25) a3 (f 30) (f 27) (fun k => (f 3) ((f 25) k)))) : Int → Int) = (ovH (v 25) a3 (f 30) (f 27) (fun k => (f 3) ((f 25) k))) from by first | rfl | (rw [if_pos (by omega)]) | (rw [if_neg (by omega), if_neg (by first | omega | (rw [← hla]; omega))]) | (rw [if_neg (by omega), if_pos (by rw [← hla]; omega), hj])]), rfl, (by first | (rw [if_pos (by omega)]) | (rw [if_neg (by omega), ← hla]; first | rw [if_pos (by omega)] | rw [if_neg (by omega)])), (by first | omega | ((repeat' split) <;> omega)), (by first | omega | (rw [← hla, ← hj]; (repeat' split) <;> omega) | (rw [← hj]; (repeat' split) <;> omega) | ((repeat' split) <;> omega))⟩
              · refine lv_iload_n hx hb dX11_reach_113 rfl (lv_at hl 5 rfl) ?_
                refine lv_iload hx hb dX11_reach_114 (lv_at hl 0 rfl) ?_
                refine gi_cle (tgt := 126) hx hb dX11_reach_116 (by decide) (by omega) (by omega) (fun c_19 => ?_) (fun c_19 => ?_)
                · refine lv_aload_n hx hb dX11_reach_126 rfl (lv_at hl 3 rfl) ?_
                  refine mdG_hold C hP mF_X11_109 dX11_reach_127 ?_
                  refine lv_iload hx hb dX11_reach_130 (lv_at hl 1 rfl) ?_
                  refine lv_iload_n hx hb dX11_reach_132 rfl (lv_at hl 5 rfl) ?_
                  refine mdS_hold (f1 := (va_up (va_up (va_up f 28 (ovE (v 25) a3 (f 30) (f 27) (fun k => (f 3) ((f 25) k)) (f 28))) 29 (u1 (f 29) z_10 a2)) 30 (ovH (v 25) a3 (f 30) (f 27) (fun k => (f 3) ((f 25) k))))) C hP hD hS (by omega) (by omega) (by omega) rfl (Or.inr (gF_up (V := mdV) (F := mdF) (gF_up (V := mdV) (F := mdF) (gF_up (V := mdV) (F := mdF) (gR_up (V := mdV) (F := mdF) (gR_up (V := mdV) (F := mdF) (gR_up (V := mdV) (F := mdF) ⟨hok.1, hok.2⟩ 0 (hP.2.1 0)) 1 (hP.2.1 1)) 24 (hP.2.1 24)) 28 (hP.2.2 28)) 29 (u1_rng (hP.2.2 29) (show 0 ≤ a2 ∧ a2 ≤ 60 from (by omega)))) 30 (hP.2.2 30))) dX11_reach_133 (fun H locs hP hS => ?_)
                  refine lv_iload_n hx hb dX11_reach_134 rfl (lv_at hl 5 rfl) ?_
                  refine lv_iload hx hb dX11_reach_135 (lv_at hl 0 rfl) ?_
                  refine gi_cge (tgt := 142) hx hb dX11_reach_137 (by decide) (by omega) (by omega) (fun c_20 => ?_) (fun c_20 => ?_)
                  · refine lv_aload_n hx hb dX11_reach_142 rfl (lv_at hl 3 rfl) ?_
                    refine mdG_how C hP mF_X11_112 dX11_reach_143 ?_
                    refine lv_iload hx hb dX11_reach_146 (lv_at hl 1 rfl) ?_
                    refine lv_iconst (v := iI 1) hx hb dX11_reach_148 rfl ?_
                    refine mdS_how (f1 := (va_up (va_up (va_up f 28 (ovE (v 25) a3 (f 30) (f 27) (fun k => (f 3) ((f 25) k)) (f 28))) 29 (u1 (f 29) z_10 a2)) 30 (u1 (ovH (v 25) a3 (f 30) (f 27) (fun k => (f 3) ((f 25) k))) z_10 1))) C hP hD hS (by omega) (by omega) (by decide) rfl (Or.inr (gF_up (V := mdV) (F := mdF) (gF_up (V := mdV) (F := mdF) (gF_up (V := mdV) (F := mdF) (gR_up (V := mdV) (F := mdF) (gR_up (V := mdV) (F := mdF) (gR_up (V := mdV) (F := mdF) ⟨hok.1, hok.2⟩ 0 (hP.2.1 0)) 1 (hP.2.1 1)) 24 (hP.2.1 24)) 28 (hP.2.2 28)) 29 (hP.2.2 29)) 30 (u1_rng (hP.2.2 30) (show 0 ≤ 1 ∧ 1 ≤ 4 from (by decide))))) dX11_reach_149 (fun H locs hP hS => ?_)
                    refine lv_aload_n hx hb dX11_reach_150 rfl (lv_at hl 3 rfl) ?_
                    refine mdG_to C hP mF_X11_106 dX11_reach_151 ?_
                    refine lv_iload hx hb dX11_reach_154 (lv_at hl 1 rfl) ?_
                    refine lv_iload_n hx hb dX11_reach_156 rfl (lv_at hl 6 rfl) ?_
                    refine mdS_to (f1 := (va_up (va_up (va_up f 28 (u1 (ovE (v 25) a3 (f 30) (f 27) (fun k => (f 3) ((f 25) k)) (f 28)) z_10 a3)) 29 (u1 (f 29) z_10 a2)) 30 (u1 (ovH (v 25) a3 (f 30) (f 27) (fun k => (f 3) ((f 25) k))) z_10 1))) C hP hD hS (by omega) (by omega) (by omega) rfl (Or.inr (gF_up (V := mdV) (F := mdF) (gF_up (V := mdV) (F := mdF) (gF_up (V := mdV) (F := mdF) (gR_up (V := mdV) (F := mdF) (gR_up (V := mdV) (F := mdF) (gR_up (V := mdV) (F := mdF) ⟨hok.1, hok.2⟩ 0 (hP.2.1 0)) 1 (hP.2.1 1)) 24 (hP.2.1 24)) 28 (u1_rng (hP.2.2 28) (show (-1) ≤ a3 ∧ a3 ≤ 1000999 from (by omega)))) 29 (hP.2.2 29)) 30 (hP.2.2 30))) dX11_reach_157 (fun H locs hP hS => ?_)
                    refine lv_iconst (v := iI 1) hx hb dX11_reach_158 rfl ?_
                    exact g_iret hQ C hr hlocks hP hS dX11_reach_159 ⟨1, 0, rfl, (by rw [show ((if (0 : Int) = 1 ∨ (0 : Int) = 2 ∨ (0 : Int) = 9 then (v 24) else a3) : Int) = a3 from by first | rfl | omega | ((repeat' split) <;> omega)]), (by rw [show ((if (0 : Int) = 1 ∨ (0 : Int) = 2 ∨ (0 : Int) = 9 then (f 28) else if (0 : Int) = 0 ∧ ¬ a2 < (f 18) ((f 25) ((ovO a3 (f 27) (fun k => (f 3) ((f 25) k)) on) a1 - 1) * 5 + (f 26) ((ovO a3 (f 27) (fun k => (f 3) ((f 25) k)) on) a1 - 1)) then u1 (ovE (v 25) a3 (f 30) (f 27) (fun k => (f 3) ((f 25) k)) (f 28)) ((ovO a3 (f 27) (fun k => (f 3) ((f 25) k)) on) a1 - 1) a3 else (ovE (v 25) a3 (f 30) (f 27) (fun k => (f 3) ((f 25) k)) (f 28))) : Int → Int) = (u1 (ovE (v 25) a3 (f 30) (f 27) (fun k => (f 3) ((f 25) k)) (f 28)) z_10 a3) from by first | rfl | (rw [if_pos (by omega)]) | (rw [if_neg (by omega), if_neg (by first | omega | (rw [← hla]; omega))]) | (rw [if_neg (by omega), if_pos (by rw [← hla]; omega), hj]), show ((if (0 : Int) = 0 then u1 (f 29) ((ovO a3 (f 27) (fun k => (f 3) ((f 25) k)) on) a1 - 1) a2 else (f 29)) : Int → Int) = (u1 (f 29) z_10 a2) from by first | rfl | (rw [if_neg (by omega)]) | (rw [if_pos (by omega), hj]), show ((if (0 : Int) = 1 ∨ (0 : Int) = 2 ∨ (0 : Int) = 9 then (f 30) else if (0 : Int) = 0 ∧ ¬ a2 < (f 18) ((f 25) ((ovO a3 (f 27) (fun k => (f 3) ((f 25) k)) on) a1 - 1) * 5 + (f 26) ((ovO a3 (f 27) (fun k => (f 3) ((f 25) k)) on) a1 - 1)) then u1 (ovH (v 25) a3 (f 30) (f 27) (fun k => (f 3) ((f 25) k))) ((ovO a3 (f 27) (fun k => (f 3) ((f 25) k)) on) a1 - 1) 1 else (ovH (v 25) a3 (f 30) (f 27) (fun k => (f 3) ((f 25) k)))) : Int → Int) = (u1 (ovH (v 25) a3 (f 30) (f 27) (fun k => (f 3) ((f 25) k))) z_10 1) from by first | rfl | (rw [if_pos (by omega)]) | (rw [if_neg (by omega), if_neg (by first | omega | (rw [← hla]; omega))]) | (rw [if_neg (by omega), if_pos (by rw [← hla]; omega), hj])]), rfl, (by first | (rw [if_pos (by omega)]) | (rw [if_neg (by omega), ← hla]; first | rw [if_pos (by omega)] | rw [if_neg (by omega)])), (by first | omega | ((repeat' split) <;> omega)), (by first | omega | (rw [← hla, ← hj]; (repeat' split) <;> omega) | (rw [← hj]; (repeat' split) <;> omega) | ((repeat' split) <;> omega))⟩
                  · refine lv_iconst (v := iI 0) hx hb dX11_reach_140 rfl ?_
                    exact g_iret hQ C hr hlocks hP hS dX11_reach_141 ⟨0, 0, rfl, (by rw [show ((if (0 : Int) = 1 ∨ (0 : Int) = 2 ∨ (0 : Int) = 9 then (v 24) else a3) : Int) = a3 from by first | rfl | omega | ((repeat' split) <;> omega)]), (by rw [show ((if (0 : Int) = 1 ∨ (0 : Int) = 2 ∨ (0 : Int) = 9 then (f 28) else if (0 : Int) = 0 ∧ ¬ a2 < (f 18) ((f 25) ((ovO a3 (f 27) (fun k => (f 3) ((f 25) k)) on) a1 - 1) * 5 + (f 26) ((ovO a3 (f 27) (fun k => (f 3) ((f 25) k)) on) a1 - 1)) then u1 (ovE (v 25) a3 (f 30) (f 27) (fun k => (f 3) ((f 25) k)) (f 28)) ((ovO a3 (f 27) (fun k => (f 3) ((f 25) k)) on) a1 - 1) a3 else (ovE (v 25) a3 (f 30) (f 27) (fun k => (f 3) ((f 25) k)) (f 28))) : Int → Int) = (ovE (v 25) a3 (f 30) (f 27) (fun k => (f 3) ((f 25) k)) (f 28)) from by first | rfl | (rw [if_pos (by omega)]) | (rw [if_neg (by omega), if_neg (by first | omega | (rw [← hla]; omega))]) | (rw [if_neg (by omega), if_pos (by rw [← hla]; omega), hj]), show ((if (0 : Int) = 0 then u1 (f 29) ((ovO a3 (f 27) (fun k => (f 3) ((f 25) k)) on) a1 - 1) a2 else (f 29)) : Int → Int) = (u1 (f 29) z_10 a2) from by first | rfl | (rw [if_neg (by omega)]) | (rw [if_pos (by omega), hj]), show ((if (0 : Int) = 1 ∨ (0 : Int) = 2 ∨ (0 : Int) = 9 then (f 30) else if (0 : Int) = 0 ∧ ¬ a2 < (f 18) ((f 25) ((ovO a3 (f 27) (fun k => (f 3) ((f 25) k)) on) a1 - 1) * 5 + (f 26) ((ovO a3 (f 27) (fun k => (f 3) ((f 25) k)) on) a1 - 1)) then u1 (ovH (v 25) a3 (f 30) (f 27) (fun k => (f 3) ((f 25) k))) ((ovO a3 (f 27) (fun k => (f 3) ((f 25) k)) on) a1 - 1) 1 else (ovH (v 25) a3 (f 30) (f 27) (fun k => (f 3) ((f 25) k)))) : Int → Int) = (ovH (v 25) a3 (f 30) (f 27) (fun k => (f 3) ((f 25) k))) from by first | rfl | (rw [if_pos (by omega)]) | (rw [if_neg (by omega), if_neg (by first | omega | (rw [← hla]; omega))]) | (rw [if_neg (by omega), if_pos (by rw [← hla]; omega), hj])]), rfl, (by first | (rw [if_pos (by omega)]) | (rw [if_neg (by omega), ← hla]; first | rw [if_pos (by omega)] | rw [if_neg (by omega)])), (by first | omega | ((repeat' split) <;> omega)), (by first | omega | (rw [← hla, ← hj]; (repeat' split) <;> omega) | (rw [← hj]; (repeat' split) <;> omega) | ((repeat' split) <;> omega))⟩
                · refine lv_aload_n hx hb dX11_reach_119 rfl (lv_at hl 3 rfl) ?_
                  refine lv_bipush (v := iI 10) hx hb dX11_reach_120 (by decide) ?_
                  refine g_cv (As := [.int (iI 10)]) (rest := []) (n := 1) C hml (m_X11_refuse l D k A ad hD (va_up (va_up (va_up v 0 0) 1 0) 24 a3) (va_up (va_up (va_up f 28 (ovE (v 25) a3 (f 30) (f 27) (fun k => (f 3) ((f 25) k)) (f 28))) 29 (f 29)) 30 (ovH (v 25) a3 (f 30) (f 27) (fun k => (f 3) ((f 25) k)))) g 10 (by decide) (show 0 ≤ (10 : Int) ∧ (10 : Int) ≤ 10 from by omega)) mM_X11_295 mI_X11_refuse mE_X11_refuse mN_X11 mC_X11_refuse (by decide +kernel) 0 (ci := 11) rfl rfl hP hS (fun _ h => h) ⟨Nat.le_of_ble_eq_true rfl, Nat.le_of_ble_eq_true rfl⟩ ⟨Nat.zero_le _, Nat.zero_le _⟩ hl.1 rfl rfl (Nat.le_of_ble_eq_true rfl) dX11_reach_122 (fun r_21 v_21 f_21 g_21 H locs hq_21 hP _ hS => ?_)
                  obtain ⟨rfl, rfl, rfl, rfl⟩ := hq_21
                  show W p l e (gRm 2 43) s m args below meth c _ _ 0 0 Q (F0 m 125 ls [.int (iI (-1))])
                  have hP : gWd D (mdT k ad) (va_up (va_up (va_up v 0 (10 : Int)) 1 0) 24 a3) (va_up (va_up (va_up f 28 (ovE (v 25) a3 (f 30) (f 27) (fun k => (f 3) ((f 25) k)) (f 28))) 29 (f 29)) 30 (ovH (v 25) a3 (f 30) (f 27) (fun k => (f 3) ((f 25) k)))) g H := ⟨hP.1, (gF_up (V := mdV) (F := mdF) (gF_up (V := mdV) (F := mdF) (gF_up (V := mdV) (F := mdF) (gR_up (V := mdV) (F := mdF) (gR_up (V := mdV) (F := mdF) (gR_up (V := mdV) (F := mdF) ⟨hok.1, hok.2⟩ 0 (hP.2.1 0)) 1 (hP.2.1 1)) 24 (hP.2.1 24)) 28 (hP.2.2 28)) 29 (hP.2.2 29)) 30 (hP.2.2 30))⟩
                  exact g_iret hQ C hr hlocks hP hS dX11_reach_125 ⟨(-1), (10 : Int), rfl, (by rw [show ((if (10 : Int) = 1 ∨ (10 : Int) = 2 ∨ (10 : Int) = 9 then (v 24) else a3) : Int) = a3 from by first | rfl | omega | ((repeat' split) <;> omega)]), (by rw [show ((if (10 : Int) = 1 ∨ (10 : Int) = 2 ∨ (10 : Int) = 9 then (f 28) else if (10 : Int) = 0 ∧ ¬ a2 < (f 18) ((f 25) ((ovO a3 (f 27) (fun k => (f 3) ((f 25) k)) on) a1 - 1) * 5 + (f 26) ((ovO a3 (f 27) (fun k => (f 3) ((f 25) k)) on) a1 - 1)) then u1 (ovE (v 25) a3 (f 30) (f 27) (fun k => (f 3) ((f 25) k)) (f 28)) ((ovO a3 (f 27) (fun k => (f 3) ((f 25) k)) on) a1 - 1) a3 else (ovE (v 25) a3 (f 30) (f 27) (fun k => (f 3) ((f 25) k)) (f 28))) : Int → Int) = (ovE (v 25) a3 (f 30) (f 27) (fun k => (f 3) ((f 25) k)) (f 28)) from by first | rfl | (rw [if_pos (by omega)]) | (rw [if_neg (by omega), if_neg (by first | omega | (rw [← hla]; omega))]) | (rw [if_neg (by omega), if_pos (by rw [← hla]; omega), hj]), show ((if (10 : Int) = 0 then u1 (f 29) ((ovO a3 (f 27) (fun k => (f 3) ((f 25) k)) on) a1 - 1) a2 else (f 29)) : Int → Int) = (f 29) from by first | rfl | (rw [if_neg (by omega)]) | (rw [if_pos (by omega), hj]), show ((if (10 : Int) = 1 ∨ (10 : Int) = 2 ∨ (10 : Int) = 9 then (f 30) else if (10 : Int) = 0 ∧ ¬ a2 < (f 18) ((f 25) ((ovO a3 (f 27) (fun k => (f 3) ((f 25) k)) on) a1 - 1) * 5 + (f 26) ((ovO a3 (f 27) (fun k => (f 3) ((f 25) k)) on) a1 - 1)) then u1 (ovH (v 25) a3 (f 30) (f 27) (fun k => (f 3) ((f 25) k))) ((ovO a3 (f 27) (fun k => (f 3) ((f 25) k)) on) a1 - 1) 1 else (ovH (v 25) a3 (f 30) (f 27) (fun k => (f 3) ((f 25) k)))) : Int → Int) = (ovH (v 25) a3 (f 30) (f 27) (fun k => (f 3) ((f 25) k))) from by first | rfl | (rw [if_pos (by omega)]) | (rw [if_neg (by omega), if_neg (by first | omega | (rw [← hla]; omega))]) | (rw [if_neg (by omega), if_pos (by rw [← hla]; omega), hj])]), rfl, (by first | (rw [if_pos (by omega)]) | (rw [if_neg (by omega), ← hla]; first | rw [if_pos (by omega)] | rw [if_neg (by omega)])), (by first | omega | ((repeat' split) <;> omega)), (by first | omega | (rw [← hla, ← hj]; (repeat' split) <;> omega) | (rw [← hj]; (repeat' split) <;> omega) | ((repeat' split) <;> omega))⟩
            · refine lv_aload_n hx hb dX11_reach_72 rfl (lv_at hl 2 rfl) ?_
              refine lv_iconst (v := iI 5) hx hb dX11_reach_73 rfl ?_
              refine g_cv (As := [.int (iI 5)]) (rest := []) (n := 1) C hml (m_X11_refuse l D k A ad hD (va_up (va_up (va_up v 0 0) 1 0) 24 a3) (va_up (va_up (va_up f 28 (ovE (v 25) a3 (f 30) (f 27) (fun k => (f 3) ((f 25) k)) (f 28))) 29 (f 29)) 30 (ovH (v 25) a3 (f 30) (f 27) (fun k => (f 3) ((f 25) k)))) g 5 (by decide) (show 0 ≤ (5 : Int) ∧ (5 : Int) ≤ 10 from by omega)) mM_X11_295 mI_X11_refuse mE_X11_refuse mN_X11 mC_X11_refuse (by decide +kernel) 0 (ci := 11) rfl rfl hP hS (fun _ h => h) ⟨Nat.le_of_ble_eq_true rfl, Nat.le_of_ble_eq_true rfl⟩ ⟨Nat.zero_le _, Nat.zero_le _⟩ hl.1 rfl rfl (Nat.le_of_ble_eq_true rfl) dX11_reach_74 (fun r_22 v_22 f_22 g_22 H locs hq_22 hP _ hS => ?_)
              obtain ⟨rfl, rfl, rfl, rfl⟩ := hq_22
              show W p l e (gRm 2 43) s m args below meth c _ _ 0 0 Q (F0 m 77 ls [.int (iI (-1))])
              have hP : gWd D (mdT k ad) (va_up (va_up (va_up v 0 (5 : Int)) 1 0) 24 a3) (va_up (va_up (va_up f 28 (ovE (v 25) a3 (f 30) (f 27) (fun k => (f 3) ((f 25) k)) (f 28))) 29 (f 29)) 30 (ovH (v 25) a3 (f 30) (f 27) (fun k => (f 3) ((f 25) k)))) g H := ⟨hP.1, (gF_up (V := mdV) (F := mdF) (gF_up (V := mdV) (F := mdF) (gF_up (V := mdV) (F := mdF) (gR_up (V := mdV) (F := mdF) (gR_up (V := mdV) (F := mdF) (gR_up (V := mdV) (F := mdF) ⟨hok.1, hok.2⟩ 0 (hP.2.1 0)) 1 (hP.2.1 1)) 24 (hP.2.1 24)) 28 (hP.2.2 28)) 29 (hP.2.2 29)) 30 (hP.2.2 30))⟩
              exact g_iret hQ C hr hlocks hP hS dX11_reach_77 ⟨(-1), (5 : Int), rfl, (by rw [show ((if (5 : Int) = 1 ∨ (5 : Int) = 2 ∨ (5 : Int) = 9 then (v 24) else a3) : Int) = a3 from by first | rfl | omega | ((repeat' split) <;> omega)]), (by rw [show ((if (5 : Int) = 1 ∨ (5 : Int) = 2 ∨ (5 : Int) = 9 then (f 28) else if (5 : Int) = 0 ∧ ¬ a2 < (f 18) ((f 25) ((ovO a3 (f 27) (fun k => (f 3) ((f 25) k)) on) a1 - 1) * 5 + (f 26) ((ovO a3 (f 27) (fun k => (f 3) ((f 25) k)) on) a1 - 1)) then u1 (ovE (v 25) a3 (f 30) (f 27) (fun k => (f 3) ((f 25) k)) (f 28)) ((ovO a3 (f 27) (fun k => (f 3) ((f 25) k)) on) a1 - 1) a3 else (ovE (v 25) a3 (f 30) (f 27) (fun k => (f 3) ((f 25) k)) (f 28))) : Int → Int) = (ovE (v 25) a3 (f 30) (f 27) (fun k => (f 3) ((f 25) k)) (f 28)) from by first | rfl | (rw [if_pos (by omega)]) | (rw [if_neg (by omega), if_neg (by first | omega | (rw [← hla]; omega))]) | (rw [if_neg (by omega), if_pos (by rw [← hla]; omega), hj]), show ((if (5 : Int) = 0 then u1 (f 29) ((ovO a3 (f 27) (fun k => (f 3) ((f 25) k)) on) a1 - 1) a2 else (f 29)) : Int → Int) = (f 29) from by first | rfl | (rw [if_neg (by omega)]) | (rw [if_pos (by omega), hj]), show ((if (5 : Int) = 1 ∨ (5 : Int) = 2 ∨ (5 : Int) = 9 then (f 30) else if (5 : Int) = 0 ∧ ¬ a2 < (f 18) ((f 25) ((ovO a3 (f 27) (fun k => (f 3) ((f 25) k)) on) a1 - 1) * 5 + (f 26) ((ovO a3 (f 27) (fun k => (f 3) ((f 25) k)) on) a1 - 1)) then u1 (ovH (v 25) a3 (f 30) (f 27) (fun k => (f 3) ((f 25) k))) ((ovO a3 (f 27) (fun k => (f 3) ((f 25) k)) on) a1 - 1) 1 else (ovH (v 25) a3 (f 30) (f 27) (fun k => (f 3) ((f 25) k)))) : Int → Int) = (ovH (v 25) a3 (f 30) (f 27) (fun k => (f 3) ((f 25) k))) from by first | rfl | (rw [if_pos (by omega)]) | (rw [if_neg (by omega), if_neg (by first | omega | (rw [← hla]; omega))]) | (rw [if_neg (by omega), if_pos (by rw [← hla]; omega), hj])]), rfl, (by first | (rw [if_pos (by omega)]) | (rw [if_neg (by omega), ← hla]; first | rw [if_pos (by omega)] | rw [if_neg (by omega)])), (by first | omega | ((repeat' split) <;> omega)), (by first | omega | (rw [← hla, ← hj]; (repeat' split) <;> omega) | (rw [← hj]; (repeat' split) <;> omega) | ((repeat' split) <;> omega))⟩
          · exfalso; omega
        · replace hP : gWd D (mdT k ad) (va_up (va_up (va_up v 0 0) 1 0) 24 (v 24)) (va_up (va_up (va_up f 28 (f 28)) 29 (f 29)) 30 (f 30)) g H := by have h9 := hP; simp only [if_neg hzp] at h9; exact h9
          refine lv_istore (lv' := [(4, .int (iI z_8)), (0, .ref (ad 0)), (1, .int (iI a1)), (2, .int (iI a2)), (3, .int (iI a3))]) hx hb dX11_reach_46 hl (by decide) rfl (fun ls hl => ?_)
          refine lv_iload hx hb dX11_reach_48 (lv_at hl 0 rfl) ?_
          refine gi_zle (tgt := 60) hx hb dX11_reach_50 (by decide) (by omega) (fun c_23 => ?_) (fun c_23 => ?_)
          · exfalso; omega
          · refine lv_aload_n hx hb dX11_reach_53 rfl (lv_at hl 1 rfl) ?_
            refine lv_iload hx hb dX11_reach_54 (lv_at hl 0 rfl) ?_
            refine g_cv (As := [.int (iI z_8)]) (rest := []) (n := 1) C hml (m_X11_refuse l D k A ad hD (va_up (va_up (va_up v 0 0) 1 0) 24 (v 24)) (va_up (va_up (va_up f 28 (f 28)) 29 (f 29)) 30 (f 30)) g z_8 (by omega) (show 0 ≤ z_8 ∧ z_8 ≤ 10 from by omega)) mM_X11_295 mI_X11_refuse mE_X11_refuse mN_X11 mC_X11_refuse (by decide +kernel) 0 (ci := 11) rfl rfl hP hS (fun _ h => h) ⟨Nat.le_of_ble_eq_true rfl, Nat.le_of_ble_eq_true rfl⟩ ⟨Nat.zero_le _, Nat.zero_le _⟩ hl.1 rfl rfl (Nat.le_of_ble_eq_true rfl) dX11_reach_56 (fun r_24 v_24 f_24 g_24 H locs hq_24 hP _ hS => ?_)
            obtain ⟨rfl, rfl, rfl, rfl⟩ := hq_24
            show W p l e (gRm 2 43) s m args below meth c _ _ 0 0 Q (F0 m 59 ls [.int (iI (-1))])
            have hP : gWd D (mdT k ad) (va_up (va_up (va_up v 0 z_8) 1 0) 24 (v 24)) (va_up (va_up (va_up f 28 (f 28)) 29 (f 29)) 30 (f 30)) g H := ⟨hP.1, (gF_up (V := mdV) (F := mdF) (gF_up (V := mdV) (F := mdF) (gF_up (V := mdV) (F := mdF) (gR_up (V := mdV) (F := mdF) (gR_up (V := mdV) (F := mdF) (gR_up (V := mdV) (F := mdF) ⟨hok.1, hok.2⟩ 0 (hP.2.1 0)) 1 (hP.2.1 1)) 24 (hP.2.1 24)) 28 (hP.2.2 28)) 29 (hP.2.2 29)) 30 (hP.2.2 30))⟩
            exact g_iret hQ C hr hlocks hP hS dX11_reach_59 ⟨(-1), z_8, rfl, (by rw [show ((if z_8 = 1 ∨ z_8 = 2 ∨ z_8 = 9 then (v 24) else a3) : Int) = (v 24) from by first | rfl | omega | ((repeat' split) <;> omega)]), (by rw [show ((if z_8 = 1 ∨ z_8 = 2 ∨ z_8 = 9 then (f 28) else if z_8 = 0 ∧ ¬ a2 < (f 18) ((f 25) ((ovO a3 (f 27) (fun k => (f 3) ((f 25) k)) on) a1 - 1) * 5 + (f 26) ((ovO a3 (f 27) (fun k => (f 3) ((f 25) k)) on) a1 - 1)) then u1 (ovE (v 25) a3 (f 30) (f 27) (fun k => (f 3) ((f 25) k)) (f 28)) ((ovO a3 (f 27) (fun k => (f 3) ((f 25) k)) on) a1 - 1) a3 else (ovE (v 25) a3 (f 30) (f 27) (fun k => (f 3) ((f 25) k)) (f 28))) : Int → Int) = (f 28) from by first | rfl | (rw [if_pos (by omega)]) | (rw [if_neg (by omega), if_neg (by first | omega | (rw [← hla]; omega))]) | (rw [if_neg (by omega), if_pos (by rw [← hla]; omega), hj]), show ((if z_8 = 0 then u1 (f 29) ((ovO a3 (f 27) (fun k => (f 3) ((f 25) k)) on) a1 - 1) a2 else (f 29)) : Int → Int) = (f 29) from by first | rfl | (rw [if_neg (by omega)]) | (rw [if_pos (by omega), hj]), show ((if z_8 = 1 ∨ z_8 = 2 ∨ z_8 = 9 then (f 30) else if z_8 = 0 ∧ ¬ a2 < (f 18) ((f 25) ((ovO a3 (f 27) (fun k => (f 3) ((f 25) k)) on) a1 - 1) * 5 + (f 26) ((ovO a3 (f 27) (fun k => (f 3) ((f 25) k)) on) a1 - 1)) then u1 (ovH (v 25) a3 (f 30) (f 27) (fun k => (f 3) ((f 25) k))) ((ovO a3 (f 27) (fun k => (f 3) ((f 25) k)) on) a1 - 1) 1 else (ovH (v 25) a3 (f 30) (f 27) (fun k => (f 3) ((f 25) k)))) : Int → Int) = (f 30) from by first | rfl | (rw [if_pos (by omega)]) | (rw [if_neg (by omega), if_neg (by first | omega | (rw [← hla]; omega))]) | (rw [if_neg (by omega), if_pos (by rw [← hla]; omega), hj])]), rfl, (by first | (rw [if_pos (by omega)]) | (rw [if_neg (by omega), ← hla]; first | rw [if_pos (by omega)] | rw [if_neg (by omega)])), (by first | omega | ((repeat' split) <;> omega)), (by first | omega | (rw [← hla, ← hj]; (repeat' split) <;> omega) | (rw [← hj]; (repeat' split) <;> omega) | ((repeat' split) <;> omega))⟩
      · refine lv_aload_n hx hb dX11_reach_35 rfl (lv_at hl 0 rfl) ?_
        refine lv_iconst (v := iI 2) hx hb dX11_reach_36 rfl ?_
        refine g_cv (As := [.int (iI 2)]) (rest := []) (n := 1) C hml (m_X11_refuse l D k A ad hD (va_up (va_up (va_up v 0 0) 1 0) 24 (v 24)) (va_up (va_up (va_up f 28 (f 28)) 29 (f 29)) 30 (f 30)) g 2 (by decide) (show 0 ≤ (2 : Int) ∧ (2 : Int) ≤ 10 from by omega)) mM_X11_295 mI_X11_refuse mE_X11_refuse mN_X11 mC_X11_refuse (by decide +kernel) 0 (ci := 11) rfl rfl hP hS (fun _ h => h) ⟨Nat.le_of_ble_eq_true rfl, Nat.le_of_ble_eq_true rfl⟩ ⟨Nat.zero_le _, Nat.zero_le _⟩ hl.1 rfl rfl (Nat.le_of_ble_eq_true rfl) dX11_reach_37 (fun r_25 v_25 f_25 g_25 H locs hq_25 hP _ hS => ?_)
        obtain ⟨rfl, rfl, rfl, rfl⟩ := hq_25
        show W p l e (gRm 2 43) s m args below meth c _ _ 0 0 Q (F0 m 40 ls [.int (iI (-1))])
        have hP : gWd D (mdT k ad) (va_up (va_up (va_up v 0 (2 : Int)) 1 0) 24 (v 24)) (va_up (va_up (va_up f 28 (f 28)) 29 (f 29)) 30 (f 30)) g H := ⟨hP.1, (gF_up (V := mdV) (F := mdF) (gF_up (V := mdV) (F := mdF) (gF_up (V := mdV) (F := mdF) (gR_up (V := mdV) (F := mdF) (gR_up (V := mdV) (F := mdF) (gR_up (V := mdV) (F := mdF) ⟨hok.1, hok.2⟩ 0 (hP.2.1 0)) 1 (hP.2.1 1)) 24 (hP.2.1 24)) 28 (hP.2.2 28)) 29 (hP.2.2 29)) 30 (hP.2.2 30))⟩
        exact g_iret hQ C hr hlocks hP hS dX11_reach_40 ⟨(-1), (2 : Int), rfl, (by rw [show ((if (2 : Int) = 1 ∨ (2 : Int) = 2 ∨ (2 : Int) = 9 then (v 24) else a3) : Int) = (v 24) from by first | rfl | omega | ((repeat' split) <;> omega)]), (by rw [show ((if (2 : Int) = 1 ∨ (2 : Int) = 2 ∨ (2 : Int) = 9 then (f 28) else if (2 : Int) = 0 ∧ ¬ a2 < (f 18) ((f 25) ((ovO a3 (f 27) (fun k => (f 3) ((f 25) k)) on) a1 - 1) * 5 + (f 26) ((ovO a3 (f 27) (fun k => (f 3) ((f 25) k)) on) a1 - 1)) then u1 (ovE (v 25) a3 (f 30) (f 27) (fun k => (f 3) ((f 25) k)) (f 28)) ((ovO a3 (f 27) (fun k => (f 3) ((f 25) k)) on) a1 - 1) a3 else (ovE (v 25) a3 (f 30) (f 27) (fun k => (f 3) ((f 25) k)) (f 28))) : Int → Int) = (f 28) from by first | rfl | (rw [if_pos (by omega)]) | (rw [if_neg (by omega), if_neg (by first | omega | (rw [← hla]; omega))]) | (rw [if_neg (by omega), if_pos (by rw [← hla]; omega), hj]), show ((if (2 : Int) = 0 then u1 (f 29) ((ovO a3 (f 27) (fun k => (f 3) ((f 25) k)) on) a1 - 1) a2 else (f 29)) : Int → Int) = (f 29) from by first | rfl | (rw [if_neg (by omega)]) | (rw [if_pos (by omega), hj]), show ((if (2 : Int) = 1 ∨ (2 : Int) = 2 ∨ (2 : Int) = 9 then (f 30) else if (2 : Int) = 0 ∧ ¬ a2 < (f 18) ((f 25) ((ovO a3 (f 27) (fun k => (f 3) ((f 25) k)) on) a1 - 1) * 5 + (f 26) ((ovO a3 (f 27) (fun k => (f 3) ((f 25) k)) on) a1 - 1)) then u1 (ovH (v 25) a3 (f 30) (f 27) (fun k => (f 3) ((f 25) k))) ((ovO a3 (f 27) (fun k => (f 3) ((f 25) k)) on) a1 - 1) 1 else (ovH (v 25) a3 (f 30) (f 27) (fun k => (f 3) ((f 25) k)))) : Int → Int) = (f 30) from by first | rfl | (rw [if_pos (by omega)]) | (rw [if_neg (by omega), if_neg (by first | omega | (rw [← hla]; omega))]) | (rw [if_neg (by omega), if_pos (by rw [← hla]; omega), hj])]), rfl, (by first | (rw [if_pos (by omega)]) | (rw [if_neg (by omega), ← hla]; first | rw [if_pos (by omega)] | rw [if_neg (by omega)])), (by first | omega | ((repeat' split) <;> omega)), (by first | omega | (rw [← hla, ← hj]; (repeat' split) <;> omega) | (rw [← hj]; (repeat' split) <;> omega) | ((repeat' split) <;> omega))⟩
  · have vz_3 := gif0 w_3 c_4
    clear w_3
    refine lv_aload_n hx hb dX11_reach_18 rfl (lv_at hl 0 rfl) ?_
    refine lv_iconst (v := iI 1) hx hb dX11_reach_19 rfl ?_
    refine g_cv (As := [.int (iI 1)]) (rest := []) (n := 1) C hml (m_X11_refuse l D k A ad hD (va_up (va_up (va_up v 0 0) 1 0) 24 (v 24)) (va_up (va_up (va_up f 28 (f 28)) 29 (f 29)) 30 (f 30)) g 1 (by decide) (show 0 ≤ (1 : Int) ∧ (1 : Int) ≤ 10 from by omega)) mM_X11_295 mI_X11_refuse mE_X11_refuse mN_X11 mC_X11_refuse (by decide +kernel) 0 (ci := 11) rfl rfl hP hS (fun _ h => h) ⟨Nat.le_of_ble_eq_true rfl, Nat.le_of_ble_eq_true rfl⟩ ⟨Nat.zero_le _, Nat.zero_le _⟩ hl.1 rfl rfl (Nat.le_of_ble_eq_true rfl) dX11_reach_20 (fun r_26 v_26 f_26 g_26 H locs hq_26 hP _ hS => ?_)
    obtain ⟨rfl, rfl, rfl, rfl⟩ := hq_26
    show W p l e (gRm 2 43) s m args below meth c _ _ 0 0 Q (F0 m 23 ls [.int (iI (-1))])
    have hP : gWd D (mdT k ad) (va_up (va_up (va_up v 0 (1 : Int)) 1 0) 24 (v 24)) (va_up (va_up (va_up f 28 (f 28)) 29 (f 29)) 30 (f 30)) g H := ⟨hP.1, (gF_up (V := mdV) (F := mdF) (gF_up (V := mdV) (F := mdF) (gF_up (V := mdV) (F := mdF) (gR_up (V := mdV) (F := mdF) (gR_up (V := mdV) (F := mdF) (gR_up (V := mdV) (F := mdF) ⟨hok.1, hok.2⟩ 0 (hP.2.1 0)) 1 (hP.2.1 1)) 24 (hP.2.1 24)) 28 (hP.2.2 28)) 29 (hP.2.2 29)) 30 (hP.2.2 30))⟩
    exact g_iret hQ C hr hlocks hP hS dX11_reach_23 ⟨(-1), (1 : Int), rfl, (by rw [show ((if (1 : Int) = 1 ∨ (1 : Int) = 2 ∨ (1 : Int) = 9 then (v 24) else a3) : Int) = (v 24) from by first | rfl | omega | ((repeat' split) <;> omega)]), (by rw [show ((if (1 : Int) = 1 ∨ (1 : Int) = 2 ∨ (1 : Int) = 9 then (f 28) else if (1 : Int) = 0 ∧ ¬ a2 < (f 18) ((f 25) ((ovO a3 (f 27) (fun k => (f 3) ((f 25) k)) on) a1 - 1) * 5 + (f 26) ((ovO a3 (f 27) (fun k => (f 3) ((f 25) k)) on) a1 - 1)) then u1 (ovE (v 25) a3 (f 30) (f 27) (fun k => (f 3) ((f 25) k)) (f 28)) ((ovO a3 (f 27) (fun k => (f 3) ((f 25) k)) on) a1 - 1) a3 else (ovE (v 25) a3 (f 30) (f 27) (fun k => (f 3) ((f 25) k)) (f 28))) : Int → Int) = (f 28) from by first | rfl | (rw [if_pos (by omega)]) | (rw [if_neg (by omega), if_neg (by first | omega | (rw [← hla]; omega))]) | (rw [if_neg (by omega), if_pos (by rw [← hla]; omega), hj]), show ((if (1 : Int) = 0 then u1 (f 29) ((ovO a3 (f 27) (fun k => (f 3) ((f 25) k)) on) a1 - 1) a2 else (f 29)) : Int → Int) = (f 29) from by first | rfl | (rw [if_neg (by omega)]) | (rw [if_pos (by omega), hj]), show ((if (1 : Int) = 1 ∨ (1 : Int) = 2 ∨ (1 : Int) = 9 then (f 30) else if (1 : Int) = 0 ∧ ¬ a2 < (f 18) ((f 25) ((ovO a3 (f 27) (fun k => (f 3) ((f 25) k)) on) a1 - 1) * 5 + (f 26) ((ovO a3 (f 27) (fun k => (f 3) ((f 25) k)) on) a1 - 1)) then u1 (ovH (v 25) a3 (f 30) (f 27) (fun k => (f 3) ((f 25) k))) ((ovO a3 (f 27) (fun k => (f 3) ((f 25) k)) on) a1 - 1) 1 else (ovH (v 25) a3 (f 30) (f 27) (fun k => (f 3) ((f 25) k)))) : Int → Int) = (f 30) from by first | rfl | (rw [if_pos (by omega)]) | (rw [if_neg (by omega), if_neg (by first | omega | (rw [← hla]; omega))]) | (rw [if_neg (by omega), if_pos (by rw [← hla]; omega), hj])]), rfl, (by first | (rw [if_pos (by omega)]) | (rw [if_neg (by omega), ← hla]; first | rw [if_pos (by omega)] | rw [if_neg (by omega)])), (by first | omega | ((repeat' split) <;> omega)), (by first | omega | (rw [← hla, ← hj]; (repeat' split) <;> omega) | (rw [← hj]; (repeat' split) <;> omega) | ((repeat' split) <;> omega))⟩

set_option maxHeartbeats 4000000 in
set_option maxRecDepth 100000 in
theorem y_fall (l : Launch) (D : va_G) (k : Nat → ClassId) (A : Nat → Prop) (ad : Nat → Nat) (hD : mdD A k ad) (v : gV) (f g : gF) (a1 : Int) (a2 : Int) (a3 : Int) (on : Int → Int) (h_a1 : inR a1) (h_a2 : inR a2) (h_a3 : inR a3) (hO : OI (v 25) (f 24) (f 30) on) : GM l D k A (mdT k ad) yX11_fall cX11_fall 6 (some .boolean) 2 43 [.ref (ad 0), .int (iI a1), .int (iI a2), .int (iI a3)] v f g (fun r v1 f1 g1 => ∃ (z : Int) (w0 : Int), r = some (.int (iI z)) ∧ (va_up (va_up (va_up v 0 w0) 1 0) 24 (if w0 = 1 ∨ w0 = 2 ∨ w0 = 9 then (v 24) else a2)) = v1 ∧ (va_up (va_up f 28 (if w0 = 1 ∨ w0 = 2 ∨ w0 = 9 then (f 28) else if w0 = 0 then u1 (ovE (v 25) a2 (f 30) (f 27) (fun k => (f 3) ((f 25) k)) (f 28)) ((ovO a2 (f 27) (fun k => (f 3) ((f 25) k)) on) a1 - 1) a2 else (ovE (v 25) a2 (f 30) (f 27) (fun k => (f 3) ((f 25) k)) (f 28)))) 30 (if w0 = 1 ∨ w0 = 2 ∨ w0 = 9 then (f 30) else if w0 = 0 then u1 (ovH (v 25) a2 (f 30) (f 27) (fun k => (f 3) ((f 25) k))) ((ovO a2 (f 27) (fun k => (f 3) ((f 25) k)) on) a1 - 1) (if a3 = 0 then 2 else 4) else (ovH (v 25) a2 (f 30) (f 27) (fun k => (f 3) ((f 25) k))))) = f1 ∧ g = g1 ∧ (z = (if w0 = 0 then 1 else 0)) ∧ (w0 = (if ¬ (0 ≤ a1 ∧ a1 < (v 22)) then 1 else if (if a2 < 0 ∨ 1000000 < a2 then (2 : Int) else if a2 < (v 24) then 9 else 0) ≠ 0 then (if a2 < 0 ∨ 1000000 < a2 then (2 : Int) else if a2 < (v 24) then 9 else 0) else if (ovO a2 (f 27) (fun k => (f 3) ((f 25) k)) on) a1 = 0 then 5 else 0))) := by
  refine GM.of (by decide) (Nat.le_of_ble_eq_true rfl) ?_
  intro p e s m args below meth c Q ls hQ C hml hr hlocks hP hl
  have hx := C.1
  have hb := C.2.1
  have hok := hP.2
  have hS : va_S A s.heap s.heap [] := va_S.rf
  have hl : lv_has ls 6 [(0, .ref (ad 0)), (1, .int (iI a1)), (2, .int (iI a2)), (3, .int (iI a3))] := hl
  have hP : gWd D (mdT k ad) (va_up (va_up (va_up v 0 (v 0)) 1 (v 1)) 24 (v 24)) (va_up (va_up f 28 (f 28)) 30 (f 30)) g s.heap := by rw [va_id, va_id, va_id, va_id, va_id]; exact hP
  have hwr : ∀ k, 0 ≤ (f 24) k ∧ (f 24) k ≤ 15 := fun k => hok.2 24 k
  have r_1 : 0 ≤ (v 22) ∧ (v 22) ≤ 16 := hok.1 22
  have r_2 : 0 ≤ (v 25) ∧ (v 25) ≤ 300 := hok.1 25
  refine lv_aload_n hx hb dX11_fall_0 rfl (lv_at hl 0 rfl) ?_
  refine lv_iconst (v := iI 0) hx hb dX11_fall_1 rfl ?_
  refine mdP_thrown (v1 := (va_up (va_up (va_up v 0 (v 0)) 1 0) 24 (v 24))) C hP hD hS mF_X11_146 (by decide) rfl (Or.inr (gF_up (V := mdV) (F := mdF) (gF_up (V := mdV) (F := mdF) (gR_up (V := mdV) (F := mdF) (gR_up (V := mdV) (F := mdF) (gR_up (V := mdV) (F := mdF) ⟨hok.1, hok.2⟩ 0 (hP.2.1 0)) 1 (show 0 ≤ 0 ∧ 0 ≤ 0 from by decide)) 24 (hP.2.1 24)) 28 (hP.2.2 28)) 30 (hP.2.2 30))) dX11_fall_2 (fun H locs hP hS => ?_)
  refine lv_aload_n hx hb dX11_fall_5 rfl (lv_at hl 0 rfl) ?_
  refine lv_iconst (v := iI 0) hx hb dX11_fall_6 rfl ?_
  refine mdP_status (v1 := (va_up (va_up (va_up v 0 0) 1 0) 24 (v 24))) C hP hD hS mF_X11_149 (by decide) rfl (Or.inr (gF_up (V := mdV) (F := mdF) (gF_up (V := mdV) (F := mdF) (gR_up (V := mdV) (F := mdF) (gR_up (V := mdV) (F := mdF) (gR_up (V := mdV) (F := mdF) ⟨hok.1, hok.2⟩ 0 (show 0 ≤ 0 ∧ 0 ≤ 10 from by decide)) 1 (hP.2.1 1)) 24 (hP.2.1 24)) 28 (hP.2.2 28)) 30 (hP.2.2 30))) dX11_fall_7 (fun H locs hP hS => ?_)
  refine lv_aload_n hx hb dX11_fall_10 rfl (lv_at hl 0 rfl) ?_
  refine lv_iload_n hx hb dX11_fall_11 rfl (lv_at hl 1 rfl) ?_
  refine g_cv (As := [.int (iI a1)]) (rest := []) (n := 1) C hml (m_X11_isClimber l D k A ad hD (va_up (va_up (va_up v 0 0) 1 0) 24 (v 24)) (va_up (va_up f 28 (f 28)) 30 (f 30)) g a1 (by omega)) mM_X11_349 mI_X11_isClimber mE_X11_isClimber mN_X11 mC_X11_isClimber (by decide +kernel) 0 (ci := 11) rfl rfl hP hS (fun _ h => h) ⟨Nat.le_of_ble_eq_true rfl, Nat.le_of_ble_eq_true rfl⟩ ⟨Nat.zero_le _, Nat.zero_le _⟩ hl.1 rfl rfl (Nat.le_of_ble_eq_true rfl) dX11_fall_12 (fun r_3 v_3 f_3 g_3 H locs hq_3 hP _ hS => ?_)
  obtain ⟨z_3, rfl, rfl, rfl, rfl, p0_3, p1_3⟩ := hq_3
  show W p l e (gRm 2 43) s m args below meth c _ _ 0 0 Q (F0 m 15 ls [.int (iI z_3)])
  replace p0_3 : z_3 = (if 0 ≤ a1 ∧ a1 < (v 22) then 1 else 0) := p0_3
  have w_3 := gif (P := 0 ≤ a1 ∧ a1 < (v 22)) p0_3
  clear p0_3
  replace p1_3 : z_3 = 1 → 0 ≤ a1 ∧ a1 ≤ 15 := p1_3
  have hz_3 : inR z_3 := (by first | omega | (rw [p0_3]; split <;> omega))
  refine gi_zne (tgt := 24) hx hb dX11_fall_15 (by decide) (by omega) (fun c_4 => ?_) (fun c_4 => ?_)
  · have vz_3 := gif1 w_3 c_4
    have voz_3 := gif1o w_3 c_4
    clear w_3
    refine lv_aload_n hx hb dX11_fall_24 rfl (lv_at hl 0 rfl) ?_
    refine lv_iload_n hx hb dX11_fall_25 rfl (lv_at hl 2 rfl) ?_
    refine g_cv (As := [.int (iI a2)]) (rest := []) (n := 1) C hml (y_clocked l D k A ad hD (va_up (va_up (va_up v 0 0) 1 0) 24 (v 24)) (va_up (va_up f 28 (f 28)) 30 (f 30)) g a2 (by omega)) mM_X11_352 mI_X11_clocked mE_X11_clocked mN_X11 mC_X11_clocked (by decide +kernel) 0 (ci := 11) rfl rfl hP hS (fun _ h => h) ⟨Nat.le_of_ble_eq_true rfl, Nat.le_of_ble_eq_true rfl⟩ ⟨Nat.zero_le _, Nat.zero_le _⟩ hl.1 rfl rfl (Nat.le_of_ble_eq_true rfl) dX11_fall_26 (fun r_5 v_5 f_5 g_5 H locs hq_5 hP _ hS => ?_)
    obtain ⟨z_5, rfl, rfl, rfl, rfl, p0_5⟩ := hq_5
    show W p l e (gRm 2 43) s m args below meth c _ _ 0 0 Q (F0 m 29 ls [.int (iI z_5)])
    have hP : gWd D (mdT k ad) (va_up (va_up (va_up v 0 0) 1 0) 24 (if z_5 = 0 then a2 else (v 24))) (va_up (va_up f 28 (if z_5 = 0 then (ovE (v 25) a2 (f 30) (f 27) (fun k => (f 3) ((f 25) k)) (f 28)) else (f 28))) 30 (if z_5 = 0 then (ovH (v 25) a2 (f 30) (f 27) (fun k => (f 3) ((f 25) k))) else (f 30))) g H := ⟨hP.1, (gF_up (V := mdV) (F := mdF) (gF_up (V := mdV) (F := mdF) (gR_up (V := mdV) (F := mdF) (gR_up (V := mdV) (F := mdF) (gR_up (V := mdV) (F := mdF) ⟨hok.1, hok.2⟩ 0 (hP.2.1 0)) 1 (hP.2.1 1)) 24 (hP.2.1 24)) 28 (hP.2.2 28)) 30 (hP.2.2 30))⟩
    replace p0_5 : z_5 = (if a2 < 0 ∨ 1000000 < a2 then (2 : Int) else if a2 < (v 24) then 9 else 0) := p0_5
    have hz_5 : inR z_5 := (by first | omega | (rw [p0_5]; split <;> omega))
    have hpz := p0_5
    clear p0_5
    rcases (show z_5 = 0 ∨ z_5 ≠ 0 by omega) with hzp | hzp
    · replace hP : gWd D (mdT k ad) (va_up (va_up (va_up v 0 0) 1 0) 24 a2) (va_up (va_up f 28 (ovE (v 25) a2 (f 30) (f 27) (fun k => (f 3) ((f 25) k)) (f 28))) 30 (ovH (v 25) a2 (f 30) (f 27) (fun k => (f 3) ((f 25) k)))) g H := by have h9 := hP; simp only [if_pos hzp] at h9; exact h9
      have hO2 : OI (v 25) (f 24) (ovH (v 25) a2 (f 30) (f 27) (fun k => (f 3) ((f 25) k))) (ovO a2 (f 27) (fun k => (f 3) ((f 25) k)) on) := OI_ov hO hwr
      refine lv_istore (lv' := [(4, .int (iI z_5)), (0, .ref (ad 0)), (1, .int (iI a1)), (2, .int (iI a2)), (3, .int (iI a3))]) hx hb dX11_fall_29 hl (by decide) rfl (fun ls hl => ?_)
      refine lv_iload hx hb dX11_fall_31 (lv_at hl 0 rfl) ?_
      refine gi_zle (tgt := 43) hx hb dX11_fall_33 (by decide) (by omega) (fun c_6 => ?_) (fun c_6 => ?_)
      · refine lv_aload_n hx hb dX11_fall_43 rfl (lv_at hl 1 rfl) ?_
        refine lv_iload_n hx hb dX11_fall_44 rfl (lv_at hl 2 rfl) ?_
        refine g_cv (As := [.int (iI a1)]) (rest := []) (n := 1) C hml (y_openTry l D k A ad hD (va_up (va_up (va_up v 0 0) 1 0) 24 a2) (va_up (va_up f 28 (ovE (v 25) a2 (f 30) (f 27) (fun k => (f 3) ((f 25) k)) (f 28))) 30 (ovH (v 25) a2 (f 30) (f 27) (fun k => (f 3) ((f 25) k)))) g a1 (ovO a2 (f 27) (fun k => (f 3) ((f 25) k)) on) (by omega) (show OI (v 25) (f 24) (ovH (v 25) a2 (f 30) (f 27) (fun k => (f 3) ((f 25) k))) (ovO a2 (f 27) (fun k => (f 3) ((f 25) k)) on) from hO2) (show 0 ≤ a1 ∧ a1 ≤ 15 from by omega)) mM_X11_355 mI_X11_openTry mE_X11_openTry mN_X11 mC_X11_openTry (by decide +kernel) 0 (ci := 11) rfl rfl hP hS (fun _ h => h) ⟨Nat.le_of_ble_eq_true rfl, Nat.le_of_ble_eq_true rfl⟩ ⟨Nat.zero_le _, Nat.zero_le _⟩ hl.1 rfl rfl (Nat.le_of_ble_eq_true rfl) dX11_fall_45 (fun r_7 v_7 f_7 g_7 H locs hq_7 hP _ hS => ?_)
        obtain ⟨z_7, rfl, rfl, rfl, rfl, p0_7, p1_7⟩ := hq_7
        show W p l e (gRm 2 43) s m args below meth c _ _ 0 0 Q (F0 m 48 ls [.int (iI z_7)])
        replace p0_7 : z_7 = ((ovO a2 (f 27) (fun k => (f 3) ((f 25) k)) on) a1 - 1) := p0_7
        replace p1_7 : (-1) ≤ z_7 ∧ z_7 ≤ 299 := p1_7
        have hz_7 : inR z_7 := (by first | omega | (rw [p0_7]; split <;> omega))
        have hj : z_7 = (ovO a2 (f 27) (fun k => (f 3) ((f 25) k)) on) a1 - 1 := p0_7
        refine lv_istore (lv' := [(5, .int (iI z_7)), (4, .int (iI z_5)), (0, .ref (ad 0)), (1, .int (iI a1)), (2, .int (iI a2)), (3, .int (iI a3))]) hx hb dX11_fall_48 hl (by decide) rfl (fun ls hl => ?_)
        refine lv_iload hx hb dX11_fall_50 (lv_at hl 0 rfl) ?_
        refine gi_zge (tgt := 61) hx hb dX11_fall_52 (by decide) (by omega) (fun c_8 => ?_) (fun c_8 => ?_)
        · refine lv_aload_n hx hb dX11_fall_61 rfl (lv_at hl 2 rfl) ?_
          refine mdG_how C hP mF_X11_112 dX11_fall_62 ?_
          refine lv_iload hx hb dX11_fall_65 (lv_at hl 0 rfl) ?_
          refine lv_iload_n hx hb dX11_fall_67 rfl (lv_at hl 5 rfl) ?_
          refine gi_zeq (tgt := 75) hx hb dX11_fall_68 (by decide) (by omega) (fun c_9 => ?_) (fun c_9 => ?_)
          · refine lv_iconst (v := iI 2) hx hb dX11_fall_75 rfl ?_
            refine mdS_how (f1 := (va_up (va_up f 28 (ovE (v 25) a2 (f 30) (f 27) (fun k => (f 3) ((f 25) k)) (f 28))) 30 (u1 (ovH (v 25) a2 (f 30) (f 27) (fun k => (f 3) ((f 25) k))) z_7 2))) C hP hD hS (by omega) (by omega) (by decide) rfl (Or.inr (gF_up (V := mdV) (F := mdF) (gF_up (V := mdV) (F := mdF) (gR_up (V := mdV) (F := mdF) (gR_up (V := mdV) (F := mdF) (gR_up (V := mdV) (F := mdF) ⟨hok.1, hok.2⟩ 0 (hP.2.1 0)) 1 (hP.2.1 1)) 24 (hP.2.1 24)) 28 (hP.2.2 28)) 30 (u1_rng (hP.2.2 30) (show 0 ≤ 2 ∧ 2 ≤ 4 from (by decide))))) dX11_fall_76 (fun H locs hP hS => ?_)
            refine lv_aload_n hx hb dX11_fall_77 rfl (lv_at hl 2 rfl) ?_
            refine mdG_to C hP mF_X11_106 dX11_fall_78 ?_
            refine lv_iload hx hb dX11_fall_81 (lv_at hl 0 rfl) ?_
            refine lv_iload_n hx hb dX11_fall_83 rfl (lv_at hl 4 rfl) ?_
            refine mdS_to (f1 := (va_up (va_up f 28 (u1 (ovE (v 25) a2 (f 30) (f 27) (fun k => (f 3) ((f 25) k)) (f 28)) z_7 a2)) 30 (u1 (ovH (v 25) a2 (f 30) (f 27) (fun k => (f 3) ((f 25) k))) z_7 2))) C hP hD hS (by omega) (by omega) (by omega) rfl (Or.inr (gF_up (V := mdV) (F := mdF) (gF_up (V := mdV) (F := mdF) (gR_up (V := mdV) (F := mdF) (gR_up (V := mdV) (F := mdF) (gR_up (V := mdV) (F := mdF) ⟨hok.1, hok.2⟩ 0 (hP.2.1 0)) 1 (hP.2.1 1)) 24 (hP.2.1 24)) 28 (u1_rng (hP.2.2 28) (show (-1) ≤ a2 ∧ a2 ≤ 1000999 from (by omega)))) 30 (hP.2.2 30))) dX11_fall_84 (fun H locs hP hS => ?_)
            refine lv_iconst (v := iI 1) hx hb dX11_fall_85 rfl ?_
            exact g_zret hQ C hr hlocks (by decide) hP hS dX11_fall_86 ⟨1, 0, rfl, (by rw [show ((if (0 : Int) = 1 ∨ (0 : Int) = 2 ∨ (0 : Int) = 9 then (v 24) else a2) : Int) = a2 from by first | rfl | omega | ((repeat' split) <;> omega)]), (by rw [show ((if (0 : Int) = 1 ∨ (0 : Int) = 2 ∨ (0 : Int) = 9 then (f 28) else if (0 : Int) = 0 then u1 (ovE (v 25) a2 (f 30) (f 27) (fun k => (f 3) ((f 25) k)) (f 28)) ((ovO a2 (f 27) (fun k => (f 3) ((f 25) k)) on) a1 - 1) a2 else (ovE (v 25) a2 (f 30) (f 27) (fun k => (f 3) ((f 25) k)) (f 28))) : Int → Int) = (u1 (ovE (v 25) a2 (f 30) (f 27) (fun k => (f 3) ((f 25) k)) (f 28)) z_7 a2) from by first | rfl | (rw [if_pos (by omega)]) | (rw [if_neg (by omega), if_neg (by omega)]) | (rw [if_neg (by omega), if_pos (by omega), hj]), show ((if (0 : Int) = 1 ∨ (0 : Int) = 2 ∨ (0 : Int) = 9 then (f 30) else if (0 : Int) = 0 then u1 (ovH (v 25) a2 (f 30) (f 27) (fun k => (f 3) ((f 25) k))) ((ovO a2 (f 27) (fun k => (f 3) ((f 25) k)) on) a1 - 1) (if a3 = 0 then 2 else 4) else (ovH (v 25) a2 (f 30) (f 27) (fun k => (f 3) ((f 25) k)))) : Int → Int) = (u1 (ovH (v 25) a2 (f 30) (f 27) (fun k => (f 3) ((f 25) k))) z_7 2) from by first | rfl | (rw [if_pos (by omega)]) | (rw [if_neg (by omega), if_neg (by omega)]) | (rw [if_neg (by omega), if_pos (by omega), hj]; first | rw [if_pos (by omega)] | rw [if_neg (by omega)])]), rfl, (by first | omega | ((repeat' split) <;> omega)), (by first | omega | ((repeat' split) <;> omega))⟩
          · refine lv_iconst (v := iI 4) hx hb dX11_fall_71 rfl ?_
            refine lv_goto (tgt := 76) hx hb dX11_fall_72 (by decide) ?_
            refine mdS_how (f1 := (va_up (va_up f 28 (ovE (v 25) a2 (f 30) (f 27) (fun k => (f 3) ((f 25) k)) (f 28))) 30 (u1 (ovH (v 25) a2 (f 30) (f 27) (fun k => (f 3) ((f 25) k))) z_7 4))) C hP hD hS (by omega) (by omega) (by decide) rfl (Or.inr (gF_up (V := mdV) (F := mdF) (gF_up (V := mdV) (F := mdF) (gR_up (V := mdV) (F := mdF) (gR_up (V := mdV) (F := mdF) (gR_up (V := mdV) (F := mdF) ⟨hok.1, hok.2⟩ 0 (hP.2.1 0)) 1 (hP.2.1 1)) 24 (hP.2.1 24)) 28 (hP.2.2 28)) 30 (u1_rng (hP.2.2 30) (show 0 ≤ 4 ∧ 4 ≤ 4 from (by decide))))) dX11_fall_76 (fun H locs hP hS => ?_)
            refine lv_aload_n hx hb dX11_fall_77 rfl (lv_at hl 2 rfl) ?_
            refine mdG_to C hP mF_X11_106 dX11_fall_78 ?_
            refine lv_iload hx hb dX11_fall_81 (lv_at hl 0 rfl) ?_
            refine lv_iload_n hx hb dX11_fall_83 rfl (lv_at hl 4 rfl) ?_
            refine mdS_to (f1 := (va_up (va_up f 28 (u1 (ovE (v 25) a2 (f 30) (f 27) (fun k => (f 3) ((f 25) k)) (f 28)) z_7 a2)) 30 (u1 (ovH (v 25) a2 (f 30) (f 27) (fun k => (f 3) ((f 25) k))) z_7 4))) C hP hD hS (by omega) (by omega) (by omega) rfl (Or.inr (gF_up (V := mdV) (F := mdF) (gF_up (V := mdV) (F := mdF) (gR_up (V := mdV) (F := mdF) (gR_up (V := mdV) (F := mdF) (gR_up (V := mdV) (F := mdF) ⟨hok.1, hok.2⟩ 0 (hP.2.1 0)) 1 (hP.2.1 1)) 24 (hP.2.1 24)) 28 (u1_rng (hP.2.2 28) (show (-1) ≤ a2 ∧ a2 ≤ 1000999 from (by omega)))) 30 (hP.2.2 30))) dX11_fall_84 (fun H locs hP hS => ?_)
            refine lv_iconst (v := iI 1) hx hb dX11_fall_85 rfl ?_
            exact g_zret hQ C hr hlocks (by decide) hP hS dX11_fall_86 ⟨1, 0, rfl, (by rw [show ((if (0 : Int) = 1 ∨ (0 : Int) = 2 ∨ (0 : Int) = 9 then (v 24) else a2) : Int) = a2 from by first | rfl | omega | ((repeat' split) <;> omega)]), (by rw [show ((if (0 : Int) = 1 ∨ (0 : Int) = 2 ∨ (0 : Int) = 9 then (f 28) else if (0 : Int) = 0 then u1 (ovE (v 25) a2 (f 30) (f 27) (fun k => (f 3) ((f 25) k)) (f 28)) ((ovO a2 (f 27) (fun k => (f 3) ((f 25) k)) on) a1 - 1) a2 else (ovE (v 25) a2 (f 30) (f 27) (fun k => (f 3) ((f 25) k)) (f 28))) : Int → Int) = (u1 (ovE (v 25) a2 (f 30) (f 27) (fun k => (f 3) ((f 25) k)) (f 28)) z_7 a2) from by first | rfl | (rw [if_pos (by omega)]) | (rw [if_neg (by omega), if_neg (by omega)]) | (rw [if_neg (by omega), if_pos (by omega), hj]), show ((if (0 : Int) = 1 ∨ (0 : Int) = 2 ∨ (0 : Int) = 9 then (f 30) else if (0 : Int) = 0 then u1 (ovH (v 25) a2 (f 30) (f 27) (fun k => (f 3) ((f 25) k))) ((ovO a2 (f 27) (fun k => (f 3) ((f 25) k)) on) a1 - 1) (if a3 = 0 then 2 else 4) else (ovH (v 25) a2 (f 30) (f 27) (fun k => (f 3) ((f 25) k)))) : Int → Int) = (u1 (ovH (v 25) a2 (f 30) (f 27) (fun k => (f 3) ((f 25) k))) z_7 4) from by first | rfl | (rw [if_pos (by omega)]) | (rw [if_neg (by omega), if_neg (by omega)]) | (rw [if_neg (by omega), if_pos (by omega), hj]; first | rw [if_pos (by omega)] | rw [if_neg (by omega)])]), rfl, (by first | omega | ((repeat' split) <;> omega)), (by first | omega | ((repeat' split) <;> omega))⟩
        · refine lv_aload_n hx hb dX11_fall_55 rfl (lv_at hl 2 rfl) ?_
          refine lv_iconst (v := iI 5) hx hb dX11_fall_56 rfl ?_
          refine g_cv (As := [.int (iI 5)]) (rest := []) (n := 1) C hml (m_X11_no l D k A ad hD (va_up (va_up (va_up v 0 0) 1 0) 24 a2) (va_up (va_up f 28 (ovE (v 25) a2 (f 30) (f 27) (fun k => (f 3) ((f 25) k)) (f 28))) 30 (ovH (v 25) a2 (f 30) (f 27) (fun k => (f 3) ((f 25) k)))) g 5 (by decide) (show 0 ≤ (5 : Int) ∧ (5 : Int) ≤ 10 from by omega)) mM_X11_332 mI_X11_no mE_X11_no mN_X11 mC_X11_no (by decide +kernel) 0 (ci := 11) rfl rfl hP hS (fun _ h => h) ⟨Nat.le_of_ble_eq_true rfl, Nat.le_of_ble_eq_true rfl⟩ ⟨Nat.zero_le _, Nat.zero_le _⟩ hl.1 rfl rfl (Nat.le_of_ble_eq_true rfl) dX11_fall_57 (fun r_10 v_10 f_10 g_10 H locs hq_10 hP _ hS => ?_)
          obtain ⟨rfl, rfl, rfl, rfl⟩ := hq_10
          show W p l e (gRm 2 43) s m args below meth c _ _ 0 0 Q (F0 m 60 ls [.int (iI 0)])
          have hP : gWd D (mdT k ad) (va_up (va_up (va_up v 0 (5 : Int)) 1 0) 24 a2) (va_up (va_up f 28 (ovE (v 25) a2 (f 30) (f 27) (fun k => (f 3) ((f 25) k)) (f 28))) 30 (ovH (v 25) a2 (f 30) (f 27) (fun k => (f 3) ((f 25) k)))) g H := ⟨hP.1, (gF_up (V := mdV) (F := mdF) (gF_up (V := mdV) (F := mdF) (gR_up (V := mdV) (F := mdF) (gR_up (V := mdV) (F := mdF) (gR_up (V := mdV) (F := mdF) ⟨hok.1, hok.2⟩ 0 (hP.2.1 0)) 1 (hP.2.1 1)) 24 (hP.2.1 24)) 28 (hP.2.2 28)) 30 (hP.2.2 30))⟩
          exact g_zret hQ C hr hlocks (by decide) hP hS dX11_fall_60 ⟨0, (5 : Int), rfl, (by rw [show ((if (5 : Int) = 1 ∨ (5 : Int) = 2 ∨ (5 : Int) = 9 then (v 24) else a2) : Int) = a2 from by first | rfl | omega | ((repeat' split) <;> omega)]), (by rw [show ((if (5 : Int) = 1 ∨ (5 : Int) = 2 ∨ (5 : Int) = 9 then (f 28) else if (5 : Int) = 0 then u1 (ovE (v 25) a2 (f 30) (f 27) (fun k => (f 3) ((f 25) k)) (f 28)) ((ovO a2 (f 27) (fun k => (f 3) ((f 25) k)) on) a1 - 1) a2 else (ovE (v 25) a2 (f 30) (f 27) (fun k => (f 3) ((f 25) k)) (f 28))) : Int → Int) = (ovE (v 25) a2 (f 30) (f 27) (fun k => (f 3) ((f 25) k)) (f 28)) from by first | rfl | (rw [if_pos (by omega)]) | (rw [if_neg (by omega), if_neg (by omega)]) | (rw [if_neg (by omega), if_pos (by omega), hj]), show ((if (5 : Int) = 1 ∨ (5 : Int) = 2 ∨ (5 : Int) = 9 then (f 30) else if (5 : Int) = 0 then u1 (ovH (v 25) a2 (f 30) (f 27) (fun k => (f 3) ((f 25) k))) ((ovO a2 (f 27) (fun k => (f 3) ((f 25) k)) on) a1 - 1) (if a3 = 0 then 2 else 4) else (ovH (v 25) a2 (f 30) (f 27) (fun k => (f 3) ((f 25) k)))) : Int → Int) = (ovH (v 25) a2 (f 30) (f 27) (fun k => (f 3) ((f 25) k))) from by first | rfl | (rw [if_pos (by omega)]) | (rw [if_neg (by omega), if_neg (by omega)]) | (rw [if_neg (by omega), if_pos (by omega), hj]; first | rw [if_pos (by omega)] | rw [if_neg (by omega)])]), rfl, (by first | omega | ((repeat' split) <;> omega)), (by first | omega | ((repeat' split) <;> omega))⟩
      · exfalso; omega
    · replace hP : gWd D (mdT k ad) (va_up (va_up (va_up v 0 0) 1 0) 24 (v 24)) (va_up (va_up f 28 (f 28)) 30 (f 30)) g H := by have h9 := hP; simp only [if_neg hzp] at h9; exact h9
      refine lv_istore (lv' := [(4, .int (iI z_5)), (0, .ref (ad 0)), (1, .int (iI a1)), (2, .int (iI a2)), (3, .int (iI a3))]) hx hb dX11_fall_29 hl (by decide) rfl (fun ls hl => ?_)
      refine lv_iload hx hb dX11_fall_31 (lv_at hl 0 rfl) ?_
      refine gi_zle (tgt := 43) hx hb dX11_fall_33 (by decide) (by omega) (fun c_11 => ?_) (fun c_11 => ?_)
      · exfalso; omega
      · refine lv_aload_n hx hb dX11_fall_36 rfl (lv_at hl 1 rfl) ?_
        refine lv_iload hx hb dX11_fall_37 (lv_at hl 0 rfl) ?_
        refine g_cv (As := [.int (iI z_5)]) (rest := []) (n := 1) C hml (m_X11_no l D k A ad hD (va_up (va_up (va_up v 0 0) 1 0) 24 (v 24)) (va_up (va_up f 28 (f 28)) 30 (f 30)) g z_5 (by omega) (show 0 ≤ z_5 ∧ z_5 ≤ 10 from by omega)) mM_X11_332 mI_X11_no mE_X11_no mN_X11 mC_X11_no (by decide +kernel) 0 (ci := 11) rfl rfl hP hS (fun _ h => h) ⟨Nat.le_of_ble_eq_true rfl, Nat.le_of_ble_eq_true rfl⟩ ⟨Nat.zero_le _, Nat.zero_le _⟩ hl.1 rfl rfl (Nat.le_of_ble_eq_true rfl) dX11_fall_39 (fun r_12 v_12 f_12 g_12 H locs hq_12 hP _ hS => ?_)
        obtain ⟨rfl, rfl, rfl, rfl⟩ := hq_12
        show W p l e (gRm 2 43) s m args below meth c _ _ 0 0 Q (F0 m 42 ls [.int (iI 0)])
        have hP : gWd D (mdT k ad) (va_up (va_up (va_up v 0 z_5) 1 0) 24 (v 24)) (va_up (va_up f 28 (f 28)) 30 (f 30)) g H := ⟨hP.1, (gF_up (V := mdV) (F := mdF) (gF_up (V := mdV) (F := mdF) (gR_up (V := mdV) (F := mdF) (gR_up (V := mdV) (F := mdF) (gR_up (V := mdV) (F := mdF) ⟨hok.1, hok.2⟩ 0 (hP.2.1 0)) 1 (hP.2.1 1)) 24 (hP.2.1 24)) 28 (hP.2.2 28)) 30 (hP.2.2 30))⟩
        exact g_zret hQ C hr hlocks (by decide) hP hS dX11_fall_42 ⟨0, z_5, rfl, (by rw [show ((if z_5 = 1 ∨ z_5 = 2 ∨ z_5 = 9 then (v 24) else a2) : Int) = (v 24) from by first | rfl | omega | ((repeat' split) <;> omega)]), (by rw [show ((if z_5 = 1 ∨ z_5 = 2 ∨ z_5 = 9 then (f 28) else if z_5 = 0 then u1 (ovE (v 25) a2 (f 30) (f 27) (fun k => (f 3) ((f 25) k)) (f 28)) ((ovO a2 (f 27) (fun k => (f 3) ((f 25) k)) on) a1 - 1) a2 else (ovE (v 25) a2 (f 30) (f 27) (fun k => (f 3) ((f 25) k)) (f 28))) : Int → Int) = (f 28) from by first | rfl | (rw [if_pos (by omega)]) | (rw [if_neg (by omega), if_neg (by omega)]) | (rw [if_neg (by omega), if_pos (by omega), hj]), show ((if z_5 = 1 ∨ z_5 = 2 ∨ z_5 = 9 then (f 30) else if z_5 = 0 then u1 (ovH (v 25) a2 (f 30) (f 27) (fun k => (f 3) ((f 25) k))) ((ovO a2 (f 27) (fun k => (f 3) ((f 25) k)) on) a1 - 1) (if a3 = 0 then 2 else 4) else (ovH (v 25) a2 (f 30) (f 27) (fun k => (f 3) ((f 25) k)))) : Int → Int) = (f 30) from by first | rfl | (rw [if_pos (by omega)]) | (rw [if_neg (by omega), if_neg (by omega)]) | (rw [if_neg (by omega), if_pos (by omega), hj]; first | rw [if_pos (by omega)] | rw [if_neg (by omega)])]), rfl, (by first | omega | ((repeat' split) <;> omega)), (by first | omega | ((repeat' split) <;> omega))⟩
  · have vz_3 := gif0 w_3 c_4
    clear w_3
    refine lv_aload_n hx hb dX11_fall_18 rfl (lv_at hl 0 rfl) ?_
    refine lv_iconst (v := iI 1) hx hb dX11_fall_19 rfl ?_
    refine g_cv (As := [.int (iI 1)]) (rest := []) (n := 1) C hml (m_X11_no l D k A ad hD (va_up (va_up (va_up v 0 0) 1 0) 24 (v 24)) (va_up (va_up f 28 (f 28)) 30 (f 30)) g 1 (by decide) (show 0 ≤ (1 : Int) ∧ (1 : Int) ≤ 10 from by omega)) mM_X11_332 mI_X11_no mE_X11_no mN_X11 mC_X11_no (by decide +kernel) 0 (ci := 11) rfl rfl hP hS (fun _ h => h) ⟨Nat.le_of_ble_eq_true rfl, Nat.le_of_ble_eq_true rfl⟩ ⟨Nat.zero_le _, Nat.zero_le _⟩ hl.1 rfl rfl (Nat.le_of_ble_eq_true rfl) dX11_fall_20 (fun r_13 v_13 f_13 g_13 H locs hq_13 hP _ hS => ?_)
    obtain ⟨rfl, rfl, rfl, rfl⟩ := hq_13
    show W p l e (gRm 2 43) s m args below meth c _ _ 0 0 Q (F0 m 23 ls [.int (iI 0)])
    have hP : gWd D (mdT k ad) (va_up (va_up (va_up v 0 (1 : Int)) 1 0) 24 (v 24)) (va_up (va_up f 28 (f 28)) 30 (f 30)) g H := ⟨hP.1, (gF_up (V := mdV) (F := mdF) (gF_up (V := mdV) (F := mdF) (gR_up (V := mdV) (F := mdF) (gR_up (V := mdV) (F := mdF) (gR_up (V := mdV) (F := mdF) ⟨hok.1, hok.2⟩ 0 (hP.2.1 0)) 1 (hP.2.1 1)) 24 (hP.2.1 24)) 28 (hP.2.2 28)) 30 (hP.2.2 30))⟩
    exact g_zret hQ C hr hlocks (by decide) hP hS dX11_fall_23 ⟨0, (1 : Int), rfl, (by rw [show ((if (1 : Int) = 1 ∨ (1 : Int) = 2 ∨ (1 : Int) = 9 then (v 24) else a2) : Int) = (v 24) from by first | rfl | omega | ((repeat' split) <;> omega)]), (by rw [show ((if (1 : Int) = 1 ∨ (1 : Int) = 2 ∨ (1 : Int) = 9 then (f 28) else if (1 : Int) = 0 then u1 (ovE (v 25) a2 (f 30) (f 27) (fun k => (f 3) ((f 25) k)) (f 28)) ((ovO a2 (f 27) (fun k => (f 3) ((f 25) k)) on) a1 - 1) a2 else (ovE (v 25) a2 (f 30) (f 27) (fun k => (f 3) ((f 25) k)) (f 28))) : Int → Int) = (f 28) from by first | rfl | (rw [if_pos (by omega)]) | (rw [if_neg (by omega), if_neg (by omega)]) | (rw [if_neg (by omega), if_pos (by omega), hj]), show ((if (1 : Int) = 1 ∨ (1 : Int) = 2 ∨ (1 : Int) = 9 then (f 30) else if (1 : Int) = 0 then u1 (ovH (v 25) a2 (f 30) (f 27) (fun k => (f 3) ((f 25) k))) ((ovO a2 (f 27) (fun k => (f 3) ((f 25) k)) on) a1 - 1) (if a3 = 0 then 2 else 4) else (ovH (v 25) a2 (f 30) (f 27) (fun k => (f 3) ((f 25) k)))) : Int → Int) = (f 30) from by first | rfl | (rw [if_pos (by omega)]) | (rw [if_neg (by omega), if_neg (by omega)]) | (rw [if_neg (by omega), if_pos (by omega), hj]; first | rw [if_pos (by omega)] | rw [if_neg (by omega)])]), rfl, (by first | omega | ((repeat' split) <;> omega)), (by first | omega | ((repeat' split) <;> omega))⟩

set_option maxHeartbeats 4000000 in
set_option maxRecDepth 100000 in
theorem y_out (l : Launch) (D : va_G) (k : Nat → ClassId) (A : Nat → Prop) (ad : Nat → Nat) (hD : mdD A k ad) (v : gV) (f g : gF) (a1 : Int) (a2 : Int) (a3 : Int) (on : Int → Int) (h_a1 : inR a1) (h_a2 : inR a2) (h_a3 : inR a3) (hO : OI (v 25) (f 24) (f 30) on) (h3 : a3 = 0 ∨ a3 = 1) : GM l D k A (mdT k ad) yX11_out cX11_out 7 (some .boolean) 2 43 [.ref (ad 0), .int (iI a1), .int (iI a2), .int (iI a3)] v f g (fun r v1 f1 g1 => ∃ (z : Int) (w0 : Int), r = some (.int (iI z)) ∧ (va_up (va_up (va_up v 0 w0) 1 0) 24 (if w0 = 1 ∨ w0 = 2 ∨ w0 = 9 then (v 24) else a2)) = v1 ∧ (va_up (va_up (va_up (va_up (va_up f 28 (if w0 = 1 ∨ w0 = 2 ∨ w0 = 9 then (f 28) else (ovE (v 25) a2 (f 30) (f 27) (fun k => (f 3) ((f 25) k)) (f 28)))) 30 (if w0 = 1 ∨ w0 = 2 ∨ w0 = 9 then (f 30) else (ovH (v 25) a2 (f 30) (f 27) (fun k => (f 3) ((f 25) k))))) 34 (if w0 = 0 ∧ a3 ≠ 0 then u1 (f 34) a1 ((f 34) a1 + 1) else (f 34))) 35 (if w0 = 0 ∧ a3 ≠ 0 then u1 (f 35) (a1 * 20 + (f 34) a1) a2 else (f 35))) 36 (if w0 = 0 then (if a3 ≠ 0 then u1 (f 36) (a1 * 20 + (f 34) a1) (-1) else u1 (f 36) (a1 * 20 + (f 34) a1 - 1) a2) else (f 36))) = f1 ∧ g = g1 ∧ (z = (if w0 = 0 then 1 else 0)) ∧ (w0 = (if ¬ (0 ≤ a1 ∧ a1 < (v 22)) then 1 else if (if a2 < 0 ∨ 1000000 < a2 then (2 : Int) else if a2 < (v 24) then 9 else 0) ≠ 0 then (if a2 < 0 ∨ 1000000 < a2 then (2 : Int) else if a2 < (v 24) then 9 else 0) else if ((0 < (f 34) a1 ∧ (f 36) (a1 * 20 + (f 34) a1 - 1) = (-1)) ∧ a3 = 1) ∨ (¬ (0 < (f 34) a1 ∧ (f 36) (a1 * 20 + (f 34) a1 - 1) = (-1)) ∧ a3 = 0) then 10 else if a3 = 1 ∧ 20 ≤ (f 34) a1 then 3 else 0))) := by
  refine GM.of (by decide) (Nat.le_of_ble_eq_true rfl) ?_
  intro p e s m args below meth c Q ls hQ C hml hr hlocks hP hl
  have hx := C.1
  have hb := C.2.1
  have hok := hP.2
  have hS : va_S A s.heap s.heap [] := va_S.rf
  have hl : lv_has ls 7 [(0, .ref (ad 0)), (1, .int (iI a1)), (2, .int (iI a2)), (3, .int (iI a3))] := hl
  have hP : gWd D (mdT k ad) (va_up (va_up (va_up v 0 (v 0)) 1 (v 1)) 24 (v 24)) (va_up (va_up (va_up (va_up (va_up f 28 (f 28)) 30 (f 30)) 34 (f 34)) 35 (f 35)) 36 (f 36)) g s.heap := by rw [va_id, va_id, va_id, va_id, va_id, va_id, va_id, va_id]; exact hP
  have hwr : ∀ k, 0 ≤ (f 24) k ∧ (f 24) k ≤ 15 := fun k => hok.2 24 k
  have r_1 : 0 ≤ (v 22) ∧ (v 22) ≤ 16 := hok.1 22
  refine lv_aload_n hx hb dX11_out_0 rfl (lv_at hl 0 rfl) ?_
  refine lv_iconst (v := iI 0) hx hb dX11_out_1 rfl ?_
  refine mdP_thrown (v1 := (va_up (va_up (va_up v 0 (v 0)) 1 0) 24 (v 24))) C hP hD hS mF_X11_146 (by decide) rfl (Or.inr (gF_up (V := mdV) (F := mdF) (gF_up (V := mdV) (F := mdF) (gF_up (V := mdV) (F := mdF) (gF_up (V := mdV) (F := mdF) (gF_up (V := mdV) (F := mdF) (gR_up (V := mdV) (F := mdF) (gR_up (V := mdV) (F := mdF) (gR_up (V := mdV) (F := mdF) ⟨hok.1, hok.2⟩ 0 (hP.2.1 0)) 1 (show 0 ≤ 0 ∧ 0 ≤ 0 from by decide)) 24 (hP.2.1 24)) 28 (hP.2.2 28)) 30 (hP.2.2 30)) 34 (hP.2.2 34)) 35 (hP.2.2 35)) 36 (hP.2.2 36))) dX11_out_2 (fun H locs hP hS => ?_)
  refine lv_aload_n hx hb dX11_out_5 rfl (lv_at hl 0 rfl) ?_
  refine lv_iconst (v := iI 0) hx hb dX11_out_6 rfl ?_
  refine mdP_status (v1 := (va_up (va_up (va_up v 0 0) 1 0) 24 (v 24))) C hP hD hS mF_X11_149 (by decide) rfl (Or.inr (gF_up (V := mdV) (F := mdF) (gF_up (V := mdV) (F := mdF) (gF_up (V := mdV) (F := mdF) (gF_up (V := mdV) (F := mdF) (gF_up (V := mdV) (F := mdF) (gR_up (V := mdV) (F := mdF) (gR_up (V := mdV) (F := mdF) (gR_up (V := mdV) (F := mdF) ⟨hok.1, hok.2⟩ 0 (show 0 ≤ 0 ∧ 0 ≤ 10 from by decide)) 1 (hP.2.1 1)) 24 (hP.2.1 24)) 28 (hP.2.2 28)) 30 (hP.2.2 30)) 34 (hP.2.2 34)) 35 (hP.2.2 35)) 36 (hP.2.2 36))) dX11_out_7 (fun H locs hP hS => ?_)
  refine lv_aload_n hx hb dX11_out_10 rfl (lv_at hl 0 rfl) ?_
  refine lv_iload_n hx hb dX11_out_11 rfl (lv_at hl 1 rfl) ?_
  refine g_cv (As := [.int (iI a1)]) (rest := []) (n := 1) C hml (m_X11_isClimber l D k A ad hD (va_up (va_up (va_up v 0 0) 1 0) 24 (v 24)) (va_up (va_up (va_up (va_up (va_up f 28 (f 28)) 30 (f 30)) 34 (f 34)) 35 (f 35)) 36 (f 36)) g a1 (by omega)) mM_X11_349 mI_X11_isClimber mE_X11_isClimber mN_X11 mC_X11_isClimber (by decide +kernel) 0 (ci := 11) rfl rfl hP hS (fun _ h => h) ⟨Nat.le_of_ble_eq_true rfl, Nat.le_of_ble_eq_true rfl⟩ ⟨Nat.zero_le _, Nat.zero_le _⟩ hl.1 rfl rfl (Nat.le_of_ble_eq_true rfl) dX11_out_12 (fun r_2 v_2 f_2 g_2 H locs hq_2 hP _ hS => ?_)
  obtain ⟨z_2, rfl, rfl, rfl, rfl, p0_2, p1_2⟩ := hq_2
  show W p l e (gRm 2 43) s m args below meth c _ _ 0 0 Q (F0 m 15 ls [.int (iI z_2)])
  replace p0_2 : z_2 = (if 0 ≤ a1 ∧ a1 < (v 22) then 1 else 0) := p0_2
  have w_2 := gif (P := 0 ≤ a1 ∧ a1 < (v 22)) p0_2
  clear p0_2
  replace p1_2 : z_2 = 1 → 0 ≤ a1 ∧ a1 ≤ 15 := p1_2
  have hz_2 : inR z_2 := (by first | omega | (rw [p0_2]; split <;> omega))
  refine gi_zne (tgt := 24) hx hb dX11_out_15 (by decide) (by omega) (fun c_3 => ?_) (fun c_3 => ?_)
  · have vz_2 := gif1 w_2 c_3
    have voz_2 := gif1o w_2 c_3
    clear w_2
    refine lv_aload_n hx hb dX11_out_24 rfl (lv_at hl 0 rfl) ?_
    refine lv_iload_n hx hb dX11_out_25 rfl (lv_at hl 2 rfl) ?_
    refine g_cv (As := [.int (iI a2)]) (rest := []) (n := 1) C hml (y_clocked l D k A ad hD (va_up (va_up (va_up v 0 0) 1 0) 24 (v 24)) (va_up (va_up (va_up (va_up (va_up f 28 (f 28)) 30 (f 30)) 34 (f 34)) 35 (f 35)) 36 (f 36)) g a2 (by omega)) mM_X11_352 mI_X11_clocked mE_X11_clocked mN_X11 mC_X11_clocked (by decide +kernel) 0 (ci := 11) rfl rfl hP hS (fun _ h => h) ⟨Nat.le_of_ble_eq_true rfl, Nat.le_of_ble_eq_true rfl⟩ ⟨Nat.zero_le _, Nat.zero_le _⟩ hl.1 rfl rfl (Nat.le_of_ble_eq_true rfl) dX11_out_26 (fun r_4 v_4 f_4 g_4 H locs hq_4 hP _ hS => ?_)
    obtain ⟨z_4, rfl, rfl, rfl, rfl, p0_4⟩ := hq_4
    show W p l e (gRm 2 43) s m args below meth c _ _ 0 0 Q (F0 m 29 ls [.int (iI z_4)])
    have hP : gWd D (mdT k ad) (va_up (va_up (va_up v 0 0) 1 0) 24 (if z_4 = 0 then a2 else (v 24))) (va_up (va_up (va_up (va_up (va_up f 28 (if z_4 = 0 then (ovE (v 25) a2 (f 30) (f 27) (fun k => (f 3) ((f 25) k)) (f 28)) else (f 28))) 30 (if z_4 = 0 then (ovH (v 25) a2 (f 30) (f 27) (fun k => (f 3) ((f 25) k))) else (f 30))) 34 (f 34)) 35 (f 35)) 36 (f 36)) g H := ⟨hP.1, (gF_up (V := mdV) (F := mdF) (gF_up (V := mdV) (F := mdF) (gF_up (V := mdV) (F := mdF) (gF_up (V := mdV) (F := mdF) (gF_up (V := mdV) (F := mdF) (gR_up (V := mdV) (F := mdF) (gR_up (V := mdV) (F := mdF) (gR_up (V := mdV) (F := mdF) ⟨hok.1, hok.2⟩ 0 (hP.2.1 0)) 1 (hP.2.1 1)) 24 (hP.2.1 24)) 28 (hP.2.2 28)) 30 (hP.2.2 30)) 34 (hP.2.2 34)) 35 (hP.2.2 35)) 36 (hP.2.2 36))⟩
    replace p0_4 : z_4 = (if a2 < 0 ∨ 1000000 < a2 then (2 : Int) else if a2 < (v 24) then 9 else 0) := p0_4
    have hz_4 : inR z_4 := (by first | omega | (rw [p0_4]; split <;> omega))
    have hpz := p0_4
    clear p0_4
    rcases (show z_4 = 0 ∨ z_4 ≠ 0 by omega) with hzp | hzp
    · replace hP : gWd D (mdT k ad) (va_up (va_up (va_up v 0 0) 1 0) 24 a2) (va_up (va_up (va_up (va_up (va_up f 28 (ovE (v 25) a2 (f 30) (f 27) (fun k => (f 3) ((f 25) k)) (f 28))) 30 (ovH (v 25) a2 (f 30) (f 27) (fun k => (f 3) ((f 25) k)))) 34 (f 34)) 35 (f 35)) 36 (f 36)) g H := by have h9 := hP; simp only [if_pos hzp] at h9; exact h9
      have hO2 : OI (v 25) (f 24) (ovH (v 25) a2 (f 30) (f 27) (fun k => (f 3) ((f 25) k))) (ovO a2 (f 27) (fun k => (f 3) ((f 25) k)) on) := OI_ov hO hwr
      refine lv_istore (lv' := [(4, .int (iI z_4)), (0, .ref (ad 0)), (1, .int (iI a1)), (2, .int (iI a2)), (3, .int (iI a3))]) hx hb dX11_out_29 hl (by decide) rfl (fun ls hl => ?_)
      refine lv_iload hx hb dX11_out_31 (lv_at hl 0 rfl) ?_
      refine gi_zle (tgt := 43) hx hb dX11_out_33 (by decide) (by omega) (fun c_5 => ?_) (fun c_5 => ?_)
      · refine lv_aload_n hx hb dX11_out_43 rfl (lv_at hl 1 rfl) ?_
        refine mdG_outs C hP mF_X11_124 dX11_out_44 ?_
        refine lv_iload_n hx hb dX11_out_47 rfl (lv_at hl 2 rfl) ?_
        refine mdL_outs C hP (by omega) (by omega) dX11_out_48 ?_
        show W p l e (gRm 2 43) s m args below meth c _ _ 0 0 Q (F0 m 49 ls [.int (iI (f 34 a1))])
        have r_6 : 0 ≤ (f 34 a1) ∧ (f 34 a1) ≤ 20 := hP.2.2 34 a1
        refine lv_istore (lv' := [(5, .int (iI (f 34 a1))), (4, .int (iI z_4)), (0, .ref (ad 0)), (1, .int (iI a1)), (2, .int (iI a2)), (3, .int (iI a3))]) hx hb dX11_out_49 hl (by decide) rfl (fun ls hl => ?_)
        refine lv_iload hx hb dX11_out_51 (lv_at hl 0 rfl) ?_
        refine gi_zle (tgt := 77) hx hb dX11_out_53 (by decide) (by omega) (fun c_7 => ?_) (fun c_7 => ?_)
        · refine lv_iconst (v := iI 0) hx hb dX11_out_77 rfl ?_
          refine lv_istore (lv' := [(6, .int (iI 0)), (5, .int (iI (f 34 a1))), (4, .int (iI z_4)), (0, .ref (ad 0)), (1, .int (iI a1)), (2, .int (iI a2)), (3, .int (iI a3))]) hx hb dX11_out_78 hl (by decide) rfl (fun ls hl => ?_)
          refine lv_iload hx hb dX11_out_80 (lv_at hl 0 rfl) ?_
          refine lv_iload_n hx hb dX11_out_82 rfl (lv_at hl 6 rfl) ?_
          refine gi_cne (tgt := 93) hx hb dX11_out_83 (by decide) (by decide) (by omega) (fun c_8 => ?_) (fun c_8 => ?_)
          · refine lv_iload_n hx hb dX11_out_93 rfl (lv_at hl 6 rfl) ?_
            refine gi_zeq (tgt := 110) hx hb dX11_out_94 (by decide) (by omega) (fun c_9 => ?_) (fun c_9 => ?_)
            · exfalso; omega
            · refine lv_iload hx hb dX11_out_97 (lv_at hl 1 rfl) ?_
              refine lv_bipush (v := iI 20) hx hb dX11_out_99 (by decide) ?_
              refine gi_cne (tgt := 110) hx hb dX11_out_101 (by decide) (by omega) (by decide) (fun c_10 => ?_) (fun c_10 => ?_)
              · refine lv_iload_n hx hb dX11_out_110 rfl (lv_at hl 6 rfl) ?_
                refine gi_zeq (tgt := 153) hx hb dX11_out_111 (by decide) (by omega) (fun c_11 => ?_) (fun c_11 => ?_)
                · exfalso; omega
                · refine lv_aload_n hx hb dX11_out_114 rfl (lv_at hl 3 rfl) ?_
                  refine mdG_outFrom C hP mF_X11_127 dX11_out_115 ?_
                  refine lv_bipush (v := iI 20) hx hb dX11_out_118 (by decide) ?_
                  refine lv_iload_n hx hb dX11_out_120 rfl (lv_at hl 4 rfl) ?_
                  refine gi_mul (z := (20 * a1)) hx hb dX11_out_121 rfl ?_
                  refine lv_iload hx hb dX11_out_122 (lv_at hl 1 rfl) ?_
                  refine gi_add (z := ((20 * a1) + (f 34 a1))) hx hb dX11_out_124 rfl ?_
                  refine lv_iload_n hx hb dX11_out_125 rfl (lv_at hl 5 rfl) ?_
                  refine mdS_outFrom (f1 := (va_up (va_up (va_up (va_up (va_up f 28 (ovE (v 25) a2 (f 30) (f 27) (fun k => (f 3) ((f 25) k)) (f 28))) 30 (ovH (v 25) a2 (f 30) (f 27) (fun k => (f 3) ((f 25) k)))) 34 (f 34)) 35 (u1 (f 35) ((20 * a1) + (f 34 a1)) a2)) 36 (f 36))) C hP hD hS (by omega) (by omega) (by omega) rfl (Or.inr (gF_up (V := mdV) (F := mdF) (gF_up (V := mdV) (F := mdF) (gF_up (V := mdV) (F := mdF) (gF_up (V := mdV) (F := mdF) (gF_up (V := mdV) (F := mdF) (gR_up (V := mdV) (F := mdF) (gR_up (V := mdV) (F := mdF) (gR_up (V := mdV) (F := mdF) ⟨hok.1, hok.2⟩ 0 (hP.2.1 0)) 1 (hP.2.1 1)) 24 (hP.2.1 24)) 28 (hP.2.2 28)) 30 (hP.2.2 30)) 34 (hP.2.2 34)) 35 (u1_rng (hP.2.2 35) (show 0 ≤ a2 ∧ a2 ≤ 1000000 from (by omega)))) 36 (hP.2.2 36))) dX11_out_126 (fun H locs hP hS => ?_)
                  refine lv_aload_n hx hb dX11_out_127 rfl (lv_at hl 3 rfl) ?_
                  refine mdG_outTo C hP mF_X11_130 dX11_out_128 ?_
                  refine lv_bipush (v := iI 20) hx hb dX11_out_131 (by decide) ?_
                  refine lv_iload_n hx hb dX11_out_133 rfl (lv_at hl 4 rfl) ?_
                  refine gi_mul (z := (20 * a1)) hx hb dX11_out_134 rfl ?_
                  refine lv_iload hx hb dX11_out_135 (lv_at hl 1 rfl) ?_
                  refine gi_add (z := ((20 * a1) + (f 34 a1))) hx hb dX11_out_137 rfl ?_
                  refine lv_iconst (v := iI (-1)) hx hb dX11_out_138 rfl ?_
                  refine mdS_outTo (f1 := (va_up (va_up (va_up (va_up (va_up f 28 (ovE (v 25) a2 (f 30) (f 27) (fun k => (f 3) ((f 25) k)) (f 28))) 30 (ovH (v 25) a2 (f 30) (f 27) (fun k => (f 3) ((f 25) k)))) 34 (f 34)) 35 (u1 (f 35) ((20 * a1) + (f 34 a1)) a2)) 36 (u1 (f 36) ((20 * a1) + (f 34 a1)) (-1)))) C hP hD hS (by omega) (by omega) (by decide) rfl (Or.inr (gF_up (V := mdV) (F := mdF) (gF_up (V := mdV) (F := mdF) (gF_up (V := mdV) (F := mdF) (gF_up (V := mdV) (F := mdF) (gF_up (V := mdV) (F := mdF) (gR_up (V := mdV) (F := mdF) (gR_up (V := mdV) (F := mdF) (gR_up (V := mdV) (F := mdF) ⟨hok.1, hok.2⟩ 0 (hP.2.1 0)) 1 (hP.2.1 1)) 24 (hP.2.1 24)) 28 (hP.2.2 28)) 30 (hP.2.2 30)) 34 (hP.2.2 34)) 35 (hP.2.2 35)) 36 (u1_rng (hP.2.2 36) (show (-1) ≤ (-1) ∧ (-1) ≤ 1000000 from (by decide))))) dX11_out_139 (fun H locs hP hS => ?_)
                  refine lv_aload_n hx hb dX11_out_140 rfl (lv_at hl 3 rfl) ?_
                  refine mdG_outs C hP mF_X11_124 dX11_out_141 ?_
                  refine lv_iload_n hx hb dX11_out_144 rfl (lv_at hl 4 rfl) ?_
                  refine lv_dup2_11 hx hb dX11_out_145 rfl rfl ?_
                  refine mdL_outs C hP (by omega) (by omega) dX11_out_146 ?_
                  show W p l e (gRm 2 43) s m args below meth c _ _ 0 0 Q (F0 m 147 ls [.int (iI (f 34 a1)), .int (iI a1), .ref (ad 35)])
                  refine lv_iconst (v := iI 1) hx hb dX11_out_147 rfl ?_
                  refine gi_add (z := ((f 34 a1) + 1)) hx hb dX11_out_148 rfl ?_
                  refine mdS_outs (f1 := (va_up (va_up (va_up (va_up (va_up f 28 (ovE (v 25) a2 (f 30) (f 27) (fun k => (f 3) ((f 25) k)) (f 28))) 30 (ovH (v 25) a2 (f 30) (f 27) (fun k => (f 3) ((f 25) k)))) 34 (u1 (f 34) a1 ((f 34 a1) + 1))) 35 (u1 (f 35) ((20 * a1) + (f 34 a1)) a2)) 36 (u1 (f 36) ((20 * a1) + (f 34 a1)) (-1)))) C hP hD hS (by omega) (by omega) (by omega) rfl (Or.inr (gF_up (V := mdV) (F := mdF) (gF_up (V := mdV) (F := mdF) (gF_up (V := mdV) (F := mdF) (gF_up (V := mdV) (F := mdF) (gF_up (V := mdV) (F := mdF) (gR_up (V := mdV) (F := mdF) (gR_up (V := mdV) (F := mdF) (gR_up (V := mdV) (F := mdF) ⟨hok.1, hok.2⟩ 0 (hP.2.1 0)) 1 (hP.2.1 1)) 24 (hP.2.1 24)) 28 (hP.2.2 28)) 30 (hP.2.2 30)) 34 (u1_rng (hP.2.2 34) (show 0 ≤ ((f 34 a1) + 1) ∧ ((f 34 a1) + 1) ≤ 20 from (by omega)))) 35 (hP.2.2 35)) 36 (hP.2.2 36))) dX11_out_149 (fun H locs hP hS => ?_)
                  refine lv_goto (tgt := 168) hx hb dX11_out_150 (by decide) ?_
                  refine lv_iconst (v := iI 1) hx hb dX11_out_168 rfl ?_
                  exact g_zret hQ C hr hlocks (by decide) hP hS dX11_out_169 ⟨1, 0, rfl, (by rw [show ((if (0 : Int) = 1 ∨ (0 : Int) = 2 ∨ (0 : Int) = 9 then (v 24) else a2) : Int) = a2 from by first | rfl | omega | ((repeat' split) <;> omega)]), (by rw [show ((if (0 : Int) = 1 ∨ (0 : Int) = 2 ∨ (0 : Int) = 9 then (f 28) else (ovE (v 25) a2 (f 30) (f 27) (fun k => (f 3) ((f 25) k)) (f 28))) : Int → Int) = (ovE (v 25) a2 (f 30) (f 27) (fun k => (f 3) ((f 25) k)) (f 28)) from by first | rfl | (rw [if_pos (by omega)]) | (rw [if_neg (by omega)]), show ((if (0 : Int) = 1 ∨ (0 : Int) = 2 ∨ (0 : Int) = 9 then (f 30) else (ovH (v 25) a2 (f 30) (f 27) (fun k => (f 3) ((f 25) k)))) : Int → Int) = (ovH (v 25) a2 (f 30) (f 27) (fun k => (f 3) ((f 25) k))) from by first | rfl | (rw [if_pos (by omega)]) | (rw [if_neg (by omega)]), show ((if (0 : Int) = 0 ∧ a3 ≠ 0 then u1 (f 34) a1 ((f 34) a1 + 1) else (f 34)) : Int → Int) = (u1 (f 34) a1 ((f 34 a1) + 1)) from by first | rfl | (rw [if_pos (by omega)]) | (rw [if_neg (by omega)]), show ((if (0 : Int) = 0 ∧ a3 ≠ 0 then u1 (f 35) (a1 * 20 + (f 34) a1) a2 else (f 35)) : Int → Int) = (u1 (f 35) ((20 * a1) + (f 34 a1)) a2) from by first | rfl | (rw [if_neg (by omega)]) | (rw [if_pos (by omega)]; congr 1; omega), show ((if (0 : Int) = 0 then (if a3 ≠ 0 then u1 (f 36) (a1 * 20 + (f 34) a1) (-1) else u1 (f 36) (a1 * 20 + (f 34) a1 - 1) a2) else (f 36)) : Int → Int) = (u1 (f 36) ((20 * a1) + (f 34 a1)) (-1)) from by first | rfl | (rw [if_neg (by omega)]) | (rw [if_pos (by omega), if_pos (by omega)]; congr 1; omega) | (rw [if_pos (by omega), if_neg (by omega)]; congr 1; omega)]), rfl, (by first | omega | ((repeat' split) <;> omega)), (by first | omega | ((repeat' split) <;> omega))⟩
              · refine lv_aload_n hx hb dX11_out_104 rfl (lv_at hl 3 rfl) ?_
                refine lv_iconst (v := iI 3) hx hb dX11_out_105 rfl ?_
                refine g_cv (As := [.int (iI 3)]) (rest := []) (n := 1) C hml (m_X11_no l D k A ad hD (va_up (va_up (va_up v 0 0) 1 0) 24 a2) (va_up (va_up (va_up (va_up (va_up f 28 (ovE (v 25) a2 (f 30) (f 27) (fun k => (f 3) ((f 25) k)) (f 28))) 30 (ovH (v 25) a2 (f 30) (f 27) (fun k => (f 3) ((f 25) k)))) 34 (f 34)) 35 (f 35)) 36 (f 36)) g 3 (by decide) (show 0 ≤ (3 : Int) ∧ (3 : Int) ≤ 10 from by omega)) mM_X11_332 mI_X11_no mE_X11_no mN_X11 mC_X11_no (by decide +kernel) 0 (ci := 11) rfl rfl hP hS (fun _ h => h) ⟨Nat.le_of_ble_eq_true rfl, Nat.le_of_ble_eq_true rfl⟩ ⟨Nat.zero_le _, Nat.zero_le _⟩ hl.1 rfl rfl (Nat.le_of_ble_eq_true rfl) dX11_out_106 (fun r_12 v_12 f_12 g_12 H locs hq_12 hP _ hS => ?_)
                obtain ⟨rfl, rfl, rfl, rfl⟩ := hq_12
                show W p l e (gRm 2 43) s m args below meth c _ _ 0 0 Q (F0 m 109 ls [.int (iI 0)])
                have hP : gWd D (mdT k ad) (va_up (va_up (va_up v 0 (3 : Int)) 1 0) 24 a2) (va_up (va_up (va_up (va_up (va_up f 28 (ovE (v 25) a2 (f 30) (f 27) (fun k => (f 3) ((f 25) k)) (f 28))) 30 (ovH (v 25) a2 (f 30) (f 27) (fun k => (f 3) ((f 25) k)))) 34 (f 34)) 35 (f 35)) 36 (f 36)) g H := ⟨hP.1, (gF_up (V := mdV) (F := mdF) (gF_up (V := mdV) (F := mdF) (gF_up (V := mdV) (F := mdF) (gF_up (V := mdV) (F := mdF) (gF_up (V := mdV) (F := mdF) (gR_up (V := mdV) (F := mdF) (gR_up (V := mdV) (F := mdF) (gR_up (V := mdV) (F := mdF) ⟨hok.1, hok.2⟩ 0 (hP.2.1 0)) 1 (hP.2.1 1)) 24 (hP.2.1 24)) 28 (hP.2.2 28)) 30 (hP.2.2 30)) 34 (hP.2.2 34)) 35 (hP.2.2 35)) 36 (hP.2.2 36))⟩
                exact g_zret hQ C hr hlocks (by decide) hP hS dX11_out_109 ⟨0, (3 : Int), rfl, (by rw [show ((if (3 : Int) = 1 ∨ (3 : Int) = 2 ∨ (3 : Int) = 9 then (v 24) else a2) : Int) = a2 from by first | rfl | omega | ((repeat' split) <;> omega)]), (by rw [show ((if (3 : Int) = 1 ∨ (3 : Int) = 2 ∨ (3 : Int) = 9 then (f 28) else (ovE (v 25) a2 (f 30) (f 27) (fun k => (f 3) ((f 25) k)) (f 28))) : Int → Int) = (ovE (v 25) a2 (f 30) (f 27) (fun k => (f 3) ((f 25) k)) (f 28)) from by first | rfl | (rw [if_pos (by omega)]) | (rw [if_neg (by omega)]), show ((if (3 : Int) = 1 ∨ (3 : Int) = 2 ∨ (3 : Int) = 9 then (f 30) else (ovH (v 25) a2 (f 30) (f 27) (fun k => (f 3) ((f 25) k)))) : Int → Int) = (ovH (v 25) a2 (f 30) (f 27) (fun k => (f 3) ((f 25) k))) from by first | rfl | (rw [if_pos (by omega)]) | (rw [if_neg (by omega)]), show ((if (3 : Int) = 0 ∧ a3 ≠ 0 then u1 (f 34) a1 ((f 34) a1 + 1) else (f 34)) : Int → Int) = (f 34) from by first | rfl | (rw [if_pos (by omega)]) | (rw [if_neg (by omega)]), show ((if (3 : Int) = 0 ∧ a3 ≠ 0 then u1 (f 35) (a1 * 20 + (f 34) a1) a2 else (f 35)) : Int → Int) = (f 35) from by first | rfl | (rw [if_neg (by omega)]) | (rw [if_pos (by omega)]; congr 1; omega), show ((if (3 : Int) = 0 then (if a3 ≠ 0 then u1 (f 36) (a1 * 20 + (f 34) a1) (-1) else u1 (f 36) (a1 * 20 + (f 34) a1 - 1) a2) else (f 36)) : Int → Int) = (f 36) from by first | rfl | (rw [if_neg (by omega)]) | (rw [if_pos (by omega), if_pos (by omega)]; congr 1; omega) | (rw [if_pos (by omega), if_neg (by omega)]; congr 1; omega)]), rfl, (by first | omega | ((repeat' split) <;> omega)), (by first | omega | ((repeat' split) <;> omega))⟩
          · refine lv_aload_n hx hb dX11_out_86 rfl (lv_at hl 3 rfl) ?_
            refine lv_bipush (v := iI 10) hx hb dX11_out_87 (by decide) ?_
            refine g_cv (As := [.int (iI 10)]) (rest := []) (n := 1) C hml (m_X11_no l D k A ad hD (va_up (va_up (va_up v 0 0) 1 0) 24 a2) (va_up (va_up (va_up (va_up (va_up f 28 (ovE (v 25) a2 (f 30) (f 27) (fun k => (f 3) ((f 25) k)) (f 28))) 30 (ovH (v 25) a2 (f 30) (f 27) (fun k => (f 3) ((f 25) k)))) 34 (f 34)) 35 (f 35)) 36 (f 36)) g 10 (by decide) (show 0 ≤ (10 : Int) ∧ (10 : Int) ≤ 10 from by omega)) mM_X11_332 mI_X11_no mE_X11_no mN_X11 mC_X11_no (by decide +kernel) 0 (ci := 11) rfl rfl hP hS (fun _ h => h) ⟨Nat.le_of_ble_eq_true rfl, Nat.le_of_ble_eq_true rfl⟩ ⟨Nat.zero_le _, Nat.zero_le _⟩ hl.1 rfl rfl (Nat.le_of_ble_eq_true rfl) dX11_out_89 (fun r_13 v_13 f_13 g_13 H locs hq_13 hP _ hS => ?_)
            obtain ⟨rfl, rfl, rfl, rfl⟩ := hq_13
            show W p l e (gRm 2 43) s m args below meth c _ _ 0 0 Q (F0 m 92 ls [.int (iI 0)])
            have hP : gWd D (mdT k ad) (va_up (va_up (va_up v 0 (10 : Int)) 1 0) 24 a2) (va_up (va_up (va_up (va_up (va_up f 28 (ovE (v 25) a2 (f 30) (f 27) (fun k => (f 3) ((f 25) k)) (f 28))) 30 (ovH (v 25) a2 (f 30) (f 27) (fun k => (f 3) ((f 25) k)))) 34 (f 34)) 35 (f 35)) 36 (f 36)) g H := ⟨hP.1, (gF_up (V := mdV) (F := mdF) (gF_up (V := mdV) (F := mdF) (gF_up (V := mdV) (F := mdF) (gF_up (V := mdV) (F := mdF) (gF_up (V := mdV) (F := mdF) (gR_up (V := mdV) (F := mdF) (gR_up (V := mdV) (F := mdF) (gR_up (V := mdV) (F := mdF) ⟨hok.1, hok.2⟩ 0 (hP.2.1 0)) 1 (hP.2.1 1)) 24 (hP.2.1 24)) 28 (hP.2.2 28)) 30 (hP.2.2 30)) 34 (hP.2.2 34)) 35 (hP.2.2 35)) 36 (hP.2.2 36))⟩
            exact g_zret hQ C hr hlocks (by decide) hP hS dX11_out_92 ⟨0, (10 : Int), rfl, (by rw [show ((if (10 : Int) = 1 ∨ (10 : Int) = 2 ∨ (10 : Int) = 9 then (v 24) else a2) : Int) = a2 from by first | rfl | omega | ((repeat' split) <;> omega)]), (by rw [show ((if (10 : Int) = 1 ∨ (10 : Int) = 2 ∨ (10 : Int) = 9 then (f 28) else (ovE (v 25) a2 (f 30) (f 27) (fun k => (f 3) ((f 25) k)) (f 28))) : Int → Int) = (ovE (v 25) a2 (f 30) (f 27) (fun k => (f 3) ((f 25) k)) (f 28)) from by first | rfl | (rw [if_pos (by omega)]) | (rw [if_neg (by omega)]), show ((if (10 : Int) = 1 ∨ (10 : Int) = 2 ∨ (10 : Int) = 9 then (f 30) else (ovH (v 25) a2 (f 30) (f 27) (fun k => (f 3) ((f 25) k)))) : Int → Int) = (ovH (v 25) a2 (f 30) (f 27) (fun k => (f 3) ((f 25) k))) from by first | rfl | (rw [if_pos (by omega)]) | (rw [if_neg (by omega)]), show ((if (10 : Int) = 0 ∧ a3 ≠ 0 then u1 (f 34) a1 ((f 34) a1 + 1) else (f 34)) : Int → Int) = (f 34) from by first | rfl | (rw [if_pos (by omega)]) | (rw [if_neg (by omega)]), show ((if (10 : Int) = 0 ∧ a3 ≠ 0 then u1 (f 35) (a1 * 20 + (f 34) a1) a2 else (f 35)) : Int → Int) = (f 35) from by first | rfl | (rw [if_neg (by omega)]) | (rw [if_pos (by omega)]; congr 1; omega), show ((if (10 : Int) = 0 then (if a3 ≠ 0 then u1 (f 36) (a1 * 20 + (f 34) a1) (-1) else u1 (f 36) (a1 * 20 + (f 34) a1 - 1) a2) else (f 36)) : Int → Int) = (f 36) from by first | rfl | (rw [if_neg (by omega)]) | (rw [if_pos (by omega), if_pos (by omega)]; congr 1; omega) | (rw [if_pos (by omega), if_neg (by omega)]; congr 1; omega)]), rfl, (by first | omega | ((repeat' split) <;> omega)), (by first | omega | ((repeat' split) <;> omega))⟩
        · refine lv_aload_n hx hb dX11_out_56 rfl (lv_at hl 2 rfl) ?_
          refine mdG_outTo C hP mF_X11_130 dX11_out_57 ?_
          refine lv_bipush (v := iI 20) hx hb dX11_out_60 (by decide) ?_
          refine lv_iload_n hx hb dX11_out_62 rfl (lv_at hl 3 rfl) ?_
          refine gi_mul (z := (20 * a1)) hx hb dX11_out_63 rfl ?_
          refine lv_iload hx hb dX11_out_64 (lv_at hl 0 rfl) ?_
          refine gi_add (z := ((20 * a1) + (f 34 a1))) hx hb dX11_out_66 rfl ?_
          refine lv_iconst (v := iI 1) hx hb dX11_out_67 rfl ?_
          refine gi_sub (z := (((20 * a1) + (f 34 a1)) - 1)) hx hb dX11_out_68 rfl ?_
          refine mdL_outTo C hP (by omega) (by omega) dX11_out_69 ?_
          show W p l e (gRm 2 43) s m args below meth c _ _ 0 0 Q (F0 m 70 ls [.int (iI (f 36 (((20 * a1) + (f 34 a1)) - 1)))])
          have r_14 : (-1) ≤ (f 36 (((20 * a1) + (f 34 a1)) - 1)) ∧ (f 36 (((20 * a1) + (f 34 a1)) - 1)) ≤ 1000000 := hP.2.2 36 (((20 * a1) + (f 34 a1)) - 1)
          have hoc : (f 36 (((20 * a1) + (f 34 a1)) - 1)) = (f 36) (a1 * 20 + (f 34) a1 - 1) := by congr 1; omega
          refine gi_zge (tgt := 77) hx hb dX11_out_70 (by decide) (by omega) (fun c_16 => ?_) (fun c_16 => ?_)
          · refine lv_iconst (v := iI 0) hx hb dX11_out_77 rfl ?_
            refine lv_istore (lv' := [(6, .int (iI 0)), (5, .int (iI (f 34 a1))), (4, .int (iI z_4)), (0, .ref (ad 0)), (1, .int (iI a1)), (2, .int (iI a2)), (3, .int (iI a3))]) hx hb dX11_out_78 hl (by decide) rfl (fun ls hl => ?_)
            refine lv_iload hx hb dX11_out_80 (lv_at hl 0 rfl) ?_
            refine lv_iload_n hx hb dX11_out_82 rfl (lv_at hl 6 rfl) ?_
            refine gi_cne (tgt := 93) hx hb dX11_out_83 (by decide) (by decide) (by omega) (fun c_17 => ?_) (fun c_17 => ?_)
            · refine lv_iload_n hx hb dX11_out_93 rfl (lv_at hl 6 rfl) ?_
              refine gi_zeq (tgt := 110) hx hb dX11_out_94 (by decide) (by omega) (fun c_18 => ?_) (fun c_18 => ?_)
              · exfalso; omega
              · refine lv_iload hx hb dX11_out_97 (lv_at hl 1 rfl) ?_
                refine lv_bipush (v := iI 20) hx hb dX11_out_99 (by decide) ?_
                refine gi_cne (tgt := 110) hx hb dX11_out_101 (by decide) (by omega) (by decide) (fun c_19 => ?_) (fun c_19 => ?_)
                · refine lv_iload_n hx hb dX11_out_110 rfl (lv_at hl 6 rfl) ?_
                  refine gi_zeq (tgt := 153) hx hb dX11_out_111 (by decide) (by omega) (fun c_20 => ?_) (fun c_20 => ?_)
                  · exfalso; omega
                  · refine lv_aload_n hx hb dX11_out_114 rfl (lv_at hl 3 rfl) ?_
                    refine mdG_outFrom C hP mF_X11_127 dX11_out_115 ?_
                    refine lv_bipush (v := iI 20) hx hb dX11_out_118 (by decide) ?_
                    refine lv_iload_n hx hb dX11_out_120 rfl (lv_at hl 4 rfl) ?_
                    refine gi_mul (z := (20 * a1)) hx hb dX11_out_121 rfl ?_
                    refine lv_iload hx hb dX11_out_122 (lv_at hl 1 rfl) ?_
                    refine gi_add (z := ((20 * a1) + (f 34 a1))) hx hb dX11_out_124 rfl ?_
                    refine lv_iload_n hx hb dX11_out_125 rfl (lv_at hl 5 rfl) ?_
                    refine mdS_outFrom (f1 := (va_up (va_up (va_up (va_up (va_up f 28 (ovE (v 25) a2 (f 30) (f 27) (fun k => (f 3) ((f 25) k)) (f 28))) 30 (ovH (v 25) a2 (f 30) (f 27) (fun k => (f 3) ((f 25) k)))) 34 (f 34)) 35 (u1 (f 35) ((20 * a1) + (f 34 a1)) a2)) 36 (f 36))) C hP hD hS (by omega) (by omega) (by omega) rfl (Or.inr (gF_up (V := mdV) (F := mdF) (gF_up (V := mdV) (F := mdF) (gF_up (V := mdV) (F := mdF) (gF_up (V := mdV) (F := mdF) (gF_up (V := mdV) (F := mdF) (gR_up (V := mdV) (F := mdF) (gR_up (V := mdV) (F := mdF) (gR_up (V := mdV) (F := mdF) ⟨hok.1, hok.2⟩ 0 (hP.2.1 0)) 1 (hP.2.1 1)) 24 (hP.2.1 24)) 28 (hP.2.2 28)) 30 (hP.2.2 30)) 34 (hP.2.2 34)) 35 (u1_rng (hP.2.2 35) (show 0 ≤ a2 ∧ a2 ≤ 1000000 from (by omega)))) 36 (hP.2.2 36))) dX11_out_126 (fun H locs hP hS => ?_)
                    refine lv_aload_n hx hb dX11_out_127 rfl (lv_at hl 3 rfl) ?_
                    refine mdG_outTo C hP mF_X11_130 dX11_out_128 ?_
                    refine lv_bipush (v := iI 20) hx hb dX11_out_131 (by decide) ?_
                    refine lv_iload_n hx hb dX11_out_133 rfl (lv_at hl 4 rfl) ?_
                    refine gi_mul (z := (20 * a1)) hx hb dX11_out_134 rfl ?_
                    refine lv_iload hx hb dX11_out_135 (lv_at hl 1 rfl) ?_
                    refine gi_add (z := ((20 * a1) + (f 34 a1))) hx hb dX11_out_137 rfl ?_
                    refine lv_iconst (v := iI (-1)) hx hb dX11_out_138 rfl ?_
                    refine mdS_outTo (f1 := (va_up (va_up (va_up (va_up (va_up f 28 (ovE (v 25) a2 (f 30) (f 27) (fun k => (f 3) ((f 25) k)) (f 28))) 30 (ovH (v 25) a2 (f 30) (f 27) (fun k => (f 3) ((f 25) k)))) 34 (f 34)) 35 (u1 (f 35) ((20 * a1) + (f 34 a1)) a2)) 36 (u1 (f 36) ((20 * a1) + (f 34 a1)) (-1)))) C hP hD hS (by omega) (by omega) (by decide) rfl (Or.inr (gF_up (V := mdV) (F := mdF) (gF_up (V := mdV) (F := mdF) (gF_up (V := mdV) (F := mdF) (gF_up (V := mdV) (F := mdF) (gF_up (V := mdV) (F := mdF) (gR_up (V := mdV) (F := mdF) (gR_up (V := mdV) (F := mdF) (gR_up (V := mdV) (F := mdF) ⟨hok.1, hok.2⟩ 0 (hP.2.1 0)) 1 (hP.2.1 1)) 24 (hP.2.1 24)) 28 (hP.2.2 28)) 30 (hP.2.2 30)) 34 (hP.2.2 34)) 35 (hP.2.2 35)) 36 (u1_rng (hP.2.2 36) (show (-1) ≤ (-1) ∧ (-1) ≤ 1000000 from (by decide))))) dX11_out_139 (fun H locs hP hS => ?_)
                    refine lv_aload_n hx hb dX11_out_140 rfl (lv_at hl 3 rfl) ?_
                    refine mdG_outs C hP mF_X11_124 dX11_out_141 ?_
                    refine lv_iload_n hx hb dX11_out_144 rfl (lv_at hl 4 rfl) ?_
                    refine lv_dup2_11 hx hb dX11_out_145 rfl rfl ?_
                    refine mdL_outs C hP (by omega) (by omega) dX11_out_146 ?_
                    show W p l e (gRm 2 43) s m args below meth c _ _ 0 0 Q (F0 m 147 ls [.int (iI (f 34 a1)), .int (iI a1), .ref (ad 35)])
                    refine lv_iconst (v := iI 1) hx hb dX11_out_147 rfl ?_
                    refine gi_add (z := ((f 34 a1) + 1)) hx hb dX11_out_148 rfl ?_
                    refine mdS_outs (f1 := (va_up (va_up (va_up (va_up (va_up f 28 (ovE (v 25) a2 (f 30) (f 27) (fun k => (f 3) ((f 25) k)) (f 28))) 30 (ovH (v 25) a2 (f 30) (f 27) (fun k => (f 3) ((f 25) k)))) 34 (u1 (f 34) a1 ((f 34 a1) + 1))) 35 (u1 (f 35) ((20 * a1) + (f 34 a1)) a2)) 36 (u1 (f 36) ((20 * a1) + (f 34 a1)) (-1)))) C hP hD hS (by omega) (by omega) (by omega) rfl (Or.inr (gF_up (V := mdV) (F := mdF) (gF_up (V := mdV) (F := mdF) (gF_up (V := mdV) (F := mdF) (gF_up (V := mdV) (F := mdF) (gF_up (V := mdV) (F := mdF) (gR_up (V := mdV) (F := mdF) (gR_up (V := mdV) (F := mdF) (gR_up (V := mdV) (F := mdF) ⟨hok.1, hok.2⟩ 0 (hP.2.1 0)) 1 (hP.2.1 1)) 24 (hP.2.1 24)) 28 (hP.2.2 28)) 30 (hP.2.2 30)) 34 (u1_rng (hP.2.2 34) (show 0 ≤ ((f 34 a1) + 1) ∧ ((f 34 a1) + 1) ≤ 20 from (by omega)))) 35 (hP.2.2 35)) 36 (hP.2.2 36))) dX11_out_149 (fun H locs hP hS => ?_)
                    refine lv_goto (tgt := 168) hx hb dX11_out_150 (by decide) ?_
                    refine lv_iconst (v := iI 1) hx hb dX11_out_168 rfl ?_
                    exact g_zret hQ C hr hlocks (by decide) hP hS dX11_out_169 ⟨1, 0, rfl, (by rw [show ((if (0 : Int) = 1 ∨ (0 : Int) = 2 ∨ (0 : Int) = 9 then (v 24) else a2) : Int) = a2 from by first | rfl | omega | ((repeat' split) <;> omega)]), (by rw [show ((if (0 : Int) = 1 ∨ (0 : Int) = 2 ∨ (0 : Int) = 9 then (f 28) else (ovE (v 25) a2 (f 30) (f 27) (fun k => (f 3) ((f 25) k)) (f 28))) : Int → Int) = (ovE (v 25) a2 (f 30) (f 27) (fun k => (f 3) ((f 25) k)) (f 28)) from by first | rfl | (rw [if_pos (by omega)]) | (rw [if_neg (by omega)]), show ((if (0 : Int) = 1 ∨ (0 : Int) = 2 ∨ (0 : Int) = 9 then (f 30) else (ovH (v 25) a2 (f 30) (f 27) (fun k => (f 3) ((f 25) k)))) : Int → Int) = (ovH (v 25) a2 (f 30) (f 27) (fun k => (f 3) ((f 25) k))) from by first | rfl | (rw [if_pos (by omega)]) | (rw [if_neg (by omega)]), show ((if (0 : Int) = 0 ∧ a3 ≠ 0 then u1 (f 34) a1 ((f 34) a1 + 1) else (f 34)) : Int → Int) = (u1 (f 34) a1 ((f 34 a1) + 1)) from by first | rfl | (rw [if_pos (by omega)]) | (rw [if_neg (by omega)]), show ((if (0 : Int) = 0 ∧ a3 ≠ 0 then u1 (f 35) (a1 * 20 + (f 34) a1) a2 else (f 35)) : Int → Int) = (u1 (f 35) ((20 * a1) + (f 34 a1)) a2) from by first | rfl | (rw [if_neg (by omega)]) | (rw [if_pos (by omega)]; congr 1; omega), show ((if (0 : Int) = 0 then (if a3 ≠ 0 then u1 (f 36) (a1 * 20 + (f 34) a1) (-1) else u1 (f 36) (a1 * 20 + (f 34) a1 - 1) a2) else (f 36)) : Int → Int) = (u1 (f 36) ((20 * a1) + (f 34 a1)) (-1)) from by first | rfl | (rw [if_neg (by omega)]) | (rw [if_pos (by omega), if_pos (by omega)]; congr 1; omega) | (rw [if_pos (by omega), if_neg (by omega)]; congr 1; omega)]), rfl, (by first | omega | ((repeat' split) <;> omega)), (by first | omega | ((repeat' split) <;> omega))⟩
                · refine lv_aload_n hx hb dX11_out_104 rfl (lv_at hl 3 rfl) ?_
                  refine lv_iconst (v := iI 3) hx hb dX11_out_105 rfl ?_
                  refine g_cv (As := [.int (iI 3)]) (rest := []) (n := 1) C hml (m_X11_no l D k A ad hD (va_up (va_up (va_up v 0 0) 1 0) 24 a2) (va_up (va_up (va_up (va_up (va_up f 28 (ovE (v 25) a2 (f 30) (f 27) (fun k => (f 3) ((f 25) k)) (f 28))) 30 (ovH (v 25) a2 (f 30) (f 27) (fun k => (f 3) ((f 25) k)))) 34 (f 34)) 35 (f 35)) 36 (f 36)) g 3 (by decide) (show 0 ≤ (3 : Int) ∧ (3 : Int) ≤ 10 from by omega)) mM_X11_332 mI_X11_no mE_X11_no mN_X11 mC_X11_no (by decide +kernel) 0 (ci := 11) rfl rfl hP hS (fun _ h => h) ⟨Nat.le_of_ble_eq_true rfl, Nat.le_of_ble_eq_true rfl⟩ ⟨Nat.zero_le _, Nat.zero_le _⟩ hl.1 rfl rfl (Nat.le_of_ble_eq_true rfl) dX11_out_106 (fun r_21 v_21 f_21 g_21 H locs hq_21 hP _ hS => ?_)
                  obtain ⟨rfl, rfl, rfl, rfl⟩ := hq_21
                  show W p l e (gRm 2 43) s m args below meth c _ _ 0 0 Q (F0 m 109 ls [.int (iI 0)])
                  have hP : gWd D (mdT k ad) (va_up (va_up (va_up v 0 (3 : Int)) 1 0) 24 a2) (va_up (va_up (va_up (va_up (va_up f 28 (ovE (v 25) a2 (f 30) (f 27) (fun k => (f 3) ((f 25) k)) (f 28))) 30 (ovH (v 25) a2 (f 30) (f 27) (fun k => (f 3) ((f 25) k)))) 34 (f 34)) 35 (f 35)) 36 (f 36)) g H := ⟨hP.1, (gF_up (V := mdV) (F := mdF) (gF_up (V := mdV) (F := mdF) (gF_up (V := mdV) (F := mdF) (gF_up (V := mdV) (F := mdF) (gF_up (V := mdV) (F := mdF) (gR_up (V := mdV) (F := mdF) (gR_up (V := mdV) (F := mdF) (gR_up (V := mdV) (F := mdF) ⟨hok.1, hok.2⟩ 0 (hP.2.1 0)) 1 (hP.2.1 1)) 24 (hP.2.1 24)) 28 (hP.2.2 28)) 30 (hP.2.2 30)) 34 (hP.2.2 34)) 35 (hP.2.2 35)) 36 (hP.2.2 36))⟩
                  exact g_zret hQ C hr hlocks (by decide) hP hS dX11_out_109 ⟨0, (3 : Int), rfl, (by rw [show ((if (3 : Int) = 1 ∨ (3 : Int) = 2 ∨ (3 : Int) = 9 then (v 24) else a2) : Int) = a2 from by first | rfl | omega | ((repeat' split) <;> omega)]), (by rw [show ((if (3 : Int) = 1 ∨ (3 : Int) = 2 ∨ (3 : Int) = 9 then (f 28) else (ovE (v 25) a2 (f 30) (f 27) (fun k => (f 3) ((f 25) k)) (f 28))) : Int → Int) = (ovE (v 25) a2 (f 30) (f 27) (fun k => (f 3) ((f 25) k)) (f 28)) from by first | rfl | (rw [if_pos (by omega)]) | (rw [if_neg (by omega)]), show ((if (3 : Int) = 1 ∨ (3 : Int) = 2 ∨ (3 : Int) = 9 then (f 30) else (ovH (v 25) a2 (f 30) (f 27) (fun k => (f 3) ((f 25) k)))) : Int → Int) = (ovH (v 25) a2 (f 30) (f 27) (fun k => (f 3) ((f 25) k))) from by first | rfl | (rw [if_pos (by omega)]) | (rw [if_neg (by omega)]), show ((if (3 : Int) = 0 ∧ a3 ≠ 0 then u1 (f 34) a1 ((f 34) a1 + 1) else (f 34)) : Int → Int) = (f 34) from by first | rfl | (rw [if_pos (by omega)]) | (rw [if_neg (by omega)]), show ((if (3 : Int) = 0 ∧ a3 ≠ 0 then u1 (f 35) (a1 * 20 + (f 34) a1) a2 else (f 35)) : Int → Int) = (f 35) from by first | rfl | (rw [if_neg (by omega)]) | (rw [if_pos (by omega)]; congr 1; omega), show ((if (3 : Int) = 0 then (if a3 ≠ 0 then u1 (f 36) (a1 * 20 + (f 34) a1) (-1) else u1 (f 36) (a1 * 20 + (f 34) a1 - 1) a2) else (f 36)) : Int → Int) = (f 36) from by first | rfl | (rw [if_neg (by omega)]) | (rw [if_pos (by omega), if_pos (by omega)]; congr 1; omega) | (rw [if_pos (by omega), if_neg (by omega)]; congr 1; omega)]), rfl, (by first | omega | ((repeat' split) <;> omega)), (by first | omega | ((repeat' split) <;> omega))⟩
            · refine lv_aload_n hx hb dX11_out_86 rfl (lv_at hl 3 rfl) ?_
              refine lv_bipush (v := iI 10) hx hb dX11_out_87 (by decide) ?_
              refine g_cv (As := [.int (iI 10)]) (rest := []) (n := 1) C hml (m_X11_no l D k A ad hD (va_up (va_up (va_up v 0 0) 1 0) 24 a2) (va_up (va_up (va_up (va_up (va_up f 28 (ovE (v 25) a2 (f 30) (f 27) (fun k => (f 3) ((f 25) k)) (f 28))) 30 (ovH (v 25) a2 (f 30) (f 27) (fun k => (f 3) ((f 25) k)))) 34 (f 34)) 35 (f 35)) 36 (f 36)) g 10 (by decide) (show 0 ≤ (10 : Int) ∧ (10 : Int) ≤ 10 from by omega)) mM_X11_332 mI_X11_no mE_X11_no mN_X11 mC_X11_no (by decide +kernel) 0 (ci := 11) rfl rfl hP hS (fun _ h => h) ⟨Nat.le_of_ble_eq_true rfl, Nat.le_of_ble_eq_true rfl⟩ ⟨Nat.zero_le _, Nat.zero_le _⟩ hl.1 rfl rfl (Nat.le_of_ble_eq_true rfl) dX11_out_89 (fun r_22 v_22 f_22 g_22 H locs hq_22 hP _ hS => ?_)
              obtain ⟨rfl, rfl, rfl, rfl⟩ := hq_22
              show W p l e (gRm 2 43) s m args below meth c _ _ 0 0 Q (F0 m 92 ls [.int (iI 0)])
              have hP : gWd D (mdT k ad) (va_up (va_up (va_up v 0 (10 : Int)) 1 0) 24 a2) (va_up (va_up (va_up (va_up (va_up f 28 (ovE (v 25) a2 (f 30) (f 27) (fun k => (f 3) ((f 25) k)) (f 28))) 30 (ovH (v 25) a2 (f 30) (f 27) (fun k => (f 3) ((f 25) k)))) 34 (f 34)) 35 (f 35)) 36 (f 36)) g H := ⟨hP.1, (gF_up (V := mdV) (F := mdF) (gF_up (V := mdV) (F := mdF) (gF_up (V := mdV) (F := mdF) (gF_up (V := mdV) (F := mdF) (gF_up (V := mdV) (F := mdF) (gR_up (V := mdV) (F := mdF) (gR_up (V := mdV) (F := mdF) (gR_up (V := mdV) (F := mdF) ⟨hok.1, hok.2⟩ 0 (hP.2.1 0)) 1 (hP.2.1 1)) 24 (hP.2.1 24)) 28 (hP.2.2 28)) 30 (hP.2.2 30)) 34 (hP.2.2 34)) 35 (hP.2.2 35)) 36 (hP.2.2 36))⟩
              exact g_zret hQ C hr hlocks (by decide) hP hS dX11_out_92 ⟨0, (10 : Int), rfl, (by rw [show ((if (10 : Int) = 1 ∨ (10 : Int) = 2 ∨ (10 : Int) = 9 then (v 24) else a2) : Int) = a2 from by first | rfl | omega | ((repeat' split) <;> omega)]), (by rw [show ((if (10 : Int) = 1 ∨ (10 : Int) = 2 ∨ (10 : Int) = 9 then (f 28) else (ovE (v 25) a2 (f 30) (f 27) (fun k => (f 3) ((f 25) k)) (f 28))) : Int → Int) = (ovE (v 25) a2 (f 30) (f 27) (fun k => (f 3) ((f 25) k)) (f 28)) from by first | rfl | (rw [if_pos (by omega)]) | (rw [if_neg (by omega)]), show ((if (10 : Int) = 1 ∨ (10 : Int) = 2 ∨ (10 : Int) = 9 then (f 30) else (ovH (v 25) a2 (f 30) (f 27) (fun k => (f 3) ((f 25) k)))) : Int → Int) = (ovH (v 25) a2 (f 30) (f 27) (fun k => (f 3) ((f 25) k))) from by first | rfl | (rw [if_pos (by omega)]) | (rw [if_neg (by omega)]), show ((if (10 : Int) = 0 ∧ a3 ≠ 0 then u1 (f 34) a1 ((f 34) a1 + 1) else (f 34)) : Int → Int) = (f 34) from by first | rfl | (rw [if_pos (by omega)]) | (rw [if_neg (by omega)]), show ((if (10 : Int) = 0 ∧ a3 ≠ 0 then u1 (f 35) (a1 * 20 + (f 34) a1) a2 else (f 35)) : Int → Int) = (f 35) from by first | rfl | (rw [if_neg (by omega)]) | (rw [if_pos (by omega)]; congr 1; omega), show ((if (10 : Int) = 0 then (if a3 ≠ 0 then u1 (f 36) (a1 * 20 + (f 34) a1) (-1) else u1 (f 36) (a1 * 20 + (f 34) a1 - 1) a2) else (f 36)) : Int → Int) = (f 36) from by first | rfl | (rw [if_neg (by omega)]) | (rw [if_pos (by omega), if_pos (by omega)]; congr 1; omega) | (rw [if_pos (by omega), if_neg (by omega)]; congr 1; omega)]), rfl, (by first | omega | ((repeat' split) <;> omega)), (by first | omega | ((repeat' split) <;> omega))⟩
          · refine lv_iconst (v := iI 1) hx hb dX11_out_73 rfl ?_
            refine lv_goto (tgt := 78) hx hb dX11_out_74 (by decide) ?_
            refine lv_istore (lv' := [(6, .int (iI 1)), (5, .int (iI (f 34 a1))), (4, .int (iI z_4)), (0, .ref (ad 0)), (1, .int (iI a1)), (2, .int (iI a2)), (3, .int (iI a3))]) hx hb dX11_out_78 hl (by decide) rfl (fun ls hl => ?_)
            refine lv_iload hx hb dX11_out_80 (lv_at hl 0 rfl) ?_
            refine lv_iload_n hx hb dX11_out_82 rfl (lv_at hl 6 rfl) ?_
            refine gi_cne (tgt := 93) hx hb dX11_out_83 (by decide) (by decide) (by omega) (fun c_23 => ?_) (fun c_23 => ?_)
            · refine lv_iload_n hx hb dX11_out_93 rfl (lv_at hl 6 rfl) ?_
              refine gi_zeq (tgt := 110) hx hb dX11_out_94 (by decide) (by omega) (fun c_24 => ?_) (fun c_24 => ?_)
              · refine lv_iload_n hx hb dX11_out_110 rfl (lv_at hl 6 rfl) ?_
                refine gi_zeq (tgt := 153) hx hb dX11_out_111 (by decide) (by omega) (fun c_25 => ?_) (fun c_25 => ?_)
                · refine lv_aload_n hx hb dX11_out_153 rfl (lv_at hl 3 rfl) ?_
                  refine mdG_outTo C hP mF_X11_130 dX11_out_154 ?_
                  refine lv_bipush (v := iI 20) hx hb dX11_out_157 (by decide) ?_
                  refine lv_iload_n hx hb dX11_out_159 rfl (lv_at hl 4 rfl) ?_
                  refine gi_mul (z := (20 * a1)) hx hb dX11_out_160 rfl ?_
                  refine lv_iload hx hb dX11_out_161 (lv_at hl 1 rfl) ?_
                  refine gi_add (z := ((20 * a1) + (f 34 a1))) hx hb dX11_out_163 rfl ?_
                  refine lv_iconst (v := iI 1) hx hb dX11_out_164 rfl ?_
                  refine gi_sub (z := (((20 * a1) + (f 34 a1)) - 1)) hx hb dX11_out_165 rfl ?_
                  refine lv_iload_n hx hb dX11_out_166 rfl (lv_at hl 5 rfl) ?_
                  refine mdS_outTo (f1 := (va_up (va_up (va_up (va_up (va_up f 28 (ovE (v 25) a2 (f 30) (f 27) (fun k => (f 3) ((f 25) k)) (f 28))) 30 (ovH (v 25) a2 (f 30) (f 27) (fun k => (f 3) ((f 25) k)))) 34 (f 34)) 35 (f 35)) 36 (u1 (f 36) (((20 * a1) + (f 34 a1)) - 1) a2))) C hP hD hS (by omega) (by omega) (by omega) rfl (Or.inr (gF_up (V := mdV) (F := mdF) (gF_up (V := mdV) (F := mdF) (gF_up (V := mdV) (F := mdF) (gF_up (V := mdV) (F := mdF) (gF_up (V := mdV) (F := mdF) (gR_up (V := mdV) (F := mdF) (gR_up (V := mdV) (F := mdF) (gR_up (V := mdV) (F := mdF) ⟨hok.1, hok.2⟩ 0 (hP.2.1 0)) 1 (hP.2.1 1)) 24 (hP.2.1 24)) 28 (hP.2.2 28)) 30 (hP.2.2 30)) 34 (hP.2.2 34)) 35 (hP.2.2 35)) 36 (u1_rng (hP.2.2 36) (show (-1) ≤ a2 ∧ a2 ≤ 1000000 from (by omega))))) dX11_out_167 (fun H locs hP hS => ?_)
                  refine lv_iconst (v := iI 1) hx hb dX11_out_168 rfl ?_
                  exact g_zret hQ C hr hlocks (by decide) hP hS dX11_out_169 ⟨1, 0, rfl, (by rw [show ((if (0 : Int) = 1 ∨ (0 : Int) = 2 ∨ (0 : Int) = 9 then (v 24) else a2) : Int) = a2 from by first | rfl | omega | ((repeat' split) <;> omega)]), (by rw [show ((if (0 : Int) = 1 ∨ (0 : Int) = 2 ∨ (0 : Int) = 9 then (f 28) else (ovE (v 25) a2 (f 30) (f 27) (fun k => (f 3) ((f 25) k)) (f 28))) : Int → Int) = (ovE (v 25) a2 (f 30) (f 27) (fun k => (f 3) ((f 25) k)) (f 28)) from by first | rfl | (rw [if_pos (by omega)]) | (rw [if_neg (by omega)]), show ((if (0 : Int) = 1 ∨ (0 : Int) = 2 ∨ (0 : Int) = 9 then (f 30) else (ovH (v 25) a2 (f 30) (f 27) (fun k => (f 3) ((f 25) k)))) : Int → Int) = (ovH (v 25) a2 (f 30) (f 27) (fun k => (f 3) ((f 25) k))) from by first | rfl | (rw [if_pos (by omega)]) | (rw [if_neg (by omega)]), show ((if (0 : Int) = 0 ∧ a3 ≠ 0 then u1 (f 34) a1 ((f 34) a1 + 1) else (f 34)) : Int → Int) = (f 34) from by first | rfl | (rw [if_pos (by omega)]) | (rw [if_neg (by omega)]), show ((if (0 : Int) = 0 ∧ a3 ≠ 0 then u1 (f 35) (a1 * 20 + (f 34) a1) a2 else (f 35)) : Int → Int) = (f 35) from by first | rfl | (rw [if_neg (by omega)]) | (rw [if_pos (by omega)]; congr 1; omega), show ((if (0 : Int) = 0 then (if a3 ≠ 0 then u1 (f 36) (a1 * 20 + (f 34) a1) (-1) else u1 (f 36) (a1 * 20 + (f 34) a1 - 1) a2) else (f 36)) : Int → Int) = (u1 (f 36) (((20 * a1) + (f 34 a1)) - 1) a2) from by first | rfl | (rw [if_neg (by omega)]) | (rw [if_pos (by omega), if_pos (by omega)]; congr 1; omega) | (rw [if_pos (by omega), if_neg (by omega)]; congr 1; omega)]), rfl, (by first | omega | ((repeat' split) <;> omega)), (by first | omega | ((repeat' split) <;> omega))⟩
                · exfalso; omega
              · exfalso; omega
            · refine lv_aload_n hx hb dX11_out_86 rfl (lv_at hl 3 rfl) ?_
              refine lv_bipush (v := iI 10) hx hb dX11_out_87 (by decide) ?_
              refine g_cv (As := [.int (iI 10)]) (rest := []) (n := 1) C hml (m_X11_no l D k A ad hD (va_up (va_up (va_up v 0 0) 1 0) 24 a2) (va_up (va_up (va_up (va_up (va_up f 28 (ovE (v 25) a2 (f 30) (f 27) (fun k => (f 3) ((f 25) k)) (f 28))) 30 (ovH (v 25) a2 (f 30) (f 27) (fun k => (f 3) ((f 25) k)))) 34 (f 34)) 35 (f 35)) 36 (f 36)) g 10 (by decide) (show 0 ≤ (10 : Int) ∧ (10 : Int) ≤ 10 from by omega)) mM_X11_332 mI_X11_no mE_X11_no mN_X11 mC_X11_no (by decide +kernel) 0 (ci := 11) rfl rfl hP hS (fun _ h => h) ⟨Nat.le_of_ble_eq_true rfl, Nat.le_of_ble_eq_true rfl⟩ ⟨Nat.zero_le _, Nat.zero_le _⟩ hl.1 rfl rfl (Nat.le_of_ble_eq_true rfl) dX11_out_89 (fun r_26 v_26 f_26 g_26 H locs hq_26 hP _ hS => ?_)
              obtain ⟨rfl, rfl, rfl, rfl⟩ := hq_26
              show W p l e (gRm 2 43) s m args below meth c _ _ 0 0 Q (F0 m 92 ls [.int (iI 0)])
              have hP : gWd D (mdT k ad) (va_up (va_up (va_up v 0 (10 : Int)) 1 0) 24 a2) (va_up (va_up (va_up (va_up (va_up f 28 (ovE (v 25) a2 (f 30) (f 27) (fun k => (f 3) ((f 25) k)) (f 28))) 30 (ovH (v 25) a2 (f 30) (f 27) (fun k => (f 3) ((f 25) k)))) 34 (f 34)) 35 (f 35)) 36 (f 36)) g H := ⟨hP.1, (gF_up (V := mdV) (F := mdF) (gF_up (V := mdV) (F := mdF) (gF_up (V := mdV) (F := mdF) (gF_up (V := mdV) (F := mdF) (gF_up (V := mdV) (F := mdF) (gR_up (V := mdV) (F := mdF) (gR_up (V := mdV) (F := mdF) (gR_up (V := mdV) (F := mdF) ⟨hok.1, hok.2⟩ 0 (hP.2.1 0)) 1 (hP.2.1 1)) 24 (hP.2.1 24)) 28 (hP.2.2 28)) 30 (hP.2.2 30)) 34 (hP.2.2 34)) 35 (hP.2.2 35)) 36 (hP.2.2 36))⟩
              exact g_zret hQ C hr hlocks (by decide) hP hS dX11_out_92 ⟨0, (10 : Int), rfl, (by rw [show ((if (10 : Int) = 1 ∨ (10 : Int) = 2 ∨ (10 : Int) = 9 then (v 24) else a2) : Int) = a2 from by first | rfl | omega | ((repeat' split) <;> omega)]), (by rw [show ((if (10 : Int) = 1 ∨ (10 : Int) = 2 ∨ (10 : Int) = 9 then (f 28) else (ovE (v 25) a2 (f 30) (f 27) (fun k => (f 3) ((f 25) k)) (f 28))) : Int → Int) = (ovE (v 25) a2 (f 30) (f 27) (fun k => (f 3) ((f 25) k)) (f 28)) from by first | rfl | (rw [if_pos (by omega)]) | (rw [if_neg (by omega)]), show ((if (10 : Int) = 1 ∨ (10 : Int) = 2 ∨ (10 : Int) = 9 then (f 30) else (ovH (v 25) a2 (f 30) (f 27) (fun k => (f 3) ((f 25) k)))) : Int → Int) = (ovH (v 25) a2 (f 30) (f 27) (fun k => (f 3) ((f 25) k))) from by first | rfl | (rw [if_pos (by omega)]) | (rw [if_neg (by omega)]), show ((if (10 : Int) = 0 ∧ a3 ≠ 0 then u1 (f 34) a1 ((f 34) a1 + 1) else (f 34)) : Int → Int) = (f 34) from by first | rfl | (rw [if_pos (by omega)]) | (rw [if_neg (by omega)]), show ((if (10 : Int) = 0 ∧ a3 ≠ 0 then u1 (f 35) (a1 * 20 + (f 34) a1) a2 else (f 35)) : Int → Int) = (f 35) from by first | rfl | (rw [if_neg (by omega)]) | (rw [if_pos (by omega)]; congr 1; omega), show ((if (10 : Int) = 0 then (if a3 ≠ 0 then u1 (f 36) (a1 * 20 + (f 34) a1) (-1) else u1 (f 36) (a1 * 20 + (f 34) a1 - 1) a2) else (f 36)) : Int → Int) = (f 36) from by first | rfl | (rw [if_neg (by omega)]) | (rw [if_pos (by omega), if_pos (by omega)]; congr 1; omega) | (rw [if_pos (by omega), if_neg (by omega)]; congr 1; omega)]), rfl, (by first | omega | ((repeat' split) <;> omega)), (by first | omega | ((repeat' split) <;> omega))⟩
      · exfalso; omega
    · replace hP : gWd D (mdT k ad) (va_up (va_up (va_up v 0 0) 1 0) 24 (v 24)) (va_up (va_up (va_up (va_up (va_up f 28 (f 28)) 30 (f 30)) 34 (f 34)) 35 (f 35)) 36 (f 36)) g H := by have h9 := hP; simp only [if_neg hzp] at h9; exact h9
      refine lv_istore (lv' := [(4, .int (iI z_4)), (0, .ref (ad 0)), (1, .int (iI a1)), (2, .int (iI a2)), (3, .int (iI a3))]) hx hb dX11_out_29 hl (by decide) rfl (fun ls hl => ?_)
      refine lv_iload hx hb dX11_out_31 (lv_at hl 0 rfl) ?_
      refine gi_zle (tgt := 43) hx hb dX11_out_33 (by decide) (by omega) (fun c_27 => ?_) (fun c_27 => ?_)
      · exfalso; omega
      · refine lv_aload_n hx hb dX11_out_36 rfl (lv_at hl 1 rfl) ?_
        refine lv_iload hx hb dX11_out_37 (lv_at hl 0 rfl) ?_
        refine g_cv (As := [.int (iI z_4)]) (rest := []) (n := 1) C hml (m_X11_no l D k A ad hD (va_up (va_up (va_up v 0 0) 1 0) 24 (v 24)) (va_up (va_up (va_up (va_up (va_up f 28 (f 28)) 30 (f 30)) 34 (f 34)) 35 (f 35)) 36 (f 36)) g z_4 (by omega) (show 0 ≤ z_4 ∧ z_4 ≤ 10 from by omega)) mM_X11_332 mI_X11_no mE_X11_no mN_X11 mC_X11_no (by decide +kernel) 0 (ci := 11) rfl rfl hP hS (fun _ h => h) ⟨Nat.le_of_ble_eq_true rfl, Nat.le_of_ble_eq_true rfl⟩ ⟨Nat.zero_le _, Nat.zero_le _⟩ hl.1 rfl rfl (Nat.le_of_ble_eq_true rfl) dX11_out_39 (fun r_28 v_28 f_28 g_28 H locs hq_28 hP _ hS => ?_)
        obtain ⟨rfl, rfl, rfl, rfl⟩ := hq_28
        show W p l e (gRm 2 43) s m args below meth c _ _ 0 0 Q (F0 m 42 ls [.int (iI 0)])
        have hP : gWd D (mdT k ad) (va_up (va_up (va_up v 0 z_4) 1 0) 24 (v 24)) (va_up (va_up (va_up (va_up (va_up f 28 (f 28)) 30 (f 30)) 34 (f 34)) 35 (f 35)) 36 (f 36)) g H := ⟨hP.1, (gF_up (V := mdV) (F := mdF) (gF_up (V := mdV) (F := mdF) (gF_up (V := mdV) (F := mdF) (gF_up (V := mdV) (F := mdF) (gF_up (V := mdV) (F := mdF) (gR_up (V := mdV) (F := mdF) (gR_up (V := mdV) (F := mdF) (gR_up (V := mdV) (F := mdF) ⟨hok.1, hok.2⟩ 0 (hP.2.1 0)) 1 (hP.2.1 1)) 24 (hP.2.1 24)) 28 (hP.2.2 28)) 30 (hP.2.2 30)) 34 (hP.2.2 34)) 35 (hP.2.2 35)) 36 (hP.2.2 36))⟩
        exact g_zret hQ C hr hlocks (by decide) hP hS dX11_out_42 ⟨0, z_4, rfl, (by rw [show ((if z_4 = 1 ∨ z_4 = 2 ∨ z_4 = 9 then (v 24) else a2) : Int) = (v 24) from by first | rfl | omega | ((repeat' split) <;> omega)]), (by rw [show ((if z_4 = 1 ∨ z_4 = 2 ∨ z_4 = 9 then (f 28) else (ovE (v 25) a2 (f 30) (f 27) (fun k => (f 3) ((f 25) k)) (f 28))) : Int → Int) = (f 28) from by first | rfl | (rw [if_pos (by omega)]) | (rw [if_neg (by omega)]), show ((if z_4 = 1 ∨ z_4 = 2 ∨ z_4 = 9 then (f 30) else (ovH (v 25) a2 (f 30) (f 27) (fun k => (f 3) ((f 25) k)))) : Int → Int) = (f 30) from by first | rfl | (rw [if_pos (by omega)]) | (rw [if_neg (by omega)]), show ((if z_4 = 0 ∧ a3 ≠ 0 then u1 (f 34) a1 ((f 34) a1 + 1) else (f 34)) : Int → Int) = (f 34) from by first | rfl | (rw [if_pos (by omega)]) | (rw [if_neg (by omega)]), show ((if z_4 = 0 ∧ a3 ≠ 0 then u1 (f 35) (a1 * 20 + (f 34) a1) a2 else (f 35)) : Int → Int) = (f 35) from by first | rfl | (rw [if_neg (by omega)]) | (rw [if_pos (by omega)]; congr 1; omega), show ((if z_4 = 0 then (if a3 ≠ 0 then u1 (f 36) (a1 * 20 + (f 34) a1) (-1) else u1 (f 36) (a1 * 20 + (f 34) a1 - 1) a2) else (f 36)) : Int → Int) = (f 36) from by first | rfl | (rw [if_neg (by omega)]) | (rw [if_pos (by omega), if_pos (by omega)]; congr 1; omega) | (rw [if_pos (by omega), if_neg (by omega)]; congr 1; omega)]), rfl, (by first | omega | ((repeat' split) <;> omega)), (by first | omega | ((repeat' split) <;> omega))⟩
  · have vz_2 := gif0 w_2 c_3
    clear w_2
    refine lv_aload_n hx hb dX11_out_18 rfl (lv_at hl 0 rfl) ?_
    refine lv_iconst (v := iI 1) hx hb dX11_out_19 rfl ?_
    refine g_cv (As := [.int (iI 1)]) (rest := []) (n := 1) C hml (m_X11_no l D k A ad hD (va_up (va_up (va_up v 0 0) 1 0) 24 (v 24)) (va_up (va_up (va_up (va_up (va_up f 28 (f 28)) 30 (f 30)) 34 (f 34)) 35 (f 35)) 36 (f 36)) g 1 (by decide) (show 0 ≤ (1 : Int) ∧ (1 : Int) ≤ 10 from by omega)) mM_X11_332 mI_X11_no mE_X11_no mN_X11 mC_X11_no (by decide +kernel) 0 (ci := 11) rfl rfl hP hS (fun _ h => h) ⟨Nat.le_of_ble_eq_true rfl, Nat.le_of_ble_eq_true rfl⟩ ⟨Nat.zero_le _, Nat.zero_le _⟩ hl.1 rfl rfl (Nat.le_of_ble_eq_true rfl) dX11_out_20 (fun r_29 v_29 f_29 g_29 H locs hq_29 hP _ hS => ?_)
    obtain ⟨rfl, rfl, rfl, rfl⟩ := hq_29
    show W p l e (gRm 2 43) s m args below meth c _ _ 0 0 Q (F0 m 23 ls [.int (iI 0)])
    have hP : gWd D (mdT k ad) (va_up (va_up (va_up v 0 (1 : Int)) 1 0) 24 (v 24)) (va_up (va_up (va_up (va_up (va_up f 28 (f 28)) 30 (f 30)) 34 (f 34)) 35 (f 35)) 36 (f 36)) g H := ⟨hP.1, (gF_up (V := mdV) (F := mdF) (gF_up (V := mdV) (F := mdF) (gF_up (V := mdV) (F := mdF) (gF_up (V := mdV) (F := mdF) (gF_up (V := mdV) (F := mdF) (gR_up (V := mdV) (F := mdF) (gR_up (V := mdV) (F := mdF) (gR_up (V := mdV) (F := mdF) ⟨hok.1, hok.2⟩ 0 (hP.2.1 0)) 1 (hP.2.1 1)) 24 (hP.2.1 24)) 28 (hP.2.2 28)) 30 (hP.2.2 30)) 34 (hP.2.2 34)) 35 (hP.2.2 35)) 36 (hP.2.2 36))⟩
    exact g_zret hQ C hr hlocks (by decide) hP hS dX11_out_23 ⟨0, (1 : Int), rfl, (by rw [show ((if (1 : Int) = 1 ∨ (1 : Int) = 2 ∨ (1 : Int) = 9 then (v 24) else a2) : Int) = (v 24) from by first | rfl | omega | ((repeat' split) <;> omega)]), (by rw [show ((if (1 : Int) = 1 ∨ (1 : Int) = 2 ∨ (1 : Int) = 9 then (f 28) else (ovE (v 25) a2 (f 30) (f 27) (fun k => (f 3) ((f 25) k)) (f 28))) : Int → Int) = (f 28) from by first | rfl | (rw [if_pos (by omega)]) | (rw [if_neg (by omega)]), show ((if (1 : Int) = 1 ∨ (1 : Int) = 2 ∨ (1 : Int) = 9 then (f 30) else (ovH (v 25) a2 (f 30) (f 27) (fun k => (f 3) ((f 25) k)))) : Int → Int) = (f 30) from by first | rfl | (rw [if_pos (by omega)]) | (rw [if_neg (by omega)]), show ((if (1 : Int) = 0 ∧ a3 ≠ 0 then u1 (f 34) a1 ((f 34) a1 + 1) else (f 34)) : Int → Int) = (f 34) from by first | rfl | (rw [if_pos (by omega)]) | (rw [if_neg (by omega)]), show ((if (1 : Int) = 0 ∧ a3 ≠ 0 then u1 (f 35) (a1 * 20 + (f 34) a1) a2 else (f 35)) : Int → Int) = (f 35) from by first | rfl | (rw [if_neg (by omega)]) | (rw [if_pos (by omega)]; congr 1; omega), show ((if (1 : Int) = 0 then (if a3 ≠ 0 then u1 (f 36) (a1 * 20 + (f 34) a1) (-1) else u1 (f 36) (a1 * 20 + (f 34) a1 - 1) a2) else (f 36)) : Int → Int) = (f 36) from by first | rfl | (rw [if_neg (by omega)]) | (rw [if_pos (by omega), if_pos (by omega)]; congr 1; omega) | (rw [if_pos (by omega), if_neg (by omega)]; congr 1; omega)]), rfl, (by first | omega | ((repeat' split) <;> omega)), (by first | omega | ((repeat' split) <;> omega))⟩

set_option maxHeartbeats 4000000 in
set_option maxRecDepth 100000 in
theorem y_clock (l : Launch) (D : va_G) (k : Nat → ClassId) (A : Nat → Prop) (ad : Nat → Nat) (hD : mdD A k ad) (v : gV) (f g : gF) (a1 : Int) (h_a1 : inR a1) : GM l D k A (mdT k ad) yX11_clock cX11_clock 2 (some .boolean) 2 43 [.ref (ad 0), .int (iI a1)] v f g (fun r v1 f1 g1 => ∃ (z : Int) (w0 : Int), r = some (.int (iI z)) ∧ (va_up (va_up (va_up v 0 w0) 1 0) 24 (if w0 = 0 then a1 else (v 24))) = v1 ∧ (va_up (va_up f 28 (if w0 = 0 then (ovE (v 25) a1 (f 30) (f 27) (fun k => (f 3) ((f 25) k)) (f 28)) else (f 28))) 30 (if w0 = 0 then (ovH (v 25) a1 (f 30) (f 27) (fun k => (f 3) ((f 25) k))) else (f 30))) = f1 ∧ g = g1 ∧ (z = (if w0 = 0 then 1 else 0)) ∧ (w0 = (if a1 < 0 ∨ 1000000 < a1 then (2 : Int) else if a1 < (v 24) then 9 else 0))) := by
  refine GM.of (by decide) (Nat.le_of_ble_eq_true rfl) ?_
  intro p e s m args below meth c Q ls hQ C hml hr hlocks hP hl
  have hx := C.1
  have hb := C.2.1
  have hok := hP.2
  have hS : va_S A s.heap s.heap [] := va_S.rf
  have hl : lv_has ls 2 [(0, .ref (ad 0)), (1, .int (iI a1))] := hl
  have hP : gWd D (mdT k ad) (va_up (va_up (va_up v 0 (v 0)) 1 (v 1)) 24 (v 24)) (va_up (va_up f 28 (f 28)) 30 (f 30)) g s.heap := by rw [va_id, va_id, va_id, va_id, va_id]; exact hP
  refine lv_aload_n hx hb dX11_clock_0 rfl (lv_at hl 0 rfl) ?_
  refine lv_iconst (v := iI 0) hx hb dX11_clock_1 rfl ?_
  refine mdP_thrown (v1 := (va_up (va_up (va_up v 0 (v 0)) 1 0) 24 (v 24))) C hP hD hS mF_X11_146 (by decide) rfl (Or.inr (gF_up (V := mdV) (F := mdF) (gF_up (V := mdV) (F := mdF) (gR_up (V := mdV) (F := mdF) (gR_up (V := mdV) (F := mdF) (gR_up (V := mdV) (F := mdF) ⟨hok.1, hok.2⟩ 0 (hP.2.1 0)) 1 (show 0 ≤ 0 ∧ 0 ≤ 0 from by decide)) 24 (hP.2.1 24)) 28 (hP.2.2 28)) 30 (hP.2.2 30))) dX11_clock_2 (fun H locs hP hS => ?_)
  refine lv_aload_n hx hb dX11_clock_5 rfl (lv_at hl 0 rfl) ?_
  refine lv_aload_n hx hb dX11_clock_6 rfl (lv_at hl 0 rfl) ?_
  refine lv_iload_n hx hb dX11_clock_7 rfl (lv_at hl 1 rfl) ?_
  refine g_cv (As := [.int (iI a1)]) (rest := [.ref (ad 0)]) (n := 1) C hml (y_clocked l D k A ad hD (va_up (va_up (va_up v 0 (v 0)) 1 0) 24 (v 24)) (va_up (va_up f 28 (f 28)) 30 (f 30)) g a1 (by omega)) mM_X11_352 mI_X11_clocked mE_X11_clocked mN_X11 mC_X11_clocked (by decide +kernel) 0 (ci := 11) rfl rfl hP hS (fun _ h => h) ⟨Nat.le_of_ble_eq_true rfl, Nat.le_of_ble_eq_true rfl⟩ ⟨Nat.zero_le _, Nat.zero_le _⟩ hl.1 rfl rfl (Nat.le_of_ble_eq_true rfl) dX11_clock_8 (fun r_1 v_1 f_1 g_1 H locs hq_1 hP _ hS => ?_)
  obtain ⟨z_1, rfl, rfl, rfl, rfl, p0_1⟩ := hq_1
  show W p l e (gRm 2 43) s m args below meth c _ _ 0 0 Q (F0 m 11 ls [.int (iI z_1), .ref (ad 0)])
  have hP : gWd D (mdT k ad) (va_up (va_up (va_up v 0 (v 0)) 1 0) 24 (if z_1 = 0 then a1 else (v 24))) (va_up (va_up f 28 (if z_1 = 0 then (ovE (v 25) a1 (f 30) (f 27) (fun k => (f 3) ((f 25) k)) (f 28)) else (f 28))) 30 (if z_1 = 0 then (ovH (v 25) a1 (f 30) (f 27) (fun k => (f 3) ((f 25) k))) else (f 30))) g H := ⟨hP.1, (gF_up (V := mdV) (F := mdF) (gF_up (V := mdV) (F := mdF) (gR_up (V := mdV) (F := mdF) (gR_up (V := mdV) (F := mdF) (gR_up (V := mdV) (F := mdF) ⟨hok.1, hok.2⟩ 0 (hP.2.1 0)) 1 (hP.2.1 1)) 24 (hP.2.1 24)) 28 (hP.2.2 28)) 30 (hP.2.2 30))⟩
  replace p0_1 : z_1 = (if a1 < 0 ∨ 1000000 < a1 then (2 : Int) else if a1 < (v 24) then 9 else 0) := p0_1
  have hz_1 : inR z_1 := (by first | omega | (rw [p0_1]; split <;> omega))
  have hpz := p0_1
  refine mdP_status (v1 := (va_up (va_up (va_up v 0 z_1) 1 0) 24 (if z_1 = 0 then a1 else (v 24)))) C hP hD hS mF_X11_149 (by omega) rfl (Or.inr (gF_up (V := mdV) (F := mdF) (gF_up (V := mdV) (F := mdF) (gR_up (V := mdV) (F := mdF) (gR_up (V := mdV) (F := mdF) (gR_up (V := mdV) (F := mdF) ⟨hok.1, hok.2⟩ 0 (show 0 ≤ z_1 ∧ z_1 ≤ 10 from by omega)) 1 (hP.2.1 1)) 24 (hP.2.1 24)) 28 (hP.2.2 28)) 30 (hP.2.2 30))) dX11_clock_11 (fun H locs hP hS => ?_)
  refine lv_aload_n hx hb dX11_clock_14 rfl (lv_at hl 0 rfl) ?_
  refine mdG_status C hP mF_X11_149 dX11_clock_15 ?_
  show W p l e (gRm 2 43) s m args below meth c _ _ 0 0 Q (F0 m 18 ls [.int (iI z_1)])
  have r_2 : 0 ≤ z_1 ∧ z_1 ≤ 10 := hP.2.1 0
  refine gi_zne (tgt := 25) hx hb dX11_clock_18 (by decide) (by omega) (fun c_3 => ?_) (fun c_3 => ?_)
  · refine lv_iconst (v := iI 0) hx hb dX11_clock_25 rfl ?_
    exact g_zret hQ C hr hlocks (by decide) hP hS dX11_clock_26 ⟨0, z_1, rfl, rfl, rfl, rfl, (by first | omega | ((repeat' split) <;> omega)), (by first | exact hpz | omega)⟩
  · refine lv_iconst (v := iI 1) hx hb dX11_clock_21 rfl ?_
    refine lv_goto (tgt := 26) hx hb dX11_clock_22 (by decide) ?_
    exact g_zret hQ C hr hlocks (by decide) hP hS dX11_clock_26 ⟨1, z_1, rfl, rfl, rfl, rfl, (by first | omega | ((repeat' split) <;> omega)), (by first | exact hpz | omega)⟩

set_option maxHeartbeats 4000000 in
set_option maxRecDepth 100000 in
theorem y_now (l : Launch) (D : va_G) (k : Nat → ClassId) (A : Nat → Prop) (ad : Nat → Nat) (hD : mdD A k ad) (v : gV) (f g : gF) : GM l D k A (mdT k ad) yX11_now cX11_now 1 (some .int) 0 0 [.ref (ad 0)] v f g (fun r v1 f1 g1 => ∃ (z : Int), r = some (.int (iI z)) ∧ (va_up (va_up v 0 0) 1 0) = v1 ∧ f = f1 ∧ g = g1 ∧ (z = (v 24)) ∧ (0 ≤ z ∧ z ≤ 1000000)) := by
  refine GM.of (by decide) (Nat.le_of_ble_eq_true rfl) ?_
  intro p e s m args below meth c Q ls hQ C hml hr hlocks hP hl
  have hx := C.1
  have hb := C.2.1
  have hok := hP.2
  have hS : va_S A s.heap s.heap [] := va_S.rf
  have hl : lv_has ls 1 [(0, .ref (ad 0))] := hl
  have hP : gWd D (mdT k ad) (va_up (va_up v 0 (v 0)) 1 (v 1)) f g s.heap := by rw [va_id, va_id]; exact hP
  refine lv_aload_n hx hb dX11_now_0 rfl (lv_at hl 0 rfl) ?_
  refine lv_iconst (v := iI 0) hx hb dX11_now_1 rfl ?_
  refine mdP_thrown (v1 := (va_up (va_up v 0 (v 0)) 1 0)) C hP hD hS mF_X11_146 (by decide) rfl (Or.inr (gR_up (V := mdV) (F := mdF) (gR_up (V := mdV) (F := mdF) ⟨hok.1, hok.2⟩ 0 (hP.2.1 0)) 1 (show 0 ≤ 0 ∧ 0 ≤ 0 from by decide))) dX11_now_2 (fun H locs hP hS => ?_)
  refine lv_aload_n hx hb dX11_now_5 rfl (lv_at hl 0 rfl) ?_
  refine lv_iconst (v := iI 0) hx hb dX11_now_6 rfl ?_
  refine mdP_status (v1 := (va_up (va_up v 0 0) 1 0)) C hP hD hS mF_X11_149 (by decide) rfl (Or.inr (gR_up (V := mdV) (F := mdF) (gR_up (V := mdV) (F := mdF) ⟨hok.1, hok.2⟩ 0 (show 0 ≤ 0 ∧ 0 ≤ 10 from by decide)) 1 (hP.2.1 1))) dX11_now_7 (fun H locs hP hS => ?_)
  refine lv_aload_n hx hb dX11_now_10 rfl (lv_at hl 0 rfl) ?_
  refine mdG_now C hP mF_X11_316 dX11_now_11 ?_
  show W p l e (gRm 0 0) s m args below meth c _ _ 0 0 Q (F0 m 14 ls [.int (iI (v 24))])
  have r_1 : 0 ≤ (v 24) ∧ (v 24) ≤ 1000000 := hok.1 24
  exact g_iret hQ C hr hlocks hP hS dX11_now_14 ⟨(v 24), rfl, rfl, rfl, rfl, rfl, (by first | omega | ((repeat' split) <;> omega))⟩

set_option maxHeartbeats 4000000 in
set_option maxRecDepth 100000 in
theorem y_tried (l : Launch) (D : va_G) (k : Nat → ClassId) (A : Nat → Prop) (ad : Nat → Nat) (hD : mdD A k ad) (v : gV) (f g : gF) (a1 : Int) (a2 : Int) (h_a1 : inR a1) (h_a2 : inR a2) : GM l D k A (mdT k ad) yX11_tried cX11_tried 3 (some .int) 1 21 [.ref (ad 0), .int (iI a1), .int (iI a2)] v f g (fun r v1 f1 g1 => ∃ (z : Int) (w0 : Int), r = some (.int (iI z)) ∧ (va_up (va_up v 0 w0) 1 0) = v1 ∧ f = f1 ∧ g = g1 ∧ (z = (if w0 ≠ 0 then (-1) else if a2 = 0 then (f 24) a1 else if a2 = 1 then (f 25) a1 else if a2 = 2 then (f 26) a1 else if a2 = 3 then (f 27) a1 else if a2 = 4 then (f 28) a1 else if a2 = 5 then (f 29) a1 else (f 30) a1)) ∧ ((-1) ≤ z ∧ z ≤ 1000999) ∧ (w0 = (if ¬ (0 ≤ a1 ∧ a1 < (v 25)) then 1 else if a2 < 0 ∨ 6 < a2 then 2 else 0))) := by
  refine GM.of (by decide) (Nat.le_of_ble_eq_true rfl) ?_
  intro p e s m args below meth c Q ls hQ C hml hr hlocks hP hl
  have hx := C.1
  have hb := C.2.1
  have hok := hP.2
  have hS : va_S A s.heap s.heap [] := va_S.rf
  have hl : lv_has ls 3 [(0, .ref (ad 0)), (1, .int (iI a1)), (2, .int (iI a2))] := hl
  have hP : gWd D (mdT k ad) (va_up (va_up v 0 (v 0)) 1 (v 1)) f g s.heap := by rw [va_id, va_id]; exact hP
  have r_1 : 0 ≤ (v 25) ∧ (v 25) ≤ 300 := hok.1 25
  refine lv_aload_n hx hb dX11_tried_0 rfl (lv_at hl 0 rfl) ?_
  refine lv_iconst (v := iI 0) hx hb dX11_tried_1 rfl ?_
  refine mdP_thrown (v1 := (va_up (va_up v 0 (v 0)) 1 0)) C hP hD hS mF_X11_146 (by decide) rfl (Or.inr (gR_up (V := mdV) (F := mdF) (gR_up (V := mdV) (F := mdF) ⟨hok.1, hok.2⟩ 0 (hP.2.1 0)) 1 (show 0 ≤ 0 ∧ 0 ≤ 0 from by decide))) dX11_tried_2 (fun H locs hP hS => ?_)
  refine lv_aload_n hx hb dX11_tried_5 rfl (lv_at hl 0 rfl) ?_
  refine lv_iconst (v := iI 0) hx hb dX11_tried_6 rfl ?_
  refine mdP_status (v1 := (va_up (va_up v 0 0) 1 0)) C hP hD hS mF_X11_149 (by decide) rfl (Or.inr (gR_up (V := mdV) (F := mdF) (gR_up (V := mdV) (F := mdF) ⟨hok.1, hok.2⟩ 0 (show 0 ≤ 0 ∧ 0 ≤ 10 from by decide)) 1 (hP.2.1 1))) dX11_tried_7 (fun H locs hP hS => ?_)
  refine lv_iload_n hx hb dX11_tried_10 rfl (lv_at hl 1 rfl) ?_
  refine gi_zlt (tgt := 22) hx hb dX11_tried_11 (by decide) (by omega) (fun c_2 => ?_) (fun c_2 => ?_)
  · refine lv_aload_n hx hb dX11_tried_22 rfl (lv_at hl 0 rfl) ?_
    refine lv_iconst (v := iI 1) hx hb dX11_tried_23 rfl ?_
    refine g_cv (As := [.int (iI 1)]) (rest := []) (n := 1) C hml (m_X11_refuse l D k A ad hD (va_up (va_up v 0 0) 1 0) f g 1 (by decide) (show 0 ≤ (1 : Int) ∧ (1 : Int) ≤ 10 from by omega)) mM_X11_295 mI_X11_refuse mE_X11_refuse mN_X11 mC_X11_refuse (by decide +kernel) 0 (ci := 11) rfl rfl hP hS (fun _ h => h) ⟨Nat.le_of_ble_eq_true rfl, Nat.le_of_ble_eq_true rfl⟩ ⟨Nat.zero_le _, Nat.zero_le _⟩ hl.1 rfl rfl (Nat.le_of_ble_eq_true rfl) dX11_tried_24 (fun r_3 v_3 f_3 g_3 H locs hq_3 hP _ hS => ?_)
    obtain ⟨rfl, rfl, rfl, rfl⟩ := hq_3
    show W p l e (gRm 1 21) s m args below meth c _ _ 0 0 Q (F0 m 27 ls [.int (iI (-1))])
    have hP : gWd D (mdT k ad) (va_up (va_up v 0 (1 : Int)) 1 0) f g H := ⟨hP.1, (gR_up (V := mdV) (F := mdF) (gR_up (V := mdV) (F := mdF) ⟨hok.1, hok.2⟩ 0 (hP.2.1 0)) 1 (hP.2.1 1))⟩
    exact g_iret hQ C hr hlocks hP hS dX11_tried_27 ⟨(-1), (1 : Int), rfl, rfl, rfl, rfl, (by first | omega | ((repeat' split) <;> omega)), (by first | omega | ((repeat' split) <;> omega)), (by first | omega | ((repeat' split) <;> omega))⟩
  · refine lv_iload_n hx hb dX11_tried_14 rfl (lv_at hl 1 rfl) ?_
    refine lv_aload_n hx hb dX11_tried_15 rfl (lv_at hl 0 rfl) ?_
    refine mdG_tried C hP mF_X11_319 dX11_tried_16 ?_
    show W p l e (gRm 1 21) s m args below meth c _ _ 0 0 Q (F0 m 19 ls [.int (iI (v 25)), .int (iI a1)])
    refine gi_clt (tgt := 28) hx hb dX11_tried_19 (by decide) (by omega) (by omega) (fun c_4 => ?_) (fun c_4 => ?_)
    · refine lv_iload_n hx hb dX11_tried_28 rfl (lv_at hl 2 rfl) ?_
      by_cases c_5_0 : a2 = 0
      · refine lv_tableIn (off := 43) (tgt := 72) hx hb dX11_tried_29 (by rw [c_5_0]; decide) (by rw [c_5_0]; decide) (by rw [c_5_0]; rfl) (by decide) ?_
        refine lv_aload_n hx hb dX11_tried_72 rfl (lv_at hl 0 rfl) ?_
        refine mdG_who C hP mF_X11_94 dX11_tried_73 ?_
        refine lv_iload_n hx hb dX11_tried_76 rfl (lv_at hl 1 rfl) ?_
        refine mdL_who C hP (by omega) (by omega) dX11_tried_77 ?_
        have r_6 : 0 ≤ (f 24 a1) ∧ (f 24 a1) ≤ 15 := hP.2.2 24 a1
        exact g_iret hQ C hr hlocks hP hS dX11_tried_78 ⟨(f 24 a1), 0, rfl, rfl, rfl, rfl, (by first | omega | ((repeat' split) <;> omega)), (by first | omega | ((repeat' split) <;> omega)), (by first | omega | ((repeat' split) <;> omega))⟩
      by_cases c_5_1 : a2 = 1
      · refine lv_tableIn (off := 50) (tgt := 79) hx hb dX11_tried_29 (by rw [c_5_1]; decide) (by rw [c_5_1]; decide) (by rw [c_5_1]; rfl) (by decide) ?_
        refine lv_aload_n hx hb dX11_tried_79 rfl (lv_at hl 0 rfl) ?_
        refine mdG_where C hP mF_X11_97 dX11_tried_80 ?_
        refine lv_iload_n hx hb dX11_tried_83 rfl (lv_at hl 1 rfl) ?_
        refine mdL_where C hP (by omega) (by omega) dX11_tried_84 ?_
        have r_7 : 0 ≤ (f 25 a1) ∧ (f 25 a1) ≤ 3 := hP.2.2 25 a1
        exact g_iret hQ C hr hlocks hP hS dX11_tried_85 ⟨(f 25 a1), 0, rfl, rfl, rfl, rfl, (by first | omega | ((repeat' split) <;> omega)), (by first | omega | ((repeat' split) <;> omega)), (by first | omega | ((repeat' split) <;> omega))⟩
      by_cases c_5_2 : a2 = 2
      · refine lv_tableIn (off := 57) (tgt := 86) hx hb dX11_tried_29 (by rw [c_5_2]; decide) (by rw [c_5_2]; decide) (by rw [c_5_2]; rfl) (by decide) ?_
        refine lv_aload_n hx hb dX11_tried_86 rfl (lv_at hl 0 rfl) ?_
        refine mdG_which C hP mF_X11_100 dX11_tried_87 ?_
        refine lv_iload_n hx hb dX11_tried_90 rfl (lv_at hl 1 rfl) ?_
        refine mdL_which C hP (by omega) (by omega) dX11_tried_91 ?_
        have r_8 : 0 ≤ (f 26 a1) ∧ (f 26 a1) ≤ 4 := hP.2.2 26 a1
        exact g_iret hQ C hr hlocks hP hS dX11_tried_92 ⟨(f 26 a1), 0, rfl, rfl, rfl, rfl, (by first | omega | ((repeat' split) <;> omega)), (by first | omega | ((repeat' split) <;> omega)), (by first | omega | ((repeat' split) <;> omega))⟩
      by_cases c_5_3 : a2 = 3
      · refine lv_tableIn (off := 64) (tgt := 93) hx hb dX11_tried_29 (by rw [c_5_3]; decide) (by rw [c_5_3]; decide) (by rw [c_5_3]; rfl) (by decide) ?_
        refine lv_aload_n hx hb dX11_tried_93 rfl (lv_at hl 0 rfl) ?_
        refine mdG_from C hP mF_X11_103 dX11_tried_94 ?_
        refine lv_iload_n hx hb dX11_tried_97 rfl (lv_at hl 1 rfl) ?_
        refine mdL_from C hP (by omega) (by omega) dX11_tried_98 ?_
        have r_9 : 0 ≤ (f 27 a1) ∧ (f 27 a1) ≤ 1000000 := hP.2.2 27 a1
        exact g_iret hQ C hr hlocks hP hS dX11_tried_99 ⟨(f 27 a1), 0, rfl, rfl, rfl, rfl, (by first | omega | ((repeat' split) <;> omega)), (by first | omega | ((repeat' split) <;> omega)), (by first | omega | ((repeat' split) <;> omega))⟩
      by_cases c_5_4 : a2 = 4
      · refine lv_tableIn (off := 71) (tgt := 100) hx hb dX11_tried_29 (by rw [c_5_4]; decide) (by rw [c_5_4]; decide) (by rw [c_5_4]; rfl) (by decide) ?_
        refine lv_aload_n hx hb dX11_tried_100 rfl (lv_at hl 0 rfl) ?_
        refine mdG_to C hP mF_X11_106 dX11_tried_101 ?_
        refine lv_iload_n hx hb dX11_tried_104 rfl (lv_at hl 1 rfl) ?_
        refine mdL_to C hP (by omega) (by omega) dX11_tried_105 ?_
        have r_10 : (-1) ≤ (f 28 a1) ∧ (f 28 a1) ≤ 1000999 := hP.2.2 28 a1
        exact g_iret hQ C hr hlocks hP hS dX11_tried_106 ⟨(f 28 a1), 0, rfl, rfl, rfl, rfl, (by first | omega | ((repeat' split) <;> omega)), (by first | omega | ((repeat' split) <;> omega)), (by first | omega | ((repeat' split) <;> omega))⟩
      by_cases c_5_5 : a2 = 5
      · refine lv_tableIn (off := 78) (tgt := 107) hx hb dX11_tried_29 (by rw [c_5_5]; decide) (by rw [c_5_5]; decide) (by rw [c_5_5]; rfl) (by decide) ?_
        refine lv_aload_n hx hb dX11_tried_107 rfl (lv_at hl 0 rfl) ?_
        refine mdG_hold C hP mF_X11_109 dX11_tried_108 ?_
        refine lv_iload_n hx hb dX11_tried_111 rfl (lv_at hl 1 rfl) ?_
        refine mdL_hold C hP (by omega) (by omega) dX11_tried_112 ?_
        have r_11 : 0 ≤ (f 29 a1) ∧ (f 29 a1) ≤ 60 := hP.2.2 29 a1
        exact g_iret hQ C hr hlocks hP hS dX11_tried_113 ⟨(f 29 a1), 0, rfl, rfl, rfl, rfl, (by first | omega | ((repeat' split) <;> omega)), (by first | omega | ((repeat' split) <;> omega)), (by first | omega | ((repeat' split) <;> omega))⟩
      by_cases c_5_6 : a2 = 6
      · refine lv_tableIn (off := 85) (tgt := 114) hx hb dX11_tried_29 (by rw [c_5_6]; decide) (by rw [c_5_6]; decide) (by rw [c_5_6]; rfl) (by decide) ?_
        refine lv_aload_n hx hb dX11_tried_114 rfl (lv_at hl 0 rfl) ?_
        refine mdG_how C hP mF_X11_112 dX11_tried_115 ?_
        refine lv_iload_n hx hb dX11_tried_118 rfl (lv_at hl 1 rfl) ?_
        refine mdL_how C hP (by omega) (by omega) dX11_tried_119 ?_
        have r_12 : 0 ≤ (f 30 a1) ∧ (f 30 a1) ≤ 4 := hP.2.2 30 a1
        exact g_iret hQ C hr hlocks hP hS dX11_tried_120 ⟨(f 30 a1), 0, rfl, rfl, rfl, rfl, (by first | omega | ((repeat' split) <;> omega)), (by first | omega | ((repeat' split) <;> omega)), (by first | omega | ((repeat' split) <;> omega))⟩
      refine lv_tableOut (tgt := 121) hx hb dX11_tried_29 (by rw [iI_toInt (by omega)]; omega) (by decide) ?_
      refine lv_aload_n hx hb dX11_tried_121 rfl (lv_at hl 0 rfl) ?_
      refine lv_iconst (v := iI 2) hx hb dX11_tried_122 rfl ?_
      refine g_cv (As := [.int (iI 2)]) (rest := []) (n := 1) C hml (m_X11_refuse l D k A ad hD (va_up (va_up v 0 0) 1 0) f g 2 (by decide) (show 0 ≤ (2 : Int) ∧ (2 : Int) ≤ 10 from by omega)) mM_X11_295 mI_X11_refuse mE_X11_refuse mN_X11 mC_X11_refuse (by decide +kernel) 0 (ci := 11) rfl rfl hP hS (fun _ h => h) ⟨Nat.le_of_ble_eq_true rfl, Nat.le_of_ble_eq_true rfl⟩ ⟨Nat.zero_le _, Nat.zero_le _⟩ hl.1 rfl rfl (Nat.le_of_ble_eq_true rfl) dX11_tried_123 (fun r_13 v_13 f_13 g_13 H locs hq_13 hP _ hS => ?_)
      obtain ⟨rfl, rfl, rfl, rfl⟩ := hq_13
      show W p l e (gRm 1 21) s m args below meth c _ _ 0 0 Q (F0 m 126 ls [.int (iI (-1))])
      have hP : gWd D (mdT k ad) (va_up (va_up v 0 (2 : Int)) 1 0) f g H := ⟨hP.1, (gR_up (V := mdV) (F := mdF) (gR_up (V := mdV) (F := mdF) ⟨hok.1, hok.2⟩ 0 (hP.2.1 0)) 1 (hP.2.1 1))⟩
      exact g_iret hQ C hr hlocks hP hS dX11_tried_126 ⟨(-1), (2 : Int), rfl, rfl, rfl, rfl, (by first | omega | ((repeat' split) <;> omega)), (by first | omega | ((repeat' split) <;> omega)), (by first | omega | ((repeat' split) <;> omega))⟩
    · refine lv_aload_n hx hb dX11_tried_22 rfl (lv_at hl 0 rfl) ?_
      refine lv_iconst (v := iI 1) hx hb dX11_tried_23 rfl ?_
      refine g_cv (As := [.int (iI 1)]) (rest := []) (n := 1) C hml (m_X11_refuse l D k A ad hD (va_up (va_up v 0 0) 1 0) f g 1 (by decide) (show 0 ≤ (1 : Int) ∧ (1 : Int) ≤ 10 from by omega)) mM_X11_295 mI_X11_refuse mE_X11_refuse mN_X11 mC_X11_refuse (by decide +kernel) 0 (ci := 11) rfl rfl hP hS (fun _ h => h) ⟨Nat.le_of_ble_eq_true rfl, Nat.le_of_ble_eq_true rfl⟩ ⟨Nat.zero_le _, Nat.zero_le _⟩ hl.1 rfl rfl (Nat.le_of_ble_eq_true rfl) dX11_tried_24 (fun r_14 v_14 f_14 g_14 H locs hq_14 hP _ hS => ?_)
      obtain ⟨rfl, rfl, rfl, rfl⟩ := hq_14
      show W p l e (gRm 1 21) s m args below meth c _ _ 0 0 Q (F0 m 27 ls [.int (iI (-1))])
      have hP : gWd D (mdT k ad) (va_up (va_up v 0 (1 : Int)) 1 0) f g H := ⟨hP.1, (gR_up (V := mdV) (F := mdF) (gR_up (V := mdV) (F := mdF) ⟨hok.1, hok.2⟩ 0 (hP.2.1 0)) 1 (hP.2.1 1))⟩
      exact g_iret hQ C hr hlocks hP hS dX11_tried_27 ⟨(-1), (1 : Int), rfl, rfl, rfl, rfl, (by first | omega | ((repeat' split) <;> omega)), (by first | omega | ((repeat' split) <;> omega)), (by first | omega | ((repeat' split) <;> omega))⟩

set_option maxHeartbeats 4000000 in
set_option maxRecDepth 100000 in
theorem y_seen (l : Launch) (D : va_G) (k : Nat → ClassId) (A : Nat → Prop) (ad : Nat → Nat) (hD : mdD A k ad) (v : gV) (f g : gF) (a1 : Int) (a2 : Int) (h_a1 : inR a1) (h_a2 : inR a2) (hti : TI (v 25) (v 24) (f 27) (f 28) (f 30)) (hwi : ∀ c, 0 ≤ c → c < (v 22) → WI (v 24) (f 35) (f 36) (f 34) c) : GM l D k A (mdT k ad) yX11_seen cX11_seen 3 (some .int) 2 56 [.ref (ad 0), .int (iI a1), .int (iI a2)] v f g (fun r v1 f1 g1 => ∃ (z : Int) (w0 : Int), r = some (.int (iI z)) ∧ (va_up (va_up v 0 w0) 1 0) = v1 ∧ f = f1 ∧ g = g1 ∧ (z = (if w0 ≠ 0 then (-1) else if 1 ≤ cn (pSe (f 24) (f 25) (f 26) (f 27) (f 28) (f 35) (f 36) (f 34) (v 24) a1 (v 23) a2) (v 25).toNat then 1 else 0)) ∧ ((-1) ≤ z ∧ z ≤ 1) ∧ (w0 = (if ¬ ((0 ≤ a1 ∧ a1 < (v 22)) ∧ ((0 ≤ (v 23) ∧ (v 23) < (v 12)) ∧ 0 ≤ a2 ∧ a2 < (f 1) (v 23))) then 1 else 0))) := by
  refine GM.of (by decide) (Nat.le_of_ble_eq_true rfl) ?_
  intro p e s m args below meth c Q ls hQ C hml hr hlocks hP hl
  have hx := C.1
  have hb := C.2.1
  have hok := hP.2
  have hS : va_S A s.heap s.heap [] := va_S.rf
  have hl : lv_has ls 3 [(0, .ref (ad 0)), (1, .int (iI a1)), (2, .int (iI a2))] := hl
  have hP : gWd D (mdT k ad) (va_up (va_up v 0 (v 0)) 1 (v 1)) f g s.heap := by rw [va_id, va_id]; exact hP
  have r_1 : (-1) ≤ (v 23) ∧ (v 23) ≤ 3 := hok.1 23
  have r_2 : 0 ≤ (v 22) ∧ (v 22) ≤ 16 := hok.1 22
  refine lv_aload_n hx hb dX11_seen_0 rfl (lv_at hl 0 rfl) ?_
  refine lv_iconst (v := iI 0) hx hb dX11_seen_1 rfl ?_
  refine mdP_thrown (v1 := (va_up (va_up v 0 (v 0)) 1 0)) C hP hD hS mF_X11_146 (by decide) rfl (Or.inr (gR_up (V := mdV) (F := mdF) (gR_up (V := mdV) (F := mdF) ⟨hok.1, hok.2⟩ 0 (hP.2.1 0)) 1 (show 0 ≤ 0 ∧ 0 ≤ 0 from by decide))) dX11_seen_2 (fun H locs hP hS => ?_)
  refine lv_aload_n hx hb dX11_seen_5 rfl (lv_at hl 0 rfl) ?_
  refine lv_iconst (v := iI 0) hx hb dX11_seen_6 rfl ?_
  refine mdP_status (v1 := (va_up (va_up v 0 0) 1 0)) C hP hD hS mF_X11_149 (by decide) rfl (Or.inr (gR_up (V := mdV) (F := mdF) (gR_up (V := mdV) (F := mdF) ⟨hok.1, hok.2⟩ 0 (show 0 ≤ 0 ∧ 0 ≤ 10 from by decide)) 1 (hP.2.1 1))) dX11_seen_7 (fun H locs hP hS => ?_)
  refine lv_aload_n hx hb dX11_seen_10 rfl (lv_at hl 0 rfl) ?_
  refine lv_iload_n hx hb dX11_seen_11 rfl (lv_at hl 1 rfl) ?_
  refine g_cv (As := [.int (iI a1)]) (rest := []) (n := 1) C hml (m_X11_isClimber l D k A ad hD (va_up (va_up v 0 0) 1 0) f g a1 (by omega)) mM_X11_349 mI_X11_isClimber mE_X11_isClimber mN_X11 mC_X11_isClimber (by decide +kernel) 0 (ci := 11) rfl rfl hP hS (fun _ h => h) ⟨Nat.le_of_ble_eq_true rfl, Nat.le_of_ble_eq_true rfl⟩ ⟨Nat.zero_le _, Nat.zero_le _⟩ hl.1 rfl rfl (Nat.le_of_ble_eq_true rfl) dX11_seen_12 (fun r_3 v_3 f_3 g_3 H locs hq_3 hP _ hS => ?_)
  obtain ⟨z_3, rfl, rfl, rfl, rfl, p0_3, p1_3⟩ := hq_3
  show W p l e (gRm 2 56) s m args below meth c _ _ 0 0 Q (F0 m 15 ls [.int (iI z_3)])
  replace p0_3 : z_3 = (if 0 ≤ a1 ∧ a1 < (v 22) then 1 else 0) := p0_3
  have w_3 := gif (P := 0 ≤ a1 ∧ a1 < (v 22)) p0_3
  clear p0_3
  replace p1_3 : z_3 = 1 → 0 ≤ a1 ∧ a1 ≤ 15 := p1_3
  have hz_3 : inR z_3 := (by first | omega | (rw [p0_3]; split <;> omega))
  refine gi_zeq (tgt := 37) hx hb dX11_seen_15 (by decide) (by omega) (fun c_4 => ?_) (fun c_4 => ?_)
  · have vz_3 := gif0 w_3 c_4
    clear w_3
    refine lv_aload_n hx hb dX11_seen_37 rfl (lv_at hl 0 rfl) ?_
    refine lv_iconst (v := iI 1) hx hb dX11_seen_38 rfl ?_
    refine g_cv (As := [.int (iI 1)]) (rest := []) (n := 1) C hml (m_X11_refuse l D k A ad hD (va_up (va_up v 0 0) 1 0) f g 1 (by decide) (show 0 ≤ (1 : Int) ∧ (1 : Int) ≤ 10 from by omega)) mM_X11_295 mI_X11_refuse mE_X11_refuse mN_X11 mC_X11_refuse (by decide +kernel) 0 (ci := 11) rfl rfl hP hS (fun _ h => h) ⟨Nat.le_of_ble_eq_true rfl, Nat.le_of_ble_eq_true rfl⟩ ⟨Nat.zero_le _, Nat.zero_le _⟩ hl.1 rfl rfl (Nat.le_of_ble_eq_true rfl) dX11_seen_39 (fun r_5 v_5 f_5 g_5 H locs hq_5 hP _ hS => ?_)
    obtain ⟨rfl, rfl, rfl, rfl⟩ := hq_5
    show W p l e (gRm 2 56) s m args below meth c _ _ 0 0 Q (F0 m 42 ls [.int (iI (-1))])
    have hP : gWd D (mdT k ad) (va_up (va_up v 0 (1 : Int)) 1 0) f g H := ⟨hP.1, (gR_up (V := mdV) (F := mdF) (gR_up (V := mdV) (F := mdF) ⟨hok.1, hok.2⟩ 0 (hP.2.1 0)) 1 (hP.2.1 1))⟩
    exact g_iret hQ C hr hlocks hP hS dX11_seen_42 ⟨(-1), (1 : Int), rfl, rfl, rfl, rfl, (by first | omega | ((repeat' split) <;> omega)), (by first | omega | ((repeat' split) <;> omega)), (by first | omega | ((repeat' split) <;> omega))⟩
  · have vz_3 := gif1 w_3 c_4
    have voz_3 := gif1o w_3 c_4
    clear w_3
    refine lv_aload_n hx hb dX11_seen_18 rfl (lv_at hl 0 rfl) ?_
    refine mdG_open C hP mF_X11_82 dX11_seen_19 ?_
    show W p l e (gRm 2 56) s m args below meth c _ _ 0 0 Q (F0 m 22 ls [.int (iI (v 23))])
    refine gi_zlt (tgt := 37) hx hb dX11_seen_22 (by decide) (by omega) (fun c_6 => ?_) (fun c_6 => ?_)
    · refine lv_aload_n hx hb dX11_seen_37 rfl (lv_at hl 0 rfl) ?_
      refine lv_iconst (v := iI 1) hx hb dX11_seen_38 rfl ?_
      refine g_cv (As := [.int (iI 1)]) (rest := []) (n := 1) C hml (m_X11_refuse l D k A ad hD (va_up (va_up v 0 0) 1 0) f g 1 (by decide) (show 0 ≤ (1 : Int) ∧ (1 : Int) ≤ 10 from by omega)) mM_X11_295 mI_X11_refuse mE_X11_refuse mN_X11 mC_X11_refuse (by decide +kernel) 0 (ci := 11) rfl rfl hP hS (fun _ h => h) ⟨Nat.le_of_ble_eq_true rfl, Nat.le_of_ble_eq_true rfl⟩ ⟨Nat.zero_le _, Nat.zero_le _⟩ hl.1 rfl rfl (Nat.le_of_ble_eq_true rfl) dX11_seen_39 (fun r_7 v_7 f_7 g_7 H locs hq_7 hP _ hS => ?_)
      obtain ⟨rfl, rfl, rfl, rfl⟩ := hq_7
      show W p l e (gRm 2 56) s m args below meth c _ _ 0 0 Q (F0 m 42 ls [.int (iI (-1))])
      have hP : gWd D (mdT k ad) (va_up (va_up v 0 (1 : Int)) 1 0) f g H := ⟨hP.1, (gR_up (V := mdV) (F := mdF) (gR_up (V := mdV) (F := mdF) ⟨hok.1, hok.2⟩ 0 (hP.2.1 0)) 1 (hP.2.1 1))⟩
      exact g_iret hQ C hr hlocks hP hS dX11_seen_42 ⟨(-1), (1 : Int), rfl, rfl, rfl, rfl, (by first | omega | ((repeat' split) <;> omega)), (by first | omega | ((repeat' split) <;> omega)), (by first | omega | ((repeat' split) <;> omega))⟩
    · refine lv_aload_n hx hb dX11_seen_25 rfl (lv_at hl 0 rfl) ?_
      refine lv_aload_n hx hb dX11_seen_26 rfl (lv_at hl 0 rfl) ?_
      refine mdG_open C hP mF_X11_82 dX11_seen_27 ?_
      show W p l e (gRm 2 56) s m args below meth c _ _ 0 0 Q (F0 m 30 ls [.int (iI (v 23)), .ref (ad 0)])
      refine lv_iload_n hx hb dX11_seen_30 rfl (lv_at hl 2 rfl) ?_
      refine g_cv (As := [.int (iI (v 23)), .int (iI a2)]) (rest := []) (n := 2) C hml (m_X11_isRoute l D k A ad hD (va_up (va_up v 0 0) 1 0) f g (v 23) a2 (by omega) (by omega)) mM_X11_328 mI_X11_isRoute mE_X11_isRoute mN_X11 mC_X11_isRoute (by decide +kernel) 0 (ci := 11) rfl rfl hP hS (fun _ h => h) ⟨Nat.le_of_ble_eq_true rfl, Nat.le_of_ble_eq_true rfl⟩ ⟨Nat.zero_le _, Nat.zero_le _⟩ hl.1 rfl rfl (Nat.le_of_ble_eq_true rfl) dX11_seen_31 (fun r_8 v_8 f_8 g_8 H locs hq_8 hP _ hS => ?_)
      obtain ⟨z_8, rfl, rfl, rfl, rfl, p0_8, p1_8⟩ := hq_8
      show W p l e (gRm 2 56) s m args below meth c _ _ 0 0 Q (F0 m 34 ls [.int (iI z_8)])
      replace p0_8 : z_8 = (if (0 ≤ (v 23) ∧ (v 23) < (v 12)) ∧ 0 ≤ a2 ∧ a2 < (f 1) (v 23) then 1 else 0) := p0_8
      have w_8 := gif (P := (0 ≤ (v 23) ∧ (v 23) < (v 12)) ∧ 0 ≤ a2 ∧ a2 < (f 1) (v 23)) p0_8
      clear p0_8
      replace p1_8 : z_8 = 1 → a2 ≤ 4 ∧ (v 23) ≤ 3 := p1_8
      have hz_8 : inR z_8 := (by first | omega | (rw [p0_8]; split <;> omega))
      refine gi_zne (tgt := 43) hx hb dX11_seen_34 (by decide) (by omega) (fun c_9 => ?_) (fun c_9 => ?_)
      · have vz_8 := gif1 w_8 c_9
        have voz_8 := gif1o w_8 c_9
        clear w_8
        refine lv_aload_n hx hb dX11_seen_43 rfl (lv_at hl 0 rfl) ?_
        refine lv_iload_n hx hb dX11_seen_44 rfl (lv_at hl 1 rfl) ?_
        refine lv_iload_n hx hb dX11_seen_45 rfl (lv_at hl 2 rfl) ?_
        refine g_cv (As := [.int (iI a1), .int (iI a2)]) (rest := []) (n := 2) C hml (y_hasSeen l D k A ad hD (va_up (va_up v 0 0) 1 0) f g a1 a2 (by omega) (by omega) (show 0 ≤ a1 ∧ a1 ≤ 15 from by omega) (show TI (v 25) (v 24) (f 27) (f 28) (f 30) from hti) (show WI (v 24) (f 35) (f 36) (f 34) a1 from hwi a1 (by omega) (by omega))) mM_X11_358 mI_X11_hasSeen mE_X11_hasSeen mN_X11 mC_X11_hasSeen (by decide +kernel) 0 (ci := 11) rfl rfl hP hS (fun _ h => h) ⟨Nat.le_of_ble_eq_true rfl, Nat.le_of_ble_eq_true rfl⟩ ⟨Nat.zero_le _, Nat.zero_le _⟩ hl.1 rfl rfl (Nat.le_of_ble_eq_true rfl) dX11_seen_46 (fun r_10 v_10 f_10 g_10 H locs hq_10 hP _ hS => ?_)
        obtain ⟨z_10, rfl, rfl, rfl, rfl, p0_10⟩ := hq_10
        show W p l e (gRm 2 56) s m args below meth c _ _ 0 0 Q (F0 m 49 ls [.int (iI z_10)])
        replace p0_10 : z_10 = (if 1 ≤ cn (pSe (f 24) (f 25) (f 26) (f 27) (f 28) (f 35) (f 36) (f 34) (v 24) a1 (v 23) a2) (v 25).toNat then 1 else 0) := p0_10
        have w_10 := gif (P := 1 ≤ cn (pSe (f 24) (f 25) (f 26) (f 27) (f 28) (f 35) (f 36) (f 34) (v 24) a1 (v 23) a2) (v 25).toNat) p0_10
        clear p0_10
        have hz_10 : inR z_10 := (by first | omega | (rw [p0_10]; split <;> omega))
        refine gi_zeq (tgt := 56) hx hb dX11_seen_49 (by decide) (by omega) (fun c_11 => ?_) (fun c_11 => ?_)
        · have vz_10 := gif0 w_10 c_11
          clear w_10
          refine lv_iconst (v := iI 0) hx hb dX11_seen_56 rfl ?_
          exact g_iret hQ C hr hlocks hP hS dX11_seen_57 ⟨0, 0, rfl, rfl, rfl, rfl, (by first | omega | ((repeat' split) <;> omega)), (by first | omega | ((repeat' split) <;> omega)), (by first | omega | ((repeat' split) <;> omega))⟩
        · have vz_10 := gif1 w_10 c_11
          have voz_10 := gif1o w_10 c_11
          clear w_10
          refine lv_iconst (v := iI 1) hx hb dX11_seen_52 rfl ?_
          refine lv_goto (tgt := 57) hx hb dX11_seen_53 (by decide) ?_
          exact g_iret hQ C hr hlocks hP hS dX11_seen_57 ⟨1, 0, rfl, rfl, rfl, rfl, (by first | omega | ((repeat' split) <;> omega)), (by first | omega | ((repeat' split) <;> omega)), (by first | omega | ((repeat' split) <;> omega))⟩
      · have vz_8 := gif0 w_8 c_9
        clear w_8
        refine lv_aload_n hx hb dX11_seen_37 rfl (lv_at hl 0 rfl) ?_
        refine lv_iconst (v := iI 1) hx hb dX11_seen_38 rfl ?_
        refine g_cv (As := [.int (iI 1)]) (rest := []) (n := 1) C hml (m_X11_refuse l D k A ad hD (va_up (va_up v 0 0) 1 0) f g 1 (by decide) (show 0 ≤ (1 : Int) ∧ (1 : Int) ≤ 10 from by omega)) mM_X11_295 mI_X11_refuse mE_X11_refuse mN_X11 mC_X11_refuse (by decide +kernel) 0 (ci := 11) rfl rfl hP hS (fun _ h => h) ⟨Nat.le_of_ble_eq_true rfl, Nat.le_of_ble_eq_true rfl⟩ ⟨Nat.zero_le _, Nat.zero_le _⟩ hl.1 rfl rfl (Nat.le_of_ble_eq_true rfl) dX11_seen_39 (fun r_12 v_12 f_12 g_12 H locs hq_12 hP _ hS => ?_)
        obtain ⟨rfl, rfl, rfl, rfl⟩ := hq_12
        show W p l e (gRm 2 56) s m args below meth c _ _ 0 0 Q (F0 m 42 ls [.int (iI (-1))])
        have hP : gWd D (mdT k ad) (va_up (va_up v 0 (1 : Int)) 1 0) f g H := ⟨hP.1, (gR_up (V := mdV) (F := mdF) (gR_up (V := mdV) (F := mdF) ⟨hok.1, hok.2⟩ 0 (hP.2.1 0)) 1 (hP.2.1 1))⟩
        exact g_iret hQ C hr hlocks hP hS dX11_seen_42 ⟨(-1), (1 : Int), rfl, rfl, rfl, rfl, (by first | omega | ((repeat' split) <;> omega)), (by first | omega | ((repeat' split) <;> omega)), (by first | omega | ((repeat' split) <;> omega))⟩

set_option maxHeartbeats 4000000 in
set_option maxRecDepth 100000 in
theorem y_ready (l : Launch) (D : va_G) (k : Nat → ClassId) (A : Nat → Prop) (ad : Nat → Nat) (hD : mdD A k ad) (v : gV) (f g : gF) (a1 : Int) (on : Int → Int) (h_a1 : inR a1) (hO : OI (v 25) (f 24) (f 30) on) (hti : TI (v 25) (v 24) (f 27) (f 28) (f 30)) : GM l D k A (mdT k ad) yX11_ready cX11_ready 2 (some .int) 2 53 [.ref (ad 0), .int (iI a1)] v f g (fun r v1 f1 g1 => ∃ (z : Int) (w0 : Int), r = some (.int (iI z)) ∧ (va_up (va_up v 0 w0) 1 0) = v1 ∧ f = f1 ∧ g = g1 ∧ (z = (if w0 ≠ 0 then (-1) else if (v 24) ≤ rsF (mxE (f 24) (f 25) (f 28) a1 (v 23) (v 25).toNat) ((f 4) (v 23)) then rsF (mxE (f 24) (f 25) (f 28) a1 (v 23) (v 25).toNat) ((f 4) (v 23)) else (v 24))) ∧ ((-1) ≤ z ∧ z ≤ 1001998) ∧ (w0 = (if ¬ (0 ≤ a1 ∧ a1 < (v 22)) then 1 else if on a1 ≠ 0 then 5 else 0))) := by
  refine GM.of (by decide) (Nat.le_of_ble_eq_true rfl) ?_
  intro p e s m args below meth c Q ls hQ C hml hr hlocks hP hl
  have hx := C.1
  have hb := C.2.1
  have hok := hP.2
  have hS : va_S A s.heap s.heap [] := va_S.rf
  have hl : lv_has ls 2 [(0, .ref (ad 0)), (1, .int (iI a1))] := hl
  have hP : gWd D (mdT k ad) (va_up (va_up v 0 (v 0)) 1 (v 1)) f g s.heap := by rw [va_id, va_id]; exact hP
  have r_1 : 0 ≤ (v 22) ∧ (v 22) ≤ 16 := hok.1 22
  refine lv_aload_n hx hb dX11_ready_0 rfl (lv_at hl 0 rfl) ?_
  refine lv_iconst (v := iI 0) hx hb dX11_ready_1 rfl ?_
  refine mdP_thrown (v1 := (va_up (va_up v 0 (v 0)) 1 0)) C hP hD hS mF_X11_146 (by decide) rfl (Or.inr (gR_up (V := mdV) (F := mdF) (gR_up (V := mdV) (F := mdF) ⟨hok.1, hok.2⟩ 0 (hP.2.1 0)) 1 (show 0 ≤ 0 ∧ 0 ≤ 0 from by decide))) dX11_ready_2 (fun H locs hP hS => ?_)
  refine lv_aload_n hx hb dX11_ready_5 rfl (lv_at hl 0 rfl) ?_
  refine lv_iconst (v := iI 0) hx hb dX11_ready_6 rfl ?_
  refine mdP_status (v1 := (va_up (va_up v 0 0) 1 0)) C hP hD hS mF_X11_149 (by decide) rfl (Or.inr (gR_up (V := mdV) (F := mdF) (gR_up (V := mdV) (F := mdF) ⟨hok.1, hok.2⟩ 0 (show 0 ≤ 0 ∧ 0 ≤ 10 from by decide)) 1 (hP.2.1 1))) dX11_ready_7 (fun H locs hP hS => ?_)
  refine lv_aload_n hx hb dX11_ready_10 rfl (lv_at hl 0 rfl) ?_
  refine lv_iload_n hx hb dX11_ready_11 rfl (lv_at hl 1 rfl) ?_
  refine g_cv (As := [.int (iI a1)]) (rest := []) (n := 1) C hml (m_X11_isClimber l D k A ad hD (va_up (va_up v 0 0) 1 0) f g a1 (by omega)) mM_X11_349 mI_X11_isClimber mE_X11_isClimber mN_X11 mC_X11_isClimber (by decide +kernel) 0 (ci := 11) rfl rfl hP hS (fun _ h => h) ⟨Nat.le_of_ble_eq_true rfl, Nat.le_of_ble_eq_true rfl⟩ ⟨Nat.zero_le _, Nat.zero_le _⟩ hl.1 rfl rfl (Nat.le_of_ble_eq_true rfl) dX11_ready_12 (fun r_2 v_2 f_2 g_2 H locs hq_2 hP _ hS => ?_)
  obtain ⟨z_2, rfl, rfl, rfl, rfl, p0_2, p1_2⟩ := hq_2
  show W p l e (gRm 2 53) s m args below meth c _ _ 0 0 Q (F0 m 15 ls [.int (iI z_2)])
  replace p0_2 : z_2 = (if 0 ≤ a1 ∧ a1 < (v 22) then 1 else 0) := p0_2
  have w_2 := gif (P := 0 ≤ a1 ∧ a1 < (v 22)) p0_2
  clear p0_2
  replace p1_2 : z_2 = 1 → 0 ≤ a1 ∧ a1 ≤ 15 := p1_2
  have hz_2 : inR z_2 := (by first | omega | (rw [p0_2]; split <;> omega))
  refine gi_zne (tgt := 24) hx hb dX11_ready_15 (by decide) (by omega) (fun c_3 => ?_) (fun c_3 => ?_)
  · have vz_2 := gif1 w_2 c_3
    have voz_2 := gif1o w_2 c_3
    clear w_2
    refine lv_aload_n hx hb dX11_ready_24 rfl (lv_at hl 0 rfl) ?_
    refine lv_iload_n hx hb dX11_ready_25 rfl (lv_at hl 1 rfl) ?_
    refine g_cv (As := [.int (iI a1)]) (rest := []) (n := 1) C hml (y_openTry l D k A ad hD (va_up (va_up v 0 0) 1 0) f g a1 on (by omega) (show OI (v 25) (f 24) (f 30) on from hO) (show 0 ≤ a1 ∧ a1 ≤ 15 from by omega)) mM_X11_355 mI_X11_openTry mE_X11_openTry mN_X11 mC_X11_openTry (by decide +kernel) 0 (ci := 11) rfl rfl hP hS (fun _ h => h) ⟨Nat.le_of_ble_eq_true rfl, Nat.le_of_ble_eq_true rfl⟩ ⟨Nat.zero_le _, Nat.zero_le _⟩ hl.1 rfl rfl (Nat.le_of_ble_eq_true rfl) dX11_ready_26 (fun r_4 v_4 f_4 g_4 H locs hq_4 hP _ hS => ?_)
    obtain ⟨z_4, rfl, rfl, rfl, rfl, p0_4, p1_4⟩ := hq_4
    show W p l e (gRm 2 53) s m args below meth c _ _ 0 0 Q (F0 m 29 ls [.int (iI z_4)])
    replace p0_4 : z_4 = (on a1 - 1) := p0_4
    replace p1_4 : (-1) ≤ z_4 ∧ z_4 ≤ 299 := p1_4
    have hz_4 : inR z_4 := (by first | omega | (rw [p0_4]; split <;> omega))
    refine gi_zlt (tgt := 38) hx hb dX11_ready_29 (by decide) (by omega) (fun c_5 => ?_) (fun c_5 => ?_)
    · refine lv_aload_n hx hb dX11_ready_38 rfl (lv_at hl 0 rfl) ?_
      refine mdG_now C hP mF_X11_316 dX11_ready_39 ?_
      show W p l e (gRm 2 53) s m args below meth c _ _ 0 0 Q (F0 m 42 ls [.int (iI (v 24))])
      have r_6 : 0 ≤ (v 24) ∧ (v 24) ≤ 1000000 := hok.1 24
      refine lv_aload_n hx hb dX11_ready_42 rfl (lv_at hl 0 rfl) ?_
      refine lv_iload_n hx hb dX11_ready_43 rfl (lv_at hl 1 rfl) ?_
      refine g_cv (As := [.int (iI a1)]) (rest := [.int (iI (v 24))]) (n := 1) C hml (y_readyAt l D k A ad hD (va_up (va_up v 0 0) 1 0) f g a1 (by omega) (show TI (v 25) (v 24) (f 27) (f 28) (f 30) from hti)) mM_X11_361 mI_X11_readyAt mE_X11_readyAt mN_X11 mC_X11_readyAt (by decide +kernel) 0 (ci := 11) rfl rfl hP hS (fun _ h => h) ⟨Nat.le_of_ble_eq_true rfl, Nat.le_of_ble_eq_true rfl⟩ ⟨Nat.zero_le _, Nat.zero_le _⟩ hl.1 rfl rfl (Nat.le_of_ble_eq_true rfl) dX11_ready_44 (fun r_7 v_7 f_7 g_7 H locs hq_7 hP _ hS => ?_)
      obtain ⟨z_7, rfl, rfl, rfl, rfl, p0_7, p1_7⟩ := hq_7
      show W p l e (gRm 2 53) s m args below meth c _ _ 0 0 Q (F0 m 47 ls [.int (iI z_7), .int (iI (v 24))])
      replace p0_7 : z_7 = (rsF (mxE (f 24) (f 25) (f 28) a1 (v 23) (v 25).toNat) ((f 4) (v 23))) := p0_7
      replace p1_7 : 0 ≤ z_7 ∧ z_7 ≤ 1001998 := p1_7
      have hz_7 : inR z_7 := (by first | omega | (rw [p0_7]; split <;> omega))
      have hro := p0_7
      clear p0_7
      refine gi_max C hml hl.1 mM_X11_341 (by omega) (by omega) (Nat.le_of_ble_eq_true rfl) (Nat.le_of_ble_eq_true rfl) dX11_ready_47 (fun x_8 hx_8 => ?_)
      exact g_iret hQ C hr hlocks hP hS dX11_ready_50 ⟨x_8, 0, rfl, rfl, rfl, rfl, (by first | omega | (rw [← hro]; (repeat' split) <;> omega) | ((repeat' split) <;> omega)), (by first | omega | ((repeat' split) <;> omega)), (by first | omega | ((repeat' split) <;> omega))⟩
    · refine lv_aload_n hx hb dX11_ready_32 rfl (lv_at hl 0 rfl) ?_
      refine lv_iconst (v := iI 5) hx hb dX11_ready_33 rfl ?_
      refine g_cv (As := [.int (iI 5)]) (rest := []) (n := 1) C hml (m_X11_refuse l D k A ad hD (va_up (va_up v 0 0) 1 0) f g 5 (by decide) (show 0 ≤ (5 : Int) ∧ (5 : Int) ≤ 10 from by omega)) mM_X11_295 mI_X11_refuse mE_X11_refuse mN_X11 mC_X11_refuse (by decide +kernel) 0 (ci := 11) rfl rfl hP hS (fun _ h => h) ⟨Nat.le_of_ble_eq_true rfl, Nat.le_of_ble_eq_true rfl⟩ ⟨Nat.zero_le _, Nat.zero_le _⟩ hl.1 rfl rfl (Nat.le_of_ble_eq_true rfl) dX11_ready_34 (fun r_9 v_9 f_9 g_9 H locs hq_9 hP _ hS => ?_)
      obtain ⟨rfl, rfl, rfl, rfl⟩ := hq_9
      show W p l e (gRm 2 53) s m args below meth c _ _ 0 0 Q (F0 m 37 ls [.int (iI (-1))])
      have hP : gWd D (mdT k ad) (va_up (va_up v 0 (5 : Int)) 1 0) f g H := ⟨hP.1, (gR_up (V := mdV) (F := mdF) (gR_up (V := mdV) (F := mdF) ⟨hok.1, hok.2⟩ 0 (hP.2.1 0)) 1 (hP.2.1 1))⟩
      exact g_iret hQ C hr hlocks hP hS dX11_ready_37 ⟨(-1), (5 : Int), rfl, rfl, rfl, rfl, (by first | omega | (rw [← hro]; (repeat' split) <;> omega) | ((repeat' split) <;> omega)), (by first | omega | ((repeat' split) <;> omega)), (by first | omega | ((repeat' split) <;> omega))⟩
  · have vz_2 := gif0 w_2 c_3
    clear w_2
    refine lv_aload_n hx hb dX11_ready_18 rfl (lv_at hl 0 rfl) ?_
    refine lv_iconst (v := iI 1) hx hb dX11_ready_19 rfl ?_
    refine g_cv (As := [.int (iI 1)]) (rest := []) (n := 1) C hml (m_X11_refuse l D k A ad hD (va_up (va_up v 0 0) 1 0) f g 1 (by decide) (show 0 ≤ (1 : Int) ∧ (1 : Int) ≤ 10 from by omega)) mM_X11_295 mI_X11_refuse mE_X11_refuse mN_X11 mC_X11_refuse (by decide +kernel) 0 (ci := 11) rfl rfl hP hS (fun _ h => h) ⟨Nat.le_of_ble_eq_true rfl, Nat.le_of_ble_eq_true rfl⟩ ⟨Nat.zero_le _, Nat.zero_le _⟩ hl.1 rfl rfl (Nat.le_of_ble_eq_true rfl) dX11_ready_20 (fun r_10 v_10 f_10 g_10 H locs hq_10 hP _ hS => ?_)
    obtain ⟨rfl, rfl, rfl, rfl⟩ := hq_10
    show W p l e (gRm 2 53) s m args below meth c _ _ 0 0 Q (F0 m 23 ls [.int (iI (-1))])
    have hP : gWd D (mdT k ad) (va_up (va_up v 0 (1 : Int)) 1 0) f g H := ⟨hP.1, (gR_up (V := mdV) (F := mdF) (gR_up (V := mdV) (F := mdF) ⟨hok.1, hok.2⟩ 0 (hP.2.1 0)) 1 (hP.2.1 1))⟩
    exact g_iret hQ C hr hlocks hP hS dX11_ready_23 ⟨(-1), (1 : Int), rfl, rfl, rfl, rfl, (by first | omega | (rw [← hro]; (repeat' split) <;> omega) | ((repeat' split) <;> omega)), (by first | omega | ((repeat' split) <;> omega)), (by first | omega | ((repeat' split) <;> omega))⟩

set_option maxHeartbeats 4000000 in
set_option maxRecDepth 100000 in
theorem y_appeal (l : Launch) (D : va_G) (k : Nat → ClassId) (A : Nat → Prop) (ad : Nat → Nat) (hD : mdD A k ad) (v : gV) (f g : gF) (a1 : Int) (a2 : Int) (a3 : Int) (h_a1 : inR a1) (h_a2 : inR a2) (h_a3 : inR a3) : GM l D k A (mdT k ad) yX11_appeal cX11_appeal 4 (some .boolean) 1 21 [.ref (ad 0), .int (iI a1), .int (iI a2), .int (iI a3)] v f g (fun r v1 f1 g1 => ∃ (z : Int) (w0 : Int), r = some (.int (iI z)) ∧ (va_up (va_up (va_up v 0 w0) 1 0) 26 (if w0 = 0 then (v 26) + 1 else (v 26))) = v1 ∧ (va_up (va_up (va_up f 31 (if w0 = 0 then u1 (f 31) (v 26) a1 else (f 31))) 32 (if w0 = 0 then u1 (f 32) (v 26) a2 else (f 32))) 33 (if w0 = 0 then u1 (f 33) (v 26) a3 else (f 33))) = f1 ∧ g = g1 ∧ (z = (if w0 = 0 then 1 else 0)) ∧ (w0 = (if ¬ (0 ≤ a1 ∧ a1 < (v 25)) then 1 else if a2 < 0 ∨ (f 18) ((f 25) a1 * 5 + (f 26) a1) < a2 ∨ ¬ (0 ≤ a3 ∧ a3 ≤ 999) then 2 else if (f 30) a1 = 0 ∨ (f 30) a1 = 4 then 10 else if 40 ≤ (v 26) then 3 else 0))) := by
  refine GM.of (by decide) (Nat.le_of_ble_eq_true rfl) ?_
  intro p e s m args below meth c Q ls hQ C hml hr hlocks hP hl
  have hx := C.1
  have hb := C.2.1
  have hok := hP.2
  have hS : va_S A s.heap s.heap [] := va_S.rf
  have hl : lv_has ls 4 [(0, .ref (ad 0)), (1, .int (iI a1)), (2, .int (iI a2)), (3, .int (iI a3))] := hl
  have hP : gWd D (mdT k ad) (va_up (va_up (va_up v 0 (v 0)) 1 (v 1)) 26 (v 26)) (va_up (va_up (va_up f 31 (f 31)) 32 (f 32)) 33 (f 33)) g s.heap := by rw [va_id, va_id, va_id, va_id, va_id, va_id]; exact hP
  have r_1 : 0 ≤ (v 25) ∧ (v 25) ≤ 300 := hok.1 25
  have r_2 : 0 ≤ (v 26) ∧ (v 26) ≤ 40 := hok.1 26
  refine lv_aload_n hx hb dX11_appeal_0 rfl (lv_at hl 0 rfl) ?_
  refine lv_iconst (v := iI 0) hx hb dX11_appeal_1 rfl ?_
  refine mdP_thrown (v1 := (va_up (va_up (va_up v 0 (v 0)) 1 0) 26 (v 26))) C hP hD hS mF_X11_146 (by decide) rfl (Or.inr (gF_up (V := mdV) (F := mdF) (gF_up (V := mdV) (F := mdF) (gF_up (V := mdV) (F := mdF) (gR_up (V := mdV) (F := mdF) (gR_up (V := mdV) (F := mdF) (gR_up (V := mdV) (F := mdF) ⟨hok.1, hok.2⟩ 0 (hP.2.1 0)) 1 (show 0 ≤ 0 ∧ 0 ≤ 0 from by decide)) 26 (hP.2.1 26)) 31 (hP.2.2 31)) 32 (hP.2.2 32)) 33 (hP.2.2 33))) dX11_appeal_2 (fun H locs hP hS => ?_)
  refine lv_aload_n hx hb dX11_appeal_5 rfl (lv_at hl 0 rfl) ?_
  refine lv_iconst (v := iI 0) hx hb dX11_appeal_6 rfl ?_
  refine mdP_status (v1 := (va_up (va_up (va_up v 0 0) 1 0) 26 (v 26))) C hP hD hS mF_X11_149 (by decide) rfl (Or.inr (gF_up (V := mdV) (F := mdF) (gF_up (V := mdV) (F := mdF) (gF_up (V := mdV) (F := mdF) (gR_up (V := mdV) (F := mdF) (gR_up (V := mdV) (F := mdF) (gR_up (V := mdV) (F := mdF) ⟨hok.1, hok.2⟩ 0 (show 0 ≤ 0 ∧ 0 ≤ 10 from by decide)) 1 (hP.2.1 1)) 26 (hP.2.1 26)) 31 (hP.2.2 31)) 32 (hP.2.2 32)) 33 (hP.2.2 33))) dX11_appeal_7 (fun H locs hP hS => ?_)
  refine lv_iload_n hx hb dX11_appeal_10 rfl (lv_at hl 1 rfl) ?_
  refine gi_zlt (tgt := 22) hx hb dX11_appeal_11 (by decide) (by omega) (fun c_3 => ?_) (fun c_3 => ?_)
  · refine lv_aload_n hx hb dX11_appeal_22 rfl (lv_at hl 0 rfl) ?_
    refine lv_iconst (v := iI 1) hx hb dX11_appeal_23 rfl ?_
    refine g_cv (As := [.int (iI 1)]) (rest := []) (n := 1) C hml (m_X11_no l D k A ad hD (va_up (va_up (va_up v 0 0) 1 0) 26 (v 26)) (va_up (va_up (va_up f 31 (f 31)) 32 (f 32)) 33 (f 33)) g 1 (by decide) (show 0 ≤ (1 : Int) ∧ (1 : Int) ≤ 10 from by omega)) mM_X11_332 mI_X11_no mE_X11_no mN_X11 mC_X11_no (by decide +kernel) 0 (ci := 11) rfl rfl hP hS (fun _ h => h) ⟨Nat.le_of_ble_eq_true rfl, Nat.le_of_ble_eq_true rfl⟩ ⟨Nat.zero_le _, Nat.zero_le _⟩ hl.1 rfl rfl (Nat.le_of_ble_eq_true rfl) dX11_appeal_24 (fun r_4 v_4 f_4 g_4 H locs hq_4 hP _ hS => ?_)
    obtain ⟨rfl, rfl, rfl, rfl⟩ := hq_4
    show W p l e (gRm 1 21) s m args below meth c _ _ 0 0 Q (F0 m 27 ls [.int (iI 0)])
    have hP : gWd D (mdT k ad) (va_up (va_up (va_up v 0 (1 : Int)) 1 0) 26 (v 26)) (va_up (va_up (va_up f 31 (f 31)) 32 (f 32)) 33 (f 33)) g H := ⟨hP.1, (gF_up (V := mdV) (F := mdF) (gF_up (V := mdV) (F := mdF) (gF_up (V := mdV) (F := mdF) (gR_up (V := mdV) (F := mdF) (gR_up (V := mdV) (F := mdF) (gR_up (V := mdV) (F := mdF) ⟨hok.1, hok.2⟩ 0 (hP.2.1 0)) 1 (hP.2.1 1)) 26 (hP.2.1 26)) 31 (hP.2.2 31)) 32 (hP.2.2 32)) 33 (hP.2.2 33))⟩
    exact g_zret hQ C hr hlocks (by decide) hP hS dX11_appeal_27 ⟨0, (1 : Int), rfl, (by rw [show ((if (1 : Int) = 0 then (v 26) + 1 else (v 26)) : Int) = (v 26) from by first | rfl | omega | ((repeat' split) <;> omega)]), (by rw [show ((if (1 : Int) = 0 then u1 (f 31) (v 26) a1 else (f 31)) : Int → Int) = (f 31) from by first | rfl | (rw [if_pos (by omega)]; done) | (rw [if_neg (by omega)]; done) | (rw [if_neg (by omega), if_pos (by omega)]; done) | (rw [if_neg (by omega), if_neg (by omega)]; done), show ((if (1 : Int) = 0 then u1 (f 32) (v 26) a2 else (f 32)) : Int → Int) = (f 32) from by first | rfl | (rw [if_pos (by omega)]; done) | (rw [if_neg (by omega)]; done) | (rw [if_neg (by omega), if_pos (by omega)]; done) | (rw [if_neg (by omega), if_neg (by omega)]; done), show ((if (1 : Int) = 0 then u1 (f 33) (v 26) a3 else (f 33)) : Int → Int) = (f 33) from by first | rfl | (rw [if_pos (by omega)]; done) | (rw [if_neg (by omega)]; done) | (rw [if_neg (by omega), if_pos (by omega)]; done) | (rw [if_neg (by omega), if_neg (by omega)]; done)]), rfl, (by first | omega | ((repeat' split) <;> omega)), (by first | omega | ((repeat' split) <;> omega))⟩
  · refine lv_iload_n hx hb dX11_appeal_14 rfl (lv_at hl 1 rfl) ?_
    refine lv_aload_n hx hb dX11_appeal_15 rfl (lv_at hl 0 rfl) ?_
    refine mdG_tried C hP mF_X11_319 dX11_appeal_16 ?_
    show W p l e (gRm 1 21) s m args below meth c _ _ 0 0 Q (F0 m 19 ls [.int (iI (v 25)), .int (iI a1)])
    refine gi_clt (tgt := 28) hx hb dX11_appeal_19 (by decide) (by omega) (by omega) (fun c_5 => ?_) (fun c_5 => ?_)
    · refine lv_iload_n hx hb dX11_appeal_28 rfl (lv_at hl 2 rfl) ?_
      refine gi_zlt (tgt := 63) hx hb dX11_appeal_29 (by decide) (by omega) (fun c_6 => ?_) (fun c_6 => ?_)
      · refine lv_aload_n hx hb dX11_appeal_63 rfl (lv_at hl 0 rfl) ?_
        refine lv_iconst (v := iI 2) hx hb dX11_appeal_64 rfl ?_
        refine g_cv (As := [.int (iI 2)]) (rest := []) (n := 1) C hml (m_X11_no l D k A ad hD (va_up (va_up (va_up v 0 0) 1 0) 26 (v 26)) (va_up (va_up (va_up f 31 (f 31)) 32 (f 32)) 33 (f 33)) g 2 (by decide) (show 0 ≤ (2 : Int) ∧ (2 : Int) ≤ 10 from by omega)) mM_X11_332 mI_X11_no mE_X11_no mN_X11 mC_X11_no (by decide +kernel) 0 (ci := 11) rfl rfl hP hS (fun _ h => h) ⟨Nat.le_of_ble_eq_true rfl, Nat.le_of_ble_eq_true rfl⟩ ⟨Nat.zero_le _, Nat.zero_le _⟩ hl.1 rfl rfl (Nat.le_of_ble_eq_true rfl) dX11_appeal_65 (fun r_7 v_7 f_7 g_7 H locs hq_7 hP _ hS => ?_)
        obtain ⟨rfl, rfl, rfl, rfl⟩ := hq_7
        show W p l e (gRm 1 21) s m args below meth c _ _ 0 0 Q (F0 m 68 ls [.int (iI 0)])
        have hP : gWd D (mdT k ad) (va_up (va_up (va_up v 0 (2 : Int)) 1 0) 26 (v 26)) (va_up (va_up (va_up f 31 (f 31)) 32 (f 32)) 33 (f 33)) g H := ⟨hP.1, (gF_up (V := mdV) (F := mdF) (gF_up (V := mdV) (F := mdF) (gF_up (V := mdV) (F := mdF) (gR_up (V := mdV) (F := mdF) (gR_up (V := mdV) (F := mdF) (gR_up (V := mdV) (F := mdF) ⟨hok.1, hok.2⟩ 0 (hP.2.1 0)) 1 (hP.2.1 1)) 26 (hP.2.1 26)) 31 (hP.2.2 31)) 32 (hP.2.2 32)) 33 (hP.2.2 33))⟩
        exact g_zret hQ C hr hlocks (by decide) hP hS dX11_appeal_68 ⟨0, (2 : Int), rfl, (by rw [show ((if (2 : Int) = 0 then (v 26) + 1 else (v 26)) : Int) = (v 26) from by first | rfl | omega | ((repeat' split) <;> omega)]), (by rw [show ((if (2 : Int) = 0 then u1 (f 31) (v 26) a1 else (f 31)) : Int → Int) = (f 31) from by first | rfl | (rw [if_pos (by omega)]; done) | (rw [if_neg (by omega)]; done) | (rw [if_neg (by omega), if_pos (by omega)]; done) | (rw [if_neg (by omega), if_neg (by omega)]; done), show ((if (2 : Int) = 0 then u1 (f 32) (v 26) a2 else (f 32)) : Int → Int) = (f 32) from by first | rfl | (rw [if_pos (by omega)]; done) | (rw [if_neg (by omega)]; done) | (rw [if_neg (by omega), if_pos (by omega)]; done) | (rw [if_neg (by omega), if_neg (by omega)]; done), show ((if (2 : Int) = 0 then u1 (f 33) (v 26) a3 else (f 33)) : Int → Int) = (f 33) from by first | rfl | (rw [if_pos (by omega)]; done) | (rw [if_neg (by omega)]; done) | (rw [if_neg (by omega), if_pos (by omega)]; done) | (rw [if_neg (by omega), if_neg (by omega)]; done)]), rfl, (by first | omega | ((repeat' split) <;> omega)), (by first | omega | ((repeat' split) <;> omega))⟩
      · refine lv_iload_n hx hb dX11_appeal_32 rfl (lv_at hl 2 rfl) ?_
        refine lv_aload_n hx hb dX11_appeal_33 rfl (lv_at hl 0 rfl) ?_
        refine mdG_holds C hP mF_X11_73 dX11_appeal_34 ?_
        refine lv_aload_n hx hb dX11_appeal_37 rfl (lv_at hl 0 rfl) ?_
        refine mdG_where C hP mF_X11_97 dX11_appeal_38 ?_
        refine lv_iload_n hx hb dX11_appeal_41 rfl (lv_at hl 1 rfl) ?_
        refine mdL_where C hP (by omega) (by omega) dX11_appeal_42 ?_
        show W p l e (gRm 1 21) s m args below meth c _ _ 0 0 Q (F0 m 43 ls [.int (iI (f 25 a1)), .ref (ad 19), .int (iI a2)])
        have r_8 : 0 ≤ (f 25 a1) ∧ (f 25 a1) ≤ 3 := hP.2.2 25 a1
        refine lv_aload_n hx hb dX11_appeal_43 rfl (lv_at hl 0 rfl) ?_
        refine mdG_which C hP mF_X11_100 dX11_appeal_44 ?_
        refine lv_iload_n hx hb dX11_appeal_47 rfl (lv_at hl 1 rfl) ?_
        refine mdL_which C hP (by omega) (by omega) dX11_appeal_48 ?_
        show W p l e (gRm 1 21) s m args below meth c _ _ 0 0 Q (F0 m 49 ls [.int (iI (f 26 a1)), .int (iI (f 25 a1)), .ref (ad 19), .int (iI a2)])
        have r_9 : 0 ≤ (f 26 a1) ∧ (f 26 a1) ≤ 4 := hP.2.2 26 a1
        refine g_cs (As := [.int (iI (f 25 a1)), .int (iI (f 26 a1))]) (rest := [.ref (ad 19), .int (iI a2)]) (n := 2) C hml (m_X11_at l D k A ad hD (va_up (va_up (va_up v 0 0) 1 0) 26 (v 26)) (va_up (va_up (va_up f 31 (f 31)) 32 (f 32)) 33 (f 33)) g (f 25 a1) (f 26 a1) (by omega) (by omega) (show 0 ≤ (f 25 a1) ∧ (f 25 a1) ≤ 3 from by omega) (show 0 ≤ (f 26 a1) ∧ (f 26 a1) ≤ 4 from by omega)) mM_X11_335 mS_X11_at mN_X11 mC_X11_at (by decide +kernel) hP hS (fun _ h => h) ⟨Nat.le_of_ble_eq_true rfl, Nat.le_of_ble_eq_true rfl⟩ ⟨Nat.zero_le _, Nat.zero_le _⟩ hl.1 rfl rfl (Nat.le_of_ble_eq_true rfl) dX11_appeal_49 (fun r_10 v_10 f_10 g_10 H locs hq_10 hP _ hS => ?_)
        obtain ⟨z_10, rfl, rfl, rfl, rfl, p0_10⟩ := hq_10
        show W p l e (gRm 1 21) s m args below meth c _ _ 0 0 Q (F0 m 52 ls [.int (iI z_10), .ref (ad 19), .int (iI a2)])
        replace p0_10 : z_10 = (5 * (f 25 a1) + (f 26 a1)) := p0_10
        have hz_10 : inR z_10 := (by first | omega | (rw [p0_10]; split <;> omega))
        refine mdL_holds C hP (by omega) (by omega) dX11_appeal_52 ?_
        show W p l e (gRm 1 21) s m args below meth c _ _ 0 0 Q (F0 m 53 ls [.int (iI (f 18 z_10)), .int (iI a2)])
        have r_11 : 0 ≤ (f 18 z_10) ∧ (f 18 z_10) ≤ 60 := hP.2.2 18 z_10
        have hla : (f 18 z_10) = (f 18) ((f 25) a1 * 5 + (f 26) a1) := by congr 1; omega
        refine gi_cgt (tgt := 63) hx hb dX11_appeal_53 (by decide) (by omega) (by omega) (fun c_13 => ?_) (fun c_13 => ?_)
        · refine lv_aload_n hx hb dX11_appeal_63 rfl (lv_at hl 0 rfl) ?_
          refine lv_iconst (v := iI 2) hx hb dX11_appeal_64 rfl ?_
          refine g_cv (As := [.int (iI 2)]) (rest := []) (n := 1) C hml (m_X11_no l D k A ad hD (va_up (va_up (va_up v 0 0) 1 0) 26 (v 26)) (va_up (va_up (va_up f 31 (f 31)) 32 (f 32)) 33 (f 33)) g 2 (by decide) (show 0 ≤ (2 : Int) ∧ (2 : Int) ≤ 10 from by omega)) mM_X11_332 mI_X11_no mE_X11_no mN_X11 mC_X11_no (by decide +kernel) 0 (ci := 11) rfl rfl hP hS (fun _ h => h) ⟨Nat.le_of_ble_eq_true rfl, Nat.le_of_ble_eq_true rfl⟩ ⟨Nat.zero_le _, Nat.zero_le _⟩ hl.1 rfl rfl (Nat.le_of_ble_eq_true rfl) dX11_appeal_65 (fun r_14 v_14 f_14 g_14 H locs hq_14 hP _ hS => ?_)
          obtain ⟨rfl, rfl, rfl, rfl⟩ := hq_14
          show W p l e (gRm 1 21) s m args below meth c _ _ 0 0 Q (F0 m 68 ls [.int (iI 0)])
          have hP : gWd D (mdT k ad) (va_up (va_up (va_up v 0 (2 : Int)) 1 0) 26 (v 26)) (va_up (va_up (va_up f 31 (f 31)) 32 (f 32)) 33 (f 33)) g H := ⟨hP.1, (gF_up (V := mdV) (F := mdF) (gF_up (V := mdV) (F := mdF) (gF_up (V := mdV) (F := mdF) (gR_up (V := mdV) (F := mdF) (gR_up (V := mdV) (F := mdF) (gR_up (V := mdV) (F := mdF) ⟨hok.1, hok.2⟩ 0 (hP.2.1 0)) 1 (hP.2.1 1)) 26 (hP.2.1 26)) 31 (hP.2.2 31)) 32 (hP.2.2 32)) 33 (hP.2.2 33))⟩
          exact g_zret hQ C hr hlocks (by decide) hP hS dX11_appeal_68 ⟨0, (2 : Int), rfl, (by rw [show ((if (2 : Int) = 0 then (v 26) + 1 else (v 26)) : Int) = (v 26) from by first | rfl | omega | ((repeat' split) <;> omega)]), (by rw [show ((if (2 : Int) = 0 then u1 (f 31) (v 26) a1 else (f 31)) : Int → Int) = (f 31) from by first | rfl | (rw [if_pos (by omega)]; done) | (rw [if_neg (by omega)]; done) | (rw [if_neg (by omega), if_pos (by omega)]; done) | (rw [if_neg (by omega), if_neg (by omega)]; done), show ((if (2 : Int) = 0 then u1 (f 32) (v 26) a2 else (f 32)) : Int → Int) = (f 32) from by first | rfl | (rw [if_pos (by omega)]; done) | (rw [if_neg (by omega)]; done) | (rw [if_neg (by omega), if_pos (by omega)]; done) | (rw [if_neg (by omega), if_neg (by omega)]; done), show ((if (2 : Int) = 0 then u1 (f 33) (v 26) a3 else (f 33)) : Int → Int) = (f 33) from by first | rfl | (rw [if_pos (by omega)]; done) | (rw [if_neg (by omega)]; done) | (rw [if_neg (by omega), if_pos (by omega)]; done) | (rw [if_neg (by omega), if_neg (by omega)]; done)]), rfl, (by first | omega | ((repeat' split) <;> omega)), (by first | omega | ((repeat' split) <;> omega))⟩
        · refine lv_iload_n hx hb dX11_appeal_56 rfl (lv_at hl 3 rfl) ?_
          refine g_cs (As := [.int (iI a3)]) (rest := []) (n := 1) C hml (m_X11_isDay l D k A ad hD (va_up (va_up (va_up v 0 0) 1 0) 26 (v 26)) (va_up (va_up (va_up f 31 (f 31)) 32 (f 32)) 33 (f 33)) g a3 (by omega)) mM_X11_364 mS_X11_isDay mN_X11 mC_X11_isDay (by decide +kernel) hP hS (fun _ h => h) ⟨Nat.le_of_ble_eq_true rfl, Nat.le_of_ble_eq_true rfl⟩ ⟨Nat.zero_le _, Nat.zero_le _⟩ hl.1 rfl rfl (Nat.le_of_ble_eq_true rfl) dX11_appeal_57 (fun r_15 v_15 f_15 g_15 H locs hq_15 hP _ hS => ?_)
          obtain ⟨z_15, rfl, rfl, rfl, rfl, p0_15⟩ := hq_15
          show W p l e (gRm 1 21) s m args below meth c _ _ 0 0 Q (F0 m 60 ls [.int (iI z_15)])
          replace p0_15 : z_15 = (if 0 ≤ a3 ∧ a3 ≤ 999 then 1 else 0) := p0_15
          have w_15 := gif (P := 0 ≤ a3 ∧ a3 ≤ 999) p0_15
          clear p0_15
          have hz_15 : inR z_15 := (by first | omega | (rw [p0_15]; split <;> omega))
          refine gi_zne (tgt := 69) hx hb dX11_appeal_60 (by decide) (by omega) (fun c_16 => ?_) (fun c_16 => ?_)
          · have vz_15 := gif1 w_15 c_16
            have voz_15 := gif1o w_15 c_16
            clear w_15
            refine lv_aload_n hx hb dX11_appeal_69 rfl (lv_at hl 0 rfl) ?_
            refine mdG_how C hP mF_X11_112 dX11_appeal_70 ?_
            refine lv_iload_n hx hb dX11_appeal_73 rfl (lv_at hl 1 rfl) ?_
            refine mdL_how C hP (by omega) (by omega) dX11_appeal_74 ?_
            show W p l e (gRm 1 21) s m args below meth c _ _ 0 0 Q (F0 m 75 ls [.int (iI (f 30 a1))])
            have r_17 : 0 ≤ (f 30 a1) ∧ (f 30 a1) ≤ 4 := hP.2.2 30 a1
            refine gi_zeq (tgt := 88) hx hb dX11_appeal_75 (by decide) (by omega) (fun c_18 => ?_) (fun c_18 => ?_)
            · refine lv_aload_n hx hb dX11_appeal_88 rfl (lv_at hl 0 rfl) ?_
              refine lv_bipush (v := iI 10) hx hb dX11_appeal_89 (by decide) ?_
              refine g_cv (As := [.int (iI 10)]) (rest := []) (n := 1) C hml (m_X11_no l D k A ad hD (va_up (va_up (va_up v 0 0) 1 0) 26 (v 26)) (va_up (va_up (va_up f 31 (f 31)) 32 (f 32)) 33 (f 33)) g 10 (by decide) (show 0 ≤ (10 : Int) ∧ (10 : Int) ≤ 10 from by omega)) mM_X11_332 mI_X11_no mE_X11_no mN_X11 mC_X11_no (by decide +kernel) 0 (ci := 11) rfl rfl hP hS (fun _ h => h) ⟨Nat.le_of_ble_eq_true rfl, Nat.le_of_ble_eq_true rfl⟩ ⟨Nat.zero_le _, Nat.zero_le _⟩ hl.1 rfl rfl (Nat.le_of_ble_eq_true rfl) dX11_appeal_91 (fun r_19 v_19 f_19 g_19 H locs hq_19 hP _ hS => ?_)
              obtain ⟨rfl, rfl, rfl, rfl⟩ := hq_19
              show W p l e (gRm 1 21) s m args below meth c _ _ 0 0 Q (F0 m 94 ls [.int (iI 0)])
              have hP : gWd D (mdT k ad) (va_up (va_up (va_up v 0 (10 : Int)) 1 0) 26 (v 26)) (va_up (va_up (va_up f 31 (f 31)) 32 (f 32)) 33 (f 33)) g H := ⟨hP.1, (gF_up (V := mdV) (F := mdF) (gF_up (V := mdV) (F := mdF) (gF_up (V := mdV) (F := mdF) (gR_up (V := mdV) (F := mdF) (gR_up (V := mdV) (F := mdF) (gR_up (V := mdV) (F := mdF) ⟨hok.1, hok.2⟩ 0 (hP.2.1 0)) 1 (hP.2.1 1)) 26 (hP.2.1 26)) 31 (hP.2.2 31)) 32 (hP.2.2 32)) 33 (hP.2.2 33))⟩
              exact g_zret hQ C hr hlocks (by decide) hP hS dX11_appeal_94 ⟨0, (10 : Int), rfl, (by rw [show ((if (10 : Int) = 0 then (v 26) + 1 else (v 26)) : Int) = (v 26) from by first | rfl | omega | ((repeat' split) <;> omega)]), (by rw [show ((if (10 : Int) = 0 then u1 (f 31) (v 26) a1 else (f 31)) : Int → Int) = (f 31) from by first | rfl | (rw [if_pos (by omega)]; done) | (rw [if_neg (by omega)]; done) | (rw [if_neg (by omega), if_pos (by omega)]; done) | (rw [if_neg (by omega), if_neg (by omega)]; done), show ((if (10 : Int) = 0 then u1 (f 32) (v 26) a2 else (f 32)) : Int → Int) = (f 32) from by first | rfl | (rw [if_pos (by omega)]; done) | (rw [if_neg (by omega)]; done) | (rw [if_neg (by omega), if_pos (by omega)]; done) | (rw [if_neg (by omega), if_neg (by omega)]; done), show ((if (10 : Int) = 0 then u1 (f 33) (v 26) a3 else (f 33)) : Int → Int) = (f 33) from by first | rfl | (rw [if_pos (by omega)]; done) | (rw [if_neg (by omega)]; done) | (rw [if_neg (by omega), if_pos (by omega)]; done) | (rw [if_neg (by omega), if_neg (by omega)]; done)]), rfl, (by first | omega | ((repeat' split) <;> omega)), (by first | omega | ((repeat' split) <;> omega))⟩
            · refine lv_aload_n hx hb dX11_appeal_78 rfl (lv_at hl 0 rfl) ?_
              refine mdG_how C hP mF_X11_112 dX11_appeal_79 ?_
              refine lv_iload_n hx hb dX11_appeal_82 rfl (lv_at hl 1 rfl) ?_
              refine mdL_how C hP (by omega) (by omega) dX11_appeal_83 ?_
              show W p l e (gRm 1 21) s m args below meth c _ _ 0 0 Q (F0 m 84 ls [.int (iI (f 30 a1))])
              refine lv_iconst (v := iI 4) hx hb dX11_appeal_84 rfl ?_
              refine gi_cne (tgt := 95) hx hb dX11_appeal_85 (by decide) (by omega) (by decide) (fun c_20 => ?_) (fun c_20 => ?_)
              · refine lv_aload_n hx hb dX11_appeal_95 rfl (lv_at hl 0 rfl) ?_
                refine mdG_appeals C hP mF_X11_322 dX11_appeal_96 ?_
                show W p l e (gRm 1 21) s m args below meth c _ _ 0 0 Q (F0 m 99 ls [.int (iI (v 26))])
                refine lv_bipush (v := iI 40) hx hb dX11_appeal_99 (by decide) ?_
                refine gi_cne (tgt := 110) hx hb dX11_appeal_101 (by decide) (by omega) (by decide) (fun c_21 => ?_) (fun c_21 => ?_)
                · refine lv_aload_n hx hb dX11_appeal_110 rfl (lv_at hl 0 rfl) ?_
                  refine mdG_appealTry C hP mF_X11_115 dX11_appeal_111 ?_
                  refine lv_aload_n hx hb dX11_appeal_114 rfl (lv_at hl 0 rfl) ?_
                  refine mdG_appeals C hP mF_X11_322 dX11_appeal_115 ?_
                  show W p l e (gRm 1 21) s m args below meth c _ _ 0 0 Q (F0 m 118 ls [.int (iI (v 26)), .ref (ad 32)])
                  refine lv_iload_n hx hb dX11_appeal_118 rfl (lv_at hl 1 rfl) ?_
                  refine mdS_appealTry (f1 := (va_up (va_up (va_up f 31 (u1 (f 31) (v 26) a1)) 32 (f 32)) 33 (f 33))) C hP hD hS (by omega) (by omega) (by omega) rfl (Or.inr (gF_up (V := mdV) (F := mdF) (gF_up (V := mdV) (F := mdF) (gF_up (V := mdV) (F := mdF) (gR_up (V := mdV) (F := mdF) (gR_up (V := mdV) (F := mdF) (gR_up (V := mdV) (F := mdF) ⟨hok.1, hok.2⟩ 0 (hP.2.1 0)) 1 (hP.2.1 1)) 26 (hP.2.1 26)) 31 (u1_rng (hP.2.2 31) (show 0 ≤ a1 ∧ a1 ≤ 299 from (by omega)))) 32 (hP.2.2 32)) 33 (hP.2.2 33))) dX11_appeal_119 (fun H locs hP hS => ?_)
                  refine lv_aload_n hx hb dX11_appeal_120 rfl (lv_at hl 0 rfl) ?_
                  refine mdG_appealHold C hP mF_X11_118 dX11_appeal_121 ?_
                  refine lv_aload_n hx hb dX11_appeal_124 rfl (lv_at hl 0 rfl) ?_
                  refine mdG_appeals C hP mF_X11_322 dX11_appeal_125 ?_
                  show W p l e (gRm 1 21) s m args below meth c _ _ 0 0 Q (F0 m 128 ls [.int (iI (v 26)), .ref (ad 33)])
                  refine lv_iload_n hx hb dX11_appeal_128 rfl (lv_at hl 2 rfl) ?_
                  refine mdS_appealHold (f1 := (va_up (va_up (va_up f 31 (u1 (f 31) (v 26) a1)) 32 (u1 (f 32) (v 26) a2)) 33 (f 33))) C hP hD hS (by omega) (by omega) (by omega) rfl (Or.inr (gF_up (V := mdV) (F := mdF) (gF_up (V := mdV) (F := mdF) (gF_up (V := mdV) (F := mdF) (gR_up (V := mdV) (F := mdF) (gR_up (V := mdV) (F := mdF) (gR_up (V := mdV) (F := mdF) ⟨hok.1, hok.2⟩ 0 (hP.2.1 0)) 1 (hP.2.1 1)) 26 (hP.2.1 26)) 31 (hP.2.2 31)) 32 (u1_rng (hP.2.2 32) (show 0 ≤ a2 ∧ a2 ≤ 60 from (by omega)))) 33 (hP.2.2 33))) dX11_appeal_129 (fun H locs hP hS => ?_)
                  refine lv_aload_n hx hb dX11_appeal_130 rfl (lv_at hl 0 rfl) ?_
                  refine mdG_appealDay C hP mF_X11_121 dX11_appeal_131 ?_
                  refine lv_aload_n hx hb dX11_appeal_134 rfl (lv_at hl 0 rfl) ?_
                  refine mdG_appeals C hP mF_X11_322 dX11_appeal_135 ?_
                  show W p l e (gRm 1 21) s m args below meth c _ _ 0 0 Q (F0 m 138 ls [.int (iI (v 26)), .ref (ad 34)])
                  refine lv_iload_n hx hb dX11_appeal_138 rfl (lv_at hl 3 rfl) ?_
                  refine mdS_appealDay (f1 := (va_up (va_up (va_up f 31 (u1 (f 31) (v 26) a1)) 32 (u1 (f 32) (v 26) a2)) 33 (u1 (f 33) (v 26) a3))) C hP hD hS (by omega) (by omega) (by omega) rfl (Or.inr (gF_up (V := mdV) (F := mdF) (gF_up (V := mdV) (F := mdF) (gF_up (V := mdV) (F := mdF) (gR_up (V := mdV) (F := mdF) (gR_up (V := mdV) (F := mdF) (gR_up (V := mdV) (F := mdF) ⟨hok.1, hok.2⟩ 0 (hP.2.1 0)) 1 (hP.2.1 1)) 26 (hP.2.1 26)) 31 (hP.2.2 31)) 32 (hP.2.2 32)) 33 (u1_rng (hP.2.2 33) (show 0 ≤ a3 ∧ a3 ≤ 999 from (by omega))))) dX11_appeal_139 (fun H locs hP hS => ?_)
                  refine lv_aload_n hx hb dX11_appeal_140 rfl (lv_at hl 0 rfl) ?_
                  refine lv_dup hx hb dX11_appeal_141 rfl ?_
                  refine mdG_appeals C hP mF_X11_322 dX11_appeal_142 ?_
                  show W p l e (gRm 1 21) s m args below meth c _ _ 0 0 Q (F0 m 145 ls [.int (iI (v 26)), .ref (ad 0)])
                  refine lv_iconst (v := iI 1) hx hb dX11_appeal_145 rfl ?_
                  refine gi_add (z := ((v 26) + 1)) hx hb dX11_appeal_146 rfl ?_
                  refine mdP_appeals (v1 := (va_up (va_up (va_up v 0 0) 1 0) 26 ((v 26) + 1))) C hP hD hS mF_X11_322 (by omega) rfl (Or.inr (gF_up (V := mdV) (F := mdF) (gF_up (V := mdV) (F := mdF) (gF_up (V := mdV) (F := mdF) (gR_up (V := mdV) (F := mdF) (gR_up (V := mdV) (F := mdF) (gR_up (V := mdV) (F := mdF) ⟨hok.1, hok.2⟩ 0 (hP.2.1 0)) 1 (hP.2.1 1)) 26 (show 0 ≤ ((v 26) + 1) ∧ ((v 26) + 1) ≤ 40 from by omega)) 31 (hP.2.2 31)) 32 (hP.2.2 32)) 33 (hP.2.2 33))) dX11_appeal_147 (fun H locs hP hS => ?_)
                  refine lv_iconst (v := iI 1) hx hb dX11_appeal_150 rfl ?_
                  exact g_zret hQ C hr hlocks (by decide) hP hS dX11_appeal_151 ⟨1, 0, rfl, (by rw [show ((if (0 : Int) = 0 then (v 26) + 1 else (v 26)) : Int) = ((v 26) + 1) from by first | rfl | omega | ((repeat' split) <;> omega)]), (by rw [show ((if (0 : Int) = 0 then u1 (f 31) (v 26) a1 else (f 31)) : Int → Int) = (u1 (f 31) (v 26) a1) from by first | rfl | (rw [if_pos (by omega)]; done) | (rw [if_neg (by omega)]; done) | (rw [if_neg (by omega), if_pos (by omega)]; done) | (rw [if_neg (by omega), if_neg (by omega)]; done), show ((if (0 : Int) = 0 then u1 (f 32) (v 26) a2 else (f 32)) : Int → Int) = (u1 (f 32) (v 26) a2) from by first | rfl | (rw [if_pos (by omega)]; done) | (rw [if_neg (by omega)]; done) | (rw [if_neg (by omega), if_pos (by omega)]; done) | (rw [if_neg (by omega), if_neg (by omega)]; done), show ((if (0 : Int) = 0 then u1 (f 33) (v 26) a3 else (f 33)) : Int → Int) = (u1 (f 33) (v 26) a3) from by first | rfl | (rw [if_pos (by omega)]; done) | (rw [if_neg (by omega)]; done) | (rw [if_neg (by omega), if_pos (by omega)]; done) | (rw [if_neg (by omega), if_neg (by omega)]; done)]), rfl, (by first | omega | ((repeat' split) <;> omega)), (by first | omega | ((repeat' split) <;> omega))⟩
                · refine lv_aload_n hx hb dX11_appeal_104 rfl (lv_at hl 0 rfl) ?_
                  refine lv_iconst (v := iI 3) hx hb dX11_appeal_105 rfl ?_
                  refine g_cv (As := [.int (iI 3)]) (rest := []) (n := 1) C hml (m_X11_no l D k A ad hD (va_up (va_up (va_up v 0 0) 1 0) 26 (v 26)) (va_up (va_up (va_up f 31 (f 31)) 32 (f 32)) 33 (f 33)) g 3 (by decide) (show 0 ≤ (3 : Int) ∧ (3 : Int) ≤ 10 from by omega)) mM_X11_332 mI_X11_no mE_X11_no mN_X11 mC_X11_no (by decide +kernel) 0 (ci := 11) rfl rfl hP hS (fun _ h => h) ⟨Nat.le_of_ble_eq_true rfl, Nat.le_of_ble_eq_true rfl⟩ ⟨Nat.zero_le _, Nat.zero_le _⟩ hl.1 rfl rfl (Nat.le_of_ble_eq_true rfl) dX11_appeal_106 (fun r_22 v_22 f_22 g_22 H locs hq_22 hP _ hS => ?_)
                  obtain ⟨rfl, rfl, rfl, rfl⟩ := hq_22
                  show W p l e (gRm 1 21) s m args below meth c _ _ 0 0 Q (F0 m 109 ls [.int (iI 0)])
                  have hP : gWd D (mdT k ad) (va_up (va_up (va_up v 0 (3 : Int)) 1 0) 26 (v 26)) (va_up (va_up (va_up f 31 (f 31)) 32 (f 32)) 33 (f 33)) g H := ⟨hP.1, (gF_up (V := mdV) (F := mdF) (gF_up (V := mdV) (F := mdF) (gF_up (V := mdV) (F := mdF) (gR_up (V := mdV) (F := mdF) (gR_up (V := mdV) (F := mdF) (gR_up (V := mdV) (F := mdF) ⟨hok.1, hok.2⟩ 0 (hP.2.1 0)) 1 (hP.2.1 1)) 26 (hP.2.1 26)) 31 (hP.2.2 31)) 32 (hP.2.2 32)) 33 (hP.2.2 33))⟩
                  exact g_zret hQ C hr hlocks (by decide) hP hS dX11_appeal_109 ⟨0, (3 : Int), rfl, (by rw [show ((if (3 : Int) = 0 then (v 26) + 1 else (v 26)) : Int) = (v 26) from by first | rfl | omega | ((repeat' split) <;> omega)]), (by rw [show ((if (3 : Int) = 0 then u1 (f 31) (v 26) a1 else (f 31)) : Int → Int) = (f 31) from by first | rfl | (rw [if_pos (by omega)]; done) | (rw [if_neg (by omega)]; done) | (rw [if_neg (by omega), if_pos (by omega)]; done) | (rw [if_neg (by omega), if_neg (by omega)]; done), show ((if (3 : Int) = 0 then u1 (f 32) (v 26) a2 else (f 32)) : Int → Int) = (f 32) from by first | rfl | (rw [if_pos (by omega)]; done) | (rw [if_neg (by omega)]; done) | (rw [if_neg (by omega), if_pos (by omega)]; done) | (rw [if_neg (by omega), if_neg (by omega)]; done), show ((if (3 : Int) = 0 then u1 (f 33) (v 26) a3 else (f 33)) : Int → Int) = (f 33) from by first | rfl | (rw [if_pos (by omega)]; done) | (rw [if_neg (by omega)]; done) | (rw [if_neg (by omega), if_pos (by omega)]; done) | (rw [if_neg (by omega), if_neg (by omega)]; done)]), rfl, (by first | omega | ((repeat' split) <;> omega)), (by first | omega | ((repeat' split) <;> omega))⟩
              · refine lv_aload_n hx hb dX11_appeal_88 rfl (lv_at hl 0 rfl) ?_
                refine lv_bipush (v := iI 10) hx hb dX11_appeal_89 (by decide) ?_
                refine g_cv (As := [.int (iI 10)]) (rest := []) (n := 1) C hml (m_X11_no l D k A ad hD (va_up (va_up (va_up v 0 0) 1 0) 26 (v 26)) (va_up (va_up (va_up f 31 (f 31)) 32 (f 32)) 33 (f 33)) g 10 (by decide) (show 0 ≤ (10 : Int) ∧ (10 : Int) ≤ 10 from by omega)) mM_X11_332 mI_X11_no mE_X11_no mN_X11 mC_X11_no (by decide +kernel) 0 (ci := 11) rfl rfl hP hS (fun _ h => h) ⟨Nat.le_of_ble_eq_true rfl, Nat.le_of_ble_eq_true rfl⟩ ⟨Nat.zero_le _, Nat.zero_le _⟩ hl.1 rfl rfl (Nat.le_of_ble_eq_true rfl) dX11_appeal_91 (fun r_23 v_23 f_23 g_23 H locs hq_23 hP _ hS => ?_)
                obtain ⟨rfl, rfl, rfl, rfl⟩ := hq_23
                show W p l e (gRm 1 21) s m args below meth c _ _ 0 0 Q (F0 m 94 ls [.int (iI 0)])
                have hP : gWd D (mdT k ad) (va_up (va_up (va_up v 0 (10 : Int)) 1 0) 26 (v 26)) (va_up (va_up (va_up f 31 (f 31)) 32 (f 32)) 33 (f 33)) g H := ⟨hP.1, (gF_up (V := mdV) (F := mdF) (gF_up (V := mdV) (F := mdF) (gF_up (V := mdV) (F := mdF) (gR_up (V := mdV) (F := mdF) (gR_up (V := mdV) (F := mdF) (gR_up (V := mdV) (F := mdF) ⟨hok.1, hok.2⟩ 0 (hP.2.1 0)) 1 (hP.2.1 1)) 26 (hP.2.1 26)) 31 (hP.2.2 31)) 32 (hP.2.2 32)) 33 (hP.2.2 33))⟩
                exact g_zret hQ C hr hlocks (by decide) hP hS dX11_appeal_94 ⟨0, (10 : Int), rfl, (by rw [show ((if (10 : Int) = 0 then (v 26) + 1 else (v 26)) : Int) = (v 26) from by first | rfl | omega | ((repeat' split) <;> omega)]), (by rw [show ((if (10 : Int) = 0 then u1 (f 31) (v 26) a1 else (f 31)) : Int → Int) = (f 31) from by first | rfl | (rw [if_pos (by omega)]; done) | (rw [if_neg (by omega)]; done) | (rw [if_neg (by omega), if_pos (by omega)]; done) | (rw [if_neg (by omega), if_neg (by omega)]; done), show ((if (10 : Int) = 0 then u1 (f 32) (v 26) a2 else (f 32)) : Int → Int) = (f 32) from by first | rfl | (rw [if_pos (by omega)]; done) | (rw [if_neg (by omega)]; done) | (rw [if_neg (by omega), if_pos (by omega)]; done) | (rw [if_neg (by omega), if_neg (by omega)]; done), show ((if (10 : Int) = 0 then u1 (f 33) (v 26) a3 else (f 33)) : Int → Int) = (f 33) from by first | rfl | (rw [if_pos (by omega)]; done) | (rw [if_neg (by omega)]; done) | (rw [if_neg (by omega), if_pos (by omega)]; done) | (rw [if_neg (by omega), if_neg (by omega)]; done)]), rfl, (by first | omega | ((repeat' split) <;> omega)), (by first | omega | ((repeat' split) <;> omega))⟩
          · have vz_15 := gif0 w_15 c_16
            clear w_15
            refine lv_aload_n hx hb dX11_appeal_63 rfl (lv_at hl 0 rfl) ?_
            refine lv_iconst (v := iI 2) hx hb dX11_appeal_64 rfl ?_
            refine g_cv (As := [.int (iI 2)]) (rest := []) (n := 1) C hml (m_X11_no l D k A ad hD (va_up (va_up (va_up v 0 0) 1 0) 26 (v 26)) (va_up (va_up (va_up f 31 (f 31)) 32 (f 32)) 33 (f 33)) g 2 (by decide) (show 0 ≤ (2 : Int) ∧ (2 : Int) ≤ 10 from by omega)) mM_X11_332 mI_X11_no mE_X11_no mN_X11 mC_X11_no (by decide +kernel) 0 (ci := 11) rfl rfl hP hS (fun _ h => h) ⟨Nat.le_of_ble_eq_true rfl, Nat.le_of_ble_eq_true rfl⟩ ⟨Nat.zero_le _, Nat.zero_le _⟩ hl.1 rfl rfl (Nat.le_of_ble_eq_true rfl) dX11_appeal_65 (fun r_24 v_24 f_24 g_24 H locs hq_24 hP _ hS => ?_)
            obtain ⟨rfl, rfl, rfl, rfl⟩ := hq_24
            show W p l e (gRm 1 21) s m args below meth c _ _ 0 0 Q (F0 m 68 ls [.int (iI 0)])
            have hP : gWd D (mdT k ad) (va_up (va_up (va_up v 0 (2 : Int)) 1 0) 26 (v 26)) (va_up (va_up (va_up f 31 (f 31)) 32 (f 32)) 33 (f 33)) g H := ⟨hP.1, (gF_up (V := mdV) (F := mdF) (gF_up (V := mdV) (F := mdF) (gF_up (V := mdV) (F := mdF) (gR_up (V := mdV) (F := mdF) (gR_up (V := mdV) (F := mdF) (gR_up (V := mdV) (F := mdF) ⟨hok.1, hok.2⟩ 0 (hP.2.1 0)) 1 (hP.2.1 1)) 26 (hP.2.1 26)) 31 (hP.2.2 31)) 32 (hP.2.2 32)) 33 (hP.2.2 33))⟩
            exact g_zret hQ C hr hlocks (by decide) hP hS dX11_appeal_68 ⟨0, (2 : Int), rfl, (by rw [show ((if (2 : Int) = 0 then (v 26) + 1 else (v 26)) : Int) = (v 26) from by first | rfl | omega | ((repeat' split) <;> omega)]), (by rw [show ((if (2 : Int) = 0 then u1 (f 31) (v 26) a1 else (f 31)) : Int → Int) = (f 31) from by first | rfl | (rw [if_pos (by omega)]; done) | (rw [if_neg (by omega)]; done) | (rw [if_neg (by omega), if_pos (by omega)]; done) | (rw [if_neg (by omega), if_neg (by omega)]; done), show ((if (2 : Int) = 0 then u1 (f 32) (v 26) a2 else (f 32)) : Int → Int) = (f 32) from by first | rfl | (rw [if_pos (by omega)]; done) | (rw [if_neg (by omega)]; done) | (rw [if_neg (by omega), if_pos (by omega)]; done) | (rw [if_neg (by omega), if_neg (by omega)]; done), show ((if (2 : Int) = 0 then u1 (f 33) (v 26) a3 else (f 33)) : Int → Int) = (f 33) from by first | rfl | (rw [if_pos (by omega)]; done) | (rw [if_neg (by omega)]; done) | (rw [if_neg (by omega), if_pos (by omega)]; done) | (rw [if_neg (by omega), if_neg (by omega)]; done)]), rfl, (by first | omega | ((repeat' split) <;> omega)), (by first | omega | ((repeat' split) <;> omega))⟩
    · refine lv_aload_n hx hb dX11_appeal_22 rfl (lv_at hl 0 rfl) ?_
      refine lv_iconst (v := iI 1) hx hb dX11_appeal_23 rfl ?_
      refine g_cv (As := [.int (iI 1)]) (rest := []) (n := 1) C hml (m_X11_no l D k A ad hD (va_up (va_up (va_up v 0 0) 1 0) 26 (v 26)) (va_up (va_up (va_up f 31 (f 31)) 32 (f 32)) 33 (f 33)) g 1 (by decide) (show 0 ≤ (1 : Int) ∧ (1 : Int) ≤ 10 from by omega)) mM_X11_332 mI_X11_no mE_X11_no mN_X11 mC_X11_no (by decide +kernel) 0 (ci := 11) rfl rfl hP hS (fun _ h => h) ⟨Nat.le_of_ble_eq_true rfl, Nat.le_of_ble_eq_true rfl⟩ ⟨Nat.zero_le _, Nat.zero_le _⟩ hl.1 rfl rfl (Nat.le_of_ble_eq_true rfl) dX11_appeal_24 (fun r_25 v_25 f_25 g_25 H locs hq_25 hP _ hS => ?_)
      obtain ⟨rfl, rfl, rfl, rfl⟩ := hq_25
      show W p l e (gRm 1 21) s m args below meth c _ _ 0 0 Q (F0 m 27 ls [.int (iI 0)])
      have hP : gWd D (mdT k ad) (va_up (va_up (va_up v 0 (1 : Int)) 1 0) 26 (v 26)) (va_up (va_up (va_up f 31 (f 31)) 32 (f 32)) 33 (f 33)) g H := ⟨hP.1, (gF_up (V := mdV) (F := mdF) (gF_up (V := mdV) (F := mdF) (gF_up (V := mdV) (F := mdF) (gR_up (V := mdV) (F := mdF) (gR_up (V := mdV) (F := mdF) (gR_up (V := mdV) (F := mdF) ⟨hok.1, hok.2⟩ 0 (hP.2.1 0)) 1 (hP.2.1 1)) 26 (hP.2.1 26)) 31 (hP.2.2 31)) 32 (hP.2.2 32)) 33 (hP.2.2 33))⟩
      exact g_zret hQ C hr hlocks (by decide) hP hS dX11_appeal_27 ⟨0, (1 : Int), rfl, (by rw [show ((if (1 : Int) = 0 then (v 26) + 1 else (v 26)) : Int) = (v 26) from by first | rfl | omega | ((repeat' split) <;> omega)]), (by rw [show ((if (1 : Int) = 0 then u1 (f 31) (v 26) a1 else (f 31)) : Int → Int) = (f 31) from by first | rfl | (rw [if_pos (by omega)]; done) | (rw [if_neg (by omega)]; done) | (rw [if_neg (by omega), if_pos (by omega)]; done) | (rw [if_neg (by omega), if_neg (by omega)]; done), show ((if (1 : Int) = 0 then u1 (f 32) (v 26) a2 else (f 32)) : Int → Int) = (f 32) from by first | rfl | (rw [if_pos (by omega)]; done) | (rw [if_neg (by omega)]; done) | (rw [if_neg (by omega), if_pos (by omega)]; done) | (rw [if_neg (by omega), if_neg (by omega)]; done), show ((if (1 : Int) = 0 then u1 (f 33) (v 26) a3 else (f 33)) : Int → Int) = (f 33) from by first | rfl | (rw [if_pos (by omega)]; done) | (rw [if_neg (by omega)]; done) | (rw [if_neg (by omega), if_pos (by omega)]; done) | (rw [if_neg (by omega), if_neg (by omega)]; done)]), rfl, (by first | omega | ((repeat' split) <;> omega)), (by first | omega | ((repeat' split) <;> omega))⟩
end
