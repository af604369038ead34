theorem dX11_readText_0 : decode cX11_readText 0 = .ok (.aload_n 0, 1) := by decide +kernel
theorem dX11_readText_1 : decode cX11_readText 1 = .ok (.iconst 0, 1) := by decide +kernel
theorem dX11_readText_2 : decode cX11_readText 2 = .ok (.putfield 207, 3) := by decide +kernel
theorem dX11_readText_5 : decode cX11_readText 5 = .ok (.aload_n 0, 1) := by decide +kernel
theorem dX11_readText_6 : decode cX11_readText 6 = .ok (.iconst 0, 1) := by decide +kernel
theorem dX11_readText_7 : decode cX11_readText 7 = .ok (.putfield 210, 3) := by decide +kernel
theorem dX11_readText_10 : decode cX11_readText 10 = .ok (.aload_n 0, 1) := by decide +kernel
theorem dX11_readText_11 : decode cX11_readText 11 = .ok (.iconst 1, 1) := by decide +kernel
theorem dX11_readText_12 : decode cX11_readText 12 = .ok (.putfield 214, 3) := by decide +kernel
theorem dX11_readText_15 : decode cX11_readText 15 = .ok (.aload_n 0, 1) := by decide +kernel
theorem dX11_readText_16 : decode cX11_readText 16 = .ok (.getfield 60, 3) := by decide +kernel
theorem dX11_readText_19 : decode cX11_readText 19 = .ok (.iconst 0, 1) := by decide +kernel
theorem dX11_readText_20 : decode cX11_readText 20 = .ok (.iconst 0, 1) := by decide +kernel
theorem dX11_readText_21 : decode cX11_readText 21 = .ok (.iastore, 1) := by decide +kernel
theorem dX11_readText_22 : decode cX11_readText 22 = .ok (.aload_n 0, 1) := by decide +kernel
theorem dX11_readText_23 : decode cX11_readText 23 = .ok (.getfield 67, 3) := by decide +kernel
theorem dX11_readText_26 : decode cX11_readText 26 = .ok (.iconst 0, 1) := by decide +kernel
theorem dX11_readText_27 : decode cX11_readText 27 = .ok (.iconst 0, 1) := by decide +kernel
theorem dX11_readText_28 : decode cX11_readText 28 = .ok (.bastore, 1) := by decide +kernel
theorem dX11_readText_29 : decode cX11_readText 29 = .ok (.aload_n 0, 1) := by decide +kernel
theorem dX11_readText_30 : decode cX11_readText 30 = .ok (.iconst 5, 1) := by decide +kernel
theorem dX11_readText_31 : decode cX11_readText 31 = .ok (.putfield 217, 3) := by decide +kernel
theorem dX11_readText_34 : decode cX11_readText 34 = .ok (.aload_n 0, 1) := by decide +kernel
theorem dX11_readText_35 : decode cX11_readText 35 = .ok (.getfield 51, 3) := by decide +kernel
theorem dX11_readText_38 : decode cX11_readText 38 = .ok (.iconst 0, 1) := by decide +kernel
theorem dX11_readText_39 : decode cX11_readText 39 = .ok (.iconst 0, 1) := by decide +kernel
theorem dX11_readText_40 : decode cX11_readText 40 = .ok (.iastore, 1) := by decide +kernel
theorem dX11_readText_41 : decode cX11_readText 41 = .ok (.aload_n 0, 1) := by decide +kernel
theorem dX11_readText_42 : decode cX11_readText 42 = .ok (.getfield 54, 3) := by decide +kernel
theorem dX11_readText_45 : decode cX11_readText 45 = .ok (.iconst 0, 1) := by decide +kernel
theorem dX11_readText_46 : decode cX11_readText 46 = .ok (.bipush 100, 2) := by decide +kernel
theorem dX11_readText_48 : decode cX11_readText 48 = .ok (.iastore, 1) := by decide +kernel
theorem dX11_readText_49 : decode cX11_readText 49 = .ok (.aload_n 0, 1) := by decide +kernel
theorem dX11_readText_50 : decode cX11_readText 50 = .ok (.getfield 51, 3) := by decide +kernel
theorem dX11_readText_53 : decode cX11_readText 53 = .ok (.iconst 1, 1) := by decide +kernel
theorem dX11_readText_54 : decode cX11_readText 54 = .ok (.iconst 1, 1) := by decide +kernel
theorem dX11_readText_55 : decode cX11_readText 55 = .ok (.iastore, 1) := by decide +kernel
theorem dX11_readText_56 : decode cX11_readText 56 = .ok (.aload_n 0, 1) := by decide +kernel
theorem dX11_readText_57 : decode cX11_readText 57 = .ok (.getfield 51, 3) := by decide +kernel
theorem dX11_readText_60 : decode cX11_readText 60 = .ok (.iconst 2, 1) := by decide +kernel
theorem dX11_readText_61 : decode cX11_readText 61 = .ok (.bipush 9, 2) := by decide +kernel
theorem dX11_readText_63 : decode cX11_readText 63 = .ok (.iastore, 1) := by decide +kernel
theorem dX11_readText_64 : decode cX11_readText 64 = .ok (.aload_n 0, 1) := by decide +kernel
theorem dX11_readText_65 : decode cX11_readText 65 = .ok (.getfield 51, 3) := by decide +kernel
theorem dX11_readText_68 : decode cX11_readText 68 = .ok (.iconst 3, 1) := by decide +kernel
theorem dX11_readText_69 : decode cX11_readText 69 = .ok (.iconst 2, 1) := by decide +kernel
theorem dX11_readText_70 : decode cX11_readText 70 = .ok (.iastore, 1) := by decide +kernel
theorem dX11_readText_71 : decode cX11_readText 71 = .ok (.aload_n 0, 1) := by decide +kernel
theorem dX11_readText_72 : decode cX11_readText 72 = .ok (.getfield 51, 3) := by decide +kernel
theorem dX11_readText_75 : decode cX11_readText 75 = .ok (.iconst 4, 1) := by decide +kernel
theorem dX11_readText_76 : decode cX11_readText 76 = .ok (.bipush 7, 2) := by decide +kernel
theorem dX11_readText_78 : decode cX11_readText 78 = .ok (.iastore, 1) := by decide +kernel
theorem dX11_readText_79 : decode cX11_readText 79 = .ok (.iconst 0, 1) := by decide +kernel
theorem dX11_readText_80 : decode cX11_readText 80 = .ok (.istore_n 1, 1) := by decide +kernel
theorem dX11_readText_81 : decode cX11_readText 81 = .ok (.aload_n 0, 1) := by decide +kernel
theorem dX11_readText_82 : decode cX11_readText 82 = .ok (.invokevirtual 201, 3) := by decide +kernel
theorem dX11_readText_85 : decode cX11_readText 85 = .ok (.aload_n 0, 1) := by decide +kernel
theorem dX11_readText_86 : decode cX11_readText 86 = .ok (.getfield 188, 3) := by decide +kernel
theorem dX11_readText_89 : decode cX11_readText 89 = .ok (.ifCond .ne 77, 3) := by decide +kernel
theorem dX11_readText_92 : decode cX11_readText 92 = .ok (.aload_n 0, 1) := by decide +kernel
theorem dX11_readText_93 : decode cX11_readText 93 = .ok (.getfield 165, 3) := by decide +kernel
theorem dX11_readText_96 : decode cX11_readText 96 = .ok (.ifCond .eq 70, 3) := by decide +kernel
theorem dX11_readText_99 : decode cX11_readText 99 = .ok (.aload_n 0, 1) := by decide +kernel
theorem dX11_readText_100 : decode cX11_readText 100 = .ok (.invokevirtual 220, 3) := by decide +kernel
theorem dX11_readText_103 : decode cX11_readText 103 = .ok (.istore_n 2, 1) := by decide +kernel
theorem dX11_readText_104 : decode cX11_readText 104 = .ok (.iload_n 2, 1) := by decide +kernel
theorem dX11_readText_105 : decode cX11_readText 105 = .ok (.ifCond .ge 10, 3) := by decide +kernel
theorem dX11_readText_108 : decode cX11_readText 108 = .ok (.aload_n 0, 1) := by decide +kernel
theorem dX11_readText_109 : decode cX11_readText 109 = .ok (.invokevirtual 198, 3) := by decide +kernel
theorem dX11_readText_112 : decode cX11_readText 112 = .ok (.goto 25, 3) := by decide +kernel
theorem dX11_readText_115 : decode cX11_readText 115 = .ok (.iload_n 2, 1) := by decide +kernel
theorem dX11_readText_116 : decode cX11_readText 116 = .ok (.ifCond .le 21, 3) := by decide +kernel
theorem dX11_readText_119 : decode cX11_readText 119 = .ok (.iload_n 1, 1) := by decide +kernel
theorem dX11_readText_120 : decode cX11_readText 120 = .ok (.iload_n 2, 1) := by decide +kernel
theorem dX11_readText_121 : decode cX11_readText 121 = .ok (.ishr, 1) := by decide +kernel
theorem dX11_readText_122 : decode cX11_readText 122 = .ok (.iconst 1, 1) := by decide +kernel
theorem dX11_readText_123 : decode cX11_readText 123 = .ok (.iand, 1) := by decide +kernel
theorem dX11_readText_124 : decode cX11_readText 124 = .ok (.iconst 1, 1) := by decide +kernel
theorem dX11_readText_125 : decode cX11_readText 125 = .ok (.if_icmp .ne 12, 3) := by decide +kernel
theorem dX11_readText_128 : decode cX11_readText 128 = .ok (.aload_n 0, 1) := by decide +kernel
theorem dX11_readText_129 : decode cX11_readText 129 = .ok (.iconst 5, 1) := by decide +kernel
theorem dX11_readText_130 : decode cX11_readText 130 = .ok (.aload_n 0, 1) := by decide +kernel
theorem dX11_readText_131 : decode cX11_readText 131 = .ok (.getfield 158, 3) := by decide +kernel
theorem dX11_readText_134 : decode cX11_readText 134 = .ok (.invokevirtual 194, 3) := by decide +kernel
theorem dX11_readText_137 : decode cX11_readText 137 = .ok (.iload_n 1, 1) := by decide +kernel
theorem dX11_readText_138 : decode cX11_readText 138 = .ok (.iload_n 2, 1) := by decide +kernel
theorem dX11_readText_139 : decode cX11_readText 139 = .ok (.ifCond .le 9, 3) := by decide +kernel
theorem dX11_readText_142 : decode cX11_readText 142 = .ok (.iconst 1, 1) := by decide +kernel
theorem dX11_readText_143 : decode cX11_readText 143 = .ok (.iload_n 2, 1) := by decide +kernel
theorem dX11_readText_144 : decode cX11_readText 144 = .ok (.ishl, 1) := by decide +kernel
theorem dX11_readText_145 : decode cX11_readText 145 = .ok (.goto 4, 3) := by decide +kernel
theorem dX11_readText_148 : decode cX11_readText 148 = .ok (.iconst 0, 1) := by decide +kernel
theorem dX11_readText_149 : decode cX11_readText 149 = .ok (.ior, 1) := by decide +kernel
theorem dX11_readText_150 : decode cX11_readText 150 = .ok (.istore_n 1, 1) := by decide +kernel
theorem dX11_readText_151 : decode cX11_readText 151 = .ok (.aload_n 0, 1) := by decide +kernel
theorem dX11_readText_152 : decode cX11_readText 152 = .ok (.getfield 188, 3) := by decide +kernel
theorem dX11_readText_155 : decode cX11_readText 155 = .ok (.ifCond .ne 8, 3) := by decide +kernel
theorem dX11_readText_158 : decode cX11_readText 158 = .ok (.aload_n 0, 1) := by decide +kernel
theorem dX11_readText_159 : decode cX11_readText 159 = .ok (.iload_n 2, 1) := by decide +kernel
theorem dX11_readText_160 : decode cX11_readText 160 = .ok (.invokevirtual 224, 3) := by decide +kernel
theorem dX11_readText_163 : decode cX11_readText 163 = .ok (.goto (-78), 3) := by decide +kernel
theorem dX11_readText_166 : decode cX11_readText 166 = .ok (.return_, 1) := by decide +kernel
