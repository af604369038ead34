theorem dX11_reach_0 : decode cX11_reach 0 = .ok (.aload_n 0, 1) := by decide +kernel
theorem dX11_reach_1 : decode cX11_reach 1 = .ok (.iconst 0, 1) := by decide +kernel
theorem dX11_reach_2 : decode cX11_reach 2 = .ok (.putfield 146, 3) := by decide +kernel
theorem dX11_reach_5 : decode cX11_reach 5 = .ok (.aload_n 0, 1) := by decide +kernel
theorem dX11_reach_6 : decode cX11_reach 6 = .ok (.iconst 0, 1) := by decide +kernel
theorem dX11_reach_7 : decode cX11_reach 7 = .ok (.putfield 149, 3) := by decide +kernel
theorem dX11_reach_10 : decode cX11_reach 10 = .ok (.aload_n 0, 1) := by decide +kernel
theorem dX11_reach_11 : decode cX11_reach 11 = .ok (.iload_n 1, 1) := by decide +kernel
theorem dX11_reach_12 : decode cX11_reach 12 = .ok (.invokevirtual 349, 3) := by decide +kernel
theorem dX11_reach_15 : decode cX11_reach 15 = .ok (.ifCond .ne 9, 3) := by decide +kernel
theorem dX11_reach_18 : decode cX11_reach 18 = .ok (.aload_n 0, 1) := by decide +kernel
theorem dX11_reach_19 : decode cX11_reach 19 = .ok (.iconst 1, 1) := by decide +kernel
theorem dX11_reach_20 : decode cX11_reach 20 = .ok (.invokevirtual 295, 3) := by decide +kernel
theorem dX11_reach_23 : decode cX11_reach 23 = .ok (.ireturn, 1) := by decide +kernel
theorem dX11_reach_24 : decode cX11_reach 24 = .ok (.iload_n 2, 1) := by decide +kernel
theorem dX11_reach_25 : decode cX11_reach 25 = .ok (.iconst 1, 1) := by decide +kernel
theorem dX11_reach_26 : decode cX11_reach 26 = .ok (.if_icmp .lt 9, 3) := by decide +kernel
theorem dX11_reach_29 : decode cX11_reach 29 = .ok (.iload_n 2, 1) := by decide +kernel
theorem dX11_reach_30 : decode cX11_reach 30 = .ok (.bipush 60, 2) := by decide +kernel
theorem dX11_reach_32 : decode cX11_reach 32 = .ok (.if_icmp .le 9, 3) := by decide +kernel
theorem dX11_reach_35 : decode cX11_reach 35 = .ok (.aload_n 0, 1) := by decide +kernel
theorem dX11_reach_36 : decode cX11_reach 36 = .ok (.iconst 2, 1) := by decide +kernel
theorem dX11_reach_37 : decode cX11_reach 37 = .ok (.invokevirtual 295, 3) := by decide +kernel
theorem dX11_reach_40 : decode cX11_reach 40 = .ok (.ireturn, 1) := by decide +kernel
theorem dX11_reach_41 : decode cX11_reach 41 = .ok (.aload_n 0, 1) := by decide +kernel
theorem dX11_reach_42 : decode cX11_reach 42 = .ok (.iload_n 3, 1) := by decide +kernel
theorem dX11_reach_43 : decode cX11_reach 43 = .ok (.invokevirtual 352, 3) := by decide +kernel
theorem dX11_reach_46 : decode cX11_reach 46 = .ok (.istore 4, 2) := by decide +kernel
theorem dX11_reach_48 : decode cX11_reach 48 = .ok (.iload 4, 2) := by decide +kernel
theorem dX11_reach_50 : decode cX11_reach 50 = .ok (.ifCond .le 10, 3) := by decide +kernel
theorem dX11_reach_53 : decode cX11_reach 53 = .ok (.aload_n 0, 1) := by decide +kernel
theorem dX11_reach_54 : decode cX11_reach 54 = .ok (.iload 4, 2) := by decide +kernel
theorem dX11_reach_56 : decode cX11_reach 56 = .ok (.invokevirtual 295, 3) := by decide +kernel
theorem dX11_reach_59 : decode cX11_reach 59 = .ok (.ireturn, 1) := by decide +kernel
theorem dX11_reach_60 : decode cX11_reach 60 = .ok (.aload_n 0, 1) := by decide +kernel
theorem dX11_reach_61 : decode cX11_reach 61 = .ok (.iload_n 1, 1) := by decide +kernel
theorem dX11_reach_62 : decode cX11_reach 62 = .ok (.invokevirtual 355, 3) := by decide +kernel
theorem dX11_reach_65 : decode cX11_reach 65 = .ok (.istore 5, 2) := by decide +kernel
theorem dX11_reach_67 : decode cX11_reach 67 = .ok (.iload 5, 2) := by decide +kernel
theorem dX11_reach_69 : decode cX11_reach 69 = .ok (.ifCond .ge 9, 3) := by decide +kernel
theorem dX11_reach_72 : decode cX11_reach 72 = .ok (.aload_n 0, 1) := by decide +kernel
theorem dX11_reach_73 : decode cX11_reach 73 = .ok (.iconst 5, 1) := by decide +kernel
theorem dX11_reach_74 : decode cX11_reach 74 = .ok (.invokevirtual 295, 3) := by decide +kernel
theorem dX11_reach_77 : decode cX11_reach 77 = .ok (.ireturn, 1) := by decide +kernel
theorem dX11_reach_78 : decode cX11_reach 78 = .ok (.aload_n 0, 1) := by decide +kernel
theorem dX11_reach_79 : decode cX11_reach 79 = .ok (.getfield 73, 3) := by decide +kernel
theorem dX11_reach_82 : decode cX11_reach 82 = .ok (.aload_n 0, 1) := by decide +kernel
theorem dX11_reach_83 : decode cX11_reach 83 = .ok (.getfield 97, 3) := by decide +kernel
theorem dX11_reach_86 : decode cX11_reach 86 = .ok (.iload 5, 2) := by decide +kernel
theorem dX11_reach_88 : decode cX11_reach 88 = .ok (.iaload, 1) := by decide +kernel
theorem dX11_reach_89 : decode cX11_reach 89 = .ok (.aload_n 0, 1) := by decide +kernel
theorem dX11_reach_90 : decode cX11_reach 90 = .ok (.getfield 100, 3) := by decide +kernel
theorem dX11_reach_93 : decode cX11_reach 93 = .ok (.iload 5, 2) := by decide +kernel
theorem dX11_reach_95 : decode cX11_reach 95 = .ok (.iaload, 1) := by decide +kernel
theorem dX11_reach_96 : decode cX11_reach 96 = .ok (.invokestatic 335, 3) := by decide +kernel
theorem dX11_reach_99 : decode cX11_reach 99 = .ok (.iaload, 1) := by decide +kernel
theorem dX11_reach_100 : decode cX11_reach 100 = .ok (.istore 6, 2) := by decide +kernel
theorem dX11_reach_102 : decode cX11_reach 102 = .ok (.iload_n 2, 1) := by decide +kernel
theorem dX11_reach_103 : decode cX11_reach 103 = .ok (.aload_n 0, 1) := by decide +kernel
theorem dX11_reach_104 : decode cX11_reach 104 = .ok (.getfield 109, 3) := by decide +kernel
theorem dX11_reach_107 : decode cX11_reach 107 = .ok (.iload 5, 2) := by decide +kernel
theorem dX11_reach_109 : decode cX11_reach 109 = .ok (.iaload, 1) := by decide +kernel
theorem dX11_reach_110 : decode cX11_reach 110 = .ok (.if_icmp .le 9, 3) := by decide +kernel
theorem dX11_reach_113 : decode cX11_reach 113 = .ok (.iload_n 2, 1) := by decide +kernel
theorem dX11_reach_114 : decode cX11_reach 114 = .ok (.iload 6, 2) := by decide +kernel
theorem dX11_reach_116 : decode cX11_reach 116 = .ok (.if_icmp .le 10, 3) := by decide +kernel
theorem dX11_reach_119 : decode cX11_reach 119 = .ok (.aload_n 0, 1) := by decide +kernel
theorem dX11_reach_120 : decode cX11_reach 120 = .ok (.bipush 10, 2) := by decide +kernel
theorem dX11_reach_122 : decode cX11_reach 122 = .ok (.invokevirtual 295, 3) := by decide +kernel
theorem dX11_reach_125 : decode cX11_reach 125 = .ok (.ireturn, 1) := by decide +kernel
theorem dX11_reach_126 : decode cX11_reach 126 = .ok (.aload_n 0, 1) := by decide +kernel
theorem dX11_reach_127 : decode cX11_reach 127 = .ok (.getfield 109, 3) := by decide +kernel
theorem dX11_reach_130 : decode cX11_reach 130 = .ok (.iload 5, 2) := by decide +kernel
theorem dX11_reach_132 : decode cX11_reach 132 = .ok (.iload_n 2, 1) := by decide +kernel
theorem dX11_reach_133 : decode cX11_reach 133 = .ok (.iastore, 1) := by decide +kernel
theorem dX11_reach_134 : decode cX11_reach 134 = .ok (.iload_n 2, 1) := by decide +kernel
theorem dX11_reach_135 : decode cX11_reach 135 = .ok (.iload 6, 2) := by decide +kernel
theorem dX11_reach_137 : decode cX11_reach 137 = .ok (.if_icmp .ge 5, 3) := by decide +kernel
theorem dX11_reach_140 : decode cX11_reach 140 = .ok (.iconst 0, 1) := by decide +kernel
theorem dX11_reach_141 : decode cX11_reach 141 = .ok (.ireturn, 1) := by decide +kernel
theorem dX11_reach_142 : decode cX11_reach 142 = .ok (.aload_n 0, 1) := by decide +kernel
theorem dX11_reach_143 : decode cX11_reach 143 = .ok (.getfield 112, 3) := by decide +kernel
theorem dX11_reach_146 : decode cX11_reach 146 = .ok (.iload 5, 2) := by decide +kernel
theorem dX11_reach_148 : decode cX11_reach 148 = .ok (.iconst 1, 1) := by decide +kernel
theorem dX11_reach_149 : decode cX11_reach 149 = .ok (.iastore, 1) := by decide +kernel
theorem dX11_reach_150 : decode cX11_reach 150 = .ok (.aload_n 0, 1) := by decide +kernel
theorem dX11_reach_151 : decode cX11_reach 151 = .ok (.getfield 106, 3) := by decide +kernel
theorem dX11_reach_154 : decode cX11_reach 154 = .ok (.iload 5, 2) := by decide +kernel
theorem dX11_reach_156 : decode cX11_reach 156 = .ok (.iload_n 3, 1) := by decide +kernel
theorem dX11_reach_157 : decode cX11_reach 157 = .ok (.iastore, 1) := by decide +kernel
theorem dX11_reach_158 : decode cX11_reach 158 = .ok (.iconst 1, 1) := by decide +kernel
theorem dX11_reach_159 : decode cX11_reach 159 = .ok (.ireturn, 1) := by decide +kernel
theorem dX11_fall_0 : decode cX11_fall 0 = .ok (.aload_n 0, 1) := by decide +kernel
theorem dX11_fall_1 : decode cX11_fall 1 = .ok (.iconst 0, 1) := by decide +kernel
theorem dX11_fall_2 : decode cX11_fall 2 = .ok (.putfield 146, 3) := by decide +kernel
theorem dX11_fall_5 : decode cX11_fall 5 = .ok (.aload_n 0, 1) := by decide +kernel
theorem dX11_fall_6 : decode cX11_fall 6 = .ok (.iconst 0, 1) := by decide +kernel
theorem dX11_fall_7 : decode cX11_fall 7 = .ok (.putfield 149, 3) := by decide +kernel
theorem dX11_fall_10 : decode cX11_fall 10 = .ok (.aload_n 0, 1) := by decide +kernel
theorem dX11_fall_11 : decode cX11_fall 11 = .ok (.iload_n 1, 1) := by decide +kernel
theorem dX11_fall_12 : decode cX11_fall 12 = .ok (.invokevirtual 349, 3) := by decide +kernel
theorem dX11_fall_15 : decode cX11_fall 15 = .ok (.ifCond .ne 9, 3) := by decide +kernel
theorem dX11_fall_18 : decode cX11_fall 18 = .ok (.aload_n 0, 1) := by decide +kernel
theorem dX11_fall_19 : decode cX11_fall 19 = .ok (.iconst 1, 1) := by decide +kernel
theorem dX11_fall_20 : decode cX11_fall 20 = .ok (.invokevirtual 332, 3) := by decide +kernel
theorem dX11_fall_23 : decode cX11_fall 23 = .ok (.ireturn, 1) := by decide +kernel
theorem dX11_fall_24 : decode cX11_fall 24 = .ok (.aload_n 0, 1) := by decide +kernel
theorem dX11_fall_25 : decode cX11_fall 25 = .ok (.iload_n 2, 1) := by decide +kernel
theorem dX11_fall_26 : decode cX11_fall 26 = .ok (.invokevirtual 352, 3) := by decide +kernel
theorem dX11_fall_29 : decode cX11_fall 29 = .ok (.istore 4, 2) := by decide +kernel
theorem dX11_fall_31 : decode cX11_fall 31 = .ok (.iload 4, 2) := by decide +kernel
theorem dX11_fall_33 : decode cX11_fall 33 = .ok (.ifCond .le 10, 3) := by decide +kernel
theorem dX11_fall_36 : decode cX11_fall 36 = .ok (.aload_n 0, 1) := by decide +kernel
theorem dX11_fall_37 : decode cX11_fall 37 = .ok (.iload 4, 2) := by decide +kernel
theorem dX11_fall_39 : decode cX11_fall 39 = .ok (.invokevirtual 332, 3) := by decide +kernel
theorem dX11_fall_42 : decode cX11_fall 42 = .ok (.ireturn, 1) := by decide +kernel
theorem dX11_fall_43 : decode cX11_fall 43 = .ok (.aload_n 0, 1) := by decide +kernel
theorem dX11_fall_44 : decode cX11_fall 44 = .ok (.iload_n 1, 1) := by decide +kernel
theorem dX11_fall_45 : decode cX11_fall 45 = .ok (.invokevirtual 355, 3) := by decide +kernel
theorem dX11_fall_48 : decode cX11_fall 48 = .ok (.istore 5, 2) := by decide +kernel
theorem dX11_fall_50 : decode cX11_fall 50 = .ok (.iload 5, 2) := by decide +kernel
theorem dX11_fall_52 : decode cX11_fall 52 = .ok (.ifCond .ge 9, 3) := by decide +kernel
theorem dX11_fall_55 : decode cX11_fall 55 = .ok (.aload_n 0, 1) := by decide +kernel
theorem dX11_fall_56 : decode cX11_fall 56 = .ok (.iconst 5, 1) := by decide +kernel
theorem dX11_fall_57 : decode cX11_fall 57 = .ok (.invokevirtual 332, 3) := by decide +kernel
theorem dX11_fall_60 : decode cX11_fall 60 = .ok (.ireturn, 1) := by decide +kernel
theorem dX11_fall_61 : decode cX11_fall 61 = .ok (.aload_n 0, 1) := by decide +kernel
theorem dX11_fall_62 : decode cX11_fall 62 = .ok (.getfield 112, 3) := by decide +kernel
theorem dX11_fall_65 : decode cX11_fall 65 = .ok (.iload 5, 2) := by decide +kernel
theorem dX11_fall_67 : decode cX11_fall 67 = .ok (.iload_n 3, 1) := by decide +kernel
theorem dX11_fall_68 : decode cX11_fall 68 = .ok (.ifCond .eq 7, 3) := by decide +kernel
theorem dX11_fall_71 : decode cX11_fall 71 = .ok (.iconst 4, 1) := by decide +kernel
theorem dX11_fall_72 : decode cX11_fall 72 = .ok (.goto 4, 3) := by decide +kernel
theorem dX11_fall_75 : decode cX11_fall 75 = .ok (.iconst 2, 1) := by decide +kernel
theorem dX11_fall_76 : decode cX11_fall 76 = .ok (.iastore, 1) := by decide +kernel
theorem dX11_fall_77 : decode cX11_fall 77 = .ok (.aload_n 0, 1) := by decide +kernel
theorem dX11_fall_78 : decode cX11_fall 78 = .ok (.getfield 106, 3) := by decide +kernel
theorem dX11_fall_81 : decode cX11_fall 81 = .ok (.iload 5, 2) := by decide +kernel
theorem dX11_fall_83 : decode cX11_fall 83 = .ok (.iload_n 2, 1) := by decide +kernel
theorem dX11_fall_84 : decode cX11_fall 84 = .ok (.iastore, 1) := by decide +kernel
theorem dX11_fall_85 : decode cX11_fall 85 = .ok (.iconst 1, 1) := by decide +kernel
theorem dX11_fall_86 : decode cX11_fall 86 = .ok (.ireturn, 1) := by decide +kernel
theorem dX11_out_0 : decode cX11_out 0 = .ok (.aload_n 0, 1) := by decide +kernel
theorem dX11_out_1 : decode cX11_out 1 = .ok (.iconst 0, 1) := by decide +kernel
theorem dX11_out_2 : decode cX11_out 2 = .ok (.putfield 146, 3) := by decide +kernel
theorem dX11_out_5 : decode cX11_out 5 = .ok (.aload_n 0, 1) := by decide +kernel
theorem dX11_out_6 : decode cX11_out 6 = .ok (.iconst 0, 1) := by decide +kernel
theorem dX11_out_7 : decode cX11_out 7 = .ok (.putfield 149, 3) := by decide +kernel
theorem dX11_out_10 : decode cX11_out 10 = .ok (.aload_n 0, 1) := by decide +kernel
theorem dX11_out_11 : decode cX11_out 11 = .ok (.iload_n 1, 1) := by decide +kernel
theorem dX11_out_12 : decode cX11_out 12 = .ok (.invokevirtual 349, 3) := by decide +kernel
theorem dX11_out_15 : decode cX11_out 15 = .ok (.ifCond .ne 9, 3) := by decide +kernel
theorem dX11_out_18 : decode cX11_out 18 = .ok (.aload_n 0, 1) := by decide +kernel
theorem dX11_out_19 : decode cX11_out 19 = .ok (.iconst 1, 1) := by decide +kernel
theorem dX11_out_20 : decode cX11_out 20 = .ok (.invokevirtual 332, 3) := by decide +kernel
theorem dX11_out_23 : decode cX11_out 23 = .ok (.ireturn, 1) := by decide +kernel
theorem dX11_out_24 : decode cX11_out 24 = .ok (.aload_n 0, 1) := by decide +kernel
theorem dX11_out_25 : decode cX11_out 25 = .ok (.iload_n 2, 1) := by decide +kernel
theorem dX11_out_26 : decode cX11_out 26 = .ok (.invokevirtual 352, 3) := by decide +kernel
theorem dX11_out_29 : decode cX11_out 29 = .ok (.istore 4, 2) := by decide +kernel
theorem dX11_out_31 : decode cX11_out 31 = .ok (.iload 4, 2) := by decide +kernel
theorem dX11_out_33 : decode cX11_out 33 = .ok (.ifCond .le 10, 3) := by decide +kernel
theorem dX11_out_36 : decode cX11_out 36 = .ok (.aload_n 0, 1) := by decide +kernel
theorem dX11_out_37 : decode cX11_out 37 = .ok (.iload 4, 2) := by decide +kernel
theorem dX11_out_39 : decode cX11_out 39 = .ok (.invokevirtual 332, 3) := by decide +kernel
theorem dX11_out_42 : decode cX11_out 42 = .ok (.ireturn, 1) := by decide +kernel
theorem dX11_out_43 : decode cX11_out 43 = .ok (.aload_n 0, 1) := by decide +kernel
theorem dX11_out_44 : decode cX11_out 44 = .ok (.getfield 124, 3) := by decide +kernel
theorem dX11_out_47 : decode cX11_out 47 = .ok (.iload_n 1, 1) := by decide +kernel
theorem dX11_out_48 : decode cX11_out 48 = .ok (.iaload, 1) := by decide +kernel
theorem dX11_out_49 : decode cX11_out 49 = .ok (.istore 5, 2) := by decide +kernel
theorem dX11_out_51 : decode cX11_out 51 = .ok (.iload 5, 2) := by decide +kernel
theorem dX11_out_53 : decode cX11_out 53 = .ok (.ifCond .le 24, 3) := by decide +kernel
theorem dX11_out_56 : decode cX11_out 56 = .ok (.aload_n 0, 1) := by decide +kernel
theorem dX11_out_57 : decode cX11_out 57 = .ok (.getfield 130, 3) := by decide +kernel
theorem dX11_out_60 : decode cX11_out 60 = .ok (.bipush 20, 2) := by decide +kernel
theorem dX11_out_62 : decode cX11_out 62 = .ok (.iload_n 1, 1) := by decide +kernel
theorem dX11_out_63 : decode cX11_out 63 = .ok (.imul, 1) := by decide +kernel
theorem dX11_out_64 : decode cX11_out 64 = .ok (.iload 5, 2) := by decide +kernel
theorem dX11_out_66 : decode cX11_out 66 = .ok (.iadd, 1) := by decide +kernel
theorem dX11_out_67 : decode cX11_out 67 = .ok (.iconst 1, 1) := by decide +kernel
theorem dX11_out_68 : decode cX11_out 68 = .ok (.isub, 1) := by decide +kernel
theorem dX11_out_69 : decode cX11_out 69 = .ok (.iaload, 1) := by decide +kernel
theorem dX11_out_70 : decode cX11_out 70 = .ok (.ifCond .ge 7, 3) := by decide +kernel
theorem dX11_out_73 : decode cX11_out 73 = .ok (.iconst 1, 1) := by decide +kernel
theorem dX11_out_74 : decode cX11_out 74 = .ok (.goto 4, 3) := by decide +kernel
theorem dX11_out_77 : decode cX11_out 77 = .ok (.iconst 0, 1) := by decide +kernel
theorem dX11_out_78 : decode cX11_out 78 = .ok (.istore 6, 2) := by decide +kernel
theorem dX11_out_80 : decode cX11_out 80 = .ok (.iload 6, 2) := by decide +kernel
theorem dX11_out_82 : decode cX11_out 82 = .ok (.iload_n 3, 1) := by decide +kernel
theorem dX11_out_83 : decode cX11_out 83 = .ok (.if_icmp .ne 10, 3) := by decide +kernel
theorem dX11_out_86 : decode cX11_out 86 = .ok (.aload_n 0, 1) := by decide +kernel
theorem dX11_out_87 : decode cX11_out 87 = .ok (.bipush 10, 2) := by decide +kernel
theorem dX11_out_89 : decode cX11_out 89 = .ok (.invokevirtual 332, 3) := by decide +kernel
theorem dX11_out_92 : decode cX11_out 92 = .ok (.ireturn, 1) := by decide +kernel
theorem dX11_out_93 : decode cX11_out 93 = .ok (.iload_n 3, 1) := by decide +kernel
theorem dX11_out_94 : decode cX11_out 94 = .ok (.ifCond .eq 16, 3) := by decide +kernel
theorem dX11_out_97 : decode cX11_out 97 = .ok (.iload 5, 2) := by decide +kernel
theorem dX11_out_99 : decode cX11_out 99 = .ok (.bipush 20, 2) := by decide +kernel
theorem dX11_out_101 : decode cX11_out 101 = .ok (.if_icmp .ne 9, 3) := by decide +kernel
theorem dX11_out_104 : decode cX11_out 104 = .ok (.aload_n 0, 1) := by decide +kernel
theorem dX11_out_105 : decode cX11_out 105 = .ok (.iconst 3, 1) := by decide +kernel
theorem dX11_out_106 : decode cX11_out 106 = .ok (.invokevirtual 332, 3) := by decide +kernel
theorem dX11_out_109 : decode cX11_out 109 = .ok (.ireturn, 1) := by decide +kernel
theorem dX11_out_110 : decode cX11_out 110 = .ok (.iload_n 3, 1) := by decide +kernel
theorem dX11_out_111 : decode cX11_out 111 = .ok (.ifCond .eq 42, 3) := by decide +kernel
theorem dX11_out_114 : decode cX11_out 114 = .ok (.aload_n 0, 1) := by decide +kernel
theorem dX11_out_115 : decode cX11_out 115 = .ok (.getfield 127, 3) := by decide +kernel
theorem dX11_out_118 : decode cX11_out 118 = .ok (.bipush 20, 2) := by decide +kernel
theorem dX11_out_120 : decode cX11_out 120 = .ok (.iload_n 1, 1) := by decide +kernel
theorem dX11_out_121 : decode cX11_out 121 = .ok (.imul, 1) := by decide +kernel
theorem dX11_out_122 : decode cX11_out 122 = .ok (.iload 5, 2) := by decide +kernel
theorem dX11_out_124 : decode cX11_out 124 = .ok (.iadd, 1) := by decide +kernel
theorem dX11_out_125 : decode cX11_out 125 = .ok (.iload_n 2, 1) := by decide +kernel
theorem dX11_out_126 : decode cX11_out 126 = .ok (.iastore, 1) := by decide +kernel
theorem dX11_out_127 : decode cX11_out 127 = .ok (.aload_n 0, 1) := by decide +kernel
theorem dX11_out_128 : decode cX11_out 128 = .ok (.getfield 130, 3) := by decide +kernel
theorem dX11_out_131 : decode cX11_out 131 = .ok (.bipush 20, 2) := by decide +kernel
theorem dX11_out_133 : decode cX11_out 133 = .ok (.iload_n 1, 1) := by decide +kernel
theorem dX11_out_134 : decode cX11_out 134 = .ok (.imul, 1) := by decide +kernel
theorem dX11_out_135 : decode cX11_out 135 = .ok (.iload 5, 2) := by decide +kernel
theorem dX11_out_137 : decode cX11_out 137 = .ok (.iadd, 1) := by decide +kernel
theorem dX11_out_138 : decode cX11_out 138 = .ok (.iconst (-1), 1) := by decide +kernel
theorem dX11_out_139 : decode cX11_out 139 = .ok (.iastore, 1) := by decide +kernel
theorem dX11_out_140 : decode cX11_out 140 = .ok (.aload_n 0, 1) := by decide +kernel
theorem dX11_out_141 : decode cX11_out 141 = .ok (.getfield 124, 3) := by decide +kernel
theorem dX11_out_144 : decode cX11_out 144 = .ok (.iload_n 1, 1) := by decide +kernel
theorem dX11_out_145 : decode cX11_out 145 = .ok (.dup2, 1) := by decide +kernel
theorem dX11_out_146 : decode cX11_out 146 = .ok (.iaload, 1) := by decide +kernel
theorem dX11_out_147 : decode cX11_out 147 = .ok (.iconst 1, 1) := by decide +kernel
theorem dX11_out_148 : decode cX11_out 148 = .ok (.iadd, 1) := by decide +kernel
theorem dX11_out_149 : decode cX11_out 149 = .ok (.iastore, 1) := by decide +kernel
theorem dX11_out_150 : decode cX11_out 150 = .ok (.goto 18, 3) := by decide +kernel
theorem dX11_out_153 : decode cX11_out 153 = .ok (.aload_n 0, 1) := by decide +kernel
theorem dX11_out_154 : decode cX11_out 154 = .ok (.getfield 130, 3) := by decide +kernel
theorem dX11_out_157 : decode cX11_out 157 = .ok (.bipush 20, 2) := by decide +kernel
theorem dX11_out_159 : decode cX11_out 159 = .ok (.iload_n 1, 1) := by decide +kernel
theorem dX11_out_160 : decode cX11_out 160 = .ok (.imul, 1) := by decide +kernel
theorem dX11_out_161 : decode cX11_out 161 = .ok (.iload 5, 2) := by decide +kernel
theorem dX11_out_163 : decode cX11_out 163 = .ok (.iadd, 1) := by decide +kernel
theorem dX11_out_164 : decode cX11_out 164 = .ok (.iconst 1, 1) := by decide +kernel
theorem dX11_out_165 : decode cX11_out 165 = .ok (.isub, 1) := by decide +kernel
theorem dX11_out_166 : decode cX11_out 166 = .ok (.iload_n 2, 1) := by decide +kernel
theorem dX11_out_167 : decode cX11_out 167 = .ok (.iastore, 1) := by decide +kernel
theorem dX11_out_168 : decode cX11_out 168 = .ok (.iconst 1, 1) := by decide +kernel
theorem dX11_out_169 : decode cX11_out 169 = .ok (.ireturn, 1) := by decide +kernel
theorem dX11_clock_0 : decode cX11_clock 0 = .ok (.aload_n 0, 1) := by decide +kernel
theorem dX11_clock_1 : decode cX11_clock 1 = .ok (.iconst 0, 1) := by decide +kernel
theorem dX11_clock_2 : decode cX11_clock 2 = .ok (.putfield 146, 3) := by decide +kernel
theorem dX11_clock_5 : decode cX11_clock 5 = .ok (.aload_n 0, 1) := by decide +kernel
theorem dX11_clock_6 : decode cX11_clock 6 = .ok (.aload_n 0, 1) := by decide +kernel
theorem dX11_clock_7 : decode cX11_clock 7 = .ok (.iload_n 1, 1) := by decide +kernel
theorem dX11_clock_8 : decode cX11_clock 8 = .ok (.invokevirtual 352, 3) := by decide +kernel
theorem dX11_clock_11 : decode cX11_clock 11 = .ok (.putfield 149, 3) := by decide +kernel
theorem dX11_clock_14 : decode cX11_clock 14 = .ok (.aload_n 0, 1) := by decide +kernel
theorem dX11_clock_15 : decode cX11_clock 15 = .ok (.getfield 149, 3) := by decide +kernel
theorem dX11_clock_18 : decode cX11_clock 18 = .ok (.ifCond .ne 7, 3) := by decide +kernel
theorem dX11_clock_21 : decode cX11_clock 21 = .ok (.iconst 1, 1) := by decide +kernel
theorem dX11_clock_22 : decode cX11_clock 22 = .ok (.goto 4, 3) := by decide +kernel
theorem dX11_clock_25 : decode cX11_clock 25 = .ok (.iconst 0, 1) := by decide +kernel
theorem dX11_clock_26 : decode cX11_clock 26 = .ok (.ireturn, 1) := by decide +kernel
theorem dX11_now_0 : decode cX11_now 0 = .ok (.aload_n 0, 1) := by decide +kernel
theorem dX11_now_1 : decode cX11_now 1 = .ok (.iconst 0, 1) := by decide +kernel
theorem dX11_now_2 : decode cX11_now 2 = .ok (.putfield 146, 3) := by decide +kernel
theorem dX11_now_5 : decode cX11_now 5 = .ok (.aload_n 0, 1) := by decide +kernel
theorem dX11_now_6 : decode cX11_now 6 = .ok (.iconst 0, 1) := by decide +kernel
theorem dX11_now_7 : decode cX11_now 7 = .ok (.putfield 149, 3) := by decide +kernel
theorem dX11_now_10 : decode cX11_now 10 = .ok (.aload_n 0, 1) := by decide +kernel
theorem dX11_now_11 : decode cX11_now 11 = .ok (.getfield 316, 3) := by decide +kernel
theorem dX11_now_14 : decode cX11_now 14 = .ok (.ireturn, 1) := by decide +kernel
theorem dX11_tried_0 : decode cX11_tried 0 = .ok (.aload_n 0, 1) := by decide +kernel
theorem dX11_tried_1 : decode cX11_tried 1 = .ok (.iconst 0, 1) := by decide +kernel
theorem dX11_tried_2 : decode cX11_tried 2 = .ok (.putfield 146, 3) := by decide +kernel
theorem dX11_tried_5 : decode cX11_tried 5 = .ok (.aload_n 0, 1) := by decide +kernel
theorem dX11_tried_6 : decode cX11_tried 6 = .ok (.iconst 0, 1) := by decide +kernel
theorem dX11_tried_7 : decode cX11_tried 7 = .ok (.putfield 149, 3) := by decide +kernel
theorem dX11_tried_10 : decode cX11_tried 10 = .ok (.iload_n 1, 1) := by decide +kernel
theorem dX11_tried_11 : decode cX11_tried 11 = .ok (.ifCond .lt 11, 3) := by decide +kernel
theorem dX11_tried_14 : decode cX11_tried 14 = .ok (.iload_n 1, 1) := by decide +kernel
theorem dX11_tried_15 : decode cX11_tried 15 = .ok (.aload_n 0, 1) := by decide +kernel
theorem dX11_tried_16 : decode cX11_tried 16 = .ok (.getfield 319, 3) := by decide +kernel
theorem dX11_tried_19 : decode cX11_tried 19 = .ok (.if_icmp .lt 9, 3) := by decide +kernel
theorem dX11_tried_22 : decode cX11_tried 22 = .ok (.aload_n 0, 1) := by decide +kernel
theorem dX11_tried_23 : decode cX11_tried 23 = .ok (.iconst 1, 1) := by decide +kernel
theorem dX11_tried_24 : decode cX11_tried 24 = .ok (.invokevirtual 295, 3) := by decide +kernel
theorem dX11_tried_27 : decode cX11_tried 27 = .ok (.ireturn, 1) := by decide +kernel
theorem dX11_tried_28 : decode cX11_tried 28 = .ok (.iload_n 2, 1) := by decide +kernel
theorem dX11_tried_29 : decode cX11_tried 29 = .ok (.tableswitch 92 0 6 #[43, 50, 57, 64, 71, 78, 85], 43) := by decide +kernel
theorem dX11_tried_72 : decode cX11_tried 72 = .ok (.aload_n 0, 1) := by decide +kernel
theorem dX11_tried_73 : decode cX11_tried 73 = .ok (.getfield 94, 3) := by decide +kernel
theorem dX11_tried_76 : decode cX11_tried 76 = .ok (.iload_n 1, 1) := by decide +kernel
theorem dX11_tried_77 : decode cX11_tried 77 = .ok (.iaload, 1) := by decide +kernel
theorem dX11_tried_78 : decode cX11_tried 78 = .ok (.ireturn, 1) := by decide +kernel
theorem dX11_tried_79 : decode cX11_tried 79 = .ok (.aload_n 0, 1) := by decide +kernel
theorem dX11_tried_80 : decode cX11_tried 80 = .ok (.getfield 97, 3) := by decide +kernel
theorem dX11_tried_83 : decode cX11_tried 83 = .ok (.iload_n 1, 1) := by decide +kernel
theorem dX11_tried_84 : decode cX11_tried 84 = .ok (.iaload, 1) := by decide +kernel
theorem dX11_tried_85 : decode cX11_tried 85 = .ok (.ireturn, 1) := by decide +kernel
theorem dX11_tried_86 : decode cX11_tried 86 = .ok (.aload_n 0, 1) := by decide +kernel
theorem dX11_tried_87 : decode cX11_tried 87 = .ok (.getfield 100, 3) := by decide +kernel
theorem dX11_tried_90 : decode cX11_tried 90 = .ok (.iload_n 1, 1) := by decide +kernel
theorem dX11_tried_91 : decode cX11_tried 91 = .ok (.iaload, 1) := by decide +kernel
theorem dX11_tried_92 : decode cX11_tried 92 = .ok (.ireturn, 1) := by decide +kernel
theorem dX11_tried_93 : decode cX11_tried 93 = .ok (.aload_n 0, 1) := by decide +kernel
theorem dX11_tried_94 : decode cX11_tried 94 = .ok (.getfield 103, 3) := by decide +kernel
theorem dX11_tried_97 : decode cX11_tried 97 = .ok (.iload_n 1, 1) := by decide +kernel
theorem dX11_tried_98 : decode cX11_tried 98 = .ok (.iaload, 1) := by decide +kernel
theorem dX11_tried_99 : decode cX11_tried 99 = .ok (.ireturn, 1) := by decide +kernel
theorem dX11_tried_100 : decode cX11_tried 100 = .ok (.aload_n 0, 1) := by decide +kernel
theorem dX11_tried_101 : decode cX11_tried 101 = .ok (.getfield 106, 3) := by decide +kernel
theorem dX11_tried_104 : decode cX11_tried 104 = .ok (.iload_n 1, 1) := by decide +kernel
theorem dX11_tried_105 : decode cX11_tried 105 = .ok (.iaload, 1) := by decide +kernel
theorem dX11_tried_106 : decode cX11_tried 106 = .ok (.ireturn, 1) := by decide +kernel
theorem dX11_tried_107 : decode cX11_tried 107 = .ok (.aload_n 0, 1) := by decide +kernel
theorem dX11_tried_108 : decode cX11_tried 108 = .ok (.getfield 109, 3) := by decide +kernel
theorem dX11_tried_111 : decode cX11_tried 111 = .ok (.iload_n 1, 1) := by decide +kernel
theorem dX11_tried_112 : decode cX11_tried 112 = .ok (.iaload, 1) := by decide +kernel
theorem dX11_tried_113 : decode cX11_tried 113 = .ok (.ireturn, 1) := by decide +kernel
theorem dX11_tried_114 : decode cX11_tried 114 = .ok (.aload_n 0, 1) := by decide +kernel
theorem dX11_tried_115 : decode cX11_tried 115 = .ok (.getfield 112, 3) := by decide +kernel
theorem dX11_tried_118 : decode cX11_tried 118 = .ok (.iload_n 1, 1) := by decide +kernel
theorem dX11_tried_119 : decode cX11_tried 119 = .ok (.iaload, 1) := by decide +kernel
theorem dX11_tried_120 : decode cX11_tried 120 = .ok (.ireturn, 1) := by decide +kernel
theorem dX11_tried_121 : decode cX11_tried 121 = .ok (.aload_n 0, 1) := by decide +kernel
theorem dX11_tried_122 : decode cX11_tried 122 = .ok (.iconst 2, 1) := by decide +kernel
theorem dX11_tried_123 : decode cX11_tried 123 = .ok (.invokevirtual 295, 3) := by decide +kernel
theorem dX11_tried_126 : decode cX11_tried 126 = .ok (.ireturn, 1) := by decide +kernel
theorem dX11_seen_0 : decode cX11_seen 0 = .ok (.aload_n 0, 1) := by decide +kernel
theorem dX11_seen_1 : decode cX11_seen 1 = .ok (.iconst 0, 1) := by decide +kernel
theorem dX11_seen_2 : decode cX11_seen 2 = .ok (.putfield 146, 3) := by decide +kernel
theorem dX11_seen_5 : decode cX11_seen 5 = .ok (.aload_n 0, 1) := by decide +kernel
theorem dX11_seen_6 : decode cX11_seen 6 = .ok (.iconst 0, 1) := by decide +kernel
theorem dX11_seen_7 : decode cX11_seen 7 = .ok (.putfield 149, 3) := by decide +kernel
theorem dX11_seen_10 : decode cX11_seen 10 = .ok (.aload_n 0, 1) := by decide +kernel
theorem dX11_seen_11 : decode cX11_seen 11 = .ok (.iload_n 1, 1) := by decide +kernel
theorem dX11_seen_12 : decode cX11_seen 12 = .ok (.invokevirtual 349, 3) := by decide +kernel
theorem dX11_seen_15 : decode cX11_seen 15 = .ok (.ifCond .eq 22, 3) := by decide +kernel
theorem dX11_seen_18 : decode cX11_seen 18 = .ok (.aload_n 0, 1) := by decide +kernel
theorem dX11_seen_19 : decode cX11_seen 19 = .ok (.getfield 82, 3) := by decide +kernel
theorem dX11_seen_22 : decode cX11_seen 22 = .ok (.ifCond .lt 15, 3) := by decide +kernel
theorem dX11_seen_25 : decode cX11_seen 25 = .ok (.aload_n 0, 1) := by decide +kernel
theorem dX11_seen_26 : decode cX11_seen 26 = .ok (.aload_n 0, 1) := by decide +kernel
theorem dX11_seen_27 : decode cX11_seen 27 = .ok (.getfield 82, 3) := by decide +kernel
theorem dX11_seen_30 : decode cX11_seen 30 = .ok (.iload_n 2, 1) := by decide +kernel
theorem dX11_seen_31 : decode cX11_seen 31 = .ok (.invokevirtual 328, 3) := by decide +kernel
theorem dX11_seen_34 : decode cX11_seen 34 = .ok (.ifCond .ne 9, 3) := by decide +kernel
theorem dX11_seen_37 : decode cX11_seen 37 = .ok (.aload_n 0, 1) := by decide +kernel
theorem dX11_seen_38 : decode cX11_seen 38 = .ok (.iconst 1, 1) := by decide +kernel
theorem dX11_seen_39 : decode cX11_seen 39 = .ok (.invokevirtual 295, 3) := by decide +kernel
theorem dX11_seen_42 : decode cX11_seen 42 = .ok (.ireturn, 1) := by decide +kernel
theorem dX11_seen_43 : decode cX11_seen 43 = .ok (.aload_n 0, 1) := by decide +kernel
theorem dX11_seen_44 : decode cX11_seen 44 = .ok (.iload_n 1, 1) := by decide +kernel
theorem dX11_seen_45 : decode cX11_seen 45 = .ok (.iload_n 2, 1) := by decide +kernel
theorem dX11_seen_46 : decode cX11_seen 46 = .ok (.invokevirtual 358, 3) := by decide +kernel
theorem dX11_seen_49 : decode cX11_seen 49 = .ok (.ifCond .eq 7, 3) := by decide +kernel
theorem dX11_seen_52 : decode cX11_seen 52 = .ok (.iconst 1, 1) := by decide +kernel
theorem dX11_seen_53 : decode cX11_seen 53 = .ok (.goto 4, 3) := by decide +kernel
theorem dX11_seen_56 : decode cX11_seen 56 = .ok (.iconst 0, 1) := by decide +kernel
theorem dX11_seen_57 : decode cX11_seen 57 = .ok (.ireturn, 1) := by decide +kernel
theorem dX11_ready_0 : decode cX11_ready 0 = .ok (.aload_n 0, 1) := by decide +kernel
theorem dX11_ready_1 : decode cX11_ready 1 = .ok (.iconst 0, 1) := by decide +kernel
theorem dX11_ready_2 : decode cX11_ready 2 = .ok (.putfield 146, 3) := by decide +kernel
theorem dX11_ready_5 : decode cX11_ready 5 = .ok (.aload_n 0, 1) := by decide +kernel
theorem dX11_ready_6 : decode cX11_ready 6 = .ok (.iconst 0, 1) := by decide +kernel
theorem dX11_ready_7 : decode cX11_ready 7 = .ok (.putfield 149, 3) := by decide +kernel
theorem dX11_ready_10 : decode cX11_ready 10 = .ok (.aload_n 0, 1) := by decide +kernel
theorem dX11_ready_11 : decode cX11_ready 11 = .ok (.iload_n 1, 1) := by decide +kernel
theorem dX11_ready_12 : decode cX11_ready 12 = .ok (.invokevirtual 349, 3) := by decide +kernel
theorem dX11_ready_15 : decode cX11_ready 15 = .ok (.ifCond .ne 9, 3) := by decide +kernel
theorem dX11_ready_18 : decode cX11_ready 18 = .ok (.aload_n 0, 1) := by decide +kernel
theorem dX11_ready_19 : decode cX11_ready 19 = .ok (.iconst 1, 1) := by decide +kernel
theorem dX11_ready_20 : decode cX11_ready 20 = .ok (.invokevirtual 295, 3) := by decide +kernel
theorem dX11_ready_23 : decode cX11_ready 23 = .ok (.ireturn, 1) := by decide +kernel
theorem dX11_ready_24 : decode cX11_ready 24 = .ok (.aload_n 0, 1) := by decide +kernel
theorem dX11_ready_25 : decode cX11_ready 25 = .ok (.iload_n 1, 1) := by decide +kernel
theorem dX11_ready_26 : decode cX11_ready 26 = .ok (.invokevirtual 355, 3) := by decide +kernel
theorem dX11_ready_29 : decode cX11_ready 29 = .ok (.ifCond .lt 9, 3) := by decide +kernel
theorem dX11_ready_32 : decode cX11_ready 32 = .ok (.aload_n 0, 1) := by decide +kernel
theorem dX11_ready_33 : decode cX11_ready 33 = .ok (.iconst 5, 1) := by decide +kernel
theorem dX11_ready_34 : decode cX11_ready 34 = .ok (.invokevirtual 295, 3) := by decide +kernel
theorem dX11_ready_37 : decode cX11_ready 37 = .ok (.ireturn, 1) := by decide +kernel
theorem dX11_ready_38 : decode cX11_ready 38 = .ok (.aload_n 0, 1) := by decide +kernel
theorem dX11_ready_39 : decode cX11_ready 39 = .ok (.getfield 316, 3) := by decide +kernel
theorem dX11_ready_42 : decode cX11_ready 42 = .ok (.aload_n 0, 1) := by decide +kernel
theorem dX11_ready_43 : decode cX11_ready 43 = .ok (.iload_n 1, 1) := by decide +kernel
theorem dX11_ready_44 : decode cX11_ready 44 = .ok (.invokevirtual 361, 3) := by decide +kernel
theorem dX11_ready_47 : decode cX11_ready 47 = .ok (.invokestatic 341, 3) := by decide +kernel
theorem dX11_ready_50 : decode cX11_ready 50 = .ok (.ireturn, 1) := by decide +kernel
theorem dX11_appeal_0 : decode cX11_appeal 0 = .ok (.aload_n 0, 1) := by decide +kernel
theorem dX11_appeal_1 : decode cX11_appeal 1 = .ok (.iconst 0, 1) := by decide +kernel
theorem dX11_appeal_2 : decode cX11_appeal 2 = .ok (.putfield 146, 3) := by decide +kernel
theorem dX11_appeal_5 : decode cX11_appeal 5 = .ok (.aload_n 0, 1) := by decide +kernel
theorem dX11_appeal_6 : decode cX11_appeal 6 = .ok (.iconst 0, 1) := by decide +kernel
theorem dX11_appeal_7 : decode cX11_appeal 7 = .ok (.putfield 149, 3) := by decide +kernel
theorem dX11_appeal_10 : decode cX11_appeal 10 = .ok (.iload_n 1, 1) := by decide +kernel
theorem dX11_appeal_11 : decode cX11_appeal 11 = .ok (.ifCond .lt 11, 3) := by decide +kernel
theorem dX11_appeal_14 : decode cX11_appeal 14 = .ok (.iload_n 1, 1) := by decide +kernel
theorem dX11_appeal_15 : decode cX11_appeal 15 = .ok (.aload_n 0, 1) := by decide +kernel
theorem dX11_appeal_16 : decode cX11_appeal 16 = .ok (.getfield 319, 3) := by decide +kernel
theorem dX11_appeal_19 : decode cX11_appeal 19 = .ok (.if_icmp .lt 9, 3) := by decide +kernel
theorem dX11_appeal_22 : decode cX11_appeal 22 = .ok (.aload_n 0, 1) := by decide +kernel
theorem dX11_appeal_23 : decode cX11_appeal 23 = .ok (.iconst 1, 1) := by decide +kernel
theorem dX11_appeal_24 : decode cX11_appeal 24 = .ok (.invokevirtual 332, 3) := by decide +kernel
theorem dX11_appeal_27 : decode cX11_appeal 27 = .ok (.ireturn, 1) := by decide +kernel
theorem dX11_appeal_28 : decode cX11_appeal 28 = .ok (.iload_n 2, 1) := by decide +kernel
theorem dX11_appeal_29 : decode cX11_appeal 29 = .ok (.ifCond .lt 34, 3) := by decide +kernel
theorem dX11_appeal_32 : decode cX11_appeal 32 = .ok (.iload_n 2, 1) := by decide +kernel
theorem dX11_appeal_33 : decode cX11_appeal 33 = .ok (.aload_n 0, 1) := by decide +kernel
theorem dX11_appeal_34 : decode cX11_appeal 34 = .ok (.getfield 73, 3) := by decide +kernel
theorem dX11_appeal_37 : decode cX11_appeal 37 = .ok (.aload_n 0, 1) := by decide +kernel
theorem dX11_appeal_38 : decode cX11_appeal 38 = .ok (.getfield 97, 3) := by decide +kernel
theorem dX11_appeal_41 : decode cX11_appeal 41 = .ok (.iload_n 1, 1) := by decide +kernel
theorem dX11_appeal_42 : decode cX11_appeal 42 = .ok (.iaload, 1) := by decide +kernel
theorem dX11_appeal_43 : decode cX11_appeal 43 = .ok (.aload_n 0, 1) := by decide +kernel
theorem dX11_appeal_44 : decode cX11_appeal 44 = .ok (.getfield 100, 3) := by decide +kernel
theorem dX11_appeal_47 : decode cX11_appeal 47 = .ok (.iload_n 1, 1) := by decide +kernel
theorem dX11_appeal_48 : decode cX11_appeal 48 = .ok (.iaload, 1) := by decide +kernel
theorem dX11_appeal_49 : decode cX11_appeal 49 = .ok (.invokestatic 335, 3) := by decide +kernel
theorem dX11_appeal_52 : decode cX11_appeal 52 = .ok (.iaload, 1) := by decide +kernel
theorem dX11_appeal_53 : decode cX11_appeal 53 = .ok (.if_icmp .gt 10, 3) := by decide +kernel
theorem dX11_appeal_56 : decode cX11_appeal 56 = .ok (.iload_n 3, 1) := by decide +kernel
theorem dX11_appeal_57 : decode cX11_appeal 57 = .ok (.invokestatic 364, 3) := by decide +kernel
theorem dX11_appeal_60 : decode cX11_appeal 60 = .ok (.ifCond .ne 9, 3) := by decide +kernel
theorem dX11_appeal_63 : decode cX11_appeal 63 = .ok (.aload_n 0, 1) := by decide +kernel
theorem dX11_appeal_64 : decode cX11_appeal 64 = .ok (.iconst 2, 1) := by decide +kernel
theorem dX11_appeal_65 : decode cX11_appeal 65 = .ok (.invokevirtual 332, 3) := by decide +kernel
theorem dX11_appeal_68 : decode cX11_appeal 68 = .ok (.ireturn, 1) := by decide +kernel
theorem dX11_appeal_69 : decode cX11_appeal 69 = .ok (.aload_n 0, 1) := by decide +kernel
theorem dX11_appeal_70 : decode cX11_appeal 70 = .ok (.getfield 112, 3) := by decide +kernel
theorem dX11_appeal_73 : decode cX11_appeal 73 = .ok (.iload_n 1, 1) := by decide +kernel
theorem dX11_appeal_74 : decode cX11_appeal 74 = .ok (.iaload, 1) := by decide +kernel
theorem dX11_appeal_75 : decode cX11_appeal 75 = .ok (.ifCond .eq 13, 3) := by decide +kernel
theorem dX11_appeal_78 : decode cX11_appeal 78 = .ok (.aload_n 0, 1) := by decide +kernel
theorem dX11_appeal_79 : decode cX11_appeal 79 = .ok (.getfield 112, 3) := by decide +kernel
theorem dX11_appeal_82 : decode cX11_appeal 82 = .ok (.iload_n 1, 1) := by decide +kernel
theorem dX11_appeal_83 : decode cX11_appeal 83 = .ok (.iaload, 1) := by decide +kernel
theorem dX11_appeal_84 : decode cX11_appeal 84 = .ok (.iconst 4, 1) := by decide +kernel
theorem dX11_appeal_85 : decode cX11_appeal 85 = .ok (.if_icmp .ne 10, 3) := by decide +kernel
theorem dX11_appeal_88 : decode cX11_appeal 88 = .ok (.aload_n 0, 1) := by decide +kernel
theorem dX11_appeal_89 : decode cX11_appeal 89 = .ok (.bipush 10, 2) := by decide +kernel
theorem dX11_appeal_91 : decode cX11_appeal 91 = .ok (.invokevirtual 332, 3) := by decide +kernel
theorem dX11_appeal_94 : decode cX11_appeal 94 = .ok (.ireturn, 1) := by decide +kernel
theorem dX11_appeal_95 : decode cX11_appeal 95 = .ok (.aload_n 0, 1) := by decide +kernel
theorem dX11_appeal_96 : decode cX11_appeal 96 = .ok (.getfield 322, 3) := by decide +kernel
theorem dX11_appeal_99 : decode cX11_appeal 99 = .ok (.bipush 40, 2) := by decide +kernel
theorem dX11_appeal_101 : decode cX11_appeal 101 = .ok (.if_icmp .ne 9, 3) := by decide +kernel
theorem dX11_appeal_104 : decode cX11_appeal 104 = .ok (.aload_n 0, 1) := by decide +kernel
theorem dX11_appeal_105 : decode cX11_appeal 105 = .ok (.iconst 3, 1) := by decide +kernel
theorem dX11_appeal_106 : decode cX11_appeal 106 = .ok (.invokevirtual 332, 3) := by decide +kernel
theorem dX11_appeal_109 : decode cX11_appeal 109 = .ok (.ireturn, 1) := by decide +kernel
theorem dX11_appeal_110 : decode cX11_appeal 110 = .ok (.aload_n 0, 1) := by decide +kernel
theorem dX11_appeal_111 : decode cX11_appeal 111 = .ok (.getfield 115, 3) := by decide +kernel
theorem dX11_appeal_114 : decode cX11_appeal 114 = .ok (.aload_n 0, 1) := by decide +kernel
theorem dX11_appeal_115 : decode cX11_appeal 115 = .ok (.getfield 322, 3) := by decide +kernel
theorem dX11_appeal_118 : decode cX11_appeal 118 = .ok (.iload_n 1, 1) := by decide +kernel
theorem dX11_appeal_119 : decode cX11_appeal 119 = .ok (.iastore, 1) := by decide +kernel
theorem dX11_appeal_120 : decode cX11_appeal 120 = .ok (.aload_n 0, 1) := by decide +kernel
theorem dX11_appeal_121 : decode cX11_appeal 121 = .ok (.getfield 118, 3) := by decide +kernel
theorem dX11_appeal_124 : decode cX11_appeal 124 = .ok (.aload_n 0, 1) := by decide +kernel
theorem dX11_appeal_125 : decode cX11_appeal 125 = .ok (.getfield 322, 3) := by decide +kernel
theorem dX11_appeal_128 : decode cX11_appeal 128 = .ok (.iload_n 2, 1) := by decide +kernel
theorem dX11_appeal_129 : decode cX11_appeal 129 = .ok (.iastore, 1) := by decide +kernel
theorem dX11_appeal_130 : decode cX11_appeal 130 = .ok (.aload_n 0, 1) := by decide +kernel
theorem dX11_appeal_131 : decode cX11_appeal 131 = .ok (.getfield 121, 3) := by decide +kernel
theorem dX11_appeal_134 : decode cX11_appeal 134 = .ok (.aload_n 0, 1) := by decide +kernel
theorem dX11_appeal_135 : decode cX11_appeal 135 = .ok (.getfield 322, 3) := by decide +kernel
theorem dX11_appeal_138 : decode cX11_appeal 138 = .ok (.iload_n 3, 1) := by decide +kernel
theorem dX11_appeal_139 : decode cX11_appeal 139 = .ok (.iastore, 1) := by decide +kernel
theorem dX11_appeal_140 : decode cX11_appeal 140 = .ok (.aload_n 0, 1) := by decide +kernel
theorem dX11_appeal_141 : decode cX11_appeal 141 = .ok (.dup, 1) := by decide +kernel
theorem dX11_appeal_142 : decode cX11_appeal 142 = .ok (.getfield 322, 3) := by decide +kernel
theorem dX11_appeal_145 : decode cX11_appeal 145 = .ok (.iconst 1, 1) := by decide +kernel
theorem dX11_appeal_146 : decode cX11_appeal 146 = .ok (.iadd, 1) := by decide +kernel
theorem dX11_appeal_147 : decode cX11_appeal 147 = .ok (.putfield 322, 3) := by decide +kernel
theorem dX11_appeal_150 : decode cX11_appeal 150 = .ok (.iconst 1, 1) := by decide +kernel
theorem dX11_appeal_151 : decode cX11_appeal 151 = .ok (.ireturn, 1) := by decide +kernel
