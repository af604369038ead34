section
theorem dG_dX10_tried_0 : (decode cX10_tried 0 = .ok (.aload_n 0, 1)) ∧ (decode cX10_tried 1 = .ok (.getfield 44, 3)) ∧ (decode cX10_tried 4 = .ok (.iload_n 1, 1)) ∧ (decode cX10_tried 5 = .ok (.invokevirtual 224, 3)) ∧ (decode cX10_tried 8 = .ok (.ifCond .ne 9, 3)) ∧ (decode cX10_tried 11 = .ok (.aload_n 0, 1)) ∧ (decode cX10_tried 12 = .ok (.iconst 1, 1)) ∧ (decode cX10_tried 13 = .ok (.invokevirtual 88, 3)) ∧ (decode cX10_tried 16 = .ok (.ireturn, 1)) ∧ (decode cX10_tried 17 = .ok (.iload_n 2, 1)) ∧ (decode cX10_tried 18 = .ok (.tableswitch 140 0 6 #[42, 56, 70, 84, 98, 112, 126], 42)) ∧ (decode cX10_tried 60 = .ok (.aload_n 0, 1)) := by decide +kernel
theorem dX10_tried_0 : decode cX10_tried 0 = .ok (.aload_n 0, 1) := dG_dX10_tried_0.1
theorem dX10_tried_1 : decode cX10_tried 1 = .ok (.getfield 44, 3) := dG_dX10_tried_0.2.1
theorem dX10_tried_4 : decode cX10_tried 4 = .ok (.iload_n 1, 1) := dG_dX10_tried_0.2.2.1
theorem dX10_tried_5 : decode cX10_tried 5 = .ok (.invokevirtual 224, 3) := dG_dX10_tried_0.2.2.2.1
theorem dX10_tried_8 : decode cX10_tried 8 = .ok (.ifCond .ne 9, 3) := dG_dX10_tried_0.2.2.2.2.1
theorem dX10_tried_11 : decode cX10_tried 11 = .ok (.aload_n 0, 1) := dG_dX10_tried_0.2.2.2.2.2.1
theorem dX10_tried_12 : decode cX10_tried 12 = .ok (.iconst 1, 1) := dG_dX10_tried_0.2.2.2.2.2.2.1
theorem dX10_tried_13 : decode cX10_tried 13 = .ok (.invokevirtual 88, 3) := dG_dX10_tried_0.2.2.2.2.2.2.2.1
theorem dX10_tried_16 : decode cX10_tried 16 = .ok (.ireturn, 1) := dG_dX10_tried_0.2.2.2.2.2.2.2.2.1
theorem dX10_tried_17 : decode cX10_tried 17 = .ok (.iload_n 2, 1) := dG_dX10_tried_0.2.2.2.2.2.2.2.2.2.1
theorem dX10_tried_18 : decode cX10_tried 18 = .ok (.tableswitch 140 0 6 #[42, 56, 70, 84, 98, 112, 126], 42) := dG_dX10_tried_0.2.2.2.2.2.2.2.2.2.2.1
theorem dX10_tried_60 : decode cX10_tried 60 = .ok (.aload_n 0, 1) := dG_dX10_tried_0.2.2.2.2.2.2.2.2.2.2.2
theorem dG_dX10_tried_61 : (decode cX10_tried 61 = .ok (.aload_n 0, 1)) ∧ (decode cX10_tried 62 = .ok (.getfield 44, 3)) ∧ (decode cX10_tried 65 = .ok (.getfield 225, 3)) ∧ (decode cX10_tried 68 = .ok (.iload_n 1, 1)) ∧ (decode cX10_tried 69 = .ok (.iaload, 1)) ∧ (decode cX10_tried 70 = .ok (.invokevirtual 120, 3)) ∧ (decode cX10_tried 73 = .ok (.ireturn, 1)) ∧ (decode cX10_tried 74 = .ok (.aload_n 0, 1)) ∧ (decode cX10_tried 75 = .ok (.aload_n 0, 1)) ∧ (decode cX10_tried 76 = .ok (.getfield 44, 3)) ∧ (decode cX10_tried 79 = .ok (.getfield 200, 3)) ∧ (decode cX10_tried 82 = .ok (.iload_n 1, 1)) := by decide +kernel
theorem dX10_tried_61 : decode cX10_tried 61 = .ok (.aload_n 0, 1) := dG_dX10_tried_61.1
theorem dX10_tried_62 : decode cX10_tried 62 = .ok (.getfield 44, 3) := dG_dX10_tried_61.2.1
theorem dX10_tried_65 : decode cX10_tried 65 = .ok (.getfield 225, 3) := dG_dX10_tried_61.2.2.1
theorem dX10_tried_68 : decode cX10_tried 68 = .ok (.iload_n 1, 1) := dG_dX10_tried_61.2.2.2.1
theorem dX10_tried_69 : decode cX10_tried 69 = .ok (.iaload, 1) := dG_dX10_tried_61.2.2.2.2.1
theorem dX10_tried_70 : decode cX10_tried 70 = .ok (.invokevirtual 120, 3) := dG_dX10_tried_61.2.2.2.2.2.1
theorem dX10_tried_73 : decode cX10_tried 73 = .ok (.ireturn, 1) := dG_dX10_tried_61.2.2.2.2.2.2.1
theorem dX10_tried_74 : decode cX10_tried 74 = .ok (.aload_n 0, 1) := dG_dX10_tried_61.2.2.2.2.2.2.2.1
theorem dX10_tried_75 : decode cX10_tried 75 = .ok (.aload_n 0, 1) := dG_dX10_tried_61.2.2.2.2.2.2.2.2.1
theorem dX10_tried_76 : decode cX10_tried 76 = .ok (.getfield 44, 3) := dG_dX10_tried_61.2.2.2.2.2.2.2.2.2.1
theorem dX10_tried_79 : decode cX10_tried 79 = .ok (.getfield 200, 3) := dG_dX10_tried_61.2.2.2.2.2.2.2.2.2.2.1
theorem dX10_tried_82 : decode cX10_tried 82 = .ok (.iload_n 1, 1) := dG_dX10_tried_61.2.2.2.2.2.2.2.2.2.2.2
theorem dG_dX10_tried_83 : (decode cX10_tried 83 = .ok (.iaload, 1)) ∧ (decode cX10_tried 84 = .ok (.invokevirtual 120, 3)) ∧ (decode cX10_tried 87 = .ok (.ireturn, 1)) ∧ (decode cX10_tried 88 = .ok (.aload_n 0, 1)) ∧ (decode cX10_tried 89 = .ok (.aload_n 0, 1)) ∧ (decode cX10_tried 90 = .ok (.getfield 44, 3)) ∧ (decode cX10_tried 93 = .ok (.getfield 203, 3)) ∧ (decode cX10_tried 96 = .ok (.iload_n 1, 1)) ∧ (decode cX10_tried 97 = .ok (.iaload, 1)) ∧ (decode cX10_tried 98 = .ok (.invokevirtual 120, 3)) ∧ (decode cX10_tried 101 = .ok (.ireturn, 1)) ∧ (decode cX10_tried 102 = .ok (.aload_n 0, 1)) := by decide +kernel
theorem dX10_tried_83 : decode cX10_tried 83 = .ok (.iaload, 1) := dG_dX10_tried_83.1
theorem dX10_tried_84 : decode cX10_tried 84 = .ok (.invokevirtual 120, 3) := dG_dX10_tried_83.2.1
theorem dX10_tried_87 : decode cX10_tried 87 = .ok (.ireturn, 1) := dG_dX10_tried_83.2.2.1
theorem dX10_tried_88 : decode cX10_tried 88 = .ok (.aload_n 0, 1) := dG_dX10_tried_83.2.2.2.1
theorem dX10_tried_89 : decode cX10_tried 89 = .ok (.aload_n 0, 1) := dG_dX10_tried_83.2.2.2.2.1
theorem dX10_tried_90 : decode cX10_tried 90 = .ok (.getfield 44, 3) := dG_dX10_tried_83.2.2.2.2.2.1
theorem dX10_tried_93 : decode cX10_tried 93 = .ok (.getfield 203, 3) := dG_dX10_tried_83.2.2.2.2.2.2.1
theorem dX10_tried_96 : decode cX10_tried 96 = .ok (.iload_n 1, 1) := dG_dX10_tried_83.2.2.2.2.2.2.2.1
theorem dX10_tried_97 : decode cX10_tried 97 = .ok (.iaload, 1) := dG_dX10_tried_83.2.2.2.2.2.2.2.2.1
theorem dX10_tried_98 : decode cX10_tried 98 = .ok (.invokevirtual 120, 3) := dG_dX10_tried_83.2.2.2.2.2.2.2.2.2.1
theorem dX10_tried_101 : decode cX10_tried 101 = .ok (.ireturn, 1) := dG_dX10_tried_83.2.2.2.2.2.2.2.2.2.2.1
theorem dX10_tried_102 : decode cX10_tried 102 = .ok (.aload_n 0, 1) := dG_dX10_tried_83.2.2.2.2.2.2.2.2.2.2.2
theorem dG_dX10_tried_103 : (decode cX10_tried 103 = .ok (.aload_n 0, 1)) ∧ (decode cX10_tried 104 = .ok (.getfield 44, 3)) ∧ (decode cX10_tried 107 = .ok (.getfield 228, 3)) ∧ (decode cX10_tried 110 = .ok (.iload_n 1, 1)) ∧ (decode cX10_tried 111 = .ok (.iaload, 1)) ∧ (decode cX10_tried 112 = .ok (.invokevirtual 120, 3)) ∧ (decode cX10_tried 115 = .ok (.ireturn, 1)) ∧ (decode cX10_tried 116 = .ok (.aload_n 0, 1)) ∧ (decode cX10_tried 117 = .ok (.aload_n 0, 1)) ∧ (decode cX10_tried 118 = .ok (.getfield 44, 3)) ∧ (decode cX10_tried 121 = .ok (.getfield 231, 3)) ∧ (decode cX10_tried 124 = .ok (.iload_n 1, 1)) := by decide +kernel
theorem dX10_tried_103 : decode cX10_tried 103 = .ok (.aload_n 0, 1) := dG_dX10_tried_103.1
theorem dX10_tried_104 : decode cX10_tried 104 = .ok (.getfield 44, 3) := dG_dX10_tried_103.2.1
theorem dX10_tried_107 : decode cX10_tried 107 = .ok (.getfield 228, 3) := dG_dX10_tried_103.2.2.1
theorem dX10_tried_110 : decode cX10_tried 110 = .ok (.iload_n 1, 1) := dG_dX10_tried_103.2.2.2.1
theorem dX10_tried_111 : decode cX10_tried 111 = .ok (.iaload, 1) := dG_dX10_tried_103.2.2.2.2.1
theorem dX10_tried_112 : decode cX10_tried 112 = .ok (.invokevirtual 120, 3) := dG_dX10_tried_103.2.2.2.2.2.1
theorem dX10_tried_115 : decode cX10_tried 115 = .ok (.ireturn, 1) := dG_dX10_tried_103.2.2.2.2.2.2.1
theorem dX10_tried_116 : decode cX10_tried 116 = .ok (.aload_n 0, 1) := dG_dX10_tried_103.2.2.2.2.2.2.2.1
theorem dX10_tried_117 : decode cX10_tried 117 = .ok (.aload_n 0, 1) := dG_dX10_tried_103.2.2.2.2.2.2.2.2.1
theorem dX10_tried_118 : decode cX10_tried 118 = .ok (.getfield 44, 3) := dG_dX10_tried_103.2.2.2.2.2.2.2.2.2.1
theorem dX10_tried_121 : decode cX10_tried 121 = .ok (.getfield 231, 3) := dG_dX10_tried_103.2.2.2.2.2.2.2.2.2.2.1
theorem dX10_tried_124 : decode cX10_tried 124 = .ok (.iload_n 1, 1) := dG_dX10_tried_103.2.2.2.2.2.2.2.2.2.2.2
theorem dG_dX10_tried_125 : (decode cX10_tried 125 = .ok (.iaload, 1)) ∧ (decode cX10_tried 126 = .ok (.invokevirtual 120, 3)) ∧ (decode cX10_tried 129 = .ok (.ireturn, 1)) ∧ (decode cX10_tried 130 = .ok (.aload_n 0, 1)) ∧ (decode cX10_tried 131 = .ok (.aload_n 0, 1)) ∧ (decode cX10_tried 132 = .ok (.getfield 44, 3)) ∧ (decode cX10_tried 135 = .ok (.getfield 206, 3)) ∧ (decode cX10_tried 138 = .ok (.iload_n 1, 1)) ∧ (decode cX10_tried 139 = .ok (.iaload, 1)) ∧ (decode cX10_tried 140 = .ok (.invokevirtual 120, 3)) ∧ (decode cX10_tried 143 = .ok (.ireturn, 1)) ∧ (decode cX10_tried 144 = .ok (.aload_n 0, 1)) := by decide +kernel
theorem dX10_tried_125 : decode cX10_tried 125 = .ok (.iaload, 1) := dG_dX10_tried_125.1
theorem dX10_tried_126 : decode cX10_tried 126 = .ok (.invokevirtual 120, 3) := dG_dX10_tried_125.2.1
theorem dX10_tried_129 : decode cX10_tried 129 = .ok (.ireturn, 1) := dG_dX10_tried_125.2.2.1
theorem dX10_tried_130 : decode cX10_tried 130 = .ok (.aload_n 0, 1) := dG_dX10_tried_125.2.2.2.1
theorem dX10_tried_131 : decode cX10_tried 131 = .ok (.aload_n 0, 1) := dG_dX10_tried_125.2.2.2.2.1
theorem dX10_tried_132 : decode cX10_tried 132 = .ok (.getfield 44, 3) := dG_dX10_tried_125.2.2.2.2.2.1
theorem dX10_tried_135 : decode cX10_tried 135 = .ok (.getfield 206, 3) := dG_dX10_tried_125.2.2.2.2.2.2.1
theorem dX10_tried_138 : decode cX10_tried 138 = .ok (.iload_n 1, 1) := dG_dX10_tried_125.2.2.2.2.2.2.2.1
theorem dX10_tried_139 : decode cX10_tried 139 = .ok (.iaload, 1) := dG_dX10_tried_125.2.2.2.2.2.2.2.2.1
theorem dX10_tried_140 : decode cX10_tried 140 = .ok (.invokevirtual 120, 3) := dG_dX10_tried_125.2.2.2.2.2.2.2.2.2.1
theorem dX10_tried_143 : decode cX10_tried 143 = .ok (.ireturn, 1) := dG_dX10_tried_125.2.2.2.2.2.2.2.2.2.2.1
theorem dX10_tried_144 : decode cX10_tried 144 = .ok (.aload_n 0, 1) := dG_dX10_tried_125.2.2.2.2.2.2.2.2.2.2.2
theorem dG_dX10_tried_145 : (decode cX10_tried 145 = .ok (.aload_n 0, 1)) ∧ (decode cX10_tried 146 = .ok (.getfield 44, 3)) ∧ (decode cX10_tried 149 = .ok (.getfield 234, 3)) ∧ (decode cX10_tried 152 = .ok (.iload_n 1, 1)) ∧ (decode cX10_tried 153 = .ok (.iaload, 1)) ∧ (decode cX10_tried 154 = .ok (.invokevirtual 120, 3)) ∧ (decode cX10_tried 157 = .ok (.ireturn, 1)) ∧ (decode cX10_tried 158 = .ok (.aload_n 0, 1)) ∧ (decode cX10_tried 159 = .ok (.iconst 2, 1)) ∧ (decode cX10_tried 160 = .ok (.invokevirtual 88, 3)) ∧ (decode cX10_tried 163 = .ok (.ireturn, 1)) ∧ (decode cX10_seen 0 = .ok (.aload_n 0, 1)) := by decide +kernel
theorem dX10_tried_145 : decode cX10_tried 145 = .ok (.aload_n 0, 1) := dG_dX10_tried_145.1
theorem dX10_tried_146 : decode cX10_tried 146 = .ok (.getfield 44, 3) := dG_dX10_tried_145.2.1
theorem dX10_tried_149 : decode cX10_tried 149 = .ok (.getfield 234, 3) := dG_dX10_tried_145.2.2.1
theorem dX10_tried_152 : decode cX10_tried 152 = .ok (.iload_n 1, 1) := dG_dX10_tried_145.2.2.2.1
theorem dX10_tried_153 : decode cX10_tried 153 = .ok (.iaload, 1) := dG_dX10_tried_145.2.2.2.2.1
theorem dX10_tried_154 : decode cX10_tried 154 = .ok (.invokevirtual 120, 3) := dG_dX10_tried_145.2.2.2.2.2.1
theorem dX10_tried_157 : decode cX10_tried 157 = .ok (.ireturn, 1) := dG_dX10_tried_145.2.2.2.2.2.2.1
theorem dX10_tried_158 : decode cX10_tried 158 = .ok (.aload_n 0, 1) := dG_dX10_tried_145.2.2.2.2.2.2.2.1
theorem dX10_tried_159 : decode cX10_tried 159 = .ok (.iconst 2, 1) := dG_dX10_tried_145.2.2.2.2.2.2.2.2.1
theorem dX10_tried_160 : decode cX10_tried 160 = .ok (.invokevirtual 88, 3) := dG_dX10_tried_145.2.2.2.2.2.2.2.2.2.1
theorem dX10_tried_163 : decode cX10_tried 163 = .ok (.ireturn, 1) := dG_dX10_tried_145.2.2.2.2.2.2.2.2.2.2.1
theorem dX10_seen_0 : decode cX10_seen 0 = .ok (.aload_n 0, 1) := dG_dX10_tried_145.2.2.2.2.2.2.2.2.2.2.2
theorem dG_dX10_seen_1 : (decode cX10_seen 1 = .ok (.getfield 37, 3)) ∧ (decode cX10_seen 4 = .ok (.iload_n 1, 1)) ∧ (decode cX10_seen 5 = .ok (.invokevirtual 180, 3)) ∧ (decode cX10_seen 8 = .ok (.ifCond .eq 21, 3)) ∧ (decode cX10_seen 11 = .ok (.aload_n 0, 1)) ∧ (decode cX10_seen 12 = .ok (.getfield 16, 3)) ∧ (decode cX10_seen 15 = .ok (.aload_n 0, 1)) ∧ (decode cX10_seen 16 = .ok (.getfield 37, 3)) ∧ (decode cX10_seen 19 = .ok (.getfield 129, 3)) ∧ (decode cX10_seen 22 = .ok (.iload_n 2, 1)) ∧ (decode cX10_seen 23 = .ok (.invokevirtual 136, 3)) ∧ (decode cX10_seen 26 = .ok (.ifCond .ne 9, 3)) := by decide +kernel
theorem dX10_seen_1 : decode cX10_seen 1 = .ok (.getfield 37, 3) := dG_dX10_seen_1.1
theorem dX10_seen_4 : decode cX10_seen 4 = .ok (.iload_n 1, 1) := dG_dX10_seen_1.2.1
theorem dX10_seen_5 : decode cX10_seen 5 = .ok (.invokevirtual 180, 3) := dG_dX10_seen_1.2.2.1
theorem dX10_seen_8 : decode cX10_seen 8 = .ok (.ifCond .eq 21, 3) := dG_dX10_seen_1.2.2.2.1
theorem dX10_seen_11 : decode cX10_seen 11 = .ok (.aload_n 0, 1) := dG_dX10_seen_1.2.2.2.2.1
theorem dX10_seen_12 : decode cX10_seen 12 = .ok (.getfield 16, 3) := dG_dX10_seen_1.2.2.2.2.2.1
theorem dX10_seen_15 : decode cX10_seen 15 = .ok (.aload_n 0, 1) := dG_dX10_seen_1.2.2.2.2.2.2.1
theorem dX10_seen_16 : decode cX10_seen 16 = .ok (.getfield 37, 3) := dG_dX10_seen_1.2.2.2.2.2.2.2.1
theorem dX10_seen_19 : decode cX10_seen 19 = .ok (.getfield 129, 3) := dG_dX10_seen_1.2.2.2.2.2.2.2.2.1
theorem dX10_seen_22 : decode cX10_seen 22 = .ok (.iload_n 2, 1) := dG_dX10_seen_1.2.2.2.2.2.2.2.2.2.1
theorem dX10_seen_23 : decode cX10_seen 23 = .ok (.invokevirtual 136, 3) := dG_dX10_seen_1.2.2.2.2.2.2.2.2.2.2.1
theorem dX10_seen_26 : decode cX10_seen 26 = .ok (.ifCond .ne 9, 3) := dG_dX10_seen_1.2.2.2.2.2.2.2.2.2.2.2
theorem dG_dX10_seen_29 : (decode cX10_seen 29 = .ok (.aload_n 0, 1)) ∧ (decode cX10_seen 30 = .ok (.iconst 1, 1)) ∧ (decode cX10_seen 31 = .ok (.invokevirtual 88, 3)) ∧ (decode cX10_seen 34 = .ok (.ireturn, 1)) ∧ (decode cX10_seen 35 = .ok (.aload_n 0, 1)) ∧ (decode cX10_seen 36 = .ok (.aload_n 0, 1)) ∧ (decode cX10_seen 37 = .ok (.iload_n 1, 1)) ∧ (decode cX10_seen 38 = .ok (.iload_n 2, 1)) ∧ (decode cX10_seen 39 = .ok (.invokevirtual 237, 3)) ∧ (decode cX10_seen 42 = .ok (.ifCond .eq 7, 3)) ∧ (decode cX10_seen 45 = .ok (.iconst 1, 1)) ∧ (decode cX10_seen 46 = .ok (.goto 4, 3)) := by decide +kernel
theorem dX10_seen_29 : decode cX10_seen 29 = .ok (.aload_n 0, 1) := dG_dX10_seen_29.1
theorem dX10_seen_30 : decode cX10_seen 30 = .ok (.iconst 1, 1) := dG_dX10_seen_29.2.1
theorem dX10_seen_31 : decode cX10_seen 31 = .ok (.invokevirtual 88, 3) := dG_dX10_seen_29.2.2.1
theorem dX10_seen_34 : decode cX10_seen 34 = .ok (.ireturn, 1) := dG_dX10_seen_29.2.2.2.1
theorem dX10_seen_35 : decode cX10_seen 35 = .ok (.aload_n 0, 1) := dG_dX10_seen_29.2.2.2.2.1
theorem dX10_seen_36 : decode cX10_seen 36 = .ok (.aload_n 0, 1) := dG_dX10_seen_29.2.2.2.2.2.1
theorem dX10_seen_37 : decode cX10_seen 37 = .ok (.iload_n 1, 1) := dG_dX10_seen_29.2.2.2.2.2.2.1
theorem dX10_seen_38 : decode cX10_seen 38 = .ok (.iload_n 2, 1) := dG_dX10_seen_29.2.2.2.2.2.2.2.1
theorem dX10_seen_39 : decode cX10_seen 39 = .ok (.invokevirtual 237, 3) := dG_dX10_seen_29.2.2.2.2.2.2.2.2.1
theorem dX10_seen_42 : decode cX10_seen 42 = .ok (.ifCond .eq 7, 3) := dG_dX10_seen_29.2.2.2.2.2.2.2.2.2.1
theorem dX10_seen_45 : decode cX10_seen 45 = .ok (.iconst 1, 1) := dG_dX10_seen_29.2.2.2.2.2.2.2.2.2.2.1
theorem dX10_seen_46 : decode cX10_seen 46 = .ok (.goto 4, 3) := dG_dX10_seen_29.2.2.2.2.2.2.2.2.2.2.2
theorem dG_dX10_seen_49 : (decode cX10_seen 49 = .ok (.iconst 0, 1)) ∧ (decode cX10_seen 50 = .ok (.invokevirtual 120, 3)) ∧ (decode cX10_seen 53 = .ok (.ireturn, 1)) ∧ (decode cX10_ready 0 = .ok (.aload_n 0, 1)) ∧ (decode cX10_ready 1 = .ok (.getfield 37, 3)) ∧ (decode cX10_ready 4 = .ok (.iload_n 1, 1)) ∧ (decode cX10_ready 5 = .ok (.invokevirtual 180, 3)) ∧ (decode cX10_ready 8 = .ok (.ifCond .ne 9, 3)) ∧ (decode cX10_ready 11 = .ok (.aload_n 0, 1)) ∧ (decode cX10_ready 12 = .ok (.iconst 1, 1)) ∧ (decode cX10_ready 13 = .ok (.invokevirtual 88, 3)) ∧ (decode cX10_ready 16 = .ok (.ireturn, 1)) := by decide +kernel
theorem dX10_seen_49 : decode cX10_seen 49 = .ok (.iconst 0, 1) := dG_dX10_seen_49.1
theorem dX10_seen_50 : decode cX10_seen 50 = .ok (.invokevirtual 120, 3) := dG_dX10_seen_49.2.1
theorem dX10_seen_53 : decode cX10_seen 53 = .ok (.ireturn, 1) := dG_dX10_seen_49.2.2.1
theorem dX10_ready_0 : decode cX10_ready 0 = .ok (.aload_n 0, 1) := dG_dX10_seen_49.2.2.2.1
theorem dX10_ready_1 : decode cX10_ready 1 = .ok (.getfield 37, 3) := dG_dX10_seen_49.2.2.2.2.1
theorem dX10_ready_4 : decode cX10_ready 4 = .ok (.iload_n 1, 1) := dG_dX10_seen_49.2.2.2.2.2.1
theorem dX10_ready_5 : decode cX10_ready 5 = .ok (.invokevirtual 180, 3) := dG_dX10_seen_49.2.2.2.2.2.2.1
theorem dX10_ready_8 : decode cX10_ready 8 = .ok (.ifCond .ne 9, 3) := dG_dX10_seen_49.2.2.2.2.2.2.2.1
theorem dX10_ready_11 : decode cX10_ready 11 = .ok (.aload_n 0, 1) := dG_dX10_seen_49.2.2.2.2.2.2.2.2.1
theorem dX10_ready_12 : decode cX10_ready 12 = .ok (.iconst 1, 1) := dG_dX10_seen_49.2.2.2.2.2.2.2.2.2.1
theorem dX10_ready_13 : decode cX10_ready 13 = .ok (.invokevirtual 88, 3) := dG_dX10_seen_49.2.2.2.2.2.2.2.2.2.2.1
theorem dX10_ready_16 : decode cX10_ready 16 = .ok (.ireturn, 1) := dG_dX10_seen_49.2.2.2.2.2.2.2.2.2.2.2
theorem dG_dX10_ready_17 : (decode cX10_ready 17 = .ok (.aload_n 0, 1)) ∧ (decode cX10_ready 18 = .ok (.getfield 44, 3)) ∧ (decode cX10_ready 21 = .ok (.iload_n 1, 1)) ∧ (decode cX10_ready 22 = .ok (.invokevirtual 197, 3)) ∧ (decode cX10_ready 25 = .ok (.iconst (-1), 1)) ∧ (decode cX10_ready 26 = .ok (.if_icmp .eq 9, 3)) ∧ (decode cX10_ready 29 = .ok (.aload_n 0, 1)) ∧ (decode cX10_ready 30 = .ok (.iconst 5, 1)) ∧ (decode cX10_ready 31 = .ok (.invokevirtual 88, 3)) ∧ (decode cX10_ready 34 = .ok (.ireturn, 1)) ∧ (decode cX10_ready 35 = .ok (.aload_n 0, 1)) ∧ (decode cX10_ready 36 = .ok (.aload_n 0, 1)) := by decide +kernel
theorem dX10_ready_17 : decode cX10_ready 17 = .ok (.aload_n 0, 1) := dG_dX10_ready_17.1
theorem dX10_ready_18 : decode cX10_ready 18 = .ok (.getfield 44, 3) := dG_dX10_ready_17.2.1
theorem dX10_ready_21 : decode cX10_ready 21 = .ok (.iload_n 1, 1) := dG_dX10_ready_17.2.2.1
theorem dX10_ready_22 : decode cX10_ready 22 = .ok (.invokevirtual 197, 3) := dG_dX10_ready_17.2.2.2.1
theorem dX10_ready_25 : decode cX10_ready 25 = .ok (.iconst (-1), 1) := dG_dX10_ready_17.2.2.2.2.1
theorem dX10_ready_26 : decode cX10_ready 26 = .ok (.if_icmp .eq 9, 3) := dG_dX10_ready_17.2.2.2.2.2.1
theorem dX10_ready_29 : decode cX10_ready 29 = .ok (.aload_n 0, 1) := dG_dX10_ready_17.2.2.2.2.2.2.1
theorem dX10_ready_30 : decode cX10_ready 30 = .ok (.iconst 5, 1) := dG_dX10_ready_17.2.2.2.2.2.2.2.1
theorem dX10_ready_31 : decode cX10_ready 31 = .ok (.invokevirtual 88, 3) := dG_dX10_ready_17.2.2.2.2.2.2.2.2.1
theorem dX10_ready_34 : decode cX10_ready 34 = .ok (.ireturn, 1) := dG_dX10_ready_17.2.2.2.2.2.2.2.2.2.1
theorem dX10_ready_35 : decode cX10_ready 35 = .ok (.aload_n 0, 1) := dG_dX10_ready_17.2.2.2.2.2.2.2.2.2.2.1
theorem dX10_ready_36 : decode cX10_ready 36 = .ok (.aload_n 0, 1) := dG_dX10_ready_17.2.2.2.2.2.2.2.2.2.2.2
theorem dG_dX10_ready_37 : (decode cX10_ready 37 = .ok (.getfield 114, 3)) ∧ (decode cX10_ready 40 = .ok (.aload_n 0, 1)) ∧ (decode cX10_ready 41 = .ok (.iload_n 1, 1)) ∧ (decode cX10_ready 42 = .ok (.invokevirtual 240, 3)) ∧ (decode cX10_ready 45 = .ok (.invokestatic 243, 3)) ∧ (decode cX10_ready 48 = .ok (.invokevirtual 120, 3)) ∧ (decode cX10_ready 51 = .ok (.ireturn, 1)) ∧ (decode cX10_appeal 0 = .ok (.aload_n 0, 1)) ∧ (decode cX10_appeal 1 = .ok (.getfield 44, 3)) ∧ (decode cX10_appeal 4 = .ok (.iload_n 1, 1)) ∧ (decode cX10_appeal 5 = .ok (.invokevirtual 224, 3)) ∧ (decode cX10_appeal 8 = .ok (.ifCond .ne 9, 3)) := by decide +kernel
theorem dX10_ready_37 : decode cX10_ready 37 = .ok (.getfield 114, 3) := dG_dX10_ready_37.1
theorem dX10_ready_40 : decode cX10_ready 40 = .ok (.aload_n 0, 1) := dG_dX10_ready_37.2.1
theorem dX10_ready_41 : decode cX10_ready 41 = .ok (.iload_n 1, 1) := dG_dX10_ready_37.2.2.1
theorem dX10_ready_42 : decode cX10_ready 42 = .ok (.invokevirtual 240, 3) := dG_dX10_ready_37.2.2.2.1
theorem dX10_ready_45 : decode cX10_ready 45 = .ok (.invokestatic 243, 3) := dG_dX10_ready_37.2.2.2.2.1
theorem dX10_ready_48 : decode cX10_ready 48 = .ok (.invokevirtual 120, 3) := dG_dX10_ready_37.2.2.2.2.2.1
theorem dX10_ready_51 : decode cX10_ready 51 = .ok (.ireturn, 1) := dG_dX10_ready_37.2.2.2.2.2.2.1
theorem dX10_appeal_0 : decode cX10_appeal 0 = .ok (.aload_n 0, 1) := dG_dX10_ready_37.2.2.2.2.2.2.2.1
theorem dX10_appeal_1 : decode cX10_appeal 1 = .ok (.getfield 44, 3) := dG_dX10_ready_37.2.2.2.2.2.2.2.2.1
theorem dX10_appeal_4 : decode cX10_appeal 4 = .ok (.iload_n 1, 1) := dG_dX10_ready_37.2.2.2.2.2.2.2.2.2.1
theorem dX10_appeal_5 : decode cX10_appeal 5 = .ok (.invokevirtual 224, 3) := dG_dX10_ready_37.2.2.2.2.2.2.2.2.2.2.1
theorem dX10_appeal_8 : decode cX10_appeal 8 = .ok (.ifCond .ne 9, 3) := dG_dX10_ready_37.2.2.2.2.2.2.2.2.2.2.2
theorem dG_dX10_appeal_11 : (decode cX10_appeal 11 = .ok (.aload_n 0, 1)) ∧ (decode cX10_appeal 12 = .ok (.iconst 1, 1)) ∧ (decode cX10_appeal 13 = .ok (.invokevirtual 140, 3)) ∧ (decode cX10_appeal 16 = .ok (.ireturn, 1)) ∧ (decode cX10_appeal 17 = .ok (.aload_n 0, 1)) ∧ (decode cX10_appeal 18 = .ok (.getfield 30, 3)) ∧ (decode cX10_appeal 21 = .ok (.aload_n 0, 1)) ∧ (decode cX10_appeal 22 = .ok (.getfield 44, 3)) ∧ (decode cX10_appeal 25 = .ok (.getfield 200, 3)) ∧ (decode cX10_appeal 28 = .ok (.iload_n 1, 1)) ∧ (decode cX10_appeal 29 = .ok (.iaload, 1)) ∧ (decode cX10_appeal 30 = .ok (.aload_n 0, 1)) := by decide +kernel
theorem dX10_appeal_11 : decode cX10_appeal 11 = .ok (.aload_n 0, 1) := dG_dX10_appeal_11.1
theorem dX10_appeal_12 : decode cX10_appeal 12 = .ok (.iconst 1, 1) := dG_dX10_appeal_11.2.1
theorem dX10_appeal_13 : decode cX10_appeal 13 = .ok (.invokevirtual 140, 3) := dG_dX10_appeal_11.2.2.1
theorem dX10_appeal_16 : decode cX10_appeal 16 = .ok (.ireturn, 1) := dG_dX10_appeal_11.2.2.2.1
theorem dX10_appeal_17 : decode cX10_appeal 17 = .ok (.aload_n 0, 1) := dG_dX10_appeal_11.2.2.2.2.1
theorem dX10_appeal_18 : decode cX10_appeal 18 = .ok (.getfield 30, 3) := dG_dX10_appeal_11.2.2.2.2.2.1
theorem dX10_appeal_21 : decode cX10_appeal 21 = .ok (.aload_n 0, 1) := dG_dX10_appeal_11.2.2.2.2.2.2.1
theorem dX10_appeal_22 : decode cX10_appeal 22 = .ok (.getfield 44, 3) := dG_dX10_appeal_11.2.2.2.2.2.2.2.1
theorem dX10_appeal_25 : decode cX10_appeal 25 = .ok (.getfield 200, 3) := dG_dX10_appeal_11.2.2.2.2.2.2.2.2.1
theorem dX10_appeal_28 : decode cX10_appeal 28 = .ok (.iload_n 1, 1) := dG_dX10_appeal_11.2.2.2.2.2.2.2.2.2.1
theorem dX10_appeal_29 : decode cX10_appeal 29 = .ok (.iaload, 1) := dG_dX10_appeal_11.2.2.2.2.2.2.2.2.2.2.1
theorem dX10_appeal_30 : decode cX10_appeal 30 = .ok (.aload_n 0, 1) := dG_dX10_appeal_11.2.2.2.2.2.2.2.2.2.2.2
theorem dG_dX10_appeal_31 : (decode cX10_appeal 31 = .ok (.getfield 44, 3)) ∧ (decode cX10_appeal 34 = .ok (.getfield 203, 3)) ∧ (decode cX10_appeal 37 = .ok (.iload_n 1, 1)) ∧ (decode cX10_appeal 38 = .ok (.iaload, 1)) ∧ (decode cX10_appeal 39 = .ok (.invokevirtual 173, 3)) ∧ (decode cX10_appeal 42 = .ok (.istore 4, 2)) ∧ (decode cX10_appeal 44 = .ok (.iload_n 2, 1)) ∧ (decode cX10_appeal 45 = .ok (.ifCond .lt 16, 3)) ∧ (decode cX10_appeal 48 = .ok (.iload_n 2, 1)) ∧ (decode cX10_appeal 49 = .ok (.iload 4, 2)) ∧ (decode cX10_appeal 51 = .ok (.if_icmp .gt 10, 3)) ∧ (decode cX10_appeal 54 = .ok (.iload_n 3, 1)) := by decide +kernel
theorem dX10_appeal_31 : decode cX10_appeal 31 = .ok (.getfield 44, 3) := dG_dX10_appeal_31.1
theorem dX10_appeal_34 : decode cX10_appeal 34 = .ok (.getfield 203, 3) := dG_dX10_appeal_31.2.1
theorem dX10_appeal_37 : decode cX10_appeal 37 = .ok (.iload_n 1, 1) := dG_dX10_appeal_31.2.2.1
theorem dX10_appeal_38 : decode cX10_appeal 38 = .ok (.iaload, 1) := dG_dX10_appeal_31.2.2.2.1
theorem dX10_appeal_39 : decode cX10_appeal 39 = .ok (.invokevirtual 173, 3) := dG_dX10_appeal_31.2.2.2.2.1
theorem dX10_appeal_42 : decode cX10_appeal 42 = .ok (.istore 4, 2) := dG_dX10_appeal_31.2.2.2.2.2.1
theorem dX10_appeal_44 : decode cX10_appeal 44 = .ok (.iload_n 2, 1) := dG_dX10_appeal_31.2.2.2.2.2.2.1
theorem dX10_appeal_45 : decode cX10_appeal 45 = .ok (.ifCond .lt 16, 3) := dG_dX10_appeal_31.2.2.2.2.2.2.2.1
theorem dX10_appeal_48 : decode cX10_appeal 48 = .ok (.iload_n 2, 1) := dG_dX10_appeal_31.2.2.2.2.2.2.2.2.1
theorem dX10_appeal_49 : decode cX10_appeal 49 = .ok (.iload 4, 2) := dG_dX10_appeal_31.2.2.2.2.2.2.2.2.2.1
theorem dX10_appeal_51 : decode cX10_appeal 51 = .ok (.if_icmp .gt 10, 3) := dG_dX10_appeal_31.2.2.2.2.2.2.2.2.2.2.1
theorem dX10_appeal_54 : decode cX10_appeal 54 = .ok (.iload_n 3, 1) := dG_dX10_appeal_31.2.2.2.2.2.2.2.2.2.2.2
theorem dG_dX10_appeal_55 : (decode cX10_appeal 55 = .ok (.invokestatic 248, 3)) ∧ (decode cX10_appeal 58 = .ok (.ifCond .ne 9, 3)) ∧ (decode cX10_appeal 61 = .ok (.aload_n 0, 1)) ∧ (decode cX10_appeal 62 = .ok (.iconst 2, 1)) ∧ (decode cX10_appeal 63 = .ok (.invokevirtual 140, 3)) ∧ (decode cX10_appeal 66 = .ok (.ireturn, 1)) ∧ (decode cX10_appeal 67 = .ok (.aload_n 0, 1)) ∧ (decode cX10_appeal 68 = .ok (.getfield 44, 3)) ∧ (decode cX10_appeal 71 = .ok (.getfield 234, 3)) ∧ (decode cX10_appeal 74 = .ok (.iload_n 1, 1)) ∧ (decode cX10_appeal 75 = .ok (.iaload, 1)) ∧ (decode cX10_appeal 76 = .ok (.ifCond .eq 16, 3)) := by decide +kernel
theorem dX10_appeal_55 : decode cX10_appeal 55 = .ok (.invokestatic 248, 3) := dG_dX10_appeal_55.1
theorem dX10_appeal_58 : decode cX10_appeal 58 = .ok (.ifCond .ne 9, 3) := dG_dX10_appeal_55.2.1
theorem dX10_appeal_61 : decode cX10_appeal 61 = .ok (.aload_n 0, 1) := dG_dX10_appeal_55.2.2.1
theorem dX10_appeal_62 : decode cX10_appeal 62 = .ok (.iconst 2, 1) := dG_dX10_appeal_55.2.2.2.1
theorem dX10_appeal_63 : decode cX10_appeal 63 = .ok (.invokevirtual 140, 3) := dG_dX10_appeal_55.2.2.2.2.1
theorem dX10_appeal_66 : decode cX10_appeal 66 = .ok (.ireturn, 1) := dG_dX10_appeal_55.2.2.2.2.2.1
theorem dX10_appeal_67 : decode cX10_appeal 67 = .ok (.aload_n 0, 1) := dG_dX10_appeal_55.2.2.2.2.2.2.1
theorem dX10_appeal_68 : decode cX10_appeal 68 = .ok (.getfield 44, 3) := dG_dX10_appeal_55.2.2.2.2.2.2.2.1
theorem dX10_appeal_71 : decode cX10_appeal 71 = .ok (.getfield 234, 3) := dG_dX10_appeal_55.2.2.2.2.2.2.2.2.1
theorem dX10_appeal_74 : decode cX10_appeal 74 = .ok (.iload_n 1, 1) := dG_dX10_appeal_55.2.2.2.2.2.2.2.2.2.1
theorem dX10_appeal_75 : decode cX10_appeal 75 = .ok (.iaload, 1) := dG_dX10_appeal_55.2.2.2.2.2.2.2.2.2.2.1
theorem dX10_appeal_76 : decode cX10_appeal 76 = .ok (.ifCond .eq 16, 3) := dG_dX10_appeal_55.2.2.2.2.2.2.2.2.2.2.2
theorem dG_dX10_appeal_79 : (decode cX10_appeal 79 = .ok (.aload_n 0, 1)) ∧ (decode cX10_appeal 80 = .ok (.getfield 44, 3)) ∧ (decode cX10_appeal 83 = .ok (.getfield 234, 3)) ∧ (decode cX10_appeal 86 = .ok (.iload_n 1, 1)) ∧ (decode cX10_appeal 87 = .ok (.iaload, 1)) ∧ (decode cX10_appeal 88 = .ok (.iconst 4, 1)) ∧ (decode cX10_appeal 89 = .ok (.if_icmp .ne 10, 3)) ∧ (decode cX10_appeal 92 = .ok (.aload_n 0, 1)) ∧ (decode cX10_appeal 93 = .ok (.bipush 10, 2)) ∧ (decode cX10_appeal 95 = .ok (.invokevirtual 140, 3)) ∧ (decode cX10_appeal 98 = .ok (.ireturn, 1)) ∧ (decode cX10_appeal 99 = .ok (.aload_n 0, 1)) := by decide +kernel
theorem dX10_appeal_79 : decode cX10_appeal 79 = .ok (.aload_n 0, 1) := dG_dX10_appeal_79.1
theorem dX10_appeal_80 : decode cX10_appeal 80 = .ok (.getfield 44, 3) := dG_dX10_appeal_79.2.1
theorem dX10_appeal_83 : decode cX10_appeal 83 = .ok (.getfield 234, 3) := dG_dX10_appeal_79.2.2.1
theorem dX10_appeal_86 : decode cX10_appeal 86 = .ok (.iload_n 1, 1) := dG_dX10_appeal_79.2.2.2.1
theorem dX10_appeal_87 : decode cX10_appeal 87 = .ok (.iaload, 1) := dG_dX10_appeal_79.2.2.2.2.1
theorem dX10_appeal_88 : decode cX10_appeal 88 = .ok (.iconst 4, 1) := dG_dX10_appeal_79.2.2.2.2.2.1
theorem dX10_appeal_89 : decode cX10_appeal 89 = .ok (.if_icmp .ne 10, 3) := dG_dX10_appeal_79.2.2.2.2.2.2.1
theorem dX10_appeal_92 : decode cX10_appeal 92 = .ok (.aload_n 0, 1) := dG_dX10_appeal_79.2.2.2.2.2.2.2.1
theorem dX10_appeal_93 : decode cX10_appeal 93 = .ok (.bipush 10, 2) := dG_dX10_appeal_79.2.2.2.2.2.2.2.2.1
theorem dX10_appeal_95 : decode cX10_appeal 95 = .ok (.invokevirtual 140, 3) := dG_dX10_appeal_79.2.2.2.2.2.2.2.2.2.1
theorem dX10_appeal_98 : decode cX10_appeal 98 = .ok (.ireturn, 1) := dG_dX10_appeal_79.2.2.2.2.2.2.2.2.2.2.1
theorem dX10_appeal_99 : decode cX10_appeal 99 = .ok (.aload_n 0, 1) := dG_dX10_appeal_79.2.2.2.2.2.2.2.2.2.2.2
theorem dG_dX10_appeal_100 : (decode cX10_appeal 100 = .ok (.getfield 51, 3)) ∧ (decode cX10_appeal 103 = .ok (.getfield 251, 3)) ∧ (decode cX10_appeal 106 = .ok (.bipush 40, 2)) ∧ (decode cX10_appeal 108 = .ok (.if_icmp .lt 9, 3)) ∧ (decode cX10_appeal 111 = .ok (.aload_n 0, 1)) ∧ (decode cX10_appeal 112 = .ok (.iconst 3, 1)) ∧ (decode cX10_appeal 113 = .ok (.invokevirtual 140, 3)) ∧ (decode cX10_appeal 116 = .ok (.ireturn, 1)) ∧ (decode cX10_appeal 117 = .ok (.aload_n 0, 1)) ∧ (decode cX10_appeal 118 = .ok (.getfield 51, 3)) ∧ (decode cX10_appeal 121 = .ok (.iload_n 1, 1)) ∧ (decode cX10_appeal 122 = .ok (.iload_n 2, 1)) := by decide +kernel
theorem dX10_appeal_100 : decode cX10_appeal 100 = .ok (.getfield 51, 3) := dG_dX10_appeal_100.1
theorem dX10_appeal_103 : decode cX10_appeal 103 = .ok (.getfield 251, 3) := dG_dX10_appeal_100.2.1
theorem dX10_appeal_106 : decode cX10_appeal 106 = .ok (.bipush 40, 2) := dG_dX10_appeal_100.2.2.1
theorem dX10_appeal_108 : decode cX10_appeal 108 = .ok (.if_icmp .lt 9, 3) := dG_dX10_appeal_100.2.2.2.1
theorem dX10_appeal_111 : decode cX10_appeal 111 = .ok (.aload_n 0, 1) := dG_dX10_appeal_100.2.2.2.2.1
theorem dX10_appeal_112 : decode cX10_appeal 112 = .ok (.iconst 3, 1) := dG_dX10_appeal_100.2.2.2.2.2.1
theorem dX10_appeal_113 : decode cX10_appeal 113 = .ok (.invokevirtual 140, 3) := dG_dX10_appeal_100.2.2.2.2.2.2.1
theorem dX10_appeal_116 : decode cX10_appeal 116 = .ok (.ireturn, 1) := dG_dX10_appeal_100.2.2.2.2.2.2.2.1
theorem dX10_appeal_117 : decode cX10_appeal 117 = .ok (.aload_n 0, 1) := dG_dX10_appeal_100.2.2.2.2.2.2.2.2.1
theorem dX10_appeal_118 : decode cX10_appeal 118 = .ok (.getfield 51, 3) := dG_dX10_appeal_100.2.2.2.2.2.2.2.2.2.1
theorem dX10_appeal_121 : decode cX10_appeal 121 = .ok (.iload_n 1, 1) := dG_dX10_appeal_100.2.2.2.2.2.2.2.2.2.2.1
theorem dX10_appeal_122 : decode cX10_appeal 122 = .ok (.iload_n 2, 1) := dG_dX10_appeal_100.2.2.2.2.2.2.2.2.2.2.2
theorem dG_dX10_appeal_123 : (decode cX10_appeal 123 = .ok (.iload_n 3, 1)) ∧ (decode cX10_appeal 124 = .ok (.invokevirtual 252, 3)) ∧ (decode cX10_appeal 127 = .ok (.aload_n 0, 1)) ∧ (decode cX10_appeal 128 = .ok (.invokevirtual 160, 3)) ∧ (decode cX10_appeal 131 = .ok (.ireturn, 1)) ∧ (decode cX10_of 0 = .ok (.aload_n 0, 1)) ∧ (decode cX10_of 1 = .ok (.getfield 16, 3)) ∧ (decode cX10_of 4 = .ok (.iload_n 1, 1)) ∧ (decode cX10_of 5 = .ok (.iload_n 2, 1)) ∧ (decode cX10_of 6 = .ok (.invokevirtual 136, 3)) ∧ (decode cX10_of 9 = .ok (.ifCond .eq 14, 3)) ∧ (decode cX10_of 12 = .ok (.aload_n 0, 1)) := by decide +kernel
theorem dX10_appeal_123 : decode cX10_appeal 123 = .ok (.iload_n 3, 1) := dG_dX10_appeal_123.1
theorem dX10_appeal_124 : decode cX10_appeal 124 = .ok (.invokevirtual 252, 3) := dG_dX10_appeal_123.2.1
theorem dX10_appeal_127 : decode cX10_appeal 127 = .ok (.aload_n 0, 1) := dG_dX10_appeal_123.2.2.1
theorem dX10_appeal_128 : decode cX10_appeal 128 = .ok (.invokevirtual 160, 3) := dG_dX10_appeal_123.2.2.2.1
theorem dX10_appeal_131 : decode cX10_appeal 131 = .ok (.ireturn, 1) := dG_dX10_appeal_123.2.2.2.2.1
theorem dX10_of_0 : decode cX10_of 0 = .ok (.aload_n 0, 1) := dG_dX10_appeal_123.2.2.2.2.2.1
theorem dX10_of_1 : decode cX10_of 1 = .ok (.getfield 16, 3) := dG_dX10_appeal_123.2.2.2.2.2.2.1
theorem dX10_of_4 : decode cX10_of 4 = .ok (.iload_n 1, 1) := dG_dX10_appeal_123.2.2.2.2.2.2.2.1
theorem dX10_of_5 : decode cX10_of 5 = .ok (.iload_n 2, 1) := dG_dX10_appeal_123.2.2.2.2.2.2.2.2.1
theorem dX10_of_6 : decode cX10_of 6 = .ok (.invokevirtual 136, 3) := dG_dX10_appeal_123.2.2.2.2.2.2.2.2.2.1
theorem dX10_of_9 : decode cX10_of 9 = .ok (.ifCond .eq 14, 3) := dG_dX10_appeal_123.2.2.2.2.2.2.2.2.2.2.1
theorem dX10_of_12 : decode cX10_of 12 = .ok (.aload_n 0, 1) := dG_dX10_appeal_123.2.2.2.2.2.2.2.2.2.2.2
theorem dG_dX10_of_13 : (decode cX10_of 13 = .ok (.getfield 37, 3)) ∧ (decode cX10_of 16 = .ok (.iload_n 3, 1)) ∧ (decode cX10_of 17 = .ok (.invokevirtual 180, 3)) ∧ (decode cX10_of 20 = .ok (.ifCond .ne 9, 3)) ∧ (decode cX10_of 23 = .ok (.aload_n 0, 1)) ∧ (decode cX10_of 24 = .ok (.iconst 1, 1)) ∧ (decode cX10_of 25 = .ok (.invokevirtual 88, 3)) ∧ (decode cX10_of 28 = .ok (.ireturn, 1)) ∧ (decode cX10_of 29 = .ok (.iload 4, 2)) ∧ (decode cX10_of 31 = .ok (.invokestatic 248, 3)) ∧ (decode cX10_of 34 = .ok (.ifCond .eq 15, 3)) ∧ (decode cX10_of 37 = .ok (.iload 5, 2)) := by decide +kernel
theorem dX10_of_13 : decode cX10_of 13 = .ok (.getfield 37, 3) := dG_dX10_of_13.1
theorem dX10_of_16 : decode cX10_of 16 = .ok (.iload_n 3, 1) := dG_dX10_of_13.2.1
theorem dX10_of_17 : decode cX10_of 17 = .ok (.invokevirtual 180, 3) := dG_dX10_of_13.2.2.1
theorem dX10_of_20 : decode cX10_of 20 = .ok (.ifCond .ne 9, 3) := dG_dX10_of_13.2.2.2.1
theorem dX10_of_23 : decode cX10_of 23 = .ok (.aload_n 0, 1) := dG_dX10_of_13.2.2.2.2.1
theorem dX10_of_24 : decode cX10_of 24 = .ok (.iconst 1, 1) := dG_dX10_of_13.2.2.2.2.2.1
theorem dX10_of_25 : decode cX10_of 25 = .ok (.invokevirtual 88, 3) := dG_dX10_of_13.2.2.2.2.2.2.1
theorem dX10_of_28 : decode cX10_of 28 = .ok (.ireturn, 1) := dG_dX10_of_13.2.2.2.2.2.2.2.1
theorem dX10_of_29 : decode cX10_of 29 = .ok (.iload 4, 2) := dG_dX10_of_13.2.2.2.2.2.2.2.2.1
theorem dX10_of_31 : decode cX10_of 31 = .ok (.invokestatic 248, 3) := dG_dX10_of_13.2.2.2.2.2.2.2.2.2.1
theorem dX10_of_34 : decode cX10_of 34 = .ok (.ifCond .eq 15, 3) := dG_dX10_of_13.2.2.2.2.2.2.2.2.2.2.1
theorem dX10_of_37 : decode cX10_of 37 = .ok (.iload 5, 2) := dG_dX10_of_13.2.2.2.2.2.2.2.2.2.2.2
theorem dG_dX10_of_39 : (decode cX10_of 39 = .ok (.ifCond .lt 10, 3)) ∧ (decode cX10_of 42 = .ok (.iload 5, 2)) ∧ (decode cX10_of 44 = .ok (.bipush 6, 2)) ∧ (decode cX10_of 46 = .ok (.if_icmp .le 9, 3)) ∧ (decode cX10_of 49 = .ok (.aload_n 0, 1)) ∧ (decode cX10_of 50 = .ok (.iconst 2, 1)) ∧ (decode cX10_of 51 = .ok (.invokevirtual 88, 3)) ∧ (decode cX10_of 54 = .ok (.ireturn, 1)) ∧ (decode cX10_of 55 = .ok (.aload_n 0, 1)) ∧ (decode cX10_of 56 = .ok (.getfield 67, 3)) ∧ (decode cX10_of 59 = .ok (.iload 4, 2)) ∧ (decode cX10_of 61 = .ok (.invokevirtual 255, 3)) := by decide +kernel
theorem dX10_of_39 : decode cX10_of 39 = .ok (.ifCond .lt 10, 3) := dG_dX10_of_39.1
theorem dX10_of_42 : decode cX10_of 42 = .ok (.iload 5, 2) := dG_dX10_of_39.2.1
theorem dX10_of_44 : decode cX10_of 44 = .ok (.bipush 6, 2) := dG_dX10_of_39.2.2.1
theorem dX10_of_46 : decode cX10_of 46 = .ok (.if_icmp .le 9, 3) := dG_dX10_of_39.2.2.2.1
theorem dX10_of_49 : decode cX10_of 49 = .ok (.aload_n 0, 1) := dG_dX10_of_39.2.2.2.2.1
theorem dX10_of_50 : decode cX10_of 50 = .ok (.iconst 2, 1) := dG_dX10_of_39.2.2.2.2.2.1
theorem dX10_of_51 : decode cX10_of 51 = .ok (.invokevirtual 88, 3) := dG_dX10_of_39.2.2.2.2.2.2.1
theorem dX10_of_54 : decode cX10_of 54 = .ok (.ireturn, 1) := dG_dX10_of_39.2.2.2.2.2.2.2.1
theorem dX10_of_55 : decode cX10_of 55 = .ok (.aload_n 0, 1) := dG_dX10_of_39.2.2.2.2.2.2.2.2.1
theorem dX10_of_56 : decode cX10_of 56 = .ok (.getfield 67, 3) := dG_dX10_of_39.2.2.2.2.2.2.2.2.2.1
theorem dX10_of_59 : decode cX10_of 59 = .ok (.iload 4, 2) := dG_dX10_of_39.2.2.2.2.2.2.2.2.2.2.1
theorem dX10_of_61 : decode cX10_of 61 = .ok (.invokevirtual 255, 3) := dG_dX10_of_39.2.2.2.2.2.2.2.2.2.2.2
theorem dG_dX10_of_64 : (decode cX10_of 64 = .ok (.aload_n 0, 1)) ∧ (decode cX10_of 65 = .ok (.getfield 67, 3)) ∧ (decode cX10_of 68 = .ok (.iload_n 1, 1)) ∧ (decode cX10_of 69 = .ok (.iload_n 3, 1)) ∧ (decode cX10_of 70 = .ok (.iload_n 2, 1)) ∧ (decode cX10_of 71 = .ok (.invokevirtual 258, 3)) ∧ (decode cX10_of 74 = .ok (.aload_n 0, 1)) ∧ (decode cX10_of 75 = .ok (.iload 5, 2)) ∧ (decode cX10_of 77 = .ok (.bipush 6, 2)) ∧ (decode cX10_of 79 = .ok (.if_icmp .ne 20, 3)) ∧ (decode cX10_of 82 = .ok (.aload_n 0, 1)) ∧ (decode cX10_of 83 = .ok (.getfield 16, 3)) := by decide +kernel
theorem dX10_of_64 : decode cX10_of 64 = .ok (.aload_n 0, 1) := dG_dX10_of_64.1
theorem dX10_of_65 : decode cX10_of 65 = .ok (.getfield 67, 3) := dG_dX10_of_64.2.1
theorem dX10_of_68 : decode cX10_of 68 = .ok (.iload_n 1, 1) := dG_dX10_of_64.2.2.1
theorem dX10_of_69 : decode cX10_of 69 = .ok (.iload_n 3, 1) := dG_dX10_of_64.2.2.2.1
theorem dX10_of_70 : decode cX10_of 70 = .ok (.iload_n 2, 1) := dG_dX10_of_64.2.2.2.2.1
theorem dX10_of_71 : decode cX10_of 71 = .ok (.invokevirtual 258, 3) := dG_dX10_of_64.2.2.2.2.2.1
theorem dX10_of_74 : decode cX10_of 74 = .ok (.aload_n 0, 1) := dG_dX10_of_64.2.2.2.2.2.2.1
theorem dX10_of_75 : decode cX10_of 75 = .ok (.iload 5, 2) := dG_dX10_of_64.2.2.2.2.2.2.2.1
theorem dX10_of_77 : decode cX10_of 77 = .ok (.bipush 6, 2) := dG_dX10_of_64.2.2.2.2.2.2.2.2.1
theorem dX10_of_79 : decode cX10_of 79 = .ok (.if_icmp .ne 20, 3) := dG_dX10_of_64.2.2.2.2.2.2.2.2.2.1
theorem dX10_of_82 : decode cX10_of 82 = .ok (.aload_n 0, 1) := dG_dX10_of_64.2.2.2.2.2.2.2.2.2.2.1
theorem dX10_of_83 : decode cX10_of 83 = .ok (.getfield 16, 3) := dG_dX10_of_64.2.2.2.2.2.2.2.2.2.2.2
theorem dG_dX10_of_86 : (decode cX10_of 86 = .ok (.aload_n 0, 1)) ∧ (decode cX10_of 87 = .ok (.getfield 67, 3)) ∧ (decode cX10_of 90 = .ok (.getfield 261, 3)) ∧ (decode cX10_of 93 = .ok (.invokevirtual 264, 3)) ∧ (decode cX10_of 96 = .ok (.goto 13, 3)) ∧ (decode cX10_of 99 = .ok (.aload_n 0, 1)) ∧ (decode cX10_of 100 = .ok (.getfield 67, 3)) ∧ (decode cX10_of 103 = .ok (.getfield 261, 3)) ∧ (decode cX10_of 106 = .ok (.iload 5, 2)) ∧ (decode cX10_of 108 = .ok (.iaload, 1)) ∧ (decode cX10_of 109 = .ok (.invokevirtual 120, 3)) ∧ (decode cX10_of 112 = .ok (.ireturn, 1)) := by decide +kernel
theorem dX10_of_86 : decode cX10_of 86 = .ok (.aload_n 0, 1) := dG_dX10_of_86.1
theorem dX10_of_87 : decode cX10_of 87 = .ok (.getfield 67, 3) := dG_dX10_of_86.2.1
theorem dX10_of_90 : decode cX10_of 90 = .ok (.getfield 261, 3) := dG_dX10_of_86.2.2.1
theorem dX10_of_93 : decode cX10_of 93 = .ok (.invokevirtual 264, 3) := dG_dX10_of_86.2.2.2.1
theorem dX10_of_96 : decode cX10_of 96 = .ok (.goto 13, 3) := dG_dX10_of_86.2.2.2.2.1
theorem dX10_of_99 : decode cX10_of 99 = .ok (.aload_n 0, 1) := dG_dX10_of_86.2.2.2.2.2.1
theorem dX10_of_100 : decode cX10_of 100 = .ok (.getfield 67, 3) := dG_dX10_of_86.2.2.2.2.2.2.1
theorem dX10_of_103 : decode cX10_of 103 = .ok (.getfield 261, 3) := dG_dX10_of_86.2.2.2.2.2.2.2.1
theorem dX10_of_106 : decode cX10_of 106 = .ok (.iload 5, 2) := dG_dX10_of_86.2.2.2.2.2.2.2.2.1
theorem dX10_of_108 : decode cX10_of 108 = .ok (.iaload, 1) := dG_dX10_of_86.2.2.2.2.2.2.2.2.2.1
theorem dX10_of_109 : decode cX10_of 109 = .ok (.invokevirtual 120, 3) := dG_dX10_of_86.2.2.2.2.2.2.2.2.2.2.1
theorem dX10_of_112 : decode cX10_of 112 = .ok (.ireturn, 1) := dG_dX10_of_86.2.2.2.2.2.2.2.2.2.2.2
theorem dG_dX10_key_0 : (decode cX10_key 0 = .ok (.aload_n 0, 1)) ∧ (decode cX10_key 1 = .ok (.getfield 16, 3)) ∧ (decode cX10_key 4 = .ok (.iload_n 1, 1)) ∧ (decode cX10_key 5 = .ok (.invokevirtual 164, 3)) ∧ (decode cX10_key 8 = .ok (.ifCond .eq 32, 3)) ∧ (decode cX10_key 11 = .ok (.aload_n 0, 1)) ∧ (decode cX10_key 12 = .ok (.getfield 37, 3)) ∧ (decode cX10_key 15 = .ok (.iload_n 1, 1)) ∧ (decode cX10_key 16 = .ok (.iload_n 2, 1)) ∧ (decode cX10_key 17 = .ok (.invokevirtual 268, 3)) ∧ (decode cX10_key 20 = .ok (.ifCond .eq 20, 3)) ∧ (decode cX10_key 23 = .ok (.iload 4, 2)) := by decide +kernel
theorem dX10_key_0 : decode cX10_key 0 = .ok (.aload_n 0, 1) := dG_dX10_key_0.1
theorem dX10_key_1 : decode cX10_key 1 = .ok (.getfield 16, 3) := dG_dX10_key_0.2.1
theorem dX10_key_4 : decode cX10_key 4 = .ok (.iload_n 1, 1) := dG_dX10_key_0.2.2.1
theorem dX10_key_5 : decode cX10_key 5 = .ok (.invokevirtual 164, 3) := dG_dX10_key_0.2.2.2.1
theorem dX10_key_8 : decode cX10_key 8 = .ok (.ifCond .eq 32, 3) := dG_dX10_key_0.2.2.2.2.1
theorem dX10_key_11 : decode cX10_key 11 = .ok (.aload_n 0, 1) := dG_dX10_key_0.2.2.2.2.2.1
theorem dX10_key_12 : decode cX10_key 12 = .ok (.getfield 37, 3) := dG_dX10_key_0.2.2.2.2.2.2.1
theorem dX10_key_15 : decode cX10_key 15 = .ok (.iload_n 1, 1) := dG_dX10_key_0.2.2.2.2.2.2.2.1
theorem dX10_key_16 : decode cX10_key 16 = .ok (.iload_n 2, 1) := dG_dX10_key_0.2.2.2.2.2.2.2.2.1
theorem dX10_key_17 : decode cX10_key 17 = .ok (.invokevirtual 268, 3) := dG_dX10_key_0.2.2.2.2.2.2.2.2.2.1
theorem dX10_key_20 : decode cX10_key 20 = .ok (.ifCond .eq 20, 3) := dG_dX10_key_0.2.2.2.2.2.2.2.2.2.2.1
theorem dX10_key_23 : decode cX10_key 23 = .ok (.iload 4, 2) := dG_dX10_key_0.2.2.2.2.2.2.2.2.2.2.2
theorem dG_dX10_key_25 : (decode cX10_key 25 = .ok (.ifCond .lt 15, 3)) ∧ (decode cX10_key 28 = .ok (.iload 4, 2)) ∧ (decode cX10_key 30 = .ok (.aload_n 0, 1)) ∧ (decode cX10_key 31 = .ok (.getfield 16, 3)) ∧ (decode cX10_key 34 = .ok (.getfield 271, 3)) ∧ (decode cX10_key 37 = .ok (.if_icmp .lt 10, 3)) ∧ (decode cX10_key 40 = .ok (.aload_n 0, 1)) ∧ (decode cX10_key 41 = .ok (.iconst 1, 1)) ∧ (decode cX10_key 42 = .ok (.invokevirtual 88, 3)) ∧ (decode cX10_key 45 = .ok (.i2l, 1)) ∧ (decode cX10_key 46 = .ok (.lreturn, 1)) ∧ (decode cX10_key 47 = .ok (.iload_n 3, 1)) := by decide +kernel
theorem dX10_key_25 : decode cX10_key 25 = .ok (.ifCond .lt 15, 3) := dG_dX10_key_25.1
theorem dX10_key_28 : decode cX10_key 28 = .ok (.iload 4, 2) := dG_dX10_key_25.2.1
theorem dX10_key_30 : decode cX10_key 30 = .ok (.aload_n 0, 1) := dG_dX10_key_25.2.2.1
theorem dX10_key_31 : decode cX10_key 31 = .ok (.getfield 16, 3) := dG_dX10_key_25.2.2.2.1
theorem dX10_key_34 : decode cX10_key 34 = .ok (.getfield 271, 3) := dG_dX10_key_25.2.2.2.2.1
theorem dX10_key_37 : decode cX10_key 37 = .ok (.if_icmp .lt 10, 3) := dG_dX10_key_25.2.2.2.2.2.1
theorem dX10_key_40 : decode cX10_key 40 = .ok (.aload_n 0, 1) := dG_dX10_key_25.2.2.2.2.2.2.1
theorem dX10_key_41 : decode cX10_key 41 = .ok (.iconst 1, 1) := dG_dX10_key_25.2.2.2.2.2.2.2.1
theorem dX10_key_42 : decode cX10_key 42 = .ok (.invokevirtual 88, 3) := dG_dX10_key_25.2.2.2.2.2.2.2.2.1
theorem dX10_key_45 : decode cX10_key 45 = .ok (.i2l, 1) := dG_dX10_key_25.2.2.2.2.2.2.2.2.2.1
theorem dX10_key_46 : decode cX10_key 46 = .ok (.lreturn, 1) := dG_dX10_key_25.2.2.2.2.2.2.2.2.2.2.1
theorem dX10_key_47 : decode cX10_key 47 = .ok (.iload_n 3, 1) := dG_dX10_key_25.2.2.2.2.2.2.2.2.2.2.2
theorem dG_dX10_key_48 : (decode cX10_key 48 = .ok (.invokestatic 248, 3)) ∧ (decode cX10_key 51 = .ok (.ifCond .ne 10, 3)) ∧ (decode cX10_key 54 = .ok (.aload_n 0, 1)) ∧ (decode cX10_key 55 = .ok (.iconst 2, 1)) ∧ (decode cX10_key 56 = .ok (.invokevirtual 88, 3)) ∧ (decode cX10_key 59 = .ok (.i2l, 1)) ∧ (decode cX10_key 60 = .ok (.lreturn, 1)) ∧ (decode cX10_key 61 = .ok (.aload_n 0, 1)) ∧ (decode cX10_key 62 = .ok (.getfield 67, 3)) ∧ (decode cX10_key 65 = .ok (.iload_n 3, 1)) ∧ (decode cX10_key 66 = .ok (.invokevirtual 255, 3)) ∧ (decode cX10_key 69 = .ok (.aload_n 0, 1)) := by decide +kernel
theorem dX10_key_48 : decode cX10_key 48 = .ok (.invokestatic 248, 3) := dG_dX10_key_48.1
theorem dX10_key_51 : decode cX10_key 51 = .ok (.ifCond .ne 10, 3) := dG_dX10_key_48.2.1
theorem dX10_key_54 : decode cX10_key 54 = .ok (.aload_n 0, 1) := dG_dX10_key_48.2.2.1
theorem dX10_key_55 : decode cX10_key 55 = .ok (.iconst 2, 1) := dG_dX10_key_48.2.2.2.1
theorem dX10_key_56 : decode cX10_key 56 = .ok (.invokevirtual 88, 3) := dG_dX10_key_48.2.2.2.2.1
theorem dX10_key_59 : decode cX10_key 59 = .ok (.i2l, 1) := dG_dX10_key_48.2.2.2.2.2.1
theorem dX10_key_60 : decode cX10_key 60 = .ok (.lreturn, 1) := dG_dX10_key_48.2.2.2.2.2.2.1
theorem dX10_key_61 : decode cX10_key 61 = .ok (.aload_n 0, 1) := dG_dX10_key_48.2.2.2.2.2.2.2.1
theorem dX10_key_62 : decode cX10_key 62 = .ok (.getfield 67, 3) := dG_dX10_key_48.2.2.2.2.2.2.2.2.1
theorem dX10_key_65 : decode cX10_key 65 = .ok (.iload_n 3, 1) := dG_dX10_key_48.2.2.2.2.2.2.2.2.2.1
theorem dX10_key_66 : decode cX10_key 66 = .ok (.invokevirtual 255, 3) := dG_dX10_key_48.2.2.2.2.2.2.2.2.2.2.1
theorem dX10_key_69 : decode cX10_key 69 = .ok (.aload_n 0, 1) := dG_dX10_key_48.2.2.2.2.2.2.2.2.2.2.2
theorem dG_dX10_key_70 : (decode cX10_key 70 = .ok (.getfield 67, 3)) ∧ (decode cX10_key 73 = .ok (.iload_n 1, 1)) ∧ (decode cX10_key 74 = .ok (.iload_n 2, 1)) ∧ (decode cX10_key 75 = .ok (.invokevirtual 274, 3)) ∧ (decode cX10_key 78 = .ok (.aload_n 0, 1)) ∧ (decode cX10_key 79 = .ok (.iconst 0, 1)) ∧ (decode cX10_key 80 = .ok (.putfield 71, 3)) ∧ (decode cX10_key 83 = .ok (.aload_n 0, 1)) ∧ (decode cX10_key 84 = .ok (.getfield 67, 3)) ∧ (decode cX10_key 87 = .ok (.iload_n 1, 1)) ∧ (decode cX10_key 88 = .ok (.iload_n 2, 1)) ∧ (decode cX10_key 89 = .ok (.iload 4, 2)) := by decide +kernel
theorem dX10_key_70 : decode cX10_key 70 = .ok (.getfield 67, 3) := dG_dX10_key_70.1
theorem dX10_key_73 : decode cX10_key 73 = .ok (.iload_n 1, 1) := dG_dX10_key_70.2.1
theorem dX10_key_74 : decode cX10_key 74 = .ok (.iload_n 2, 1) := dG_dX10_key_70.2.2.1
theorem dX10_key_75 : decode cX10_key 75 = .ok (.invokevirtual 274, 3) := dG_dX10_key_70.2.2.2.1
theorem dX10_key_78 : decode cX10_key 78 = .ok (.aload_n 0, 1) := dG_dX10_key_70.2.2.2.2.1
theorem dX10_key_79 : decode cX10_key 79 = .ok (.iconst 0, 1) := dG_dX10_key_70.2.2.2.2.2.1
theorem dX10_key_80 : decode cX10_key 80 = .ok (.putfield 71, 3) := dG_dX10_key_70.2.2.2.2.2.2.1
theorem dX10_key_83 : decode cX10_key 83 = .ok (.aload_n 0, 1) := dG_dX10_key_70.2.2.2.2.2.2.2.1
theorem dX10_key_84 : decode cX10_key 84 = .ok (.getfield 67, 3) := dG_dX10_key_70.2.2.2.2.2.2.2.2.1
theorem dX10_key_87 : decode cX10_key 87 = .ok (.iload_n 1, 1) := dG_dX10_key_70.2.2.2.2.2.2.2.2.2.1
theorem dX10_key_88 : decode cX10_key 88 = .ok (.iload_n 2, 1) := dG_dX10_key_70.2.2.2.2.2.2.2.2.2.2.1
theorem dX10_key_89 : decode cX10_key 89 = .ok (.iload 4, 2) := dG_dX10_key_70.2.2.2.2.2.2.2.2.2.2.2
theorem dG_dX10_key_91 : (decode cX10_key 91 = .ok (.invokevirtual 277, 3)) ∧ (decode cX10_key 94 = .ok (.lreturn, 1)) ∧ (decode cX10_rank 0 = .ok (.aload_n 0, 1)) ∧ (decode cX10_rank 1 = .ok (.getfield 16, 3)) ∧ (decode cX10_rank 4 = .ok (.iload_n 1, 1)) ∧ (decode cX10_rank 5 = .ok (.invokevirtual 164, 3)) ∧ (decode cX10_rank 8 = .ok (.ifCond .eq 15, 3)) ∧ (decode cX10_rank 11 = .ok (.aload_n 0, 1)) ∧ (decode cX10_rank 12 = .ok (.getfield 37, 3)) ∧ (decode cX10_rank 15 = .ok (.iload_n 1, 1)) ∧ (decode cX10_rank 16 = .ok (.iload_n 2, 1)) ∧ (decode cX10_rank 17 = .ok (.invokevirtual 268, 3)) := by decide +kernel
theorem dX10_key_91 : decode cX10_key 91 = .ok (.invokevirtual 277, 3) := dG_dX10_key_91.1
theorem dX10_key_94 : decode cX10_key 94 = .ok (.lreturn, 1) := dG_dX10_key_91.2.1
theorem dX10_rank_0 : decode cX10_rank 0 = .ok (.aload_n 0, 1) := dG_dX10_key_91.2.2.1
theorem dX10_rank_1 : decode cX10_rank 1 = .ok (.getfield 16, 3) := dG_dX10_key_91.2.2.2.1
theorem dX10_rank_4 : decode cX10_rank 4 = .ok (.iload_n 1, 1) := dG_dX10_key_91.2.2.2.2.1
theorem dX10_rank_5 : decode cX10_rank 5 = .ok (.invokevirtual 164, 3) := dG_dX10_key_91.2.2.2.2.2.1
theorem dX10_rank_8 : decode cX10_rank 8 = .ok (.ifCond .eq 15, 3) := dG_dX10_key_91.2.2.2.2.2.2.1
theorem dX10_rank_11 : decode cX10_rank 11 = .ok (.aload_n 0, 1) := dG_dX10_key_91.2.2.2.2.2.2.2.1
theorem dX10_rank_12 : decode cX10_rank 12 = .ok (.getfield 37, 3) := dG_dX10_key_91.2.2.2.2.2.2.2.2.1
theorem dX10_rank_15 : decode cX10_rank 15 = .ok (.iload_n 1, 1) := dG_dX10_key_91.2.2.2.2.2.2.2.2.2.1
theorem dX10_rank_16 : decode cX10_rank 16 = .ok (.iload_n 2, 1) := dG_dX10_key_91.2.2.2.2.2.2.2.2.2.2.1
theorem dX10_rank_17 : decode cX10_rank 17 = .ok (.invokevirtual 268, 3) := dG_dX10_key_91.2.2.2.2.2.2.2.2.2.2.2
theorem dG_dX10_rank_20 : (decode cX10_rank 20 = .ok (.ifCond .ne 9, 3)) ∧ (decode cX10_rank 23 = .ok (.aload_n 0, 1)) ∧ (decode cX10_rank 24 = .ok (.iconst 1, 1)) ∧ (decode cX10_rank 25 = .ok (.invokevirtual 88, 3)) ∧ (decode cX10_rank 28 = .ok (.ireturn, 1)) ∧ (decode cX10_rank 29 = .ok (.iload_n 3, 1)) ∧ (decode cX10_rank 30 = .ok (.invokestatic 248, 3)) ∧ (decode cX10_rank 33 = .ok (.ifCond .ne 9, 3)) ∧ (decode cX10_rank 36 = .ok (.aload_n 0, 1)) ∧ (decode cX10_rank 37 = .ok (.iconst 2, 1)) ∧ (decode cX10_rank 38 = .ok (.invokevirtual 88, 3)) ∧ (decode cX10_rank 41 = .ok (.ireturn, 1)) := by decide +kernel
theorem dX10_rank_20 : decode cX10_rank 20 = .ok (.ifCond .ne 9, 3) := dG_dX10_rank_20.1
theorem dX10_rank_23 : decode cX10_rank 23 = .ok (.aload_n 0, 1) := dG_dX10_rank_20.2.1
theorem dX10_rank_24 : decode cX10_rank 24 = .ok (.iconst 1, 1) := dG_dX10_rank_20.2.2.1
theorem dX10_rank_25 : decode cX10_rank 25 = .ok (.invokevirtual 88, 3) := dG_dX10_rank_20.2.2.2.1
theorem dX10_rank_28 : decode cX10_rank 28 = .ok (.ireturn, 1) := dG_dX10_rank_20.2.2.2.2.1
theorem dX10_rank_29 : decode cX10_rank 29 = .ok (.iload_n 3, 1) := dG_dX10_rank_20.2.2.2.2.2.1
theorem dX10_rank_30 : decode cX10_rank 30 = .ok (.invokestatic 248, 3) := dG_dX10_rank_20.2.2.2.2.2.2.1
theorem dX10_rank_33 : decode cX10_rank 33 = .ok (.ifCond .ne 9, 3) := dG_dX10_rank_20.2.2.2.2.2.2.2.1
theorem dX10_rank_36 : decode cX10_rank 36 = .ok (.aload_n 0, 1) := dG_dX10_rank_20.2.2.2.2.2.2.2.2.1
theorem dX10_rank_37 : decode cX10_rank 37 = .ok (.iconst 2, 1) := dG_dX10_rank_20.2.2.2.2.2.2.2.2.2.1
theorem dX10_rank_38 : decode cX10_rank 38 = .ok (.invokevirtual 88, 3) := dG_dX10_rank_20.2.2.2.2.2.2.2.2.2.2.1
theorem dX10_rank_41 : decode cX10_rank 41 = .ok (.ireturn, 1) := dG_dX10_rank_20.2.2.2.2.2.2.2.2.2.2.2
theorem dG_dX10_rank_42 : (decode cX10_rank 42 = .ok (.aload_n 0, 1)) ∧ (decode cX10_rank 43 = .ok (.getfield 67, 3)) ∧ (decode cX10_rank 46 = .ok (.iload_n 1, 1)) ∧ (decode cX10_rank 47 = .ok (.iload_n 3, 1)) ∧ (decode cX10_rank 48 = .ok (.invokevirtual 281, 3)) ∧ (decode cX10_rank 51 = .ok (.aload_n 0, 1)) ∧ (decode cX10_rank 52 = .ok (.aload_n 0, 1)) ∧ (decode cX10_rank 53 = .ok (.getfield 67, 3)) ∧ (decode cX10_rank 56 = .ok (.getfield 284, 3)) ∧ (decode cX10_rank 59 = .ok (.iload_n 2, 1)) ∧ (decode cX10_rank 60 = .ok (.iaload, 1)) ∧ (decode cX10_rank 61 = .ok (.invokevirtual 120, 3)) := by decide +kernel
theorem dX10_rank_42 : decode cX10_rank 42 = .ok (.aload_n 0, 1) := dG_dX10_rank_42.1
theorem dX10_rank_43 : decode cX10_rank 43 = .ok (.getfield 67, 3) := dG_dX10_rank_42.2.1
theorem dX10_rank_46 : decode cX10_rank 46 = .ok (.iload_n 1, 1) := dG_dX10_rank_42.2.2.1
theorem dX10_rank_47 : decode cX10_rank 47 = .ok (.iload_n 3, 1) := dG_dX10_rank_42.2.2.2.1
theorem dX10_rank_48 : decode cX10_rank 48 = .ok (.invokevirtual 281, 3) := dG_dX10_rank_42.2.2.2.2.1
theorem dX10_rank_51 : decode cX10_rank 51 = .ok (.aload_n 0, 1) := dG_dX10_rank_42.2.2.2.2.2.1
theorem dX10_rank_52 : decode cX10_rank 52 = .ok (.aload_n 0, 1) := dG_dX10_rank_42.2.2.2.2.2.2.1
theorem dX10_rank_53 : decode cX10_rank 53 = .ok (.getfield 67, 3) := dG_dX10_rank_42.2.2.2.2.2.2.2.1
theorem dX10_rank_56 : decode cX10_rank 56 = .ok (.getfield 284, 3) := dG_dX10_rank_42.2.2.2.2.2.2.2.2.1
theorem dX10_rank_59 : decode cX10_rank 59 = .ok (.iload_n 2, 1) := dG_dX10_rank_42.2.2.2.2.2.2.2.2.2.1
theorem dX10_rank_60 : decode cX10_rank 60 = .ok (.iaload, 1) := dG_dX10_rank_42.2.2.2.2.2.2.2.2.2.2.1
theorem dX10_rank_61 : decode cX10_rank 61 = .ok (.invokevirtual 120, 3) := dG_dX10_rank_42.2.2.2.2.2.2.2.2.2.2.2
theorem dG_dX10_rank_64 : (decode cX10_rank 64 = .ok (.ireturn, 1)) ∧ (decode cX10_advance 0 = .ok (.iload_n 1, 1)) ∧ (decode cX10_advance 1 = .ok (.iconst 1, 1)) ∧ (decode cX10_advance 2 = .ok (.if_icmp .lt 16, 3)) ∧ (decode cX10_advance 5 = .ok (.iload_n 1, 1)) ∧ (decode cX10_advance 6 = .ok (.bipush 16, 2)) ∧ (decode cX10_advance 8 = .ok (.if_icmp .gt 10, 3)) ∧ (decode cX10_advance 11 = .ok (.iload_n 2, 1)) ∧ (decode cX10_advance 12 = .ok (.invokestatic 248, 3)) ∧ (decode cX10_advance 15 = .ok (.ifCond .ne 9, 3)) ∧ (decode cX10_advance 18 = .ok (.aload_n 0, 1)) ∧ (decode cX10_advance 19 = .ok (.iconst 2, 1)) := by decide +kernel
theorem dX10_rank_64 : decode cX10_rank 64 = .ok (.ireturn, 1) := dG_dX10_rank_64.1
theorem dX10_advance_0 : decode cX10_advance 0 = .ok (.iload_n 1, 1) := dG_dX10_rank_64.2.1
theorem dX10_advance_1 : decode cX10_advance 1 = .ok (.iconst 1, 1) := dG_dX10_rank_64.2.2.1
theorem dX10_advance_2 : decode cX10_advance 2 = .ok (.if_icmp .lt 16, 3) := dG_dX10_rank_64.2.2.2.1
theorem dX10_advance_5 : decode cX10_advance 5 = .ok (.iload_n 1, 1) := dG_dX10_rank_64.2.2.2.2.1
theorem dX10_advance_6 : decode cX10_advance 6 = .ok (.bipush 16, 2) := dG_dX10_rank_64.2.2.2.2.2.1
theorem dX10_advance_8 : decode cX10_advance 8 = .ok (.if_icmp .gt 10, 3) := dG_dX10_rank_64.2.2.2.2.2.2.1
theorem dX10_advance_11 : decode cX10_advance 11 = .ok (.iload_n 2, 1) := dG_dX10_rank_64.2.2.2.2.2.2.2.1
theorem dX10_advance_12 : decode cX10_advance 12 = .ok (.invokestatic 248, 3) := dG_dX10_rank_64.2.2.2.2.2.2.2.2.1
theorem dX10_advance_15 : decode cX10_advance 15 = .ok (.ifCond .ne 9, 3) := dG_dX10_rank_64.2.2.2.2.2.2.2.2.2.1
theorem dX10_advance_18 : decode cX10_advance 18 = .ok (.aload_n 0, 1) := dG_dX10_rank_64.2.2.2.2.2.2.2.2.2.2.1
theorem dX10_advance_19 : decode cX10_advance 19 = .ok (.iconst 2, 1) := dG_dX10_rank_64.2.2.2.2.2.2.2.2.2.2.2
theorem dG_dX10_advance_20 : (decode cX10_advance 20 = .ok (.invokevirtual 88, 3)) ∧ (decode cX10_advance 23 = .ok (.ireturn, 1)) ∧ (decode cX10_advance 24 = .ok (.aload_n 0, 1)) ∧ (decode cX10_advance 25 = .ok (.getfield 44, 3)) ∧ (decode cX10_advance 28 = .ok (.invokevirtual 287, 3)) ∧ (decode cX10_advance 31 = .ok (.ifCond .eq 9, 3)) ∧ (decode cX10_advance 34 = .ok (.aload_n 0, 1)) ∧ (decode cX10_advance 35 = .ok (.iconst 5, 1)) ∧ (decode cX10_advance 36 = .ok (.invokevirtual 88, 3)) ∧ (decode cX10_advance 39 = .ok (.ireturn, 1)) ∧ (decode cX10_advance 40 = .ok (.aload_n 0, 1)) ∧ (decode cX10_advance 41 = .ok (.getfield 37, 3)) := by decide +kernel
theorem dX10_advance_20 : decode cX10_advance 20 = .ok (.invokevirtual 88, 3) := dG_dX10_advance_20.1
theorem dX10_advance_23 : decode cX10_advance 23 = .ok (.ireturn, 1) := dG_dX10_advance_20.2.1
theorem dX10_advance_24 : decode cX10_advance 24 = .ok (.aload_n 0, 1) := dG_dX10_advance_20.2.2.1
theorem dX10_advance_25 : decode cX10_advance 25 = .ok (.getfield 44, 3) := dG_dX10_advance_20.2.2.2.1
theorem dX10_advance_28 : decode cX10_advance 28 = .ok (.invokevirtual 287, 3) := dG_dX10_advance_20.2.2.2.2.1
theorem dX10_advance_31 : decode cX10_advance 31 = .ok (.ifCond .eq 9, 3) := dG_dX10_advance_20.2.2.2.2.2.1
theorem dX10_advance_34 : decode cX10_advance 34 = .ok (.aload_n 0, 1) := dG_dX10_advance_20.2.2.2.2.2.2.1
theorem dX10_advance_35 : decode cX10_advance 35 = .ok (.iconst 5, 1) := dG_dX10_advance_20.2.2.2.2.2.2.2.1
theorem dX10_advance_36 : decode cX10_advance 36 = .ok (.invokevirtual 88, 3) := dG_dX10_advance_20.2.2.2.2.2.2.2.2.1
theorem dX10_advance_39 : decode cX10_advance 39 = .ok (.ireturn, 1) := dG_dX10_advance_20.2.2.2.2.2.2.2.2.2.1
theorem dX10_advance_40 : decode cX10_advance 40 = .ok (.aload_n 0, 1) := dG_dX10_advance_20.2.2.2.2.2.2.2.2.2.2.1
theorem dX10_advance_41 : decode cX10_advance 41 = .ok (.getfield 37, 3) := dG_dX10_advance_20.2.2.2.2.2.2.2.2.2.2.2
theorem dG_dX10_advance_44 : (decode cX10_advance 44 = .ok (.getfield 123, 3)) ∧ (decode cX10_advance 47 = .ok (.ifCond .eq 22, 3)) ∧ (decode cX10_advance 50 = .ok (.aload_n 0, 1)) ∧ (decode cX10_advance 51 = .ok (.getfield 37, 3)) ∧ (decode cX10_advance 54 = .ok (.getfield 129, 3)) ∧ (decode cX10_advance 57 = .ok (.iconst 1, 1)) ∧ (decode cX10_advance 58 = .ok (.iadd, 1)) ∧ (decode cX10_advance 59 = .ok (.aload_n 0, 1)) ∧ (decode cX10_advance 60 = .ok (.getfield 16, 3)) ∧ (decode cX10_advance 63 = .ok (.getfield 117, 3)) ∧ (decode cX10_advance 66 = .ok (.if_icmp .lt 10, 3)) ∧ (decode cX10_advance 69 = .ok (.aload_n 0, 1)) := by decide +kernel
theorem dX10_advance_44 : decode cX10_advance 44 = .ok (.getfield 123, 3) := dG_dX10_advance_44.1
theorem dX10_advance_47 : decode cX10_advance 47 = .ok (.ifCond .eq 22, 3) := dG_dX10_advance_44.2.1
theorem dX10_advance_50 : decode cX10_advance 50 = .ok (.aload_n 0, 1) := dG_dX10_advance_44.2.2.1
theorem dX10_advance_51 : decode cX10_advance 51 = .ok (.getfield 37, 3) := dG_dX10_advance_44.2.2.2.1
theorem dX10_advance_54 : decode cX10_advance 54 = .ok (.getfield 129, 3) := dG_dX10_advance_44.2.2.2.2.1
theorem dX10_advance_57 : decode cX10_advance 57 = .ok (.iconst 1, 1) := dG_dX10_advance_44.2.2.2.2.2.1
theorem dX10_advance_58 : decode cX10_advance 58 = .ok (.iadd, 1) := dG_dX10_advance_44.2.2.2.2.2.2.1
theorem dX10_advance_59 : decode cX10_advance 59 = .ok (.aload_n 0, 1) := dG_dX10_advance_44.2.2.2.2.2.2.2.1
theorem dX10_advance_60 : decode cX10_advance 60 = .ok (.getfield 16, 3) := dG_dX10_advance_44.2.2.2.2.2.2.2.2.1
theorem dX10_advance_63 : decode cX10_advance 63 = .ok (.getfield 117, 3) := dG_dX10_advance_44.2.2.2.2.2.2.2.2.2.1
theorem dX10_advance_66 : decode cX10_advance 66 = .ok (.if_icmp .lt 10, 3) := dG_dX10_advance_44.2.2.2.2.2.2.2.2.2.2.1
theorem dX10_advance_69 : decode cX10_advance 69 = .ok (.aload_n 0, 1) := dG_dX10_advance_44.2.2.2.2.2.2.2.2.2.2.2
theorem dG_dX10_advance_70 : (decode cX10_advance 70 = .ok (.bipush 10, 2)) ∧ (decode cX10_advance 72 = .ok (.invokevirtual 88, 3)) ∧ (decode cX10_advance 75 = .ok (.ireturn, 1)) ∧ (decode cX10_advance 76 = .ok (.aload_n 0, 1)) ∧ (decode cX10_advance 77 = .ok (.getfield 67, 3)) ∧ (decode cX10_advance 80 = .ok (.aload_n 0, 1)) ∧ (decode cX10_advance 81 = .ok (.getfield 37, 3)) ∧ (decode cX10_advance 84 = .ok (.getfield 129, 3)) ∧ (decode cX10_advance 87 = .ok (.iload_n 2, 1)) ∧ (decode cX10_advance 88 = .ok (.invokevirtual 281, 3)) ∧ (decode cX10_advance 91 = .ok (.aload_n 0, 1)) ∧ (decode cX10_advance 92 = .ok (.getfield 37, 3)) := by decide +kernel
theorem dX10_advance_70 : decode cX10_advance 70 = .ok (.bipush 10, 2) := dG_dX10_advance_70.1
theorem dX10_advance_72 : decode cX10_advance 72 = .ok (.invokevirtual 88, 3) := dG_dX10_advance_70.2.1
theorem dX10_advance_75 : decode cX10_advance 75 = .ok (.ireturn, 1) := dG_dX10_advance_70.2.2.1
theorem dX10_advance_76 : decode cX10_advance 76 = .ok (.aload_n 0, 1) := dG_dX10_advance_70.2.2.2.1
theorem dX10_advance_77 : decode cX10_advance 77 = .ok (.getfield 67, 3) := dG_dX10_advance_70.2.2.2.2.1
theorem dX10_advance_80 : decode cX10_advance 80 = .ok (.aload_n 0, 1) := dG_dX10_advance_70.2.2.2.2.2.1
theorem dX10_advance_81 : decode cX10_advance 81 = .ok (.getfield 37, 3) := dG_dX10_advance_70.2.2.2.2.2.2.1
theorem dX10_advance_84 : decode cX10_advance 84 = .ok (.getfield 129, 3) := dG_dX10_advance_70.2.2.2.2.2.2.2.1
theorem dX10_advance_87 : decode cX10_advance 87 = .ok (.iload_n 2, 1) := dG_dX10_advance_70.2.2.2.2.2.2.2.2.1
theorem dX10_advance_88 : decode cX10_advance 88 = .ok (.invokevirtual 281, 3) := dG_dX10_advance_70.2.2.2.2.2.2.2.2.2.1
theorem dX10_advance_91 : decode cX10_advance 91 = .ok (.aload_n 0, 1) := dG_dX10_advance_70.2.2.2.2.2.2.2.2.2.2.1
theorem dX10_advance_92 : decode cX10_advance 92 = .ok (.getfield 37, 3) := dG_dX10_advance_70.2.2.2.2.2.2.2.2.2.2.2
theorem dG_dX10_advance_95 : (decode cX10_advance 95 = .ok (.aload_n 0, 1)) ∧ (decode cX10_advance 96 = .ok (.getfield 67, 3)) ∧ (decode cX10_advance 99 = .ok (.getfield 284, 3)) ∧ (decode cX10_advance 102 = .ok (.iload_n 1, 1)) ∧ (decode cX10_advance 103 = .ok (.iload_n 2, 1)) ∧ (decode cX10_advance 104 = .ok (.invokevirtual 290, 3)) ∧ (decode cX10_advance 107 = .ok (.istore_n 3, 1)) ∧ (decode cX10_advance 108 = .ok (.aload_n 0, 1)) ∧ (decode cX10_advance 109 = .ok (.getfield 58, 3)) ∧ (decode cX10_advance 112 = .ok (.invokevirtual 113, 3)) ∧ (decode cX10_advance 115 = .ok (.aload_n 0, 1)) ∧ (decode cX10_advance 116 = .ok (.iload_n 3, 1)) := by decide +kernel
theorem dX10_advance_95 : decode cX10_advance 95 = .ok (.aload_n 0, 1) := dG_dX10_advance_95.1
theorem dX10_advance_96 : decode cX10_advance 96 = .ok (.getfield 67, 3) := dG_dX10_advance_95.2.1
theorem dX10_advance_99 : decode cX10_advance 99 = .ok (.getfield 284, 3) := dG_dX10_advance_95.2.2.1
theorem dX10_advance_102 : decode cX10_advance 102 = .ok (.iload_n 1, 1) := dG_dX10_advance_95.2.2.2.1
theorem dX10_advance_103 : decode cX10_advance 103 = .ok (.iload_n 2, 1) := dG_dX10_advance_95.2.2.2.2.1
theorem dX10_advance_104 : decode cX10_advance 104 = .ok (.invokevirtual 290, 3) := dG_dX10_advance_95.2.2.2.2.2.1
theorem dX10_advance_107 : decode cX10_advance 107 = .ok (.istore_n 3, 1) := dG_dX10_advance_95.2.2.2.2.2.2.1
theorem dX10_advance_108 : decode cX10_advance 108 = .ok (.aload_n 0, 1) := dG_dX10_advance_95.2.2.2.2.2.2.2.1
theorem dX10_advance_109 : decode cX10_advance 109 = .ok (.getfield 58, 3) := dG_dX10_advance_95.2.2.2.2.2.2.2.2.1
theorem dX10_advance_112 : decode cX10_advance 112 = .ok (.invokevirtual 113, 3) := dG_dX10_advance_95.2.2.2.2.2.2.2.2.2.1
theorem dX10_advance_115 : decode cX10_advance 115 = .ok (.aload_n 0, 1) := dG_dX10_advance_95.2.2.2.2.2.2.2.2.2.2.1
theorem dX10_advance_116 : decode cX10_advance 116 = .ok (.iload_n 3, 1) := dG_dX10_advance_95.2.2.2.2.2.2.2.2.2.2.2
theorem dG_dX10_advance_117 : (decode cX10_advance 117 = .ok (.invokevirtual 120, 3)) ∧ (decode cX10_advance 120 = .ok (.ireturn, 1)) ∧ (decode cX10_order 0 = .ok (.aload_n 0, 1)) ∧ (decode cX10_order 1 = .ok (.getfield 16, 3)) ∧ (decode cX10_order 4 = .ok (.iload_n 1, 1)) ∧ (decode cX10_order 5 = .ok (.invokevirtual 164, 3)) ∧ (decode cX10_order 8 = .ok (.ifCond .eq 19, 3)) ∧ (decode cX10_order 11 = .ok (.iload_n 2, 1)) ∧ (decode cX10_order 12 = .ok (.ifCond .lt 15, 3)) ∧ (decode cX10_order 15 = .ok (.iload_n 2, 1)) ∧ (decode cX10_order 16 = .ok (.aload_n 0, 1)) ∧ (decode cX10_order 17 = .ok (.getfield 37, 3)) := by decide +kernel
theorem dX10_advance_117 : decode cX10_advance 117 = .ok (.invokevirtual 120, 3) := dG_dX10_advance_117.1
theorem dX10_advance_120 : decode cX10_advance 120 = .ok (.ireturn, 1) := dG_dX10_advance_117.2.1
theorem dX10_order_0 : decode cX10_order 0 = .ok (.aload_n 0, 1) := dG_dX10_advance_117.2.2.1
theorem dX10_order_1 : decode cX10_order 1 = .ok (.getfield 16, 3) := dG_dX10_advance_117.2.2.2.1
theorem dX10_order_4 : decode cX10_order 4 = .ok (.iload_n 1, 1) := dG_dX10_advance_117.2.2.2.2.1
theorem dX10_order_5 : decode cX10_order 5 = .ok (.invokevirtual 164, 3) := dG_dX10_advance_117.2.2.2.2.2.1
theorem dX10_order_8 : decode cX10_order 8 = .ok (.ifCond .eq 19, 3) := dG_dX10_advance_117.2.2.2.2.2.2.1
theorem dX10_order_11 : decode cX10_order 11 = .ok (.iload_n 2, 1) := dG_dX10_advance_117.2.2.2.2.2.2.2.1
theorem dX10_order_12 : decode cX10_order 12 = .ok (.ifCond .lt 15, 3) := dG_dX10_advance_117.2.2.2.2.2.2.2.2.1
theorem dX10_order_15 : decode cX10_order 15 = .ok (.iload_n 2, 1) := dG_dX10_advance_117.2.2.2.2.2.2.2.2.2.1
theorem dX10_order_16 : decode cX10_order 16 = .ok (.aload_n 0, 1) := dG_dX10_advance_117.2.2.2.2.2.2.2.2.2.2.1
theorem dX10_order_17 : decode cX10_order 17 = .ok (.getfield 37, 3) := dG_dX10_advance_117.2.2.2.2.2.2.2.2.2.2.2
theorem dG_dX10_order_20 : (decode cX10_order 20 = .ok (.iload_n 1, 1)) ∧ (decode cX10_order 21 = .ok (.invokevirtual 167, 3)) ∧ (decode cX10_order 24 = .ok (.if_icmp .lt 9, 3)) ∧ (decode cX10_order 27 = .ok (.aload_n 0, 1)) ∧ (decode cX10_order 28 = .ok (.iconst 1, 1)) ∧ (decode cX10_order 29 = .ok (.invokevirtual 88, 3)) ∧ (decode cX10_order 32 = .ok (.ireturn, 1)) ∧ (decode cX10_order 33 = .ok (.iload_n 1, 1)) ∧ (decode cX10_order 34 = .ok (.ifCond .ne 9, 3)) ∧ (decode cX10_order 37 = .ok (.aload_n 0, 1)) ∧ (decode cX10_order 38 = .ok (.iload_n 2, 1)) ∧ (decode cX10_order 39 = .ok (.invokevirtual 120, 3)) := by decide +kernel
theorem dX10_order_20 : decode cX10_order 20 = .ok (.iload_n 1, 1) := dG_dX10_order_20.1
theorem dX10_order_21 : decode cX10_order 21 = .ok (.invokevirtual 167, 3) := dG_dX10_order_20.2.1
theorem dX10_order_24 : decode cX10_order 24 = .ok (.if_icmp .lt 9, 3) := dG_dX10_order_20.2.2.1
theorem dX10_order_27 : decode cX10_order 27 = .ok (.aload_n 0, 1) := dG_dX10_order_20.2.2.2.1
theorem dX10_order_28 : decode cX10_order 28 = .ok (.iconst 1, 1) := dG_dX10_order_20.2.2.2.2.1
theorem dX10_order_29 : decode cX10_order 29 = .ok (.invokevirtual 88, 3) := dG_dX10_order_20.2.2.2.2.2.1
theorem dX10_order_32 : decode cX10_order 32 = .ok (.ireturn, 1) := dG_dX10_order_20.2.2.2.2.2.2.1
theorem dX10_order_33 : decode cX10_order 33 = .ok (.iload_n 1, 1) := dG_dX10_order_20.2.2.2.2.2.2.2.1
theorem dX10_order_34 : decode cX10_order 34 = .ok (.ifCond .ne 9, 3) := dG_dX10_order_20.2.2.2.2.2.2.2.2.1
theorem dX10_order_37 : decode cX10_order 37 = .ok (.aload_n 0, 1) := dG_dX10_order_20.2.2.2.2.2.2.2.2.2.1
theorem dX10_order_38 : decode cX10_order 38 = .ok (.iload_n 2, 1) := dG_dX10_order_20.2.2.2.2.2.2.2.2.2.2.1
theorem dX10_order_39 : decode cX10_order 39 = .ok (.invokevirtual 120, 3) := dG_dX10_order_20.2.2.2.2.2.2.2.2.2.2.2
theorem dG_dX10_order_42 : (decode cX10_order 42 = .ok (.ireturn, 1)) ∧ (decode cX10_order 43 = .ok (.aload_n 0, 1)) ∧ (decode cX10_order 44 = .ok (.getfield 67, 3)) ∧ (decode cX10_order 47 = .ok (.iload_n 1, 1)) ∧ (decode cX10_order 48 = .ok (.iconst 1, 1)) ∧ (decode cX10_order 49 = .ok (.isub, 1)) ∧ (decode cX10_order 50 = .ok (.aload_n 0, 1)) ∧ (decode cX10_order 51 = .ok (.getfield 37, 3)) ∧ (decode cX10_order 54 = .ok (.iload_n 1, 1)) ∧ (decode cX10_order 55 = .ok (.invokevirtual 294, 3)) ∧ (decode cX10_order 58 = .ok (.invokevirtual 281, 3)) ∧ (decode cX10_order 61 = .ok (.aload_n 0, 1)) := by decide +kernel
theorem dX10_order_42 : decode cX10_order 42 = .ok (.ireturn, 1) := dG_dX10_order_42.1
theorem dX10_order_43 : decode cX10_order 43 = .ok (.aload_n 0, 1) := dG_dX10_order_42.2.1
theorem dX10_order_44 : decode cX10_order 44 = .ok (.getfield 67, 3) := dG_dX10_order_42.2.2.1
theorem dX10_order_47 : decode cX10_order 47 = .ok (.iload_n 1, 1) := dG_dX10_order_42.2.2.2.1
theorem dX10_order_48 : decode cX10_order 48 = .ok (.iconst 1, 1) := dG_dX10_order_42.2.2.2.2.1
theorem dX10_order_49 : decode cX10_order 49 = .ok (.isub, 1) := dG_dX10_order_42.2.2.2.2.2.1
theorem dX10_order_50 : decode cX10_order 50 = .ok (.aload_n 0, 1) := dG_dX10_order_42.2.2.2.2.2.2.1
theorem dX10_order_51 : decode cX10_order 51 = .ok (.getfield 37, 3) := dG_dX10_order_42.2.2.2.2.2.2.2.1
theorem dX10_order_54 : decode cX10_order 54 = .ok (.iload_n 1, 1) := dG_dX10_order_42.2.2.2.2.2.2.2.2.1
theorem dX10_order_55 : decode cX10_order 55 = .ok (.invokevirtual 294, 3) := dG_dX10_order_42.2.2.2.2.2.2.2.2.2.1
theorem dX10_order_58 : decode cX10_order 58 = .ok (.invokevirtual 281, 3) := dG_dX10_order_42.2.2.2.2.2.2.2.2.2.2.1
theorem dX10_order_61 : decode cX10_order 61 = .ok (.aload_n 0, 1) := dG_dX10_order_42.2.2.2.2.2.2.2.2.2.2.2
theorem dG_dX10_order_62 : (decode cX10_order 62 = .ok (.aload_n 0, 1)) ∧ (decode cX10_order 63 = .ok (.getfield 67, 3)) ∧ (decode cX10_order 66 = .ok (.iload_n 1, 1)) ∧ (decode cX10_order 67 = .ok (.iload_n 2, 1)) ∧ (decode cX10_order 68 = .ok (.invokevirtual 297, 3)) ∧ (decode cX10_order 71 = .ok (.invokevirtual 120, 3)) ∧ (decode cX10_order 74 = .ok (.ireturn, 1)) ∧ (decode cX10_parts 0 = .ok (.aload_n 0, 1)) ∧ (decode cX10_parts 1 = .ok (.getfield 16, 3)) ∧ (decode cX10_parts 4 = .ok (.iload_n 1, 1)) ∧ (decode cX10_parts 5 = .ok (.invokevirtual 164, 3)) ∧ (decode cX10_parts 8 = .ok (.ifCond .ne 9, 3)) := by decide +kernel
theorem dX10_order_62 : decode cX10_order 62 = .ok (.aload_n 0, 1) := dG_dX10_order_62.1
theorem dX10_order_63 : decode cX10_order 63 = .ok (.getfield 67, 3) := dG_dX10_order_62.2.1
theorem dX10_order_66 : decode cX10_order 66 = .ok (.iload_n 1, 1) := dG_dX10_order_62.2.2.1
theorem dX10_order_67 : decode cX10_order 67 = .ok (.iload_n 2, 1) := dG_dX10_order_62.2.2.2.1
theorem dX10_order_68 : decode cX10_order 68 = .ok (.invokevirtual 297, 3) := dG_dX10_order_62.2.2.2.2.1
theorem dX10_order_71 : decode cX10_order 71 = .ok (.invokevirtual 120, 3) := dG_dX10_order_62.2.2.2.2.2.1
theorem dX10_order_74 : decode cX10_order 74 = .ok (.ireturn, 1) := dG_dX10_order_62.2.2.2.2.2.2.1
theorem dX10_parts_0 : decode cX10_parts 0 = .ok (.aload_n 0, 1) := dG_dX10_order_62.2.2.2.2.2.2.2.1
theorem dX10_parts_1 : decode cX10_parts 1 = .ok (.getfield 16, 3) := dG_dX10_order_62.2.2.2.2.2.2.2.2.1
theorem dX10_parts_4 : decode cX10_parts 4 = .ok (.iload_n 1, 1) := dG_dX10_order_62.2.2.2.2.2.2.2.2.2.1
theorem dX10_parts_5 : decode cX10_parts 5 = .ok (.invokevirtual 164, 3) := dG_dX10_order_62.2.2.2.2.2.2.2.2.2.2.1
theorem dX10_parts_8 : decode cX10_parts 8 = .ok (.ifCond .ne 9, 3) := dG_dX10_order_62.2.2.2.2.2.2.2.2.2.2.2
theorem dG_dX10_parts_11 : (decode cX10_parts 11 = .ok (.aload_n 0, 1)) ∧ (decode cX10_parts 12 = .ok (.iconst 1, 1)) ∧ (decode cX10_parts 13 = .ok (.invokevirtual 88, 3)) ∧ (decode cX10_parts 16 = .ok (.ireturn, 1)) ∧ (decode cX10_parts 17 = .ok (.iload_n 2, 1)) ∧ (decode cX10_parts 18 = .ok (.ifCond .lt 25, 3)) ∧ (decode cX10_parts 21 = .ok (.iload_n 2, 1)) ∧ (decode cX10_parts 22 = .ok (.iconst 1, 1)) ∧ (decode cX10_parts 23 = .ok (.aload_n 0, 1)) ∧ (decode cX10_parts 24 = .ok (.getfield 16, 3)) ∧ (decode cX10_parts 27 = .ok (.iload_n 1, 1)) ∧ (decode cX10_parts 28 = .ok (.iconst 0, 1)) := by decide +kernel
theorem dX10_parts_11 : decode cX10_parts 11 = .ok (.aload_n 0, 1) := dG_dX10_parts_11.1
theorem dX10_parts_12 : decode cX10_parts 12 = .ok (.iconst 1, 1) := dG_dX10_parts_11.2.1
theorem dX10_parts_13 : decode cX10_parts 13 = .ok (.invokevirtual 88, 3) := dG_dX10_parts_11.2.2.1
theorem dX10_parts_16 : decode cX10_parts 16 = .ok (.ireturn, 1) := dG_dX10_parts_11.2.2.2.1
theorem dX10_parts_17 : decode cX10_parts 17 = .ok (.iload_n 2, 1) := dG_dX10_parts_11.2.2.2.2.1
theorem dX10_parts_18 : decode cX10_parts 18 = .ok (.ifCond .lt 25, 3) := dG_dX10_parts_11.2.2.2.2.2.1
theorem dX10_parts_21 : decode cX10_parts 21 = .ok (.iload_n 2, 1) := dG_dX10_parts_11.2.2.2.2.2.2.1
theorem dX10_parts_22 : decode cX10_parts 22 = .ok (.iconst 1, 1) := dG_dX10_parts_11.2.2.2.2.2.2.2.1
theorem dX10_parts_23 : decode cX10_parts 23 = .ok (.aload_n 0, 1) := dG_dX10_parts_11.2.2.2.2.2.2.2.2.1
theorem dX10_parts_24 : decode cX10_parts 24 = .ok (.getfield 16, 3) := dG_dX10_parts_11.2.2.2.2.2.2.2.2.2.1
theorem dX10_parts_27 : decode cX10_parts 27 = .ok (.iload_n 1, 1) := dG_dX10_parts_11.2.2.2.2.2.2.2.2.2.2.1
theorem dX10_parts_28 : decode cX10_parts 28 = .ok (.iconst 0, 1) := dG_dX10_parts_11.2.2.2.2.2.2.2.2.2.2.2
theorem dG_dX10_parts_29 : (decode cX10_parts 29 = .ok (.invokevirtual 170, 3)) ∧ (decode cX10_parts 32 = .ok (.ishl, 1)) ∧ (decode cX10_parts 33 = .ok (.if_icmp .ge 10, 3)) ∧ (decode cX10_parts 36 = .ok (.iload_n 3, 1)) ∧ (decode cX10_parts 37 = .ok (.invokestatic 248, 3)) ∧ (decode cX10_parts 40 = .ok (.ifCond .ne 9, 3)) ∧ (decode cX10_parts 43 = .ok (.aload_n 0, 1)) ∧ (decode cX10_parts 44 = .ok (.iconst 2, 1)) ∧ (decode cX10_parts 45 = .ok (.invokevirtual 88, 3)) ∧ (decode cX10_parts 48 = .ok (.ireturn, 1)) ∧ (decode cX10_parts 49 = .ok (.aload_n 0, 1)) ∧ (decode cX10_parts 50 = .ok (.getfield 67, 3)) := by decide +kernel
theorem dX10_parts_29 : decode cX10_parts 29 = .ok (.invokevirtual 170, 3) := dG_dX10_parts_29.1
theorem dX10_parts_32 : decode cX10_parts 32 = .ok (.ishl, 1) := dG_dX10_parts_29.2.1
theorem dX10_parts_33 : decode cX10_parts 33 = .ok (.if_icmp .ge 10, 3) := dG_dX10_parts_29.2.2.1
theorem dX10_parts_36 : decode cX10_parts 36 = .ok (.iload_n 3, 1) := dG_dX10_parts_29.2.2.2.1
theorem dX10_parts_37 : decode cX10_parts 37 = .ok (.invokestatic 248, 3) := dG_dX10_parts_29.2.2.2.2.1
theorem dX10_parts_40 : decode cX10_parts 40 = .ok (.ifCond .ne 9, 3) := dG_dX10_parts_29.2.2.2.2.2.1
theorem dX10_parts_43 : decode cX10_parts 43 = .ok (.aload_n 0, 1) := dG_dX10_parts_29.2.2.2.2.2.2.1
theorem dX10_parts_44 : decode cX10_parts 44 = .ok (.iconst 2, 1) := dG_dX10_parts_29.2.2.2.2.2.2.2.1
theorem dX10_parts_45 : decode cX10_parts 45 = .ok (.invokevirtual 88, 3) := dG_dX10_parts_29.2.2.2.2.2.2.2.2.1
theorem dX10_parts_48 : decode cX10_parts 48 = .ok (.ireturn, 1) := dG_dX10_parts_29.2.2.2.2.2.2.2.2.2.1
theorem dX10_parts_49 : decode cX10_parts 49 = .ok (.aload_n 0, 1) := dG_dX10_parts_29.2.2.2.2.2.2.2.2.2.2.1
theorem dX10_parts_50 : decode cX10_parts 50 = .ok (.getfield 67, 3) := dG_dX10_parts_29.2.2.2.2.2.2.2.2.2.2.2
theorem dG_dX10_parts_53 : (decode cX10_parts 53 = .ok (.iload_n 1, 1)) ∧ (decode cX10_parts 54 = .ok (.iload_n 3, 1)) ∧ (decode cX10_parts 55 = .ok (.invokevirtual 300, 3)) ∧ (decode cX10_parts 58 = .ok (.aload_n 0, 1)) ∧ (decode cX10_parts 59 = .ok (.aload_n 0, 1)) ∧ (decode cX10_parts 60 = .ok (.getfield 67, 3)) ∧ (decode cX10_parts 63 = .ok (.iload_n 1, 1)) ∧ (decode cX10_parts 64 = .ok (.iload_n 2, 1)) ∧ (decode cX10_parts 65 = .ok (.invokevirtual 303, 3)) ∧ (decode cX10_parts 68 = .ok (.invokevirtual 120, 3)) ∧ (decode cX10_parts 71 = .ok (.ireturn, 1)) ∧ (decode cX10_choose 0 = .ok (.aload_n 0, 1)) := by decide +kernel
theorem dX10_parts_53 : decode cX10_parts 53 = .ok (.iload_n 1, 1) := dG_dX10_parts_53.1
theorem dX10_parts_54 : decode cX10_parts 54 = .ok (.iload_n 3, 1) := dG_dX10_parts_53.2.1
theorem dX10_parts_55 : decode cX10_parts 55 = .ok (.invokevirtual 300, 3) := dG_dX10_parts_53.2.2.1
theorem dX10_parts_58 : decode cX10_parts 58 = .ok (.aload_n 0, 1) := dG_dX10_parts_53.2.2.2.1
theorem dX10_parts_59 : decode cX10_parts 59 = .ok (.aload_n 0, 1) := dG_dX10_parts_53.2.2.2.2.1
theorem dX10_parts_60 : decode cX10_parts 60 = .ok (.getfield 67, 3) := dG_dX10_parts_53.2.2.2.2.2.1
theorem dX10_parts_63 : decode cX10_parts 63 = .ok (.iload_n 1, 1) := dG_dX10_parts_53.2.2.2.2.2.2.1
theorem dX10_parts_64 : decode cX10_parts 64 = .ok (.iload_n 2, 1) := dG_dX10_parts_53.2.2.2.2.2.2.2.1
theorem dX10_parts_65 : decode cX10_parts 65 = .ok (.invokevirtual 303, 3) := dG_dX10_parts_53.2.2.2.2.2.2.2.2.1
theorem dX10_parts_68 : decode cX10_parts 68 = .ok (.invokevirtual 120, 3) := dG_dX10_parts_53.2.2.2.2.2.2.2.2.2.1
theorem dX10_parts_71 : decode cX10_parts 71 = .ok (.ireturn, 1) := dG_dX10_parts_53.2.2.2.2.2.2.2.2.2.2.1
theorem dX10_choose_0 : decode cX10_choose 0 = .ok (.aload_n 0, 1) := dG_dX10_parts_53.2.2.2.2.2.2.2.2.2.2.2
theorem dG_dX10_choose_1 : (decode cX10_choose 1 = .ok (.getfield 16, 3)) ∧ (decode cX10_choose 4 = .ok (.iload_n 1, 1)) ∧ (decode cX10_choose 5 = .ok (.invokevirtual 164, 3)) ∧ (decode cX10_choose 8 = .ok (.ifCond .ne 9, 3)) ∧ (decode cX10_choose 11 = .ok (.aload_n 0, 1)) ∧ (decode cX10_choose 12 = .ok (.iconst 1, 1)) ∧ (decode cX10_choose 13 = .ok (.invokevirtual 88, 3)) ∧ (decode cX10_choose 16 = .ok (.ireturn, 1)) ∧ (decode cX10_choose 17 = .ok (.aload_n 0, 1)) ∧ (decode cX10_choose 18 = .ok (.getfield 16, 3)) ∧ (decode cX10_choose 21 = .ok (.iload_n 1, 1)) ∧ (decode cX10_choose 22 = .ok (.iconst 0, 1)) := by decide +kernel
theorem dX10_choose_1 : decode cX10_choose 1 = .ok (.getfield 16, 3) := dG_dX10_choose_1.1
theorem dX10_choose_4 : decode cX10_choose 4 = .ok (.iload_n 1, 1) := dG_dX10_choose_1.2.1
theorem dX10_choose_5 : decode cX10_choose 5 = .ok (.invokevirtual 164, 3) := dG_dX10_choose_1.2.2.1
theorem dX10_choose_8 : decode cX10_choose 8 = .ok (.ifCond .ne 9, 3) := dG_dX10_choose_1.2.2.2.1
theorem dX10_choose_11 : decode cX10_choose 11 = .ok (.aload_n 0, 1) := dG_dX10_choose_1.2.2.2.2.1
theorem dX10_choose_12 : decode cX10_choose 12 = .ok (.iconst 1, 1) := dG_dX10_choose_1.2.2.2.2.2.1
theorem dX10_choose_13 : decode cX10_choose 13 = .ok (.invokevirtual 88, 3) := dG_dX10_choose_1.2.2.2.2.2.2.1
theorem dX10_choose_16 : decode cX10_choose 16 = .ok (.ireturn, 1) := dG_dX10_choose_1.2.2.2.2.2.2.2.1
theorem dX10_choose_17 : decode cX10_choose 17 = .ok (.aload_n 0, 1) := dG_dX10_choose_1.2.2.2.2.2.2.2.2.1
theorem dX10_choose_18 : decode cX10_choose 18 = .ok (.getfield 16, 3) := dG_dX10_choose_1.2.2.2.2.2.2.2.2.2.1
theorem dX10_choose_21 : decode cX10_choose 21 = .ok (.iload_n 1, 1) := dG_dX10_choose_1.2.2.2.2.2.2.2.2.2.2.1
theorem dX10_choose_22 : decode cX10_choose 22 = .ok (.iconst 0, 1) := dG_dX10_choose_1.2.2.2.2.2.2.2.2.2.2.2
theorem dG_dX10_choose_23 : (decode cX10_choose 23 = .ok (.invokevirtual 170, 3)) ∧ (decode cX10_choose 26 = .ok (.istore 4, 2)) ∧ (decode cX10_choose 28 = .ok (.iload_n 2, 1)) ∧ (decode cX10_choose 29 = .ok (.iconst 1, 1)) ∧ (decode cX10_choose 30 = .ok (.if_icmp .lt 16, 3)) ∧ (decode cX10_choose 33 = .ok (.iload_n 2, 1)) ∧ (decode cX10_choose 34 = .ok (.iload 4, 2)) ∧ (decode cX10_choose 36 = .ok (.if_icmp .gt 10, 3)) ∧ (decode cX10_choose 39 = .ok (.iload_n 3, 1)) ∧ (decode cX10_choose 40 = .ok (.invokestatic 248, 3)) ∧ (decode cX10_choose 43 = .ok (.ifCond .ne 9, 3)) ∧ (decode cX10_choose 46 = .ok (.aload_n 0, 1)) := by decide +kernel
theorem dX10_choose_23 : decode cX10_choose 23 = .ok (.invokevirtual 170, 3) := dG_dX10_choose_23.1
theorem dX10_choose_26 : decode cX10_choose 26 = .ok (.istore 4, 2) := dG_dX10_choose_23.2.1
theorem dX10_choose_28 : decode cX10_choose 28 = .ok (.iload_n 2, 1) := dG_dX10_choose_23.2.2.1
theorem dX10_choose_29 : decode cX10_choose 29 = .ok (.iconst 1, 1) := dG_dX10_choose_23.2.2.2.1
theorem dX10_choose_30 : decode cX10_choose 30 = .ok (.if_icmp .lt 16, 3) := dG_dX10_choose_23.2.2.2.2.1
theorem dX10_choose_33 : decode cX10_choose 33 = .ok (.iload_n 2, 1) := dG_dX10_choose_23.2.2.2.2.2.1
theorem dX10_choose_34 : decode cX10_choose 34 = .ok (.iload 4, 2) := dG_dX10_choose_23.2.2.2.2.2.2.1
theorem dX10_choose_36 : decode cX10_choose 36 = .ok (.if_icmp .gt 10, 3) := dG_dX10_choose_23.2.2.2.2.2.2.2.1
theorem dX10_choose_39 : decode cX10_choose 39 = .ok (.iload_n 3, 1) := dG_dX10_choose_23.2.2.2.2.2.2.2.2.1
theorem dX10_choose_40 : decode cX10_choose 40 = .ok (.invokestatic 248, 3) := dG_dX10_choose_23.2.2.2.2.2.2.2.2.2.1
theorem dX10_choose_43 : decode cX10_choose 43 = .ok (.ifCond .ne 9, 3) := dG_dX10_choose_23.2.2.2.2.2.2.2.2.2.2.1
theorem dX10_choose_46 : decode cX10_choose 46 = .ok (.aload_n 0, 1) := dG_dX10_choose_23.2.2.2.2.2.2.2.2.2.2.2
theorem dG_dX10_choose_47 : (decode cX10_choose 47 = .ok (.iconst 2, 1)) ∧ (decode cX10_choose 48 = .ok (.invokevirtual 88, 3)) ∧ (decode cX10_choose 51 = .ok (.ireturn, 1)) ∧ (decode cX10_choose 52 = .ok (.aload_n 0, 1)) ∧ (decode cX10_choose 53 = .ok (.getfield 67, 3)) ∧ (decode cX10_choose 56 = .ok (.iload_n 1, 1)) ∧ (decode cX10_choose 57 = .ok (.iload_n 3, 1)) ∧ (decode cX10_choose 58 = .ok (.invokevirtual 300, 3)) ∧ (decode cX10_choose 61 = .ok (.aload_n 0, 1)) ∧ (decode cX10_choose 62 = .ok (.aload_n 0, 1)) ∧ (decode cX10_choose 63 = .ok (.getfield 67, 3)) ∧ (decode cX10_choose 66 = .ok (.iload_n 1, 1)) := by decide +kernel
theorem dX10_choose_47 : decode cX10_choose 47 = .ok (.iconst 2, 1) := dG_dX10_choose_47.1
theorem dX10_choose_48 : decode cX10_choose 48 = .ok (.invokevirtual 88, 3) := dG_dX10_choose_47.2.1
theorem dX10_choose_51 : decode cX10_choose 51 = .ok (.ireturn, 1) := dG_dX10_choose_47.2.2.1
theorem dX10_choose_52 : decode cX10_choose 52 = .ok (.aload_n 0, 1) := dG_dX10_choose_47.2.2.2.1
theorem dX10_choose_53 : decode cX10_choose 53 = .ok (.getfield 67, 3) := dG_dX10_choose_47.2.2.2.2.1
theorem dX10_choose_56 : decode cX10_choose 56 = .ok (.iload_n 1, 1) := dG_dX10_choose_47.2.2.2.2.2.1
theorem dX10_choose_57 : decode cX10_choose 57 = .ok (.iload_n 3, 1) := dG_dX10_choose_47.2.2.2.2.2.2.1
theorem dX10_choose_58 : decode cX10_choose 58 = .ok (.invokevirtual 300, 3) := dG_dX10_choose_47.2.2.2.2.2.2.2.1
theorem dX10_choose_61 : decode cX10_choose 61 = .ok (.aload_n 0, 1) := dG_dX10_choose_47.2.2.2.2.2.2.2.2.1
theorem dX10_choose_62 : decode cX10_choose 62 = .ok (.aload_n 0, 1) := dG_dX10_choose_47.2.2.2.2.2.2.2.2.2.1
theorem dX10_choose_63 : decode cX10_choose 63 = .ok (.getfield 67, 3) := dG_dX10_choose_47.2.2.2.2.2.2.2.2.2.2.1
theorem dX10_choose_66 : decode cX10_choose 66 = .ok (.iload_n 1, 1) := dG_dX10_choose_47.2.2.2.2.2.2.2.2.2.2.2
theorem dG_dX10_choose_67 : (decode cX10_choose 67 = .ok (.iload 4, 2)) ∧ (decode cX10_choose 69 = .ok (.iload_n 2, 1)) ∧ (decode cX10_choose 70 = .ok (.invokevirtual 306, 3)) ∧ (decode cX10_choose 73 = .ok (.invokevirtual 120, 3)) ∧ (decode cX10_choose 76 = .ok (.ireturn, 1)) := by decide +kernel
theorem dX10_choose_67 : decode cX10_choose 67 = .ok (.iload 4, 2) := dG_dX10_choose_67.1
theorem dX10_choose_69 : decode cX10_choose 69 = .ok (.iload_n 2, 1) := dG_dX10_choose_67.2.1
theorem dX10_choose_70 : decode cX10_choose 70 = .ok (.invokevirtual 306, 3) := dG_dX10_choose_67.2.2.1
theorem dX10_choose_73 : decode cX10_choose 73 = .ok (.invokevirtual 120, 3) := dG_dX10_choose_67.2.2.2.1
theorem dX10_choose_76 : decode cX10_choose 76 = .ok (.ireturn, 1) := dG_dX10_choose_67.2.2.2.2
end

section
theorem dG_dX4_take_0 : (decode cX4_take 0 = .ok (.aload_n 0, 1)) ∧ (decode cX4_take 1 = .ok (.aload_n 1, 1)) ∧ (decode cX4_take 2 = .ok (.getfield 31, 3)) ∧ (decode cX4_take 5 = .ok (.putfield 31, 3)) ∧ (decode cX4_take 8 = .ok (.aload_n 1, 1)) ∧ (decode cX4_take 9 = .ok (.getfield 9, 3)) ∧ (decode cX4_take 12 = .ok (.iconst 0, 1)) ∧ (decode cX4_take 13 = .ok (.aload_n 0, 1)) ∧ (decode cX4_take 14 = .ok (.getfield 9, 3)) ∧ (decode cX4_take 17 = .ok (.iconst 0, 1)) ∧ (decode cX4_take 18 = .ok (.aload_n 0, 1)) ∧ (decode cX4_take 19 = .ok (.getfield 9, 3)) := by decide +kernel
theorem dX4_take_0 : decode cX4_take 0 = .ok (.aload_n 0, 1) := dG_dX4_take_0.1
theorem dX4_take_1 : decode cX4_take 1 = .ok (.aload_n 1, 1) := dG_dX4_take_0.2.1
theorem dX4_take_2 : decode cX4_take 2 = .ok (.getfield 31, 3) := dG_dX4_take_0.2.2.1
theorem dX4_take_5 : decode cX4_take 5 = .ok (.putfield 31, 3) := dG_dX4_take_0.2.2.2.1
theorem dX4_take_8 : decode cX4_take 8 = .ok (.aload_n 1, 1) := dG_dX4_take_0.2.2.2.2.1
theorem dX4_take_9 : decode cX4_take 9 = .ok (.getfield 9, 3) := dG_dX4_take_0.2.2.2.2.2.1
theorem dX4_take_12 : decode cX4_take 12 = .ok (.iconst 0, 1) := dG_dX4_take_0.2.2.2.2.2.2.1
theorem dX4_take_13 : decode cX4_take 13 = .ok (.aload_n 0, 1) := dG_dX4_take_0.2.2.2.2.2.2.2.1
theorem dX4_take_14 : decode cX4_take 14 = .ok (.getfield 9, 3) := dG_dX4_take_0.2.2.2.2.2.2.2.2.1
theorem dX4_take_17 : decode cX4_take 17 = .ok (.iconst 0, 1) := dG_dX4_take_0.2.2.2.2.2.2.2.2.2.1
theorem dX4_take_18 : decode cX4_take 18 = .ok (.aload_n 0, 1) := dG_dX4_take_0.2.2.2.2.2.2.2.2.2.2.1
theorem dX4_take_19 : decode cX4_take 19 = .ok (.getfield 9, 3) := dG_dX4_take_0.2.2.2.2.2.2.2.2.2.2.2
theorem dG_dX4_take_22 : (decode cX4_take 22 = .ok (.arraylength, 1)) ∧ (decode cX4_take 23 = .ok (.invokestatic 53, 3)) ∧ (decode cX4_take 26 = .ok (.aload_n 1, 1)) ∧ (decode cX4_take 27 = .ok (.getfield 15, 3)) ∧ (decode cX4_take 30 = .ok (.iconst 0, 1)) ∧ (decode cX4_take 31 = .ok (.aload_n 0, 1)) ∧ (decode cX4_take 32 = .ok (.getfield 15, 3)) ∧ (decode cX4_take 35 = .ok (.iconst 0, 1)) ∧ (decode cX4_take 36 = .ok (.aload_n 0, 1)) ∧ (decode cX4_take 37 = .ok (.getfield 15, 3)) ∧ (decode cX4_take 40 = .ok (.arraylength, 1)) ∧ (decode cX4_take 41 = .ok (.invokestatic 53, 3)) := by decide +kernel
theorem dX4_take_22 : decode cX4_take 22 = .ok (.arraylength, 1) := dG_dX4_take_22.1
theorem dX4_take_23 : decode cX4_take 23 = .ok (.invokestatic 53, 3) := dG_dX4_take_22.2.1
theorem dX4_take_26 : decode cX4_take 26 = .ok (.aload_n 1, 1) := dG_dX4_take_22.2.2.1
theorem dX4_take_27 : decode cX4_take 27 = .ok (.getfield 15, 3) := dG_dX4_take_22.2.2.2.1
theorem dX4_take_30 : decode cX4_take 30 = .ok (.iconst 0, 1) := dG_dX4_take_22.2.2.2.2.1
theorem dX4_take_31 : decode cX4_take 31 = .ok (.aload_n 0, 1) := dG_dX4_take_22.2.2.2.2.2.1
theorem dX4_take_32 : decode cX4_take 32 = .ok (.getfield 15, 3) := dG_dX4_take_22.2.2.2.2.2.2.1
theorem dX4_take_35 : decode cX4_take 35 = .ok (.iconst 0, 1) := dG_dX4_take_22.2.2.2.2.2.2.2.1
theorem dX4_take_36 : decode cX4_take 36 = .ok (.aload_n 0, 1) := dG_dX4_take_22.2.2.2.2.2.2.2.2.1
theorem dX4_take_37 : decode cX4_take 37 = .ok (.getfield 15, 3) := dG_dX4_take_22.2.2.2.2.2.2.2.2.2.1
theorem dX4_take_40 : decode cX4_take 40 = .ok (.arraylength, 1) := dG_dX4_take_22.2.2.2.2.2.2.2.2.2.2.1
theorem dX4_take_41 : decode cX4_take 41 = .ok (.invokestatic 53, 3) := dG_dX4_take_22.2.2.2.2.2.2.2.2.2.2.2
theorem dG_dX4_take_44 : (decode cX4_take 44 = .ok (.aload_n 1, 1)) ∧ (decode cX4_take 45 = .ok (.getfield 18, 3)) ∧ (decode cX4_take 48 = .ok (.iconst 0, 1)) ∧ (decode cX4_take 49 = .ok (.aload_n 0, 1)) ∧ (decode cX4_take 50 = .ok (.getfield 18, 3)) ∧ (decode cX4_take 53 = .ok (.iconst 0, 1)) ∧ (decode cX4_take 54 = .ok (.aload_n 0, 1)) ∧ (decode cX4_take 55 = .ok (.getfield 18, 3)) ∧ (decode cX4_take 58 = .ok (.arraylength, 1)) ∧ (decode cX4_take 59 = .ok (.invokestatic 53, 3)) ∧ (decode cX4_take 62 = .ok (.aload_n 0, 1)) ∧ (decode cX4_take 63 = .ok (.aload_n 1, 1)) := by decide +kernel
theorem dX4_take_44 : decode cX4_take 44 = .ok (.aload_n 1, 1) := dG_dX4_take_44.1
theorem dX4_take_45 : decode cX4_take 45 = .ok (.getfield 18, 3) := dG_dX4_take_44.2.1
theorem dX4_take_48 : decode cX4_take 48 = .ok (.iconst 0, 1) := dG_dX4_take_44.2.2.1
theorem dX4_take_49 : decode cX4_take 49 = .ok (.aload_n 0, 1) := dG_dX4_take_44.2.2.2.1
theorem dX4_take_50 : decode cX4_take 50 = .ok (.getfield 18, 3) := dG_dX4_take_44.2.2.2.2.1
theorem dX4_take_53 : decode cX4_take 53 = .ok (.iconst 0, 1) := dG_dX4_take_44.2.2.2.2.2.1
theorem dX4_take_54 : decode cX4_take 54 = .ok (.aload_n 0, 1) := dG_dX4_take_44.2.2.2.2.2.2.1
theorem dX4_take_55 : decode cX4_take 55 = .ok (.getfield 18, 3) := dG_dX4_take_44.2.2.2.2.2.2.2.1
theorem dX4_take_58 : decode cX4_take 58 = .ok (.arraylength, 1) := dG_dX4_take_44.2.2.2.2.2.2.2.2.1
theorem dX4_take_59 : decode cX4_take 59 = .ok (.invokestatic 53, 3) := dG_dX4_take_44.2.2.2.2.2.2.2.2.2.1
theorem dX4_take_62 : decode cX4_take 62 = .ok (.aload_n 0, 1) := dG_dX4_take_44.2.2.2.2.2.2.2.2.2.2.1
theorem dX4_take_63 : decode cX4_take 63 = .ok (.aload_n 1, 1) := dG_dX4_take_44.2.2.2.2.2.2.2.2.2.2.2
theorem dG_dX4_take_64 : (decode cX4_take 64 = .ok (.getfield 35, 3)) ∧ (decode cX4_take 67 = .ok (.putfield 35, 3)) ∧ (decode cX4_take 70 = .ok (.aload_n 1, 1)) ∧ (decode cX4_take 71 = .ok (.getfield 21, 3)) ∧ (decode cX4_take 74 = .ok (.iconst 0, 1)) ∧ (decode cX4_take 75 = .ok (.aload_n 0, 1)) ∧ (decode cX4_take 76 = .ok (.getfield 21, 3)) ∧ (decode cX4_take 79 = .ok (.iconst 0, 1)) ∧ (decode cX4_take 80 = .ok (.aload_n 0, 1)) ∧ (decode cX4_take 81 = .ok (.getfield 21, 3)) ∧ (decode cX4_take 84 = .ok (.arraylength, 1)) ∧ (decode cX4_take 85 = .ok (.invokestatic 53, 3)) := by decide +kernel
theorem dX4_take_64 : decode cX4_take 64 = .ok (.getfield 35, 3) := dG_dX4_take_64.1
theorem dX4_take_67 : decode cX4_take 67 = .ok (.putfield 35, 3) := dG_dX4_take_64.2.1
theorem dX4_take_70 : decode cX4_take 70 = .ok (.aload_n 1, 1) := dG_dX4_take_64.2.2.1
theorem dX4_take_71 : decode cX4_take 71 = .ok (.getfield 21, 3) := dG_dX4_take_64.2.2.2.1
theorem dX4_take_74 : decode cX4_take 74 = .ok (.iconst 0, 1) := dG_dX4_take_64.2.2.2.2.1
theorem dX4_take_75 : decode cX4_take 75 = .ok (.aload_n 0, 1) := dG_dX4_take_64.2.2.2.2.2.1
theorem dX4_take_76 : decode cX4_take 76 = .ok (.getfield 21, 3) := dG_dX4_take_64.2.2.2.2.2.2.1
theorem dX4_take_79 : decode cX4_take 79 = .ok (.iconst 0, 1) := dG_dX4_take_64.2.2.2.2.2.2.2.1
theorem dX4_take_80 : decode cX4_take 80 = .ok (.aload_n 0, 1) := dG_dX4_take_64.2.2.2.2.2.2.2.2.1
theorem dX4_take_81 : decode cX4_take 81 = .ok (.getfield 21, 3) := dG_dX4_take_64.2.2.2.2.2.2.2.2.2.1
theorem dX4_take_84 : decode cX4_take 84 = .ok (.arraylength, 1) := dG_dX4_take_64.2.2.2.2.2.2.2.2.2.2.1
theorem dX4_take_85 : decode cX4_take 85 = .ok (.invokestatic 53, 3) := dG_dX4_take_64.2.2.2.2.2.2.2.2.2.2.2
theorem dG_dX4_take_88 : (decode cX4_take 88 = .ok (.aload_n 1, 1)) ∧ (decode cX4_take 89 = .ok (.getfield 24, 3)) ∧ (decode cX4_take 92 = .ok (.iconst 0, 1)) ∧ (decode cX4_take 93 = .ok (.aload_n 0, 1)) ∧ (decode cX4_take 94 = .ok (.getfield 24, 3)) ∧ (decode cX4_take 97 = .ok (.iconst 0, 1)) ∧ (decode cX4_take 98 = .ok (.aload_n 0, 1)) ∧ (decode cX4_take 99 = .ok (.getfield 24, 3)) ∧ (decode cX4_take 102 = .ok (.arraylength, 1)) ∧ (decode cX4_take 103 = .ok (.invokestatic 53, 3)) ∧ (decode cX4_take 106 = .ok (.aload_n 0, 1)) ∧ (decode cX4_take 107 = .ok (.aload_n 1, 1)) := by decide +kernel
theorem dX4_take_88 : decode cX4_take 88 = .ok (.aload_n 1, 1) := dG_dX4_take_88.1
theorem dX4_take_89 : decode cX4_take 89 = .ok (.getfield 24, 3) := dG_dX4_take_88.2.1
theorem dX4_take_92 : decode cX4_take 92 = .ok (.iconst 0, 1) := dG_dX4_take_88.2.2.1
theorem dX4_take_93 : decode cX4_take 93 = .ok (.aload_n 0, 1) := dG_dX4_take_88.2.2.2.1
theorem dX4_take_94 : decode cX4_take 94 = .ok (.getfield 24, 3) := dG_dX4_take_88.2.2.2.2.1
theorem dX4_take_97 : decode cX4_take 97 = .ok (.iconst 0, 1) := dG_dX4_take_88.2.2.2.2.2.1
theorem dX4_take_98 : decode cX4_take 98 = .ok (.aload_n 0, 1) := dG_dX4_take_88.2.2.2.2.2.2.1
theorem dX4_take_99 : decode cX4_take 99 = .ok (.getfield 24, 3) := dG_dX4_take_88.2.2.2.2.2.2.2.1
theorem dX4_take_102 : decode cX4_take 102 = .ok (.arraylength, 1) := dG_dX4_take_88.2.2.2.2.2.2.2.2.1
theorem dX4_take_103 : decode cX4_take 103 = .ok (.invokestatic 53, 3) := dG_dX4_take_88.2.2.2.2.2.2.2.2.2.1
theorem dX4_take_106 : decode cX4_take 106 = .ok (.aload_n 0, 1) := dG_dX4_take_88.2.2.2.2.2.2.2.2.2.2.1
theorem dX4_take_107 : decode cX4_take 107 = .ok (.aload_n 1, 1) := dG_dX4_take_88.2.2.2.2.2.2.2.2.2.2.2
theorem dG_dX4_take_108 : (decode cX4_take 108 = .ok (.getfield 42, 3)) ∧ (decode cX4_take 111 = .ok (.putfield 42, 3)) ∧ (decode cX4_take 114 = .ok (.aload_n 0, 1)) ∧ (decode cX4_take 115 = .ok (.aload_n 1, 1)) ∧ (decode cX4_take 116 = .ok (.getfield 49, 3)) ∧ (decode cX4_take 119 = .ok (.putfield 49, 3)) ∧ (decode cX4_take 122 = .ok (.return_, 1)) ∧ (decode cX10_load 0 = .ok (.iload_n 1, 1)) ∧ (decode cX10_load 1 = .ok (.ifCond .lt 11, 3)) ∧ (decode cX10_load 4 = .ok (.iload_n 1, 1)) ∧ (decode cX10_load 5 = .ok (.aload_n 0, 1)) ∧ (decode cX10_load 6 = .ok (.getfield 81, 3)) := by decide +kernel
theorem dX4_take_108 : decode cX4_take 108 = .ok (.getfield 42, 3) := dG_dX4_take_108.1
theorem dX4_take_111 : decode cX4_take 111 = .ok (.putfield 42, 3) := dG_dX4_take_108.2.1
theorem dX4_take_114 : decode cX4_take 114 = .ok (.aload_n 0, 1) := dG_dX4_take_108.2.2.1
theorem dX4_take_115 : decode cX4_take 115 = .ok (.aload_n 1, 1) := dG_dX4_take_108.2.2.2.1
theorem dX4_take_116 : decode cX4_take 116 = .ok (.getfield 49, 3) := dG_dX4_take_108.2.2.2.2.1
theorem dX4_take_119 : decode cX4_take 119 = .ok (.putfield 49, 3) := dG_dX4_take_108.2.2.2.2.2.1
theorem dX4_take_122 : decode cX4_take 122 = .ok (.return_, 1) := dG_dX4_take_108.2.2.2.2.2.2.1
theorem dX10_load_0 : decode cX10_load 0 = .ok (.iload_n 1, 1) := dG_dX4_take_108.2.2.2.2.2.2.2.1
theorem dX10_load_1 : decode cX10_load 1 = .ok (.ifCond .lt 11, 3) := dG_dX4_take_108.2.2.2.2.2.2.2.2.1
theorem dX10_load_4 : decode cX10_load 4 = .ok (.iload_n 1, 1) := dG_dX4_take_108.2.2.2.2.2.2.2.2.2.1
theorem dX10_load_5 : decode cX10_load 5 = .ok (.aload_n 0, 1) := dG_dX4_take_108.2.2.2.2.2.2.2.2.2.2.1
theorem dX10_load_6 : decode cX10_load 6 = .ok (.getfield 81, 3) := dG_dX4_take_108.2.2.2.2.2.2.2.2.2.2.2
theorem dG_dX10_load_9 : (decode cX10_load 9 = .ok (.if_icmp .le 9, 3)) ∧ (decode cX10_load 12 = .ok (.aload_n 0, 1)) ∧ (decode cX10_load 13 = .ok (.iconst 2, 1)) ∧ (decode cX10_load 14 = .ok (.invokevirtual 88, 3)) ∧ (decode cX10_load 17 = .ok (.ireturn, 1)) ∧ (decode cX10_load 18 = .ok (.aload_n 0, 1)) ∧ (decode cX10_load 19 = .ok (.getfield 23, 3)) ∧ (decode cX10_load 22 = .ok (.aload_n 0, 1)) ∧ (decode cX10_load 23 = .ok (.getfield 9, 3)) ∧ (decode cX10_load 26 = .ok (.iload_n 1, 1)) ∧ (decode cX10_load 27 = .ok (.invokevirtual 92, 3)) ∧ (decode cX10_load 30 = .ok (.aload_n 0, 1)) := by decide +kernel
theorem dX10_load_9 : decode cX10_load 9 = .ok (.if_icmp .le 9, 3) := dG_dX10_load_9.1
theorem dX10_load_12 : decode cX10_load 12 = .ok (.aload_n 0, 1) := dG_dX10_load_9.2.1
theorem dX10_load_13 : decode cX10_load 13 = .ok (.iconst 2, 1) := dG_dX10_load_9.2.2.1
theorem dX10_load_14 : decode cX10_load 14 = .ok (.invokevirtual 88, 3) := dG_dX10_load_9.2.2.2.1
theorem dX10_load_17 : decode cX10_load 17 = .ok (.ireturn, 1) := dG_dX10_load_9.2.2.2.2.1
theorem dX10_load_18 : decode cX10_load 18 = .ok (.aload_n 0, 1) := dG_dX10_load_9.2.2.2.2.2.1
theorem dX10_load_19 : decode cX10_load 19 = .ok (.getfield 23, 3) := dG_dX10_load_9.2.2.2.2.2.2.1
theorem dX10_load_22 : decode cX10_load 22 = .ok (.aload_n 0, 1) := dG_dX10_load_9.2.2.2.2.2.2.2.1
theorem dX10_load_23 : decode cX10_load 23 = .ok (.getfield 9, 3) := dG_dX10_load_9.2.2.2.2.2.2.2.2.1
theorem dX10_load_26 : decode cX10_load 26 = .ok (.iload_n 1, 1) := dG_dX10_load_9.2.2.2.2.2.2.2.2.2.1
theorem dX10_load_27 : decode cX10_load 27 = .ok (.invokevirtual 92, 3) := dG_dX10_load_9.2.2.2.2.2.2.2.2.2.2.1
theorem dX10_load_30 : decode cX10_load 30 = .ok (.aload_n 0, 1) := dG_dX10_load_9.2.2.2.2.2.2.2.2.2.2.2
theorem dG_dX10_load_31 : (decode cX10_load 31 = .ok (.iconst 0, 1)) ∧ (decode cX10_load 32 = .ok (.putfield 81, 3)) ∧ (decode cX10_load 35 = .ok (.aload_n 0, 1)) ∧ (decode cX10_load 36 = .ok (.aload_n 0, 1)) ∧ (decode cX10_load 37 = .ok (.getfield 23, 3)) ∧ (decode cX10_load 40 = .ok (.getfield 96, 3)) ∧ (decode cX10_load 43 = .ok (.putfield 75, 3)) ∧ (decode cX10_load 46 = .ok (.aload_n 0, 1)) ∧ (decode cX10_load 47 = .ok (.aload_n 0, 1)) ∧ (decode cX10_load 48 = .ok (.getfield 23, 3)) ∧ (decode cX10_load 51 = .ok (.getfield 99, 3)) ∧ (decode cX10_load 54 = .ok (.putfield 78, 3)) := by decide +kernel
theorem dX10_load_31 : decode cX10_load 31 = .ok (.iconst 0, 1) := dG_dX10_load_31.1
theorem dX10_load_32 : decode cX10_load 32 = .ok (.putfield 81, 3) := dG_dX10_load_31.2.1
theorem dX10_load_35 : decode cX10_load 35 = .ok (.aload_n 0, 1) := dG_dX10_load_31.2.2.1
theorem dX10_load_36 : decode cX10_load 36 = .ok (.aload_n 0, 1) := dG_dX10_load_31.2.2.2.1
theorem dX10_load_37 : decode cX10_load 37 = .ok (.getfield 23, 3) := dG_dX10_load_31.2.2.2.2.1
theorem dX10_load_40 : decode cX10_load 40 = .ok (.getfield 96, 3) := dG_dX10_load_31.2.2.2.2.2.1
theorem dX10_load_43 : decode cX10_load 43 = .ok (.putfield 75, 3) := dG_dX10_load_31.2.2.2.2.2.2.1
theorem dX10_load_46 : decode cX10_load 46 = .ok (.aload_n 0, 1) := dG_dX10_load_31.2.2.2.2.2.2.2.1
theorem dX10_load_47 : decode cX10_load 47 = .ok (.aload_n 0, 1) := dG_dX10_load_31.2.2.2.2.2.2.2.2.1
theorem dX10_load_48 : decode cX10_load 48 = .ok (.getfield 23, 3) := dG_dX10_load_31.2.2.2.2.2.2.2.2.2.1
theorem dX10_load_51 : decode cX10_load 51 = .ok (.getfield 99, 3) := dG_dX10_load_31.2.2.2.2.2.2.2.2.2.2.1
theorem dX10_load_54 : decode cX10_load 54 = .ok (.putfield 78, 3) := dG_dX10_load_31.2.2.2.2.2.2.2.2.2.2.2
theorem dG_dX10_load_57 : (decode cX10_load 57 = .ok (.aload_n 0, 1)) ∧ (decode cX10_load 58 = .ok (.getfield 75, 3)) ∧ (decode cX10_load 61 = .ok (.ifCond .eq 10, 3)) ∧ (decode cX10_load 64 = .ok (.aload_n 0, 1)) ∧ (decode cX10_load 65 = .ok (.bipush 10, 2)) ∧ (decode cX10_load 67 = .ok (.invokevirtual 88, 3)) ∧ (decode cX10_load 70 = .ok (.ireturn, 1)) ∧ (decode cX10_load 71 = .ok (.aload_n 0, 1)) ∧ (decode cX10_load 72 = .ok (.getfield 16, 3)) ∧ (decode cX10_load 75 = .ok (.aload_n 0, 1)) ∧ (decode cX10_load 76 = .ok (.getfield 23, 3)) ∧ (decode cX10_load 79 = .ok (.getfield 100, 3)) := by decide +kernel
theorem dX10_load_57 : decode cX10_load 57 = .ok (.aload_n 0, 1) := dG_dX10_load_57.1
theorem dX10_load_58 : decode cX10_load 58 = .ok (.getfield 75, 3) := dG_dX10_load_57.2.1
theorem dX10_load_61 : decode cX10_load 61 = .ok (.ifCond .eq 10, 3) := dG_dX10_load_57.2.2.1
theorem dX10_load_64 : decode cX10_load 64 = .ok (.aload_n 0, 1) := dG_dX10_load_57.2.2.2.1
theorem dX10_load_65 : decode cX10_load 65 = .ok (.bipush 10, 2) := dG_dX10_load_57.2.2.2.2.1
theorem dX10_load_67 : decode cX10_load 67 = .ok (.invokevirtual 88, 3) := dG_dX10_load_57.2.2.2.2.2.1
theorem dX10_load_70 : decode cX10_load 70 = .ok (.ireturn, 1) := dG_dX10_load_57.2.2.2.2.2.2.1
theorem dX10_load_71 : decode cX10_load 71 = .ok (.aload_n 0, 1) := dG_dX10_load_57.2.2.2.2.2.2.2.1
theorem dX10_load_72 : decode cX10_load 72 = .ok (.getfield 16, 3) := dG_dX10_load_57.2.2.2.2.2.2.2.2.1
theorem dX10_load_75 : decode cX10_load 75 = .ok (.aload_n 0, 1) := dG_dX10_load_57.2.2.2.2.2.2.2.2.2.1
theorem dX10_load_76 : decode cX10_load 76 = .ok (.getfield 23, 3) := dG_dX10_load_57.2.2.2.2.2.2.2.2.2.2.1
theorem dX10_load_79 : decode cX10_load 79 = .ok (.getfield 100, 3) := dG_dX10_load_57.2.2.2.2.2.2.2.2.2.2.2
theorem dG_dX10_load_82 : (decode cX10_load 82 = .ok (.invokevirtual 103, 3)) ∧ (decode cX10_load 85 = .ok (.aload_n 0, 1)) ∧ (decode cX10_load 86 = .ok (.getfield 30, 3)) ∧ (decode cX10_load 89 = .ok (.invokevirtual 107, 3)) ∧ (decode cX10_load 92 = .ok (.aload_n 0, 1)) ∧ (decode cX10_load 93 = .ok (.getfield 37, 3)) ∧ (decode cX10_load 96 = .ok (.invokevirtual 110, 3)) ∧ (decode cX10_load 99 = .ok (.aload_n 0, 1)) ∧ (decode cX10_load 100 = .ok (.getfield 44, 3)) ∧ (decode cX10_load 103 = .ok (.invokevirtual 111, 3)) ∧ (decode cX10_load 106 = .ok (.aload_n 0, 1)) ∧ (decode cX10_load 107 = .ok (.getfield 51, 3)) := by decide +kernel
theorem dX10_load_82 : decode cX10_load 82 = .ok (.invokevirtual 103, 3) := dG_dX10_load_82.1
theorem dX10_load_85 : decode cX10_load 85 = .ok (.aload_n 0, 1) := dG_dX10_load_82.2.1
theorem dX10_load_86 : decode cX10_load 86 = .ok (.getfield 30, 3) := dG_dX10_load_82.2.2.1
theorem dX10_load_89 : decode cX10_load 89 = .ok (.invokevirtual 107, 3) := dG_dX10_load_82.2.2.2.1
theorem dX10_load_92 : decode cX10_load 92 = .ok (.aload_n 0, 1) := dG_dX10_load_82.2.2.2.2.1
theorem dX10_load_93 : decode cX10_load 93 = .ok (.getfield 37, 3) := dG_dX10_load_82.2.2.2.2.2.1
theorem dX10_load_96 : decode cX10_load 96 = .ok (.invokevirtual 110, 3) := dG_dX10_load_82.2.2.2.2.2.2.1
theorem dX10_load_99 : decode cX10_load 99 = .ok (.aload_n 0, 1) := dG_dX10_load_82.2.2.2.2.2.2.2.1
theorem dX10_load_100 : decode cX10_load 100 = .ok (.getfield 44, 3) := dG_dX10_load_82.2.2.2.2.2.2.2.2.1
theorem dX10_load_103 : decode cX10_load 103 = .ok (.invokevirtual 111, 3) := dG_dX10_load_82.2.2.2.2.2.2.2.2.2.1
theorem dX10_load_106 : decode cX10_load 106 = .ok (.aload_n 0, 1) := dG_dX10_load_82.2.2.2.2.2.2.2.2.2.2.1
theorem dX10_load_107 : decode cX10_load 107 = .ok (.getfield 51, 3) := dG_dX10_load_82.2.2.2.2.2.2.2.2.2.2.2
theorem dG_dX10_load_110 : (decode cX10_load 110 = .ok (.invokevirtual 112, 3)) ∧ (decode cX10_load 113 = .ok (.aload_n 0, 1)) ∧ (decode cX10_load 114 = .ok (.getfield 58, 3)) ∧ (decode cX10_load 117 = .ok (.invokevirtual 113, 3)) ∧ (decode cX10_load 120 = .ok (.aload_n 0, 1)) ∧ (decode cX10_load 121 = .ok (.iconst 0, 1)) ∧ (decode cX10_load 122 = .ok (.putfield 114, 3)) ∧ (decode cX10_load 125 = .ok (.aload_n 0, 1)) ∧ (decode cX10_load 126 = .ok (.aload_n 0, 1)) ∧ (decode cX10_load 127 = .ok (.getfield 16, 3)) ∧ (decode cX10_load 130 = .ok (.getfield 117, 3)) ∧ (decode cX10_load 133 = .ok (.invokevirtual 120, 3)) := by decide +kernel
theorem dX10_load_110 : decode cX10_load 110 = .ok (.invokevirtual 112, 3) := dG_dX10_load_110.1
theorem dX10_load_113 : decode cX10_load 113 = .ok (.aload_n 0, 1) := dG_dX10_load_110.2.1
theorem dX10_load_114 : decode cX10_load 114 = .ok (.getfield 58, 3) := dG_dX10_load_110.2.2.1
theorem dX10_load_117 : decode cX10_load 117 = .ok (.invokevirtual 113, 3) := dG_dX10_load_110.2.2.2.1
theorem dX10_load_120 : decode cX10_load 120 = .ok (.aload_n 0, 1) := dG_dX10_load_110.2.2.2.2.1
theorem dX10_load_121 : decode cX10_load 121 = .ok (.iconst 0, 1) := dG_dX10_load_110.2.2.2.2.2.1
theorem dX10_load_122 : decode cX10_load 122 = .ok (.putfield 114, 3) := dG_dX10_load_110.2.2.2.2.2.2.1
theorem dX10_load_125 : decode cX10_load 125 = .ok (.aload_n 0, 1) := dG_dX10_load_110.2.2.2.2.2.2.2.1
theorem dX10_load_126 : decode cX10_load 126 = .ok (.aload_n 0, 1) := dG_dX10_load_110.2.2.2.2.2.2.2.2.1
theorem dX10_load_127 : decode cX10_load 127 = .ok (.getfield 16, 3) := dG_dX10_load_110.2.2.2.2.2.2.2.2.2.1
theorem dX10_load_130 : decode cX10_load 130 = .ok (.getfield 117, 3) := dG_dX10_load_110.2.2.2.2.2.2.2.2.2.2.1
theorem dX10_load_133 : decode cX10_load 133 = .ok (.invokevirtual 120, 3) := dG_dX10_load_110.2.2.2.2.2.2.2.2.2.2.2
theorem dX10_load_136 : decode cX10_load 136 = .ok (.ireturn, 1) := by decide +kernel
end

section
set_option maxHeartbeats 4000000 in
set_option maxRecDepth 100000 in
theorem x_Ro_tried (l : Launch) (D : va_G) (k : Nat → ClassId) (A : Nat → Prop) (ad : Nat → Nat) (hD : rwD A k ad) (v : gV) (f g : gF) (a1 : Int) (a2 : Int) (h_a1 : inR a1) (h_a2 : inR a2) : GM l D k A (rwT k ad) yX10_tried cX10_tried 3 (some .int) 1 21 [.ref (ad 0), .int (iI a1), .int (iI a2)] v f g (fun r v1 f1 g1 => ∃ (z : Int) (w25 : Int), r = some (.int (iI z)) ∧ (va_up v 25 w25) = v1 ∧ f = f1 ∧ g = g1 ∧ (z = (if w25 ≠ 0 then (-1) else if a2 = 0 then (f 20) a1 else if a2 = 1 then (f 21) a1 else if a2 = 2 then (f 22) a1 else if a2 = 3 then (f 23) a1 else if a2 = 4 then (f 24) a1 else if a2 = 5 then (f 25) a1 else (f 26) a1)) ∧ ((-1) ≤ z ∧ z ≤ 1000999) ∧ (w25 = (if ¬ (0 ≤ a1 ∧ a1 < (v 23)) then 1 else if a2 < 0 ∨ 6 < a2 then 2 else 0))) := by
  refine GM.of (by decide) (Nat.le_of_ble_eq_true rfl) ?_
  intro p e s m args below meth c Q ls hQ C hml hr hlocks hP hl
  have hx := C.1
  have hb := C.2.1
  have hok := hP.2
  have hS : va_S A s.heap s.heap [] := va_S.rf
  have hl : lv_has ls 3 [(0, .ref (ad 0)), (1, .int (iI a1)), (2, .int (iI a2))] := hl
  have hP : gWd D (rwT k ad) (va_up v 25 (v 25)) f g s.heap := by rw [va_id]; exact hP
  have r_1 : 0 ≤ (v 23) ∧ (v 23) ≤ 300 := hok.1 23
  refine lv_aload_n hx hb dX10_tried_0 rfl (lv_at hl 0 rfl) ?_
  refine rwG_tries C hP mF_X10_44 dX10_tried_1 ?_
  refine lv_iload_n hx hb dX10_tried_4 rfl (lv_at hl 1 rfl) ?_
  refine g_cv (As := [.int (iI a1)]) (rest := []) (n := 1) C hml (c_X7_knows l D k A ad hD (va_up v 25 (v 25)) f g a1 (by omega)) mM_X10_224 mI_X7_knows mE_X7_knows mN_X7 mC_X7_knows (by decide +kernel) 30 (ci := 7) rfl rfl hP hS (fun _ h => h) ⟨Nat.le_of_ble_eq_true rfl, Nat.le_of_ble_eq_true rfl⟩ ⟨Nat.zero_le _, Nat.zero_le _⟩ hl.1 rfl rfl (Nat.le_of_ble_eq_true rfl) dX10_tried_5 (fun r_2 v_2 f_2 g_2 H locs hq_2 hP _ hS => ?_)
  obtain ⟨z_2, rfl, rfl, rfl, rfl, p0_2⟩ := hq_2
  show W p l e (gRm 1 21) s m args below meth c _ _ 0 0 Q (F0 m 8 ls [.int (iI z_2)])
  replace p0_2 : z_2 = (if 0 ≤ a1 ∧ a1 < (v 23) then 1 else 0) := p0_2
  have w_2 := gif (P := 0 ≤ a1 ∧ a1 < (v 23)) p0_2
  clear p0_2
  have hz_2 : inR z_2 := (by first | omega | (rw [p0_2]; split <;> omega))
  refine gi_zne (tgt := 17) hx hb dX10_tried_8 (by decide) (by omega) (fun c_3 => ?_) (fun c_3 => ?_)
  · have vz_2 := gif1 w_2 c_3
    clear w_2
    refine lv_iload_n hx hb dX10_tried_17 rfl (lv_at hl 2 rfl) ?_
    by_cases c_4_0 : a2 = 0
    · refine lv_tableIn (off := 42) (tgt := 60) hx hb dX10_tried_18 (by rw [c_4_0]; decide) (by rw [c_4_0]; decide) (by rw [c_4_0]; rfl) (by decide) ?_
      refine lv_aload_n hx hb dX10_tried_60 rfl (lv_at hl 0 rfl) ?_
      refine lv_aload_n hx hb dX10_tried_61 rfl (lv_at hl 0 rfl) ?_
      refine rwG_tries C hP mF_X10_44 dX10_tried_62 ?_
      refine rwG_tries_climber C hP mF_X10_225 dX10_tried_65 ?_
      refine lv_iload_n hx hb dX10_tried_68 rfl (lv_at hl 1 rfl) ?_
      refine rwL_tries_climber C hP (by omega) (by omega) dX10_tried_69 ?_
      have r_5 : 0 ≤ (f 20 a1) ∧ (f 20 a1) ≤ 15 := hP.2.2 20 a1
      refine g_cv (As := [.int (iI (f 20 a1))]) (rest := []) (n := 1) C hml (c_X10_answer l D k A ad hD (va_up v 25 (v 25)) f g (f 20 a1) (by omega)) mM_X10_120 mI_X10_answer mE_X10_answer mN_X10 mC_X10_answer (by decide +kernel) 0 (ci := 10) rfl rfl hP hS (fun _ h => h) ⟨Nat.le_of_ble_eq_true rfl, Nat.le_of_ble_eq_true rfl⟩ ⟨Nat.zero_le _, Nat.zero_le _⟩ hl.1 rfl rfl (Nat.le_of_ble_eq_true rfl) dX10_tried_70 (fun r_6 v_6 f_6 g_6 H locs hq_6 hP _ hS => ?_)
      obtain ⟨z_6, rfl, rfl, rfl, rfl, p0_6⟩ := hq_6
      show W p l e (gRm 1 21) s m args below meth c _ _ 0 0 Q (F0 m 73 ls [.int (iI z_6)])
      have hP : gWd D (rwT k ad) (va_up v 25 0) f g H := ⟨hP.1, (gR_up (V := rwV) (F := rwF) ⟨hok.1, hok.2⟩ 25 (hP.2.1 25))⟩
      replace p0_6 : z_6 = (f 20 a1) := p0_6
      have hz_6 : inR z_6 := (by first | omega | (rw [p0_6]; split <;> omega))
      exact g_iret hQ C hr hlocks hP hS dX10_tried_73 ⟨z_6, 0, rfl, rfl, rfl, rfl, (by first | omega | ((repeat' split) <;> omega)), (by first | omega | ((repeat' split) <;> omega)), (by first | omega | ((repeat' split) <;> omega))⟩
    by_cases c_4_1 : a2 = 1
    · refine lv_tableIn (off := 56) (tgt := 74) hx hb dX10_tried_18 (by rw [c_4_1]; decide) (by rw [c_4_1]; decide) (by rw [c_4_1]; rfl) (by decide) ?_
      refine lv_aload_n hx hb dX10_tried_74 rfl (lv_at hl 0 rfl) ?_
      refine lv_aload_n hx hb dX10_tried_75 rfl (lv_at hl 0 rfl) ?_
      refine rwG_tries C hP mF_X10_44 dX10_tried_76 ?_
      refine rwG_tries_round C hP mF_X10_200 dX10_tried_79 ?_
      refine lv_iload_n hx hb dX10_tried_82 rfl (lv_at hl 1 rfl) ?_
      refine rwL_tries_round C hP (by omega) (by omega) dX10_tried_83 ?_
      have r_7 : 0 ≤ (f 21 a1) ∧ (f 21 a1) ≤ 3 := hP.2.2 21 a1
      refine g_cv (As := [.int (iI (f 21 a1))]) (rest := []) (n := 1) C hml (c_X10_answer l D k A ad hD (va_up v 25 (v 25)) f g (f 21 a1) (by omega)) mM_X10_120 mI_X10_answer mE_X10_answer mN_X10 mC_X10_answer (by decide +kernel) 0 (ci := 10) rfl rfl hP hS (fun _ h => h) ⟨Nat.le_of_ble_eq_true rfl, Nat.le_of_ble_eq_true rfl⟩ ⟨Nat.zero_le _, Nat.zero_le _⟩ hl.1 rfl rfl (Nat.le_of_ble_eq_true rfl) dX10_tried_84 (fun r_8 v_8 f_8 g_8 H locs hq_8 hP _ hS => ?_)
      obtain ⟨z_8, rfl, rfl, rfl, rfl, p0_8⟩ := hq_8
      show W p l e (gRm 1 21) s m args below meth c _ _ 0 0 Q (F0 m 87 ls [.int (iI z_8)])
      have hP : gWd D (rwT k ad) (va_up v 25 0) f g H := ⟨hP.1, (gR_up (V := rwV) (F := rwF) ⟨hok.1, hok.2⟩ 25 (hP.2.1 25))⟩
      replace p0_8 : z_8 = (f 21 a1) := p0_8
      have hz_8 : inR z_8 := (by first | omega | (rw [p0_8]; split <;> omega))
      exact g_iret hQ C hr hlocks hP hS dX10_tried_87 ⟨z_8, 0, rfl, rfl, rfl, rfl, (by first | omega | ((repeat' split) <;> omega)), (by first | omega | ((repeat' split) <;> omega)), (by first | omega | ((repeat' split) <;> omega))⟩
    by_cases c_4_2 : a2 = 2
    · refine lv_tableIn (off := 70) (tgt := 88) hx hb dX10_tried_18 (by rw [c_4_2]; decide) (by rw [c_4_2]; decide) (by rw [c_4_2]; rfl) (by decide) ?_
      refine lv_aload_n hx hb dX10_tried_88 rfl (lv_at hl 0 rfl) ?_
      refine lv_aload_n hx hb dX10_tried_89 rfl (lv_at hl 0 rfl) ?_
      refine rwG_tries C hP mF_X10_44 dX10_tried_90 ?_
      refine rwG_tries_route C hP mF_X10_203 dX10_tried_93 ?_
      refine lv_iload_n hx hb dX10_tried_96 rfl (lv_at hl 1 rfl) ?_
      refine rwL_tries_route C hP (by omega) (by omega) dX10_tried_97 ?_
      have r_9 : 0 ≤ (f 22 a1) ∧ (f 22 a1) ≤ 4 := hP.2.2 22 a1
      refine g_cv (As := [.int (iI (f 22 a1))]) (rest := []) (n := 1) C hml (c_X10_answer l D k A ad hD (va_up v 25 (v 25)) f g (f 22 a1) (by omega)) mM_X10_120 mI_X10_answer mE_X10_answer mN_X10 mC_X10_answer (by decide +kernel) 0 (ci := 10) rfl rfl hP hS (fun _ h => h) ⟨Nat.le_of_ble_eq_true rfl, Nat.le_of_ble_eq_true rfl⟩ ⟨Nat.zero_le _, Nat.zero_le _⟩ hl.1 rfl rfl (Nat.le_of_ble_eq_true rfl) dX10_tried_98 (fun r_10 v_10 f_10 g_10 H locs hq_10 hP _ hS => ?_)
      obtain ⟨z_10, rfl, rfl, rfl, rfl, p0_10⟩ := hq_10
      show W p l e (gRm 1 21) s m args below meth c _ _ 0 0 Q (F0 m 101 ls [.int (iI z_10)])
      have hP : gWd D (rwT k ad) (va_up v 25 0) f g H := ⟨hP.1, (gR_up (V := rwV) (F := rwF) ⟨hok.1, hok.2⟩ 25 (hP.2.1 25))⟩
      replace p0_10 : z_10 = (f 22 a1) := p0_10
      have hz_10 : inR z_10 := (by first | omega | (rw [p0_10]; split <;> omega))
      exact g_iret hQ C hr hlocks hP hS dX10_tried_101 ⟨z_10, 0, rfl, rfl, rfl, rfl, (by first | omega | ((repeat' split) <;> omega)), (by first | omega | ((repeat' split) <;> omega)), (by first | omega | ((repeat' split) <;> omega))⟩
    by_cases c_4_3 : a2 = 3
    · refine lv_tableIn (off := 84) (tgt := 102) hx hb dX10_tried_18 (by rw [c_4_3]; decide) (by rw [c_4_3]; decide) (by rw [c_4_3]; rfl) (by decide) ?_
      refine lv_aload_n hx hb dX10_tried_102 rfl (lv_at hl 0 rfl) ?_
      refine lv_aload_n hx hb dX10_tried_103 rfl (lv_at hl 0 rfl) ?_
      refine rwG_tries C hP mF_X10_44 dX10_tried_104 ?_
      refine rwG_tries_begun C hP mF_X10_228 dX10_tried_107 ?_
      refine lv_iload_n hx hb dX10_tried_110 rfl (lv_at hl 1 rfl) ?_
      refine rwL_tries_begun C hP (by omega) (by omega) dX10_tried_111 ?_
      have r_11 : 0 ≤ (f 23 a1) ∧ (f 23 a1) ≤ 1000000 := hP.2.2 23 a1
      refine g_cv (As := [.int (iI (f 23 a1))]) (rest := []) (n := 1) C hml (c_X10_answer l D k A ad hD (va_up v 25 (v 25)) f g (f 23 a1) (by omega)) mM_X10_120 mI_X10_answer mE_X10_answer mN_X10 mC_X10_answer (by decide +kernel) 0 (ci := 10) rfl rfl hP hS (fun _ h => h) ⟨Nat.le_of_ble_eq_true rfl, Nat.le_of_ble_eq_true rfl⟩ ⟨Nat.zero_le _, Nat.zero_le _⟩ hl.1 rfl rfl (Nat.le_of_ble_eq_true rfl) dX10_tried_112 (fun r_12 v_12 f_12 g_12 H locs hq_12 hP _ hS => ?_)
      obtain ⟨z_12, rfl, rfl, rfl, rfl, p0_12⟩ := hq_12
      show W p l e (gRm 1 21) s m args below meth c _ _ 0 0 Q (F0 m 115 ls [.int (iI z_12)])
      have hP : gWd D (rwT k ad) (va_up v 25 0) f g H := ⟨hP.1, (gR_up (V := rwV) (F := rwF) ⟨hok.1, hok.2⟩ 25 (hP.2.1 25))⟩
      replace p0_12 : z_12 = (f 23 a1) := p0_12
      have hz_12 : inR z_12 := (by first | omega | (rw [p0_12]; split <;> omega))
      exact g_iret hQ C hr hlocks hP hS dX10_tried_115 ⟨z_12, 0, rfl, rfl, rfl, rfl, (by first | omega | ((repeat' split) <;> omega)), (by first | omega | ((repeat' split) <;> omega)), (by first | omega | ((repeat' split) <;> omega))⟩
    by_cases c_4_4 : a2 = 4
    · refine lv_tableIn (off := 98) (tgt := 116) hx hb dX10_tried_18 (by rw [c_4_4]; decide) (by rw [c_4_4]; decide) (by rw [c_4_4]; rfl) (by decide) ?_
      refine lv_aload_n hx hb dX10_tried_116 rfl (lv_at hl 0 rfl) ?_
      refine lv_aload_n hx hb dX10_tried_117 rfl (lv_at hl 0 rfl) ?_
      refine rwG_tries C hP mF_X10_44 dX10_tried_118 ?_
      refine rwG_tries_ended C hP mF_X10_231 dX10_tried_121 ?_
      refine lv_iload_n hx hb dX10_tried_124 rfl (lv_at hl 1 rfl) ?_
      refine rwL_tries_ended C hP (by omega) (by omega) dX10_tried_125 ?_
      have r_13 : (-1) ≤ (f 24 a1) ∧ (f 24 a1) ≤ 1000999 := hP.2.2 24 a1
      refine g_cv (As := [.int (iI (f 24 a1))]) (rest := []) (n := 1) C hml (c_X10_answer l D k A ad hD (va_up v 25 (v 25)) f g (f 24 a1) (by omega)) mM_X10_120 mI_X10_answer mE_X10_answer mN_X10 mC_X10_answer (by decide +kernel) 0 (ci := 10) rfl rfl hP hS (fun _ h => h) ⟨Nat.le_of_ble_eq_true rfl, Nat.le_of_ble_eq_true rfl⟩ ⟨Nat.zero_le _, Nat.zero_le _⟩ hl.1 rfl rfl (Nat.le_of_ble_eq_true rfl) dX10_tried_126 (fun r_14 v_14 f_14 g_14 H locs hq_14 hP _ hS => ?_)
      obtain ⟨z_14, rfl, rfl, rfl, rfl, p0_14⟩ := hq_14
      show W p l e (gRm 1 21) s m args below meth c _ _ 0 0 Q (F0 m 129 ls [.int (iI z_14)])
      have hP : gWd D (rwT k ad) (va_up v 25 0) f g H := ⟨hP.1, (gR_up (V := rwV) (F := rwF) ⟨hok.1, hok.2⟩ 25 (hP.2.1 25))⟩
      replace p0_14 : z_14 = (f 24 a1) := p0_14
      have hz_14 : inR z_14 := (by first | omega | (rw [p0_14]; split <;> omega))
      exact g_iret hQ C hr hlocks hP hS dX10_tried_129 ⟨z_14, 0, rfl, rfl, rfl, rfl, (by first | omega | ((repeat' split) <;> omega)), (by first | omega | ((repeat' split) <;> omega)), (by first | omega | ((repeat' split) <;> omega))⟩
    by_cases c_4_5 : a2 = 5
    · refine lv_tableIn (off := 112) (tgt := 130) hx hb dX10_tried_18 (by rw [c_4_5]; decide) (by rw [c_4_5]; decide) (by rw [c_4_5]; rfl) (by decide) ?_
      refine lv_aload_n hx hb dX10_tried_130 rfl (lv_at hl 0 rfl) ?_
      refine lv_aload_n hx hb dX10_tried_131 rfl (lv_at hl 0 rfl) ?_
      refine rwG_tries C hP mF_X10_44 dX10_tried_132 ?_
      refine rwG_tries_hold C hP mF_X10_206 dX10_tried_135 ?_
      refine lv_iload_n hx hb dX10_tried_138 rfl (lv_at hl 1 rfl) ?_
      refine rwL_tries_hold C hP (by omega) (by omega) dX10_tried_139 ?_
      have r_15 : 0 ≤ (f 25 a1) ∧ (f 25 a1) ≤ 60 := hP.2.2 25 a1
      refine g_cv (As := [.int (iI (f 25 a1))]) (rest := []) (n := 1) C hml (c_X10_answer l D k A ad hD (va_up v 25 (v 25)) f g (f 25 a1) (by omega)) mM_X10_120 mI_X10_answer mE_X10_answer mN_X10 mC_X10_answer (by decide +kernel) 0 (ci := 10) rfl rfl hP hS (fun _ h => h) ⟨Nat.le_of_ble_eq_true rfl, Nat.le_of_ble_eq_true rfl⟩ ⟨Nat.zero_le _, Nat.zero_le _⟩ hl.1 rfl rfl (Nat.le_of_ble_eq_true rfl) dX10_tried_140 (fun r_16 v_16 f_16 g_16 H locs hq_16 hP _ hS => ?_)
      obtain ⟨z_16, rfl, rfl, rfl, rfl, p0_16⟩ := hq_16
      show W p l e (gRm 1 21) s m args below meth c _ _ 0 0 Q (F0 m 143 ls [.int (iI z_16)])
      have hP : gWd D (rwT k ad) (va_up v 25 0) f g H := ⟨hP.1, (gR_up (V := rwV) (F := rwF) ⟨hok.1, hok.2⟩ 25 (hP.2.1 25))⟩
      replace p0_16 : z_16 = (f 25 a1) := p0_16
      have hz_16 : inR z_16 := (by first | omega | (rw [p0_16]; split <;> omega))
      exact g_iret hQ C hr hlocks hP hS dX10_tried_143 ⟨z_16, 0, rfl, rfl, rfl, rfl, (by first | omega | ((repeat' split) <;> omega)), (by first | omega | ((repeat' split) <;> omega)), (by first | omega | ((repeat' split) <;> omega))⟩
    by_cases c_4_6 : a2 = 6
    · refine lv_tableIn (off := 126) (tgt := 144) hx hb dX10_tried_18 (by rw [c_4_6]; decide) (by rw [c_4_6]; decide) (by rw [c_4_6]; rfl) (by decide) ?_
      refine lv_aload_n hx hb dX10_tried_144 rfl (lv_at hl 0 rfl) ?_
      refine lv_aload_n hx hb dX10_tried_145 rfl (lv_at hl 0 rfl) ?_
      refine rwG_tries C hP mF_X10_44 dX10_tried_146 ?_
      refine rwG_tries_how C hP mF_X10_234 dX10_tried_149 ?_
      refine lv_iload_n hx hb dX10_tried_152 rfl (lv_at hl 1 rfl) ?_
      refine rwL_tries_how C hP (by omega) (by omega) dX10_tried_153 ?_
      have r_17 : 0 ≤ (f 26 a1) ∧ (f 26 a1) ≤ 4 := hP.2.2 26 a1
      refine g_cv (As := [.int (iI (f 26 a1))]) (rest := []) (n := 1) C hml (c_X10_answer l D k A ad hD (va_up v 25 (v 25)) f g (f 26 a1) (by omega)) mM_X10_120 mI_X10_answer mE_X10_answer mN_X10 mC_X10_answer (by decide +kernel) 0 (ci := 10) rfl rfl hP hS (fun _ h => h) ⟨Nat.le_of_ble_eq_true rfl, Nat.le_of_ble_eq_true rfl⟩ ⟨Nat.zero_le _, Nat.zero_le _⟩ hl.1 rfl rfl (Nat.le_of_ble_eq_true rfl) dX10_tried_154 (fun r_18 v_18 f_18 g_18 H locs hq_18 hP _ hS => ?_)
      obtain ⟨z_18, rfl, rfl, rfl, rfl, p0_18⟩ := hq_18
      show W p l e (gRm 1 21) s m args below meth c _ _ 0 0 Q (F0 m 157 ls [.int (iI z_18)])
      have hP : gWd D (rwT k ad) (va_up v 25 0) f g H := ⟨hP.1, (gR_up (V := rwV) (F := rwF) ⟨hok.1, hok.2⟩ 25 (hP.2.1 25))⟩
      replace p0_18 : z_18 = (f 26 a1) := p0_18
      have hz_18 : inR z_18 := (by first | omega | (rw [p0_18]; split <;> omega))
      exact g_iret hQ C hr hlocks hP hS dX10_tried_157 ⟨z_18, 0, rfl, rfl, rfl, rfl, (by first | omega | ((repeat' split) <;> omega)), (by first | omega | ((repeat' split) <;> omega)), (by first | omega | ((repeat' split) <;> omega))⟩
    refine lv_tableOut (tgt := 158) hx hb dX10_tried_18 (by rw [iI_toInt (by omega)]; omega) (by decide) ?_
    refine lv_aload_n hx hb dX10_tried_158 rfl (lv_at hl 0 rfl) ?_
    refine lv_iconst (v := iI 2) hx hb dX10_tried_159 rfl ?_
    refine g_cv (As := [.int (iI 2)]) (rest := []) (n := 1) C hml (c_X10_refuse l D k A ad hD (va_up v 25 (v 25)) f g 2 (by decide) (show 0 ≤ (2 : Int) ∧ (2 : Int) ≤ 10 from by omega)) mM_X10_88 mI_X10_refuse mE_X10_refuse mN_X10 mC_X10_refuse (by decide +kernel) 0 (ci := 10) rfl rfl hP hS (fun _ h => h) ⟨Nat.le_of_ble_eq_true rfl, Nat.le_of_ble_eq_true rfl⟩ ⟨Nat.zero_le _, Nat.zero_le _⟩ hl.1 rfl rfl (Nat.le_of_ble_eq_true rfl) dX10_tried_160 (fun r_19 v_19 f_19 g_19 H locs hq_19 hP _ hS => ?_)
    obtain ⟨rfl, rfl, rfl, rfl⟩ := hq_19
    show W p l e (gRm 1 21) s m args below meth c _ _ 0 0 Q (F0 m 163 ls [.int (iI (-1))])
    have hP : gWd D (rwT k ad) (va_up v 25 (2 : Int)) f g H := ⟨hP.1, (gR_up (V := rwV) (F := rwF) ⟨hok.1, hok.2⟩ 25 (hP.2.1 25))⟩
    exact g_iret hQ C hr hlocks hP hS dX10_tried_163 ⟨(-1), (2 : Int), rfl, rfl, rfl, rfl, (by first | omega | ((repeat' split) <;> omega)), (by first | omega | ((repeat' split) <;> omega)), (by first | omega | ((repeat' split) <;> omega))⟩
  · have vz_2 := gif0 w_2 c_3
    clear w_2
    refine lv_aload_n hx hb dX10_tried_11 rfl (lv_at hl 0 rfl) ?_
    refine lv_iconst (v := iI 1) hx hb dX10_tried_12 rfl ?_
    refine g_cv (As := [.int (iI 1)]) (rest := []) (n := 1) C hml (c_X10_refuse l D k A ad hD (va_up v 25 (v 25)) f g 1 (by decide) (show 0 ≤ (1 : Int) ∧ (1 : Int) ≤ 10 from by omega)) mM_X10_88 mI_X10_refuse mE_X10_refuse mN_X10 mC_X10_refuse (by decide +kernel) 0 (ci := 10) rfl rfl hP hS (fun _ h => h) ⟨Nat.le_of_ble_eq_true rfl, Nat.le_of_ble_eq_true rfl⟩ ⟨Nat.zero_le _, Nat.zero_le _⟩ hl.1 rfl rfl (Nat.le_of_ble_eq_true rfl) dX10_tried_13 (fun r_20 v_20 f_20 g_20 H locs hq_20 hP _ hS => ?_)
    obtain ⟨rfl, rfl, rfl, rfl⟩ := hq_20
    show W p l e (gRm 1 21) s m args below meth c _ _ 0 0 Q (F0 m 16 ls [.int (iI (-1))])
    have hP : gWd D (rwT k ad) (va_up v 25 (1 : Int)) f g H := ⟨hP.1, (gR_up (V := rwV) (F := rwF) ⟨hok.1, hok.2⟩ 25 (hP.2.1 25))⟩
    exact g_iret hQ C hr hlocks hP hS dX10_tried_16 ⟨(-1), (1 : Int), rfl, rfl, rfl, rfl, (by first | omega | ((repeat' split) <;> omega)), (by first | omega | ((repeat' split) <;> omega)), (by first | omega | ((repeat' split) <;> omega))⟩

set_option maxHeartbeats 4000000 in
set_option maxRecDepth 100000 in
theorem x_Ro_seen (l : Launch) (D : va_G) (k : Nat → ClassId) (A : Nat → Prop) (ad : Nat → Nat) (hD : rwD A k ad) (v : gV) (f g : gF) (a1 : Int) (a2 : Int) (h_a1 : inR a1) (h_a2 : inR a2) (hs : shOk (v 1) (f 1)) : GM l D k A (rwT k ad) yX10_seen cX10_seen 3 (some .int) 4 95 [.ref (ad 0), .int (iI a1), .int (iI a2)] v f g (fun r v1 f1 g1 => ∃ (z : Int) (w25 : Int), r = some (.int (iI z)) ∧ (va_up v 25 w25) = v1 ∧ f = f1 ∧ g = g1 ∧ (z = (if w25 ≠ 0 then (-1) else if 1 ≤ cn (pSe (f 20) (f 21) (f 22) (f 23) (f 24) (f 32) (f 33) (f 31) (v 26) a1 (v 22) a2) (v 23).toNat then 1 else 0)) ∧ ((-1) ≤ z ∧ z ≤ 1) ∧ (w25 = (if ¬ ((0 ≤ a1 ∧ a1 < (v 21)) ∧ ((0 ≤ (v 22) ∧ (v 22) < (v 1)) ∧ 0 ≤ a2 ∧ a2 < (f 1) ((v 22) * 4))) then 1 else 0))) := by
  refine GM.of (by decide) (Nat.le_of_ble_eq_true rfl) ?_
  intro p e s m args below meth c Q ls hQ C hml hr hlocks hP hl
  have hx := C.1
  have hb := C.2.1
  have hok := hP.2
  have hS : va_S A s.heap s.heap [] := va_S.rf
  have hl : lv_has ls 3 [(0, .ref (ad 0)), (1, .int (iI a1)), (2, .int (iI a2))] := hl
  have hP : gWd D (rwT k ad) (va_up v 25 (v 25)) f g s.heap := by rw [va_id]; exact hP
  have r_1 : 0 ≤ (v 21) ∧ (v 21) ≤ 16 := hok.1 21
  have r_2 : 0 ≤ (v 22) ∧ (v 22) ≤ 3 := hok.1 22
  refine lv_aload_n hx hb dX10_seen_0 rfl (lv_at hl 0 rfl) ?_
  refine rwG_field C hP mF_X10_37 dX10_seen_1 ?_
  refine lv_iload_n hx hb dX10_seen_4 rfl (lv_at hl 1 rfl) ?_
  refine g_cv (As := [.int (iI a1)]) (rest := []) (n := 1) C hml (c_X2_knows l D k A ad hD (va_up v 25 (v 25)) f g a1 (by omega)) mM_X10_180 mI_X2_knows mE_X2_knows mN_X2 mC_X2_knows (by decide +kernel) 27 (ci := 2) rfl rfl hP hS (fun _ h => h) ⟨Nat.le_of_ble_eq_true rfl, Nat.le_of_ble_eq_true rfl⟩ ⟨Nat.zero_le _, Nat.zero_le _⟩ hl.1 rfl rfl (Nat.le_of_ble_eq_true rfl) dX10_seen_5 (fun r_3 v_3 f_3 g_3 H locs hq_3 hP _ hS => ?_)
  obtain ⟨z_3, rfl, rfl, rfl, rfl, p0_3⟩ := hq_3
  show W p l e (gRm 4 95) s m args below meth c _ _ 0 0 Q (F0 m 8 ls [.int (iI z_3)])
  replace p0_3 : z_3 = (if 0 ≤ a1 ∧ a1 < (v 21) then 1 else 0) := p0_3
  have w_3 := gif (P := 0 ≤ a1 ∧ a1 < (v 21)) p0_3
  clear p0_3
  have hz_3 : inR z_3 := (by first | omega | (rw [p0_3]; split <;> omega))
  refine gi_zeq (tgt := 29) hx hb dX10_seen_8 (by decide) (by omega) (fun c_4 => ?_) (fun c_4 => ?_)
  · have vz_3 := gif0 w_3 c_4
    clear w_3
    refine lv_aload_n hx hb dX10_seen_29 rfl (lv_at hl 0 rfl) ?_
    refine lv_iconst (v := iI 1) hx hb dX10_seen_30 rfl ?_
    refine g_cv (As := [.int (iI 1)]) (rest := []) (n := 1) C hml (c_X10_refuse l D k A ad hD (va_up v 25 (v 25)) f g 1 (by decide) (show 0 ≤ (1 : Int) ∧ (1 : Int) ≤ 10 from by omega)) mM_X10_88 mI_X10_refuse mE_X10_refuse mN_X10 mC_X10_refuse (by decide +kernel) 0 (ci := 10) rfl rfl hP hS (fun _ h => h) ⟨Nat.le_of_ble_eq_true rfl, Nat.le_of_ble_eq_true rfl⟩ ⟨Nat.zero_le _, Nat.zero_le _⟩ hl.1 rfl rfl (Nat.le_of_ble_eq_true rfl) dX10_seen_31 (fun r_5 v_5 f_5 g_5 H locs hq_5 hP _ hS => ?_)
    obtain ⟨rfl, rfl, rfl, rfl⟩ := hq_5
    show W p l e (gRm 4 95) s m args below meth c _ _ 0 0 Q (F0 m 34 ls [.int (iI (-1))])
    have hP : gWd D (rwT k ad) (va_up v 25 (1 : Int)) f g H := ⟨hP.1, (gR_up (V := rwV) (F := rwF) ⟨hok.1, hok.2⟩ 25 (hP.2.1 25))⟩
    exact g_iret hQ C hr hlocks hP hS dX10_seen_34 ⟨(-1), (1 : Int), rfl, rfl, rfl, rfl, (by first | omega | ((repeat' split) <;> omega)), (by first | omega | ((repeat' split) <;> omega)), (by first | omega | ((repeat' split) <;> omega))⟩
  · have vz_3 := gif1 w_3 c_4
    clear w_3
    refine lv_aload_n hx hb dX10_seen_11 rfl (lv_at hl 0 rfl) ?_
    refine rwG_laws C hP mF_X10_16 dX10_seen_12 ?_
    refine lv_aload_n hx hb dX10_seen_15 rfl (lv_at hl 0 rfl) ?_
    refine rwG_field C hP mF_X10_37 dX10_seen_16 ?_
    refine rwG_field_open C hP mF_X10_129 dX10_seen_19 ?_
    show W p l e (gRm 4 95) s m args below meth c _ _ 0 0 Q (F0 m 22 ls [.int (iI (v 22)), .ref (ad 2)])
    refine lv_iload_n hx hb dX10_seen_22 rfl (lv_at hl 2 rfl) ?_
    refine g_cv (As := [.int (iI (v 22)), .int (iI a2)]) (rest := []) (n := 2) C hml (c_X4_hasRoute l D k A ad hD (va_up v 25 (v 25)) f g (v 22) a2 (by omega) (by omega)) mM_X10_136 mI_X4_hasRoute mE_X4_hasRoute mN_X4 mC_X4_hasRoute (by decide +kernel) 2 (ci := 4) rfl rfl hP hS (fun _ h => h) ⟨Nat.le_of_ble_eq_true rfl, Nat.le_of_ble_eq_true rfl⟩ ⟨Nat.zero_le _, Nat.zero_le _⟩ hl.1 rfl rfl (Nat.le_of_ble_eq_true rfl) dX10_seen_23 (fun r_6 v_6 f_6 g_6 H locs hq_6 hP _ hS => ?_)
    obtain ⟨z_6, rfl, rfl, rfl, rfl, p0_6⟩ := hq_6
    show W p l e (gRm 4 95) s m args below meth c _ _ 0 0 Q (F0 m 26 ls [.int (iI z_6)])
    replace p0_6 : z_6 = (if (0 ≤ (v 22) ∧ (v 22) < (v 1)) ∧ 0 ≤ a2 ∧ a2 < (f 1) ((v 22) * 4) then 1 else 0) := p0_6
    have w_6 := gif (P := (0 ≤ (v 22) ∧ (v 22) < (v 1)) ∧ 0 ≤ a2 ∧ a2 < (f 1) ((v 22) * 4)) p0_6
    clear p0_6
    have hz_6 : inR z_6 := (by first | omega | (rw [p0_6]; split <;> omega))
    refine gi_zne (tgt := 35) hx hb dX10_seen_26 (by decide) (by omega) (fun c_7 => ?_) (fun c_7 => ?_)
    · have vz_6 := gif1 w_6 c_7
      clear w_6
      refine lv_aload_n hx hb dX10_seen_35 rfl (lv_at hl 0 rfl) ?_
      refine lv_aload_n hx hb dX10_seen_36 rfl (lv_at hl 0 rfl) ?_
      refine lv_iload_n hx hb dX10_seen_37 rfl (lv_at hl 1 rfl) ?_
      refine lv_iload_n hx hb dX10_seen_38 rfl (lv_at hl 2 rfl) ?_
      refine g_cv (As := [.int (iI a1), .int (iI a2)]) (rest := [.ref (ad 0)]) (n := 2) C hml (x_Ro_hasSeen l D k A ad hD (va_up v 25 (v 25)) f g a1 a2 (by omega) (by omega) (show 0 ≤ a1 ∧ a1 ≤ 15 from by omega)) mM_X10_237 mI_X10_hasSeen mE_X10_hasSeen mN_X10 mC_X10_hasSeen (by decide +kernel) 0 (ci := 10) rfl rfl hP hS (fun _ h => h) ⟨Nat.le_of_ble_eq_true rfl, Nat.le_of_ble_eq_true rfl⟩ ⟨Nat.zero_le _, Nat.zero_le _⟩ hl.1 rfl rfl (Nat.le_of_ble_eq_true rfl) dX10_seen_39 (fun r_8 v_8 f_8 g_8 H locs hq_8 hP _ hS => ?_)
      obtain ⟨z_8, rfl, rfl, rfl, rfl, p0_8⟩ := hq_8
      show W p l e (gRm 4 95) s m args below meth c _ _ 0 0 Q (F0 m 42 ls [.int (iI z_8), .ref (ad 0)])
      replace p0_8 : z_8 = (if 1 ≤ cn (pSe (f 20) (f 21) (f 22) (f 23) (f 24) (f 32) (f 33) (f 31) (v 26) a1 (v 22) a2) (v 23).toNat then 1 else 0) := p0_8
      have w_8 := gif (P := 1 ≤ cn (pSe (f 20) (f 21) (f 22) (f 23) (f 24) (f 32) (f 33) (f 31) (v 26) a1 (v 22) a2) (v 23).toNat) p0_8
      clear p0_8
      have hz_8 : inR z_8 := (by first | omega | (rw [p0_8]; split <;> omega))
      refine gi_zeq (tgt := 49) hx hb dX10_seen_42 (by decide) (by omega) (fun c_9 => ?_) (fun c_9 => ?_)
      · have vz_8 := gif0 w_8 c_9
        clear w_8
        refine lv_iconst (v := iI 0) hx hb dX10_seen_49 rfl ?_
        refine g_cv (As := [.int (iI 0)]) (rest := []) (n := 1) C hml (c_X10_answer l D k A ad hD (va_up v 25 (v 25)) f g 0 (by decide)) mM_X10_120 mI_X10_answer mE_X10_answer mN_X10 mC_X10_answer (by decide +kernel) 0 (ci := 10) rfl rfl hP hS (fun _ h => h) ⟨Nat.le_of_ble_eq_true rfl, Nat.le_of_ble_eq_true rfl⟩ ⟨Nat.zero_le _, Nat.zero_le _⟩ hl.1 rfl rfl (Nat.le_of_ble_eq_true rfl) dX10_seen_50 (fun r_10 v_10 f_10 g_10 H locs hq_10 hP _ hS => ?_)
        obtain ⟨z_10, rfl, rfl, rfl, rfl, p0_10⟩ := hq_10
        show W p l e (gRm 4 95) s m args below meth c _ _ 0 0 Q (F0 m 53 ls [.int (iI z_10)])
        have hP : gWd D (rwT k ad) (va_up v 25 0) f g H := ⟨hP.1, (gR_up (V := rwV) (F := rwF) ⟨hok.1, hok.2⟩ 25 (hP.2.1 25))⟩
        replace p0_10 : z_10 = (0 : Int) := p0_10
        have hz_10 : inR z_10 := (by first | omega | (rw [p0_10]; split <;> omega))
        exact g_iret hQ C hr hlocks hP hS dX10_seen_53 ⟨z_10, 0, rfl, rfl, rfl, rfl, (by first | omega | ((repeat' split) <;> omega)), (by first | omega | ((repeat' split) <;> omega)), (by first | omega | ((repeat' split) <;> omega))⟩
      · have vz_8 := gif1 w_8 c_9
        clear w_8
        refine lv_iconst (v := iI 1) hx hb dX10_seen_45 rfl ?_
        refine lv_goto (tgt := 50) hx hb dX10_seen_46 (by decide) ?_
        refine g_cv (As := [.int (iI 1)]) (rest := []) (n := 1) C hml (c_X10_answer l D k A ad hD (va_up v 25 (v 25)) f g 1 (by decide)) mM_X10_120 mI_X10_answer mE_X10_answer mN_X10 mC_X10_answer (by decide +kernel) 0 (ci := 10) rfl rfl hP hS (fun _ h => h) ⟨Nat.le_of_ble_eq_true rfl, Nat.le_of_ble_eq_true rfl⟩ ⟨Nat.zero_le _, Nat.zero_le _⟩ hl.1 rfl rfl (Nat.le_of_ble_eq_true rfl) dX10_seen_50 (fun r_11 v_11 f_11 g_11 H locs hq_11 hP _ hS => ?_)
        obtain ⟨z_11, rfl, rfl, rfl, rfl, p0_11⟩ := hq_11
        show W p l e (gRm 4 95) s m args below meth c _ _ 0 0 Q (F0 m 53 ls [.int (iI z_11)])
        have hP : gWd D (rwT k ad) (va_up v 25 0) f g H := ⟨hP.1, (gR_up (V := rwV) (F := rwF) ⟨hok.1, hok.2⟩ 25 (hP.2.1 25))⟩
        replace p0_11 : z_11 = (1 : Int) := p0_11
        have hz_11 : inR z_11 := (by first | omega | (rw [p0_11]; split <;> omega))
        exact g_iret hQ C hr hlocks hP hS dX10_seen_53 ⟨z_11, 0, rfl, rfl, rfl, rfl, (by first | omega | ((repeat' split) <;> omega)), (by first | omega | ((repeat' split) <;> omega)), (by first | omega | ((repeat' split) <;> omega))⟩
    · have vz_6 := gif0 w_6 c_7
      clear w_6
      refine lv_aload_n hx hb dX10_seen_29 rfl (lv_at hl 0 rfl) ?_
      refine lv_iconst (v := iI 1) hx hb dX10_seen_30 rfl ?_
      refine g_cv (As := [.int (iI 1)]) (rest := []) (n := 1) C hml (c_X10_refuse l D k A ad hD (va_up v 25 (v 25)) f g 1 (by decide) (show 0 ≤ (1 : Int) ∧ (1 : Int) ≤ 10 from by omega)) mM_X10_88 mI_X10_refuse mE_X10_refuse mN_X10 mC_X10_refuse (by decide +kernel) 0 (ci := 10) rfl rfl hP hS (fun _ h => h) ⟨Nat.le_of_ble_eq_true rfl, Nat.le_of_ble_eq_true rfl⟩ ⟨Nat.zero_le _, Nat.zero_le _⟩ hl.1 rfl rfl (Nat.le_of_ble_eq_true rfl) dX10_seen_31 (fun r_12 v_12 f_12 g_12 H locs hq_12 hP _ hS => ?_)
      obtain ⟨rfl, rfl, rfl, rfl⟩ := hq_12
      show W p l e (gRm 4 95) s m args below meth c _ _ 0 0 Q (F0 m 34 ls [.int (iI (-1))])
      have hP : gWd D (rwT k ad) (va_up v 25 (1 : Int)) f g H := ⟨hP.1, (gR_up (V := rwV) (F := rwF) ⟨hok.1, hok.2⟩ 25 (hP.2.1 25))⟩
      exact g_iret hQ C hr hlocks hP hS dX10_seen_34 ⟨(-1), (1 : Int), rfl, rfl, rfl, rfl, (by first | omega | ((repeat' split) <;> omega)), (by first | omega | ((repeat' split) <;> omega)), (by first | omega | ((repeat' split) <;> omega))⟩

set_option maxHeartbeats 4000000 in
set_option maxRecDepth 100000 in
theorem x_Ro_ready (l : Launch) (D : va_G) (k : Nat → ClassId) (A : Nat → Prop) (ad : Nat → Nat) (hD : rwD A k ad) (v : gV) (f g : gF) (a1 : Int) (h_a1 : inR a1) (hs : shOk (v 1) (f 1)) : GM l D k A (rwT k ad) yX10_ready cX10_ready 2 (some .int) 3 76 [.ref (ad 0), .int (iI a1)] v f g (fun r v1 f1 g1 => ∃ (z : Int) (w25 : Int), r = some (.int (iI z)) ∧ (va_up v 25 w25) = v1 ∧ f = f1 ∧ g = g1 ∧ (z = (if w25 ≠ 0 then (-1) else if (v 26) ≤ rsF (mxE (f 20) (f 21) (f 24) a1 (v 22) (v 23).toNat) (shF (v 1) (f 1) (v 22) 3) then rsF (mxE (f 20) (f 21) (f 24) a1 (v 22) (v 23).toNat) (shF (v 1) (f 1) (v 22) 3) else (v 26))) ∧ ((-1) ≤ z ∧ z ≤ 1001998) ∧ (w25 = (if ¬ (0 ≤ a1 ∧ a1 < (v 21)) then 1 else if (f 27) a1 ≠ 0 then 5 else 0))) := by
  refine GM.of (by decide) (Nat.le_of_ble_eq_true rfl) ?_
  intro p e s m args below meth c Q ls hQ C hml hr hlocks hP hl
  have hx := C.1
  have hb := C.2.1
  have hok := hP.2
  have hS : va_S A s.heap s.heap [] := va_S.rf
  have hl : lv_has ls 2 [(0, .ref (ad 0)), (1, .int (iI a1))] := hl
  have hP : gWd D (rwT k ad) (va_up v 25 (v 25)) f g s.heap := by rw [va_id]; exact hP
  have r_1 : 0 ≤ (v 21) ∧ (v 21) ≤ 16 := hok.1 21
  have r_2 : 0 ≤ (v 22) ∧ (v 22) ≤ 3 := hok.1 22
  refine lv_aload_n hx hb dX10_ready_0 rfl (lv_at hl 0 rfl) ?_
  refine rwG_field C hP mF_X10_37 dX10_ready_1 ?_
  refine lv_iload_n hx hb dX10_ready_4 rfl (lv_at hl 1 rfl) ?_
  refine g_cv (As := [.int (iI a1)]) (rest := []) (n := 1) C hml (c_X2_knows l D k A ad hD (va_up v 25 (v 25)) f g a1 (by omega)) mM_X10_180 mI_X2_knows mE_X2_knows mN_X2 mC_X2_knows (by decide +kernel) 27 (ci := 2) rfl rfl hP hS (fun _ h => h) ⟨Nat.le_of_ble_eq_true rfl, Nat.le_of_ble_eq_true rfl⟩ ⟨Nat.zero_le _, Nat.zero_le _⟩ hl.1 rfl rfl (Nat.le_of_ble_eq_true rfl) dX10_ready_5 (fun r_3 v_3 f_3 g_3 H locs hq_3 hP _ hS => ?_)
  obtain ⟨z_3, rfl, rfl, rfl, rfl, p0_3⟩ := hq_3
  show W p l e (gRm 3 76) s m args below meth c _ _ 0 0 Q (F0 m 8 ls [.int (iI z_3)])
  replace p0_3 : z_3 = (if 0 ≤ a1 ∧ a1 < (v 21) then 1 else 0) := p0_3
  have w_3 := gif (P := 0 ≤ a1 ∧ a1 < (v 21)) p0_3
  clear p0_3
  have hz_3 : inR z_3 := (by first | omega | (rw [p0_3]; split <;> omega))
  refine gi_zne (tgt := 17) hx hb dX10_ready_8 (by decide) (by omega) (fun c_4 => ?_) (fun c_4 => ?_)
  · have vz_3 := gif1 w_3 c_4
    clear w_3
    refine lv_aload_n hx hb dX10_ready_17 rfl (lv_at hl 0 rfl) ?_
    refine rwG_tries C hP mF_X10_44 dX10_ready_18 ?_
    refine lv_iload_n hx hb dX10_ready_21 rfl (lv_at hl 1 rfl) ?_
    refine g_cv (As := [.int (iI a1)]) (rest := []) (n := 1) C hml (c_X7_openOf l D k A ad hD (va_up v 25 (v 25)) f g a1 (by omega) (show 0 ≤ a1 ∧ a1 ≤ 15 from by omega)) mM_X10_197 mI_X7_openOf mE_X7_openOf mN_X7 mC_X7_openOf (by decide +kernel) 30 (ci := 7) rfl rfl hP hS (fun _ h => h) ⟨Nat.le_of_ble_eq_true rfl, Nat.le_of_ble_eq_true rfl⟩ ⟨Nat.zero_le _, Nat.zero_le _⟩ hl.1 rfl rfl (Nat.le_of_ble_eq_true rfl) dX10_ready_22 (fun r_5 v_5 f_5 g_5 H locs hq_5 hP _ hS => ?_)
    obtain ⟨z_5, rfl, rfl, rfl, rfl, p0_5, p1_5⟩ := hq_5
    show W p l e (gRm 3 76) s m args below meth c _ _ 0 0 Q (F0 m 25 ls [.int (iI z_5)])
    replace p0_5 : z_5 = ((f 27) a1 - 1) := p0_5
    replace p1_5 : (-1) ≤ z_5 ∧ z_5 ≤ 299 := p1_5
    have hz_5 : inR z_5 := (by first | omega | (rw [p0_5]; split <;> omega))
    refine lv_iconst (v := iI (-1)) hx hb dX10_ready_25 rfl ?_
    refine gi_ceq (tgt := 35) hx hb dX10_ready_26 (by decide) (by omega) (by decide) (fun c_6 => ?_) (fun c_6 => ?_)
    · refine lv_aload_n hx hb dX10_ready_35 rfl (lv_at hl 0 rfl) ?_
      refine lv_aload_n hx hb dX10_ready_36 rfl (lv_at hl 0 rfl) ?_
      refine rwG_time C hP mF_X10_114 dX10_ready_37 ?_
      show W p l e (gRm 3 76) s m args below meth c _ _ 0 0 Q (F0 m 40 ls [.int (iI (v 26)), .ref (ad 0)])
      have r_7 : 0 ≤ (v 26) ∧ (v 26) ≤ 1000000 := hok.1 26
      refine lv_aload_n hx hb dX10_ready_40 rfl (lv_at hl 0 rfl) ?_
      refine lv_iload_n hx hb dX10_ready_41 rfl (lv_at hl 1 rfl) ?_
      refine g_cv (As := [.int (iI a1)]) (rest := [.int (iI (v 26)), .ref (ad 0)]) (n := 1) C hml (x_Ro_restOver l D k A ad hD (va_up v 25 (v 25)) f g a1 (by omega) (show shOk (v 1) (f 1) from hs)) mM_X10_240 mI_X10_restOver mE_X10_restOver mN_X10 mC_X10_restOver (by decide +kernel) 0 (ci := 10) rfl rfl hP hS (fun _ h => h) ⟨Nat.le_of_ble_eq_true rfl, Nat.le_of_ble_eq_true rfl⟩ ⟨Nat.zero_le _, Nat.zero_le _⟩ hl.1 rfl rfl (Nat.le_of_ble_eq_true rfl) dX10_ready_42 (fun r_8 v_8 f_8 g_8 H locs hq_8 hP _ hS => ?_)
      obtain ⟨z_8, rfl, rfl, rfl, rfl, p0_8, p1_8⟩ := hq_8
      show W p l e (gRm 3 76) s m args below meth c _ _ 0 0 Q (F0 m 45 ls [.int (iI z_8), .int (iI (v 26)), .ref (ad 0)])
      replace p0_8 : z_8 = (rsF (mxE (f 20) (f 21) (f 24) a1 (v 22) (v 23).toNat) (shF (v 1) (f 1) (v 22) 3)) := p0_8
      replace p1_8 : 0 ≤ z_8 ∧ z_8 ≤ 1001998 := p1_8
      have hz_8 : inR z_8 := (by first | omega | (rw [p0_8]; split <;> omega))
      have hro := p0_8
      clear p0_8
      refine gi_max C hml hl.1 mM_X10_243 (by omega) (by omega) (Nat.le_of_ble_eq_true rfl) (Nat.le_of_ble_eq_true rfl) dX10_ready_45 (fun x_9 hx_9 => ?_)
      refine g_cv (As := [.int (iI x_9)]) (rest := []) (n := 1) C hml (c_X10_answer l D k A ad hD (va_up v 25 (v 25)) f g x_9 (by omega)) mM_X10_120 mI_X10_answer mE_X10_answer mN_X10 mC_X10_answer (by decide +kernel) 0 (ci := 10) rfl rfl hP hS (fun _ h => h) ⟨Nat.le_of_ble_eq_true rfl, Nat.le_of_ble_eq_true rfl⟩ ⟨Nat.zero_le _, Nat.zero_le _⟩ hl.1 rfl rfl (Nat.le_of_ble_eq_true rfl) dX10_ready_48 (fun r_10 v_10 f_10 g_10 H locs hq_10 hP _ hS => ?_)
      obtain ⟨z_10, rfl, rfl, rfl, rfl, p0_10⟩ := hq_10
      show W p l e (gRm 3 76) s m args below meth c _ _ 0 0 Q (F0 m 51 ls [.int (iI z_10)])
      have hP : gWd D (rwT k ad) (va_up v 25 0) f g H := ⟨hP.1, (gR_up (V := rwV) (F := rwF) ⟨hok.1, hok.2⟩ 25 (hP.2.1 25))⟩
      replace p0_10 : z_10 = x_9 := p0_10
      have hz_10 : inR z_10 := (by first | omega | (rw [p0_10]; split <;> omega))
      exact g_iret hQ C hr hlocks hP hS dX10_ready_51 ⟨z_10, 0, rfl, rfl, rfl, rfl, (by first | omega | (rw [← hro]; (repeat' split) <;> omega) | ((repeat' split) <;> omega)), (by first | omega | ((repeat' split) <;> omega)), (by first | omega | ((repeat' split) <;> omega))⟩
    · refine lv_aload_n hx hb dX10_ready_29 rfl (lv_at hl 0 rfl) ?_
      refine lv_iconst (v := iI 5) hx hb dX10_ready_30 rfl ?_
      refine g_cv (As := [.int (iI 5)]) (rest := []) (n := 1) C hml (c_X10_refuse l D k A ad hD (va_up v 25 (v 25)) f g 5 (by decide) (show 0 ≤ (5 : Int) ∧ (5 : Int) ≤ 10 from by omega)) mM_X10_88 mI_X10_refuse mE_X10_refuse mN_X10 mC_X10_refuse (by decide +kernel) 0 (ci := 10) rfl rfl hP hS (fun _ h => h) ⟨Nat.le_of_ble_eq_true rfl, Nat.le_of_ble_eq_true rfl⟩ ⟨Nat.zero_le _, Nat.zero_le _⟩ hl.1 rfl rfl (Nat.le_of_ble_eq_true rfl) dX10_ready_31 (fun r_11 v_11 f_11 g_11 H locs hq_11 hP _ hS => ?_)
      obtain ⟨rfl, rfl, rfl, rfl⟩ := hq_11
      show W p l e (gRm 3 76) s m args below meth c _ _ 0 0 Q (F0 m 34 ls [.int (iI (-1))])
      have hP : gWd D (rwT k ad) (va_up v 25 (5 : Int)) f g H := ⟨hP.1, (gR_up (V := rwV) (F := rwF) ⟨hok.1, hok.2⟩ 25 (hP.2.1 25))⟩
      exact g_iret hQ C hr hlocks hP hS dX10_ready_34 ⟨(-1), (5 : Int), rfl, rfl, rfl, rfl, (by first | omega | (rw [← hro]; (repeat' split) <;> omega) | ((repeat' split) <;> omega)), (by first | omega | ((repeat' split) <;> omega)), (by first | omega | ((repeat' split) <;> omega))⟩
  · have vz_3 := gif0 w_3 c_4
    clear w_3
    refine lv_aload_n hx hb dX10_ready_11 rfl (lv_at hl 0 rfl) ?_
    refine lv_iconst (v := iI 1) hx hb dX10_ready_12 rfl ?_
    refine g_cv (As := [.int (iI 1)]) (rest := []) (n := 1) C hml (c_X10_refuse l D k A ad hD (va_up v 25 (v 25)) f g 1 (by decide) (show 0 ≤ (1 : Int) ∧ (1 : Int) ≤ 10 from by omega)) mM_X10_88 mI_X10_refuse mE_X10_refuse mN_X10 mC_X10_refuse (by decide +kernel) 0 (ci := 10) rfl rfl hP hS (fun _ h => h) ⟨Nat.le_of_ble_eq_true rfl, Nat.le_of_ble_eq_true rfl⟩ ⟨Nat.zero_le _, Nat.zero_le _⟩ hl.1 rfl rfl (Nat.le_of_ble_eq_true rfl) dX10_ready_13 (fun r_12 v_12 f_12 g_12 H locs hq_12 hP _ hS => ?_)
    obtain ⟨rfl, rfl, rfl, rfl⟩ := hq_12
    show W p l e (gRm 3 76) s m args below meth c _ _ 0 0 Q (F0 m 16 ls [.int (iI (-1))])
    have hP : gWd D (rwT k ad) (va_up v 25 (1 : Int)) f g H := ⟨hP.1, (gR_up (V := rwV) (F := rwF) ⟨hok.1, hok.2⟩ 25 (hP.2.1 25))⟩
    exact g_iret hQ C hr hlocks hP hS dX10_ready_16 ⟨(-1), (1 : Int), rfl, rfl, rfl, rfl, (by first | omega | (rw [← hro]; (repeat' split) <;> omega) | ((repeat' split) <;> omega)), (by first | omega | ((repeat' split) <;> omega)), (by first | omega | ((repeat' split) <;> omega))⟩

set_option maxHeartbeats 4000000 in
set_option maxRecDepth 100000 in
theorem x_Ro_appeal (l : Launch) (D : va_G) (k : Nat → ClassId) (A : Nat → Prop) (ad : Nat → Nat) (hD : rwD A k ad) (v : gV) (f g : gF) (a1 : Int) (a2 : Int) (a3 : Int) (h_a1 : inR a1) (h_a2 : inR a2) (h_a3 : inR a3) : GM l D k A (rwT k ad) yX10_appeal cX10_appeal 5 (some .boolean) 1 23 [.ref (ad 0), .int (iI a1), .int (iI a2), .int (iI a3)] v f g (fun r v1 f1 g1 => ∃ (z : Int) (w25 : Int), r = some (.int (iI z)) ∧ (va_up (va_up v 24 (if w25 = 0 then (v 24) + 1 else (v 24))) 25 w25) = v1 ∧ (va_up (va_up (va_up f 28 (if w25 = 0 then u1 (f 28) (v 24) a1 else (f 28))) 29 (if w25 = 0 then u1 (f 29) (v 24) a2 else (f 29))) 30 (if w25 = 0 then u1 (f 30) (v 24) a3 else (f 30))) = f1 ∧ g = g1 ∧ (z = (if w25 = 0 then 1 else 0)) ∧ (w25 = (if ¬ (0 ≤ a1 ∧ a1 < (v 23)) then 1 else if a2 < 0 ∨ (f 15) ((f 21) a1 * 5 + (f 22) a1) < a2 ∨ ¬ (0 ≤ a3 ∧ a3 ≤ 999) then 2 else if (f 26) a1 = 0 ∨ (f 26) a1 = 4 then 10 else if 40 ≤ (v 24) then 3 else 0))) := by
  refine GM.of (by decide) (Nat.le_of_ble_eq_true rfl) ?_
  intro p e s m args below meth c Q ls hQ C hml hr hlocks hP hl
  have hx := C.1
  have hb := C.2.1
  have hok := hP.2
  have hS : va_S A s.heap s.heap [] := va_S.rf
  have hl : lv_has ls 5 [(0, .ref (ad 0)), (1, .int (iI a1)), (2, .int (iI a2)), (3, .int (iI a3))] := hl
  have hP : gWd D (rwT k ad) (va_up (va_up v 24 (v 24)) 25 (v 25)) (va_up (va_up (va_up f 28 (f 28)) 29 (f 29)) 30 (f 30)) g s.heap := by rw [va_id, va_id, va_id, va_id, va_id]; exact hP
  have r_1 : 0 ≤ (v 23) ∧ (v 23) ≤ 300 := hok.1 23
  refine lv_aload_n hx hb dX10_appeal_0 rfl (lv_at hl 0 rfl) ?_
  refine rwG_tries C hP mF_X10_44 dX10_appeal_1 ?_
  refine lv_iload_n hx hb dX10_appeal_4 rfl (lv_at hl 1 rfl) ?_
  refine g_cv (As := [.int (iI a1)]) (rest := []) (n := 1) C hml (c_X7_knows l D k A ad hD (va_up (va_up v 24 (v 24)) 25 (v 25)) (va_up (va_up (va_up f 28 (f 28)) 29 (f 29)) 30 (f 30)) g a1 (by omega)) mM_X10_224 mI_X7_knows mE_X7_knows mN_X7 mC_X7_knows (by decide +kernel) 30 (ci := 7) rfl rfl hP hS (fun _ h => h) ⟨Nat.le_of_ble_eq_true rfl, Nat.le_of_ble_eq_true rfl⟩ ⟨Nat.zero_le _, Nat.zero_le _⟩ hl.1 rfl rfl (Nat.le_of_ble_eq_true rfl) dX10_appeal_5 (fun r_2 v_2 f_2 g_2 H locs hq_2 hP _ hS => ?_)
  obtain ⟨z_2, rfl, rfl, rfl, rfl, p0_2⟩ := hq_2
  show W p l e (gRm 1 23) s m args below meth c _ _ 0 0 Q (F0 m 8 ls [.int (iI z_2)])
  replace p0_2 : z_2 = (if 0 ≤ a1 ∧ a1 < (v 23) then 1 else 0) := p0_2
  have w_2 := gif (P := 0 ≤ a1 ∧ a1 < (v 23)) p0_2
  clear p0_2
  have hz_2 : inR z_2 := (by first | omega | (rw [p0_2]; split <;> omega))
  refine gi_zne (tgt := 17) hx hb dX10_appeal_8 (by decide) (by omega) (fun c_3 => ?_) (fun c_3 => ?_)
  · have vz_2 := gif1 w_2 c_3
    clear w_2
    refine lv_aload_n hx hb dX10_appeal_17 rfl (lv_at hl 0 rfl) ?_
    refine rwG_wall C hP mF_X10_30 dX10_appeal_18 ?_
    refine lv_aload_n hx hb dX10_appeal_21 rfl (lv_at hl 0 rfl) ?_
    refine rwG_tries C hP mF_X10_44 dX10_appeal_22 ?_
    refine rwG_tries_round C hP mF_X10_200 dX10_appeal_25 ?_
    refine lv_iload_n hx hb dX10_appeal_28 rfl (lv_at hl 1 rfl) ?_
    refine rwL_tries_round C hP (by omega) (by omega) dX10_appeal_29 ?_
    show W p l e (gRm 1 23) s m args below meth c _ _ 0 0 Q (F0 m 30 ls [.int (iI (f 21 a1)), .ref (ad 23)])
    have r_4 : 0 ≤ (f 21 a1) ∧ (f 21 a1) ≤ 3 := hP.2.2 21 a1
    refine lv_aload_n hx hb dX10_appeal_30 rfl (lv_at hl 0 rfl) ?_
    refine rwG_tries C hP mF_X10_44 dX10_appeal_31 ?_
    refine rwG_tries_route C hP mF_X10_203 dX10_appeal_34 ?_
    refine lv_iload_n hx hb dX10_appeal_37 rfl (lv_at hl 1 rfl) ?_
    refine rwL_tries_route C hP (by omega) (by omega) dX10_appeal_38 ?_
    show W p l e (gRm 1 23) s m args below meth c _ _ 0 0 Q (F0 m 39 ls [.int (iI (f 22 a1)), .int (iI (f 21 a1)), .ref (ad 23)])
    have r_5 : 0 ≤ (f 22 a1) ∧ (f 22 a1) ≤ 4 := hP.2.2 22 a1
    refine g_cv (As := [.int (iI (f 21 a1)), .int (iI (f 22 a1))]) (rest := []) (n := 2) C hml (c_X8_holdsOf l D k A ad hD (va_up (va_up v 24 (v 24)) 25 (v 25)) (va_up (va_up (va_up f 28 (f 28)) 29 (f 29)) 30 (f 30)) g (f 21 a1) (f 22 a1) (by omega) (by omega) (show 0 ≤ (f 21 a1) ∧ (f 21 a1) ≤ 3 from by omega) (show 0 ≤ (f 22 a1) ∧ (f 22 a1) ≤ 4 from by omega)) mM_X10_173 mI_X8_holdsOf mE_X8_holdsOf mN_X8 mC_X8_holdsOf (by decide +kernel) 23 (ci := 8) rfl rfl hP hS (fun _ h => h) ⟨Nat.le_of_ble_eq_true rfl, Nat.le_of_ble_eq_true rfl⟩ ⟨Nat.zero_le _, Nat.zero_le _⟩ hl.1 rfl rfl (Nat.le_of_ble_eq_true rfl) dX10_appeal_39 (fun r_6 v_6 f_6 g_6 H locs hq_6 hP _ hS => ?_)
    obtain ⟨z_6, rfl, rfl, rfl, rfl, p0_6, p1_6⟩ := hq_6
    show W p l e (gRm 1 23) s m args below meth c _ _ 0 0 Q (F0 m 42 ls [.int (iI z_6)])
    replace p0_6 : z_6 = ((f 15) ((f 21 a1) * 5 + (f 22 a1))) := p0_6
    replace p1_6 : 0 ≤ z_6 ∧ z_6 ≤ 60 := p1_6
    have hz_6 : inR z_6 := (by first | omega | (rw [p0_6]; split <;> omega))
    refine lv_istore (lv' := [(4, .int (iI z_6)), (0, .ref (ad 0)), (1, .int (iI a1)), (2, .int (iI a2)), (3, .int (iI a3))]) hx hb dX10_appeal_42 hl (by decide) rfl (fun ls hl => ?_)
    refine lv_iload_n hx hb dX10_appeal_44 rfl (lv_at hl 3 rfl) ?_
    refine gi_zlt (tgt := 61) hx hb dX10_appeal_45 (by decide) (by omega) (fun c_7 => ?_) (fun c_7 => ?_)
    · refine lv_aload_n hx hb dX10_appeal_61 rfl (lv_at hl 1 rfl) ?_
      refine lv_iconst (v := iI 2) hx hb dX10_appeal_62 rfl ?_
      refine g_cv (As := [.int (iI 2)]) (rest := []) (n := 1) C hml (c_X10_deny l D k A ad hD (va_up (va_up v 24 (v 24)) 25 (v 25)) (va_up (va_up (va_up f 28 (f 28)) 29 (f 29)) 30 (f 30)) g 2 (by decide) (show 0 ≤ (2 : Int) ∧ (2 : Int) ≤ 10 from by omega)) mM_X10_140 mI_X10_deny mE_X10_deny mN_X10 mC_X10_deny (by decide +kernel) 0 (ci := 10) rfl rfl hP hS (fun _ h => h) ⟨Nat.le_of_ble_eq_true rfl, Nat.le_of_ble_eq_true rfl⟩ ⟨Nat.zero_le _, Nat.zero_le _⟩ hl.1 rfl rfl (Nat.le_of_ble_eq_true rfl) dX10_appeal_63 (fun r_8 v_8 f_8 g_8 H locs hq_8 hP _ hS => ?_)
      obtain ⟨rfl, rfl, rfl, rfl⟩ := hq_8
      show W p l e (gRm 1 23) s m args below meth c _ _ 0 0 Q (F0 m 66 ls [.int (iI 0)])
      have hP : gWd D (rwT k ad) (va_up (va_up v 24 (v 24)) 25 (2 : Int)) (va_up (va_up (va_up f 28 (f 28)) 29 (f 29)) 30 (f 30)) g H := ⟨hP.1, (gF_up (V := rwV) (F := rwF) (gF_up (V := rwV) (F := rwF) (gF_up (V := rwV) (F := rwF) (gR_up (V := rwV) (F := rwF) (gR_up (V := rwV) (F := rwF) ⟨hok.1, hok.2⟩ 24 (hP.2.1 24)) 25 (hP.2.1 25)) 28 (hP.2.2 28)) 29 (hP.2.2 29)) 30 (hP.2.2 30))⟩
      exact g_zret hQ C hr hlocks (by decide) hP hS dX10_appeal_66 ⟨0, (2 : Int), rfl, (by rw [show ((if (2 : Int) = 0 then (v 24) + 1 else (v 24)) : Int) = (v 24) from by first | rfl | omega | ((repeat' split) <;> omega)]), (by rw [show ((if (2 : Int) = 0 then u1 (f 28) (v 24) a1 else (f 28)) : Int → Int) = (f 28) from by first | rfl | (rw [if_pos (by omega)]; done) | (rw [if_neg (by omega)]; done) | (rw [if_neg (by omega), if_pos (by omega)]; done) | (rw [if_neg (by omega), if_neg (by omega)]; done), show ((if (2 : Int) = 0 then u1 (f 29) (v 24) a2 else (f 29)) : Int → Int) = (f 29) from by first | rfl | (rw [if_pos (by omega)]; done) | (rw [if_neg (by omega)]; done) | (rw [if_neg (by omega), if_pos (by omega)]; done) | (rw [if_neg (by omega), if_neg (by omega)]; done), show ((if (2 : Int) = 0 then u1 (f 30) (v 24) a3 else (f 30)) : Int → Int) = (f 30) from by first | rfl | (rw [if_pos (by omega)]; done) | (rw [if_neg (by omega)]; done) | (rw [if_neg (by omega), if_pos (by omega)]; done) | (rw [if_neg (by omega), if_neg (by omega)]; done)]), rfl, (by first | omega | ((repeat' split) <;> omega)), (by first | omega | ((repeat' split) <;> omega))⟩
    · refine lv_iload_n hx hb dX10_appeal_48 rfl (lv_at hl 3 rfl) ?_
      refine lv_iload hx hb dX10_appeal_49 (lv_at hl 0 rfl) ?_
      refine gi_cgt (tgt := 61) hx hb dX10_appeal_51 (by decide) (by omega) (by omega) (fun c_9 => ?_) (fun c_9 => ?_)
      · refine lv_aload_n hx hb dX10_appeal_61 rfl (lv_at hl 1 rfl) ?_
        refine lv_iconst (v := iI 2) hx hb dX10_appeal_62 rfl ?_
        refine g_cv (As := [.int (iI 2)]) (rest := []) (n := 1) C hml (c_X10_deny l D k A ad hD (va_up (va_up v 24 (v 24)) 25 (v 25)) (va_up (va_up (va_up f 28 (f 28)) 29 (f 29)) 30 (f 30)) g 2 (by decide) (show 0 ≤ (2 : Int) ∧ (2 : Int) ≤ 10 from by omega)) mM_X10_140 mI_X10_deny mE_X10_deny mN_X10 mC_X10_deny (by decide +kernel) 0 (ci := 10) rfl rfl hP hS (fun _ h => h) ⟨Nat.le_of_ble_eq_true rfl, Nat.le_of_ble_eq_true rfl⟩ ⟨Nat.zero_le _, Nat.zero_le _⟩ hl.1 rfl rfl (Nat.le_of_ble_eq_true rfl) dX10_appeal_63 (fun r_10 v_10 f_10 g_10 H locs hq_10 hP _ hS => ?_)
        obtain ⟨rfl, rfl, rfl, rfl⟩ := hq_10
        show W p l e (gRm 1 23) s m args below meth c _ _ 0 0 Q (F0 m 66 ls [.int (iI 0)])
        have hP : gWd D (rwT k ad) (va_up (va_up v 24 (v 24)) 25 (2 : Int)) (va_up (va_up (va_up f 28 (f 28)) 29 (f 29)) 30 (f 30)) g H := ⟨hP.1, (gF_up (V := rwV) (F := rwF) (gF_up (V := rwV) (F := rwF) (gF_up (V := rwV) (F := rwF) (gR_up (V := rwV) (F := rwF) (gR_up (V := rwV) (F := rwF) ⟨hok.1, hok.2⟩ 24 (hP.2.1 24)) 25 (hP.2.1 25)) 28 (hP.2.2 28)) 29 (hP.2.2 29)) 30 (hP.2.2 30))⟩
        exact g_zret hQ C hr hlocks (by decide) hP hS dX10_appeal_66 ⟨0, (2 : Int), rfl, (by rw [show ((if (2 : Int) = 0 then (v 24) + 1 else (v 24)) : Int) = (v 24) from by first | rfl | omega | ((repeat' split) <;> omega)]), (by rw [show ((if (2 : Int) = 0 then u1 (f 28) (v 24) a1 else (f 28)) : Int → Int) = (f 28) from by first | rfl | (rw [if_pos (by omega)]; done) | (rw [if_neg (by omega)]; done) | (rw [if_neg (by omega), if_pos (by omega)]; done) | (rw [if_neg (by omega), if_neg (by omega)]; done), show ((if (2 : Int) = 0 then u1 (f 29) (v 24) a2 else (f 29)) : Int → Int) = (f 29) from by first | rfl | (rw [if_pos (by omega)]; done) | (rw [if_neg (by omega)]; done) | (rw [if_neg (by omega), if_pos (by omega)]; done) | (rw [if_neg (by omega), if_neg (by omega)]; done), show ((if (2 : Int) = 0 then u1 (f 30) (v 24) a3 else (f 30)) : Int → Int) = (f 30) from by first | rfl | (rw [if_pos (by omega)]; done) | (rw [if_neg (by omega)]; done) | (rw [if_neg (by omega), if_pos (by omega)]; done) | (rw [if_neg (by omega), if_neg (by omega)]; done)]), rfl, (by first | omega | ((repeat' split) <;> omega)), (by first | omega | ((repeat' split) <;> omega))⟩
      · refine lv_iload_n hx hb dX10_appeal_54 rfl (lv_at hl 4 rfl) ?_
        refine g_cs (As := [.int (iI a3)]) (rest := []) (n := 1) C hml (c_X10_isDay l D k A ad hD (va_up (va_up v 24 (v 24)) 25 (v 25)) (va_up (va_up (va_up f 28 (f 28)) 29 (f 29)) 30 (f 30)) g a3 (by omega)) mM_X10_248 mS_X10_isDay mN_X10 mC_X10_isDay (by decide +kernel) hP hS (fun _ h => h) ⟨Nat.le_of_ble_eq_true rfl, Nat.le_of_ble_eq_true rfl⟩ ⟨Nat.zero_le _, Nat.zero_le _⟩ hl.1 rfl rfl (Nat.le_of_ble_eq_true rfl) dX10_appeal_55 (fun r_11 v_11 f_11 g_11 H locs hq_11 hP _ hS => ?_)
        obtain ⟨z_11, rfl, rfl, rfl, rfl, p0_11⟩ := hq_11
        show W p l e (gRm 1 23) s m args below meth c _ _ 0 0 Q (F0 m 58 ls [.int (iI z_11)])
        replace p0_11 : z_11 = (if 0 ≤ a3 ∧ a3 ≤ 999 then 1 else 0) := p0_11
        have w_11 := gif (P := 0 ≤ a3 ∧ a3 ≤ 999) p0_11
        clear p0_11
        have hz_11 : inR z_11 := (by first | omega | (rw [p0_11]; split <;> omega))
        refine gi_zne (tgt := 67) hx hb dX10_appeal_58 (by decide) (by omega) (fun c_12 => ?_) (fun c_12 => ?_)
        · have vz_11 := gif1 w_11 c_12
          clear w_11
          refine lv_aload_n hx hb dX10_appeal_67 rfl (lv_at hl 1 rfl) ?_
          refine rwG_tries C hP mF_X10_44 dX10_appeal_68 ?_
          refine rwG_tries_how C hP mF_X10_234 dX10_appeal_71 ?_
          refine lv_iload_n hx hb dX10_appeal_74 rfl (lv_at hl 2 rfl) ?_
          refine rwL_tries_how C hP (by omega) (by omega) dX10_appeal_75 ?_
          show W p l e (gRm 1 23) s m args below meth c _ _ 0 0 Q (F0 m 76 ls [.int (iI (f 26 a1))])
          have r_13 : 0 ≤ (f 26 a1) ∧ (f 26 a1) ≤ 4 := hP.2.2 26 a1
          refine gi_zeq (tgt := 92) hx hb dX10_appeal_76 (by decide) (by omega) (fun c_14 => ?_) (fun c_14 => ?_)
          · refine lv_aload_n hx hb dX10_appeal_92 rfl (lv_at hl 1 rfl) ?_
            refine lv_bipush (v := iI 10) hx hb dX10_appeal_93 (by decide) ?_
            refine g_cv (As := [.int (iI 10)]) (rest := []) (n := 1) C hml (c_X10_deny l D k A ad hD (va_up (va_up v 24 (v 24)) 25 (v 25)) (va_up (va_up (va_up f 28 (f 28)) 29 (f 29)) 30 (f 30)) g 10 (by decide) (show 0 ≤ (10 : Int) ∧ (10 : Int) ≤ 10 from by omega)) mM_X10_140 mI_X10_deny mE_X10_deny mN_X10 mC_X10_deny (by decide +kernel) 0 (ci := 10) rfl rfl hP hS (fun _ h => h) ⟨Nat.le_of_ble_eq_true rfl, Nat.le_of_ble_eq_true rfl⟩ ⟨Nat.zero_le _, Nat.zero_le _⟩ hl.1 rfl rfl (Nat.le_of_ble_eq_true rfl) dX10_appeal_95 (fun r_15 v_15 f_15 g_15 H locs hq_15 hP _ hS => ?_)
            obtain ⟨rfl, rfl, rfl, rfl⟩ := hq_15
            show W p l e (gRm 1 23) s m args below meth c _ _ 0 0 Q (F0 m 98 ls [.int (iI 0)])
            have hP : gWd D (rwT k ad) (va_up (va_up v 24 (v 24)) 25 (10 : Int)) (va_up (va_up (va_up f 28 (f 28)) 29 (f 29)) 30 (f 30)) g H := ⟨hP.1, (gF_up (V := rwV) (F := rwF) (gF_up (V := rwV) (F := rwF) (gF_up (V := rwV) (F := rwF) (gR_up (V := rwV) (F := rwF) (gR_up (V := rwV) (F := rwF) ⟨hok.1, hok.2⟩ 24 (hP.2.1 24)) 25 (hP.2.1 25)) 28 (hP.2.2 28)) 29 (hP.2.2 29)) 30 (hP.2.2 30))⟩
            exact g_zret hQ C hr hlocks (by decide) hP hS dX10_appeal_98 ⟨0, (10 : Int), rfl, (by rw [show ((if (10 : Int) = 0 then (v 24) + 1 else (v 24)) : Int) = (v 24) from by first | rfl | omega | ((repeat' split) <;> omega)]), (by rw [show ((if (10 : Int) = 0 then u1 (f 28) (v 24) a1 else (f 28)) : Int → Int) = (f 28) from by first | rfl | (rw [if_pos (by omega)]; done) | (rw [if_neg (by omega)]; done) | (rw [if_neg (by omega), if_pos (by omega)]; done) | (rw [if_neg (by omega), if_neg (by omega)]; done), show ((if (10 : Int) = 0 then u1 (f 29) (v 24) a2 else (f 29)) : Int → Int) = (f 29) from by first | rfl | (rw [if_pos (by omega)]; done) | (rw [if_neg (by omega)]; done) | (rw [if_neg (by omega), if_pos (by omega)]; done) | (rw [if_neg (by omega), if_neg (by omega)]; done), show ((if (10 : Int) = 0 then u1 (f 30) (v 24) a3 else (f 30)) : Int → Int) = (f 30) from by first | rfl | (rw [if_pos (by omega)]; done) | (rw [if_neg (by omega)]; done) | (rw [if_neg (by omega), if_pos (by omega)]; done) | (rw [if_neg (by omega), if_neg (by omega)]; done)]), rfl, (by first | omega | ((repeat' split) <;> omega)), (by first | omega | ((repeat' split) <;> omega))⟩
          · refine lv_aload_n hx hb dX10_appeal_79 rfl (lv_at hl 1 rfl) ?_
            refine rwG_tries C hP mF_X10_44 dX10_appeal_80 ?_
            refine rwG_tries_how C hP mF_X10_234 dX10_appeal_83 ?_
            refine lv_iload_n hx hb dX10_appeal_86 rfl (lv_at hl 2 rfl) ?_
            refine rwL_tries_how C hP (by omega) (by omega) dX10_appeal_87 ?_
            show W p l e (gRm 1 23) s m args below meth c _ _ 0 0 Q (F0 m 88 ls [.int (iI (f 26 a1))])
            refine lv_iconst (v := iI 4) hx hb dX10_appeal_88 rfl ?_
            refine gi_cne (tgt := 99) hx hb dX10_appeal_89 (by decide) (by omega) (by decide) (fun c_16 => ?_) (fun c_16 => ?_)
            · refine lv_aload_n hx hb dX10_appeal_99 rfl (lv_at hl 1 rfl) ?_
              refine rwG_appeals C hP mF_X10_51 dX10_appeal_100 ?_
              refine rwG_appeals_many C hP mF_X10_251 dX10_appeal_103 ?_
              show W p l e (gRm 1 23) s m args below meth c _ _ 0 0 Q (F0 m 106 ls [.int (iI (v 24))])
              have r_17 : 0 ≤ (v 24) ∧ (v 24) ≤ 40 := hok.1 24
              refine lv_bipush (v := iI 40) hx hb dX10_appeal_106 (by decide) ?_
              refine gi_clt (tgt := 117) hx hb dX10_appeal_108 (by decide) (by omega) (by decide) (fun c_18 => ?_) (fun c_18 => ?_)
              · refine lv_aload_n hx hb dX10_appeal_117 rfl (lv_at hl 1 rfl) ?_
                refine rwG_appeals C hP mF_X10_51 dX10_appeal_118 ?_
                refine lv_iload_n hx hb dX10_appeal_121 rfl (lv_at hl 2 rfl) ?_
                refine lv_iload_n hx hb dX10_appeal_122 rfl (lv_at hl 3 rfl) ?_
                refine lv_iload_n hx hb dX10_appeal_123 rfl (lv_at hl 4 rfl) ?_
                refine g_cv (As := [.int (iI a1), .int (iI a2), .int (iI a3)]) (rest := []) (n := 3) C hml (c_X0_put l D k A ad hD (va_up (va_up v 24 (v 24)) 25 (v 25)) (va_up (va_up (va_up f 28 (f 28)) 29 (f 29)) 30 (f 30)) g a1 a2 a3 (by omega) (by omega) (by omega) (show (v 24) < 40 from by omega) (show 0 ≤ a1 ∧ a1 ≤ 299 from by omega) (show 0 ≤ a2 ∧ a2 ≤ 60 from by omega) (show 0 ≤ a3 ∧ a3 ≤ 999 from by omega)) mM_X10_252 mI_X0_put mE_X0_put mN_X0 mC_X0_put (by decide +kernel) 39 (ci := 0) rfl rfl hP hS (fun _ h => h) ⟨Nat.le_of_ble_eq_true rfl, Nat.le_of_ble_eq_true rfl⟩ ⟨Nat.zero_le _, Nat.zero_le _⟩ hl.1 rfl rfl (Nat.le_of_ble_eq_true rfl) dX10_appeal_124 (fun r_19 v_19 f_19 g_19 H locs hq_19 hP _ hS => ?_)
                obtain ⟨rfl, rfl, rfl, rfl⟩ := hq_19
                show W p l e (gRm 1 23) s m args below meth c _ _ 0 0 Q (F0 m 127 ls [])
                have hP : gWd D (rwT k ad) (va_up (va_up v 24 ((v 24) + 1)) 25 (v 25)) (va_up (va_up (va_up f 28 (u1 (f 28) (v 24) a1)) 29 (u1 (f 29) (v 24) a2)) 30 (u1 (f 30) (v 24) a3)) g H := ⟨hP.1, (gF_up (V := rwV) (F := rwF) (gF_up (V := rwV) (F := rwF) (gF_up (V := rwV) (F := rwF) (gR_up (V := rwV) (F := rwF) (gR_up (V := rwV) (F := rwF) ⟨hok.1, hok.2⟩ 24 (hP.2.1 24)) 25 (hP.2.1 25)) 28 (hP.2.2 28)) 29 (hP.2.2 29)) 30 (hP.2.2 30))⟩
                refine lv_aload_n hx hb dX10_appeal_127 rfl (lv_at hl 1 rfl) ?_
                refine g_cv (As := []) (rest := []) (n := 0) C hml (c_X10_grant l D k A ad hD (va_up (va_up v 24 ((v 24) + 1)) 25 (v 25)) (va_up (va_up (va_up f 28 (u1 (f 28) (v 24) a1)) 29 (u1 (f 29) (v 24) a2)) 30 (u1 (f 30) (v 24) a3)) g) mM_X10_160 mI_X10_grant mE_X10_grant mN_X10 mC_X10_grant (by decide +kernel) 0 (ci := 10) rfl rfl hP hS (fun _ h => h) ⟨Nat.le_of_ble_eq_true rfl, Nat.le_of_ble_eq_true rfl⟩ ⟨Nat.zero_le _, Nat.zero_le _⟩ hl.1 rfl rfl (Nat.le_of_ble_eq_true rfl) dX10_appeal_128 (fun r_20 v_20 f_20 g_20 H locs hq_20 hP _ hS => ?_)
                obtain ⟨rfl, rfl, rfl, rfl⟩ := hq_20
                show W p l e (gRm 1 23) s m args below meth c _ _ 0 0 Q (F0 m 131 ls [.int (iI 1)])
                have hP : gWd D (rwT k ad) (va_up (va_up v 24 ((v 24) + 1)) 25 0) (va_up (va_up (va_up f 28 (u1 (f 28) (v 24) a1)) 29 (u1 (f 29) (v 24) a2)) 30 (u1 (f 30) (v 24) a3)) g H := ⟨hP.1, (gF_up (V := rwV) (F := rwF) (gF_up (V := rwV) (F := rwF) (gF_up (V := rwV) (F := rwF) (gR_up (V := rwV) (F := rwF) (gR_up (V := rwV) (F := rwF) ⟨hok.1, hok.2⟩ 24 (hP.2.1 24)) 25 (hP.2.1 25)) 28 (hP.2.2 28)) 29 (hP.2.2 29)) 30 (hP.2.2 30))⟩
                exact g_zret hQ C hr hlocks (by decide) hP hS dX10_appeal_131 ⟨1, 0, rfl, (by rw [show ((if (0 : Int) = 0 then (v 24) + 1 else (v 24)) : Int) = ((v 24) + 1) from by first | rfl | omega | ((repeat' split) <;> omega)]), (by rw [show ((if (0 : Int) = 0 then u1 (f 28) (v 24) a1 else (f 28)) : Int → Int) = (u1 (f 28) (v 24) a1) from by first | rfl | (rw [if_pos (by omega)]; done) | (rw [if_neg (by omega)]; done) | (rw [if_neg (by omega), if_pos (by omega)]; done) | (rw [if_neg (by omega), if_neg (by omega)]; done), show ((if (0 : Int) = 0 then u1 (f 29) (v 24) a2 else (f 29)) : Int → Int) = (u1 (f 29) (v 24) a2) from by first | rfl | (rw [if_pos (by omega)]; done) | (rw [if_neg (by omega)]; done) | (rw [if_neg (by omega), if_pos (by omega)]; done) | (rw [if_neg (by omega), if_neg (by omega)]; done), show ((if (0 : Int) = 0 then u1 (f 30) (v 24) a3 else (f 30)) : Int → Int) = (u1 (f 30) (v 24) a3) from by first | rfl | (rw [if_pos (by omega)]; done) | (rw [if_neg (by omega)]; done) | (rw [if_neg (by omega), if_pos (by omega)]; done) | (rw [if_neg (by omega), if_neg (by omega)]; done)]), rfl, (by first | omega | ((repeat' split) <;> omega)), (by first | omega | ((repeat' split) <;> omega))⟩
              · refine lv_aload_n hx hb dX10_appeal_111 rfl (lv_at hl 1 rfl) ?_
                refine lv_iconst (v := iI 3) hx hb dX10_appeal_112 rfl ?_
                refine g_cv (As := [.int (iI 3)]) (rest := []) (n := 1) C hml (c_X10_deny l D k A ad hD (va_up (va_up v 24 (v 24)) 25 (v 25)) (va_up (va_up (va_up f 28 (f 28)) 29 (f 29)) 30 (f 30)) g 3 (by decide) (show 0 ≤ (3 : Int) ∧ (3 : Int) ≤ 10 from by omega)) mM_X10_140 mI_X10_deny mE_X10_deny mN_X10 mC_X10_deny (by decide +kernel) 0 (ci := 10) rfl rfl hP hS (fun _ h => h) ⟨Nat.le_of_ble_eq_true rfl, Nat.le_of_ble_eq_true rfl⟩ ⟨Nat.zero_le _, Nat.zero_le _⟩ hl.1 rfl rfl (Nat.le_of_ble_eq_true rfl) dX10_appeal_113 (fun r_21 v_21 f_21 g_21 H locs hq_21 hP _ hS => ?_)
                obtain ⟨rfl, rfl, rfl, rfl⟩ := hq_21
                show W p l e (gRm 1 23) s m args below meth c _ _ 0 0 Q (F0 m 116 ls [.int (iI 0)])
                have hP : gWd D (rwT k ad) (va_up (va_up v 24 (v 24)) 25 (3 : Int)) (va_up (va_up (va_up f 28 (f 28)) 29 (f 29)) 30 (f 30)) g H := ⟨hP.1, (gF_up (V := rwV) (F := rwF) (gF_up (V := rwV) (F := rwF) (gF_up (V := rwV) (F := rwF) (gR_up (V := rwV) (F := rwF) (gR_up (V := rwV) (F := rwF) ⟨hok.1, hok.2⟩ 24 (hP.2.1 24)) 25 (hP.2.1 25)) 28 (hP.2.2 28)) 29 (hP.2.2 29)) 30 (hP.2.2 30))⟩
                exact g_zret hQ C hr hlocks (by decide) hP hS dX10_appeal_116 ⟨0, (3 : Int), rfl, (by rw [show ((if (3 : Int) = 0 then (v 24) + 1 else (v 24)) : Int) = (v 24) from by first | rfl | omega | ((repeat' split) <;> omega)]), (by rw [show ((if (3 : Int) = 0 then u1 (f 28) (v 24) a1 else (f 28)) : Int → Int) = (f 28) from by first | rfl | (rw [if_pos (by omega)]; done) | (rw [if_neg (by omega)]; done) | (rw [if_neg (by omega), if_pos (by omega)]; done) | (rw [if_neg (by omega), if_neg (by omega)]; done), show ((if (3 : Int) = 0 then u1 (f 29) (v 24) a2 else (f 29)) : Int → Int) = (f 29) from by first | rfl | (rw [if_pos (by omega)]; done) | (rw [if_neg (by omega)]; done) | (rw [if_neg (by omega), if_pos (by omega)]; done) | (rw [if_neg (by omega), if_neg (by omega)]; done), show ((if (3 : Int) = 0 then u1 (f 30) (v 24) a3 else (f 30)) : Int → Int) = (f 30) from by first | rfl | (rw [if_pos (by omega)]; done) | (rw [if_neg (by omega)]; done) | (rw [if_neg (by omega), if_pos (by omega)]; done) | (rw [if_neg (by omega), if_neg (by omega)]; done)]), rfl, (by first | omega | ((repeat' split) <;> omega)), (by first | omega | ((repeat' split) <;> omega))⟩
            · refine lv_aload_n hx hb dX10_appeal_92 rfl (lv_at hl 1 rfl) ?_
              refine lv_bipush (v := iI 10) hx hb dX10_appeal_93 (by decide) ?_
              refine g_cv (As := [.int (iI 10)]) (rest := []) (n := 1) C hml (c_X10_deny l D k A ad hD (va_up (va_up v 24 (v 24)) 25 (v 25)) (va_up (va_up (va_up f 28 (f 28)) 29 (f 29)) 30 (f 30)) g 10 (by decide) (show 0 ≤ (10 : Int) ∧ (10 : Int) ≤ 10 from by omega)) mM_X10_140 mI_X10_deny mE_X10_deny mN_X10 mC_X10_deny (by decide +kernel) 0 (ci := 10) rfl rfl hP hS (fun _ h => h) ⟨Nat.le_of_ble_eq_true rfl, Nat.le_of_ble_eq_true rfl⟩ ⟨Nat.zero_le _, Nat.zero_le _⟩ hl.1 rfl rfl (Nat.le_of_ble_eq_true rfl) dX10_appeal_95 (fun r_22 v_22 f_22 g_22 H locs hq_22 hP _ hS => ?_)
              obtain ⟨rfl, rfl, rfl, rfl⟩ := hq_22
              show W p l e (gRm 1 23) s m args below meth c _ _ 0 0 Q (F0 m 98 ls [.int (iI 0)])
              have hP : gWd D (rwT k ad) (va_up (va_up v 24 (v 24)) 25 (10 : Int)) (va_up (va_up (va_up f 28 (f 28)) 29 (f 29)) 30 (f 30)) g H := ⟨hP.1, (gF_up (V := rwV) (F := rwF) (gF_up (V := rwV) (F := rwF) (gF_up (V := rwV) (F := rwF) (gR_up (V := rwV) (F := rwF) (gR_up (V := rwV) (F := rwF) ⟨hok.1, hok.2⟩ 24 (hP.2.1 24)) 25 (hP.2.1 25)) 28 (hP.2.2 28)) 29 (hP.2.2 29)) 30 (hP.2.2 30))⟩
              exact g_zret hQ C hr hlocks (by decide) hP hS dX10_appeal_98 ⟨0, (10 : Int), rfl, (by rw [show ((if (10 : Int) = 0 then (v 24) + 1 else (v 24)) : Int) = (v 24) from by first | rfl | omega | ((repeat' split) <;> omega)]), (by rw [show ((if (10 : Int) = 0 then u1 (f 28) (v 24) a1 else (f 28)) : Int → Int) = (f 28) from by first | rfl | (rw [if_pos (by omega)]; done) | (rw [if_neg (by omega)]; done) | (rw [if_neg (by omega), if_pos (by omega)]; done) | (rw [if_neg (by omega), if_neg (by omega)]; done), show ((if (10 : Int) = 0 then u1 (f 29) (v 24) a2 else (f 29)) : Int → Int) = (f 29) from by first | rfl | (rw [if_pos (by omega)]; done) | (rw [if_neg (by omega)]; done) | (rw [if_neg (by omega), if_pos (by omega)]; done) | (rw [if_neg (by omega), if_neg (by omega)]; done), show ((if (10 : Int) = 0 then u1 (f 30) (v 24) a3 else (f 30)) : Int → Int) = (f 30) from by first | rfl | (rw [if_pos (by omega)]; done) | (rw [if_neg (by omega)]; done) | (rw [if_neg (by omega), if_pos (by omega)]; done) | (rw [if_neg (by omega), if_neg (by omega)]; done)]), rfl, (by first | omega | ((repeat' split) <;> omega)), (by first | omega | ((repeat' split) <;> omega))⟩
        · have vz_11 := gif0 w_11 c_12
          clear w_11
          refine lv_aload_n hx hb dX10_appeal_61 rfl (lv_at hl 1 rfl) ?_
          refine lv_iconst (v := iI 2) hx hb dX10_appeal_62 rfl ?_
          refine g_cv (As := [.int (iI 2)]) (rest := []) (n := 1) C hml (c_X10_deny l D k A ad hD (va_up (va_up v 24 (v 24)) 25 (v 25)) (va_up (va_up (va_up f 28 (f 28)) 29 (f 29)) 30 (f 30)) g 2 (by decide) (show 0 ≤ (2 : Int) ∧ (2 : Int) ≤ 10 from by omega)) mM_X10_140 mI_X10_deny mE_X10_deny mN_X10 mC_X10_deny (by decide +kernel) 0 (ci := 10) rfl rfl hP hS (fun _ h => h) ⟨Nat.le_of_ble_eq_true rfl, Nat.le_of_ble_eq_true rfl⟩ ⟨Nat.zero_le _, Nat.zero_le _⟩ hl.1 rfl rfl (Nat.le_of_ble_eq_true rfl) dX10_appeal_63 (fun r_23 v_23 f_23 g_23 H locs hq_23 hP _ hS => ?_)
          obtain ⟨rfl, rfl, rfl, rfl⟩ := hq_23
          show W p l e (gRm 1 23) s m args below meth c _ _ 0 0 Q (F0 m 66 ls [.int (iI 0)])
          have hP : gWd D (rwT k ad) (va_up (va_up v 24 (v 24)) 25 (2 : Int)) (va_up (va_up (va_up f 28 (f 28)) 29 (f 29)) 30 (f 30)) g H := ⟨hP.1, (gF_up (V := rwV) (F := rwF) (gF_up (V := rwV) (F := rwF) (gF_up (V := rwV) (F := rwF) (gR_up (V := rwV) (F := rwF) (gR_up (V := rwV) (F := rwF) ⟨hok.1, hok.2⟩ 24 (hP.2.1 24)) 25 (hP.2.1 25)) 28 (hP.2.2 28)) 29 (hP.2.2 29)) 30 (hP.2.2 30))⟩
          exact g_zret hQ C hr hlocks (by decide) hP hS dX10_appeal_66 ⟨0, (2 : Int), rfl, (by rw [show ((if (2 : Int) = 0 then (v 24) + 1 else (v 24)) : Int) = (v 24) from by first | rfl | omega | ((repeat' split) <;> omega)]), (by rw [show ((if (2 : Int) = 0 then u1 (f 28) (v 24) a1 else (f 28)) : Int → Int) = (f 28) from by first | rfl | (rw [if_pos (by omega)]; done) | (rw [if_neg (by omega)]; done) | (rw [if_neg (by omega), if_pos (by omega)]; done) | (rw [if_neg (by omega), if_neg (by omega)]; done), show ((if (2 : Int) = 0 then u1 (f 29) (v 24) a2 else (f 29)) : Int → Int) = (f 29) from by first | rfl | (rw [if_pos (by omega)]; done) | (rw [if_neg (by omega)]; done) | (rw [if_neg (by omega), if_pos (by omega)]; done) | (rw [if_neg (by omega), if_neg (by omega)]; done), show ((if (2 : Int) = 0 then u1 (f 30) (v 24) a3 else (f 30)) : Int → Int) = (f 30) from by first | rfl | (rw [if_pos (by omega)]; done) | (rw [if_neg (by omega)]; done) | (rw [if_neg (by omega), if_pos (by omega)]; done) | (rw [if_neg (by omega), if_neg (by omega)]; done)]), rfl, (by first | omega | ((repeat' split) <;> omega)), (by first | omega | ((repeat' split) <;> omega))⟩
  · have vz_2 := gif0 w_2 c_3
    clear w_2
    refine lv_aload_n hx hb dX10_appeal_11 rfl (lv_at hl 0 rfl) ?_
    refine lv_iconst (v := iI 1) hx hb dX10_appeal_12 rfl ?_
    refine g_cv (As := [.int (iI 1)]) (rest := []) (n := 1) C hml (c_X10_deny l D k A ad hD (va_up (va_up v 24 (v 24)) 25 (v 25)) (va_up (va_up (va_up f 28 (f 28)) 29 (f 29)) 30 (f 30)) g 1 (by decide) (show 0 ≤ (1 : Int) ∧ (1 : Int) ≤ 10 from by omega)) mM_X10_140 mI_X10_deny mE_X10_deny mN_X10 mC_X10_deny (by decide +kernel) 0 (ci := 10) rfl rfl hP hS (fun _ h => h) ⟨Nat.le_of_ble_eq_true rfl, Nat.le_of_ble_eq_true rfl⟩ ⟨Nat.zero_le _, Nat.zero_le _⟩ hl.1 rfl rfl (Nat.le_of_ble_eq_true rfl) dX10_appeal_13 (fun r_24 v_24 f_24 g_24 H locs hq_24 hP _ hS => ?_)
    obtain ⟨rfl, rfl, rfl, rfl⟩ := hq_24
    show W p l e (gRm 1 23) s m args below meth c _ _ 0 0 Q (F0 m 16 ls [.int (iI 0)])
    have hP : gWd D (rwT k ad) (va_up (va_up v 24 (v 24)) 25 (1 : Int)) (va_up (va_up (va_up f 28 (f 28)) 29 (f 29)) 30 (f 30)) g H := ⟨hP.1, (gF_up (V := rwV) (F := rwF) (gF_up (V := rwV) (F := rwF) (gF_up (V := rwV) (F := rwF) (gR_up (V := rwV) (F := rwF) (gR_up (V := rwV) (F := rwF) ⟨hok.1, hok.2⟩ 24 (hP.2.1 24)) 25 (hP.2.1 25)) 28 (hP.2.2 28)) 29 (hP.2.2 29)) 30 (hP.2.2 30))⟩
    exact g_zret hQ C hr hlocks (by decide) hP hS dX10_appeal_16 ⟨0, (1 : Int), rfl, (by rw [show ((if (1 : Int) = 0 then (v 24) + 1 else (v 24)) : Int) = (v 24) from by first | rfl | omega | ((repeat' split) <;> omega)]), (by rw [show ((if (1 : Int) = 0 then u1 (f 28) (v 24) a1 else (f 28)) : Int → Int) = (f 28) from by first | rfl | (rw [if_pos (by omega)]; done) | (rw [if_neg (by omega)]; done) | (rw [if_neg (by omega), if_pos (by omega)]; done) | (rw [if_neg (by omega), if_neg (by omega)]; done), show ((if (1 : Int) = 0 then u1 (f 29) (v 24) a2 else (f 29)) : Int → Int) = (f 29) from by first | rfl | (rw [if_pos (by omega)]; done) | (rw [if_neg (by omega)]; done) | (rw [if_neg (by omega), if_pos (by omega)]; done) | (rw [if_neg (by omega), if_neg (by omega)]; done), show ((if (1 : Int) = 0 then u1 (f 30) (v 24) a3 else (f 30)) : Int → Int) = (f 30) from by first | rfl | (rw [if_pos (by omega)]; done) | (rw [if_neg (by omega)]; done) | (rw [if_neg (by omega), if_pos (by omega)]; done) | (rw [if_neg (by omega), if_neg (by omega)]; done)]), rfl, (by first | omega | ((repeat' split) <;> omega)), (by first | omega | ((repeat' split) <;> omega))⟩

set_option maxHeartbeats 4000000 in
set_option maxRecDepth 100000 in
theorem x_Ro_of (l : Launch) (D : va_G) (k : Nat → ClassId) (A : Nat → Prop) (ad : Nat → Nat) (hD : rwD A k ad) (v : gV) (f g : gF) (a1 : Int) (a2 : Int) (a3 : Int) (a4 : Int) (a5 : Int) (h_a1 : inR a1) (h_a2 : inR a2) (h_a3 : inR a3) (h_a4 : inR a4) (h_a5 : inR a5) (hs : shOk (v 1) (f 1)) : GM l D k A (rwT k ad) yX10_of cX10_of 6 (some .int) 3 85 [.ref (ad 0), .int (iI a1), .int (iI a2), .int (iI a3), .int (iI a4), .int (iI a5)] v f g (fun r v1 f1 g1 => ∃ (z : Int) (w25 : Int) (a34_ : Int → Int) (a35_ : Int → Int) (a36_ : Int → Int) (a37_ : Int → Int) (a38_ : Int → Int) (a39_ : Int → Int) (b0_ : Int → Int), r = some (.int (iI z)) ∧ (va_up v 25 w25) = v1 ∧ (va_up (va_up (va_up (va_up (va_up (va_up f 34 a34_) 35 a35_) 36 a36_) 37 a37_) 38 a38_) 39 a39_) = f1 ∧ (va_up g 0 b0_) = g1 ∧ (z = (if w25 ≠ 0 then (-1) else if a5 = 6 then evR (f 2) (f 3) (gFd (f 20) (f 21) (f 22) (f 23) (f 24) (f 25) (f 26) (f 28) (f 29) (f 30) (f 15) (f 17) (v 23) (v 24) a4 a1 a2 a3) (v 2) else gFd (f 20) (f 21) (f 22) (f 23) (f 24) (f 25) (f 26) (f 28) (f 29) (f 30) (f 15) (f 17) (v 23) (v 24) a4 a1 a2 a3 a5)) ∧ ((-1000000000) ≤ z ∧ z ≤ 1000000000) ∧ (w25 = (if ¬ (((0 ≤ a1 ∧ a1 < (v 1)) ∧ 0 ≤ a2 ∧ a2 < (f 1) (a1 * 4)) ∧ (0 ≤ a3 ∧ a3 < (v 21))) then 1 else if ¬ (0 ≤ a4 ∧ a4 ≤ 999) ∨ a5 < 0 ∨ 6 < a5 then 2 else 0))) := by
  refine GM.of (by decide) (Nat.le_of_ble_eq_true rfl) ?_
  intro p e s m args below meth c Q ls hQ C hml hr hlocks hP hl
  have hx := C.1
  have hb := C.2.1
  have hok := hP.2
  have hS : va_S A s.heap s.heap [] := va_S.rf
  have hl : lv_has ls 6 [(0, .ref (ad 0)), (1, .int (iI a1)), (2, .int (iI a2)), (3, .int (iI a3)), (4, .int (iI a4)), (5, .int (iI a5))] := hl
  have hP : gWd D (rwT k ad) (va_up v 25 (v 25)) (va_up (va_up (va_up (va_up (va_up (va_up f 34 (f 34)) 35 (f 35)) 36 (f 36)) 37 (f 37)) 38 (f 38)) 39 (f 39)) (va_up g 0 (g 0)) s.heap := by rw [va_id, va_id, va_id, va_id, va_id, va_id, va_id, va_id]; exact hP
  have hnu : ∀ k, 0 ≤ (f 3) k ∧ (f 3) k ≤ 999999 := fun k => hok.2 3 k
  have hit : ∀ k, 0 ≤ (f 2) k ∧ (f 2) k ≤ 10 := fun k => hok.2 2 k
  have hFr : ∀ r t c i, (-2000000) ≤ gFd (f 20) (f 21) (f 22) (f 23) (f 24) (f 25) (f 26) (f 28) (f 29) (f 30) (f 15) (f 17) (v 23) (v 24) a4 r t c i ∧ gFd (f 20) (f 21) (f 22) (f 23) (f 24) (f 25) (f 26) (f 28) (f 29) (f 30) (f 15) (f 17) (v 23) (v 24) a4 r t c i ≤ 2000000 := fun r t c i => Fd_r (hok.2 25) (hok.2 29) (hok.2 24) (hok.2 23) (hok.1 23) i
  have hPr : ∀ r t c, (-1000000000) ≤ evR (f 2) (f 3) (gFd (f 20) (f 21) (f 22) (f 23) (f 24) (f 25) (f 26) (f 28) (f 29) (f 30) (f 15) (f 17) (v 23) (v 24) a4 r t c) (v 2) ∧ evR (f 2) (f 3) (gFd (f 20) (f 21) (f 22) (f 23) (f 24) (f 25) (f 26) (f 28) (f 29) (f 30) (f 15) (f 17) (v 23) (v 24) a4 r t c) (v 2) ≤ 1000000000 := fun r t c => pt_r hnu (fun k => (hit k).1) (hFr r t c)
  have r_1 : 0 ≤ (v 1) ∧ (v 1) ≤ 4 := hok.1 1
  have r_2 : 0 ≤ (v 21) ∧ (v 21) ≤ 16 := hok.1 21
  refine lv_aload_n hx hb dX10_of_0 rfl (lv_at hl 0 rfl) ?_
  refine rwG_laws C hP mF_X10_16 dX10_of_1 ?_
  refine lv_iload_n hx hb dX10_of_4 rfl (lv_at hl 1 rfl) ?_
  refine lv_iload_n hx hb dX10_of_5 rfl (lv_at hl 2 rfl) ?_
  refine g_cv (As := [.int (iI a1), .int (iI a2)]) (rest := []) (n := 2) C hml (c_X4_hasRoute l D k A ad hD (va_up v 25 (v 25)) (va_up (va_up (va_up (va_up (va_up (va_up f 34 (f 34)) 35 (f 35)) 36 (f 36)) 37 (f 37)) 38 (f 38)) 39 (f 39)) (va_up g 0 (g 0)) a1 a2 (by omega) (by omega)) mM_X10_136 mI_X4_hasRoute mE_X4_hasRoute mN_X4 mC_X4_hasRoute (by decide +kernel) 2 (ci := 4) rfl rfl hP hS (fun _ h => h) ⟨Nat.le_of_ble_eq_true rfl, Nat.le_of_ble_eq_true rfl⟩ ⟨Nat.zero_le _, Nat.zero_le _⟩ hl.1 rfl rfl (Nat.le_of_ble_eq_true rfl) dX10_of_6 (fun r_3 v_3 f_3 g_3 H locs hq_3 hP _ hS => ?_)
  obtain ⟨z_3, rfl, rfl, rfl, rfl, p0_3⟩ := hq_3
  show W p l e (gRm 3 85) s m args below meth c _ _ 0 0 Q (F0 m 9 ls [.int (iI z_3)])
  replace p0_3 : z_3 = (if (0 ≤ a1 ∧ a1 < (v 1)) ∧ 0 ≤ a2 ∧ a2 < (f 1) (a1 * 4) then 1 else 0) := p0_3
  have w_3 := gif (P := (0 ≤ a1 ∧ a1 < (v 1)) ∧ 0 ≤ a2 ∧ a2 < (f 1) (a1 * 4)) p0_3
  clear p0_3
  have hz_3 : inR z_3 := (by first | omega | (rw [p0_3]; split <;> omega))
  have q_3 : ((0 ≤ a1 ∧ a1 < (v 1)) ∧ 0 ≤ a2 ∧ a2 < (f 1) (a1 * 4)) → a2 ≤ 4 := fun h => shR hs h
  refine gi_zeq (tgt := 23) hx hb dX10_of_9 (by decide) (by omega) (fun c_4 => ?_) (fun c_4 => ?_)
  · have vz_3 := gif0 w_3 c_4
    clear w_3
    refine lv_aload_n hx hb dX10_of_23 rfl (lv_at hl 0 rfl) ?_
    refine lv_iconst (v := iI 1) hx hb dX10_of_24 rfl ?_
    refine g_cv (As := [.int (iI 1)]) (rest := []) (n := 1) C hml (c_X10_refuse l D k A ad hD (va_up v 25 (v 25)) (va_up (va_up (va_up (va_up (va_up (va_up f 34 (f 34)) 35 (f 35)) 36 (f 36)) 37 (f 37)) 38 (f 38)) 39 (f 39)) (va_up g 0 (g 0)) 1 (by decide) (show 0 ≤ (1 : Int) ∧ (1 : Int) ≤ 10 from by omega)) mM_X10_88 mI_X10_refuse mE_X10_refuse mN_X10 mC_X10_refuse (by decide +kernel) 0 (ci := 10) rfl rfl hP hS (fun _ h => h) ⟨Nat.le_of_ble_eq_true rfl, Nat.le_of_ble_eq_true rfl⟩ ⟨Nat.zero_le _, Nat.zero_le _⟩ hl.1 rfl rfl (Nat.le_of_ble_eq_true rfl) dX10_of_25 (fun r_5 v_5 f_5 g_5 H locs hq_5 hP _ hS => ?_)
    obtain ⟨rfl, rfl, rfl, rfl⟩ := hq_5
    show W p l e (gRm 3 85) s m args below meth c _ _ 0 0 Q (F0 m 28 ls [.int (iI (-1))])
    have hP : gWd D (rwT k ad) (va_up v 25 (1 : Int)) (va_up (va_up (va_up (va_up (va_up (va_up f 34 (f 34)) 35 (f 35)) 36 (f 36)) 37 (f 37)) 38 (f 38)) 39 (f 39)) (va_up g 0 (g 0)) H := ⟨hP.1, (gF_up (V := rwV) (F := rwF) (gF_up (V := rwV) (F := rwF) (gF_up (V := rwV) (F := rwF) (gF_up (V := rwV) (F := rwF) (gF_up (V := rwV) (F := rwF) (gF_up (V := rwV) (F := rwF) (gR_up (V := rwV) (F := rwF) ⟨hok.1, hok.2⟩ 25 (hP.2.1 25)) 34 (hP.2.2 34)) 35 (hP.2.2 35)) 36 (hP.2.2 36)) 37 (hP.2.2 37)) 38 (hP.2.2 38)) 39 (hP.2.2 39))⟩
    exact g_iret hQ C hr hlocks hP hS dX10_of_28 ⟨(-1), (1 : Int), (f 34), (f 35), (f 36), (f 37), (f 38), (f 39), (g 0), rfl, rfl, rfl, rfl, (by first | (rw [if_pos (by omega)]) | (rw [if_neg (by omega), if_pos (by omega)]; exact han.trans hpt) | (rw [if_neg (by omega), if_neg (by omega)]; exact han.trans hfi)), (by first | omega | ((repeat' split) <;> omega)), (by first | omega | ((repeat' split) <;> omega))⟩
  · have vz_3 := gif1 w_3 c_4
    clear w_3
    refine lv_aload_n hx hb dX10_of_12 rfl (lv_at hl 0 rfl) ?_
    refine rwG_field C hP mF_X10_37 dX10_of_13 ?_
    refine lv_iload_n hx hb dX10_of_16 rfl (lv_at hl 3 rfl) ?_
    refine g_cv (As := [.int (iI a3)]) (rest := []) (n := 1) C hml (c_X2_knows l D k A ad hD (va_up v 25 (v 25)) (va_up (va_up (va_up (va_up (va_up (va_up f 34 (f 34)) 35 (f 35)) 36 (f 36)) 37 (f 37)) 38 (f 38)) 39 (f 39)) (va_up g 0 (g 0)) a3 (by omega)) mM_X10_180 mI_X2_knows mE_X2_knows mN_X2 mC_X2_knows (by decide +kernel) 27 (ci := 2) rfl rfl hP hS (fun _ h => h) ⟨Nat.le_of_ble_eq_true rfl, Nat.le_of_ble_eq_true rfl⟩ ⟨Nat.zero_le _, Nat.zero_le _⟩ hl.1 rfl rfl (Nat.le_of_ble_eq_true rfl) dX10_of_17 (fun r_6 v_6 f_6 g_6 H locs hq_6 hP _ hS => ?_)
    obtain ⟨z_6, rfl, rfl, rfl, rfl, p0_6⟩ := hq_6
    show W p l e (gRm 3 85) s m args below meth c _ _ 0 0 Q (F0 m 20 ls [.int (iI z_6)])
    replace p0_6 : z_6 = (if 0 ≤ a3 ∧ a3 < (v 21) then 1 else 0) := p0_6
    have w_6 := gif (P := 0 ≤ a3 ∧ a3 < (v 21)) p0_6
    clear p0_6
    have hz_6 : inR z_6 := (by first | omega | (rw [p0_6]; split <;> omega))
    refine gi_zne (tgt := 29) hx hb dX10_of_20 (by decide) (by omega) (fun c_7 => ?_) (fun c_7 => ?_)
    · have vz_6 := gif1 w_6 c_7
      clear w_6
      refine lv_iload hx hb dX10_of_29 (lv_at hl 4 rfl) ?_
      refine g_cs (As := [.int (iI a4)]) (rest := []) (n := 1) C hml (c_X10_isDay l D k A ad hD (va_up v 25 (v 25)) (va_up (va_up (va_up (va_up (va_up (va_up f 34 (f 34)) 35 (f 35)) 36 (f 36)) 37 (f 37)) 38 (f 38)) 39 (f 39)) (va_up g 0 (g 0)) a4 (by omega)) mM_X10_248 mS_X10_isDay mN_X10 mC_X10_isDay (by decide +kernel) hP hS (fun _ h => h) ⟨Nat.le_of_ble_eq_true rfl, Nat.le_of_ble_eq_true rfl⟩ ⟨Nat.zero_le _, Nat.zero_le _⟩ hl.1 rfl rfl (Nat.le_of_ble_eq_true rfl) dX10_of_31 (fun r_8 v_8 f_8 g_8 H locs hq_8 hP _ hS => ?_)
      obtain ⟨z_8, rfl, rfl, rfl, rfl, p0_8⟩ := hq_8
      show W p l e (gRm 3 85) s m args below meth c _ _ 0 0 Q (F0 m 34 ls [.int (iI z_8)])
      replace p0_8 : z_8 = (if 0 ≤ a4 ∧ a4 ≤ 999 then 1 else 0) := p0_8
      have w_8 := gif (P := 0 ≤ a4 ∧ a4 ≤ 999) p0_8
      clear p0_8
      have hz_8 : inR z_8 := (by first | omega | (rw [p0_8]; split <;> omega))
      refine gi_zeq (tgt := 49) hx hb dX10_of_34 (by decide) (by omega) (fun c_9 => ?_) (fun c_9 => ?_)
      · have vz_8 := gif0 w_8 c_9
        clear w_8
        refine lv_aload_n hx hb dX10_of_49 rfl (lv_at hl 0 rfl) ?_
        refine lv_iconst (v := iI 2) hx hb dX10_of_50 rfl ?_
        refine g_cv (As := [.int (iI 2)]) (rest := []) (n := 1) C hml (c_X10_refuse l D k A ad hD (va_up v 25 (v 25)) (va_up (va_up (va_up (va_up (va_up (va_up f 34 (f 34)) 35 (f 35)) 36 (f 36)) 37 (f 37)) 38 (f 38)) 39 (f 39)) (va_up g 0 (g 0)) 2 (by decide) (show 0 ≤ (2 : Int) ∧ (2 : Int) ≤ 10 from by omega)) mM_X10_88 mI_X10_refuse mE_X10_refuse mN_X10 mC_X10_refuse (by decide +kernel) 0 (ci := 10) rfl rfl hP hS (fun _ h => h) ⟨Nat.le_of_ble_eq_true rfl, Nat.le_of_ble_eq_true rfl⟩ ⟨Nat.zero_le _, Nat.zero_le _⟩ hl.1 rfl rfl (Nat.le_of_ble_eq_true rfl) dX10_of_51 (fun r_10 v_10 f_10 g_10 H locs hq_10 hP _ hS => ?_)
        obtain ⟨rfl, rfl, rfl, rfl⟩ := hq_10
        show W p l e (gRm 3 85) s m args below meth c _ _ 0 0 Q (F0 m 54 ls [.int (iI (-1))])
        have hP : gWd D (rwT k ad) (va_up v 25 (2 : Int)) (va_up (va_up (va_up (va_up (va_up (va_up f 34 (f 34)) 35 (f 35)) 36 (f 36)) 37 (f 37)) 38 (f 38)) 39 (f 39)) (va_up g 0 (g 0)) H := ⟨hP.1, (gF_up (V := rwV) (F := rwF) (gF_up (V := rwV) (F := rwF) (gF_up (V := rwV) (F := rwF) (gF_up (V := rwV) (F := rwF) (gF_up (V := rwV) (F := rwF) (gF_up (V := rwV) (F := rwF) (gR_up (V := rwV) (F := rwF) ⟨hok.1, hok.2⟩ 25 (hP.2.1 25)) 34 (hP.2.2 34)) 35 (hP.2.2 35)) 36 (hP.2.2 36)) 37 (hP.2.2 37)) 38 (hP.2.2 38)) 39 (hP.2.2 39))⟩
        exact g_iret hQ C hr hlocks hP hS dX10_of_54 ⟨(-1), (2 : Int), (f 34), (f 35), (f 36), (f 37), (f 38), (f 39), (g 0), rfl, rfl, rfl, rfl, (by first | (rw [if_pos (by omega)]) | (rw [if_neg (by omega), if_pos (by omega)]; exact han.trans hpt) | (rw [if_neg (by omega), if_neg (by omega)]; exact han.trans hfi)), (by first | omega | ((repeat' split) <;> omega)), (by first | omega | ((repeat' split) <;> omega))⟩
      · have vz_8 := gif1 w_8 c_9
        clear w_8
        refine lv_iload hx hb dX10_of_37 (lv_at hl 5 rfl) ?_
        refine gi_zlt (tgt := 49) hx hb dX10_of_39 (by decide) (by omega) (fun c_11 => ?_) (fun c_11 => ?_)
        · refine lv_aload_n hx hb dX10_of_49 rfl (lv_at hl 0 rfl) ?_
          refine lv_iconst (v := iI 2) hx hb dX10_of_50 rfl ?_
          refine g_cv (As := [.int (iI 2)]) (rest := []) (n := 1) C hml (c_X10_refuse l D k A ad hD (va_up v 25 (v 25)) (va_up (va_up (va_up (va_up (va_up (va_up f 34 (f 34)) 35 (f 35)) 36 (f 36)) 37 (f 37)) 38 (f 38)) 39 (f 39)) (va_up g 0 (g 0)) 2 (by decide) (show 0 ≤ (2 : Int) ∧ (2 : Int) ≤ 10 from by omega)) mM_X10_88 mI_X10_refuse mE_X10_refuse mN_X10 mC_X10_refuse (by decide +kernel) 0 (ci := 10) rfl rfl hP hS (fun _ h => h) ⟨Nat.le_of_ble_eq_true rfl, Nat.le_of_ble_eq_true rfl⟩ ⟨Nat.zero_le _, Nat.zero_le _⟩ hl.1 rfl rfl (Nat.le_of_ble_eq_true rfl) dX10_of_51 (fun r_12 v_12 f_12 g_12 H locs hq_12 hP _ hS => ?_)
          obtain ⟨rfl, rfl, rfl, rfl⟩ := hq_12
          show W p l e (gRm 3 85) s m args below meth c _ _ 0 0 Q (F0 m 54 ls [.int (iI (-1))])
          have hP : gWd D (rwT k ad) (va_up v 25 (2 : Int)) (va_up (va_up (va_up (va_up (va_up (va_up f 34 (f 34)) 35 (f 35)) 36 (f 36)) 37 (f 37)) 38 (f 38)) 39 (f 39)) (va_up g 0 (g 0)) H := ⟨hP.1, (gF_up (V := rwV) (F := rwF) (gF_up (V := rwV) (F := rwF) (gF_up (V := rwV) (F := rwF) (gF_up (V := rwV) (F := rwF) (gF_up (V := rwV) (F := rwF) (gF_up (V := rwV) (F := rwF) (gR_up (V := rwV) (F := rwF) ⟨hok.1, hok.2⟩ 25 (hP.2.1 25)) 34 (hP.2.2 34)) 35 (hP.2.2 35)) 36 (hP.2.2 36)) 37 (hP.2.2 37)) 38 (hP.2.2 38)) 39 (hP.2.2 39))⟩
          exact g_iret hQ C hr hlocks hP hS dX10_of_54 ⟨(-1), (2 : Int), (f 34), (f 35), (f 36), (f 37), (f 38), (f 39), (g 0), rfl, rfl, rfl, rfl, (by first | (rw [if_pos (by omega)]) | (rw [if_neg (by omega), if_pos (by omega)]; exact han.trans hpt) | (rw [if_neg (by omega), if_neg (by omega)]; exact han.trans hfi)), (by first | omega | ((repeat' split) <;> omega)), (by first | omega | ((repeat' split) <;> omega))⟩
        · refine lv_iload hx hb dX10_of_42 (lv_at hl 5 rfl) ?_
          refine lv_bipush (v := iI 6) hx hb dX10_of_44 (by decide) ?_
          refine gi_cle (tgt := 55) hx hb dX10_of_46 (by decide) (by omega) (by decide) (fun c_13 => ?_) (fun c_13 => ?_)
          · refine lv_aload_n hx hb dX10_of_55 rfl (lv_at hl 0 rfl) ?_
            refine rwG_results C hP mF_X10_67 dX10_of_56 ?_
            refine lv_iload hx hb dX10_of_59 (lv_at hl 4 rfl) ?_
            refine g_cv (As := [.int (iI a4)]) (rest := []) (n := 1) C hml (x_Re_survey l D k A ad hD (va_up v 25 (v 25)) (va_up (va_up (va_up (va_up (va_up (va_up f 34 (f 34)) 35 (f 35)) 36 (f 36)) 37 (f 37)) 38 (f 38)) 39 (f 39)) (va_up g 0 (g 0)) a4 (by omega)) mM_X10_255 mI_X5_survey mE_X5_survey mN_X5 mC_X5_survey (by decide +kernel) 47 (ci := 5) rfl rfl hP hS (fun _ h => h) ⟨Nat.le_of_ble_eq_true rfl, Nat.le_of_ble_eq_true rfl⟩ ⟨Nat.zero_le _, Nat.zero_le _⟩ hl.1 rfl rfl (Nat.le_of_ble_eq_true rfl) dX10_of_61 (fun r_14 v_14 f_14 g_14 H locs hq_14 hP _ hS => ?_)
            obtain ⟨a34_14, a35_14, a36_14, a37_14, a38_14, rfl, rfl, rfl, rfl, p0_14, p1_14⟩ := hq_14
            show W p l e (gRm 3 85) s m args below meth c _ _ 0 0 Q (F0 m 64 ls [])
            have hP : gWd D (rwT k ad) (va_up v 25 (v 25)) (va_up (va_up (va_up (va_up (va_up (va_up f 34 a34_14) 35 a35_14) 36 a36_14) 37 a37_14) 38 a38_14) 39 (f 39)) (va_up g 0 (g 0)) H := ⟨hP.1, (gF_up (V := rwV) (F := rwF) (gF_up (V := rwV) (F := rwF) (gF_up (V := rwV) (F := rwF) (gF_up (V := rwV) (F := rwF) (gF_up (V := rwV) (F := rwF) (gF_up (V := rwV) (F := rwF) (gR_up (V := rwV) (F := rwF) ⟨hok.1, hok.2⟩ 25 (hP.2.1 25)) 34 (hP.2.2 34)) 35 (hP.2.2 35)) 36 (hP.2.2 36)) 37 (hP.2.2 37)) 38 (hP.2.2 38)) 39 (hP.2.2 39))⟩
            replace p0_14 : svOk (f 20) (f 21) (f 22) (f 26) (Fk (f 28) (f 29) (f 30) (f 25) (v 24) a4) (v 23) a36_14 a37_14 a38_14 := p0_14
            replace p1_14 : ∀ k, 0 ≤ k → k < (v 23) → a34_14 k = (Fk (f 28) (f 29) (f 30) (f 25) (v 24) a4) k := p1_14
            have hsv := p0_14
            have hkn := p1_14
            refine lv_aload_n hx hb dX10_of_64 rfl (lv_at hl 0 rfl) ?_
            refine rwG_results C hP mF_X10_67 dX10_of_65 ?_
            refine lv_iload_n hx hb dX10_of_68 rfl (lv_at hl 1 rfl) ?_
            refine lv_iload_n hx hb dX10_of_69 rfl (lv_at hl 3 rfl) ?_
            refine lv_iload_n hx hb dX10_of_70 rfl (lv_at hl 2 rfl) ?_
            refine g_cv (As := [.int (iI a1), .int (iI a3), .int (iI a2)]) (rest := []) (n := 3) C hml (x_Re_workFacts l D k A ad hD (va_up v 25 (v 25)) (va_up (va_up (va_up (va_up (va_up (va_up f 34 a34_14) 35 a35_14) 36 a36_14) 37 a37_14) 38 a38_14) 39 (f 39)) (va_up g 0 (g 0)) a1 a3 a2 a4 (by omega) (by omega) (by omega) (show 0 ≤ a1 ∧ a1 ≤ 3 from by omega) (show 0 ≤ a3 ∧ a3 ≤ 15 from by omega) (show 0 ≤ a2 ∧ a2 ≤ 4 from by omega) (show svOk (f 20) (f 21) (f 22) (f 26) (Fk (f 28) (f 29) (f 30) (f 25) (v 24) a4) (v 23) a36_14 a37_14 a38_14 from hsv) (show ∀ k, 0 ≤ k → k < (v 23) → a34_14 k = (Fk (f 28) (f 29) (f 30) (f 25) (v 24) a4) k from hkn)) mM_X10_258 mI_X5_workFacts mE_X5_workFacts mN_X5 mC_X5_workFacts (by decide +kernel) 47 (ci := 5) rfl rfl hP hS (fun _ h => h) ⟨Nat.le_of_ble_eq_true rfl, Nat.le_of_ble_eq_true rfl⟩ ⟨Nat.zero_le _, Nat.zero_le _⟩ hl.1 rfl rfl (Nat.le_of_ble_eq_true rfl) dX10_of_71 (fun r_15 v_15 f_15 g_15 H locs hq_15 hP _ hS => ?_)
            obtain ⟨a39_15, rfl, rfl, rfl, rfl, p0_15⟩ := hq_15
            show W p l e (gRm 3 85) s m args below meth c _ _ 0 0 Q (F0 m 74 ls [])
            have hP : gWd D (rwT k ad) (va_up v 25 (v 25)) (va_up (va_up (va_up (va_up (va_up (va_up f 34 a34_14) 35 a35_14) 36 a36_14) 37 a37_14) 38 a38_14) 39 a39_15) (va_up g 0 (g 0)) H := ⟨hP.1, (gF_up (V := rwV) (F := rwF) (gF_up (V := rwV) (F := rwF) (gF_up (V := rwV) (F := rwF) (gF_up (V := rwV) (F := rwF) (gF_up (V := rwV) (F := rwF) (gF_up (V := rwV) (F := rwF) (gR_up (V := rwV) (F := rwF) ⟨hok.1, hok.2⟩ 25 (hP.2.1 25)) 34 (hP.2.2 34)) 35 (hP.2.2 35)) 36 (hP.2.2 36)) 37 (hP.2.2 37)) 38 (hP.2.2 38)) 39 (hP.2.2 39))⟩
            replace p0_15 : a39_15 0 = gFd (f 20) (f 21) (f 22) (f 23) (f 24) (f 25) (f 26) (f 28) (f 29) (f 30) (f 15) (f 17) (v 23) (v 24) a4 a1 a2 a3 0 ∧ a39_15 1 = gFd (f 20) (f 21) (f 22) (f 23) (f 24) (f 25) (f 26) (f 28) (f 29) (f 30) (f 15) (f 17) (v 23) (v 24) a4 a1 a2 a3 1 ∧ a39_15 2 = gFd (f 20) (f 21) (f 22) (f 23) (f 24) (f 25) (f 26) (f 28) (f 29) (f 30) (f 15) (f 17) (v 23) (v 24) a4 a1 a2 a3 2 ∧ a39_15 3 = gFd (f 20) (f 21) (f 22) (f 23) (f 24) (f 25) (f 26) (f 28) (f 29) (f 30) (f 15) (f 17) (v 23) (v 24) a4 a1 a2 a3 3 ∧ a39_15 4 = gFd (f 20) (f 21) (f 22) (f 23) (f 24) (f 25) (f 26) (f 28) (f 29) (f 30) (f 15) (f 17) (v 23) (v 24) a4 a1 a2 a3 4 ∧ a39_15 5 = gFd (f 20) (f 21) (f 22) (f 23) (f 24) (f 25) (f 26) (f 28) (f 29) (f 30) (f 15) (f 17) (v 23) (v 24) a4 a1 a2 a3 5 := p0_15
            have hF := p0_15
            refine lv_aload_n hx hb dX10_of_74 rfl (lv_at hl 0 rfl) ?_
            refine lv_iload hx hb dX10_of_75 (lv_at hl 5 rfl) ?_
            refine lv_bipush (v := iI 6) hx hb dX10_of_77 (by decide) ?_
            refine gi_cne (tgt := 99) hx hb dX10_of_79 (by decide) (by omega) (by decide) (fun c_16 => ?_) (fun c_16 => ?_)
            · refine lv_aload_n hx hb dX10_of_99 rfl (lv_at hl 0 rfl) ?_
              refine rwG_results C hP mF_X10_67 dX10_of_100 ?_
              refine rwG_results_facts C hP mF_X10_261 dX10_of_103 ?_
              refine lv_iload hx hb dX10_of_106 (lv_at hl 5 rfl) ?_
              refine rwL_results_facts C hP (by omega) (by omega) dX10_of_108 ?_
              show W p l e (gRm 3 85) s m args below meth c _ _ 0 0 Q (F0 m 109 ls [.int (iI (a39_15 a5)), .ref (ad 0)])
              have r_17 : (-2000000) ≤ (a39_15 a5) ∧ (a39_15 a5) ≤ 2000000 := hP.2.2 39 a5
              have hfi : (a39_15 a5) = gFd (f 20) (f 21) (f 22) (f 23) (f 24) (f 25) (f 26) (f 28) (f 29) (f 30) (f 15) (f 17) (v 23) (v 24) a4 a1 a2 a3 a5 := fa_i hF (by omega) (by omega)
              refine g_cv (As := [.int (iI (a39_15 a5))]) (rest := []) (n := 1) C hml (c_X10_answer l D k A ad hD (va_up v 25 (v 25)) (va_up (va_up (va_up (va_up (va_up (va_up f 34 a34_14) 35 a35_14) 36 a36_14) 37 a37_14) 38 a38_14) 39 a39_15) (va_up g 0 (g 0)) (a39_15 a5) (by omega)) mM_X10_120 mI_X10_answer mE_X10_answer mN_X10 mC_X10_answer (by decide +kernel) 0 (ci := 10) rfl rfl hP hS (fun _ h => h) ⟨Nat.le_of_ble_eq_true rfl, Nat.le_of_ble_eq_true rfl⟩ ⟨Nat.zero_le _, Nat.zero_le _⟩ hl.1 rfl rfl (Nat.le_of_ble_eq_true rfl) dX10_of_109 (fun r_19 v_19 f_19 g_19 H locs hq_19 hP _ hS => ?_)
              obtain ⟨z_19, rfl, rfl, rfl, rfl, p0_19⟩ := hq_19
              show W p l e (gRm 3 85) s m args below meth c _ _ 0 0 Q (F0 m 112 ls [.int (iI z_19)])
              have hP : gWd D (rwT k ad) (va_up v 25 0) (va_up (va_up (va_up (va_up (va_up (va_up f 34 a34_14) 35 a35_14) 36 a36_14) 37 a37_14) 38 a38_14) 39 a39_15) (va_up g 0 (g 0)) H := ⟨hP.1, (gF_up (V := rwV) (F := rwF) (gF_up (V := rwV) (F := rwF) (gF_up (V := rwV) (F := rwF) (gF_up (V := rwV) (F := rwF) (gF_up (V := rwV) (F := rwF) (gF_up (V := rwV) (F := rwF) (gR_up (V := rwV) (F := rwF) ⟨hok.1, hok.2⟩ 25 (hP.2.1 25)) 34 (hP.2.2 34)) 35 (hP.2.2 35)) 36 (hP.2.2 36)) 37 (hP.2.2 37)) 38 (hP.2.2 38)) 39 (hP.2.2 39))⟩
              replace p0_19 : z_19 = (a39_15 a5) := p0_19
              have hz_19 : inR z_19 := (by first | omega | (rw [p0_19]; split <;> omega))
              have han := p0_19
              exact g_iret hQ C hr hlocks hP hS dX10_of_112 ⟨z_19, 0, a34_14, a35_14, a36_14, a37_14, a38_14, a39_15, (g 0), rfl, rfl, rfl, rfl, (by first | (rw [if_pos (by omega)]) | (rw [if_neg (by omega), if_pos (by omega)]; exact han.trans hpt) | (rw [if_neg (by omega), if_neg (by omega)]; exact han.trans hfi)), (by first | omega | ((repeat' split) <;> omega)), (by first | omega | ((repeat' split) <;> omega))⟩
            · refine lv_aload_n hx hb dX10_of_82 rfl (lv_at hl 0 rfl) ?_
              refine rwG_laws C hP mF_X10_16 dX10_of_83 ?_
              refine lv_aload_n hx hb dX10_of_86 rfl (lv_at hl 0 rfl) ?_
              refine rwG_results C hP mF_X10_67 dX10_of_87 ?_
              refine rwG_results_facts C hP mF_X10_261 dX10_of_90 ?_
              refine g_cv (As := [.ref (ad 53)]) (rest := [.ref (ad 0)]) (n := 1) C hml (x_La_pointsFor l D k A ad hD (va_up v 25 (v 25)) (va_up (va_up (va_up (va_up (va_up (va_up f 34 a34_14) 35 a35_14) 36 a36_14) 37 a37_14) 38 a38_14) 39 a39_15) (va_up g 0 (g 0))) mM_X10_264 mI_X4_pointsFor mE_X4_pointsFor mN_X4 mC_X4_pointsFor (by decide +kernel) 2 (ci := 4) rfl rfl hP hS (fun _ h => h) ⟨Nat.le_of_ble_eq_true rfl, Nat.le_of_ble_eq_true rfl⟩ ⟨Nat.zero_le _, Nat.zero_le _⟩ hl.1 rfl rfl (Nat.le_of_ble_eq_true rfl) dX10_of_93 (fun r_20 v_20 f_20 g_20 H locs hq_20 hP _ hS => ?_)
              obtain ⟨z_20, b0_20, rfl, rfl, rfl, rfl, p0_20, p1_20⟩ := hq_20
              show W p l e (gRm 3 85) s m args below meth c _ _ 0 0 Q (F0 m 96 ls [.int (iI z_20), .ref (ad 0)])
              have hP : gWd D (rwT k ad) (va_up v 25 (v 25)) (va_up (va_up (va_up (va_up (va_up (va_up f 34 a34_14) 35 a35_14) 36 a36_14) 37 a37_14) 38 a38_14) 39 a39_15) (va_up g 0 b0_20) H := ⟨hP.1, (gF_up (V := rwV) (F := rwF) (gF_up (V := rwV) (F := rwF) (gF_up (V := rwV) (F := rwF) (gF_up (V := rwV) (F := rwF) (gF_up (V := rwV) (F := rwF) (gF_up (V := rwV) (F := rwF) (gR_up (V := rwV) (F := rwF) ⟨hok.1, hok.2⟩ 25 (hP.2.1 25)) 34 (hP.2.2 34)) 35 (hP.2.2 35)) 36 (hP.2.2 36)) 37 (hP.2.2 37)) 38 (hP.2.2 38)) 39 (hP.2.2 39))⟩
              replace p0_20 : z_20 = (evR (f 2) (f 3) a39_15 (v 2)) := p0_20
              replace p1_20 : (-1000000000) ≤ z_20 ∧ z_20 ≤ 1000000000 := p1_20
              have hz_20 : inR z_20 := (by first | omega | (rw [p0_20]; split <;> omega))
              have hpt : z_20 = evR (f 2) (f 3) (gFd (f 20) (f 21) (f 22) (f 23) (f 24) (f 25) (f 26) (f 28) (f 29) (f 30) (f 15) (f 17) (v 23) (v 24) a4 a1 a2 a3) (v 2) := by rw [p0_20]; unfold evR; rw [evL_fa (fun k => ⟨(hit k).1, by have := (hit k).2; omega⟩) (fun i i0 i1 => fa_i hF i0 i1)]
              refine lv_goto (tgt := 109) hx hb dX10_of_96 (by decide) ?_
              refine g_cv (As := [.int (iI z_20)]) (rest := []) (n := 1) C hml (c_X10_answer l D k A ad hD (va_up v 25 (v 25)) (va_up (va_up (va_up (va_up (va_up (va_up f 34 a34_14) 35 a35_14) 36 a36_14) 37 a37_14) 38 a38_14) 39 a39_15) (va_up g 0 b0_20) z_20 (by omega)) mM_X10_120 mI_X10_answer mE_X10_answer mN_X10 mC_X10_answer (by decide +kernel) 0 (ci := 10) rfl rfl hP hS (fun _ h => h) ⟨Nat.le_of_ble_eq_true rfl, Nat.le_of_ble_eq_true rfl⟩ ⟨Nat.zero_le _, Nat.zero_le _⟩ hl.1 rfl rfl (Nat.le_of_ble_eq_true rfl) dX10_of_109 (fun r_21 v_21 f_21 g_21 H locs hq_21 hP _ hS => ?_)
              obtain ⟨z_21, rfl, rfl, rfl, rfl, p0_21⟩ := hq_21
              show W p l e (gRm 3 85) s m args below meth c _ _ 0 0 Q (F0 m 112 ls [.int (iI z_21)])
              have hP : gWd D (rwT k ad) (va_up v 25 0) (va_up (va_up (va_up (va_up (va_up (va_up f 34 a34_14) 35 a35_14) 36 a36_14) 37 a37_14) 38 a38_14) 39 a39_15) (va_up g 0 b0_20) H := ⟨hP.1, (gF_up (V := rwV) (F := rwF) (gF_up (V := rwV) (F := rwF) (gF_up (V := rwV) (F := rwF) (gF_up (V := rwV) (F := rwF) (gF_up (V := rwV) (F := rwF) (gF_up (V := rwV) (F := rwF) (gR_up (V := rwV) (F := rwF) ⟨hok.1, hok.2⟩ 25 (hP.2.1 25)) 34 (hP.2.2 34)) 35 (hP.2.2 35)) 36 (hP.2.2 36)) 37 (hP.2.2 37)) 38 (hP.2.2 38)) 39 (hP.2.2 39))⟩
              replace p0_21 : z_21 = z_20 := p0_21
              have hz_21 : inR z_21 := (by first | omega | (rw [p0_21]; split <;> omega))
              have han := p0_21
              exact g_iret hQ C hr hlocks hP hS dX10_of_112 ⟨z_21, 0, a34_14, a35_14, a36_14, a37_14, a38_14, a39_15, b0_20, rfl, rfl, rfl, rfl, (by first | (rw [if_pos (by omega)]) | (rw [if_neg (by omega), if_pos (by omega)]; exact han.trans hpt) | (rw [if_neg (by omega), if_neg (by omega)]; exact han.trans hfi)), (by first | omega | ((repeat' split) <;> omega)), (by first | omega | ((repeat' split) <;> omega))⟩
          · refine lv_aload_n hx hb dX10_of_49 rfl (lv_at hl 0 rfl) ?_
            refine lv_iconst (v := iI 2) hx hb dX10_of_50 rfl ?_
            refine g_cv (As := [.int (iI 2)]) (rest := []) (n := 1) C hml (c_X10_refuse l D k A ad hD (va_up v 25 (v 25)) (va_up (va_up (va_up (va_up (va_up (va_up f 34 (f 34)) 35 (f 35)) 36 (f 36)) 37 (f 37)) 38 (f 38)) 39 (f 39)) (va_up g 0 (g 0)) 2 (by decide) (show 0 ≤ (2 : Int) ∧ (2 : Int) ≤ 10 from by omega)) mM_X10_88 mI_X10_refuse mE_X10_refuse mN_X10 mC_X10_refuse (by decide +kernel) 0 (ci := 10) rfl rfl hP hS (fun _ h => h) ⟨Nat.le_of_ble_eq_true rfl, Nat.le_of_ble_eq_true rfl⟩ ⟨Nat.zero_le _, Nat.zero_le _⟩ hl.1 rfl rfl (Nat.le_of_ble_eq_true rfl) dX10_of_51 (fun r_22 v_22 f_22 g_22 H locs hq_22 hP _ hS => ?_)
            obtain ⟨rfl, rfl, rfl, rfl⟩ := hq_22
            show W p l e (gRm 3 85) s m args below meth c _ _ 0 0 Q (F0 m 54 ls [.int (iI (-1))])
            have hP : gWd D (rwT k ad) (va_up v 25 (2 : Int)) (va_up (va_up (va_up (va_up (va_up (va_up f 34 (f 34)) 35 (f 35)) 36 (f 36)) 37 (f 37)) 38 (f 38)) 39 (f 39)) (va_up g 0 (g 0)) H := ⟨hP.1, (gF_up (V := rwV) (F := rwF) (gF_up (V := rwV) (F := rwF) (gF_up (V := rwV) (F := rwF) (gF_up (V := rwV) (F := rwF) (gF_up (V := rwV) (F := rwF) (gF_up (V := rwV) (F := rwF) (gR_up (V := rwV) (F := rwF) ⟨hok.1, hok.2⟩ 25 (hP.2.1 25)) 34 (hP.2.2 34)) 35 (hP.2.2 35)) 36 (hP.2.2 36)) 37 (hP.2.2 37)) 38 (hP.2.2 38)) 39 (hP.2.2 39))⟩
            exact g_iret hQ C hr hlocks hP hS dX10_of_54 ⟨(-1), (2 : Int), (f 34), (f 35), (f 36), (f 37), (f 38), (f 39), (g 0), rfl, rfl, rfl, rfl, (by first | (rw [if_pos (by omega)]) | (rw [if_neg (by omega), if_pos (by omega)]; exact han.trans hpt) | (rw [if_neg (by omega), if_neg (by omega)]; exact han.trans hfi)), (by first | omega | ((repeat' split) <;> omega)), (by first | omega | ((repeat' split) <;> omega))⟩
    · have vz_6 := gif0 w_6 c_7
      clear w_6
      refine lv_aload_n hx hb dX10_of_23 rfl (lv_at hl 0 rfl) ?_
      refine lv_iconst (v := iI 1) hx hb dX10_of_24 rfl ?_
      refine g_cv (As := [.int (iI 1)]) (rest := []) (n := 1) C hml (c_X10_refuse l D k A ad hD (va_up v 25 (v 25)) (va_up (va_up (va_up (va_up (va_up (va_up f 34 (f 34)) 35 (f 35)) 36 (f 36)) 37 (f 37)) 38 (f 38)) 39 (f 39)) (va_up g 0 (g 0)) 1 (by decide) (show 0 ≤ (1 : Int) ∧ (1 : Int) ≤ 10 from by omega)) mM_X10_88 mI_X10_refuse mE_X10_refuse mN_X10 mC_X10_refuse (by decide +kernel) 0 (ci := 10) rfl rfl hP hS (fun _ h => h) ⟨Nat.le_of_ble_eq_true rfl, Nat.le_of_ble_eq_true rfl⟩ ⟨Nat.zero_le _, Nat.zero_le _⟩ hl.1 rfl rfl (Nat.le_of_ble_eq_true rfl) dX10_of_25 (fun r_23 v_23 f_23 g_23 H locs hq_23 hP _ hS => ?_)
      obtain ⟨rfl, rfl, rfl, rfl⟩ := hq_23
      show W p l e (gRm 3 85) s m args below meth c _ _ 0 0 Q (F0 m 28 ls [.int (iI (-1))])
      have hP : gWd D (rwT k ad) (va_up v 25 (1 : Int)) (va_up (va_up (va_up (va_up (va_up (va_up f 34 (f 34)) 35 (f 35)) 36 (f 36)) 37 (f 37)) 38 (f 38)) 39 (f 39)) (va_up g 0 (g 0)) H := ⟨hP.1, (gF_up (V := rwV) (F := rwF) (gF_up (V := rwV) (F := rwF) (gF_up (V := rwV) (F := rwF) (gF_up (V := rwV) (F := rwF) (gF_up (V := rwV) (F := rwF) (gF_up (V := rwV) (F := rwF) (gR_up (V := rwV) (F := rwF) ⟨hok.1, hok.2⟩ 25 (hP.2.1 25)) 34 (hP.2.2 34)) 35 (hP.2.2 35)) 36 (hP.2.2 36)) 37 (hP.2.2 37)) 38 (hP.2.2 38)) 39 (hP.2.2 39))⟩
      exact g_iret hQ C hr hlocks hP hS dX10_of_28 ⟨(-1), (1 : Int), (f 34), (f 35), (f 36), (f 37), (f 38), (f 39), (g 0), rfl, rfl, rfl, rfl, (by first | (rw [if_pos (by omega)]) | (rw [if_neg (by omega), if_pos (by omega)]; exact han.trans hpt) | (rw [if_neg (by omega), if_neg (by omega)]; exact han.trans hfi)), (by first | omega | ((repeat' split) <;> omega)), (by first | omega | ((repeat' split) <;> omega))⟩

set_option maxHeartbeats 4000000 in
set_option maxRecDepth 100000 in
theorem x_Ro_key (l : Launch) (D : va_G) (k : Nat → ClassId) (A : Nat → Prop) (ad : Nat → Nat) (hD : rwD A k ad) (v : gV) (f g : gF) (a1 : Int) (a2 : Int) (a3 : Int) (a4 : Int) (h_a1 : inR a1) (h_a2 : inR a2) (h_a3 : inR a3) (h_a4 : inR a4) (hs : shOk (v 1) (f 1)) : GM l D k A (rwT k ad) yX10_key cX10_key 5 (some .long) 4 109 [.ref (ad 0), .int (iI a1), .int (iI a2), .int (iI a3), .int (iI a4)] v f g (fun r v1 f1 g1 => ∃ (z : Int) (w25 : Int) (a34_ : Int → Int) (a35_ : Int → Int) (a36_ : Int → Int) (a37_ : Int → Int) (a38_ : Int → Int) (a39_ : Int → Int) (b0_ : Int → Int) (b2_ : Int → Int) (b3_ : Int → Int), r = some (.long (iL z)) ∧ (va_up v 25 w25) = v1 ∧ (va_up (va_up (va_up (va_up (va_up (va_up f 34 a34_) 35 a35_) 36 a36_) 37 a37_) 38 a38_) 39 a39_) = f1 ∧ (va_up (va_up (va_up g 0 b0_) 2 b2_) 3 b3_) = g1 ∧ (z = (if w25 ≠ 0 then (-1) else (kvF (f 2) (f 3) (f 4) (fun r => (f 1) (r * 4)) (v 2) (gFd (f 20) (f 21) (f 22) (f 23) (f 24) (f 25) (f 26) (f 28) (f 29) (f 30) (f 15) (f 17) (v 23) (v 24) a3)) a1 a2 a4)) ∧ (w25 = (if ¬ (((0 ≤ a1 ∧ a1 < (v 1)) ∧ (0 ≤ a2 ∧ a2 < (v 21)) ∧ a1 ≤ (f 18) a2) ∧ 0 ≤ a4 ∧ a4 < (v 3)) then 1 else if ¬ (0 ≤ a3 ∧ a3 ≤ 999) then 2 else 0))) := by
  refine GM.of (by decide) (Nat.le_of_ble_eq_true rfl) ?_
  intro p e s m args below meth c Q ls hQ C hml hr hlocks hP hl
  have hx := C.1
  have hb := C.2.1
  have hok := hP.2
  have hS : va_S A s.heap s.heap [] := va_S.rf
  have hl : lv_has ls 5 [(0, .ref (ad 0)), (1, .int (iI a1)), (2, .int (iI a2)), (3, .int (iI a3)), (4, .int (iI a4))] := hl
  have hP : gWd D (rwT k ad) (va_up v 25 (v 25)) (va_up (va_up (va_up (va_up (va_up (va_up f 34 (f 34)) 35 (f 35)) 36 (f 36)) 37 (f 37)) 38 (f 38)) 39 (f 39)) (va_up (va_up (va_up g 0 (g 0)) 2 (g 2)) 3 (g 3)) s.heap := by rw [va_id, va_id, va_id, va_id, va_id, va_id, va_id, va_id, va_id, va_id]; exact hP
  have r_1 : 0 ≤ (v 1) ∧ (v 1) ≤ 4 := hok.1 1
  have r_2 : 0 ≤ (v 21) ∧ (v 21) ≤ 16 := hok.1 21
  have r_3 : 0 ≤ (v 3) ∧ (v 3) ≤ 4 := hok.1 3
  refine lv_aload_n hx hb dX10_key_0 rfl (lv_at hl 0 rfl) ?_
  refine rwG_laws C hP mF_X10_16 dX10_key_1 ?_
  refine lv_iload_n hx hb dX10_key_4 rfl (lv_at hl 1 rfl) ?_
  refine g_cv (As := [.int (iI a1)]) (rest := []) (n := 1) C hml (c_X4_hasRound l D k A ad hD (va_up v 25 (v 25)) (va_up (va_up (va_up (va_up (va_up (va_up f 34 (f 34)) 35 (f 35)) 36 (f 36)) 37 (f 37)) 38 (f 38)) 39 (f 39)) (va_up (va_up (va_up g 0 (g 0)) 2 (g 2)) 3 (g 3)) a1 (by omega)) mM_X10_164 mI_X4_hasRound mE_X4_hasRound mN_X4 mC_X4_hasRound (by decide +kernel) 2 (ci := 4) rfl rfl hP hS (fun _ h => h) ⟨Nat.le_of_ble_eq_true rfl, Nat.le_of_ble_eq_true rfl⟩ ⟨Nat.zero_le _, Nat.zero_le _⟩ hl.1 rfl rfl (Nat.le_of_ble_eq_true rfl) dX10_key_5 (fun r_4 v_4 f_4 g_4 H locs hq_4 hP _ hS => ?_)
  obtain ⟨z_4, rfl, rfl, rfl, rfl, p0_4⟩ := hq_4
  show W p l e (gRm 4 109) s m args below meth c _ _ 0 0 Q (F0 m 8 ls [.int (iI z_4)])
  replace p0_4 : z_4 = (if 0 ≤ a1 ∧ a1 < (v 1) then 1 else 0) := p0_4
  have w_4 := gif (P := 0 ≤ a1 ∧ a1 < (v 1)) p0_4
  clear p0_4
  have hz_4 : inR z_4 := (by first | omega | (rw [p0_4]; split <;> omega))
  refine gi_zeq (tgt := 40) hx hb dX10_key_8 (by decide) (by omega) (fun c_5 => ?_) (fun c_5 => ?_)
  · have vz_4 := gif0 w_4 c_5
    clear w_4
    refine lv_aload_n hx hb dX10_key_40 rfl (lv_at hl 0 rfl) ?_
    refine lv_iconst (v := iI 1) hx hb dX10_key_41 rfl ?_
    refine g_cv (As := [.int (iI 1)]) (rest := []) (n := 1) C hml (c_X10_refuse l D k A ad hD (va_up v 25 (v 25)) (va_up (va_up (va_up (va_up (va_up (va_up f 34 (f 34)) 35 (f 35)) 36 (f 36)) 37 (f 37)) 38 (f 38)) 39 (f 39)) (va_up (va_up (va_up g 0 (g 0)) 2 (g 2)) 3 (g 3)) 1 (by decide) (show 0 ≤ (1 : Int) ∧ (1 : Int) ≤ 10 from by omega)) mM_X10_88 mI_X10_refuse mE_X10_refuse mN_X10 mC_X10_refuse (by decide +kernel) 0 (ci := 10) rfl rfl hP hS (fun _ h => h) ⟨Nat.le_of_ble_eq_true rfl, Nat.le_of_ble_eq_true rfl⟩ ⟨Nat.zero_le _, Nat.zero_le _⟩ hl.1 rfl rfl (Nat.le_of_ble_eq_true rfl) dX10_key_42 (fun r_6 v_6 f_6 g_6 H locs hq_6 hP _ hS => ?_)
    obtain ⟨rfl, rfl, rfl, rfl⟩ := hq_6
    show W p l e (gRm 4 109) s m args below meth c _ _ 0 0 Q (F0 m 45 ls [.int (iI (-1))])
    have hP : gWd D (rwT k ad) (va_up v 25 (1 : Int)) (va_up (va_up (va_up (va_up (va_up (va_up f 34 (f 34)) 35 (f 35)) 36 (f 36)) 37 (f 37)) 38 (f 38)) 39 (f 39)) (va_up (va_up (va_up g 0 (g 0)) 2 (g 2)) 3 (g 3)) H := ⟨hP.1, (gF_up (V := rwV) (F := rwF) (gF_up (V := rwV) (F := rwF) (gF_up (V := rwV) (F := rwF) (gF_up (V := rwV) (F := rwF) (gF_up (V := rwV) (F := rwF) (gF_up (V := rwV) (F := rwF) (gR_up (V := rwV) (F := rwF) ⟨hok.1, hok.2⟩ 25 (hP.2.1 25)) 34 (hP.2.2 34)) 35 (hP.2.2 35)) 36 (hP.2.2 36)) 37 (hP.2.2 37)) 38 (hP.2.2 38)) 39 (hP.2.2 39))⟩
    refine gi_i2l hx hb (by decide) dX10_key_45 ?_
    exact g_lret hQ C hr hlocks hP hS dX10_key_46 ⟨(-1), (1 : Int), (f 34), (f 35), (f 36), (f 37), (f 38), (f 39), (g 0), (g 2), (g 3), rfl, rfl, rfl, rfl, (by first | (rw [if_pos (by omega)]) | (rw [if_neg (by omega), hko]; exact hW0 a4 (by omega) (by omega))), (by first | omega | ((repeat' split) <;> omega))⟩
  · have vz_4 := gif1 w_4 c_5
    clear w_4
    refine lv_aload_n hx hb dX10_key_11 rfl (lv_at hl 0 rfl) ?_
    refine rwG_field C hP mF_X10_37 dX10_key_12 ?_
    refine lv_iload_n hx hb dX10_key_15 rfl (lv_at hl 1 rfl) ?_
    refine lv_iload_n hx hb dX10_key_16 rfl (lv_at hl 2 rfl) ?_
    refine g_cv (As := [.int (iI a1), .int (iI a2)]) (rest := []) (n := 2) C hml (c_X2_isIn l D k A ad hD (va_up v 25 (v 25)) (va_up (va_up (va_up (va_up (va_up (va_up f 34 (f 34)) 35 (f 35)) 36 (f 36)) 37 (f 37)) 38 (f 38)) 39 (f 39)) (va_up (va_up (va_up g 0 (g 0)) 2 (g 2)) 3 (g 3)) a1 a2 (by omega) (by omega)) mM_X10_268 mI_X2_isIn mE_X2_isIn mN_X2 mC_X2_isIn (by decide +kernel) 27 (ci := 2) rfl rfl hP hS (fun _ h => h) ⟨Nat.le_of_ble_eq_true rfl, Nat.le_of_ble_eq_true rfl⟩ ⟨Nat.zero_le _, Nat.zero_le _⟩ hl.1 rfl rfl (Nat.le_of_ble_eq_true rfl) dX10_key_17 (fun r_7 v_7 f_7 g_7 H locs hq_7 hP _ hS => ?_)
    obtain ⟨z_7, rfl, rfl, rfl, rfl, p0_7⟩ := hq_7
    show W p l e (gRm 4 109) s m args below meth c _ _ 0 0 Q (F0 m 20 ls [.int (iI z_7)])
    replace p0_7 : z_7 = (if (0 ≤ a2 ∧ a2 < (v 21)) ∧ a1 ≤ (f 18) a2 then 1 else 0) := p0_7
    have w_7 := gif (P := (0 ≤ a2 ∧ a2 < (v 21)) ∧ a1 ≤ (f 18) a2) p0_7
    clear p0_7
    have hz_7 : inR z_7 := (by first | omega | (rw [p0_7]; split <;> omega))
    refine gi_zeq (tgt := 40) hx hb dX10_key_20 (by decide) (by omega) (fun c_8 => ?_) (fun c_8 => ?_)
    · have vz_7 := gif0 w_7 c_8
      clear w_7
      refine lv_aload_n hx hb dX10_key_40 rfl (lv_at hl 0 rfl) ?_
      refine lv_iconst (v := iI 1) hx hb dX10_key_41 rfl ?_
      refine g_cv (As := [.int (iI 1)]) (rest := []) (n := 1) C hml (c_X10_refuse l D k A ad hD (va_up v 25 (v 25)) (va_up (va_up (va_up (va_up (va_up (va_up f 34 (f 34)) 35 (f 35)) 36 (f 36)) 37 (f 37)) 38 (f 38)) 39 (f 39)) (va_up (va_up (va_up g 0 (g 0)) 2 (g 2)) 3 (g 3)) 1 (by decide) (show 0 ≤ (1 : Int) ∧ (1 : Int) ≤ 10 from by omega)) mM_X10_88 mI_X10_refuse mE_X10_refuse mN_X10 mC_X10_refuse (by decide +kernel) 0 (ci := 10) rfl rfl hP hS (fun _ h => h) ⟨Nat.le_of_ble_eq_true rfl, Nat.le_of_ble_eq_true rfl⟩ ⟨Nat.zero_le _, Nat.zero_le _⟩ hl.1 rfl rfl (Nat.le_of_ble_eq_true rfl) dX10_key_42 (fun r_9 v_9 f_9 g_9 H locs hq_9 hP _ hS => ?_)
      obtain ⟨rfl, rfl, rfl, rfl⟩ := hq_9
      show W p l e (gRm 4 109) s m args below meth c _ _ 0 0 Q (F0 m 45 ls [.int (iI (-1))])
      have hP : gWd D (rwT k ad) (va_up v 25 (1 : Int)) (va_up (va_up (va_up (va_up (va_up (va_up f 34 (f 34)) 35 (f 35)) 36 (f 36)) 37 (f 37)) 38 (f 38)) 39 (f 39)) (va_up (va_up (va_up g 0 (g 0)) 2 (g 2)) 3 (g 3)) H := ⟨hP.1, (gF_up (V := rwV) (F := rwF) (gF_up (V := rwV) (F := rwF) (gF_up (V := rwV) (F := rwF) (gF_up (V := rwV) (F := rwF) (gF_up (V := rwV) (F := rwF) (gF_up (V := rwV) (F := rwF) (gR_up (V := rwV) (F := rwF) ⟨hok.1, hok.2⟩ 25 (hP.2.1 25)) 34 (hP.2.2 34)) 35 (hP.2.2 35)) 36 (hP.2.2 36)) 37 (hP.2.2 37)) 38 (hP.2.2 38)) 39 (hP.2.2 39))⟩
      refine gi_i2l hx hb (by decide) dX10_key_45 ?_
      exact g_lret hQ C hr hlocks hP hS dX10_key_46 ⟨(-1), (1 : Int), (f 34), (f 35), (f 36), (f 37), (f 38), (f 39), (g 0), (g 2), (g 3), rfl, rfl, rfl, rfl, (by first | (rw [if_pos (by omega)]) | (rw [if_neg (by omega), hko]; exact hW0 a4 (by omega) (by omega))), (by first | omega | ((repeat' split) <;> omega))⟩
    · have vz_7 := gif1 w_7 c_8
      clear w_7
      refine lv_iload hx hb dX10_key_23 (lv_at hl 4 rfl) ?_
      refine gi_zlt (tgt := 40) hx hb dX10_key_25 (by decide) (by omega) (fun c_10 => ?_) (fun c_10 => ?_)
      · refine lv_aload_n hx hb dX10_key_40 rfl (lv_at hl 0 rfl) ?_
        refine lv_iconst (v := iI 1) hx hb dX10_key_41 rfl ?_
        refine g_cv (As := [.int (iI 1)]) (rest := []) (n := 1) C hml (c_X10_refuse l D k A ad hD (va_up v 25 (v 25)) (va_up (va_up (va_up (va_up (va_up (va_up f 34 (f 34)) 35 (f 35)) 36 (f 36)) 37 (f 37)) 38 (f 38)) 39 (f 39)) (va_up (va_up (va_up g 0 (g 0)) 2 (g 2)) 3 (g 3)) 1 (by decide) (show 0 ≤ (1 : Int) ∧ (1 : Int) ≤ 10 from by omega)) mM_X10_88 mI_X10_refuse mE_X10_refuse mN_X10 mC_X10_refuse (by decide +kernel) 0 (ci := 10) rfl rfl hP hS (fun _ h => h) ⟨Nat.le_of_ble_eq_true rfl, Nat.le_of_ble_eq_true rfl⟩ ⟨Nat.zero_le _, Nat.zero_le _⟩ hl.1 rfl rfl (Nat.le_of_ble_eq_true rfl) dX10_key_42 (fun r_11 v_11 f_11 g_11 H locs hq_11 hP _ hS => ?_)
        obtain ⟨rfl, rfl, rfl, rfl⟩ := hq_11
        show W p l e (gRm 4 109) s m args below meth c _ _ 0 0 Q (F0 m 45 ls [.int (iI (-1))])
        have hP : gWd D (rwT k ad) (va_up v 25 (1 : Int)) (va_up (va_up (va_up (va_up (va_up (va_up f 34 (f 34)) 35 (f 35)) 36 (f 36)) 37 (f 37)) 38 (f 38)) 39 (f 39)) (va_up (va_up (va_up g 0 (g 0)) 2 (g 2)) 3 (g 3)) H := ⟨hP.1, (gF_up (V := rwV) (F := rwF) (gF_up (V := rwV) (F := rwF) (gF_up (V := rwV) (F := rwF) (gF_up (V := rwV) (F := rwF) (gF_up (V := rwV) (F := rwF) (gF_up (V := rwV) (F := rwF) (gR_up (V := rwV) (F := rwF) ⟨hok.1, hok.2⟩ 25 (hP.2.1 25)) 34 (hP.2.2 34)) 35 (hP.2.2 35)) 36 (hP.2.2 36)) 37 (hP.2.2 37)) 38 (hP.2.2 38)) 39 (hP.2.2 39))⟩
        refine gi_i2l hx hb (by decide) dX10_key_45 ?_
        exact g_lret hQ C hr hlocks hP hS dX10_key_46 ⟨(-1), (1 : Int), (f 34), (f 35), (f 36), (f 37), (f 38), (f 39), (g 0), (g 2), (g 3), rfl, rfl, rfl, rfl, (by first | (rw [if_pos (by omega)]) | (rw [if_neg (by omega), hko]; exact hW0 a4 (by omega) (by omega))), (by first | omega | ((repeat' split) <;> omega))⟩
      · refine lv_iload hx hb dX10_key_28 (lv_at hl 4 rfl) ?_
        refine lv_aload_n hx hb dX10_key_30 rfl (lv_at hl 0 rfl) ?_
        refine rwG_laws C hP mF_X10_16 dX10_key_31 ?_
        refine rwG_laws_keys C hP mF_X10_271 dX10_key_34 ?_
        show W p l e (gRm 4 109) s m args below meth c _ _ 0 0 Q (F0 m 37 ls [.int (iI (v 3)), .int (iI a4)])
        refine gi_clt (tgt := 47) hx hb dX10_key_37 (by decide) (by omega) (by omega) (fun c_12 => ?_) (fun c_12 => ?_)
        · refine lv_iload_n hx hb dX10_key_47 rfl (lv_at hl 3 rfl) ?_
          refine g_cs (As := [.int (iI a3)]) (rest := []) (n := 1) C hml (c_X10_isDay l D k A ad hD (va_up v 25 (v 25)) (va_up (va_up (va_up (va_up (va_up (va_up f 34 (f 34)) 35 (f 35)) 36 (f 36)) 37 (f 37)) 38 (f 38)) 39 (f 39)) (va_up (va_up (va_up g 0 (g 0)) 2 (g 2)) 3 (g 3)) a3 (by omega)) mM_X10_248 mS_X10_isDay mN_X10 mC_X10_isDay (by decide +kernel) hP hS (fun _ h => h) ⟨Nat.le_of_ble_eq_true rfl, Nat.le_of_ble_eq_true rfl⟩ ⟨Nat.zero_le _, Nat.zero_le _⟩ hl.1 rfl rfl (Nat.le_of_ble_eq_true rfl) dX10_key_48 (fun r_13 v_13 f_13 g_13 H locs hq_13 hP _ hS => ?_)
          obtain ⟨z_13, rfl, rfl, rfl, rfl, p0_13⟩ := hq_13
          show W p l e (gRm 4 109) s m args below meth c _ _ 0 0 Q (F0 m 51 ls [.int (iI z_13)])
          replace p0_13 : z_13 = (if 0 ≤ a3 ∧ a3 ≤ 999 then 1 else 0) := p0_13
          have w_13 := gif (P := 0 ≤ a3 ∧ a3 ≤ 999) p0_13
          clear p0_13
          have hz_13 : inR z_13 := (by first | omega | (rw [p0_13]; split <;> omega))
          refine gi_zne (tgt := 61) hx hb dX10_key_51 (by decide) (by omega) (fun c_14 => ?_) (fun c_14 => ?_)
          · have vz_13 := gif1 w_13 c_14
            clear w_13
            refine lv_aload_n hx hb dX10_key_61 rfl (lv_at hl 0 rfl) ?_
            refine rwG_results C hP mF_X10_67 dX10_key_62 ?_
            refine lv_iload_n hx hb dX10_key_65 rfl (lv_at hl 3 rfl) ?_
            refine g_cv (As := [.int (iI a3)]) (rest := []) (n := 1) C hml (x_Re_survey l D k A ad hD (va_up v 25 (v 25)) (va_up (va_up (va_up (va_up (va_up (va_up f 34 (f 34)) 35 (f 35)) 36 (f 36)) 37 (f 37)) 38 (f 38)) 39 (f 39)) (va_up (va_up (va_up g 0 (g 0)) 2 (g 2)) 3 (g 3)) a3 (by omega)) mM_X10_255 mI_X5_survey mE_X5_survey mN_X5 mC_X5_survey (by decide +kernel) 47 (ci := 5) rfl rfl hP hS (fun _ h => h) ⟨Nat.le_of_ble_eq_true rfl, Nat.le_of_ble_eq_true rfl⟩ ⟨Nat.zero_le _, Nat.zero_le _⟩ hl.1 rfl rfl (Nat.le_of_ble_eq_true rfl) dX10_key_66 (fun r_15 v_15 f_15 g_15 H locs hq_15 hP _ hS => ?_)
            obtain ⟨a34_15, a35_15, a36_15, a37_15, a38_15, rfl, rfl, rfl, rfl, p0_15, p1_15⟩ := hq_15
            show W p l e (gRm 4 109) s m args below meth c _ _ 0 0 Q (F0 m 69 ls [])
            have hP : gWd D (rwT k ad) (va_up v 25 (v 25)) (va_up (va_up (va_up (va_up (va_up (va_up f 34 a34_15) 35 a35_15) 36 a36_15) 37 a37_15) 38 a38_15) 39 (f 39)) (va_up (va_up (va_up g 0 (g 0)) 2 (g 2)) 3 (g 3)) H := ⟨hP.1, (gF_up (V := rwV) (F := rwF) (gF_up (V := rwV) (F := rwF) (gF_up (V := rwV) (F := rwF) (gF_up (V := rwV) (F := rwF) (gF_up (V := rwV) (F := rwF) (gF_up (V := rwV) (F := rwF) (gR_up (V := rwV) (F := rwF) ⟨hok.1, hok.2⟩ 25 (hP.2.1 25)) 34 (hP.2.2 34)) 35 (hP.2.2 35)) 36 (hP.2.2 36)) 37 (hP.2.2 37)) 38 (hP.2.2 38)) 39 (hP.2.2 39))⟩
            replace p0_15 : svOk (f 20) (f 21) (f 22) (f 26) (Fk (f 28) (f 29) (f 30) (f 25) (v 24) a3) (v 23) a36_15 a37_15 a38_15 := p0_15
            replace p1_15 : ∀ k, 0 ≤ k → k < (v 23) → a34_15 k = (Fk (f 28) (f 29) (f 30) (f 25) (v 24) a3) k := p1_15
            have hsv := p0_15
            have hkn := p1_15
            refine lv_aload_n hx hb dX10_key_69 rfl (lv_at hl 0 rfl) ?_
            refine rwG_results C hP mF_X10_67 dX10_key_70 ?_
            refine lv_iload_n hx hb dX10_key_73 rfl (lv_at hl 1 rfl) ?_
            refine lv_iload_n hx hb dX10_key_74 rfl (lv_at hl 2 rfl) ?_
            refine g_cv (As := [.int (iI a1), .int (iI a2)]) (rest := []) (n := 2) C hml (x_Re_workKeys l D k A ad hD (va_up v 25 (v 25)) (va_up (va_up (va_up (va_up (va_up (va_up f 34 a34_15) 35 a35_15) 36 a36_15) 37 a37_15) 38 a38_15) 39 (f 39)) (va_up (va_up (va_up g 0 (g 0)) 2 (g 2)) 3 (g 3)) a1 a2 a3 (by omega) (by omega) (show shOk (v 1) (f 1) from hs) (show 0 ≤ a1 ∧ a1 ≤ 3 from by omega) (show 0 ≤ a2 ∧ a2 ≤ 15 from by omega) (show a1 < (v 1) from by omega) (show svOk (f 20) (f 21) (f 22) (f 26) (Fk (f 28) (f 29) (f 30) (f 25) (v 24) a3) (v 23) a36_15 a37_15 a38_15 from hsv) (show ∀ k, 0 ≤ k → k < (v 23) → a34_15 k = (Fk (f 28) (f 29) (f 30) (f 25) (v 24) a3) k from hkn)) mM_X10_274 mI_X5_workKeys mE_X5_workKeys mN_X5 mC_X5_workKeys (by decide +kernel) 47 (ci := 5) rfl rfl hP hS (fun _ h => h) ⟨Nat.le_of_ble_eq_true rfl, Nat.le_of_ble_eq_true rfl⟩ ⟨Nat.zero_le _, Nat.zero_le _⟩ hl.1 rfl rfl (Nat.le_of_ble_eq_true rfl) dX10_key_75 (fun r_16 v_16 f_16 g_16 H locs hq_16 hP _ hS => ?_)
            obtain ⟨a39_16, b0_16, b2_16, b3_16, rfl, rfl, rfl, rfl, p0_16, p1_16⟩ := hq_16
            show W p l e (gRm 4 109) s m args below meth c _ _ 0 0 Q (F0 m 78 ls [])
            have hP : gWd D (rwT k ad) (va_up v 25 (v 25)) (va_up (va_up (va_up (va_up (va_up (va_up f 34 a34_15) 35 a35_15) 36 a36_15) 37 a37_15) 38 a38_15) 39 a39_16) (va_up (va_up (va_up g 0 b0_16) 2 b2_16) 3 b3_16) H := ⟨hP.1, (gF_up (V := rwV) (F := rwF) (gF_up (V := rwV) (F := rwF) (gF_up (V := rwV) (F := rwF) (gF_up (V := rwV) (F := rwF) (gF_up (V := rwV) (F := rwF) (gF_up (V := rwV) (F := rwF) (gR_up (V := rwV) (F := rwF) ⟨hok.1, hok.2⟩ 25 (hP.2.1 25)) 34 (hP.2.2 34)) 35 (hP.2.2 35)) 36 (hP.2.2 36)) 37 (hP.2.2 37)) 38 (hP.2.2 38)) 39 (hP.2.2 39))⟩
            replace p0_16 : ∀ j, 0 ≤ j → j < (v 3) → b3_16 ((a1 * 16 + a2) * 4 + j) = kV (f 2) (f 3) (v 2) (gFd (f 20) (f 21) (f 22) (f 23) (f 24) (f 25) (f 26) (f 28) (f 29) (f 30) (f 15) (f 17) (v 23) (v 24) a3) ((f 1) (a1 * 4)) ((f 4) j) a1 a2 := p0_16
            replace p1_16 : ∀ e, e < (a1 * 16 + a2) * 4 ∨ (a1 * 16 + a2) * 4 + 4 ≤ e → b3_16 e = (g 3) e := p1_16
            have hW0 := p0_16
            refine lv_aload_n hx hb dX10_key_78 rfl (lv_at hl 0 rfl) ?_
            refine lv_iconst (v := iI 0) hx hb dX10_key_79 rfl ?_
            refine rwP_state (v1 := (va_up v 25 0)) C hP hD hS mF_X10_71 (by decide) rfl (Or.inr (gF_up (V := rwV) (F := rwF) (gF_up (V := rwV) (F := rwF) (gF_up (V := rwV) (F := rwF) (gF_up (V := rwV) (F := rwF) (gF_up (V := rwV) (F := rwF) (gF_up (V := rwV) (F := rwF) (gR_up (V := rwV) (F := rwF) ⟨hok.1, hok.2⟩ 25 (show 0 ≤ 0 ∧ 0 ≤ 10 from by decide)) 34 (hP.2.2 34)) 35 (hP.2.2 35)) 36 (hP.2.2 36)) 37 (hP.2.2 37)) 38 (hP.2.2 38)) 39 (hP.2.2 39))) dX10_key_80 (fun H locs hP hS => ?_)
            refine lv_aload_n hx hb dX10_key_83 rfl (lv_at hl 0 rfl) ?_
            refine rwG_results C hP mF_X10_67 dX10_key_84 ?_
            refine lv_iload_n hx hb dX10_key_87 rfl (lv_at hl 1 rfl) ?_
            refine lv_iload_n hx hb dX10_key_88 rfl (lv_at hl 2 rfl) ?_
            refine lv_iload hx hb dX10_key_89 (lv_at hl 4 rfl) ?_
            refine g_cv (As := [.int (iI a1), .int (iI a2), .int (iI a4)]) (rest := []) (n := 3) C hml (x_Re_keyOf l D k A ad hD (va_up v 25 0) (va_up (va_up (va_up (va_up (va_up (va_up f 34 a34_15) 35 a35_15) 36 a36_15) 37 a37_15) 38 a38_15) 39 a39_16) (va_up (va_up (va_up g 0 b0_16) 2 b2_16) 3 b3_16) a1 a2 a4 (by omega) (by omega) (by omega) (show 0 ≤ a1 ∧ a1 ≤ 3 from by omega) (show 0 ≤ a2 ∧ a2 ≤ 15 from by omega) (show 0 ≤ a4 ∧ a4 < 4 from by omega)) mM_X10_277 mI_X5_keyOf mE_X5_keyOf mN_X5 mC_X5_keyOf (by decide +kernel) 47 (ci := 5) rfl rfl hP hS (fun _ h => h) ⟨Nat.le_of_ble_eq_true rfl, Nat.le_of_ble_eq_true rfl⟩ ⟨Nat.zero_le _, Nat.zero_le _⟩ hl.1 rfl rfl (Nat.le_of_ble_eq_true rfl) dX10_key_91 (fun r_17 v_17 f_17 g_17 H locs hq_17 hP _ hS => ?_)
            obtain ⟨z_17, rfl, rfl, rfl, rfl, p0_17⟩ := hq_17
            show W p l e (gRm 4 109) s m args below meth c _ _ 0 0 Q (F0 m 94 ls [.long (iL z_17)])
            replace p0_17 : z_17 = (qG b3_16 a1 a2 a4) := p0_17
            have hko := p0_17
            exact g_lret hQ C hr hlocks hP hS dX10_key_94 ⟨z_17, 0, a34_15, a35_15, a36_15, a37_15, a38_15, a39_16, b0_16, b2_16, b3_16, rfl, rfl, rfl, rfl, (by first | (rw [if_pos (by omega)]) | (rw [if_neg (by omega), hko]; exact hW0 a4 (by omega) (by omega))), (by first | omega | ((repeat' split) <;> omega))⟩
          · have vz_13 := gif0 w_13 c_14
            clear w_13
            refine lv_aload_n hx hb dX10_key_54 rfl (lv_at hl 0 rfl) ?_
            refine lv_iconst (v := iI 2) hx hb dX10_key_55 rfl ?_
            refine g_cv (As := [.int (iI 2)]) (rest := []) (n := 1) C hml (c_X10_refuse l D k A ad hD (va_up v 25 (v 25)) (va_up (va_up (va_up (va_up (va_up (va_up f 34 (f 34)) 35 (f 35)) 36 (f 36)) 37 (f 37)) 38 (f 38)) 39 (f 39)) (va_up (va_up (va_up g 0 (g 0)) 2 (g 2)) 3 (g 3)) 2 (by decide) (show 0 ≤ (2 : Int) ∧ (2 : Int) ≤ 10 from by omega)) mM_X10_88 mI_X10_refuse mE_X10_refuse mN_X10 mC_X10_refuse (by decide +kernel) 0 (ci := 10) rfl rfl hP hS (fun _ h => h) ⟨Nat.le_of_ble_eq_true rfl, Nat.le_of_ble_eq_true rfl⟩ ⟨Nat.zero_le _, Nat.zero_le _⟩ hl.1 rfl rfl (Nat.le_of_ble_eq_true rfl) dX10_key_56 (fun r_18 v_18 f_18 g_18 H locs hq_18 hP _ hS => ?_)
            obtain ⟨rfl, rfl, rfl, rfl⟩ := hq_18
            show W p l e (gRm 4 109) s m args below meth c _ _ 0 0 Q (F0 m 59 ls [.int (iI (-1))])
            have hP : gWd D (rwT k ad) (va_up v 25 (2 : Int)) (va_up (va_up (va_up (va_up (va_up (va_up f 34 (f 34)) 35 (f 35)) 36 (f 36)) 37 (f 37)) 38 (f 38)) 39 (f 39)) (va_up (va_up (va_up g 0 (g 0)) 2 (g 2)) 3 (g 3)) H := ⟨hP.1, (gF_up (V := rwV) (F := rwF) (gF_up (V := rwV) (F := rwF) (gF_up (V := rwV) (F := rwF) (gF_up (V := rwV) (F := rwF) (gF_up (V := rwV) (F := rwF) (gF_up (V := rwV) (F := rwF) (gR_up (V := rwV) (F := rwF) ⟨hok.1, hok.2⟩ 25 (hP.2.1 25)) 34 (hP.2.2 34)) 35 (hP.2.2 35)) 36 (hP.2.2 36)) 37 (hP.2.2 37)) 38 (hP.2.2 38)) 39 (hP.2.2 39))⟩
            refine gi_i2l hx hb (by decide) dX10_key_59 ?_
            exact g_lret hQ C hr hlocks hP hS dX10_key_60 ⟨(-1), (2 : Int), (f 34), (f 35), (f 36), (f 37), (f 38), (f 39), (g 0), (g 2), (g 3), rfl, rfl, rfl, rfl, (by first | (rw [if_pos (by omega)]) | (rw [if_neg (by omega), hko]; exact hW0 a4 (by omega) (by omega))), (by first | omega | ((repeat' split) <;> omega))⟩
        · refine lv_aload_n hx hb dX10_key_40 rfl (lv_at hl 0 rfl) ?_
          refine lv_iconst (v := iI 1) hx hb dX10_key_41 rfl ?_
          refine g_cv (As := [.int (iI 1)]) (rest := []) (n := 1) C hml (c_X10_refuse l D k A ad hD (va_up v 25 (v 25)) (va_up (va_up (va_up (va_up (va_up (va_up f 34 (f 34)) 35 (f 35)) 36 (f 36)) 37 (f 37)) 38 (f 38)) 39 (f 39)) (va_up (va_up (va_up g 0 (g 0)) 2 (g 2)) 3 (g 3)) 1 (by decide) (show 0 ≤ (1 : Int) ∧ (1 : Int) ≤ 10 from by omega)) mM_X10_88 mI_X10_refuse mE_X10_refuse mN_X10 mC_X10_refuse (by decide +kernel) 0 (ci := 10) rfl rfl hP hS (fun _ h => h) ⟨Nat.le_of_ble_eq_true rfl, Nat.le_of_ble_eq_true rfl⟩ ⟨Nat.zero_le _, Nat.zero_le _⟩ hl.1 rfl rfl (Nat.le_of_ble_eq_true rfl) dX10_key_42 (fun r_19 v_19 f_19 g_19 H locs hq_19 hP _ hS => ?_)
          obtain ⟨rfl, rfl, rfl, rfl⟩ := hq_19
          show W p l e (gRm 4 109) s m args below meth c _ _ 0 0 Q (F0 m 45 ls [.int (iI (-1))])
          have hP : gWd D (rwT k ad) (va_up v 25 (1 : Int)) (va_up (va_up (va_up (va_up (va_up (va_up f 34 (f 34)) 35 (f 35)) 36 (f 36)) 37 (f 37)) 38 (f 38)) 39 (f 39)) (va_up (va_up (va_up g 0 (g 0)) 2 (g 2)) 3 (g 3)) H := ⟨hP.1, (gF_up (V := rwV) (F := rwF) (gF_up (V := rwV) (F := rwF) (gF_up (V := rwV) (F := rwF) (gF_up (V := rwV) (F := rwF) (gF_up (V := rwV) (F := rwF) (gF_up (V := rwV) (F := rwF) (gR_up (V := rwV) (F := rwF) ⟨hok.1, hok.2⟩ 25 (hP.2.1 25)) 34 (hP.2.2 34)) 35 (hP.2.2 35)) 36 (hP.2.2 36)) 37 (hP.2.2 37)) 38 (hP.2.2 38)) 39 (hP.2.2 39))⟩
          refine gi_i2l hx hb (by decide) dX10_key_45 ?_
          exact g_lret hQ C hr hlocks hP hS dX10_key_46 ⟨(-1), (1 : Int), (f 34), (f 35), (f 36), (f 37), (f 38), (f 39), (g 0), (g 2), (g 3), rfl, rfl, rfl, rfl, (by first | (rw [if_pos (by omega)]) | (rw [if_neg (by omega), hko]; exact hW0 a4 (by omega) (by omega))), (by first | omega | ((repeat' split) <;> omega))⟩

set_option maxHeartbeats 4000000 in
set_option maxRecDepth 100000 in
theorem x_Ro_rank (l : Launch) (D : va_G) (k : Nat → ClassId) (A : Nat → Prop) (ad : Nat → Nat) (hD : rwD A k ad) (v : gV) (f g : gF) (a1 : Int) (a2 : Int) (a3 : Int) (h_a1 : inR a1) (h_a2 : inR a2) (h_a3 : inR a3) (hs : shOk (v 1) (f 1)) : GM l D k A (rwT k ad) yX10_rank cX10_rank 4 (some .int) 5 133 [.ref (ad 0), .int (iI a1), .int (iI a2), .int (iI a3)] v f g (fun r v1 f1 g1 => ∃ (z : Int) (w25 : Int) (a34_ : Int → Int) (a35_ : Int → Int) (a36_ : Int → Int) (a37_ : Int → Int) (a38_ : Int → Int) (a39_ : Int → Int) (a41_ : Int → Int) (b0_ : Int → Int) (b2_ : Int → Int) (b3_ : Int → Int), r = some (.int (iI z)) ∧ (va_up v 25 w25) = v1 ∧ (va_up (va_up (va_up (va_up (va_up (va_up (va_up f 34 a34_) 35 a35_) 36 a36_) 37 a37_) 38 a38_) 39 a39_) 41 a41_) = f1 ∧ (va_up (va_up (va_up g 0 b0_) 2 b2_) 3 b3_) = g1 ∧ (z = (if w25 ≠ 0 then (-1) else rkF (kvF (f 2) (f 3) (f 4) (fun r => (f 1) (r * 4)) (v 2) (gFd (f 20) (f 21) (f 22) (f 23) (f 24) (f 25) (f 26) (f 28) (f 29) (f 30) (f 15) (f 17) (v 23) (v 24) a3)) (f 5) (v 3) (v 4) (f 18) (v 21) a1 a2)) ∧ ((-1) ≤ z ∧ z ≤ 17) ∧ (w25 = (if ¬ ((0 ≤ a1 ∧ a1 < (v 1)) ∧ (0 ≤ a2 ∧ a2 < (v 21)) ∧ a1 ≤ (f 18) a2) then 1 else if ¬ (0 ≤ a3 ∧ a3 ≤ 999) then 2 else 0))) := by
  refine GM.of (by decide) (Nat.le_of_ble_eq_true rfl) ?_
  intro p e s m args below meth c Q ls hQ C hml hr hlocks hP hl
  have hx := C.1
  have hb := C.2.1
  have hok := hP.2
  have hS : va_S A s.heap s.heap [] := va_S.rf
  have hl : lv_has ls 4 [(0, .ref (ad 0)), (1, .int (iI a1)), (2, .int (iI a2)), (3, .int (iI a3))] := hl
  have hP : gWd D (rwT k ad) (va_up v 25 (v 25)) (va_up (va_up (va_up (va_up (va_up (va_up (va_up f 34 (f 34)) 35 (f 35)) 36 (f 36)) 37 (f 37)) 38 (f 38)) 39 (f 39)) 41 (f 41)) (va_up (va_up (va_up g 0 (g 0)) 2 (g 2)) 3 (g 3)) s.heap := by rw [va_id, va_id, va_id, va_id, va_id, va_id, va_id, va_id, va_id, va_id, va_id]; exact hP
  have r_1 : 0 ≤ (v 1) ∧ (v 1) ≤ 4 := hok.1 1
  have r_2 : 0 ≤ (v 21) ∧ (v 21) ≤ 16 := hok.1 21
  refine lv_aload_n hx hb dX10_rank_0 rfl (lv_at hl 0 rfl) ?_
  refine rwG_laws C hP mF_X10_16 dX10_rank_1 ?_
  refine lv_iload_n hx hb dX10_rank_4 rfl (lv_at hl 1 rfl) ?_
  refine g_cv (As := [.int (iI a1)]) (rest := []) (n := 1) C hml (c_X4_hasRound l D k A ad hD (va_up v 25 (v 25)) (va_up (va_up (va_up (va_up (va_up (va_up (va_up f 34 (f 34)) 35 (f 35)) 36 (f 36)) 37 (f 37)) 38 (f 38)) 39 (f 39)) 41 (f 41)) (va_up (va_up (va_up g 0 (g 0)) 2 (g 2)) 3 (g 3)) a1 (by omega)) mM_X10_164 mI_X4_hasRound mE_X4_hasRound mN_X4 mC_X4_hasRound (by decide +kernel) 2 (ci := 4) rfl rfl hP hS (fun _ h => h) ⟨Nat.le_of_ble_eq_true rfl, Nat.le_of_ble_eq_true rfl⟩ ⟨Nat.zero_le _, Nat.zero_le _⟩ hl.1 rfl rfl (Nat.le_of_ble_eq_true rfl) dX10_rank_5 (fun r_3 v_3 f_3 g_3 H locs hq_3 hP _ hS => ?_)
  obtain ⟨z_3, rfl, rfl, rfl, rfl, p0_3⟩ := hq_3
  show W p l e (gRm 5 133) s m args below meth c _ _ 0 0 Q (F0 m 8 ls [.int (iI z_3)])
  replace p0_3 : z_3 = (if 0 ≤ a1 ∧ a1 < (v 1) then 1 else 0) := p0_3
  have w_3 := gif (P := 0 ≤ a1 ∧ a1 < (v 1)) p0_3
  clear p0_3
  have hz_3 : inR z_3 := (by first | omega | (rw [p0_3]; split <;> omega))
  refine gi_zeq (tgt := 23) hx hb dX10_rank_8 (by decide) (by omega) (fun c_4 => ?_) (fun c_4 => ?_)
  · have vz_3 := gif0 w_3 c_4
    clear w_3
    refine lv_aload_n hx hb dX10_rank_23 rfl (lv_at hl 0 rfl) ?_
    refine lv_iconst (v := iI 1) hx hb dX10_rank_24 rfl ?_
    refine g_cv (As := [.int (iI 1)]) (rest := []) (n := 1) C hml (c_X10_refuse l D k A ad hD (va_up v 25 (v 25)) (va_up (va_up (va_up (va_up (va_up (va_up (va_up f 34 (f 34)) 35 (f 35)) 36 (f 36)) 37 (f 37)) 38 (f 38)) 39 (f 39)) 41 (f 41)) (va_up (va_up (va_up g 0 (g 0)) 2 (g 2)) 3 (g 3)) 1 (by decide) (show 0 ≤ (1 : Int) ∧ (1 : Int) ≤ 10 from by omega)) mM_X10_88 mI_X10_refuse mE_X10_refuse mN_X10 mC_X10_refuse (by decide +kernel) 0 (ci := 10) rfl rfl hP hS (fun _ h => h) ⟨Nat.le_of_ble_eq_true rfl, Nat.le_of_ble_eq_true rfl⟩ ⟨Nat.zero_le _, Nat.zero_le _⟩ hl.1 rfl rfl (Nat.le_of_ble_eq_true rfl) dX10_rank_25 (fun r_5 v_5 f_5 g_5 H locs hq_5 hP _ hS => ?_)
    obtain ⟨rfl, rfl, rfl, rfl⟩ := hq_5
    show W p l e (gRm 5 133) s m args below meth c _ _ 0 0 Q (F0 m 28 ls [.int (iI (-1))])
    have hP : gWd D (rwT k ad) (va_up v 25 (1 : Int)) (va_up (va_up (va_up (va_up (va_up (va_up (va_up f 34 (f 34)) 35 (f 35)) 36 (f 36)) 37 (f 37)) 38 (f 38)) 39 (f 39)) 41 (f 41)) (va_up (va_up (va_up g 0 (g 0)) 2 (g 2)) 3 (g 3)) H := ⟨hP.1, (gF_up (V := rwV) (F := rwF) (gF_up (V := rwV) (F := rwF) (gF_up (V := rwV) (F := rwF) (gF_up (V := rwV) (F := rwF) (gF_up (V := rwV) (F := rwF) (gF_up (V := rwV) (F := rwF) (gF_up (V := rwV) (F := rwF) (gR_up (V := rwV) (F := rwF) ⟨hok.1, hok.2⟩ 25 (hP.2.1 25)) 34 (hP.2.2 34)) 35 (hP.2.2 35)) 36 (hP.2.2 36)) 37 (hP.2.2 37)) 38 (hP.2.2 38)) 39 (hP.2.2 39)) 41 (hP.2.2 41))⟩
    exact g_iret hQ C hr hlocks hP hS dX10_rank_28 ⟨(-1), (1 : Int), (f 34), (f 35), (f 36), (f 37), (f 38), (f 39), (f 41), (g 0), (g 2), (g 3), rfl, rfl, rfl, rfl, (by first | (rw [if_pos (by omega)]) | (rw [if_neg (by omega)]; exact han.trans (hrk a2 (by omega) (by omega)))), (by first | omega | ((repeat' split) <;> omega)), (by first | omega | ((repeat' split) <;> omega))⟩
  · have vz_3 := gif1 w_3 c_4
    clear w_3
    refine lv_aload_n hx hb dX10_rank_11 rfl (lv_at hl 0 rfl) ?_
    refine rwG_field C hP mF_X10_37 dX10_rank_12 ?_
    refine lv_iload_n hx hb dX10_rank_15 rfl (lv_at hl 1 rfl) ?_
    refine lv_iload_n hx hb dX10_rank_16 rfl (lv_at hl 2 rfl) ?_
    refine g_cv (As := [.int (iI a1), .int (iI a2)]) (rest := []) (n := 2) C hml (c_X2_isIn l D k A ad hD (va_up v 25 (v 25)) (va_up (va_up (va_up (va_up (va_up (va_up (va_up f 34 (f 34)) 35 (f 35)) 36 (f 36)) 37 (f 37)) 38 (f 38)) 39 (f 39)) 41 (f 41)) (va_up (va_up (va_up g 0 (g 0)) 2 (g 2)) 3 (g 3)) a1 a2 (by omega) (by omega)) mM_X10_268 mI_X2_isIn mE_X2_isIn mN_X2 mC_X2_isIn (by decide +kernel) 27 (ci := 2) rfl rfl hP hS (fun _ h => h) ⟨Nat.le_of_ble_eq_true rfl, Nat.le_of_ble_eq_true rfl⟩ ⟨Nat.zero_le _, Nat.zero_le _⟩ hl.1 rfl rfl (Nat.le_of_ble_eq_true rfl) dX10_rank_17 (fun r_6 v_6 f_6 g_6 H locs hq_6 hP _ hS => ?_)
    obtain ⟨z_6, rfl, rfl, rfl, rfl, p0_6⟩ := hq_6
    show W p l e (gRm 5 133) s m args below meth c _ _ 0 0 Q (F0 m 20 ls [.int (iI z_6)])
    replace p0_6 : z_6 = (if (0 ≤ a2 ∧ a2 < (v 21)) ∧ a1 ≤ (f 18) a2 then 1 else 0) := p0_6
    have w_6 := gif (P := (0 ≤ a2 ∧ a2 < (v 21)) ∧ a1 ≤ (f 18) a2) p0_6
    clear p0_6
    have hz_6 : inR z_6 := (by first | omega | (rw [p0_6]; split <;> omega))
    refine gi_zne (tgt := 29) hx hb dX10_rank_20 (by decide) (by omega) (fun c_7 => ?_) (fun c_7 => ?_)
    · have vz_6 := gif1 w_6 c_7
      clear w_6
      refine lv_iload_n hx hb dX10_rank_29 rfl (lv_at hl 3 rfl) ?_
      refine g_cs (As := [.int (iI a3)]) (rest := []) (n := 1) C hml (c_X10_isDay l D k A ad hD (va_up v 25 (v 25)) (va_up (va_up (va_up (va_up (va_up (va_up (va_up f 34 (f 34)) 35 (f 35)) 36 (f 36)) 37 (f 37)) 38 (f 38)) 39 (f 39)) 41 (f 41)) (va_up (va_up (va_up g 0 (g 0)) 2 (g 2)) 3 (g 3)) a3 (by omega)) mM_X10_248 mS_X10_isDay mN_X10 mC_X10_isDay (by decide +kernel) hP hS (fun _ h => h) ⟨Nat.le_of_ble_eq_true rfl, Nat.le_of_ble_eq_true rfl⟩ ⟨Nat.zero_le _, Nat.zero_le _⟩ hl.1 rfl rfl (Nat.le_of_ble_eq_true rfl) dX10_rank_30 (fun r_8 v_8 f_8 g_8 H locs hq_8 hP _ hS => ?_)
      obtain ⟨z_8, rfl, rfl, rfl, rfl, p0_8⟩ := hq_8
      show W p l e (gRm 5 133) s m args below meth c _ _ 0 0 Q (F0 m 33 ls [.int (iI z_8)])
      replace p0_8 : z_8 = (if 0 ≤ a3 ∧ a3 ≤ 999 then 1 else 0) := p0_8
      have w_8 := gif (P := 0 ≤ a3 ∧ a3 ≤ 999) p0_8
      clear p0_8
      have hz_8 : inR z_8 := (by first | omega | (rw [p0_8]; split <;> omega))
      refine gi_zne (tgt := 42) hx hb dX10_rank_33 (by decide) (by omega) (fun c_9 => ?_) (fun c_9 => ?_)
      · have vz_8 := gif1 w_8 c_9
        clear w_8
        refine lv_aload_n hx hb dX10_rank_42 rfl (lv_at hl 0 rfl) ?_
        refine rwG_results C hP mF_X10_67 dX10_rank_43 ?_
        refine lv_iload_n hx hb dX10_rank_46 rfl (lv_at hl 1 rfl) ?_
        refine lv_iload_n hx hb dX10_rank_47 rfl (lv_at hl 3 rfl) ?_
        refine g_cv (As := [.int (iI a1), .int (iI a3)]) (rest := []) (n := 2) C hml (x_Re_workRanks l D k A ad hD (va_up v 25 (v 25)) (va_up (va_up (va_up (va_up (va_up (va_up (va_up f 34 (f 34)) 35 (f 35)) 36 (f 36)) 37 (f 37)) 38 (f 38)) 39 (f 39)) 41 (f 41)) (va_up (va_up (va_up g 0 (g 0)) 2 (g 2)) 3 (g 3)) a1 a3 (by omega) (by omega) (show shOk (v 1) (f 1) from hs) (show 0 ≤ a1 ∧ a1 ≤ 3 from by omega) (show a1 < (v 1) from by omega)) mM_X10_281 mI_X5_workRanks mE_X5_workRanks mN_X5 mC_X5_workRanks (by decide +kernel) 47 (ci := 5) rfl rfl hP hS (fun _ h => h) ⟨Nat.le_of_ble_eq_true rfl, Nat.le_of_ble_eq_true rfl⟩ ⟨Nat.zero_le _, Nat.zero_le _⟩ hl.1 rfl rfl (Nat.le_of_ble_eq_true rfl) dX10_rank_48 (fun r_10 v_10 f_10 g_10 H locs hq_10 hP _ hS => ?_)
        obtain ⟨a34_10, a35_10, a36_10, a37_10, a38_10, a39_10, a41_10, b0_10, b2_10, b3_10, rfl, rfl, rfl, rfl, p0_10⟩ := hq_10
        show W p l e (gRm 5 133) s m args below meth c _ _ 0 0 Q (F0 m 51 ls [])
        have hP : gWd D (rwT k ad) (va_up v 25 (v 25)) (va_up (va_up (va_up (va_up (va_up (va_up (va_up f 34 a34_10) 35 a35_10) 36 a36_10) 37 a37_10) 38 a38_10) 39 a39_10) 41 a41_10) (va_up (va_up (va_up g 0 b0_10) 2 b2_10) 3 b3_10) H := ⟨hP.1, (gF_up (V := rwV) (F := rwF) (gF_up (V := rwV) (F := rwF) (gF_up (V := rwV) (F := rwF) (gF_up (V := rwV) (F := rwF) (gF_up (V := rwV) (F := rwF) (gF_up (V := rwV) (F := rwF) (gF_up (V := rwV) (F := rwF) (gR_up (V := rwV) (F := rwF) ⟨hok.1, hok.2⟩ 25 (hP.2.1 25)) 34 (hP.2.2 34)) 35 (hP.2.2 35)) 36 (hP.2.2 36)) 37 (hP.2.2 37)) 38 (hP.2.2 38)) 39 (hP.2.2 39)) 41 (hP.2.2 41))⟩
        replace p0_10 : ∀ c, 0 ≤ c → c < (v 21) → a41_10 c = rkF (kvF (f 2) (f 3) (f 4) (fun r => (f 1) (r * 4)) (v 2) (gFd (f 20) (f 21) (f 22) (f 23) (f 24) (f 25) (f 26) (f 28) (f 29) (f 30) (f 15) (f 17) (v 23) (v 24) a3)) (f 5) (v 3) (v 4) (f 18) (v 21) a1 c := p0_10
        have hrk := p0_10
        refine lv_aload_n hx hb dX10_rank_51 rfl (lv_at hl 0 rfl) ?_
        refine lv_aload_n hx hb dX10_rank_52 rfl (lv_at hl 0 rfl) ?_
        refine rwG_results C hP mF_X10_67 dX10_rank_53 ?_
        refine rwG_results_ranks C hP mF_X10_284 dX10_rank_56 ?_
        refine lv_iload_n hx hb dX10_rank_59 rfl (lv_at hl 2 rfl) ?_
        refine rwL_results_ranks C hP (by omega) (by omega) dX10_rank_60 ?_
        show W p l e (gRm 5 133) s m args below meth c _ _ 0 0 Q (F0 m 61 ls [.int (iI (a41_10 a2)), .ref (ad 0)])
        have r_11 : (-1) ≤ (a41_10 a2) ∧ (a41_10 a2) ≤ 17 := hP.2.2 41 a2
        refine g_cv (As := [.int (iI (a41_10 a2))]) (rest := []) (n := 1) C hml (c_X10_answer l D k A ad hD (va_up v 25 (v 25)) (va_up (va_up (va_up (va_up (va_up (va_up (va_up f 34 a34_10) 35 a35_10) 36 a36_10) 37 a37_10) 38 a38_10) 39 a39_10) 41 a41_10) (va_up (va_up (va_up g 0 b0_10) 2 b2_10) 3 b3_10) (a41_10 a2) (by omega)) mM_X10_120 mI_X10_answer mE_X10_answer mN_X10 mC_X10_answer (by decide +kernel) 0 (ci := 10) rfl rfl hP hS (fun _ h => h) ⟨Nat.le_of_ble_eq_true rfl, Nat.le_of_ble_eq_true rfl⟩ ⟨Nat.zero_le _, Nat.zero_le _⟩ hl.1 rfl rfl (Nat.le_of_ble_eq_true rfl) dX10_rank_61 (fun r_12 v_12 f_12 g_12 H locs hq_12 hP _ hS => ?_)
        obtain ⟨z_12, rfl, rfl, rfl, rfl, p0_12⟩ := hq_12
        show W p l e (gRm 5 133) s m args below meth c _ _ 0 0 Q (F0 m 64 ls [.int (iI z_12)])
        have hP : gWd D (rwT k ad) (va_up v 25 0) (va_up (va_up (va_up (va_up (va_up (va_up (va_up f 34 a34_10) 35 a35_10) 36 a36_10) 37 a37_10) 38 a38_10) 39 a39_10) 41 a41_10) (va_up (va_up (va_up g 0 b0_10) 2 b2_10) 3 b3_10) H := ⟨hP.1, (gF_up (V := rwV) (F := rwF) (gF_up (V := rwV) (F := rwF) (gF_up (V := rwV) (F := rwF) (gF_up (V := rwV) (F := rwF) (gF_up (V := rwV) (F := rwF) (gF_up (V := rwV) (F := rwF) (gF_up (V := rwV) (F := rwF) (gR_up (V := rwV) (F := rwF) ⟨hok.1, hok.2⟩ 25 (hP.2.1 25)) 34 (hP.2.2 34)) 35 (hP.2.2 35)) 36 (hP.2.2 36)) 37 (hP.2.2 37)) 38 (hP.2.2 38)) 39 (hP.2.2 39)) 41 (hP.2.2 41))⟩
        replace p0_12 : z_12 = (a41_10 a2) := p0_12
        have hz_12 : inR z_12 := (by first | omega | (rw [p0_12]; split <;> omega))
        have han := p0_12
        exact g_iret hQ C hr hlocks hP hS dX10_rank_64 ⟨z_12, 0, a34_10, a35_10, a36_10, a37_10, a38_10, a39_10, a41_10, b0_10, b2_10, b3_10, rfl, rfl, rfl, rfl, (by first | (rw [if_pos (by omega)]) | (rw [if_neg (by omega)]; exact han.trans (hrk a2 (by omega) (by omega)))), (by first | omega | ((repeat' split) <;> omega)), (by first | omega | ((repeat' split) <;> omega))⟩
      · have vz_8 := gif0 w_8 c_9
        clear w_8
        refine lv_aload_n hx hb dX10_rank_36 rfl (lv_at hl 0 rfl) ?_
        refine lv_iconst (v := iI 2) hx hb dX10_rank_37 rfl ?_
        refine g_cv (As := [.int (iI 2)]) (rest := []) (n := 1) C hml (c_X10_refuse l D k A ad hD (va_up v 25 (v 25)) (va_up (va_up (va_up (va_up (va_up (va_up (va_up f 34 (f 34)) 35 (f 35)) 36 (f 36)) 37 (f 37)) 38 (f 38)) 39 (f 39)) 41 (f 41)) (va_up (va_up (va_up g 0 (g 0)) 2 (g 2)) 3 (g 3)) 2 (by decide) (show 0 ≤ (2 : Int) ∧ (2 : Int) ≤ 10 from by omega)) mM_X10_88 mI_X10_refuse mE_X10_refuse mN_X10 mC_X10_refuse (by decide +kernel) 0 (ci := 10) rfl rfl hP hS (fun _ h => h) ⟨Nat.le_of_ble_eq_true rfl, Nat.le_of_ble_eq_true rfl⟩ ⟨Nat.zero_le _, Nat.zero_le _⟩ hl.1 rfl rfl (Nat.le_of_ble_eq_true rfl) dX10_rank_38 (fun r_13 v_13 f_13 g_13 H locs hq_13 hP _ hS => ?_)
        obtain ⟨rfl, rfl, rfl, rfl⟩ := hq_13
        show W p l e (gRm 5 133) s m args below meth c _ _ 0 0 Q (F0 m 41 ls [.int (iI (-1))])
        have hP : gWd D (rwT k ad) (va_up v 25 (2 : Int)) (va_up (va_up (va_up (va_up (va_up (va_up (va_up f 34 (f 34)) 35 (f 35)) 36 (f 36)) 37 (f 37)) 38 (f 38)) 39 (f 39)) 41 (f 41)) (va_up (va_up (va_up g 0 (g 0)) 2 (g 2)) 3 (g 3)) H := ⟨hP.1, (gF_up (V := rwV) (F := rwF) (gF_up (V := rwV) (F := rwF) (gF_up (V := rwV) (F := rwF) (gF_up (V := rwV) (F := rwF) (gF_up (V := rwV) (F := rwF) (gF_up (V := rwV) (F := rwF) (gF_up (V := rwV) (F := rwF) (gR_up (V := rwV) (F := rwF) ⟨hok.1, hok.2⟩ 25 (hP.2.1 25)) 34 (hP.2.2 34)) 35 (hP.2.2 35)) 36 (hP.2.2 36)) 37 (hP.2.2 37)) 38 (hP.2.2 38)) 39 (hP.2.2 39)) 41 (hP.2.2 41))⟩
        exact g_iret hQ C hr hlocks hP hS dX10_rank_41 ⟨(-1), (2 : Int), (f 34), (f 35), (f 36), (f 37), (f 38), (f 39), (f 41), (g 0), (g 2), (g 3), rfl, rfl, rfl, rfl, (by first | (rw [if_pos (by omega)]) | (rw [if_neg (by omega)]; exact han.trans (hrk a2 (by omega) (by omega)))), (by first | omega | ((repeat' split) <;> omega)), (by first | omega | ((repeat' split) <;> omega))⟩
    · have vz_6 := gif0 w_6 c_7
      clear w_6
      refine lv_aload_n hx hb dX10_rank_23 rfl (lv_at hl 0 rfl) ?_
      refine lv_iconst (v := iI 1) hx hb dX10_rank_24 rfl ?_
      refine g_cv (As := [.int (iI 1)]) (rest := []) (n := 1) C hml (c_X10_refuse l D k A ad hD (va_up v 25 (v 25)) (va_up (va_up (va_up (va_up (va_up (va_up (va_up f 34 (f 34)) 35 (f 35)) 36 (f 36)) 37 (f 37)) 38 (f 38)) 39 (f 39)) 41 (f 41)) (va_up (va_up (va_up g 0 (g 0)) 2 (g 2)) 3 (g 3)) 1 (by decide) (show 0 ≤ (1 : Int) ∧ (1 : Int) ≤ 10 from by omega)) mM_X10_88 mI_X10_refuse mE_X10_refuse mN_X10 mC_X10_refuse (by decide +kernel) 0 (ci := 10) rfl rfl hP hS (fun _ h => h) ⟨Nat.le_of_ble_eq_true rfl, Nat.le_of_ble_eq_true rfl⟩ ⟨Nat.zero_le _, Nat.zero_le _⟩ hl.1 rfl rfl (Nat.le_of_ble_eq_true rfl) dX10_rank_25 (fun r_14 v_14 f_14 g_14 H locs hq_14 hP _ hS => ?_)
      obtain ⟨rfl, rfl, rfl, rfl⟩ := hq_14
      show W p l e (gRm 5 133) s m args below meth c _ _ 0 0 Q (F0 m 28 ls [.int (iI (-1))])
      have hP : gWd D (rwT k ad) (va_up v 25 (1 : Int)) (va_up (va_up (va_up (va_up (va_up (va_up (va_up f 34 (f 34)) 35 (f 35)) 36 (f 36)) 37 (f 37)) 38 (f 38)) 39 (f 39)) 41 (f 41)) (va_up (va_up (va_up g 0 (g 0)) 2 (g 2)) 3 (g 3)) H := ⟨hP.1, (gF_up (V := rwV) (F := rwF) (gF_up (V := rwV) (F := rwF) (gF_up (V := rwV) (F := rwF) (gF_up (V := rwV) (F := rwF) (gF_up (V := rwV) (F := rwF) (gF_up (V := rwV) (F := rwF) (gF_up (V := rwV) (F := rwF) (gR_up (V := rwV) (F := rwF) ⟨hok.1, hok.2⟩ 25 (hP.2.1 25)) 34 (hP.2.2 34)) 35 (hP.2.2 35)) 36 (hP.2.2 36)) 37 (hP.2.2 37)) 38 (hP.2.2 38)) 39 (hP.2.2 39)) 41 (hP.2.2 41))⟩
      exact g_iret hQ C hr hlocks hP hS dX10_rank_28 ⟨(-1), (1 : Int), (f 34), (f 35), (f 36), (f 37), (f 38), (f 39), (f 41), (g 0), (g 2), (g 3), rfl, rfl, rfl, rfl, (by first | (rw [if_pos (by omega)]) | (rw [if_neg (by omega)]; exact han.trans (hrk a2 (by omega) (by omega)))), (by first | omega | ((repeat' split) <;> omega)), (by first | omega | ((repeat' split) <;> omega))⟩

set_option maxHeartbeats 4000000 in
set_option maxRecDepth 100000 in
theorem x_Ro_advance (l : Launch) (D : va_G) (k : Nat → ClassId) (A : Nat → Prop) (ad : Nat → Nat) (hD : rwD A k ad) (v : gV) (f g : gF) (a1 : Int) (a2 : Int) (h_a1 : inR a1) (h_a2 : inR a2) (hs : shOk (v 1) (f 1)) : GM l D k A (rwT k ad) yX10_advance cX10_advance 4 (some .int) 5 133 [.ref (ad 0), .int (iI a1), .int (iI a2)] v f g (fun r v1 f1 g1 => ∃ (z : Int) (w25 : Int) (a19_ : Int → Int) (a34_ : Int → Int) (a35_ : Int → Int) (a36_ : Int → Int) (a37_ : Int → Int) (a38_ : Int → Int) (a39_ : Int → Int) (a41_ : Int → Int) (b0_ : Int → Int) (b2_ : Int → Int) (b3_ : Int → Int), r = some (.int (iI z)) ∧ (va_up (va_up v 22 (if w25 = 0 then (v 22) + 1 else (v 22))) 25 w25) = v1 ∧ (va_up (va_up (va_up (va_up (va_up (va_up (va_up (va_up (va_up (va_up f 18 (if w25 = 0 then lcF (f 18) (rkF (kvF (f 2) (f 3) (f 4) (fun r => (f 1) (r * 4)) (v 2) (gFd (f 20) (f 21) (f 22) (f 23) (f 24) (f 25) (f 26) (f 28) (f 29) (f 30) (f 15) (f 17) (v 23) (v 24) a2)) (f 5) (v 3) (v 4) (f 18) (v 21) (v 22)) (v 22) a1 (v 21) else (f 18))) 19 a19_) 31 (if w25 = 0 then gfill (f 31) 16 0 else (f 31))) 34 a34_) 35 a35_) 36 a36_) 37 a37_) 38 a38_) 39 a39_) 41 a41_) = f1 ∧ (va_up (va_up (va_up g 0 b0_) 2 b2_) 3 b3_) = g1 ∧ (z = (if w25 ≠ 0 then (-1) else cn (pLc (f 18) (rkF (kvF (f 2) (f 3) (f 4) (fun r => (f 1) (r * 4)) (v 2) (gFd (f 20) (f 21) (f 22) (f 23) (f 24) (f 25) (f 26) (f 28) (f 29) (f 30) (f 15) (f 17) (v 23) (v 24) a2)) (f 5) (v 3) (v 4) (f 18) (v 21) (v 22)) (v 22) a1) (v 21).toNat)) ∧ ((-1) ≤ z ∧ z ≤ 16) ∧ (w25 = (if a1 < 1 ∨ 16 < a1 ∨ ¬ (0 ≤ a2 ∧ a2 ≤ 999) then 2 else if 1 ≤ cn (pOn (f 27)) (16 : Int).toNat then 5 else if (v 21) = 0 ∨ (v 1) ≤ (v 22) + 1 then 10 else 0))) := by
  refine GM.of (by decide) (Nat.le_of_ble_eq_true rfl) ?_
  intro p e s m args below meth c Q ls hQ C hml hr hlocks hP hl
  have hx := C.1
  have hb := C.2.1
  have hok := hP.2
  have hS : va_S A s.heap s.heap [] := va_S.rf
  have hl : lv_has ls 4 [(0, .ref (ad 0)), (1, .int (iI a1)), (2, .int (iI a2))] := hl
  have hP : gWd D (rwT k ad) (va_up (va_up v 22 (v 22)) 25 (v 25)) (va_up (va_up (va_up (va_up (va_up (va_up (va_up (va_up (va_up (va_up f 18 (f 18)) 19 (f 19)) 31 (f 31)) 34 (f 34)) 35 (f 35)) 36 (f 36)) 37 (f 37)) 38 (f 38)) 39 (f 39)) 41 (f 41)) (va_up (va_up (va_up g 0 (g 0)) 2 (g 2)) 3 (g 3)) s.heap := by rw [va_id, va_id, va_id, va_id, va_id, va_id, va_id, va_id, va_id, va_id, va_id, va_id, va_id, va_id, va_id]; exact hP
  have r_1 : 0 ≤ (v 1) ∧ (v 1) ≤ 4 := hok.1 1
  have r_2 : 0 ≤ (v 21) ∧ (v 21) ≤ 16 := hok.1 21
  have r_3 : 0 ≤ (v 22) ∧ (v 22) ≤ 3 := hok.1 22
  refine lv_iload_n hx hb dX10_advance_0 rfl (lv_at hl 1 rfl) ?_
  refine lv_iconst (v := iI 1) hx hb dX10_advance_1 rfl ?_
  refine gi_clt (tgt := 18) hx hb dX10_advance_2 (by decide) (by omega) (by decide) (fun c_4 => ?_) (fun c_4 => ?_)
  · refine lv_aload_n hx hb dX10_advance_18 rfl (lv_at hl 0 rfl) ?_
    refine lv_iconst (v := iI 2) hx hb dX10_advance_19 rfl ?_
    refine g_cv (As := [.int (iI 2)]) (rest := []) (n := 1) C hml (c_X10_refuse l D k A ad hD (va_up (va_up v 22 (v 22)) 25 (v 25)) (va_up (va_up (va_up (va_up (va_up (va_up (va_up (va_up (va_up (va_up f 18 (f 18)) 19 (f 19)) 31 (f 31)) 34 (f 34)) 35 (f 35)) 36 (f 36)) 37 (f 37)) 38 (f 38)) 39 (f 39)) 41 (f 41)) (va_up (va_up (va_up g 0 (g 0)) 2 (g 2)) 3 (g 3)) 2 (by decide) (show 0 ≤ (2 : Int) ∧ (2 : Int) ≤ 10 from by omega)) mM_X10_88 mI_X10_refuse mE_X10_refuse mN_X10 mC_X10_refuse (by decide +kernel) 0 (ci := 10) rfl rfl hP hS (fun _ h => h) ⟨Nat.le_of_ble_eq_true rfl, Nat.le_of_ble_eq_true rfl⟩ ⟨Nat.zero_le _, Nat.zero_le _⟩ hl.1 rfl rfl (Nat.le_of_ble_eq_true rfl) dX10_advance_20 (fun r_5 v_5 f_5 g_5 H locs hq_5 hP _ hS => ?_)
    obtain ⟨rfl, rfl, rfl, rfl⟩ := hq_5
    show W p l e (gRm 5 133) s m args below meth c _ _ 0 0 Q (F0 m 23 ls [.int (iI (-1))])
    have hP : gWd D (rwT k ad) (va_up (va_up v 22 (v 22)) 25 (2 : Int)) (va_up (va_up (va_up (va_up (va_up (va_up (va_up (va_up (va_up (va_up f 18 (f 18)) 19 (f 19)) 31 (f 31)) 34 (f 34)) 35 (f 35)) 36 (f 36)) 37 (f 37)) 38 (f 38)) 39 (f 39)) 41 (f 41)) (va_up (va_up (va_up g 0 (g 0)) 2 (g 2)) 3 (g 3)) H := ⟨hP.1, (gF_up (V := rwV) (F := rwF) (gF_up (V := rwV) (F := rwF) (gF_up (V := rwV) (F := rwF) (gF_up (V := rwV) (F := rwF) (gF_up (V := rwV) (F := rwF) (gF_up (V := rwV) (F := rwF) (gF_up (V := rwV) (F := rwF) (gF_up (V := rwV) (F := rwF) (gF_up (V := rwV) (F := rwF) (gF_up (V := rwV) (F := rwF) (gR_up (V := rwV) (F := rwF) (gR_up (V := rwV) (F := rwF) ⟨hok.1, hok.2⟩ 22 (hP.2.1 22)) 25 (hP.2.1 25)) 18 (hP.2.2 18)) 19 (hP.2.2 19)) 31 (hP.2.2 31)) 34 (hP.2.2 34)) 35 (hP.2.2 35)) 36 (hP.2.2 36)) 37 (hP.2.2 37)) 38 (hP.2.2 38)) 39 (hP.2.2 39)) 41 (hP.2.2 41))⟩
    exact g_iret hQ C hr hlocks hP hS dX10_advance_23 ⟨(-1), (2 : Int), (f 19), (f 34), (f 35), (f 36), (f 37), (f 38), (f 39), (f 41), (g 0), (g 2), (g 3), rfl, (by rw [show ((if (2 : Int) = 0 then (v 22) + 1 else (v 22)) : Int) = (v 22) from by first | rfl | omega | ((repeat' split) <;> omega)]), (by rw [show ((if (2 : Int) = 0 then lcF (f 18) (rkF (kvF (f 2) (f 3) (f 4) (fun r => (f 1) (r * 4)) (v 2) (gFd (f 20) (f 21) (f 22) (f 23) (f 24) (f 25) (f 26) (f 28) (f 29) (f 30) (f 15) (f 17) (v 23) (v 24) a2)) (f 5) (v 3) (v 4) (f 18) (v 21) (v 22)) (v 22) a1 (v 21) else (f 18)) : Int → Int) = (f 18) from by first | rfl | (rw [if_pos rfl, ← hcf]) | (rw [if_neg (by omega)]), show ((if (2 : Int) = 0 then gfill (f 31) 16 0 else (f 31)) : Int → Int) = (f 31) from by first | rfl | rw [if_pos (by omega)] | rw [if_neg (by omega)]]), rfl, (by first | (rw [if_pos (by omega)]) | (rw [if_neg (by omega), ← hcn]; exact han.trans hlc)), (by first | omega | ((repeat' split) <;> omega)), (by first | omega | ((repeat' split) <;> omega))⟩
  · refine lv_iload_n hx hb dX10_advance_5 rfl (lv_at hl 1 rfl) ?_
    refine lv_bipush (v := iI 16) hx hb dX10_advance_6 (by decide) ?_
    refine gi_cgt (tgt := 18) hx hb dX10_advance_8 (by decide) (by omega) (by decide) (fun c_6 => ?_) (fun c_6 => ?_)
    · refine lv_aload_n hx hb dX10_advance_18 rfl (lv_at hl 0 rfl) ?_
      refine lv_iconst (v := iI 2) hx hb dX10_advance_19 rfl ?_
      refine g_cv (As := [.int (iI 2)]) (rest := []) (n := 1) C hml (c_X10_refuse l D k A ad hD (va_up (va_up v 22 (v 22)) 25 (v 25)) (va_up (va_up (va_up (va_up (va_up (va_up (va_up (va_up (va_up (va_up f 18 (f 18)) 19 (f 19)) 31 (f 31)) 34 (f 34)) 35 (f 35)) 36 (f 36)) 37 (f 37)) 38 (f 38)) 39 (f 39)) 41 (f 41)) (va_up (va_up (va_up g 0 (g 0)) 2 (g 2)) 3 (g 3)) 2 (by decide) (show 0 ≤ (2 : Int) ∧ (2 : Int) ≤ 10 from by omega)) mM_X10_88 mI_X10_refuse mE_X10_refuse mN_X10 mC_X10_refuse (by decide +kernel) 0 (ci := 10) rfl rfl hP hS (fun _ h => h) ⟨Nat.le_of_ble_eq_true rfl, Nat.le_of_ble_eq_true rfl⟩ ⟨Nat.zero_le _, Nat.zero_le _⟩ hl.1 rfl rfl (Nat.le_of_ble_eq_true rfl) dX10_advance_20 (fun r_7 v_7 f_7 g_7 H locs hq_7 hP _ hS => ?_)
      obtain ⟨rfl, rfl, rfl, rfl⟩ := hq_7
      show W p l e (gRm 5 133) s m args below meth c _ _ 0 0 Q (F0 m 23 ls [.int (iI (-1))])
      have hP : gWd D (rwT k ad) (va_up (va_up v 22 (v 22)) 25 (2 : Int)) (va_up (va_up (va_up (va_up (va_up (va_up (va_up (va_up (va_up (va_up f 18 (f 18)) 19 (f 19)) 31 (f 31)) 34 (f 34)) 35 (f 35)) 36 (f 36)) 37 (f 37)) 38 (f 38)) 39 (f 39)) 41 (f 41)) (va_up (va_up (va_up g 0 (g 0)) 2 (g 2)) 3 (g 3)) H := ⟨hP.1, (gF_up (V := rwV) (F := rwF) (gF_up (V := rwV) (F := rwF) (gF_up (V := rwV) (F := rwF) (gF_up (V := rwV) (F := rwF) (gF_up (V := rwV) (F := rwF) (gF_up (V := rwV) (F := rwF) (gF_up (V := rwV) (F := rwF) (gF_up (V := rwV) (F := rwF) (gF_up (V := rwV) (F := rwF) (gF_up (V := rwV) (F := rwF) (gR_up (V := rwV) (F := rwF) (gR_up (V := rwV) (F := rwF) ⟨hok.1, hok.2⟩ 22 (hP.2.1 22)) 25 (hP.2.1 25)) 18 (hP.2.2 18)) 19 (hP.2.2 19)) 31 (hP.2.2 31)) 34 (hP.2.2 34)) 35 (hP.2.2 35)) 36 (hP.2.2 36)) 37 (hP.2.2 37)) 38 (hP.2.2 38)) 39 (hP.2.2 39)) 41 (hP.2.2 41))⟩
      exact g_iret hQ C hr hlocks hP hS dX10_advance_23 ⟨(-1), (2 : Int), (f 19), (f 34), (f 35), (f 36), (f 37), (f 38), (f 39), (f 41), (g 0), (g 2), (g 3), rfl, (by rw [show ((if (2 : Int) = 0 then (v 22) + 1 else (v 22)) : Int) = (v 22) from by first | rfl | omega | ((repeat' split) <;> omega)]), (by rw [show ((if (2 : Int) = 0 then lcF (f 18) (rkF (kvF (f 2) (f 3) (f 4) (fun r => (f 1) (r * 4)) (v 2) (gFd (f 20) (f 21) (f 22) (f 23) (f 24) (f 25) (f 26) (f 28) (f 29) (f 30) (f 15) (f 17) (v 23) (v 24) a2)) (f 5) (v 3) (v 4) (f 18) (v 21) (v 22)) (v 22) a1 (v 21) else (f 18)) : Int → Int) = (f 18) from by first | rfl | (rw [if_pos rfl, ← hcf]) | (rw [if_neg (by omega)]), show ((if (2 : Int) = 0 then gfill (f 31) 16 0 else (f 31)) : Int → Int) = (f 31) from by first | rfl | rw [if_pos (by omega)] | rw [if_neg (by omega)]]), rfl, (by first | (rw [if_pos (by omega)]) | (rw [if_neg (by omega), ← hcn]; exact han.trans hlc)), (by first | omega | ((repeat' split) <;> omega)), (by first | omega | ((repeat' split) <;> omega))⟩
    · refine lv_iload_n hx hb dX10_advance_11 rfl (lv_at hl 2 rfl) ?_
      refine g_cs (As := [.int (iI a2)]) (rest := []) (n := 1) C hml (c_X10_isDay l D k A ad hD (va_up (va_up v 22 (v 22)) 25 (v 25)) (va_up (va_up (va_up (va_up (va_up (va_up (va_up (va_up (va_up (va_up f 18 (f 18)) 19 (f 19)) 31 (f 31)) 34 (f 34)) 35 (f 35)) 36 (f 36)) 37 (f 37)) 38 (f 38)) 39 (f 39)) 41 (f 41)) (va_up (va_up (va_up g 0 (g 0)) 2 (g 2)) 3 (g 3)) a2 (by omega)) mM_X10_248 mS_X10_isDay mN_X10 mC_X10_isDay (by decide +kernel) hP hS (fun _ h => h) ⟨Nat.le_of_ble_eq_true rfl, Nat.le_of_ble_eq_true rfl⟩ ⟨Nat.zero_le _, Nat.zero_le _⟩ hl.1 rfl rfl (Nat.le_of_ble_eq_true rfl) dX10_advance_12 (fun r_8 v_8 f_8 g_8 H locs hq_8 hP _ hS => ?_)
      obtain ⟨z_8, rfl, rfl, rfl, rfl, p0_8⟩ := hq_8
      show W p l e (gRm 5 133) s m args below meth c _ _ 0 0 Q (F0 m 15 ls [.int (iI z_8)])
      replace p0_8 : z_8 = (if 0 ≤ a2 ∧ a2 ≤ 999 then 1 else 0) := p0_8
      have w_8 := gif (P := 0 ≤ a2 ∧ a2 ≤ 999) p0_8
      clear p0_8
      have hz_8 : inR z_8 := (by first | omega | (rw [p0_8]; split <;> omega))
      refine gi_zne (tgt := 24) hx hb dX10_advance_15 (by decide) (by omega) (fun c_9 => ?_) (fun c_9 => ?_)
      · have vz_8 := gif1 w_8 c_9
        clear w_8
        refine lv_aload_n hx hb dX10_advance_24 rfl (lv_at hl 0 rfl) ?_
        refine rwG_tries C hP mF_X10_44 dX10_advance_25 ?_
        refine g_cv (As := []) (rest := []) (n := 0) C hml (x_Tr_anyOpen l D k A ad hD (va_up (va_up v 22 (v 22)) 25 (v 25)) (va_up (va_up (va_up (va_up (va_up (va_up (va_up (va_up (va_up (va_up f 18 (f 18)) 19 (f 19)) 31 (f 31)) 34 (f 34)) 35 (f 35)) 36 (f 36)) 37 (f 37)) 38 (f 38)) 39 (f 39)) 41 (f 41)) (va_up (va_up (va_up g 0 (g 0)) 2 (g 2)) 3 (g 3))) mM_X10_287 mI_X7_anyOpen mE_X7_anyOpen mN_X7 mC_X7_anyOpen (by decide +kernel) 30 (ci := 7) rfl rfl hP hS (fun _ h => h) ⟨Nat.le_of_ble_eq_true rfl, Nat.le_of_ble_eq_true rfl⟩ ⟨Nat.zero_le _, Nat.zero_le _⟩ hl.1 rfl rfl (Nat.le_of_ble_eq_true rfl) dX10_advance_28 (fun r_10 v_10 f_10 g_10 H locs hq_10 hP _ hS => ?_)
        obtain ⟨z_10, rfl, rfl, rfl, rfl, p0_10⟩ := hq_10
        show W p l e (gRm 5 133) s m args below meth c _ _ 0 0 Q (F0 m 31 ls [.int (iI z_10)])
        replace p0_10 : z_10 = (if 1 ≤ cn (pOn (f 27)) (16 : Int).toNat then 1 else 0) := p0_10
        have w_10 := gif (P := 1 ≤ cn (pOn (f 27)) (16 : Int).toNat) p0_10
        clear p0_10
        have hz_10 : inR z_10 := (by first | omega | (rw [p0_10]; split <;> omega))
        refine gi_zeq (tgt := 40) hx hb dX10_advance_31 (by decide) (by omega) (fun c_11 => ?_) (fun c_11 => ?_)
        · have vz_10 := gif0 w_10 c_11
          clear w_10
          refine lv_aload_n hx hb dX10_advance_40 rfl (lv_at hl 0 rfl) ?_
          refine rwG_field C hP mF_X10_37 dX10_advance_41 ?_
          refine rwG_field_climbers C hP mF_X10_123 dX10_advance_44 ?_
          show W p l e (gRm 5 133) s m args below meth c _ _ 0 0 Q (F0 m 47 ls [.int (iI (v 21))])
          refine gi_zeq (tgt := 69) hx hb dX10_advance_47 (by decide) (by omega) (fun c_12 => ?_) (fun c_12 => ?_)
          · refine lv_aload_n hx hb dX10_advance_69 rfl (lv_at hl 0 rfl) ?_
            refine lv_bipush (v := iI 10) hx hb dX10_advance_70 (by decide) ?_
            refine g_cv (As := [.int (iI 10)]) (rest := []) (n := 1) C hml (c_X10_refuse l D k A ad hD (va_up (va_up v 22 (v 22)) 25 (v 25)) (va_up (va_up (va_up (va_up (va_up (va_up (va_up (va_up (va_up (va_up f 18 (f 18)) 19 (f 19)) 31 (f 31)) 34 (f 34)) 35 (f 35)) 36 (f 36)) 37 (f 37)) 38 (f 38)) 39 (f 39)) 41 (f 41)) (va_up (va_up (va_up g 0 (g 0)) 2 (g 2)) 3 (g 3)) 10 (by decide) (show 0 ≤ (10 : Int) ∧ (10 : Int) ≤ 10 from by omega)) mM_X10_88 mI_X10_refuse mE_X10_refuse mN_X10 mC_X10_refuse (by decide +kernel) 0 (ci := 10) rfl rfl hP hS (fun _ h => h) ⟨Nat.le_of_ble_eq_true rfl, Nat.le_of_ble_eq_true rfl⟩ ⟨Nat.zero_le _, Nat.zero_le _⟩ hl.1 rfl rfl (Nat.le_of_ble_eq_true rfl) dX10_advance_72 (fun r_13 v_13 f_13 g_13 H locs hq_13 hP _ hS => ?_)
            obtain ⟨rfl, rfl, rfl, rfl⟩ := hq_13
            show W p l e (gRm 5 133) s m args below meth c _ _ 0 0 Q (F0 m 75 ls [.int (iI (-1))])
            have hP : gWd D (rwT k ad) (va_up (va_up v 22 (v 22)) 25 (10 : Int)) (va_up (va_up (va_up (va_up (va_up (va_up (va_up (va_up (va_up (va_up f 18 (f 18)) 19 (f 19)) 31 (f 31)) 34 (f 34)) 35 (f 35)) 36 (f 36)) 37 (f 37)) 38 (f 38)) 39 (f 39)) 41 (f 41)) (va_up (va_up (va_up g 0 (g 0)) 2 (g 2)) 3 (g 3)) H := ⟨hP.1, (gF_up (V := rwV) (F := rwF) (gF_up (V := rwV) (F := rwF) (gF_up (V := rwV) (F := rwF) (gF_up (V := rwV) (F := rwF) (gF_up (V := rwV) (F := rwF) (gF_up (V := rwV) (F := rwF) (gF_up (V := rwV) (F := rwF) (gF_up (V := rwV) (F := rwF) (gF_up (V := rwV) (F := rwF) (gF_up (V := rwV) (F := rwF) (gR_up (V := rwV) (F := rwF) (gR_up (V := rwV) (F := rwF) ⟨hok.1, hok.2⟩ 22 (hP.2.1 22)) 25 (hP.2.1 25)) 18 (hP.2.2 18)) 19 (hP.2.2 19)) 31 (hP.2.2 31)) 34 (hP.2.2 34)) 35 (hP.2.2 35)) 36 (hP.2.2 36)) 37 (hP.2.2 37)) 38 (hP.2.2 38)) 39 (hP.2.2 39)) 41 (hP.2.2 41))⟩
            exact g_iret hQ C hr hlocks hP hS dX10_advance_75 ⟨(-1), (10 : Int), (f 19), (f 34), (f 35), (f 36), (f 37), (f 38), (f 39), (f 41), (g 0), (g 2), (g 3), rfl, (by rw [show ((if (10 : Int) = 0 then (v 22) + 1 else (v 22)) : Int) = (v 22) from by first | rfl | omega | ((repeat' split) <;> omega)]), (by rw [show ((if (10 : Int) = 0 then lcF (f 18) (rkF (kvF (f 2) (f 3) (f 4) (fun r => (f 1) (r * 4)) (v 2) (gFd (f 20) (f 21) (f 22) (f 23) (f 24) (f 25) (f 26) (f 28) (f 29) (f 30) (f 15) (f 17) (v 23) (v 24) a2)) (f 5) (v 3) (v 4) (f 18) (v 21) (v 22)) (v 22) a1 (v 21) else (f 18)) : Int → Int) = (f 18) from by first | rfl | (rw [if_pos rfl, ← hcf]) | (rw [if_neg (by omega)]), show ((if (10 : Int) = 0 then gfill (f 31) 16 0 else (f 31)) : Int → Int) = (f 31) from by first | rfl | rw [if_pos (by omega)] | rw [if_neg (by omega)]]), rfl, (by first | (rw [if_pos (by omega)]) | (rw [if_neg (by omega), ← hcn]; exact han.trans hlc)), (by first | omega | ((repeat' split) <;> omega)), (by first | omega | ((repeat' split) <;> omega))⟩
          · refine lv_aload_n hx hb dX10_advance_50 rfl (lv_at hl 0 rfl) ?_
            refine rwG_field C hP mF_X10_37 dX10_advance_51 ?_
            refine rwG_field_open C hP mF_X10_129 dX10_advance_54 ?_
            show W p l e (gRm 5 133) s m args below meth c _ _ 0 0 Q (F0 m 57 ls [.int (iI (v 22))])
            refine lv_iconst (v := iI 1) hx hb dX10_advance_57 rfl ?_
            refine gi_add (z := ((v 22) + 1)) hx hb dX10_advance_58 rfl ?_
            refine lv_aload_n hx hb dX10_advance_59 rfl (lv_at hl 0 rfl) ?_
            refine rwG_laws C hP mF_X10_16 dX10_advance_60 ?_
            refine rwG_laws_rounds C hP mF_X10_117 dX10_advance_63 ?_
            show W p l e (gRm 5 133) s m args below meth c _ _ 0 0 Q (F0 m 66 ls [.int (iI (v 1)), .int (iI ((v 22) + 1))])
            refine gi_clt (tgt := 76) hx hb dX10_advance_66 (by decide) (by omega) (by omega) (fun c_14 => ?_) (fun c_14 => ?_)
            · refine lv_aload_n hx hb dX10_advance_76 rfl (lv_at hl 0 rfl) ?_
              refine rwG_results C hP mF_X10_67 dX10_advance_77 ?_
              refine lv_aload_n hx hb dX10_advance_80 rfl (lv_at hl 0 rfl) ?_
              refine rwG_field C hP mF_X10_37 dX10_advance_81 ?_
              refine rwG_field_open C hP mF_X10_129 dX10_advance_84 ?_
              show W p l e (gRm 5 133) s m args below meth c _ _ 0 0 Q (F0 m 87 ls [.int (iI (v 22)), .ref (ad 47)])
              refine lv_iload_n hx hb dX10_advance_87 rfl (lv_at hl 2 rfl) ?_
              refine g_cv (As := [.int (iI (v 22)), .int (iI a2)]) (rest := []) (n := 2) C hml (x_Re_workRanks l D k A ad hD (va_up (va_up v 22 (v 22)) 25 (v 25)) (va_up (va_up (va_up (va_up (va_up (va_up (va_up (va_up (va_up (va_up f 18 (f 18)) 19 (f 19)) 31 (f 31)) 34 (f 34)) 35 (f 35)) 36 (f 36)) 37 (f 37)) 38 (f 38)) 39 (f 39)) 41 (f 41)) (va_up (va_up (va_up g 0 (g 0)) 2 (g 2)) 3 (g 3)) (v 22) a2 (by omega) (by omega) (show shOk (v 1) (f 1) from hs) (show 0 ≤ (v 22) ∧ (v 22) ≤ 3 from by omega) (show (v 22) < (v 1) from by omega)) mM_X10_281 mI_X5_workRanks mE_X5_workRanks mN_X5 mC_X5_workRanks (by decide +kernel) 47 (ci := 5) rfl rfl hP hS (fun _ h => h) ⟨Nat.le_of_ble_eq_true rfl, Nat.le_of_ble_eq_true rfl⟩ ⟨Nat.zero_le _, Nat.zero_le _⟩ hl.1 rfl rfl (Nat.le_of_ble_eq_true rfl) dX10_advance_88 (fun r_15 v_15 f_15 g_15 H locs hq_15 hP _ hS => ?_)
              obtain ⟨a34_15, a35_15, a36_15, a37_15, a38_15, a39_15, a41_15, b0_15, b2_15, b3_15, rfl, rfl, rfl, rfl, p0_15⟩ := hq_15
              show W p l e (gRm 5 133) s m args below meth c _ _ 0 0 Q (F0 m 91 ls [])
              have hP : gWd D (rwT k ad) (va_up (va_up v 22 (v 22)) 25 (v 25)) (va_up (va_up (va_up (va_up (va_up (va_up (va_up (va_up (va_up (va_up f 18 (f 18)) 19 (f 19)) 31 (f 31)) 34 a34_15) 35 a35_15) 36 a36_15) 37 a37_15) 38 a38_15) 39 a39_15) 41 a41_15) (va_up (va_up (va_up g 0 b0_15) 2 b2_15) 3 b3_15) H := ⟨hP.1, (gF_up (V := rwV) (F := rwF) (gF_up (V := rwV) (F := rwF) (gF_up (V := rwV) (F := rwF) (gF_up (V := rwV) (F := rwF) (gF_up (V := rwV) (F := rwF) (gF_up (V := rwV) (F := rwF) (gF_up (V := rwV) (F := rwF) (gF_up (V := rwV) (F := rwF) (gF_up (V := rwV) (F := rwF) (gF_up (V := rwV) (F := rwF) (gR_up (V := rwV) (F := rwF) (gR_up (V := rwV) (F := rwF) ⟨hok.1, hok.2⟩ 22 (hP.2.1 22)) 25 (hP.2.1 25)) 18 (hP.2.2 18)) 19 (hP.2.2 19)) 31 (hP.2.2 31)) 34 (hP.2.2 34)) 35 (hP.2.2 35)) 36 (hP.2.2 36)) 37 (hP.2.2 37)) 38 (hP.2.2 38)) 39 (hP.2.2 39)) 41 (hP.2.2 41))⟩
              replace p0_15 : ∀ c, 0 ≤ c → c < (v 21) → a41_15 c = rkF (kvF (f 2) (f 3) (f 4) (fun r => (f 1) (r * 4)) (v 2) (gFd (f 20) (f 21) (f 22) (f 23) (f 24) (f 25) (f 26) (f 28) (f 29) (f 30) (f 15) (f 17) (v 23) (v 24) a2)) (f 5) (v 3) (v 4) (f 18) (v 21) (v 22) c := p0_15
              have hrk := p0_15
              refine lv_aload_n hx hb dX10_advance_91 rfl (lv_at hl 0 rfl) ?_
              refine rwG_field C hP mF_X10_37 dX10_advance_92 ?_
              refine lv_aload_n hx hb dX10_advance_95 rfl (lv_at hl 0 rfl) ?_
              refine rwG_results C hP mF_X10_67 dX10_advance_96 ?_
              refine rwG_results_ranks C hP mF_X10_284 dX10_advance_99 ?_
              refine lv_iload_n hx hb dX10_advance_102 rfl (lv_at hl 1 rfl) ?_
              refine lv_iload_n hx hb dX10_advance_103 rfl (lv_at hl 2 rfl) ?_
              refine g_cv (As := [.ref (ad 57), .int (iI a1), .int (iI a2)]) (rest := []) (n := 3) C hml (x_Fi_letCome l D k A ad hD (va_up (va_up v 22 (v 22)) 25 (v 25)) (va_up (va_up (va_up (va_up (va_up (va_up (va_up (va_up (va_up (va_up f 18 (f 18)) 19 (f 19)) 31 (f 31)) 34 a34_15) 35 a35_15) 36 a36_15) 37 a37_15) 38 a38_15) 39 a39_15) 41 a41_15) (va_up (va_up (va_up g 0 b0_15) 2 b2_15) 3 b3_15) a1 a2 (by omega) (by omega) (show (v 22) < 3 from by omega) (show 0 ≤ a2 ∧ a2 ≤ 999 from by omega)) mM_X10_290 mI_X2_letCome mE_X2_letCome mN_X2 mC_X2_letCome (by decide +kernel) 27 (ci := 2) rfl rfl hP hS (fun _ h => h) ⟨Nat.le_of_ble_eq_true rfl, Nat.le_of_ble_eq_true rfl⟩ ⟨Nat.zero_le _, Nat.zero_le _⟩ hl.1 rfl rfl (Nat.le_of_ble_eq_true rfl) dX10_advance_104 (fun r_16 v_16 f_16 g_16 H locs hq_16 hP _ hS => ?_)
              obtain ⟨z_16, rfl, rfl, rfl, rfl, p0_16, p1_16⟩ := hq_16
              show W p l e (gRm 5 133) s m args below meth c _ _ 0 0 Q (F0 m 107 ls [.int (iI z_16)])
              have hP : gWd D (rwT k ad) (va_up (va_up v 22 ((v 22) + 1)) 25 (v 25)) (va_up (va_up (va_up (va_up (va_up (va_up (va_up (va_up (va_up (va_up f 18 (lcF (f 18) a41_15 (v 22) a1 (v 21))) 19 (u1 (f 19) ((v 22) + 1) a2)) 31 (f 31)) 34 a34_15) 35 a35_15) 36 a36_15) 37 a37_15) 38 a38_15) 39 a39_15) 41 a41_15) (va_up (va_up (va_up g 0 b0_15) 2 b2_15) 3 b3_15) H := ⟨hP.1, (gF_up (V := rwV) (F := rwF) (gF_up (V := rwV) (F := rwF) (gF_up (V := rwV) (F := rwF) (gF_up (V := rwV) (F := rwF) (gF_up (V := rwV) (F := rwF) (gF_up (V := rwV) (F := rwF) (gF_up (V := rwV) (F := rwF) (gF_up (V := rwV) (F := rwF) (gF_up (V := rwV) (F := rwF) (gF_up (V := rwV) (F := rwF) (gR_up (V := rwV) (F := rwF) (gR_up (V := rwV) (F := rwF) ⟨hok.1, hok.2⟩ 22 (hP.2.1 22)) 25 (hP.2.1 25)) 18 (hP.2.2 18)) 19 (hP.2.2 19)) 31 (hP.2.2 31)) 34 (hP.2.2 34)) 35 (hP.2.2 35)) 36 (hP.2.2 36)) 37 (hP.2.2 37)) 38 (hP.2.2 38)) 39 (hP.2.2 39)) 41 (hP.2.2 41))⟩
              replace p0_16 : z_16 = (cn (pLc (f 18) a41_15 (v 22) a1) (v 21).toNat) := p0_16
              replace p1_16 : 0 ≤ z_16 ∧ z_16 ≤ 16 := p1_16
              have hz_16 : inR z_16 := (by first | omega | (rw [p0_16]; split <;> omega))
              have hlc := p0_16
              have hcn := lc_cn (la := (f 18)) (op := (v 22)) (mo := a1) (cl := (v 21)) hrk
              have hcf := lc_f (la := (f 18)) (op := (v 22)) (mo := a1) (cl := (v 21)) hrk
              refine lv_istore_n (lv' := [(3, .int (iI z_16)), (0, .ref (ad 0)), (1, .int (iI a1)), (2, .int (iI a2))]) hx hb dX10_advance_107 rfl hl (by decide) rfl (fun ls hl => ?_)
              refine lv_aload_n hx hb dX10_advance_108 rfl (lv_at hl 1 rfl) ?_
              refine rwG_watch C hP mF_X10_58 dX10_advance_109 ?_
              refine g_cv (As := []) (rest := []) (n := 0) C hml (c_X9_clear l D k A ad hD (va_up (va_up v 22 ((v 22) + 1)) 25 (v 25)) (va_up (va_up (va_up (va_up (va_up (va_up (va_up (va_up (va_up (va_up f 18 (lcF (f 18) a41_15 (v 22) a1 (v 21))) 19 (u1 (f 19) ((v 22) + 1) a2)) 31 (f 31)) 34 a34_15) 35 a35_15) 36 a36_15) 37 a37_15) 38 a38_15) 39 a39_15) 41 a41_15) (va_up (va_up (va_up g 0 b0_15) 2 b2_15) 3 b3_15)) mM_X10_113 mI_X9_clear mE_X9_clear mN_X9 mC_X9_clear (by decide +kernel) 43 (ci := 9) rfl rfl hP hS (fun _ h => h) ⟨Nat.le_of_ble_eq_true rfl, Nat.le_of_ble_eq_true rfl⟩ ⟨Nat.zero_le _, Nat.zero_le _⟩ hl.1 rfl rfl (Nat.le_of_ble_eq_true rfl) dX10_advance_112 (fun r_17 v_17 f_17 g_17 H locs hq_17 hP _ hS => ?_)
              obtain ⟨rfl, rfl, rfl, rfl⟩ := hq_17
              show W p l e (gRm 5 133) s m args below meth c _ _ 0 0 Q (F0 m 115 ls [])
              have hP : gWd D (rwT k ad) (va_up (va_up v 22 ((v 22) + 1)) 25 (v 25)) (va_up (va_up (va_up (va_up (va_up (va_up (va_up (va_up (va_up (va_up f 18 (lcF (f 18) a41_15 (v 22) a1 (v 21))) 19 (u1 (f 19) ((v 22) + 1) a2)) 31 (gfill (f 31) 16 0)) 34 a34_15) 35 a35_15) 36 a36_15) 37 a37_15) 38 a38_15) 39 a39_15) 41 a41_15) (va_up (va_up (va_up g 0 b0_15) 2 b2_15) 3 b3_15) H := ⟨hP.1, (gF_up (V := rwV) (F := rwF) (gF_up (V := rwV) (F := rwF) (gF_up (V := rwV) (F := rwF) (gF_up (V := rwV) (F := rwF) (gF_up (V := rwV) (F := rwF) (gF_up (V := rwV) (F := rwF) (gF_up (V := rwV) (F := rwF) (gF_up (V := rwV) (F := rwF) (gF_up (V := rwV) (F := rwF) (gF_up (V := rwV) (F := rwF) (gR_up (V := rwV) (F := rwF) (gR_up (V := rwV) (F := rwF) ⟨hok.1, hok.2⟩ 22 (hP.2.1 22)) 25 (hP.2.1 25)) 18 (hP.2.2 18)) 19 (hP.2.2 19)) 31 (hP.2.2 31)) 34 (hP.2.2 34)) 35 (hP.2.2 35)) 36 (hP.2.2 36)) 37 (hP.2.2 37)) 38 (hP.2.2 38)) 39 (hP.2.2 39)) 41 (hP.2.2 41))⟩
              refine lv_aload_n hx hb dX10_advance_115 rfl (lv_at hl 1 rfl) ?_
              refine lv_iload_n hx hb dX10_advance_116 rfl (lv_at hl 0 rfl) ?_
              refine g_cv (As := [.int (iI z_16)]) (rest := []) (n := 1) C hml (c_X10_answer l D k A ad hD (va_up (va_up v 22 ((v 22) + 1)) 25 (v 25)) (va_up (va_up (va_up (va_up (va_up (va_up (va_up (va_up (va_up (va_up f 18 (lcF (f 18) a41_15 (v 22) a1 (v 21))) 19 (u1 (f 19) ((v 22) + 1) a2)) 31 (gfill (f 31) 16 0)) 34 a34_15) 35 a35_15) 36 a36_15) 37 a37_15) 38 a38_15) 39 a39_15) 41 a41_15) (va_up (va_up (va_up g 0 b0_15) 2 b2_15) 3 b3_15) z_16 (by omega)) mM_X10_120 mI_X10_answer mE_X10_answer mN_X10 mC_X10_answer (by decide +kernel) 0 (ci := 10) rfl rfl hP hS (fun _ h => h) ⟨Nat.le_of_ble_eq_true rfl, Nat.le_of_ble_eq_true rfl⟩ ⟨Nat.zero_le _, Nat.zero_le _⟩ hl.1 rfl rfl (Nat.le_of_ble_eq_true rfl) dX10_advance_117 (fun r_18 v_18 f_18 g_18 H locs hq_18 hP _ hS => ?_)
              obtain ⟨z_18, rfl, rfl, rfl, rfl, p0_18⟩ := hq_18
              show W p l e (gRm 5 133) s m args below meth c _ _ 0 0 Q (F0 m 120 ls [.int (iI z_18)])
              have hP : gWd D (rwT k ad) (va_up (va_up v 22 ((v 22) + 1)) 25 0) (va_up (va_up (va_up (va_up (va_up (va_up (va_up (va_up (va_up (va_up f 18 (lcF (f 18) a41_15 (v 22) a1 (v 21))) 19 (u1 (f 19) ((v 22) + 1) a2)) 31 (gfill (f 31) 16 0)) 34 a34_15) 35 a35_15) 36 a36_15) 37 a37_15) 38 a38_15) 39 a39_15) 41 a41_15) (va_up (va_up (va_up g 0 b0_15) 2 b2_15) 3 b3_15) H := ⟨hP.1, (gF_up (V := rwV) (F := rwF) (gF_up (V := rwV) (F := rwF) (gF_up (V := rwV) (F := rwF) (gF_up (V := rwV) (F := rwF) (gF_up (V := rwV) (F := rwF) (gF_up (V := rwV) (F := rwF) (gF_up (V := rwV) (F := rwF) (gF_up (V := rwV) (F := rwF) (gF_up (V := rwV) (F := rwF) (gF_up (V := rwV) (F := rwF) (gR_up (V := rwV) (F := rwF) (gR_up (V := rwV) (F := rwF) ⟨hok.1, hok.2⟩ 22 (hP.2.1 22)) 25 (hP.2.1 25)) 18 (hP.2.2 18)) 19 (hP.2.2 19)) 31 (hP.2.2 31)) 34 (hP.2.2 34)) 35 (hP.2.2 35)) 36 (hP.2.2 36)) 37 (hP.2.2 37)) 38 (hP.2.2 38)) 39 (hP.2.2 39)) 41 (hP.2.2 41))⟩
              replace p0_18 : z_18 = z_16 := p0_18
              have hz_18 : inR z_18 := (by first | omega | (rw [p0_18]; split <;> omega))
              have han := p0_18
              exact g_iret hQ C hr hlocks hP hS dX10_advance_120 ⟨z_18, 0, (u1 (f 19) ((v 22) + 1) a2), a34_15, a35_15, a36_15, a37_15, a38_15, a39_15, a41_15, b0_15, b2_15, b3_15, rfl, (by rw [show ((if (0 : Int) = 0 then (v 22) + 1 else (v 22)) : Int) = ((v 22) + 1) from by first | rfl | omega | ((repeat' split) <;> omega)]), (by rw [show ((if (0 : Int) = 0 then lcF (f 18) (rkF (kvF (f 2) (f 3) (f 4) (fun r => (f 1) (r * 4)) (v 2) (gFd (f 20) (f 21) (f 22) (f 23) (f 24) (f 25) (f 26) (f 28) (f 29) (f 30) (f 15) (f 17) (v 23) (v 24) a2)) (f 5) (v 3) (v 4) (f 18) (v 21) (v 22)) (v 22) a1 (v 21) else (f 18)) : Int → Int) = (lcF (f 18) a41_15 (v 22) a1 (v 21)) from by first | rfl | (rw [if_pos rfl, ← hcf]) | (rw [if_neg (by omega)]), show ((if (0 : Int) = 0 then gfill (f 31) 16 0 else (f 31)) : Int → Int) = (gfill (f 31) 16 0) from by first | rfl | rw [if_pos (by omega)] | rw [if_neg (by omega)]]), rfl, (by first | (rw [if_pos (by omega)]) | (rw [if_neg (by omega), ← hcn]; exact han.trans hlc)), (by first | omega | ((repeat' split) <;> omega)), (by first | omega | ((repeat' split) <;> omega))⟩
            · refine lv_aload_n hx hb dX10_advance_69 rfl (lv_at hl 0 rfl) ?_
              refine lv_bipush (v := iI 10) hx hb dX10_advance_70 (by decide) ?_
              refine g_cv (As := [.int (iI 10)]) (rest := []) (n := 1) C hml (c_X10_refuse l D k A ad hD (va_up (va_up v 22 (v 22)) 25 (v 25)) (va_up (va_up (va_up (va_up (va_up (va_up (va_up (va_up (va_up (va_up f 18 (f 18)) 19 (f 19)) 31 (f 31)) 34 (f 34)) 35 (f 35)) 36 (f 36)) 37 (f 37)) 38 (f 38)) 39 (f 39)) 41 (f 41)) (va_up (va_up (va_up g 0 (g 0)) 2 (g 2)) 3 (g 3)) 10 (by decide) (show 0 ≤ (10 : Int) ∧ (10 : Int) ≤ 10 from by omega)) mM_X10_88 mI_X10_refuse mE_X10_refuse mN_X10 mC_X10_refuse (by decide +kernel) 0 (ci := 10) rfl rfl hP hS (fun _ h => h) ⟨Nat.le_of_ble_eq_true rfl, Nat.le_of_ble_eq_true rfl⟩ ⟨Nat.zero_le _, Nat.zero_le _⟩ hl.1 rfl rfl (Nat.le_of_ble_eq_true rfl) dX10_advance_72 (fun r_19 v_19 f_19 g_19 H locs hq_19 hP _ hS => ?_)
              obtain ⟨rfl, rfl, rfl, rfl⟩ := hq_19
              show W p l e (gRm 5 133) s m args below meth c _ _ 0 0 Q (F0 m 75 ls [.int (iI (-1))])
              have hP : gWd D (rwT k ad) (va_up (va_up v 22 (v 22)) 25 (10 : Int)) (va_up (va_up (va_up (va_up (va_up (va_up (va_up (va_up (va_up (va_up f 18 (f 18)) 19 (f 19)) 31 (f 31)) 34 (f 34)) 35 (f 35)) 36 (f 36)) 37 (f 37)) 38 (f 38)) 39 (f 39)) 41 (f 41)) (va_up (va_up (va_up g 0 (g 0)) 2 (g 2)) 3 (g 3)) H := ⟨hP.1, (gF_up (V := rwV) (F := rwF) (gF_up (V := rwV) (F := rwF) (gF_up (V := rwV) (F := rwF) (gF_up (V := rwV) (F := rwF) (gF_up (V := rwV) (F := rwF) (gF_up (V := rwV) (F := rwF) (gF_up (V := rwV) (F := rwF) (gF_up (V := rwV) (F := rwF) (gF_up (V := rwV) (F := rwF) (gF_up (V := rwV) (F := rwF) (gR_up (V := rwV) (F := rwF) (gR_up (V := rwV) (F := rwF) ⟨hok.1, hok.2⟩ 22 (hP.2.1 22)) 25 (hP.2.1 25)) 18 (hP.2.2 18)) 19 (hP.2.2 19)) 31 (hP.2.2 31)) 34 (hP.2.2 34)) 35 (hP.2.2 35)) 36 (hP.2.2 36)) 37 (hP.2.2 37)) 38 (hP.2.2 38)) 39 (hP.2.2 39)) 41 (hP.2.2 41))⟩
              exact g_iret hQ C hr hlocks hP hS dX10_advance_75 ⟨(-1), (10 : Int), (f 19), (f 34), (f 35), (f 36), (f 37), (f 38), (f 39), (f 41), (g 0), (g 2), (g 3), rfl, (by rw [show ((if (10 : Int) = 0 then (v 22) + 1 else (v 22)) : Int) = (v 22) from by first | rfl | omega | ((repeat' split) <;> omega)]), (by rw [show ((if (10 : Int) = 0 then lcF (f 18) (rkF (kvF (f 2) (f 3) (f 4) (fun r => (f 1) (r * 4)) (v 2) (gFd (f 20) (f 21) (f 22) (f 23) (f 24) (f 25) (f 26) (f 28) (f 29) (f 30) (f 15) (f 17) (v 23) (v 24) a2)) (f 5) (v 3) (v 4) (f 18) (v 21) (v 22)) (v 22) a1 (v 21) else (f 18)) : Int → Int) = (f 18) from by first | rfl | (rw [if_pos rfl, ← hcf]) | (rw [if_neg (by omega)]), show ((if (10 : Int) = 0 then gfill (f 31) 16 0 else (f 31)) : Int → Int) = (f 31) from by first | rfl | rw [if_pos (by omega)] | rw [if_neg (by omega)]]), rfl, (by first | (rw [if_pos (by omega)]) | (rw [if_neg (by omega), ← hcn]; exact han.trans hlc)), (by first | omega | ((repeat' split) <;> omega)), (by first | omega | ((repeat' split) <;> omega))⟩
        · have vz_10 := gif1 w_10 c_11
          clear w_10
          refine lv_aload_n hx hb dX10_advance_34 rfl (lv_at hl 0 rfl) ?_
          refine lv_iconst (v := iI 5) hx hb dX10_advance_35 rfl ?_
          refine g_cv (As := [.int (iI 5)]) (rest := []) (n := 1) C hml (c_X10_refuse l D k A ad hD (va_up (va_up v 22 (v 22)) 25 (v 25)) (va_up (va_up (va_up (va_up (va_up (va_up (va_up (va_up (va_up (va_up f 18 (f 18)) 19 (f 19)) 31 (f 31)) 34 (f 34)) 35 (f 35)) 36 (f 36)) 37 (f 37)) 38 (f 38)) 39 (f 39)) 41 (f 41)) (va_up (va_up (va_up g 0 (g 0)) 2 (g 2)) 3 (g 3)) 5 (by decide) (show 0 ≤ (5 : Int) ∧ (5 : Int) ≤ 10 from by omega)) mM_X10_88 mI_X10_refuse mE_X10_refuse mN_X10 mC_X10_refuse (by decide +kernel) 0 (ci := 10) rfl rfl hP hS (fun _ h => h) ⟨Nat.le_of_ble_eq_true rfl, Nat.le_of_ble_eq_true rfl⟩ ⟨Nat.zero_le _, Nat.zero_le _⟩ hl.1 rfl rfl (Nat.le_of_ble_eq_true rfl) dX10_advance_36 (fun r_20 v_20 f_20 g_20 H locs hq_20 hP _ hS => ?_)
          obtain ⟨rfl, rfl, rfl, rfl⟩ := hq_20
          show W p l e (gRm 5 133) s m args below meth c _ _ 0 0 Q (F0 m 39 ls [.int (iI (-1))])
          have hP : gWd D (rwT k ad) (va_up (va_up v 22 (v 22)) 25 (5 : Int)) (va_up (va_up (va_up (va_up (va_up (va_up (va_up (va_up (va_up (va_up f 18 (f 18)) 19 (f 19)) 31 (f 31)) 34 (f 34)) 35 (f 35)) 36 (f 36)) 37 (f 37)) 38 (f 38)) 39 (f 39)) 41 (f 41)) (va_up (va_up (va_up g 0 (g 0)) 2 (g 2)) 3 (g 3)) H := ⟨hP.1, (gF_up (V := rwV) (F := rwF) (gF_up (V := rwV) (F := rwF) (gF_up (V := rwV) (F := rwF) (gF_up (V := rwV) (F := rwF) (gF_up (V := rwV) (F := rwF) (gF_up (V := rwV) (F := rwF) (gF_up (V := rwV) (F := rwF) (gF_up (V := rwV) (F := rwF) (gF_up (V := rwV) (F := rwF) (gF_up (V := rwV) (F := rwF) (gR_up (V := rwV) (F := rwF) (gR_up (V := rwV) (F := rwF) ⟨hok.1, hok.2⟩ 22 (hP.2.1 22)) 25 (hP.2.1 25)) 18 (hP.2.2 18)) 19 (hP.2.2 19)) 31 (hP.2.2 31)) 34 (hP.2.2 34)) 35 (hP.2.2 35)) 36 (hP.2.2 36)) 37 (hP.2.2 37)) 38 (hP.2.2 38)) 39 (hP.2.2 39)) 41 (hP.2.2 41))⟩
          exact g_iret hQ C hr hlocks hP hS dX10_advance_39 ⟨(-1), (5 : Int), (f 19), (f 34), (f 35), (f 36), (f 37), (f 38), (f 39), (f 41), (g 0), (g 2), (g 3), rfl, (by rw [show ((if (5 : Int) = 0 then (v 22) + 1 else (v 22)) : Int) = (v 22) from by first | rfl | omega | ((repeat' split) <;> omega)]), (by rw [show ((if (5 : Int) = 0 then lcF (f 18) (rkF (kvF (f 2) (f 3) (f 4) (fun r => (f 1) (r * 4)) (v 2) (gFd (f 20) (f 21) (f 22) (f 23) (f 24) (f 25) (f 26) (f 28) (f 29) (f 30) (f 15) (f 17) (v 23) (v 24) a2)) (f 5) (v 3) (v 4) (f 18) (v 21) (v 22)) (v 22) a1 (v 21) else (f 18)) : Int → Int) = (f 18) from by first | rfl | (rw [if_pos rfl, ← hcf]) | (rw [if_neg (by omega)]), show ((if (5 : Int) = 0 then gfill (f 31) 16 0 else (f 31)) : Int → Int) = (f 31) from by first | rfl | rw [if_pos (by omega)] | rw [if_neg (by omega)]]), rfl, (by first | (rw [if_pos (by omega)]) | (rw [if_neg (by omega), ← hcn]; exact han.trans hlc)), (by first | omega | ((repeat' split) <;> omega)), (by first | omega | ((repeat' split) <;> omega))⟩
      · have vz_8 := gif0 w_8 c_9
        clear w_8
        refine lv_aload_n hx hb dX10_advance_18 rfl (lv_at hl 0 rfl) ?_
        refine lv_iconst (v := iI 2) hx hb dX10_advance_19 rfl ?_
        refine g_cv (As := [.int (iI 2)]) (rest := []) (n := 1) C hml (c_X10_refuse l D k A ad hD (va_up (va_up v 22 (v 22)) 25 (v 25)) (va_up (va_up (va_up (va_up (va_up (va_up (va_up (va_up (va_up (va_up f 18 (f 18)) 19 (f 19)) 31 (f 31)) 34 (f 34)) 35 (f 35)) 36 (f 36)) 37 (f 37)) 38 (f 38)) 39 (f 39)) 41 (f 41)) (va_up (va_up (va_up g 0 (g 0)) 2 (g 2)) 3 (g 3)) 2 (by decide) (show 0 ≤ (2 : Int) ∧ (2 : Int) ≤ 10 from by omega)) mM_X10_88 mI_X10_refuse mE_X10_refuse mN_X10 mC_X10_refuse (by decide +kernel) 0 (ci := 10) rfl rfl hP hS (fun _ h => h) ⟨Nat.le_of_ble_eq_true rfl, Nat.le_of_ble_eq_true rfl⟩ ⟨Nat.zero_le _, Nat.zero_le _⟩ hl.1 rfl rfl (Nat.le_of_ble_eq_true rfl) dX10_advance_20 (fun r_21 v_21 f_21 g_21 H locs hq_21 hP _ hS => ?_)
        obtain ⟨rfl, rfl, rfl, rfl⟩ := hq_21
        show W p l e (gRm 5 133) s m args below meth c _ _ 0 0 Q (F0 m 23 ls [.int (iI (-1))])
        have hP : gWd D (rwT k ad) (va_up (va_up v 22 (v 22)) 25 (2 : Int)) (va_up (va_up (va_up (va_up (va_up (va_up (va_up (va_up (va_up (va_up f 18 (f 18)) 19 (f 19)) 31 (f 31)) 34 (f 34)) 35 (f 35)) 36 (f 36)) 37 (f 37)) 38 (f 38)) 39 (f 39)) 41 (f 41)) (va_up (va_up (va_up g 0 (g 0)) 2 (g 2)) 3 (g 3)) H := ⟨hP.1, (gF_up (V := rwV) (F := rwF) (gF_up (V := rwV) (F := rwF) (gF_up (V := rwV) (F := rwF) (gF_up (V := rwV) (F := rwF) (gF_up (V := rwV) (F := rwF) (gF_up (V := rwV) (F := rwF) (gF_up (V := rwV) (F := rwF) (gF_up (V := rwV) (F := rwF) (gF_up (V := rwV) (F := rwF) (gF_up (V := rwV) (F := rwF) (gR_up (V := rwV) (F := rwF) (gR_up (V := rwV) (F := rwF) ⟨hok.1, hok.2⟩ 22 (hP.2.1 22)) 25 (hP.2.1 25)) 18 (hP.2.2 18)) 19 (hP.2.2 19)) 31 (hP.2.2 31)) 34 (hP.2.2 34)) 35 (hP.2.2 35)) 36 (hP.2.2 36)) 37 (hP.2.2 37)) 38 (hP.2.2 38)) 39 (hP.2.2 39)) 41 (hP.2.2 41))⟩
        exact g_iret hQ C hr hlocks hP hS dX10_advance_23 ⟨(-1), (2 : Int), (f 19), (f 34), (f 35), (f 36), (f 37), (f 38), (f 39), (f 41), (g 0), (g 2), (g 3), rfl, (by rw [show ((if (2 : Int) = 0 then (v 22) + 1 else (v 22)) : Int) = (v 22) from by first | rfl | omega | ((repeat' split) <;> omega)]), (by rw [show ((if (2 : Int) = 0 then lcF (f 18) (rkF (kvF (f 2) (f 3) (f 4) (fun r => (f 1) (r * 4)) (v 2) (gFd (f 20) (f 21) (f 22) (f 23) (f 24) (f 25) (f 26) (f 28) (f 29) (f 30) (f 15) (f 17) (v 23) (v 24) a2)) (f 5) (v 3) (v 4) (f 18) (v 21) (v 22)) (v 22) a1 (v 21) else (f 18)) : Int → Int) = (f 18) from by first | rfl | (rw [if_pos rfl, ← hcf]) | (rw [if_neg (by omega)]), show ((if (2 : Int) = 0 then gfill (f 31) 16 0 else (f 31)) : Int → Int) = (f 31) from by first | rfl | rw [if_pos (by omega)] | rw [if_neg (by omega)]]), rfl, (by first | (rw [if_pos (by omega)]) | (rw [if_neg (by omega), ← hcn]; exact han.trans hlc)), (by first | omega | ((repeat' split) <;> omega)), (by first | omega | ((repeat' split) <;> omega))⟩

set_option maxHeartbeats 4000000 in
set_option maxRecDepth 100000 in
theorem x_Ro_order (l : Launch) (D : va_G) (k : Nat → ClassId) (A : Nat → Prop) (ad : Nat → Nat) (hD : rwD A k ad) (v : gV) (f g : gF) (a1 : Int) (a2 : Int) (h_a1 : inR a1) (h_a2 : inR a2) (hs : shOk (v 1) (f 1)) : GM l D k A (rwT k ad) yX10_order cX10_order 3 (some .int) 5 133 [.ref (ad 0), .int (iI a1), .int (iI a2)] v f g (fun r v1 f1 g1 => ∃ (z : Int) (w25 : Int) (a34_ : Int → Int) (a35_ : Int → Int) (a36_ : Int → Int) (a37_ : Int → Int) (a38_ : Int → Int) (a39_ : Int → Int) (a41_ : Int → Int) (b0_ : Int → Int) (b2_ : Int → Int) (b3_ : Int → Int), r = some (.int (iI z)) ∧ (va_up v 25 w25) = v1 ∧ (va_up (va_up (va_up (va_up (va_up (va_up (va_up f 34 a34_) 35 a35_) 36 a36_) 37 a37_) 38 a38_) 39 a39_) 41 a41_) = f1 ∧ (va_up (va_up (va_up g 0 b0_) 2 b2_) 3 b3_) = g1 ∧ ((-1) ≤ z ∧ z ≤ 16) ∧ (w25 = (if ¬ ((0 ≤ a1 ∧ a1 < (v 1)) ∧ 0 ≤ a2 ∧ a2 < cn (pIn (f 18) a1) (v 21).toNat) then 1 else 0))) := by
  refine GM.of (by decide) (Nat.le_of_ble_eq_true rfl) ?_
  intro p e s m args below meth c Q ls hQ C hml hr hlocks hP hl
  have hx := C.1
  have hb := C.2.1
  have hok := hP.2
  have hS : va_S A s.heap s.heap [] := va_S.rf
  have hl : lv_has ls 3 [(0, .ref (ad 0)), (1, .int (iI a1)), (2, .int (iI a2))] := hl
  have hP : gWd D (rwT k ad) (va_up v 25 (v 25)) (va_up (va_up (va_up (va_up (va_up (va_up (va_up f 34 (f 34)) 35 (f 35)) 36 (f 36)) 37 (f 37)) 38 (f 38)) 39 (f 39)) 41 (f 41)) (va_up (va_up (va_up g 0 (g 0)) 2 (g 2)) 3 (g 3)) s.heap := by rw [va_id, va_id, va_id, va_id, va_id, va_id, va_id, va_id, va_id, va_id, va_id]; exact hP
  have r_1 : 0 ≤ (v 1) ∧ (v 1) ≤ 4 := hok.1 1
  have r_2 : 0 ≤ (v 21) ∧ (v 21) ≤ 16 := hok.1 21
  refine lv_aload_n hx hb dX10_order_0 rfl (lv_at hl 0 rfl) ?_
  refine rwG_laws C hP mF_X10_16 dX10_order_1 ?_
  refine lv_iload_n hx hb dX10_order_4 rfl (lv_at hl 1 rfl) ?_
  refine g_cv (As := [.int (iI a1)]) (rest := []) (n := 1) C hml (c_X4_hasRound l D k A ad hD (va_up v 25 (v 25)) (va_up (va_up (va_up (va_up (va_up (va_up (va_up f 34 (f 34)) 35 (f 35)) 36 (f 36)) 37 (f 37)) 38 (f 38)) 39 (f 39)) 41 (f 41)) (va_up (va_up (va_up g 0 (g 0)) 2 (g 2)) 3 (g 3)) a1 (by omega)) mM_X10_164 mI_X4_hasRound mE_X4_hasRound mN_X4 mC_X4_hasRound (by decide +kernel) 2 (ci := 4) rfl rfl hP hS (fun _ h => h) ⟨Nat.le_of_ble_eq_true rfl, Nat.le_of_ble_eq_true rfl⟩ ⟨Nat.zero_le _, Nat.zero_le _⟩ hl.1 rfl rfl (Nat.le_of_ble_eq_true rfl) dX10_order_5 (fun r_3 v_3 f_3 g_3 H locs hq_3 hP _ hS => ?_)
  obtain ⟨z_3, rfl, rfl, rfl, rfl, p0_3⟩ := hq_3
  show W p l e (gRm 5 133) s m args below meth c _ _ 0 0 Q (F0 m 8 ls [.int (iI z_3)])
  replace p0_3 : z_3 = (if 0 ≤ a1 ∧ a1 < (v 1) then 1 else 0) := p0_3
  have w_3 := gif (P := 0 ≤ a1 ∧ a1 < (v 1)) p0_3
  clear p0_3
  have hz_3 : inR z_3 := (by first | omega | (rw [p0_3]; split <;> omega))
  refine gi_zeq (tgt := 27) hx hb dX10_order_8 (by decide) (by omega) (fun c_4 => ?_) (fun c_4 => ?_)
  · have vz_3 := gif0 w_3 c_4
    clear w_3
    refine lv_aload_n hx hb dX10_order_27 rfl (lv_at hl 0 rfl) ?_
    refine lv_iconst (v := iI 1) hx hb dX10_order_28 rfl ?_
    refine g_cv (As := [.int (iI 1)]) (rest := []) (n := 1) C hml (c_X10_refuse l D k A ad hD (va_up v 25 (v 25)) (va_up (va_up (va_up (va_up (va_up (va_up (va_up f 34 (f 34)) 35 (f 35)) 36 (f 36)) 37 (f 37)) 38 (f 38)) 39 (f 39)) 41 (f 41)) (va_up (va_up (va_up g 0 (g 0)) 2 (g 2)) 3 (g 3)) 1 (by decide) (show 0 ≤ (1 : Int) ∧ (1 : Int) ≤ 10 from by omega)) mM_X10_88 mI_X10_refuse mE_X10_refuse mN_X10 mC_X10_refuse (by decide +kernel) 0 (ci := 10) rfl rfl hP hS (fun _ h => h) ⟨Nat.le_of_ble_eq_true rfl, Nat.le_of_ble_eq_true rfl⟩ ⟨Nat.zero_le _, Nat.zero_le _⟩ hl.1 rfl rfl (Nat.le_of_ble_eq_true rfl) dX10_order_29 (fun r_5 v_5 f_5 g_5 H locs hq_5 hP _ hS => ?_)
    obtain ⟨rfl, rfl, rfl, rfl⟩ := hq_5
    show W p l e (gRm 5 133) s m args below meth c _ _ 0 0 Q (F0 m 32 ls [.int (iI (-1))])
    have hP : gWd D (rwT k ad) (va_up v 25 (1 : Int)) (va_up (va_up (va_up (va_up (va_up (va_up (va_up f 34 (f 34)) 35 (f 35)) 36 (f 36)) 37 (f 37)) 38 (f 38)) 39 (f 39)) 41 (f 41)) (va_up (va_up (va_up g 0 (g 0)) 2 (g 2)) 3 (g 3)) H := ⟨hP.1, (gF_up (V := rwV) (F := rwF) (gF_up (V := rwV) (F := rwF) (gF_up (V := rwV) (F := rwF) (gF_up (V := rwV) (F := rwF) (gF_up (V := rwV) (F := rwF) (gF_up (V := rwV) (F := rwF) (gF_up (V := rwV) (F := rwF) (gR_up (V := rwV) (F := rwF) ⟨hok.1, hok.2⟩ 25 (hP.2.1 25)) 34 (hP.2.2 34)) 35 (hP.2.2 35)) 36 (hP.2.2 36)) 37 (hP.2.2 37)) 38 (hP.2.2 38)) 39 (hP.2.2 39)) 41 (hP.2.2 41))⟩
    exact g_iret hQ C hr hlocks hP hS dX10_order_32 ⟨(-1), (1 : Int), (f 34), (f 35), (f 36), (f 37), (f 38), (f 39), (f 41), (g 0), (g 2), (g 3), rfl, rfl, rfl, rfl, (by first | omega | ((repeat' split) <;> omega)), (by first | omega | ((repeat' split) <;> omega))⟩
  · have vz_3 := gif1 w_3 c_4
    clear w_3
    refine lv_iload_n hx hb dX10_order_11 rfl (lv_at hl 2 rfl) ?_
    refine gi_zlt (tgt := 27) hx hb dX10_order_12 (by decide) (by omega) (fun c_6 => ?_) (fun c_6 => ?_)
    · refine lv_aload_n hx hb dX10_order_27 rfl (lv_at hl 0 rfl) ?_
      refine lv_iconst (v := iI 1) hx hb dX10_order_28 rfl ?_
      refine g_cv (As := [.int (iI 1)]) (rest := []) (n := 1) C hml (c_X10_refuse l D k A ad hD (va_up v 25 (v 25)) (va_up (va_up (va_up (va_up (va_up (va_up (va_up f 34 (f 34)) 35 (f 35)) 36 (f 36)) 37 (f 37)) 38 (f 38)) 39 (f 39)) 41 (f 41)) (va_up (va_up (va_up g 0 (g 0)) 2 (g 2)) 3 (g 3)) 1 (by decide) (show 0 ≤ (1 : Int) ∧ (1 : Int) ≤ 10 from by omega)) mM_X10_88 mI_X10_refuse mE_X10_refuse mN_X10 mC_X10_refuse (by decide +kernel) 0 (ci := 10) rfl rfl hP hS (fun _ h => h) ⟨Nat.le_of_ble_eq_true rfl, Nat.le_of_ble_eq_true rfl⟩ ⟨Nat.zero_le _, Nat.zero_le _⟩ hl.1 rfl rfl (Nat.le_of_ble_eq_true rfl) dX10_order_29 (fun r_7 v_7 f_7 g_7 H locs hq_7 hP _ hS => ?_)
      obtain ⟨rfl, rfl, rfl, rfl⟩ := hq_7
      show W p l e (gRm 5 133) s m args below meth c _ _ 0 0 Q (F0 m 32 ls [.int (iI (-1))])
      have hP : gWd D (rwT k ad) (va_up v 25 (1 : Int)) (va_up (va_up (va_up (va_up (va_up (va_up (va_up f 34 (f 34)) 35 (f 35)) 36 (f 36)) 37 (f 37)) 38 (f 38)) 39 (f 39)) 41 (f 41)) (va_up (va_up (va_up g 0 (g 0)) 2 (g 2)) 3 (g 3)) H := ⟨hP.1, (gF_up (V := rwV) (F := rwF) (gF_up (V := rwV) (F := rwF) (gF_up (V := rwV) (F := rwF) (gF_up (V := rwV) (F := rwF) (gF_up (V := rwV) (F := rwF) (gF_up (V := rwV) (F := rwF) (gF_up (V := rwV) (F := rwF) (gR_up (V := rwV) (F := rwF) ⟨hok.1, hok.2⟩ 25 (hP.2.1 25)) 34 (hP.2.2 34)) 35 (hP.2.2 35)) 36 (hP.2.2 36)) 37 (hP.2.2 37)) 38 (hP.2.2 38)) 39 (hP.2.2 39)) 41 (hP.2.2 41))⟩
      exact g_iret hQ C hr hlocks hP hS dX10_order_32 ⟨(-1), (1 : Int), (f 34), (f 35), (f 36), (f 37), (f 38), (f 39), (f 41), (g 0), (g 2), (g 3), rfl, rfl, rfl, rfl, (by first | omega | ((repeat' split) <;> omega)), (by first | omega | ((repeat' split) <;> omega))⟩
    · refine lv_iload_n hx hb dX10_order_15 rfl (lv_at hl 2 rfl) ?_
      refine lv_aload_n hx hb dX10_order_16 rfl (lv_at hl 0 rfl) ?_
      refine rwG_field C hP mF_X10_37 dX10_order_17 ?_
      refine lv_iload_n hx hb dX10_order_20 rfl (lv_at hl 1 rfl) ?_
      refine g_cv (As := [.int (iI a1)]) (rest := [.int (iI a2)]) (n := 1) C hml (x_Fi_manyIn l D k A ad hD (va_up v 25 (v 25)) (va_up (va_up (va_up (va_up (va_up (va_up (va_up f 34 (f 34)) 35 (f 35)) 36 (f 36)) 37 (f 37)) 38 (f 38)) 39 (f 39)) 41 (f 41)) (va_up (va_up (va_up g 0 (g 0)) 2 (g 2)) 3 (g 3)) a1 (by omega)) mM_X10_167 mI_X2_manyIn mE_X2_manyIn mN_X2 mC_X2_manyIn (by decide +kernel) 27 (ci := 2) rfl rfl hP hS (fun _ h => h) ⟨Nat.le_of_ble_eq_true rfl, Nat.le_of_ble_eq_true rfl⟩ ⟨Nat.zero_le _, Nat.zero_le _⟩ hl.1 rfl rfl (Nat.le_of_ble_eq_true rfl) dX10_order_21 (fun r_8 v_8 f_8 g_8 H locs hq_8 hP _ hS => ?_)
      obtain ⟨z_8, rfl, rfl, rfl, rfl, p0_8, p1_8⟩ := hq_8
      show W p l e (gRm 5 133) s m args below meth c _ _ 0 0 Q (F0 m 24 ls [.int (iI z_8), .int (iI a2)])
      replace p0_8 : z_8 = (cn (pIn (f 18) a1) (v 21).toNat) := p0_8
      replace p1_8 : 0 ≤ z_8 ∧ z_8 ≤ 16 := p1_8
      have hz_8 : inR z_8 := (by first | omega | (rw [p0_8]; split <;> omega))
      refine gi_clt (tgt := 33) hx hb dX10_order_24 (by decide) (by omega) (by omega) (fun c_9 => ?_) (fun c_9 => ?_)
      · refine lv_iload_n hx hb dX10_order_33 rfl (lv_at hl 1 rfl) ?_
        refine gi_zne (tgt := 43) hx hb dX10_order_34 (by decide) (by omega) (fun c_10 => ?_) (fun c_10 => ?_)
        · refine lv_aload_n hx hb dX10_order_43 rfl (lv_at hl 0 rfl) ?_
          refine rwG_results C hP mF_X10_67 dX10_order_44 ?_
          refine lv_iload_n hx hb dX10_order_47 rfl (lv_at hl 1 rfl) ?_
          refine lv_iconst (v := iI 1) hx hb dX10_order_48 rfl ?_
          refine gi_sub (z := (a1 - 1)) hx hb dX10_order_49 rfl ?_
          refine lv_aload_n hx hb dX10_order_50 rfl (lv_at hl 0 rfl) ?_
          refine rwG_field C hP mF_X10_37 dX10_order_51 ?_
          refine lv_iload_n hx hb dX10_order_54 rfl (lv_at hl 1 rfl) ?_
          refine g_cv (As := [.int (iI a1)]) (rest := [.int (iI (a1 - 1)), .ref (ad 47)]) (n := 1) C hml (c_X2_dayOf l D k A ad hD (va_up v 25 (v 25)) (va_up (va_up (va_up (va_up (va_up (va_up (va_up f 34 (f 34)) 35 (f 35)) 36 (f 36)) 37 (f 37)) 38 (f 38)) 39 (f 39)) 41 (f 41)) (va_up (va_up (va_up g 0 (g 0)) 2 (g 2)) 3 (g 3)) a1 (by omega) (show 0 ≤ a1 ∧ a1 ≤ 3 from by omega)) mM_X10_294 mI_X2_dayOf mE_X2_dayOf mN_X2 mC_X2_dayOf (by decide +kernel) 27 (ci := 2) rfl rfl hP hS (fun _ h => h) ⟨Nat.le_of_ble_eq_true rfl, Nat.le_of_ble_eq_true rfl⟩ ⟨Nat.zero_le _, Nat.zero_le _⟩ hl.1 rfl rfl (Nat.le_of_ble_eq_true rfl) dX10_order_55 (fun r_11 v_11 f_11 g_11 H locs hq_11 hP _ hS => ?_)
          obtain ⟨z_11, rfl, rfl, rfl, rfl, p0_11, p1_11⟩ := hq_11
          show W p l e (gRm 5 133) s m args below meth c _ _ 0 0 Q (F0 m 58 ls [.int (iI z_11), .int (iI (a1 - 1)), .ref (ad 47)])
          replace p0_11 : z_11 = ((f 19) a1) := p0_11
          replace p1_11 : 0 ≤ z_11 ∧ z_11 ≤ 999 := p1_11
          have hz_11 : inR z_11 := (by first | omega | (rw [p0_11]; split <;> omega))
          refine g_cv (As := [.int (iI (a1 - 1)), .int (iI z_11)]) (rest := []) (n := 2) C hml (x_Re_workRanks l D k A ad hD (va_up v 25 (v 25)) (va_up (va_up (va_up (va_up (va_up (va_up (va_up f 34 (f 34)) 35 (f 35)) 36 (f 36)) 37 (f 37)) 38 (f 38)) 39 (f 39)) 41 (f 41)) (va_up (va_up (va_up g 0 (g 0)) 2 (g 2)) 3 (g 3)) (a1 - 1) z_11 (by omega) (by omega) (show shOk (v 1) (f 1) from hs) (show 0 ≤ (a1 - 1) ∧ (a1 - 1) ≤ 3 from by omega) (show (a1 - 1) < (v 1) from by omega)) mM_X10_281 mI_X5_workRanks mE_X5_workRanks mN_X5 mC_X5_workRanks (by decide +kernel) 47 (ci := 5) rfl rfl hP hS (fun _ h => h) ⟨Nat.le_of_ble_eq_true rfl, Nat.le_of_ble_eq_true rfl⟩ ⟨Nat.zero_le _, Nat.zero_le _⟩ hl.1 rfl rfl (Nat.le_of_ble_eq_true rfl) dX10_order_58 (fun r_12 v_12 f_12 g_12 H locs hq_12 hP _ hS => ?_)
          obtain ⟨a34_12, a35_12, a36_12, a37_12, a38_12, a39_12, a41_12, b0_12, b2_12, b3_12, rfl, rfl, rfl, rfl, p0_12⟩ := hq_12
          show W p l e (gRm 5 133) s m args below meth c _ _ 0 0 Q (F0 m 61 ls [])
          have hP : gWd D (rwT k ad) (va_up v 25 (v 25)) (va_up (va_up (va_up (va_up (va_up (va_up (va_up f 34 a34_12) 35 a35_12) 36 a36_12) 37 a37_12) 38 a38_12) 39 a39_12) 41 a41_12) (va_up (va_up (va_up g 0 b0_12) 2 b2_12) 3 b3_12) H := ⟨hP.1, (gF_up (V := rwV) (F := rwF) (gF_up (V := rwV) (F := rwF) (gF_up (V := rwV) (F := rwF) (gF_up (V := rwV) (F := rwF) (gF_up (V := rwV) (F := rwF) (gF_up (V := rwV) (F := rwF) (gF_up (V := rwV) (F := rwF) (gR_up (V := rwV) (F := rwF) ⟨hok.1, hok.2⟩ 25 (hP.2.1 25)) 34 (hP.2.2 34)) 35 (hP.2.2 35)) 36 (hP.2.2 36)) 37 (hP.2.2 37)) 38 (hP.2.2 38)) 39 (hP.2.2 39)) 41 (hP.2.2 41))⟩
          replace p0_12 : ∀ c, 0 ≤ c → c < (v 21) → a41_12 c = rkF (kvF (f 2) (f 3) (f 4) (fun r => (f 1) (r * 4)) (v 2) (gFd (f 20) (f 21) (f 22) (f 23) (f 24) (f 25) (f 26) (f 28) (f 29) (f 30) (f 15) (f 17) (v 23) (v 24) z_11)) (f 5) (v 3) (v 4) (f 18) (v 21) (a1 - 1) c := p0_12
          refine lv_aload_n hx hb dX10_order_61 rfl (lv_at hl 0 rfl) ?_
          refine lv_aload_n hx hb dX10_order_62 rfl (lv_at hl 0 rfl) ?_
          refine rwG_results C hP mF_X10_67 dX10_order_63 ?_
          refine lv_iload_n hx hb dX10_order_66 rfl (lv_at hl 1 rfl) ?_
          refine lv_iload_n hx hb dX10_order_67 rfl (lv_at hl 2 rfl) ?_
          refine g_cv (As := [.int (iI a1), .int (iI a2)]) (rest := [.ref (ad 0)]) (n := 2) C hml (c_X5_starter l D k A ad hD (va_up v 25 (v 25)) (va_up (va_up (va_up (va_up (va_up (va_up (va_up f 34 a34_12) 35 a35_12) 36 a36_12) 37 a37_12) 38 a38_12) 39 a39_12) 41 a41_12) (va_up (va_up (va_up g 0 b0_12) 2 b2_12) 3 b3_12) a1 a2 (by omega) (by omega) (show 0 ≤ a1 ∧ a1 ≤ 3 from by omega)) mM_X10_297 mI_X5_starter mE_X5_starter mN_X5 mC_X5_starter (by decide +kernel) 47 (ci := 5) rfl rfl hP hS (fun _ h => h) ⟨Nat.le_of_ble_eq_true rfl, Nat.le_of_ble_eq_true rfl⟩ ⟨Nat.zero_le _, Nat.zero_le _⟩ hl.1 rfl rfl (Nat.le_of_ble_eq_true rfl) dX10_order_68 (fun r_13 v_13 f_13 g_13 H locs hq_13 hP _ hS => ?_)
          obtain ⟨z_13, rfl, rfl, rfl, rfl, p0_13⟩ := hq_13
          show W p l e (gRm 5 133) s m args below meth c _ _ 0 0 Q (F0 m 71 ls [.int (iI z_13), .ref (ad 0)])
          replace p0_13 : (-1) ≤ z_13 ∧ z_13 ≤ 15 := p0_13
          refine g_cv (As := [.int (iI z_13)]) (rest := []) (n := 1) C hml (c_X10_answer l D k A ad hD (va_up v 25 (v 25)) (va_up (va_up (va_up (va_up (va_up (va_up (va_up f 34 a34_12) 35 a35_12) 36 a36_12) 37 a37_12) 38 a38_12) 39 a39_12) 41 a41_12) (va_up (va_up (va_up g 0 b0_12) 2 b2_12) 3 b3_12) z_13 (by omega)) mM_X10_120 mI_X10_answer mE_X10_answer mN_X10 mC_X10_answer (by decide +kernel) 0 (ci := 10) rfl rfl hP hS (fun _ h => h) ⟨Nat.le_of_ble_eq_true rfl, Nat.le_of_ble_eq_true rfl⟩ ⟨Nat.zero_le _, Nat.zero_le _⟩ hl.1 rfl rfl (Nat.le_of_ble_eq_true rfl) dX10_order_71 (fun r_14 v_14 f_14 g_14 H locs hq_14 hP _ hS => ?_)
          obtain ⟨z_14, rfl, rfl, rfl, rfl, p0_14⟩ := hq_14
          show W p l e (gRm 5 133) s m args below meth c _ _ 0 0 Q (F0 m 74 ls [.int (iI z_14)])
          have hP : gWd D (rwT k ad) (va_up v 25 0) (va_up (va_up (va_up (va_up (va_up (va_up (va_up f 34 a34_12) 35 a35_12) 36 a36_12) 37 a37_12) 38 a38_12) 39 a39_12) 41 a41_12) (va_up (va_up (va_up g 0 b0_12) 2 b2_12) 3 b3_12) H := ⟨hP.1, (gF_up (V := rwV) (F := rwF) (gF_up (V := rwV) (F := rwF) (gF_up (V := rwV) (F := rwF) (gF_up (V := rwV) (F := rwF) (gF_up (V := rwV) (F := rwF) (gF_up (V := rwV) (F := rwF) (gF_up (V := rwV) (F := rwF) (gR_up (V := rwV) (F := rwF) ⟨hok.1, hok.2⟩ 25 (hP.2.1 25)) 34 (hP.2.2 34)) 35 (hP.2.2 35)) 36 (hP.2.2 36)) 37 (hP.2.2 37)) 38 (hP.2.2 38)) 39 (hP.2.2 39)) 41 (hP.2.2 41))⟩
          replace p0_14 : z_14 = z_13 := p0_14
          have hz_14 : inR z_14 := (by first | omega | (rw [p0_14]; split <;> omega))
          exact g_iret hQ C hr hlocks hP hS dX10_order_74 ⟨z_14, 0, a34_12, a35_12, a36_12, a37_12, a38_12, a39_12, a41_12, b0_12, b2_12, b3_12, rfl, rfl, rfl, rfl, (by first | omega | ((repeat' split) <;> omega)), (by first | omega | ((repeat' split) <;> omega))⟩
        · refine lv_aload_n hx hb dX10_order_37 rfl (lv_at hl 0 rfl) ?_
          refine lv_iload_n hx hb dX10_order_38 rfl (lv_at hl 2 rfl) ?_
          refine g_cv (As := [.int (iI a2)]) (rest := []) (n := 1) C hml (c_X10_answer l D k A ad hD (va_up v 25 (v 25)) (va_up (va_up (va_up (va_up (va_up (va_up (va_up f 34 (f 34)) 35 (f 35)) 36 (f 36)) 37 (f 37)) 38 (f 38)) 39 (f 39)) 41 (f 41)) (va_up (va_up (va_up g 0 (g 0)) 2 (g 2)) 3 (g 3)) a2 (by omega)) mM_X10_120 mI_X10_answer mE_X10_answer mN_X10 mC_X10_answer (by decide +kernel) 0 (ci := 10) rfl rfl hP hS (fun _ h => h) ⟨Nat.le_of_ble_eq_true rfl, Nat.le_of_ble_eq_true rfl⟩ ⟨Nat.zero_le _, Nat.zero_le _⟩ hl.1 rfl rfl (Nat.le_of_ble_eq_true rfl) dX10_order_39 (fun r_15 v_15 f_15 g_15 H locs hq_15 hP _ hS => ?_)
          obtain ⟨z_15, rfl, rfl, rfl, rfl, p0_15⟩ := hq_15
          show W p l e (gRm 5 133) s m args below meth c _ _ 0 0 Q (F0 m 42 ls [.int (iI z_15)])
          have hP : gWd D (rwT k ad) (va_up v 25 0) (va_up (va_up (va_up (va_up (va_up (va_up (va_up f 34 (f 34)) 35 (f 35)) 36 (f 36)) 37 (f 37)) 38 (f 38)) 39 (f 39)) 41 (f 41)) (va_up (va_up (va_up g 0 (g 0)) 2 (g 2)) 3 (g 3)) H := ⟨hP.1, (gF_up (V := rwV) (F := rwF) (gF_up (V := rwV) (F := rwF) (gF_up (V := rwV) (F := rwF) (gF_up (V := rwV) (F := rwF) (gF_up (V := rwV) (F := rwF) (gF_up (V := rwV) (F := rwF) (gF_up (V := rwV) (F := rwF) (gR_up (V := rwV) (F := rwF) ⟨hok.1, hok.2⟩ 25 (hP.2.1 25)) 34 (hP.2.2 34)) 35 (hP.2.2 35)) 36 (hP.2.2 36)) 37 (hP.2.2 37)) 38 (hP.2.2 38)) 39 (hP.2.2 39)) 41 (hP.2.2 41))⟩
          replace p0_15 : z_15 = a2 := p0_15
          have hz_15 : inR z_15 := (by first | omega | (rw [p0_15]; split <;> omega))
          exact g_iret hQ C hr hlocks hP hS dX10_order_42 ⟨z_15, 0, (f 34), (f 35), (f 36), (f 37), (f 38), (f 39), (f 41), (g 0), (g 2), (g 3), rfl, rfl, rfl, rfl, (by first | omega | ((repeat' split) <;> omega)), (by first | omega | ((repeat' split) <;> omega))⟩
      · refine lv_aload_n hx hb dX10_order_27 rfl (lv_at hl 0 rfl) ?_
        refine lv_iconst (v := iI 1) hx hb dX10_order_28 rfl ?_
        refine g_cv (As := [.int (iI 1)]) (rest := []) (n := 1) C hml (c_X10_refuse l D k A ad hD (va_up v 25 (v 25)) (va_up (va_up (va_up (va_up (va_up (va_up (va_up f 34 (f 34)) 35 (f 35)) 36 (f 36)) 37 (f 37)) 38 (f 38)) 39 (f 39)) 41 (f 41)) (va_up (va_up (va_up g 0 (g 0)) 2 (g 2)) 3 (g 3)) 1 (by decide) (show 0 ≤ (1 : Int) ∧ (1 : Int) ≤ 10 from by omega)) mM_X10_88 mI_X10_refuse mE_X10_refuse mN_X10 mC_X10_refuse (by decide +kernel) 0 (ci := 10) rfl rfl hP hS (fun _ h => h) ⟨Nat.le_of_ble_eq_true rfl, Nat.le_of_ble_eq_true rfl⟩ ⟨Nat.zero_le _, Nat.zero_le _⟩ hl.1 rfl rfl (Nat.le_of_ble_eq_true rfl) dX10_order_29 (fun r_16 v_16 f_16 g_16 H locs hq_16 hP _ hS => ?_)
        obtain ⟨rfl, rfl, rfl, rfl⟩ := hq_16
        show W p l e (gRm 5 133) s m args below meth c _ _ 0 0 Q (F0 m 32 ls [.int (iI (-1))])
        have hP : gWd D (rwT k ad) (va_up v 25 (1 : Int)) (va_up (va_up (va_up (va_up (va_up (va_up (va_up f 34 (f 34)) 35 (f 35)) 36 (f 36)) 37 (f 37)) 38 (f 38)) 39 (f 39)) 41 (f 41)) (va_up (va_up (va_up g 0 (g 0)) 2 (g 2)) 3 (g 3)) H := ⟨hP.1, (gF_up (V := rwV) (F := rwF) (gF_up (V := rwV) (F := rwF) (gF_up (V := rwV) (F := rwF) (gF_up (V := rwV) (F := rwF) (gF_up (V := rwV) (F := rwF) (gF_up (V := rwV) (F := rwF) (gF_up (V := rwV) (F := rwF) (gR_up (V := rwV) (F := rwF) ⟨hok.1, hok.2⟩ 25 (hP.2.1 25)) 34 (hP.2.2 34)) 35 (hP.2.2 35)) 36 (hP.2.2 36)) 37 (hP.2.2 37)) 38 (hP.2.2 38)) 39 (hP.2.2 39)) 41 (hP.2.2 41))⟩
        exact g_iret hQ C hr hlocks hP hS dX10_order_32 ⟨(-1), (1 : Int), (f 34), (f 35), (f 36), (f 37), (f 38), (f 39), (f 41), (g 0), (g 2), (g 3), rfl, rfl, rfl, rfl, (by first | omega | ((repeat' split) <;> omega)), (by first | omega | ((repeat' split) <;> omega))⟩

set_option maxHeartbeats 4000000 in
set_option maxRecDepth 100000 in
theorem x_Ro_parts (l : Launch) (D : va_G) (k : Nat → ClassId) (A : Nat → Prop) (ad : Nat → Nat) (hD : rwD A k ad) (v : gV) (f g : gF) (a1 : Int) (a2 : Int) (a3 : Int) (h_a1 : inR a1) (h_a2 : inR a2) (h_a3 : inR a3) (hs : shOk (v 1) (f 1)) : GM l D k A (rwT k ad) yX10_parts cX10_parts 4 (some .int) 4 109 [.ref (ad 0), .int (iI a1), .int (iI a2), .int (iI a3)] v f g (fun r v1 f1 g1 => ∃ (z : Int) (w25 : Int) (a34_ : Int → Int) (a35_ : Int → Int) (a36_ : Int → Int) (a37_ : Int → Int) (a38_ : Int → Int) (a39_ : Int → Int) (a40_ : Int → Int) (b0_ : Int → Int), r = some (.int (iI z)) ∧ (va_up v 25 w25) = v1 ∧ (va_up (va_up (va_up (va_up (va_up (va_up (va_up f 34 a34_) 35 a35_) 36 a36_) 37 a37_) 38 a38_) 39 a39_) 40 a40_) = f1 ∧ (va_up g 0 b0_) = g1 ∧ (z = (if w25 ≠ 0 then (-1) else prC (f 18) a1 (tgU (fun c t => evR (f 2) (f 3) (gFd (f 20) (f 21) (f 22) (f 23) (f 24) (f 25) (f 26) (f 28) (f 29) (f 30) (f 15) (f 17) (v 23) (v 24) a3 a1 t c) (v 2)) a2) (v 21).toNat)) ∧ ((-1) ≤ z ∧ z ≤ 256) ∧ (w25 = (if ¬ (0 ≤ a1 ∧ a1 < (v 1)) then 1 else if a2 < 0 ∨ pw2 (shF (v 1) (f 1) a1 0) ≤ a2 ∨ ¬ (0 ≤ a3 ∧ a3 ≤ 999) then 2 else 0))) := by
  refine GM.of (by decide) (Nat.le_of_ble_eq_true rfl) ?_
  intro p e s m args below meth c Q ls hQ C hml hr hlocks hP hl
  have hx := C.1
  have hb := C.2.1
  have hok := hP.2
  have hS : va_S A s.heap s.heap [] := va_S.rf
  have hl : lv_has ls 4 [(0, .ref (ad 0)), (1, .int (iI a1)), (2, .int (iI a2)), (3, .int (iI a3))] := hl
  have hP : gWd D (rwT k ad) (va_up v 25 (v 25)) (va_up (va_up (va_up (va_up (va_up (va_up (va_up f 34 (f 34)) 35 (f 35)) 36 (f 36)) 37 (f 37)) 38 (f 38)) 39 (f 39)) 40 (f 40)) (va_up g 0 (g 0)) s.heap := by rw [va_id, va_id, va_id, va_id, va_id, va_id, va_id, va_id, va_id]; exact hP
  have r_1 : 0 ≤ (v 1) ∧ (v 1) ≤ 4 := hok.1 1
  have r_2 : 0 ≤ (v 21) ∧ (v 21) ≤ 16 := hok.1 21
  refine lv_aload_n hx hb dX10_parts_0 rfl (lv_at hl 0 rfl) ?_
  refine rwG_laws C hP mF_X10_16 dX10_parts_1 ?_
  refine lv_iload_n hx hb dX10_parts_4 rfl (lv_at hl 1 rfl) ?_
  refine g_cv (As := [.int (iI a1)]) (rest := []) (n := 1) C hml (c_X4_hasRound l D k A ad hD (va_up v 25 (v 25)) (va_up (va_up (va_up (va_up (va_up (va_up (va_up f 34 (f 34)) 35 (f 35)) 36 (f 36)) 37 (f 37)) 38 (f 38)) 39 (f 39)) 40 (f 40)) (va_up g 0 (g 0)) a1 (by omega)) mM_X10_164 mI_X4_hasRound mE_X4_hasRound mN_X4 mC_X4_hasRound (by decide +kernel) 2 (ci := 4) rfl rfl hP hS (fun _ h => h) ⟨Nat.le_of_ble_eq_true rfl, Nat.le_of_ble_eq_true rfl⟩ ⟨Nat.zero_le _, Nat.zero_le _⟩ hl.1 rfl rfl (Nat.le_of_ble_eq_true rfl) dX10_parts_5 (fun r_3 v_3 f_3 g_3 H locs hq_3 hP _ hS => ?_)
  obtain ⟨z_3, rfl, rfl, rfl, rfl, p0_3⟩ := hq_3
  show W p l e (gRm 4 109) s m args below meth c _ _ 0 0 Q (F0 m 8 ls [.int (iI z_3)])
  replace p0_3 : z_3 = (if 0 ≤ a1 ∧ a1 < (v 1) then 1 else 0) := p0_3
  have w_3 := gif (P := 0 ≤ a1 ∧ a1 < (v 1)) p0_3
  clear p0_3
  have hz_3 : inR z_3 := (by first | omega | (rw [p0_3]; split <;> omega))
  refine gi_zne (tgt := 17) hx hb dX10_parts_8 (by decide) (by omega) (fun c_4 => ?_) (fun c_4 => ?_)
  · have vz_3 := gif1 w_3 c_4
    clear w_3
    refine lv_iload_n hx hb dX10_parts_17 rfl (lv_at hl 2 rfl) ?_
    refine gi_zlt (tgt := 43) hx hb dX10_parts_18 (by decide) (by omega) (fun c_5 => ?_) (fun c_5 => ?_)
    · refine lv_aload_n hx hb dX10_parts_43 rfl (lv_at hl 0 rfl) ?_
      refine lv_iconst (v := iI 2) hx hb dX10_parts_44 rfl ?_
      refine g_cv (As := [.int (iI 2)]) (rest := []) (n := 1) C hml (c_X10_refuse l D k A ad hD (va_up v 25 (v 25)) (va_up (va_up (va_up (va_up (va_up (va_up (va_up f 34 (f 34)) 35 (f 35)) 36 (f 36)) 37 (f 37)) 38 (f 38)) 39 (f 39)) 40 (f 40)) (va_up g 0 (g 0)) 2 (by decide) (show 0 ≤ (2 : Int) ∧ (2 : Int) ≤ 10 from by omega)) mM_X10_88 mI_X10_refuse mE_X10_refuse mN_X10 mC_X10_refuse (by decide +kernel) 0 (ci := 10) rfl rfl hP hS (fun _ h => h) ⟨Nat.le_of_ble_eq_true rfl, Nat.le_of_ble_eq_true rfl⟩ ⟨Nat.zero_le _, Nat.zero_le _⟩ hl.1 rfl rfl (Nat.le_of_ble_eq_true rfl) dX10_parts_45 (fun r_6 v_6 f_6 g_6 H locs hq_6 hP _ hS => ?_)
      obtain ⟨rfl, rfl, rfl, rfl⟩ := hq_6
      show W p l e (gRm 4 109) s m args below meth c _ _ 0 0 Q (F0 m 48 ls [.int (iI (-1))])
      have hP : gWd D (rwT k ad) (va_up v 25 (2 : Int)) (va_up (va_up (va_up (va_up (va_up (va_up (va_up f 34 (f 34)) 35 (f 35)) 36 (f 36)) 37 (f 37)) 38 (f 38)) 39 (f 39)) 40 (f 40)) (va_up g 0 (g 0)) H := ⟨hP.1, (gF_up (V := rwV) (F := rwF) (gF_up (V := rwV) (F := rwF) (gF_up (V := rwV) (F := rwF) (gF_up (V := rwV) (F := rwF) (gF_up (V := rwV) (F := rwF) (gF_up (V := rwV) (F := rwF) (gF_up (V := rwV) (F := rwF) (gR_up (V := rwV) (F := rwF) ⟨hok.1, hok.2⟩ 25 (hP.2.1 25)) 34 (hP.2.2 34)) 35 (hP.2.2 35)) 36 (hP.2.2 36)) 37 (hP.2.2 37)) 38 (hP.2.2 38)) 39 (hP.2.2 39)) 40 (hP.2.2 40))⟩
      exact g_iret hQ C hr hlocks hP hS dX10_parts_48 ⟨(-1), (2 : Int), (f 34), (f 35), (f 36), (f 37), (f 38), (f 39), (f 40), (g 0), rfl, rfl, rfl, rfl, (by first | (rw [if_pos (by omega)]) | (rw [if_neg (by omega), han, hpp]; exact pr_go hpo (by omega) ⟨by omega, by omega⟩)), (by first | omega | ((repeat' split) <;> omega)), (by first | omega | ((repeat' split) <;> omega))⟩
    · refine lv_iload_n hx hb dX10_parts_21 rfl (lv_at hl 2 rfl) ?_
      refine lv_iconst (v := iI 1) hx hb dX10_parts_22 rfl ?_
      refine lv_aload_n hx hb dX10_parts_23 rfl (lv_at hl 0 rfl) ?_
      refine rwG_laws C hP mF_X10_16 dX10_parts_24 ?_
      refine lv_iload_n hx hb dX10_parts_27 rfl (lv_at hl 1 rfl) ?_
      refine lv_iconst (v := iI 0) hx hb dX10_parts_28 rfl ?_
      refine g_cv (As := [.int (iI a1), .int (iI 0)]) (rest := [.int (iI 1), .int (iI a2)]) (n := 2) C hml (c_X4_shapeOf l D k A ad hD (va_up v 25 (v 25)) (va_up (va_up (va_up (va_up (va_up (va_up (va_up f 34 (f 34)) 35 (f 35)) 36 (f 36)) 37 (f 37)) 38 (f 38)) 39 (f 39)) 40 (f 40)) (va_up g 0 (g 0)) a1 0 (by omega) (by decide)) mM_X10_170 mI_X4_shapeOf mE_X4_shapeOf mN_X4 mC_X4_shapeOf (by decide +kernel) 2 (ci := 4) rfl rfl hP hS (fun _ h => h) ⟨Nat.le_of_ble_eq_true rfl, Nat.le_of_ble_eq_true rfl⟩ ⟨Nat.zero_le _, Nat.zero_le _⟩ hl.1 rfl rfl (Nat.le_of_ble_eq_true rfl) dX10_parts_29 (fun r_7 v_7 f_7 g_7 H locs hq_7 hP _ hS => ?_)
      obtain ⟨z_7, rfl, rfl, rfl, rfl, p0_7, p1_7⟩ := hq_7
      show W p l e (gRm 4 109) s m args below meth c _ _ 0 0 Q (F0 m 32 ls [.int (iI z_7), .int (iI 1), .int (iI a2)])
      replace p0_7 : z_7 = (if (0 ≤ a1 ∧ a1 < (v 1)) ∧ 0 ≤ (0 : Int) ∧ (0 : Int) < 4 then (f 1) (a1 * 4 + (0 : Int)) else 0) := p0_7
      replace p1_7 : 0 ≤ z_7 ∧ z_7 ≤ 999999 := p1_7
      have hz_7 : inR z_7 := (by first | omega | (rw [p0_7]; split <;> omega))
      have hsh_7 : z_7 = shF (v 1) (f 1) a1 0 := shF_of p0_7
      have hsr_7 := shF_r (r := a1) hs
      clear p0_7
      have hRz : z_7 = (f 1) (a1 * 4) := by rw [hsh_7, sh_ro (by omega) (by omega)]
      have hRR := (hs a1 (by omega) (by omega)).1
      have hpe : pw2 (shF (v 1) (f 1) a1 0) = pw2 z_7 := by rw [hsh_7]
      have hpe3 : pw2 z_7 = pw2 ((f 1) (a1 * 4)) := by rw [hRz]
      have q_8 := pw2_r z_7
      refine gi_shl (z := (pw2 z_7)) hx hb dX10_parts_32 (gShlE z_7 (by omega)) ?_
      refine gi_cge (tgt := 43) hx hb dX10_parts_33 (by decide) (by omega) (by omega) (fun c_9 => ?_) (fun c_9 => ?_)
      · refine lv_aload_n hx hb dX10_parts_43 rfl (lv_at hl 0 rfl) ?_
        refine lv_iconst (v := iI 2) hx hb dX10_parts_44 rfl ?_
        refine g_cv (As := [.int (iI 2)]) (rest := []) (n := 1) C hml (c_X10_refuse l D k A ad hD (va_up v 25 (v 25)) (va_up (va_up (va_up (va_up (va_up (va_up (va_up f 34 (f 34)) 35 (f 35)) 36 (f 36)) 37 (f 37)) 38 (f 38)) 39 (f 39)) 40 (f 40)) (va_up g 0 (g 0)) 2 (by decide) (show 0 ≤ (2 : Int) ∧ (2 : Int) ≤ 10 from by omega)) mM_X10_88 mI_X10_refuse mE_X10_refuse mN_X10 mC_X10_refuse (by decide +kernel) 0 (ci := 10) rfl rfl hP hS (fun _ h => h) ⟨Nat.le_of_ble_eq_true rfl, Nat.le_of_ble_eq_true rfl⟩ ⟨Nat.zero_le _, Nat.zero_le _⟩ hl.1 rfl rfl (Nat.le_of_ble_eq_true rfl) dX10_parts_45 (fun r_10 v_10 f_10 g_10 H locs hq_10 hP _ hS => ?_)
        obtain ⟨rfl, rfl, rfl, rfl⟩ := hq_10
        show W p l e (gRm 4 109) s m args below meth c _ _ 0 0 Q (F0 m 48 ls [.int (iI (-1))])
        have hP : gWd D (rwT k ad) (va_up v 25 (2 : Int)) (va_up (va_up (va_up (va_up (va_up (va_up (va_up f 34 (f 34)) 35 (f 35)) 36 (f 36)) 37 (f 37)) 38 (f 38)) 39 (f 39)) 40 (f 40)) (va_up g 0 (g 0)) H := ⟨hP.1, (gF_up (V := rwV) (F := rwF) (gF_up (V := rwV) (F := rwF) (gF_up (V := rwV) (F := rwF) (gF_up (V := rwV) (F := rwF) (gF_up (V := rwV) (F := rwF) (gF_up (V := rwV) (F := rwF) (gF_up (V := rwV) (F := rwF) (gR_up (V := rwV) (F := rwF) ⟨hok.1, hok.2⟩ 25 (hP.2.1 25)) 34 (hP.2.2 34)) 35 (hP.2.2 35)) 36 (hP.2.2 36)) 37 (hP.2.2 37)) 38 (hP.2.2 38)) 39 (hP.2.2 39)) 40 (hP.2.2 40))⟩
        exact g_iret hQ C hr hlocks hP hS dX10_parts_48 ⟨(-1), (2 : Int), (f 34), (f 35), (f 36), (f 37), (f 38), (f 39), (f 40), (g 0), rfl, rfl, rfl, rfl, (by first | (rw [if_pos (by omega)]) | (rw [if_neg (by omega), han, hpp]; exact pr_go hpo (by omega) ⟨by omega, by omega⟩)), (by first | omega | ((repeat' split) <;> omega)), (by first | omega | ((repeat' split) <;> omega))⟩
      · refine lv_iload_n hx hb dX10_parts_36 rfl (lv_at hl 3 rfl) ?_
        refine g_cs (As := [.int (iI a3)]) (rest := []) (n := 1) C hml (c_X10_isDay l D k A ad hD (va_up v 25 (v 25)) (va_up (va_up (va_up (va_up (va_up (va_up (va_up f 34 (f 34)) 35 (f 35)) 36 (f 36)) 37 (f 37)) 38 (f 38)) 39 (f 39)) 40 (f 40)) (va_up g 0 (g 0)) a3 (by omega)) mM_X10_248 mS_X10_isDay mN_X10 mC_X10_isDay (by decide +kernel) hP hS (fun _ h => h) ⟨Nat.le_of_ble_eq_true rfl, Nat.le_of_ble_eq_true rfl⟩ ⟨Nat.zero_le _, Nat.zero_le _⟩ hl.1 rfl rfl (Nat.le_of_ble_eq_true rfl) dX10_parts_37 (fun r_11 v_11 f_11 g_11 H locs hq_11 hP _ hS => ?_)
        obtain ⟨z_11, rfl, rfl, rfl, rfl, p0_11⟩ := hq_11
        show W p l e (gRm 4 109) s m args below meth c _ _ 0 0 Q (F0 m 40 ls [.int (iI z_11)])
        replace p0_11 : z_11 = (if 0 ≤ a3 ∧ a3 ≤ 999 then 1 else 0) := p0_11
        have w_11 := gif (P := 0 ≤ a3 ∧ a3 ≤ 999) p0_11
        clear p0_11
        have hz_11 : inR z_11 := (by first | omega | (rw [p0_11]; split <;> omega))
        refine gi_zne (tgt := 49) hx hb dX10_parts_40 (by decide) (by omega) (fun c_12 => ?_) (fun c_12 => ?_)
        · have vz_11 := gif1 w_11 c_12
          clear w_11
          refine lv_aload_n hx hb dX10_parts_49 rfl (lv_at hl 0 rfl) ?_
          refine rwG_results C hP mF_X10_67 dX10_parts_50 ?_
          refine lv_iload_n hx hb dX10_parts_53 rfl (lv_at hl 1 rfl) ?_
          refine lv_iload_n hx hb dX10_parts_54 rfl (lv_at hl 3 rfl) ?_
          refine g_cv (As := [.int (iI a1), .int (iI a3)]) (rest := []) (n := 2) C hml (x_Re_workPoints l D k A ad hD (va_up v 25 (v 25)) (va_up (va_up (va_up (va_up (va_up (va_up (va_up f 34 (f 34)) 35 (f 35)) 36 (f 36)) 37 (f 37)) 38 (f 38)) 39 (f 39)) 40 (f 40)) (va_up g 0 (g 0)) a1 a3 (by omega) (by omega) (show shOk (v 1) (f 1) from hs) (show 0 ≤ a1 ∧ a1 ≤ 3 from by omega) (show a1 < (v 1) from by omega)) mM_X10_300 mI_X5_workPoints mE_X5_workPoints mN_X5 mC_X5_workPoints (by decide +kernel) 47 (ci := 5) rfl rfl hP hS (fun _ h => h) ⟨Nat.le_of_ble_eq_true rfl, Nat.le_of_ble_eq_true rfl⟩ ⟨Nat.zero_le _, Nat.zero_le _⟩ hl.1 rfl rfl (Nat.le_of_ble_eq_true rfl) dX10_parts_55 (fun r_13 v_13 f_13 g_13 H locs hq_13 hP _ hS => ?_)
          obtain ⟨a34_13, a35_13, a36_13, a37_13, a38_13, a39_13, a40_13, b0_13, rfl, rfl, rfl, rfl, p0_13⟩ := hq_13
          show W p l e (gRm 4 109) s m args below meth c _ _ 0 0 Q (F0 m 58 ls [])
          have hP : gWd D (rwT k ad) (va_up v 25 (v 25)) (va_up (va_up (va_up (va_up (va_up (va_up (va_up f 34 a34_13) 35 a35_13) 36 a36_13) 37 a37_13) 38 a38_13) 39 a39_13) 40 a40_13) (va_up g 0 b0_13) H := ⟨hP.1, (gF_up (V := rwV) (F := rwF) (gF_up (V := rwV) (F := rwF) (gF_up (V := rwV) (F := rwF) (gF_up (V := rwV) (F := rwF) (gF_up (V := rwV) (F := rwF) (gF_up (V := rwV) (F := rwF) (gF_up (V := rwV) (F := rwF) (gR_up (V := rwV) (F := rwF) ⟨hok.1, hok.2⟩ 25 (hP.2.1 25)) 34 (hP.2.2 34)) 35 (hP.2.2 35)) 36 (hP.2.2 36)) 37 (hP.2.2 37)) 38 (hP.2.2 38)) 39 (hP.2.2 39)) 40 (hP.2.2 40))⟩
          replace p0_13 : ptOk a40_13 (fun c t => evR (f 2) (f 3) (gFd (f 20) (f 21) (f 22) (f 23) (f 24) (f 25) (f 26) (f 28) (f 29) (f 30) (f 15) (f 17) (v 23) (v 24) a3 a1 t c) (v 2)) (v 21) ((f 1) (a1 * 4)) := p0_13
          have hpo := p0_13
          refine lv_aload_n hx hb dX10_parts_58 rfl (lv_at hl 0 rfl) ?_
          refine lv_aload_n hx hb dX10_parts_59 rfl (lv_at hl 0 rfl) ?_
          refine rwG_results C hP mF_X10_67 dX10_parts_60 ?_
          refine lv_iload_n hx hb dX10_parts_63 rfl (lv_at hl 1 rfl) ?_
          refine lv_iload_n hx hb dX10_parts_64 rfl (lv_at hl 2 rfl) ?_
          refine g_cv (As := [.int (iI a1), .int (iI a2)]) (rest := [.ref (ad 0)]) (n := 2) C hml (x_Re_pairsParted l D k A ad hD (va_up v 25 (v 25)) (va_up (va_up (va_up (va_up (va_up (va_up (va_up f 34 a34_13) 35 a35_13) 36 a36_13) 37 a37_13) 38 a38_13) 39 a39_13) 40 a40_13) (va_up g 0 b0_13) a1 a2 (by omega) (by omega) (show 0 ≤ a1 ∧ a1 ≤ 3 from by omega)) mM_X10_303 mI_X5_pairsParted mE_X5_pairsParted mN_X5 mC_X5_pairsParted (by decide +kernel) 47 (ci := 5) rfl rfl hP hS (fun _ h => h) ⟨Nat.le_of_ble_eq_true rfl, Nat.le_of_ble_eq_true rfl⟩ ⟨Nat.zero_le _, Nat.zero_le _⟩ hl.1 rfl rfl (Nat.le_of_ble_eq_true rfl) dX10_parts_65 (fun r_14 v_14 f_14 g_14 H locs hq_14 hP _ hS => ?_)
          obtain ⟨z_14, rfl, rfl, rfl, rfl, p0_14, p1_14⟩ := hq_14
          show W p l e (gRm 4 109) s m args below meth c _ _ 0 0 Q (F0 m 68 ls [.int (iI z_14), .ref (ad 0)])
          replace p0_14 : z_14 = (prC (f 18) a1 (tgU (fun c t => a40_13 (c * 5 + t)) a2) (v 21).toNat) := p0_14
          replace p1_14 : 0 ≤ z_14 ∧ z_14 ≤ 256 := p1_14
          have hz_14 : inR z_14 := (by first | omega | (rw [p0_14]; split <;> omega))
          have hpp := p0_14
          refine g_cv (As := [.int (iI z_14)]) (rest := []) (n := 1) C hml (c_X10_answer l D k A ad hD (va_up v 25 (v 25)) (va_up (va_up (va_up (va_up (va_up (va_up (va_up f 34 a34_13) 35 a35_13) 36 a36_13) 37 a37_13) 38 a38_13) 39 a39_13) 40 a40_13) (va_up g 0 b0_13) z_14 (by omega)) mM_X10_120 mI_X10_answer mE_X10_answer mN_X10 mC_X10_answer (by decide +kernel) 0 (ci := 10) rfl rfl hP hS (fun _ h => h) ⟨Nat.le_of_ble_eq_true rfl, Nat.le_of_ble_eq_true rfl⟩ ⟨Nat.zero_le _, Nat.zero_le _⟩ hl.1 rfl rfl (Nat.le_of_ble_eq_true rfl) dX10_parts_68 (fun r_15 v_15 f_15 g_15 H locs hq_15 hP _ hS => ?_)
          obtain ⟨z_15, rfl, rfl, rfl, rfl, p0_15⟩ := hq_15
          show W p l e (gRm 4 109) s m args below meth c _ _ 0 0 Q (F0 m 71 ls [.int (iI z_15)])
          have hP : gWd D (rwT k ad) (va_up v 25 0) (va_up (va_up (va_up (va_up (va_up (va_up (va_up f 34 a34_13) 35 a35_13) 36 a36_13) 37 a37_13) 38 a38_13) 39 a39_13) 40 a40_13) (va_up g 0 b0_13) H := ⟨hP.1, (gF_up (V := rwV) (F := rwF) (gF_up (V := rwV) (F := rwF) (gF_up (V := rwV) (F := rwF) (gF_up (V := rwV) (F := rwF) (gF_up (V := rwV) (F := rwF) (gF_up (V := rwV) (F := rwF) (gF_up (V := rwV) (F := rwF) (gR_up (V := rwV) (F := rwF) ⟨hok.1, hok.2⟩ 25 (hP.2.1 25)) 34 (hP.2.2 34)) 35 (hP.2.2 35)) 36 (hP.2.2 36)) 37 (hP.2.2 37)) 38 (hP.2.2 38)) 39 (hP.2.2 39)) 40 (hP.2.2 40))⟩
          replace p0_15 : z_15 = z_14 := p0_15
          have hz_15 : inR z_15 := (by first | omega | (rw [p0_15]; split <;> omega))
          have han := p0_15
          exact g_iret hQ C hr hlocks hP hS dX10_parts_71 ⟨z_15, 0, a34_13, a35_13, a36_13, a37_13, a38_13, a39_13, a40_13, b0_13, rfl, rfl, rfl, rfl, (by first | (rw [if_pos (by omega)]) | (rw [if_neg (by omega), han, hpp]; exact pr_go hpo (by omega) ⟨by omega, by omega⟩)), (by first | omega | ((repeat' split) <;> omega)), (by first | omega | ((repeat' split) <;> omega))⟩
        · have vz_11 := gif0 w_11 c_12
          clear w_11
          refine lv_aload_n hx hb dX10_parts_43 rfl (lv_at hl 0 rfl) ?_
          refine lv_iconst (v := iI 2) hx hb dX10_parts_44 rfl ?_
          refine g_cv (As := [.int (iI 2)]) (rest := []) (n := 1) C hml (c_X10_refuse l D k A ad hD (va_up v 25 (v 25)) (va_up (va_up (va_up (va_up (va_up (va_up (va_up f 34 (f 34)) 35 (f 35)) 36 (f 36)) 37 (f 37)) 38 (f 38)) 39 (f 39)) 40 (f 40)) (va_up g 0 (g 0)) 2 (by decide) (show 0 ≤ (2 : Int) ∧ (2 : Int) ≤ 10 from by omega)) mM_X10_88 mI_X10_refuse mE_X10_refuse mN_X10 mC_X10_refuse (by decide +kernel) 0 (ci := 10) rfl rfl hP hS (fun _ h => h) ⟨Nat.le_of_ble_eq_true rfl, Nat.le_of_ble_eq_true rfl⟩ ⟨Nat.zero_le _, Nat.zero_le _⟩ hl.1 rfl rfl (Nat.le_of_ble_eq_true rfl) dX10_parts_45 (fun r_16 v_16 f_16 g_16 H locs hq_16 hP _ hS => ?_)
          obtain ⟨rfl, rfl, rfl, rfl⟩ := hq_16
          show W p l e (gRm 4 109) s m args below meth c _ _ 0 0 Q (F0 m 48 ls [.int (iI (-1))])
          have hP : gWd D (rwT k ad) (va_up v 25 (2 : Int)) (va_up (va_up (va_up (va_up (va_up (va_up (va_up f 34 (f 34)) 35 (f 35)) 36 (f 36)) 37 (f 37)) 38 (f 38)) 39 (f 39)) 40 (f 40)) (va_up g 0 (g 0)) H := ⟨hP.1, (gF_up (V := rwV) (F := rwF) (gF_up (V := rwV) (F := rwF) (gF_up (V := rwV) (F := rwF) (gF_up (V := rwV) (F := rwF) (gF_up (V := rwV) (F := rwF) (gF_up (V := rwV) (F := rwF) (gF_up (V := rwV) (F := rwF) (gR_up (V := rwV) (F := rwF) ⟨hok.1, hok.2⟩ 25 (hP.2.1 25)) 34 (hP.2.2 34)) 35 (hP.2.2 35)) 36 (hP.2.2 36)) 37 (hP.2.2 37)) 38 (hP.2.2 38)) 39 (hP.2.2 39)) 40 (hP.2.2 40))⟩
          exact g_iret hQ C hr hlocks hP hS dX10_parts_48 ⟨(-1), (2 : Int), (f 34), (f 35), (f 36), (f 37), (f 38), (f 39), (f 40), (g 0), rfl, rfl, rfl, rfl, (by first | (rw [if_pos (by omega)]) | (rw [if_neg (by omega), han, hpp]; exact pr_go hpo (by omega) ⟨by omega, by omega⟩)), (by first | omega | ((repeat' split) <;> omega)), (by first | omega | ((repeat' split) <;> omega))⟩
  · have vz_3 := gif0 w_3 c_4
    clear w_3
    refine lv_aload_n hx hb dX10_parts_11 rfl (lv_at hl 0 rfl) ?_
    refine lv_iconst (v := iI 1) hx hb dX10_parts_12 rfl ?_
    refine g_cv (As := [.int (iI 1)]) (rest := []) (n := 1) C hml (c_X10_refuse l D k A ad hD (va_up v 25 (v 25)) (va_up (va_up (va_up (va_up (va_up (va_up (va_up f 34 (f 34)) 35 (f 35)) 36 (f 36)) 37 (f 37)) 38 (f 38)) 39 (f 39)) 40 (f 40)) (va_up g 0 (g 0)) 1 (by decide) (show 0 ≤ (1 : Int) ∧ (1 : Int) ≤ 10 from by omega)) mM_X10_88 mI_X10_refuse mE_X10_refuse mN_X10 mC_X10_refuse (by decide +kernel) 0 (ci := 10) rfl rfl hP hS (fun _ h => h) ⟨Nat.le_of_ble_eq_true rfl, Nat.le_of_ble_eq_true rfl⟩ ⟨Nat.zero_le _, Nat.zero_le _⟩ hl.1 rfl rfl (Nat.le_of_ble_eq_true rfl) dX10_parts_13 (fun r_17 v_17 f_17 g_17 H locs hq_17 hP _ hS => ?_)
    obtain ⟨rfl, rfl, rfl, rfl⟩ := hq_17
    show W p l e (gRm 4 109) s m args below meth c _ _ 0 0 Q (F0 m 16 ls [.int (iI (-1))])
    have hP : gWd D (rwT k ad) (va_up v 25 (1 : Int)) (va_up (va_up (va_up (va_up (va_up (va_up (va_up f 34 (f 34)) 35 (f 35)) 36 (f 36)) 37 (f 37)) 38 (f 38)) 39 (f 39)) 40 (f 40)) (va_up g 0 (g 0)) H := ⟨hP.1, (gF_up (V := rwV) (F := rwF) (gF_up (V := rwV) (F := rwF) (gF_up (V := rwV) (F := rwF) (gF_up (V := rwV) (F := rwF) (gF_up (V := rwV) (F := rwF) (gF_up (V := rwV) (F := rwF) (gF_up (V := rwV) (F := rwF) (gR_up (V := rwV) (F := rwF) ⟨hok.1, hok.2⟩ 25 (hP.2.1 25)) 34 (hP.2.2 34)) 35 (hP.2.2 35)) 36 (hP.2.2 36)) 37 (hP.2.2 37)) 38 (hP.2.2 38)) 39 (hP.2.2 39)) 40 (hP.2.2 40))⟩
    exact g_iret hQ C hr hlocks hP hS dX10_parts_16 ⟨(-1), (1 : Int), (f 34), (f 35), (f 36), (f 37), (f 38), (f 39), (f 40), (g 0), rfl, rfl, rfl, rfl, (by first | (rw [if_pos (by omega)]) | (rw [if_neg (by omega), han, hpp]; exact pr_go hpo (by omega) ⟨by omega, by omega⟩)), (by first | omega | ((repeat' split) <;> omega)), (by first | omega | ((repeat' split) <;> omega))⟩

set_option maxHeartbeats 4000000 in
set_option maxRecDepth 100000 in
theorem x_Ro_choose (l : Launch) (D : va_G) (k : Nat → ClassId) (A : Nat → Prop) (ad : Nat → Nat) (hD : rwD A k ad) (v : gV) (f g : gF) (a1 : Int) (a2 : Int) (a3 : Int) (h_a1 : inR a1) (h_a2 : inR a2) (h_a3 : inR a3) (hs : shOk (v 1) (f 1)) : GM l D k A (rwT k ad) yX10_choose cX10_choose 5 (some .int) 4 109 [.ref (ad 0), .int (iI a1), .int (iI a2), .int (iI a3)] v f g (fun r v1 f1 g1 => ∃ (z : Int) (w25 : Int) (a34_ : Int → Int) (a35_ : Int → Int) (a36_ : Int → Int) (a37_ : Int → Int) (a38_ : Int → Int) (a39_ : Int → Int) (a40_ : Int → Int) (b0_ : Int → Int), r = some (.int (iI z)) ∧ (va_up v 25 w25) = v1 ∧ (va_up (va_up (va_up (va_up (va_up (va_up (va_up f 34 a34_) 35 a35_) 36 a36_) 37 a37_) 38 a38_) 39 a39_) 40 a40_) = f1 ∧ (va_up g 0 b0_) = g1 ∧ (z = (if w25 ≠ 0 then (-1) else (bsF (fun s => prC (f 18) a1 (tgU (fun c t => evR (f 2) (f 3) (gFd (f 20) (f 21) (f 22) (f 23) (f 24) (f 25) (f 26) (f 28) (f 29) (f 30) (f 15) (f 17) (v 23) (v 24) a3 a1 t c) (v 2)) s) (v 21).toNat) bcI a2 (pw2 (shF (v 1) (f 1) a1 0)).toNat).1)) ∧ ((-1) ≤ z ∧ z ≤ 31) ∧ (w25 = (if ¬ (0 ≤ a1 ∧ a1 < (v 1)) then 1 else if a2 < 1 ∨ (shF (v 1) (f 1) a1 0) < a2 ∨ ¬ (0 ≤ a3 ∧ a3 ≤ 999) then 2 else 0))) := by
  refine GM.of (by decide) (Nat.le_of_ble_eq_true rfl) ?_
  intro p e s m args below meth c Q ls hQ C hml hr hlocks hP hl
  have hx := C.1
  have hb := C.2.1
  have hok := hP.2
  have hS : va_S A s.heap s.heap [] := va_S.rf
  have hl : lv_has ls 5 [(0, .ref (ad 0)), (1, .int (iI a1)), (2, .int (iI a2)), (3, .int (iI a3))] := hl
  have hP : gWd D (rwT k ad) (va_up v 25 (v 25)) (va_up (va_up (va_up (va_up (va_up (va_up (va_up f 34 (f 34)) 35 (f 35)) 36 (f 36)) 37 (f 37)) 38 (f 38)) 39 (f 39)) 40 (f 40)) (va_up g 0 (g 0)) s.heap := by rw [va_id, va_id, va_id, va_id, va_id, va_id, va_id, va_id, va_id]; exact hP
  have r_1 : 0 ≤ (v 1) ∧ (v 1) ≤ 4 := hok.1 1
  have r_2 : 0 ≤ (v 21) ∧ (v 21) ≤ 16 := hok.1 21
  refine lv_aload_n hx hb dX10_choose_0 rfl (lv_at hl 0 rfl) ?_
  refine rwG_laws C hP mF_X10_16 dX10_choose_1 ?_
  refine lv_iload_n hx hb dX10_choose_4 rfl (lv_at hl 1 rfl) ?_
  refine g_cv (As := [.int (iI a1)]) (rest := []) (n := 1) C hml (c_X4_hasRound l D k A ad hD (va_up v 25 (v 25)) (va_up (va_up (va_up (va_up (va_up (va_up (va_up f 34 (f 34)) 35 (f 35)) 36 (f 36)) 37 (f 37)) 38 (f 38)) 39 (f 39)) 40 (f 40)) (va_up g 0 (g 0)) a1 (by omega)) mM_X10_164 mI_X4_hasRound mE_X4_hasRound mN_X4 mC_X4_hasRound (by decide +kernel) 2 (ci := 4) rfl rfl hP hS (fun _ h => h) ⟨Nat.le_of_ble_eq_true rfl, Nat.le_of_ble_eq_true rfl⟩ ⟨Nat.zero_le _, Nat.zero_le _⟩ hl.1 rfl rfl (Nat.le_of_ble_eq_true rfl) dX10_choose_5 (fun r_3 v_3 f_3 g_3 H locs hq_3 hP _ hS => ?_)
  obtain ⟨z_3, rfl, rfl, rfl, rfl, p0_3⟩ := hq_3
  show W p l e (gRm 4 109) s m args below meth c _ _ 0 0 Q (F0 m 8 ls [.int (iI z_3)])
  replace p0_3 : z_3 = (if 0 ≤ a1 ∧ a1 < (v 1) then 1 else 0) := p0_3
  have w_3 := gif (P := 0 ≤ a1 ∧ a1 < (v 1)) p0_3
  clear p0_3
  have hz_3 : inR z_3 := (by first | omega | (rw [p0_3]; split <;> omega))
  refine gi_zne (tgt := 17) hx hb dX10_choose_8 (by decide) (by omega) (fun c_4 => ?_) (fun c_4 => ?_)
  · have vz_3 := gif1 w_3 c_4
    clear w_3
    refine lv_aload_n hx hb dX10_choose_17 rfl (lv_at hl 0 rfl) ?_
    refine rwG_laws C hP mF_X10_16 dX10_choose_18 ?_
    refine lv_iload_n hx hb dX10_choose_21 rfl (lv_at hl 1 rfl) ?_
    refine lv_iconst (v := iI 0) hx hb dX10_choose_22 rfl ?_
    refine g_cv (As := [.int (iI a1), .int (iI 0)]) (rest := []) (n := 2) C hml (c_X4_shapeOf l D k A ad hD (va_up v 25 (v 25)) (va_up (va_up (va_up (va_up (va_up (va_up (va_up f 34 (f 34)) 35 (f 35)) 36 (f 36)) 37 (f 37)) 38 (f 38)) 39 (f 39)) 40 (f 40)) (va_up g 0 (g 0)) a1 0 (by omega) (by decide)) mM_X10_170 mI_X4_shapeOf mE_X4_shapeOf mN_X4 mC_X4_shapeOf (by decide +kernel) 2 (ci := 4) rfl rfl hP hS (fun _ h => h) ⟨Nat.le_of_ble_eq_true rfl, Nat.le_of_ble_eq_true rfl⟩ ⟨Nat.zero_le _, Nat.zero_le _⟩ hl.1 rfl rfl (Nat.le_of_ble_eq_true rfl) dX10_choose_23 (fun r_5 v_5 f_5 g_5 H locs hq_5 hP _ hS => ?_)
    obtain ⟨z_5, rfl, rfl, rfl, rfl, p0_5, p1_5⟩ := hq_5
    show W p l e (gRm 4 109) s m args below meth c _ _ 0 0 Q (F0 m 26 ls [.int (iI z_5)])
    replace p0_5 : z_5 = (if (0 ≤ a1 ∧ a1 < (v 1)) ∧ 0 ≤ (0 : Int) ∧ (0 : Int) < 4 then (f 1) (a1 * 4 + (0 : Int)) else 0) := p0_5
    replace p1_5 : 0 ≤ z_5 ∧ z_5 ≤ 999999 := p1_5
    have hz_5 : inR z_5 := (by first | omega | (rw [p0_5]; split <;> omega))
    have hsh_5 : z_5 = shF (v 1) (f 1) a1 0 := shF_of p0_5
    have hsr_5 := shF_r (r := a1) hs
    clear p0_5
    have hRz : z_5 = (f 1) (a1 * 4) := by rw [hsh_5, sh_ro (by omega) (by omega)]
    have hRR := (hs a1 (by omega) (by omega)).1
    have hpe : pw2 (shF (v 1) (f 1) a1 0) = pw2 z_5 := by rw [hsh_5]
    have hpe3 : pw2 z_5 = pw2 ((f 1) (a1 * 4)) := by rw [hRz]
    refine lv_istore (lv' := [(4, .int (iI z_5)), (0, .ref (ad 0)), (1, .int (iI a1)), (2, .int (iI a2)), (3, .int (iI a3))]) hx hb dX10_choose_26 hl (by decide) rfl (fun ls hl => ?_)
    refine lv_iload_n hx hb dX10_choose_28 rfl (lv_at hl 3 rfl) ?_
    refine lv_iconst (v := iI 1) hx hb dX10_choose_29 rfl ?_
    refine gi_clt (tgt := 46) hx hb dX10_choose_30 (by decide) (by omega) (by decide) (fun c_6 => ?_) (fun c_6 => ?_)
    · refine lv_aload_n hx hb dX10_choose_46 rfl (lv_at hl 1 rfl) ?_
      refine lv_iconst (v := iI 2) hx hb dX10_choose_47 rfl ?_
      refine g_cv (As := [.int (iI 2)]) (rest := []) (n := 1) C hml (c_X10_refuse l D k A ad hD (va_up v 25 (v 25)) (va_up (va_up (va_up (va_up (va_up (va_up (va_up f 34 (f 34)) 35 (f 35)) 36 (f 36)) 37 (f 37)) 38 (f 38)) 39 (f 39)) 40 (f 40)) (va_up g 0 (g 0)) 2 (by decide) (show 0 ≤ (2 : Int) ∧ (2 : Int) ≤ 10 from by omega)) mM_X10_88 mI_X10_refuse mE_X10_refuse mN_X10 mC_X10_refuse (by decide +kernel) 0 (ci := 10) rfl rfl hP hS (fun _ h => h) ⟨Nat.le_of_ble_eq_true rfl, Nat.le_of_ble_eq_true rfl⟩ ⟨Nat.zero_le _, Nat.zero_le _⟩ hl.1 rfl rfl (Nat.le_of_ble_eq_true rfl) dX10_choose_48 (fun r_7 v_7 f_7 g_7 H locs hq_7 hP _ hS => ?_)
      obtain ⟨rfl, rfl, rfl, rfl⟩ := hq_7
      show W p l e (gRm 4 109) s m args below meth c _ _ 0 0 Q (F0 m 51 ls [.int (iI (-1))])
      have hP : gWd D (rwT k ad) (va_up v 25 (2 : Int)) (va_up (va_up (va_up (va_up (va_up (va_up (va_up f 34 (f 34)) 35 (f 35)) 36 (f 36)) 37 (f 37)) 38 (f 38)) 39 (f 39)) 40 (f 40)) (va_up g 0 (g 0)) H := ⟨hP.1, (gF_up (V := rwV) (F := rwF) (gF_up (V := rwV) (F := rwF) (gF_up (V := rwV) (F := rwF) (gF_up (V := rwV) (F := rwF) (gF_up (V := rwV) (F := rwF) (gF_up (V := rwV) (F := rwF) (gF_up (V := rwV) (F := rwF) (gR_up (V := rwV) (F := rwF) ⟨hok.1, hok.2⟩ 25 (hP.2.1 25)) 34 (hP.2.2 34)) 35 (hP.2.2 35)) 36 (hP.2.2 36)) 37 (hP.2.2 37)) 38 (hP.2.2 38)) 39 (hP.2.2 39)) 40 (hP.2.2 40))⟩
      exact g_iret hQ C hr hlocks hP hS dX10_choose_51 ⟨(-1), (2 : Int), (f 34), (f 35), (f 36), (f 37), (f 38), (f 39), (f 40), (g 0), rfl, rfl, rfl, rfl, (by first | (rw [if_pos (by omega)]) | (rw [if_neg (by omega), han, hbs, hpe, hpe3]; exact bs_go hpo (by omega))), (by first | omega | ((repeat' split) <;> omega)), (by first | omega | ((repeat' split) <;> omega))⟩
    · refine lv_iload_n hx hb dX10_choose_33 rfl (lv_at hl 3 rfl) ?_
      refine lv_iload hx hb dX10_choose_34 (lv_at hl 0 rfl) ?_
      refine gi_cgt (tgt := 46) hx hb dX10_choose_36 (by decide) (by omega) (by omega) (fun c_8 => ?_) (fun c_8 => ?_)
      · refine lv_aload_n hx hb dX10_choose_46 rfl (lv_at hl 1 rfl) ?_
        refine lv_iconst (v := iI 2) hx hb dX10_choose_47 rfl ?_
        refine g_cv (As := [.int (iI 2)]) (rest := []) (n := 1) C hml (c_X10_refuse l D k A ad hD (va_up v 25 (v 25)) (va_up (va_up (va_up (va_up (va_up (va_up (va_up f 34 (f 34)) 35 (f 35)) 36 (f 36)) 37 (f 37)) 38 (f 38)) 39 (f 39)) 40 (f 40)) (va_up g 0 (g 0)) 2 (by decide) (show 0 ≤ (2 : Int) ∧ (2 : Int) ≤ 10 from by omega)) mM_X10_88 mI_X10_refuse mE_X10_refuse mN_X10 mC_X10_refuse (by decide +kernel) 0 (ci := 10) rfl rfl hP hS (fun _ h => h) ⟨Nat.le_of_ble_eq_true rfl, Nat.le_of_ble_eq_true rfl⟩ ⟨Nat.zero_le _, Nat.zero_le _⟩ hl.1 rfl rfl (Nat.le_of_ble_eq_true rfl) dX10_choose_48 (fun r_9 v_9 f_9 g_9 H locs hq_9 hP _ hS => ?_)
        obtain ⟨rfl, rfl, rfl, rfl⟩ := hq_9
        show W p l e (gRm 4 109) s m args below meth c _ _ 0 0 Q (F0 m 51 ls [.int (iI (-1))])
        have hP : gWd D (rwT k ad) (va_up v 25 (2 : Int)) (va_up (va_up (va_up (va_up (va_up (va_up (va_up f 34 (f 34)) 35 (f 35)) 36 (f 36)) 37 (f 37)) 38 (f 38)) 39 (f 39)) 40 (f 40)) (va_up g 0 (g 0)) H := ⟨hP.1, (gF_up (V := rwV) (F := rwF) (gF_up (V := rwV) (F := rwF) (gF_up (V := rwV) (F := rwF) (gF_up (V := rwV) (F := rwF) (gF_up (V := rwV) (F := rwF) (gF_up (V := rwV) (F := rwF) (gF_up (V := rwV) (F := rwF) (gR_up (V := rwV) (F := rwF) ⟨hok.1, hok.2⟩ 25 (hP.2.1 25)) 34 (hP.2.2 34)) 35 (hP.2.2 35)) 36 (hP.2.2 36)) 37 (hP.2.2 37)) 38 (hP.2.2 38)) 39 (hP.2.2 39)) 40 (hP.2.2 40))⟩
        exact g_iret hQ C hr hlocks hP hS dX10_choose_51 ⟨(-1), (2 : Int), (f 34), (f 35), (f 36), (f 37), (f 38), (f 39), (f 40), (g 0), rfl, rfl, rfl, rfl, (by first | (rw [if_pos (by omega)]) | (rw [if_neg (by omega), han, hbs, hpe, hpe3]; exact bs_go hpo (by omega))), (by first | omega | ((repeat' split) <;> omega)), (by first | omega | ((repeat' split) <;> omega))⟩
      · refine lv_iload_n hx hb dX10_choose_39 rfl (lv_at hl 4 rfl) ?_
        refine g_cs (As := [.int (iI a3)]) (rest := []) (n := 1) C hml (c_X10_isDay l D k A ad hD (va_up v 25 (v 25)) (va_up (va_up (va_up (va_up (va_up (va_up (va_up f 34 (f 34)) 35 (f 35)) 36 (f 36)) 37 (f 37)) 38 (f 38)) 39 (f 39)) 40 (f 40)) (va_up g 0 (g 0)) a3 (by omega)) mM_X10_248 mS_X10_isDay mN_X10 mC_X10_isDay (by decide +kernel) hP hS (fun _ h => h) ⟨Nat.le_of_ble_eq_true rfl, Nat.le_of_ble_eq_true rfl⟩ ⟨Nat.zero_le _, Nat.zero_le _⟩ hl.1 rfl rfl (Nat.le_of_ble_eq_true rfl) dX10_choose_40 (fun r_10 v_10 f_10 g_10 H locs hq_10 hP _ hS => ?_)
        obtain ⟨z_10, rfl, rfl, rfl, rfl, p0_10⟩ := hq_10
        show W p l e (gRm 4 109) s m args below meth c _ _ 0 0 Q (F0 m 43 ls [.int (iI z_10)])
        replace p0_10 : z_10 = (if 0 ≤ a3 ∧ a3 ≤ 999 then 1 else 0) := p0_10
        have w_10 := gif (P := 0 ≤ a3 ∧ a3 ≤ 999) p0_10
        clear p0_10
        have hz_10 : inR z_10 := (by first | omega | (rw [p0_10]; split <;> omega))
        refine gi_zne (tgt := 52) hx hb dX10_choose_43 (by decide) (by omega) (fun c_11 => ?_) (fun c_11 => ?_)
        · have vz_10 := gif1 w_10 c_11
          clear w_10
          refine lv_aload_n hx hb dX10_choose_52 rfl (lv_at hl 1 rfl) ?_
          refine rwG_results C hP mF_X10_67 dX10_choose_53 ?_
          refine lv_iload_n hx hb dX10_choose_56 rfl (lv_at hl 2 rfl) ?_
          refine lv_iload_n hx hb dX10_choose_57 rfl (lv_at hl 4 rfl) ?_
          refine g_cv (As := [.int (iI a1), .int (iI a3)]) (rest := []) (n := 2) C hml (x_Re_workPoints l D k A ad hD (va_up v 25 (v 25)) (va_up (va_up (va_up (va_up (va_up (va_up (va_up f 34 (f 34)) 35 (f 35)) 36 (f 36)) 37 (f 37)) 38 (f 38)) 39 (f 39)) 40 (f 40)) (va_up g 0 (g 0)) a1 a3 (by omega) (by omega) (show shOk (v 1) (f 1) from hs) (show 0 ≤ a1 ∧ a1 ≤ 3 from by omega) (show a1 < (v 1) from by omega)) mM_X10_300 mI_X5_workPoints mE_X5_workPoints mN_X5 mC_X5_workPoints (by decide +kernel) 47 (ci := 5) rfl rfl hP hS (fun _ h => h) ⟨Nat.le_of_ble_eq_true rfl, Nat.le_of_ble_eq_true rfl⟩ ⟨Nat.zero_le _, Nat.zero_le _⟩ hl.1 rfl rfl (Nat.le_of_ble_eq_true rfl) dX10_choose_58 (fun r_12 v_12 f_12 g_12 H locs hq_12 hP _ hS => ?_)
          obtain ⟨a34_12, a35_12, a36_12, a37_12, a38_12, a39_12, a40_12, b0_12, rfl, rfl, rfl, rfl, p0_12⟩ := hq_12
          show W p l e (gRm 4 109) s m args below meth c _ _ 0 0 Q (F0 m 61 ls [])
          have hP : gWd D (rwT k ad) (va_up v 25 (v 25)) (va_up (va_up (va_up (va_up (va_up (va_up (va_up f 34 a34_12) 35 a35_12) 36 a36_12) 37 a37_12) 38 a38_12) 39 a39_12) 40 a40_12) (va_up g 0 b0_12) H := ⟨hP.1, (gF_up (V := rwV) (F := rwF) (gF_up (V := rwV) (F := rwF) (gF_up (V := rwV) (F := rwF) (gF_up (V := rwV) (F := rwF) (gF_up (V := rwV) (F := rwF) (gF_up (V := rwV) (F := rwF) (gF_up (V := rwV) (F := rwF) (gR_up (V := rwV) (F := rwF) ⟨hok.1, hok.2⟩ 25 (hP.2.1 25)) 34 (hP.2.2 34)) 35 (hP.2.2 35)) 36 (hP.2.2 36)) 37 (hP.2.2 37)) 38 (hP.2.2 38)) 39 (hP.2.2 39)) 40 (hP.2.2 40))⟩
          replace p0_12 : ptOk a40_12 (fun c t => evR (f 2) (f 3) (gFd (f 20) (f 21) (f 22) (f 23) (f 24) (f 25) (f 26) (f 28) (f 29) (f 30) (f 15) (f 17) (v 23) (v 24) a3 a1 t c) (v 2)) (v 21) ((f 1) (a1 * 4)) := p0_12
          have hpo := p0_12
          refine lv_aload_n hx hb dX10_choose_61 rfl (lv_at hl 1 rfl) ?_
          refine lv_aload_n hx hb dX10_choose_62 rfl (lv_at hl 1 rfl) ?_
          refine rwG_results C hP mF_X10_67 dX10_choose_63 ?_
          refine lv_iload_n hx hb dX10_choose_66 rfl (lv_at hl 2 rfl) ?_
          refine lv_iload hx hb dX10_choose_67 (lv_at hl 0 rfl) ?_
          refine lv_iload_n hx hb dX10_choose_69 rfl (lv_at hl 3 rfl) ?_
          refine g_cv (As := [.int (iI a1), .int (iI z_5), .int (iI a2)]) (rest := [.ref (ad 0)]) (n := 3) C hml (x_Re_bestSet l D k A ad hD (va_up v 25 (v 25)) (va_up (va_up (va_up (va_up (va_up (va_up (va_up f 34 a34_12) 35 a35_12) 36 a36_12) 37 a37_12) 38 a38_12) 39 a39_12) 40 a40_12) (va_up g 0 b0_12) a1 z_5 a2 (by omega) (by omega) (by omega) (show 0 ≤ a1 ∧ a1 ≤ 3 from by omega) (show 1 ≤ z_5 ∧ z_5 ≤ 5 from by omega) (show 1 ≤ a2 from by omega)) mM_X10_306 mI_X5_bestSet mE_X5_bestSet mN_X5 mC_X5_bestSet (by decide +kernel) 47 (ci := 5) rfl rfl hP hS (fun _ h => h) ⟨Nat.le_of_ble_eq_true rfl, Nat.le_of_ble_eq_true rfl⟩ ⟨Nat.zero_le _, Nat.zero_le _⟩ hl.1 rfl rfl (Nat.le_of_ble_eq_true rfl) dX10_choose_70 (fun r_13 v_13 f_13 g_13 H locs hq_13 hP _ hS => ?_)
          obtain ⟨z_13, rfl, rfl, rfl, rfl, p0_13, p1_13⟩ := hq_13
          show W p l e (gRm 4 109) s m args below meth c _ _ 0 0 Q (F0 m 73 ls [.int (iI z_13), .ref (ad 0)])
          replace p0_13 : z_13 = (bsF (fun s => prC (f 18) a1 (tgU (fun c t => a40_12 (c * 5 + t)) s) (v 21).toNat) bcI a2 (pw2 z_5).toNat).1 := p0_13
          replace p1_13 : (-1) ≤ z_13 ∧ z_13 ≤ 31 := p1_13
          have hz_13 : inR z_13 := (by first | omega | (rw [p0_13]; split <;> omega))
          have hbs := p0_13
          refine g_cv (As := [.int (iI z_13)]) (rest := []) (n := 1) C hml (c_X10_answer l D k A ad hD (va_up v 25 (v 25)) (va_up (va_up (va_up (va_up (va_up (va_up (va_up f 34 a34_12) 35 a35_12) 36 a36_12) 37 a37_12) 38 a38_12) 39 a39_12) 40 a40_12) (va_up g 0 b0_12) z_13 (by omega)) mM_X10_120 mI_X10_answer mE_X10_answer mN_X10 mC_X10_answer (by decide +kernel) 0 (ci := 10) rfl rfl hP hS (fun _ h => h) ⟨Nat.le_of_ble_eq_true rfl, Nat.le_of_ble_eq_true rfl⟩ ⟨Nat.zero_le _, Nat.zero_le _⟩ hl.1 rfl rfl (Nat.le_of_ble_eq_true rfl) dX10_choose_73 (fun r_14 v_14 f_14 g_14 H locs hq_14 hP _ hS => ?_)
          obtain ⟨z_14, rfl, rfl, rfl, rfl, p0_14⟩ := hq_14
          show W p l e (gRm 4 109) s m args below meth c _ _ 0 0 Q (F0 m 76 ls [.int (iI z_14)])
          have hP : gWd D (rwT k ad) (va_up v 25 0) (va_up (va_up (va_up (va_up (va_up (va_up (va_up f 34 a34_12) 35 a35_12) 36 a36_12) 37 a37_12) 38 a38_12) 39 a39_12) 40 a40_12) (va_up g 0 b0_12) H := ⟨hP.1, (gF_up (V := rwV) (F := rwF) (gF_up (V := rwV) (F := rwF) (gF_up (V := rwV) (F := rwF) (gF_up (V := rwV) (F := rwF) (gF_up (V := rwV) (F := rwF) (gF_up (V := rwV) (F := rwF) (gF_up (V := rwV) (F := rwF) (gR_up (V := rwV) (F := rwF) ⟨hok.1, hok.2⟩ 25 (hP.2.1 25)) 34 (hP.2.2 34)) 35 (hP.2.2 35)) 36 (hP.2.2 36)) 37 (hP.2.2 37)) 38 (hP.2.2 38)) 39 (hP.2.2 39)) 40 (hP.2.2 40))⟩
          replace p0_14 : z_14 = z_13 := p0_14
          have hz_14 : inR z_14 := (by first | omega | (rw [p0_14]; split <;> omega))
          have han := p0_14
          exact g_iret hQ C hr hlocks hP hS dX10_choose_76 ⟨z_14, 0, a34_12, a35_12, a36_12, a37_12, a38_12, a39_12, a40_12, b0_12, rfl, rfl, rfl, rfl, (by first | (rw [if_pos (by omega)]) | (rw [if_neg (by omega), han, hbs, hpe, hpe3]; exact bs_go hpo (by omega))), (by first | omega | ((repeat' split) <;> omega)), (by first | omega | ((repeat' split) <;> omega))⟩
        · have vz_10 := gif0 w_10 c_11
          clear w_10
          refine lv_aload_n hx hb dX10_choose_46 rfl (lv_at hl 1 rfl) ?_
          refine lv_iconst (v := iI 2) hx hb dX10_choose_47 rfl ?_
          refine g_cv (As := [.int (iI 2)]) (rest := []) (n := 1) C hml (c_X10_refuse l D k A ad hD (va_up v 25 (v 25)) (va_up (va_up (va_up (va_up (va_up (va_up (va_up f 34 (f 34)) 35 (f 35)) 36 (f 36)) 37 (f 37)) 38 (f 38)) 39 (f 39)) 40 (f 40)) (va_up g 0 (g 0)) 2 (by decide) (show 0 ≤ (2 : Int) ∧ (2 : Int) ≤ 10 from by omega)) mM_X10_88 mI_X10_refuse mE_X10_refuse mN_X10 mC_X10_refuse (by decide +kernel) 0 (ci := 10) rfl rfl hP hS (fun _ h => h) ⟨Nat.le_of_ble_eq_true rfl, Nat.le_of_ble_eq_true rfl⟩ ⟨Nat.zero_le _, Nat.zero_le _⟩ hl.1 rfl rfl (Nat.le_of_ble_eq_true rfl) dX10_choose_48 (fun r_15 v_15 f_15 g_15 H locs hq_15 hP _ hS => ?_)
          obtain ⟨rfl, rfl, rfl, rfl⟩ := hq_15
          show W p l e (gRm 4 109) s m args below meth c _ _ 0 0 Q (F0 m 51 ls [.int (iI (-1))])
          have hP : gWd D (rwT k ad) (va_up v 25 (2 : Int)) (va_up (va_up (va_up (va_up (va_up (va_up (va_up f 34 (f 34)) 35 (f 35)) 36 (f 36)) 37 (f 37)) 38 (f 38)) 39 (f 39)) 40 (f 40)) (va_up g 0 (g 0)) H := ⟨hP.1, (gF_up (V := rwV) (F := rwF) (gF_up (V := rwV) (F := rwF) (gF_up (V := rwV) (F := rwF) (gF_up (V := rwV) (F := rwF) (gF_up (V := rwV) (F := rwF) (gF_up (V := rwV) (F := rwF) (gF_up (V := rwV) (F := rwF) (gR_up (V := rwV) (F := rwF) ⟨hok.1, hok.2⟩ 25 (hP.2.1 25)) 34 (hP.2.2 34)) 35 (hP.2.2 35)) 36 (hP.2.2 36)) 37 (hP.2.2 37)) 38 (hP.2.2 38)) 39 (hP.2.2 39)) 40 (hP.2.2 40))⟩
          exact g_iret hQ C hr hlocks hP hS dX10_choose_51 ⟨(-1), (2 : Int), (f 34), (f 35), (f 36), (f 37), (f 38), (f 39), (f 40), (g 0), rfl, rfl, rfl, rfl, (by first | (rw [if_pos (by omega)]) | (rw [if_neg (by omega), han, hbs, hpe, hpe3]; exact bs_go hpo (by omega))), (by first | omega | ((repeat' split) <;> omega)), (by first | omega | ((repeat' split) <;> omega))⟩
  · have vz_3 := gif0 w_3 c_4
    clear w_3
    refine lv_aload_n hx hb dX10_choose_11 rfl (lv_at hl 0 rfl) ?_
    refine lv_iconst (v := iI 1) hx hb dX10_choose_12 rfl ?_
    refine g_cv (As := [.int (iI 1)]) (rest := []) (n := 1) C hml (c_X10_refuse l D k A ad hD (va_up v 25 (v 25)) (va_up (va_up (va_up (va_up (va_up (va_up (va_up f 34 (f 34)) 35 (f 35)) 36 (f 36)) 37 (f 37)) 38 (f 38)) 39 (f 39)) 40 (f 40)) (va_up g 0 (g 0)) 1 (by decide) (show 0 ≤ (1 : Int) ∧ (1 : Int) ≤ 10 from by omega)) mM_X10_88 mI_X10_refuse mE_X10_refuse mN_X10 mC_X10_refuse (by decide +kernel) 0 (ci := 10) rfl rfl hP hS (fun _ h => h) ⟨Nat.le_of_ble_eq_true rfl, Nat.le_of_ble_eq_true rfl⟩ ⟨Nat.zero_le _, Nat.zero_le _⟩ hl.1 rfl rfl (Nat.le_of_ble_eq_true rfl) dX10_choose_13 (fun r_16 v_16 f_16 g_16 H locs hq_16 hP _ hS => ?_)
    obtain ⟨rfl, rfl, rfl, rfl⟩ := hq_16
    show W p l e (gRm 4 109) s m args below meth c _ _ 0 0 Q (F0 m 16 ls [.int (iI (-1))])
    have hP : gWd D (rwT k ad) (va_up v 25 (1 : Int)) (va_up (va_up (va_up (va_up (va_up (va_up (va_up f 34 (f 34)) 35 (f 35)) 36 (f 36)) 37 (f 37)) 38 (f 38)) 39 (f 39)) 40 (f 40)) (va_up g 0 (g 0)) H := ⟨hP.1, (gF_up (V := rwV) (F := rwF) (gF_up (V := rwV) (F := rwF) (gF_up (V := rwV) (F := rwF) (gF_up (V := rwV) (F := rwF) (gF_up (V := rwV) (F := rwF) (gF_up (V := rwV) (F := rwF) (gF_up (V := rwV) (F := rwF) (gR_up (V := rwV) (F := rwF) ⟨hok.1, hok.2⟩ 25 (hP.2.1 25)) 34 (hP.2.2 34)) 35 (hP.2.2 35)) 36 (hP.2.2 36)) 37 (hP.2.2 37)) 38 (hP.2.2 38)) 39 (hP.2.2 39)) 40 (hP.2.2 40))⟩
    exact g_iret hQ C hr hlocks hP hS dX10_choose_16 ⟨(-1), (1 : Int), (f 34), (f 35), (f 36), (f 37), (f 38), (f 39), (f 40), (g 0), rfl, rfl, rfl, rfl, (by first | (rw [if_pos (by omega)]) | (rw [if_neg (by omega), han, hbs, hpe, hpe3]; exact bs_go hpo (by omega))), (by first | omega | ((repeat' split) <;> omega)), (by first | omega | ((repeat' split) <;> omega))⟩
end
