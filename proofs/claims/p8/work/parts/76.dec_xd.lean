theorem dX10_tried_0 : decode cX10_tried 0 = .ok (.aload_n 0, 1) := by decide +kernel
theorem dX10_tried_1 : decode cX10_tried 1 = .ok (.getfield 44, 3) := by decide +kernel
theorem dX10_tried_4 : decode cX10_tried 4 = .ok (.iload_n 1, 1) := by decide +kernel
theorem dX10_tried_5 : decode cX10_tried 5 = .ok (.invokevirtual 224, 3) := by decide +kernel
theorem dX10_tried_8 : decode cX10_tried 8 = .ok (.ifCond .ne 9, 3) := by decide +kernel
theorem dX10_tried_11 : decode cX10_tried 11 = .ok (.aload_n 0, 1) := by decide +kernel
theorem dX10_tried_12 : decode cX10_tried 12 = .ok (.iconst 1, 1) := by decide +kernel
theorem dX10_tried_13 : decode cX10_tried 13 = .ok (.invokevirtual 88, 3) := by decide +kernel
theorem dX10_tried_16 : decode cX10_tried 16 = .ok (.ireturn, 1) := by decide +kernel
theorem dX10_tried_17 : decode cX10_tried 17 = .ok (.iload_n 2, 1) := by decide +kernel
theorem dX10_tried_18 : decode cX10_tried 18 = .ok (.tableswitch 140 0 6 #[42, 56, 70, 84, 98, 112, 126], 42) := by decide +kernel
theorem dX10_tried_60 : decode cX10_tried 60 = .ok (.aload_n 0, 1) := by decide +kernel
theorem dX10_tried_61 : decode cX10_tried 61 = .ok (.aload_n 0, 1) := by decide +kernel
theorem dX10_tried_62 : decode cX10_tried 62 = .ok (.getfield 44, 3) := by decide +kernel
theorem dX10_tried_65 : decode cX10_tried 65 = .ok (.getfield 225, 3) := by decide +kernel
theorem dX10_tried_68 : decode cX10_tried 68 = .ok (.iload_n 1, 1) := by decide +kernel
theorem dX10_tried_69 : decode cX10_tried 69 = .ok (.iaload, 1) := by decide +kernel
theorem dX10_tried_70 : decode cX10_tried 70 = .ok (.invokevirtual 120, 3) := by decide +kernel
theorem dX10_tried_73 : decode cX10_tried 73 = .ok (.ireturn, 1) := by decide +kernel
theorem dX10_tried_74 : decode cX10_tried 74 = .ok (.aload_n 0, 1) := by decide +kernel
theorem dX10_tried_75 : decode cX10_tried 75 = .ok (.aload_n 0, 1) := by decide +kernel
theorem dX10_tried_76 : decode cX10_tried 76 = .ok (.getfield 44, 3) := by decide +kernel
theorem dX10_tried_79 : decode cX10_tried 79 = .ok (.getfield 200, 3) := by decide +kernel
theorem dX10_tried_82 : decode cX10_tried 82 = .ok (.iload_n 1, 1) := by decide +kernel
theorem dX10_tried_83 : decode cX10_tried 83 = .ok (.iaload, 1) := by decide +kernel
theorem dX10_tried_84 : decode cX10_tried 84 = .ok (.invokevirtual 120, 3) := by decide +kernel
theorem dX10_tried_87 : decode cX10_tried 87 = .ok (.ireturn, 1) := by decide +kernel
theorem dX10_tried_88 : decode cX10_tried 88 = .ok (.aload_n 0, 1) := by decide +kernel
theorem dX10_tried_89 : decode cX10_tried 89 = .ok (.aload_n 0, 1) := by decide +kernel
theorem dX10_tried_90 : decode cX10_tried 90 = .ok (.getfield 44, 3) := by decide +kernel
theorem dX10_tried_93 : decode cX10_tried 93 = .ok (.getfield 203, 3) := by decide +kernel
theorem dX10_tried_96 : decode cX10_tried 96 = .ok (.iload_n 1, 1) := by decide +kernel
theorem dX10_tried_97 : decode cX10_tried 97 = .ok (.iaload, 1) := by decide +kernel
theorem dX10_tried_98 : decode cX10_tried 98 = .ok (.invokevirtual 120, 3) := by decide +kernel
theorem dX10_tried_101 : decode cX10_tried 101 = .ok (.ireturn, 1) := by decide +kernel
theorem dX10_tried_102 : decode cX10_tried 102 = .ok (.aload_n 0, 1) := by decide +kernel
theorem dX10_tried_103 : decode cX10_tried 103 = .ok (.aload_n 0, 1) := by decide +kernel
theorem dX10_tried_104 : decode cX10_tried 104 = .ok (.getfield 44, 3) := by decide +kernel
theorem dX10_tried_107 : decode cX10_tried 107 = .ok (.getfield 228, 3) := by decide +kernel
theorem dX10_tried_110 : decode cX10_tried 110 = .ok (.iload_n 1, 1) := by decide +kernel
theorem dX10_tried_111 : decode cX10_tried 111 = .ok (.iaload, 1) := by decide +kernel
theorem dX10_tried_112 : decode cX10_tried 112 = .ok (.invokevirtual 120, 3) := by decide +kernel
theorem dX10_tried_115 : decode cX10_tried 115 = .ok (.ireturn, 1) := by decide +kernel
theorem dX10_tried_116 : decode cX10_tried 116 = .ok (.aload_n 0, 1) := by decide +kernel
theorem dX10_tried_117 : decode cX10_tried 117 = .ok (.aload_n 0, 1) := by decide +kernel
theorem dX10_tried_118 : decode cX10_tried 118 = .ok (.getfield 44, 3) := by decide +kernel
theorem dX10_tried_121 : decode cX10_tried 121 = .ok (.getfield 231, 3) := by decide +kernel
theorem dX10_tried_124 : decode cX10_tried 124 = .ok (.iload_n 1, 1) := by decide +kernel
theorem dX10_tried_125 : decode cX10_tried 125 = .ok (.iaload, 1) := by decide +kernel
theorem dX10_tried_126 : decode cX10_tried 126 = .ok (.invokevirtual 120, 3) := by decide +kernel
theorem dX10_tried_129 : decode cX10_tried 129 = .ok (.ireturn, 1) := by decide +kernel
theorem dX10_tried_130 : decode cX10_tried 130 = .ok (.aload_n 0, 1) := by decide +kernel
theorem dX10_tried_131 : decode cX10_tried 131 = .ok (.aload_n 0, 1) := by decide +kernel
theorem dX10_tried_132 : decode cX10_tried 132 = .ok (.getfield 44, 3) := by decide +kernel
theorem dX10_tried_135 : decode cX10_tried 135 = .ok (.getfield 206, 3) := by decide +kernel
theorem dX10_tried_138 : decode cX10_tried 138 = .ok (.iload_n 1, 1) := by decide +kernel
theorem dX10_tried_139 : decode cX10_tried 139 = .ok (.iaload, 1) := by decide +kernel
theorem dX10_tried_140 : decode cX10_tried 140 = .ok (.invokevirtual 120, 3) := by decide +kernel
theorem dX10_tried_143 : decode cX10_tried 143 = .ok (.ireturn, 1) := by decide +kernel
theorem dX10_tried_144 : decode cX10_tried 144 = .ok (.aload_n 0, 1) := by decide +kernel
theorem dX10_tried_145 : decode cX10_tried 145 = .ok (.aload_n 0, 1) := by decide +kernel
theorem dX10_tried_146 : decode cX10_tried 146 = .ok (.getfield 44, 3) := by decide +kernel
theorem dX10_tried_149 : decode cX10_tried 149 = .ok (.getfield 234, 3) := by decide +kernel
theorem dX10_tried_152 : decode cX10_tried 152 = .ok (.iload_n 1, 1) := by decide +kernel
theorem dX10_tried_153 : decode cX10_tried 153 = .ok (.iaload, 1) := by decide +kernel
theorem dX10_tried_154 : decode cX10_tried 154 = .ok (.invokevirtual 120, 3) := by decide +kernel
theorem dX10_tried_157 : decode cX10_tried 157 = .ok (.ireturn, 1) := by decide +kernel
theorem dX10_tried_158 : decode cX10_tried 158 = .ok (.aload_n 0, 1) := by decide +kernel
theorem dX10_tried_159 : decode cX10_tried 159 = .ok (.iconst 2, 1) := by decide +kernel
theorem dX10_tried_160 : decode cX10_tried 160 = .ok (.invokevirtual 88, 3) := by decide +kernel
theorem dX10_tried_163 : decode cX10_tried 163 = .ok (.ireturn, 1) := by decide +kernel
theorem dX10_seen_0 : decode cX10_seen 0 = .ok (.aload_n 0, 1) := by decide +kernel
theorem dX10_seen_1 : decode cX10_seen 1 = .ok (.getfield 37, 3) := by decide +kernel
theorem dX10_seen_4 : decode cX10_seen 4 = .ok (.iload_n 1, 1) := by decide +kernel
theorem dX10_seen_5 : decode cX10_seen 5 = .ok (.invokevirtual 180, 3) := by decide +kernel
theorem dX10_seen_8 : decode cX10_seen 8 = .ok (.ifCond .eq 21, 3) := by decide +kernel
theorem dX10_seen_11 : decode cX10_seen 11 = .ok (.aload_n 0, 1) := by decide +kernel
theorem dX10_seen_12 : decode cX10_seen 12 = .ok (.getfield 16, 3) := by decide +kernel
theorem dX10_seen_15 : decode cX10_seen 15 = .ok (.aload_n 0, 1) := by decide +kernel
theorem dX10_seen_16 : decode cX10_seen 16 = .ok (.getfield 37, 3) := by decide +kernel
theorem dX10_seen_19 : decode cX10_seen 19 = .ok (.getfield 129, 3) := by decide +kernel
theorem dX10_seen_22 : decode cX10_seen 22 = .ok (.iload_n 2, 1) := by decide +kernel
theorem dX10_seen_23 : decode cX10_seen 23 = .ok (.invokevirtual 136, 3) := by decide +kernel
theorem dX10_seen_26 : decode cX10_seen 26 = .ok (.ifCond .ne 9, 3) := by decide +kernel
theorem dX10_seen_29 : decode cX10_seen 29 = .ok (.aload_n 0, 1) := by decide +kernel
theorem dX10_seen_30 : decode cX10_seen 30 = .ok (.iconst 1, 1) := by decide +kernel
theorem dX10_seen_31 : decode cX10_seen 31 = .ok (.invokevirtual 88, 3) := by decide +kernel
theorem dX10_seen_34 : decode cX10_seen 34 = .ok (.ireturn, 1) := by decide +kernel
theorem dX10_seen_35 : decode cX10_seen 35 = .ok (.aload_n 0, 1) := by decide +kernel
theorem dX10_seen_36 : decode cX10_seen 36 = .ok (.aload_n 0, 1) := by decide +kernel
theorem dX10_seen_37 : decode cX10_seen 37 = .ok (.iload_n 1, 1) := by decide +kernel
theorem dX10_seen_38 : decode cX10_seen 38 = .ok (.iload_n 2, 1) := by decide +kernel
theorem dX10_seen_39 : decode cX10_seen 39 = .ok (.invokevirtual 237, 3) := by decide +kernel
theorem dX10_seen_42 : decode cX10_seen 42 = .ok (.ifCond .eq 7, 3) := by decide +kernel
theorem dX10_seen_45 : decode cX10_seen 45 = .ok (.iconst 1, 1) := by decide +kernel
theorem dX10_seen_46 : decode cX10_seen 46 = .ok (.goto 4, 3) := by decide +kernel
theorem dX10_seen_49 : decode cX10_seen 49 = .ok (.iconst 0, 1) := by decide +kernel
theorem dX10_seen_50 : decode cX10_seen 50 = .ok (.invokevirtual 120, 3) := by decide +kernel
theorem dX10_seen_53 : decode cX10_seen 53 = .ok (.ireturn, 1) := by decide +kernel
theorem dX10_ready_0 : decode cX10_ready 0 = .ok (.aload_n 0, 1) := by decide +kernel
theorem dX10_ready_1 : decode cX10_ready 1 = .ok (.getfield 37, 3) := by decide +kernel
theorem dX10_ready_4 : decode cX10_ready 4 = .ok (.iload_n 1, 1) := by decide +kernel
theorem dX10_ready_5 : decode cX10_ready 5 = .ok (.invokevirtual 180, 3) := by decide +kernel
theorem dX10_ready_8 : decode cX10_ready 8 = .ok (.ifCond .ne 9, 3) := by decide +kernel
theorem dX10_ready_11 : decode cX10_ready 11 = .ok (.aload_n 0, 1) := by decide +kernel
theorem dX10_ready_12 : decode cX10_ready 12 = .ok (.iconst 1, 1) := by decide +kernel
theorem dX10_ready_13 : decode cX10_ready 13 = .ok (.invokevirtual 88, 3) := by decide +kernel
theorem dX10_ready_16 : decode cX10_ready 16 = .ok (.ireturn, 1) := by decide +kernel
theorem dX10_ready_17 : decode cX10_ready 17 = .ok (.aload_n 0, 1) := by decide +kernel
theorem dX10_ready_18 : decode cX10_ready 18 = .ok (.getfield 44, 3) := by decide +kernel
theorem dX10_ready_21 : decode cX10_ready 21 = .ok (.iload_n 1, 1) := by decide +kernel
theorem dX10_ready_22 : decode cX10_ready 22 = .ok (.invokevirtual 197, 3) := by decide +kernel
theorem dX10_ready_25 : decode cX10_ready 25 = .ok (.iconst (-1), 1) := by decide +kernel
theorem dX10_ready_26 : decode cX10_ready 26 = .ok (.if_icmp .eq 9, 3) := by decide +kernel
theorem dX10_ready_29 : decode cX10_ready 29 = .ok (.aload_n 0, 1) := by decide +kernel
theorem dX10_ready_30 : decode cX10_ready 30 = .ok (.iconst 5, 1) := by decide +kernel
theorem dX10_ready_31 : decode cX10_ready 31 = .ok (.invokevirtual 88, 3) := by decide +kernel
theorem dX10_ready_34 : decode cX10_ready 34 = .ok (.ireturn, 1) := by decide +kernel
theorem dX10_ready_35 : decode cX10_ready 35 = .ok (.aload_n 0, 1) := by decide +kernel
theorem dX10_ready_36 : decode cX10_ready 36 = .ok (.aload_n 0, 1) := by decide +kernel
theorem dX10_ready_37 : decode cX10_ready 37 = .ok (.getfield 114, 3) := by decide +kernel
theorem dX10_ready_40 : decode cX10_ready 40 = .ok (.aload_n 0, 1) := by decide +kernel
theorem dX10_ready_41 : decode cX10_ready 41 = .ok (.iload_n 1, 1) := by decide +kernel
theorem dX10_ready_42 : decode cX10_ready 42 = .ok (.invokevirtual 240, 3) := by decide +kernel
theorem dX10_ready_45 : decode cX10_ready 45 = .ok (.invokestatic 243, 3) := by decide +kernel
theorem dX10_ready_48 : decode cX10_ready 48 = .ok (.invokevirtual 120, 3) := by decide +kernel
theorem dX10_ready_51 : decode cX10_ready 51 = .ok (.ireturn, 1) := by decide +kernel
theorem dX10_appeal_0 : decode cX10_appeal 0 = .ok (.aload_n 0, 1) := by decide +kernel
theorem dX10_appeal_1 : decode cX10_appeal 1 = .ok (.getfield 44, 3) := by decide +kernel
theorem dX10_appeal_4 : decode cX10_appeal 4 = .ok (.iload_n 1, 1) := by decide +kernel
theorem dX10_appeal_5 : decode cX10_appeal 5 = .ok (.invokevirtual 224, 3) := by decide +kernel
theorem dX10_appeal_8 : decode cX10_appeal 8 = .ok (.ifCond .ne 9, 3) := by decide +kernel
theorem dX10_appeal_11 : decode cX10_appeal 11 = .ok (.aload_n 0, 1) := by decide +kernel
theorem dX10_appeal_12 : decode cX10_appeal 12 = .ok (.iconst 1, 1) := by decide +kernel
theorem dX10_appeal_13 : decode cX10_appeal 13 = .ok (.invokevirtual 140, 3) := by decide +kernel
theorem dX10_appeal_16 : decode cX10_appeal 16 = .ok (.ireturn, 1) := by decide +kernel
theorem dX10_appeal_17 : decode cX10_appeal 17 = .ok (.aload_n 0, 1) := by decide +kernel
theorem dX10_appeal_18 : decode cX10_appeal 18 = .ok (.getfield 30, 3) := by decide +kernel
theorem dX10_appeal_21 : decode cX10_appeal 21 = .ok (.aload_n 0, 1) := by decide +kernel
theorem dX10_appeal_22 : decode cX10_appeal 22 = .ok (.getfield 44, 3) := by decide +kernel
theorem dX10_appeal_25 : decode cX10_appeal 25 = .ok (.getfield 200, 3) := by decide +kernel
theorem dX10_appeal_28 : decode cX10_appeal 28 = .ok (.iload_n 1, 1) := by decide +kernel
theorem dX10_appeal_29 : decode cX10_appeal 29 = .ok (.iaload, 1) := by decide +kernel
theorem dX10_appeal_30 : decode cX10_appeal 30 = .ok (.aload_n 0, 1) := by decide +kernel
theorem dX10_appeal_31 : decode cX10_appeal 31 = .ok (.getfield 44, 3) := by decide +kernel
theorem dX10_appeal_34 : decode cX10_appeal 34 = .ok (.getfield 203, 3) := by decide +kernel
theorem dX10_appeal_37 : decode cX10_appeal 37 = .ok (.iload_n 1, 1) := by decide +kernel
theorem dX10_appeal_38 : decode cX10_appeal 38 = .ok (.iaload, 1) := by decide +kernel
theorem dX10_appeal_39 : decode cX10_appeal 39 = .ok (.invokevirtual 173, 3) := by decide +kernel
theorem dX10_appeal_42 : decode cX10_appeal 42 = .ok (.istore 4, 2) := by decide +kernel
theorem dX10_appeal_44 : decode cX10_appeal 44 = .ok (.iload_n 2, 1) := by decide +kernel
theorem dX10_appeal_45 : decode cX10_appeal 45 = .ok (.ifCond .lt 16, 3) := by decide +kernel
theorem dX10_appeal_48 : decode cX10_appeal 48 = .ok (.iload_n 2, 1) := by decide +kernel
theorem dX10_appeal_49 : decode cX10_appeal 49 = .ok (.iload 4, 2) := by decide +kernel
theorem dX10_appeal_51 : decode cX10_appeal 51 = .ok (.if_icmp .gt 10, 3) := by decide +kernel
theorem dX10_appeal_54 : decode cX10_appeal 54 = .ok (.iload_n 3, 1) := by decide +kernel
theorem dX10_appeal_55 : decode cX10_appeal 55 = .ok (.invokestatic 248, 3) := by decide +kernel
theorem dX10_appeal_58 : decode cX10_appeal 58 = .ok (.ifCond .ne 9, 3) := by decide +kernel
theorem dX10_appeal_61 : decode cX10_appeal 61 = .ok (.aload_n 0, 1) := by decide +kernel
theorem dX10_appeal_62 : decode cX10_appeal 62 = .ok (.iconst 2, 1) := by decide +kernel
theorem dX10_appeal_63 : decode cX10_appeal 63 = .ok (.invokevirtual 140, 3) := by decide +kernel
theorem dX10_appeal_66 : decode cX10_appeal 66 = .ok (.ireturn, 1) := by decide +kernel
theorem dX10_appeal_67 : decode cX10_appeal 67 = .ok (.aload_n 0, 1) := by decide +kernel
theorem dX10_appeal_68 : decode cX10_appeal 68 = .ok (.getfield 44, 3) := by decide +kernel
theorem dX10_appeal_71 : decode cX10_appeal 71 = .ok (.getfield 234, 3) := by decide +kernel
theorem dX10_appeal_74 : decode cX10_appeal 74 = .ok (.iload_n 1, 1) := by decide +kernel
theorem dX10_appeal_75 : decode cX10_appeal 75 = .ok (.iaload, 1) := by decide +kernel
theorem dX10_appeal_76 : decode cX10_appeal 76 = .ok (.ifCond .eq 16, 3) := by decide +kernel
theorem dX10_appeal_79 : decode cX10_appeal 79 = .ok (.aload_n 0, 1) := by decide +kernel
theorem dX10_appeal_80 : decode cX10_appeal 80 = .ok (.getfield 44, 3) := by decide +kernel
theorem dX10_appeal_83 : decode cX10_appeal 83 = .ok (.getfield 234, 3) := by decide +kernel
theorem dX10_appeal_86 : decode cX10_appeal 86 = .ok (.iload_n 1, 1) := by decide +kernel
theorem dX10_appeal_87 : decode cX10_appeal 87 = .ok (.iaload, 1) := by decide +kernel
theorem dX10_appeal_88 : decode cX10_appeal 88 = .ok (.iconst 4, 1) := by decide +kernel
theorem dX10_appeal_89 : decode cX10_appeal 89 = .ok (.if_icmp .ne 10, 3) := by decide +kernel
theorem dX10_appeal_92 : decode cX10_appeal 92 = .ok (.aload_n 0, 1) := by decide +kernel
theorem dX10_appeal_93 : decode cX10_appeal 93 = .ok (.bipush 10, 2) := by decide +kernel
theorem dX10_appeal_95 : decode cX10_appeal 95 = .ok (.invokevirtual 140, 3) := by decide +kernel
theorem dX10_appeal_98 : decode cX10_appeal 98 = .ok (.ireturn, 1) := by decide +kernel
theorem dX10_appeal_99 : decode cX10_appeal 99 = .ok (.aload_n 0, 1) := by decide +kernel
theorem dX10_appeal_100 : decode cX10_appeal 100 = .ok (.getfield 51, 3) := by decide +kernel
theorem dX10_appeal_103 : decode cX10_appeal 103 = .ok (.getfield 251, 3) := by decide +kernel
theorem dX10_appeal_106 : decode cX10_appeal 106 = .ok (.bipush 40, 2) := by decide +kernel
theorem dX10_appeal_108 : decode cX10_appeal 108 = .ok (.if_icmp .lt 9, 3) := by decide +kernel
theorem dX10_appeal_111 : decode cX10_appeal 111 = .ok (.aload_n 0, 1) := by decide +kernel
theorem dX10_appeal_112 : decode cX10_appeal 112 = .ok (.iconst 3, 1) := by decide +kernel
theorem dX10_appeal_113 : decode cX10_appeal 113 = .ok (.invokevirtual 140, 3) := by decide +kernel
theorem dX10_appeal_116 : decode cX10_appeal 116 = .ok (.ireturn, 1) := by decide +kernel
theorem dX10_appeal_117 : decode cX10_appeal 117 = .ok (.aload_n 0, 1) := by decide +kernel
theorem dX10_appeal_118 : decode cX10_appeal 118 = .ok (.getfield 51, 3) := by decide +kernel
theorem dX10_appeal_121 : decode cX10_appeal 121 = .ok (.iload_n 1, 1) := by decide +kernel
theorem dX10_appeal_122 : decode cX10_appeal 122 = .ok (.iload_n 2, 1) := by decide +kernel
theorem dX10_appeal_123 : decode cX10_appeal 123 = .ok (.iload_n 3, 1) := by decide +kernel
theorem dX10_appeal_124 : decode cX10_appeal 124 = .ok (.invokevirtual 252, 3) := by decide +kernel
theorem dX10_appeal_127 : decode cX10_appeal 127 = .ok (.aload_n 0, 1) := by decide +kernel
theorem dX10_appeal_128 : decode cX10_appeal 128 = .ok (.invokevirtual 160, 3) := by decide +kernel
theorem dX10_appeal_131 : decode cX10_appeal 131 = .ok (.ireturn, 1) := by decide +kernel
theorem dX10_of_0 : decode cX10_of 0 = .ok (.aload_n 0, 1) := by decide +kernel
theorem dX10_of_1 : decode cX10_of 1 = .ok (.getfield 16, 3) := by decide +kernel
theorem dX10_of_4 : decode cX10_of 4 = .ok (.iload_n 1, 1) := by decide +kernel
theorem dX10_of_5 : decode cX10_of 5 = .ok (.iload_n 2, 1) := by decide +kernel
theorem dX10_of_6 : decode cX10_of 6 = .ok (.invokevirtual 136, 3) := by decide +kernel
theorem dX10_of_9 : decode cX10_of 9 = .ok (.ifCond .eq 14, 3) := by decide +kernel
theorem dX10_of_12 : decode cX10_of 12 = .ok (.aload_n 0, 1) := by decide +kernel
theorem dX10_of_13 : decode cX10_of 13 = .ok (.getfield 37, 3) := by decide +kernel
theorem dX10_of_16 : decode cX10_of 16 = .ok (.iload_n 3, 1) := by decide +kernel
theorem dX10_of_17 : decode cX10_of 17 = .ok (.invokevirtual 180, 3) := by decide +kernel
theorem dX10_of_20 : decode cX10_of 20 = .ok (.ifCond .ne 9, 3) := by decide +kernel
theorem dX10_of_23 : decode cX10_of 23 = .ok (.aload_n 0, 1) := by decide +kernel
theorem dX10_of_24 : decode cX10_of 24 = .ok (.iconst 1, 1) := by decide +kernel
theorem dX10_of_25 : decode cX10_of 25 = .ok (.invokevirtual 88, 3) := by decide +kernel
theorem dX10_of_28 : decode cX10_of 28 = .ok (.ireturn, 1) := by decide +kernel
theorem dX10_of_29 : decode cX10_of 29 = .ok (.iload 4, 2) := by decide +kernel
theorem dX10_of_31 : decode cX10_of 31 = .ok (.invokestatic 248, 3) := by decide +kernel
theorem dX10_of_34 : decode cX10_of 34 = .ok (.ifCond .eq 15, 3) := by decide +kernel
theorem dX10_of_37 : decode cX10_of 37 = .ok (.iload 5, 2) := by decide +kernel
theorem dX10_of_39 : decode cX10_of 39 = .ok (.ifCond .lt 10, 3) := by decide +kernel
theorem dX10_of_42 : decode cX10_of 42 = .ok (.iload 5, 2) := by decide +kernel
theorem dX10_of_44 : decode cX10_of 44 = .ok (.bipush 6, 2) := by decide +kernel
theorem dX10_of_46 : decode cX10_of 46 = .ok (.if_icmp .le 9, 3) := by decide +kernel
theorem dX10_of_49 : decode cX10_of 49 = .ok (.aload_n 0, 1) := by decide +kernel
theorem dX10_of_50 : decode cX10_of 50 = .ok (.iconst 2, 1) := by decide +kernel
theorem dX10_of_51 : decode cX10_of 51 = .ok (.invokevirtual 88, 3) := by decide +kernel
theorem dX10_of_54 : decode cX10_of 54 = .ok (.ireturn, 1) := by decide +kernel
theorem dX10_of_55 : decode cX10_of 55 = .ok (.aload_n 0, 1) := by decide +kernel
theorem dX10_of_56 : decode cX10_of 56 = .ok (.getfield 67, 3) := by decide +kernel
theorem dX10_of_59 : decode cX10_of 59 = .ok (.iload 4, 2) := by decide +kernel
theorem dX10_of_61 : decode cX10_of 61 = .ok (.invokevirtual 255, 3) := by decide +kernel
theorem dX10_of_64 : decode cX10_of 64 = .ok (.aload_n 0, 1) := by decide +kernel
theorem dX10_of_65 : decode cX10_of 65 = .ok (.getfield 67, 3) := by decide +kernel
theorem dX10_of_68 : decode cX10_of 68 = .ok (.iload_n 1, 1) := by decide +kernel
theorem dX10_of_69 : decode cX10_of 69 = .ok (.iload_n 3, 1) := by decide +kernel
theorem dX10_of_70 : decode cX10_of 70 = .ok (.iload_n 2, 1) := by decide +kernel
theorem dX10_of_71 : decode cX10_of 71 = .ok (.invokevirtual 258, 3) := by decide +kernel
theorem dX10_of_74 : decode cX10_of 74 = .ok (.aload_n 0, 1) := by decide +kernel
theorem dX10_of_75 : decode cX10_of 75 = .ok (.iload 5, 2) := by decide +kernel
theorem dX10_of_77 : decode cX10_of 77 = .ok (.bipush 6, 2) := by decide +kernel
theorem dX10_of_79 : decode cX10_of 79 = .ok (.if_icmp .ne 20, 3) := by decide +kernel
theorem dX10_of_82 : decode cX10_of 82 = .ok (.aload_n 0, 1) := by decide +kernel
theorem dX10_of_83 : decode cX10_of 83 = .ok (.getfield 16, 3) := by decide +kernel
theorem dX10_of_86 : decode cX10_of 86 = .ok (.aload_n 0, 1) := by decide +kernel
theorem dX10_of_87 : decode cX10_of 87 = .ok (.getfield 67, 3) := by decide +kernel
theorem dX10_of_90 : decode cX10_of 90 = .ok (.getfield 261, 3) := by decide +kernel
theorem dX10_of_93 : decode cX10_of 93 = .ok (.invokevirtual 264, 3) := by decide +kernel
theorem dX10_of_96 : decode cX10_of 96 = .ok (.goto 13, 3) := by decide +kernel
theorem dX10_of_99 : decode cX10_of 99 = .ok (.aload_n 0, 1) := by decide +kernel
theorem dX10_of_100 : decode cX10_of 100 = .ok (.getfield 67, 3) := by decide +kernel
theorem dX10_of_103 : decode cX10_of 103 = .ok (.getfield 261, 3) := by decide +kernel
theorem dX10_of_106 : decode cX10_of 106 = .ok (.iload 5, 2) := by decide +kernel
theorem dX10_of_108 : decode cX10_of 108 = .ok (.iaload, 1) := by decide +kernel
theorem dX10_of_109 : decode cX10_of 109 = .ok (.invokevirtual 120, 3) := by decide +kernel
theorem dX10_of_112 : decode cX10_of 112 = .ok (.ireturn, 1) := by decide +kernel
theorem dX10_key_0 : decode cX10_key 0 = .ok (.aload_n 0, 1) := by decide +kernel
theorem dX10_key_1 : decode cX10_key 1 = .ok (.getfield 16, 3) := by decide +kernel
theorem dX10_key_4 : decode cX10_key 4 = .ok (.iload_n 1, 1) := by decide +kernel
theorem dX10_key_5 : decode cX10_key 5 = .ok (.invokevirtual 164, 3) := by decide +kernel
theorem dX10_key_8 : decode cX10_key 8 = .ok (.ifCond .eq 32, 3) := by decide +kernel
theorem dX10_key_11 : decode cX10_key 11 = .ok (.aload_n 0, 1) := by decide +kernel
theorem dX10_key_12 : decode cX10_key 12 = .ok (.getfield 37, 3) := by decide +kernel
theorem dX10_key_15 : decode cX10_key 15 = .ok (.iload_n 1, 1) := by decide +kernel
theorem dX10_key_16 : decode cX10_key 16 = .ok (.iload_n 2, 1) := by decide +kernel
theorem dX10_key_17 : decode cX10_key 17 = .ok (.invokevirtual 268, 3) := by decide +kernel
theorem dX10_key_20 : decode cX10_key 20 = .ok (.ifCond .eq 20, 3) := by decide +kernel
theorem dX10_key_23 : decode cX10_key 23 = .ok (.iload 4, 2) := by decide +kernel
theorem dX10_key_25 : decode cX10_key 25 = .ok (.ifCond .lt 15, 3) := by decide +kernel
theorem dX10_key_28 : decode cX10_key 28 = .ok (.iload 4, 2) := by decide +kernel
theorem dX10_key_30 : decode cX10_key 30 = .ok (.aload_n 0, 1) := by decide +kernel
theorem dX10_key_31 : decode cX10_key 31 = .ok (.getfield 16, 3) := by decide +kernel
theorem dX10_key_34 : decode cX10_key 34 = .ok (.getfield 271, 3) := by decide +kernel
theorem dX10_key_37 : decode cX10_key 37 = .ok (.if_icmp .lt 10, 3) := by decide +kernel
theorem dX10_key_40 : decode cX10_key 40 = .ok (.aload_n 0, 1) := by decide +kernel
theorem dX10_key_41 : decode cX10_key 41 = .ok (.iconst 1, 1) := by decide +kernel
theorem dX10_key_42 : decode cX10_key 42 = .ok (.invokevirtual 88, 3) := by decide +kernel
theorem dX10_key_45 : decode cX10_key 45 = .ok (.i2l, 1) := by decide +kernel
theorem dX10_key_46 : decode cX10_key 46 = .ok (.lreturn, 1) := by decide +kernel
theorem dX10_key_47 : decode cX10_key 47 = .ok (.iload_n 3, 1) := by decide +kernel
theorem dX10_key_48 : decode cX10_key 48 = .ok (.invokestatic 248, 3) := by decide +kernel
theorem dX10_key_51 : decode cX10_key 51 = .ok (.ifCond .ne 10, 3) := by decide +kernel
theorem dX10_key_54 : decode cX10_key 54 = .ok (.aload_n 0, 1) := by decide +kernel
theorem dX10_key_55 : decode cX10_key 55 = .ok (.iconst 2, 1) := by decide +kernel
theorem dX10_key_56 : decode cX10_key 56 = .ok (.invokevirtual 88, 3) := by decide +kernel
theorem dX10_key_59 : decode cX10_key 59 = .ok (.i2l, 1) := by decide +kernel
theorem dX10_key_60 : decode cX10_key 60 = .ok (.lreturn, 1) := by decide +kernel
theorem dX10_key_61 : decode cX10_key 61 = .ok (.aload_n 0, 1) := by decide +kernel
theorem dX10_key_62 : decode cX10_key 62 = .ok (.getfield 67, 3) := by decide +kernel
theorem dX10_key_65 : decode cX10_key 65 = .ok (.iload_n 3, 1) := by decide +kernel
theorem dX10_key_66 : decode cX10_key 66 = .ok (.invokevirtual 255, 3) := by decide +kernel
theorem dX10_key_69 : decode cX10_key 69 = .ok (.aload_n 0, 1) := by decide +kernel
theorem dX10_key_70 : decode cX10_key 70 = .ok (.getfield 67, 3) := by decide +kernel
theorem dX10_key_73 : decode cX10_key 73 = .ok (.iload_n 1, 1) := by decide +kernel
theorem dX10_key_74 : decode cX10_key 74 = .ok (.iload_n 2, 1) := by decide +kernel
theorem dX10_key_75 : decode cX10_key 75 = .ok (.invokevirtual 274, 3) := by decide +kernel
theorem dX10_key_78 : decode cX10_key 78 = .ok (.aload_n 0, 1) := by decide +kernel
theorem dX10_key_79 : decode cX10_key 79 = .ok (.iconst 0, 1) := by decide +kernel
theorem dX10_key_80 : decode cX10_key 80 = .ok (.putfield 71, 3) := by decide +kernel
theorem dX10_key_83 : decode cX10_key 83 = .ok (.aload_n 0, 1) := by decide +kernel
theorem dX10_key_84 : decode cX10_key 84 = .ok (.getfield 67, 3) := by decide +kernel
theorem dX10_key_87 : decode cX10_key 87 = .ok (.iload_n 1, 1) := by decide +kernel
theorem dX10_key_88 : decode cX10_key 88 = .ok (.iload_n 2, 1) := by decide +kernel
theorem dX10_key_89 : decode cX10_key 89 = .ok (.iload 4, 2) := by decide +kernel
theorem dX10_key_91 : decode cX10_key 91 = .ok (.invokevirtual 277, 3) := by decide +kernel
theorem dX10_key_94 : decode cX10_key 94 = .ok (.lreturn, 1) := by decide +kernel
theorem dX10_rank_0 : decode cX10_rank 0 = .ok (.aload_n 0, 1) := by decide +kernel
theorem dX10_rank_1 : decode cX10_rank 1 = .ok (.getfield 16, 3) := by decide +kernel
theorem dX10_rank_4 : decode cX10_rank 4 = .ok (.iload_n 1, 1) := by decide +kernel
theorem dX10_rank_5 : decode cX10_rank 5 = .ok (.invokevirtual 164, 3) := by decide +kernel
theorem dX10_rank_8 : decode cX10_rank 8 = .ok (.ifCond .eq 15, 3) := by decide +kernel
theorem dX10_rank_11 : decode cX10_rank 11 = .ok (.aload_n 0, 1) := by decide +kernel
theorem dX10_rank_12 : decode cX10_rank 12 = .ok (.getfield 37, 3) := by decide +kernel
theorem dX10_rank_15 : decode cX10_rank 15 = .ok (.iload_n 1, 1) := by decide +kernel
theorem dX10_rank_16 : decode cX10_rank 16 = .ok (.iload_n 2, 1) := by decide +kernel
theorem dX10_rank_17 : decode cX10_rank 17 = .ok (.invokevirtual 268, 3) := by decide +kernel
theorem dX10_rank_20 : decode cX10_rank 20 = .ok (.ifCond .ne 9, 3) := by decide +kernel
theorem dX10_rank_23 : decode cX10_rank 23 = .ok (.aload_n 0, 1) := by decide +kernel
theorem dX10_rank_24 : decode cX10_rank 24 = .ok (.iconst 1, 1) := by decide +kernel
theorem dX10_rank_25 : decode cX10_rank 25 = .ok (.invokevirtual 88, 3) := by decide +kernel
theorem dX10_rank_28 : decode cX10_rank 28 = .ok (.ireturn, 1) := by decide +kernel
theorem dX10_rank_29 : decode cX10_rank 29 = .ok (.iload_n 3, 1) := by decide +kernel
theorem dX10_rank_30 : decode cX10_rank 30 = .ok (.invokestatic 248, 3) := by decide +kernel
theorem dX10_rank_33 : decode cX10_rank 33 = .ok (.ifCond .ne 9, 3) := by decide +kernel
theorem dX10_rank_36 : decode cX10_rank 36 = .ok (.aload_n 0, 1) := by decide +kernel
theorem dX10_rank_37 : decode cX10_rank 37 = .ok (.iconst 2, 1) := by decide +kernel
theorem dX10_rank_38 : decode cX10_rank 38 = .ok (.invokevirtual 88, 3) := by decide +kernel
theorem dX10_rank_41 : decode cX10_rank 41 = .ok (.ireturn, 1) := by decide +kernel
theorem dX10_rank_42 : decode cX10_rank 42 = .ok (.aload_n 0, 1) := by decide +kernel
theorem dX10_rank_43 : decode cX10_rank 43 = .ok (.getfield 67, 3) := by decide +kernel
theorem dX10_rank_46 : decode cX10_rank 46 = .ok (.iload_n 1, 1) := by decide +kernel
theorem dX10_rank_47 : decode cX10_rank 47 = .ok (.iload_n 3, 1) := by decide +kernel
theorem dX10_rank_48 : decode cX10_rank 48 = .ok (.invokevirtual 281, 3) := by decide +kernel
theorem dX10_rank_51 : decode cX10_rank 51 = .ok (.aload_n 0, 1) := by decide +kernel
theorem dX10_rank_52 : decode cX10_rank 52 = .ok (.aload_n 0, 1) := by decide +kernel
theorem dX10_rank_53 : decode cX10_rank 53 = .ok (.getfield 67, 3) := by decide +kernel
theorem dX10_rank_56 : decode cX10_rank 56 = .ok (.getfield 284, 3) := by decide +kernel
theorem dX10_rank_59 : decode cX10_rank 59 = .ok (.iload_n 2, 1) := by decide +kernel
theorem dX10_rank_60 : decode cX10_rank 60 = .ok (.iaload, 1) := by decide +kernel
theorem dX10_rank_61 : decode cX10_rank 61 = .ok (.invokevirtual 120, 3) := by decide +kernel
theorem dX10_rank_64 : decode cX10_rank 64 = .ok (.ireturn, 1) := by decide +kernel
theorem dX10_advance_0 : decode cX10_advance 0 = .ok (.iload_n 1, 1) := by decide +kernel
theorem dX10_advance_1 : decode cX10_advance 1 = .ok (.iconst 1, 1) := by decide +kernel
theorem dX10_advance_2 : decode cX10_advance 2 = .ok (.if_icmp .lt 16, 3) := by decide +kernel
theorem dX10_advance_5 : decode cX10_advance 5 = .ok (.iload_n 1, 1) := by decide +kernel
theorem dX10_advance_6 : decode cX10_advance 6 = .ok (.bipush 16, 2) := by decide +kernel
theorem dX10_advance_8 : decode cX10_advance 8 = .ok (.if_icmp .gt 10, 3) := by decide +kernel
theorem dX10_advance_11 : decode cX10_advance 11 = .ok (.iload_n 2, 1) := by decide +kernel
theorem dX10_advance_12 : decode cX10_advance 12 = .ok (.invokestatic 248, 3) := by decide +kernel
theorem dX10_advance_15 : decode cX10_advance 15 = .ok (.ifCond .ne 9, 3) := by decide +kernel
theorem dX10_advance_18 : decode cX10_advance 18 = .ok (.aload_n 0, 1) := by decide +kernel
theorem dX10_advance_19 : decode cX10_advance 19 = .ok (.iconst 2, 1) := by decide +kernel
theorem dX10_advance_20 : decode cX10_advance 20 = .ok (.invokevirtual 88, 3) := by decide +kernel
theorem dX10_advance_23 : decode cX10_advance 23 = .ok (.ireturn, 1) := by decide +kernel
theorem dX10_advance_24 : decode cX10_advance 24 = .ok (.aload_n 0, 1) := by decide +kernel
theorem dX10_advance_25 : decode cX10_advance 25 = .ok (.getfield 44, 3) := by decide +kernel
theorem dX10_advance_28 : decode cX10_advance 28 = .ok (.invokevirtual 287, 3) := by decide +kernel
theorem dX10_advance_31 : decode cX10_advance 31 = .ok (.ifCond .eq 9, 3) := by decide +kernel
theorem dX10_advance_34 : decode cX10_advance 34 = .ok (.aload_n 0, 1) := by decide +kernel
theorem dX10_advance_35 : decode cX10_advance 35 = .ok (.iconst 5, 1) := by decide +kernel
theorem dX10_advance_36 : decode cX10_advance 36 = .ok (.invokevirtual 88, 3) := by decide +kernel
theorem dX10_advance_39 : decode cX10_advance 39 = .ok (.ireturn, 1) := by decide +kernel
theorem dX10_advance_40 : decode cX10_advance 40 = .ok (.aload_n 0, 1) := by decide +kernel
theorem dX10_advance_41 : decode cX10_advance 41 = .ok (.getfield 37, 3) := by decide +kernel
theorem dX10_advance_44 : decode cX10_advance 44 = .ok (.getfield 123, 3) := by decide +kernel
theorem dX10_advance_47 : decode cX10_advance 47 = .ok (.ifCond .eq 22, 3) := by decide +kernel
theorem dX10_advance_50 : decode cX10_advance 50 = .ok (.aload_n 0, 1) := by decide +kernel
theorem dX10_advance_51 : decode cX10_advance 51 = .ok (.getfield 37, 3) := by decide +kernel
theorem dX10_advance_54 : decode cX10_advance 54 = .ok (.getfield 129, 3) := by decide +kernel
theorem dX10_advance_57 : decode cX10_advance 57 = .ok (.iconst 1, 1) := by decide +kernel
theorem dX10_advance_58 : decode cX10_advance 58 = .ok (.iadd, 1) := by decide +kernel
theorem dX10_advance_59 : decode cX10_advance 59 = .ok (.aload_n 0, 1) := by decide +kernel
theorem dX10_advance_60 : decode cX10_advance 60 = .ok (.getfield 16, 3) := by decide +kernel
theorem dX10_advance_63 : decode cX10_advance 63 = .ok (.getfield 117, 3) := by decide +kernel
theorem dX10_advance_66 : decode cX10_advance 66 = .ok (.if_icmp .lt 10, 3) := by decide +kernel
theorem dX10_advance_69 : decode cX10_advance 69 = .ok (.aload_n 0, 1) := by decide +kernel
theorem dX10_advance_70 : decode cX10_advance 70 = .ok (.bipush 10, 2) := by decide +kernel
theorem dX10_advance_72 : decode cX10_advance 72 = .ok (.invokevirtual 88, 3) := by decide +kernel
theorem dX10_advance_75 : decode cX10_advance 75 = .ok (.ireturn, 1) := by decide +kernel
theorem dX10_advance_76 : decode cX10_advance 76 = .ok (.aload_n 0, 1) := by decide +kernel
theorem dX10_advance_77 : decode cX10_advance 77 = .ok (.getfield 67, 3) := by decide +kernel
theorem dX10_advance_80 : decode cX10_advance 80 = .ok (.aload_n 0, 1) := by decide +kernel
theorem dX10_advance_81 : decode cX10_advance 81 = .ok (.getfield 37, 3) := by decide +kernel
theorem dX10_advance_84 : decode cX10_advance 84 = .ok (.getfield 129, 3) := by decide +kernel
theorem dX10_advance_87 : decode cX10_advance 87 = .ok (.iload_n 2, 1) := by decide +kernel
theorem dX10_advance_88 : decode cX10_advance 88 = .ok (.invokevirtual 281, 3) := by decide +kernel
theorem dX10_advance_91 : decode cX10_advance 91 = .ok (.aload_n 0, 1) := by decide +kernel
theorem dX10_advance_92 : decode cX10_advance 92 = .ok (.getfield 37, 3) := by decide +kernel
theorem dX10_advance_95 : decode cX10_advance 95 = .ok (.aload_n 0, 1) := by decide +kernel
theorem dX10_advance_96 : decode cX10_advance 96 = .ok (.getfield 67, 3) := by decide +kernel
theorem dX10_advance_99 : decode cX10_advance 99 = .ok (.getfield 284, 3) := by decide +kernel
theorem dX10_advance_102 : decode cX10_advance 102 = .ok (.iload_n 1, 1) := by decide +kernel
theorem dX10_advance_103 : decode cX10_advance 103 = .ok (.iload_n 2, 1) := by decide +kernel
theorem dX10_advance_104 : decode cX10_advance 104 = .ok (.invokevirtual 290, 3) := by decide +kernel
theorem dX10_advance_107 : decode cX10_advance 107 = .ok (.istore_n 3, 1) := by decide +kernel
theorem dX10_advance_108 : decode cX10_advance 108 = .ok (.aload_n 0, 1) := by decide +kernel
theorem dX10_advance_109 : decode cX10_advance 109 = .ok (.getfield 58, 3) := by decide +kernel
theorem dX10_advance_112 : decode cX10_advance 112 = .ok (.invokevirtual 113, 3) := by decide +kernel
theorem dX10_advance_115 : decode cX10_advance 115 = .ok (.aload_n 0, 1) := by decide +kernel
theorem dX10_advance_116 : decode cX10_advance 116 = .ok (.iload_n 3, 1) := by decide +kernel
theorem dX10_advance_117 : decode cX10_advance 117 = .ok (.invokevirtual 120, 3) := by decide +kernel
theorem dX10_advance_120 : decode cX10_advance 120 = .ok (.ireturn, 1) := by decide +kernel
theorem dX10_order_0 : decode cX10_order 0 = .ok (.aload_n 0, 1) := by decide +kernel
theorem dX10_order_1 : decode cX10_order 1 = .ok (.getfield 16, 3) := by decide +kernel
theorem dX10_order_4 : decode cX10_order 4 = .ok (.iload_n 1, 1) := by decide +kernel
theorem dX10_order_5 : decode cX10_order 5 = .ok (.invokevirtual 164, 3) := by decide +kernel
theorem dX10_order_8 : decode cX10_order 8 = .ok (.ifCond .eq 19, 3) := by decide +kernel
theorem dX10_order_11 : decode cX10_order 11 = .ok (.iload_n 2, 1) := by decide +kernel
theorem dX10_order_12 : decode cX10_order 12 = .ok (.ifCond .lt 15, 3) := by decide +kernel
theorem dX10_order_15 : decode cX10_order 15 = .ok (.iload_n 2, 1) := by decide +kernel
theorem dX10_order_16 : decode cX10_order 16 = .ok (.aload_n 0, 1) := by decide +kernel
theorem dX10_order_17 : decode cX10_order 17 = .ok (.getfield 37, 3) := by decide +kernel
theorem dX10_order_20 : decode cX10_order 20 = .ok (.iload_n 1, 1) := by decide +kernel
theorem dX10_order_21 : decode cX10_order 21 = .ok (.invokevirtual 167, 3) := by decide +kernel
theorem dX10_order_24 : decode cX10_order 24 = .ok (.if_icmp .lt 9, 3) := by decide +kernel
theorem dX10_order_27 : decode cX10_order 27 = .ok (.aload_n 0, 1) := by decide +kernel
theorem dX10_order_28 : decode cX10_order 28 = .ok (.iconst 1, 1) := by decide +kernel
theorem dX10_order_29 : decode cX10_order 29 = .ok (.invokevirtual 88, 3) := by decide +kernel
theorem dX10_order_32 : decode cX10_order 32 = .ok (.ireturn, 1) := by decide +kernel
theorem dX10_order_33 : decode cX10_order 33 = .ok (.iload_n 1, 1) := by decide +kernel
theorem dX10_order_34 : decode cX10_order 34 = .ok (.ifCond .ne 9, 3) := by decide +kernel
theorem dX10_order_37 : decode cX10_order 37 = .ok (.aload_n 0, 1) := by decide +kernel
theorem dX10_order_38 : decode cX10_order 38 = .ok (.iload_n 2, 1) := by decide +kernel
theorem dX10_order_39 : decode cX10_order 39 = .ok (.invokevirtual 120, 3) := by decide +kernel
theorem dX10_order_42 : decode cX10_order 42 = .ok (.ireturn, 1) := by decide +kernel
theorem dX10_order_43 : decode cX10_order 43 = .ok (.aload_n 0, 1) := by decide +kernel
theorem dX10_order_44 : decode cX10_order 44 = .ok (.getfield 67, 3) := by decide +kernel
theorem dX10_order_47 : decode cX10_order 47 = .ok (.iload_n 1, 1) := by decide +kernel
theorem dX10_order_48 : decode cX10_order 48 = .ok (.iconst 1, 1) := by decide +kernel
theorem dX10_order_49 : decode cX10_order 49 = .ok (.isub, 1) := by decide +kernel
theorem dX10_order_50 : decode cX10_order 50 = .ok (.aload_n 0, 1) := by decide +kernel
theorem dX10_order_51 : decode cX10_order 51 = .ok (.getfield 37, 3) := by decide +kernel
theorem dX10_order_54 : decode cX10_order 54 = .ok (.iload_n 1, 1) := by decide +kernel
theorem dX10_order_55 : decode cX10_order 55 = .ok (.invokevirtual 294, 3) := by decide +kernel
theorem dX10_order_58 : decode cX10_order 58 = .ok (.invokevirtual 281, 3) := by decide +kernel
theorem dX10_order_61 : decode cX10_order 61 = .ok (.aload_n 0, 1) := by decide +kernel
theorem dX10_order_62 : decode cX10_order 62 = .ok (.aload_n 0, 1) := by decide +kernel
theorem dX10_order_63 : decode cX10_order 63 = .ok (.getfield 67, 3) := by decide +kernel
theorem dX10_order_66 : decode cX10_order 66 = .ok (.iload_n 1, 1) := by decide +kernel
theorem dX10_order_67 : decode cX10_order 67 = .ok (.iload_n 2, 1) := by decide +kernel
theorem dX10_order_68 : decode cX10_order 68 = .ok (.invokevirtual 297, 3) := by decide +kernel
theorem dX10_order_71 : decode cX10_order 71 = .ok (.invokevirtual 120, 3) := by decide +kernel
theorem dX10_order_74 : decode cX10_order 74 = .ok (.ireturn, 1) := by decide +kernel
theorem dX10_parts_0 : decode cX10_parts 0 = .ok (.aload_n 0, 1) := by decide +kernel
theorem dX10_parts_1 : decode cX10_parts 1 = .ok (.getfield 16, 3) := by decide +kernel
theorem dX10_parts_4 : decode cX10_parts 4 = .ok (.iload_n 1, 1) := by decide +kernel
theorem dX10_parts_5 : decode cX10_parts 5 = .ok (.invokevirtual 164, 3) := by decide +kernel
theorem dX10_parts_8 : decode cX10_parts 8 = .ok (.ifCond .ne 9, 3) := by decide +kernel
theorem dX10_parts_11 : decode cX10_parts 11 = .ok (.aload_n 0, 1) := by decide +kernel
theorem dX10_parts_12 : decode cX10_parts 12 = .ok (.iconst 1, 1) := by decide +kernel
theorem dX10_parts_13 : decode cX10_parts 13 = .ok (.invokevirtual 88, 3) := by decide +kernel
theorem dX10_parts_16 : decode cX10_parts 16 = .ok (.ireturn, 1) := by decide +kernel
theorem dX10_parts_17 : decode cX10_parts 17 = .ok (.iload_n 2, 1) := by decide +kernel
theorem dX10_parts_18 : decode cX10_parts 18 = .ok (.ifCond .lt 25, 3) := by decide +kernel
theorem dX10_parts_21 : decode cX10_parts 21 = .ok (.iload_n 2, 1) := by decide +kernel
theorem dX10_parts_22 : decode cX10_parts 22 = .ok (.iconst 1, 1) := by decide +kernel
theorem dX10_parts_23 : decode cX10_parts 23 = .ok (.aload_n 0, 1) := by decide +kernel
theorem dX10_parts_24 : decode cX10_parts 24 = .ok (.getfield 16, 3) := by decide +kernel
theorem dX10_parts_27 : decode cX10_parts 27 = .ok (.iload_n 1, 1) := by decide +kernel
theorem dX10_parts_28 : decode cX10_parts 28 = .ok (.iconst 0, 1) := by decide +kernel
theorem dX10_parts_29 : decode cX10_parts 29 = .ok (.invokevirtual 170, 3) := by decide +kernel
theorem dX10_parts_32 : decode cX10_parts 32 = .ok (.ishl, 1) := by decide +kernel
theorem dX10_parts_33 : decode cX10_parts 33 = .ok (.if_icmp .ge 10, 3) := by decide +kernel
theorem dX10_parts_36 : decode cX10_parts 36 = .ok (.iload_n 3, 1) := by decide +kernel
theorem dX10_parts_37 : decode cX10_parts 37 = .ok (.invokestatic 248, 3) := by decide +kernel
theorem dX10_parts_40 : decode cX10_parts 40 = .ok (.ifCond .ne 9, 3) := by decide +kernel
theorem dX10_parts_43 : decode cX10_parts 43 = .ok (.aload_n 0, 1) := by decide +kernel
theorem dX10_parts_44 : decode cX10_parts 44 = .ok (.iconst 2, 1) := by decide +kernel
theorem dX10_parts_45 : decode cX10_parts 45 = .ok (.invokevirtual 88, 3) := by decide +kernel
theorem dX10_parts_48 : decode cX10_parts 48 = .ok (.ireturn, 1) := by decide +kernel
theorem dX10_parts_49 : decode cX10_parts 49 = .ok (.aload_n 0, 1) := by decide +kernel
theorem dX10_parts_50 : decode cX10_parts 50 = .ok (.getfield 67, 3) := by decide +kernel
theorem dX10_parts_53 : decode cX10_parts 53 = .ok (.iload_n 1, 1) := by decide +kernel
theorem dX10_parts_54 : decode cX10_parts 54 = .ok (.iload_n 3, 1) := by decide +kernel
theorem dX10_parts_55 : decode cX10_parts 55 = .ok (.invokevirtual 300, 3) := by decide +kernel
theorem dX10_parts_58 : decode cX10_parts 58 = .ok (.aload_n 0, 1) := by decide +kernel
theorem dX10_parts_59 : decode cX10_parts 59 = .ok (.aload_n 0, 1) := by decide +kernel
theorem dX10_parts_60 : decode cX10_parts 60 = .ok (.getfield 67, 3) := by decide +kernel
theorem dX10_parts_63 : decode cX10_parts 63 = .ok (.iload_n 1, 1) := by decide +kernel
theorem dX10_parts_64 : decode cX10_parts 64 = .ok (.iload_n 2, 1) := by decide +kernel
theorem dX10_parts_65 : decode cX10_parts 65 = .ok (.invokevirtual 303, 3) := by decide +kernel
theorem dX10_parts_68 : decode cX10_parts 68 = .ok (.invokevirtual 120, 3) := by decide +kernel
theorem dX10_parts_71 : decode cX10_parts 71 = .ok (.ireturn, 1) := by decide +kernel
theorem dX10_choose_0 : decode cX10_choose 0 = .ok (.aload_n 0, 1) := by decide +kernel
theorem dX10_choose_1 : decode cX10_choose 1 = .ok (.getfield 16, 3) := by decide +kernel
theorem dX10_choose_4 : decode cX10_choose 4 = .ok (.iload_n 1, 1) := by decide +kernel
theorem dX10_choose_5 : decode cX10_choose 5 = .ok (.invokevirtual 164, 3) := by decide +kernel
theorem dX10_choose_8 : decode cX10_choose 8 = .ok (.ifCond .ne 9, 3) := by decide +kernel
theorem dX10_choose_11 : decode cX10_choose 11 = .ok (.aload_n 0, 1) := by decide +kernel
theorem dX10_choose_12 : decode cX10_choose 12 = .ok (.iconst 1, 1) := by decide +kernel
theorem dX10_choose_13 : decode cX10_choose 13 = .ok (.invokevirtual 88, 3) := by decide +kernel
theorem dX10_choose_16 : decode cX10_choose 16 = .ok (.ireturn, 1) := by decide +kernel
theorem dX10_choose_17 : decode cX10_choose 17 = .ok (.aload_n 0, 1) := by decide +kernel
theorem dX10_choose_18 : decode cX10_choose 18 = .ok (.getfield 16, 3) := by decide +kernel
theorem dX10_choose_21 : decode cX10_choose 21 = .ok (.iload_n 1, 1) := by decide +kernel
theorem dX10_choose_22 : decode cX10_choose 22 = .ok (.iconst 0, 1) := by decide +kernel
theorem dX10_choose_23 : decode cX10_choose 23 = .ok (.invokevirtual 170, 3) := by decide +kernel
theorem dX10_choose_26 : decode cX10_choose 26 = .ok (.istore 4, 2) := by decide +kernel
theorem dX10_choose_28 : decode cX10_choose 28 = .ok (.iload_n 2, 1) := by decide +kernel
theorem dX10_choose_29 : decode cX10_choose 29 = .ok (.iconst 1, 1) := by decide +kernel
theorem dX10_choose_30 : decode cX10_choose 30 = .ok (.if_icmp .lt 16, 3) := by decide +kernel
theorem dX10_choose_33 : decode cX10_choose 33 = .ok (.iload_n 2, 1) := by decide +kernel
theorem dX10_choose_34 : decode cX10_choose 34 = .ok (.iload 4, 2) := by decide +kernel
theorem dX10_choose_36 : decode cX10_choose 36 = .ok (.if_icmp .gt 10, 3) := by decide +kernel
theorem dX10_choose_39 : decode cX10_choose 39 = .ok (.iload_n 3, 1) := by decide +kernel
theorem dX10_choose_40 : decode cX10_choose 40 = .ok (.invokestatic 248, 3) := by decide +kernel
theorem dX10_choose_43 : decode cX10_choose 43 = .ok (.ifCond .ne 9, 3) := by decide +kernel
theorem dX10_choose_46 : decode cX10_choose 46 = .ok (.aload_n 0, 1) := by decide +kernel
theorem dX10_choose_47 : decode cX10_choose 47 = .ok (.iconst 2, 1) := by decide +kernel
theorem dX10_choose_48 : decode cX10_choose 48 = .ok (.invokevirtual 88, 3) := by decide +kernel
theorem dX10_choose_51 : decode cX10_choose 51 = .ok (.ireturn, 1) := by decide +kernel
theorem dX10_choose_52 : decode cX10_choose 52 = .ok (.aload_n 0, 1) := by decide +kernel
theorem dX10_choose_53 : decode cX10_choose 53 = .ok (.getfield 67, 3) := by decide +kernel
theorem dX10_choose_56 : decode cX10_choose 56 = .ok (.iload_n 1, 1) := by decide +kernel
theorem dX10_choose_57 : decode cX10_choose 57 = .ok (.iload_n 3, 1) := by decide +kernel
theorem dX10_choose_58 : decode cX10_choose 58 = .ok (.invokevirtual 300, 3) := by decide +kernel
theorem dX10_choose_61 : decode cX10_choose 61 = .ok (.aload_n 0, 1) := by decide +kernel
theorem dX10_choose_62 : decode cX10_choose 62 = .ok (.aload_n 0, 1) := by decide +kernel
theorem dX10_choose_63 : decode cX10_choose 63 = .ok (.getfield 67, 3) := by decide +kernel
theorem dX10_choose_66 : decode cX10_choose 66 = .ok (.iload_n 1, 1) := by decide +kernel
theorem dX10_choose_67 : decode cX10_choose 67 = .ok (.iload 4, 2) := by decide +kernel
theorem dX10_choose_69 : decode cX10_choose 69 = .ok (.iload_n 2, 1) := by decide +kernel
theorem dX10_choose_70 : decode cX10_choose 70 = .ok (.invokevirtual 306, 3) := by decide +kernel
theorem dX10_choose_73 : decode cX10_choose 73 = .ok (.invokevirtual 120, 3) := by decide +kernel
theorem dX10_choose_76 : decode cX10_choose 76 = .ok (.ireturn, 1) := by decide +kernel
