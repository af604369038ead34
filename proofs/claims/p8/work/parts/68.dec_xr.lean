theorem dX4_pointsFor_0 : decode cX4_pointsFor 0 = .ok (.iconst 0, 1) := by decide +kernel
theorem dX4_pointsFor_1 : decode cX4_pointsFor 1 = .ok (.istore_n 2, 1) := by decide +kernel
theorem dX4_pointsFor_2 : decode cX4_pointsFor 2 = .ok (.iconst 0, 1) := by decide +kernel
theorem dX4_pointsFor_3 : decode cX4_pointsFor 3 = .ok (.istore_n 3, 1) := by decide +kernel
theorem dX4_pointsFor_4 : decode cX4_pointsFor 4 = .ok (.iload_n 3, 1) := by decide +kernel
theorem dX4_pointsFor_5 : decode cX4_pointsFor 5 = .ok (.aload_n 0, 1) := by decide +kernel
theorem dX4_pointsFor_6 : decode cX4_pointsFor 6 = .ok (.getfield 35, 3) := by decide +kernel
theorem dX4_pointsFor_9 : decode cX4_pointsFor 9 = .ok (.if_icmp .ge 133, 3) := by decide +kernel
theorem dX4_pointsFor_12 : decode cX4_pointsFor 12 = .ok (.aload_n 0, 1) := by decide +kernel
theorem dX4_pointsFor_13 : decode cX4_pointsFor 13 = .ok (.getfield 15, 3) := by decide +kernel
theorem dX4_pointsFor_16 : decode cX4_pointsFor 16 = .ok (.iload_n 3, 1) := by decide +kernel
theorem dX4_pointsFor_17 : decode cX4_pointsFor 17 = .ok (.iaload, 1) := by decide +kernel
theorem dX4_pointsFor_18 : decode cX4_pointsFor 18 = .ok (.istore 4, 2) := by decide +kernel
theorem dX4_pointsFor_20 : decode cX4_pointsFor 20 = .ok (.iload 4, 2) := by decide +kernel
theorem dX4_pointsFor_22 : decode cX4_pointsFor 22 = .ok (.bipush 6, 2) := by decide +kernel
theorem dX4_pointsFor_24 : decode cX4_pointsFor 24 = .ok (.if_icmp .gt 43, 3) := by decide +kernel
theorem dX4_pointsFor_27 : decode cX4_pointsFor 27 = .ok (.iload_n 2, 1) := by decide +kernel
theorem dX4_pointsFor_28 : decode cX4_pointsFor 28 = .ok (.bipush 40, 2) := by decide +kernel
theorem dX4_pointsFor_30 : decode cX4_pointsFor 30 = .ok (.if_icmp .ge 106, 3) := by decide +kernel
theorem dX4_pointsFor_33 : decode cX4_pointsFor 33 = .ok (.aload_n 0, 1) := by decide +kernel
theorem dX4_pointsFor_34 : decode cX4_pointsFor 34 = .ok (.getfield 27, 3) := by decide +kernel
theorem dX4_pointsFor_37 : decode cX4_pointsFor 37 = .ok (.iload_n 2, 1) := by decide +kernel
theorem dX4_pointsFor_38 : decode cX4_pointsFor 38 = .ok (.iload 4, 2) := by decide +kernel
theorem dX4_pointsFor_40 : decode cX4_pointsFor 40 = .ok (.bipush 6, 2) := by decide +kernel
theorem dX4_pointsFor_42 : decode cX4_pointsFor 42 = .ok (.if_icmp .ne 13, 3) := by decide +kernel
theorem dX4_pointsFor_45 : decode cX4_pointsFor 45 = .ok (.aload_n 0, 1) := by decide +kernel
theorem dX4_pointsFor_46 : decode cX4_pointsFor 46 = .ok (.getfield 18, 3) := by decide +kernel
theorem dX4_pointsFor_49 : decode cX4_pointsFor 49 = .ok (.iload_n 3, 1) := by decide +kernel
theorem dX4_pointsFor_50 : decode cX4_pointsFor 50 = .ok (.iaload, 1) := by decide +kernel
theorem dX4_pointsFor_51 : decode cX4_pointsFor 51 = .ok (.i2l, 1) := by decide +kernel
theorem dX4_pointsFor_52 : decode cX4_pointsFor 52 = .ok (.goto 8, 3) := by decide +kernel
theorem dX4_pointsFor_55 : decode cX4_pointsFor 55 = .ok (.aload_n 1, 1) := by decide +kernel
theorem dX4_pointsFor_56 : decode cX4_pointsFor 56 = .ok (.iload 4, 2) := by decide +kernel
theorem dX4_pointsFor_58 : decode cX4_pointsFor 58 = .ok (.iaload, 1) := by decide +kernel
theorem dX4_pointsFor_59 : decode cX4_pointsFor 59 = .ok (.i2l, 1) := by decide +kernel
theorem dX4_pointsFor_60 : decode cX4_pointsFor 60 = .ok (.lastore, 1) := by decide +kernel
theorem dX4_pointsFor_61 : decode cX4_pointsFor 61 = .ok (.iinc 2 1, 3) := by decide +kernel
theorem dX4_pointsFor_64 : decode cX4_pointsFor 64 = .ok (.goto 72, 3) := by decide +kernel
theorem dX4_pointsFor_67 : decode cX4_pointsFor 67 = .ok (.iload 4, 2) := by decide +kernel
theorem dX4_pointsFor_69 : decode cX4_pointsFor 69 = .ok (.bipush 10, 2) := by decide +kernel
theorem dX4_pointsFor_71 : decode cX4_pointsFor 71 = .ok (.if_icmp .ne 27, 3) := by decide +kernel
theorem dX4_pointsFor_74 : decode cX4_pointsFor 74 = .ok (.iload_n 2, 1) := by decide +kernel
theorem dX4_pointsFor_75 : decode cX4_pointsFor 75 = .ok (.ifCond .le 61, 3) := by decide +kernel
theorem dX4_pointsFor_78 : decode cX4_pointsFor 78 = .ok (.aload_n 0, 1) := by decide +kernel
theorem dX4_pointsFor_79 : decode cX4_pointsFor 79 = .ok (.getfield 27, 3) := by decide +kernel
theorem dX4_pointsFor_82 : decode cX4_pointsFor 82 = .ok (.iload_n 2, 1) := by decide +kernel
theorem dX4_pointsFor_83 : decode cX4_pointsFor 83 = .ok (.iconst 1, 1) := by decide +kernel
theorem dX4_pointsFor_84 : decode cX4_pointsFor 84 = .ok (.isub, 1) := by decide +kernel
theorem dX4_pointsFor_85 : decode cX4_pointsFor 85 = .ok (.aload_n 0, 1) := by decide +kernel
theorem dX4_pointsFor_86 : decode cX4_pointsFor 86 = .ok (.getfield 27, 3) := by decide +kernel
theorem dX4_pointsFor_89 : decode cX4_pointsFor 89 = .ok (.iload_n 2, 1) := by decide +kernel
theorem dX4_pointsFor_90 : decode cX4_pointsFor 90 = .ok (.iconst 1, 1) := by decide +kernel
theorem dX4_pointsFor_91 : decode cX4_pointsFor 91 = .ok (.isub, 1) := by decide +kernel
theorem dX4_pointsFor_92 : decode cX4_pointsFor 92 = .ok (.laload, 1) := by decide +kernel
theorem dX4_pointsFor_93 : decode cX4_pointsFor 93 = .ok (.lneg, 1) := by decide +kernel
theorem dX4_pointsFor_94 : decode cX4_pointsFor 94 = .ok (.lastore, 1) := by decide +kernel
theorem dX4_pointsFor_95 : decode cX4_pointsFor 95 = .ok (.goto 41, 3) := by decide +kernel
theorem dX4_pointsFor_98 : decode cX4_pointsFor 98 = .ok (.iload_n 2, 1) := by decide +kernel
theorem dX4_pointsFor_99 : decode cX4_pointsFor 99 = .ok (.iconst 1, 1) := by decide +kernel
theorem dX4_pointsFor_100 : decode cX4_pointsFor 100 = .ok (.if_icmp .le 36, 3) := by decide +kernel
theorem dX4_pointsFor_103 : decode cX4_pointsFor 103 = .ok (.iinc 2 (-1), 3) := by decide +kernel
theorem dX4_pointsFor_106 : decode cX4_pointsFor 106 = .ok (.aload_n 0, 1) := by decide +kernel
theorem dX4_pointsFor_107 : decode cX4_pointsFor 107 = .ok (.getfield 27, 3) := by decide +kernel
theorem dX4_pointsFor_110 : decode cX4_pointsFor 110 = .ok (.iload_n 2, 1) := by decide +kernel
theorem dX4_pointsFor_111 : decode cX4_pointsFor 111 = .ok (.iconst 1, 1) := by decide +kernel
theorem dX4_pointsFor_112 : decode cX4_pointsFor 112 = .ok (.isub, 1) := by decide +kernel
theorem dX4_pointsFor_113 : decode cX4_pointsFor 113 = .ok (.iload 4, 2) := by decide +kernel
theorem dX4_pointsFor_115 : decode cX4_pointsFor 115 = .ok (.aload_n 0, 1) := by decide +kernel
theorem dX4_pointsFor_116 : decode cX4_pointsFor 116 = .ok (.getfield 27, 3) := by decide +kernel
theorem dX4_pointsFor_119 : decode cX4_pointsFor 119 = .ok (.iload_n 2, 1) := by decide +kernel
theorem dX4_pointsFor_120 : decode cX4_pointsFor 120 = .ok (.iconst 1, 1) := by decide +kernel
theorem dX4_pointsFor_121 : decode cX4_pointsFor 121 = .ok (.isub, 1) := by decide +kernel
theorem dX4_pointsFor_122 : decode cX4_pointsFor 122 = .ok (.laload, 1) := by decide +kernel
theorem dX4_pointsFor_123 : decode cX4_pointsFor 123 = .ok (.aload_n 0, 1) := by decide +kernel
theorem dX4_pointsFor_124 : decode cX4_pointsFor 124 = .ok (.getfield 27, 3) := by decide +kernel
theorem dX4_pointsFor_127 : decode cX4_pointsFor 127 = .ok (.iload_n 2, 1) := by decide +kernel
theorem dX4_pointsFor_128 : decode cX4_pointsFor 128 = .ok (.laload, 1) := by decide +kernel
theorem dX4_pointsFor_129 : decode cX4_pointsFor 129 = .ok (.invokestatic 63, 3) := by decide +kernel
theorem dX4_pointsFor_132 : decode cX4_pointsFor 132 = .ok (.invokestatic 67, 3) := by decide +kernel
theorem dX4_pointsFor_135 : decode cX4_pointsFor 135 = .ok (.lastore, 1) := by decide +kernel
theorem dX4_pointsFor_136 : decode cX4_pointsFor 136 = .ok (.iinc 3 1, 3) := by decide +kernel
theorem dX4_pointsFor_139 : decode cX4_pointsFor 139 = .ok (.goto (-135), 3) := by decide +kernel
theorem dX4_pointsFor_142 : decode cX4_pointsFor 142 = .ok (.iload_n 2, 1) := by decide +kernel
theorem dX4_pointsFor_143 : decode cX4_pointsFor 143 = .ok (.ifCond .le 13, 3) := by decide +kernel
theorem dX4_pointsFor_146 : decode cX4_pointsFor 146 = .ok (.aload_n 0, 1) := by decide +kernel
theorem dX4_pointsFor_147 : decode cX4_pointsFor 147 = .ok (.getfield 27, 3) := by decide +kernel
theorem dX4_pointsFor_150 : decode cX4_pointsFor 150 = .ok (.iconst 0, 1) := by decide +kernel
theorem dX4_pointsFor_151 : decode cX4_pointsFor 151 = .ok (.laload, 1) := by decide +kernel
theorem dX4_pointsFor_152 : decode cX4_pointsFor 152 = .ok (.l2i, 1) := by decide +kernel
theorem dX4_pointsFor_153 : decode cX4_pointsFor 153 = .ok (.goto 4, 3) := by decide +kernel
theorem dX4_pointsFor_156 : decode cX4_pointsFor 156 = .ok (.iconst 0, 1) := by decide +kernel
theorem dX4_pointsFor_157 : decode cX4_pointsFor 157 = .ok (.ireturn, 1) := by decide +kernel
theorem dX4_worked_0 : decode cX4_worked 0 = .ok (.iload_n 0, 1) := by decide +kernel
theorem dX4_worked_1 : decode cX4_worked 1 = .ok (.bipush 9, 2) := by decide +kernel
theorem dX4_worked_3 : decode cX4_worked 3 = .ok (.if_icmp .ne 7, 3) := by decide +kernel
theorem dX4_worked_6 : decode cX4_worked 6 = .ok (.lload_n 1, 1) := by decide +kernel
theorem dX4_worked_7 : decode cX4_worked 7 = .ok (.lload_n 3, 1) := by decide +kernel
theorem dX4_worked_8 : decode cX4_worked 8 = .ok (.lmul, 1) := by decide +kernel
theorem dX4_worked_9 : decode cX4_worked 9 = .ok (.lreturn, 1) := by decide +kernel
theorem dX4_worked_10 : decode cX4_worked 10 = .ok (.iload_n 0, 1) := by decide +kernel
theorem dX4_worked_11 : decode cX4_worked 11 = .ok (.bipush 7, 2) := by decide +kernel
theorem dX4_worked_13 : decode cX4_worked 13 = .ok (.if_icmp .ne 9, 3) := by decide +kernel
theorem dX4_worked_16 : decode cX4_worked 16 = .ok (.lload_n 1, 1) := by decide +kernel
theorem dX4_worked_17 : decode cX4_worked 17 = .ok (.lload_n 3, 1) := by decide +kernel
theorem dX4_worked_18 : decode cX4_worked 18 = .ok (.ladd, 1) := by decide +kernel
theorem dX4_worked_19 : decode cX4_worked 19 = .ok (.goto 6, 3) := by decide +kernel
theorem dX4_worked_22 : decode cX4_worked 22 = .ok (.lload_n 1, 1) := by decide +kernel
theorem dX4_worked_23 : decode cX4_worked 23 = .ok (.lload_n 3, 1) := by decide +kernel
theorem dX4_worked_24 : decode cX4_worked 24 = .ok (.lsub, 1) := by decide +kernel
theorem dX4_worked_25 : decode cX4_worked 25 = .ok (.lreturn, 1) := by decide +kernel
theorem dX4_bounded_0 : decode cX4_bounded 0 = .ok (.ldc2_w 71, 3) := by decide +kernel
theorem dX4_bounded_3 : decode cX4_bounded 3 = .ok (.ldc2_w 73, 3) := by decide +kernel
theorem dX4_bounded_6 : decode cX4_bounded 6 = .ok (.lload_n 0, 1) := by decide +kernel
theorem dX4_bounded_7 : decode cX4_bounded 7 = .ok (.invokestatic 75, 3) := by decide +kernel
theorem dX4_bounded_10 : decode cX4_bounded 10 = .ok (.invokestatic 81, 3) := by decide +kernel
theorem dX4_bounded_13 : decode cX4_bounded 13 = .ok (.lreturn, 1) := by decide +kernel
theorem dX5_survey_0 : decode cX5_survey 0 = .ok (.aload_n 0, 1) := by decide +kernel
theorem dX5_survey_1 : decode cX5_survey 1 = .ok (.iload_n 1, 1) := by decide +kernel
theorem dX5_survey_2 : decode cX5_survey 2 = .ok (.invokevirtual 63, 3) := by decide +kernel
theorem dX5_survey_5 : decode cX5_survey 5 = .ok (.aload_n 0, 1) := by decide +kernel
theorem dX5_survey_6 : decode cX5_survey 6 = .ok (.getfield 18, 3) := by decide +kernel
theorem dX5_survey_9 : decode cX5_survey 9 = .ok (.iconst 0, 1) := by decide +kernel
theorem dX5_survey_10 : decode cX5_survey 10 = .ok (.invokestatic 67, 3) := by decide +kernel
theorem dX5_survey_13 : decode cX5_survey 13 = .ok (.iconst 0, 1) := by decide +kernel
theorem dX5_survey_14 : decode cX5_survey 14 = .ok (.istore_n 2, 1) := by decide +kernel
theorem dX5_survey_15 : decode cX5_survey 15 = .ok (.iload_n 2, 1) := by decide +kernel
theorem dX5_survey_16 : decode cX5_survey 16 = .ok (.aload_n 0, 1) := by decide +kernel
theorem dX5_survey_17 : decode cX5_survey 17 = .ok (.getfield 55, 3) := by decide +kernel
theorem dX5_survey_20 : decode cX5_survey 20 = .ok (.getfield 73, 3) := by decide +kernel
theorem dX5_survey_23 : decode cX5_survey 23 = .ok (.if_icmp .ge 112, 3) := by decide +kernel
theorem dX5_survey_26 : decode cX5_survey 26 = .ok (.aload_n 0, 1) := by decide +kernel
theorem dX5_survey_27 : decode cX5_survey 27 = .ok (.getfield 55, 3) := by decide +kernel
theorem dX5_survey_30 : decode cX5_survey 30 = .ok (.getfield 79, 3) := by decide +kernel
theorem dX5_survey_33 : decode cX5_survey 33 = .ok (.iload_n 2, 1) := by decide +kernel
theorem dX5_survey_34 : decode cX5_survey 34 = .ok (.iaload, 1) := by decide +kernel
theorem dX5_survey_35 : decode cX5_survey 35 = .ok (.iconst 4, 1) := by decide +kernel
theorem dX5_survey_36 : decode cX5_survey 36 = .ok (.if_icmp .eq 93, 3) := by decide +kernel
theorem dX5_survey_39 : decode cX5_survey 39 = .ok (.aload_n 0, 1) := by decide +kernel
theorem dX5_survey_40 : decode cX5_survey 40 = .ok (.getfield 55, 3) := by decide +kernel
theorem dX5_survey_43 : decode cX5_survey 43 = .ok (.getfield 82, 3) := by decide +kernel
theorem dX5_survey_46 : decode cX5_survey 46 = .ok (.iload_n 2, 1) := by decide +kernel
theorem dX5_survey_47 : decode cX5_survey 47 = .ok (.iaload, 1) := by decide +kernel
theorem dX5_survey_48 : decode cX5_survey 48 = .ok (.aload_n 0, 1) := by decide +kernel
theorem dX5_survey_49 : decode cX5_survey 49 = .ok (.getfield 55, 3) := by decide +kernel
theorem dX5_survey_52 : decode cX5_survey 52 = .ok (.getfield 85, 3) := by decide +kernel
theorem dX5_survey_55 : decode cX5_survey 55 = .ok (.iload_n 2, 1) := by decide +kernel
theorem dX5_survey_56 : decode cX5_survey 56 = .ok (.iaload, 1) := by decide +kernel
theorem dX5_survey_57 : decode cX5_survey 57 = .ok (.aload_n 0, 1) := by decide +kernel
theorem dX5_survey_58 : decode cX5_survey 58 = .ok (.getfield 55, 3) := by decide +kernel
theorem dX5_survey_61 : decode cX5_survey 61 = .ok (.getfield 88, 3) := by decide +kernel
theorem dX5_survey_64 : decode cX5_survey 64 = .ok (.iload_n 2, 1) := by decide +kernel
theorem dX5_survey_65 : decode cX5_survey 65 = .ok (.iaload, 1) := by decide +kernel
theorem dX5_survey_66 : decode cX5_survey 66 = .ok (.invokestatic 91, 3) := by decide +kernel
theorem dX5_survey_69 : decode cX5_survey 69 = .ok (.istore_n 3, 1) := by decide +kernel
theorem dX5_survey_70 : decode cX5_survey 70 = .ok (.aload_n 0, 1) := by decide +kernel
theorem dX5_survey_71 : decode cX5_survey 71 = .ok (.getfield 18, 3) := by decide +kernel
theorem dX5_survey_74 : decode cX5_survey 74 = .ok (.iload_n 3, 1) := by decide +kernel
theorem dX5_survey_75 : decode cX5_survey 75 = .ok (.dup2, 1) := by decide +kernel
theorem dX5_survey_76 : decode cX5_survey 76 = .ok (.iaload, 1) := by decide +kernel
theorem dX5_survey_77 : decode cX5_survey 77 = .ok (.iconst 1, 1) := by decide +kernel
theorem dX5_survey_78 : decode cX5_survey 78 = .ok (.iadd, 1) := by decide +kernel
theorem dX5_survey_79 : decode cX5_survey 79 = .ok (.iastore, 1) := by decide +kernel
theorem dX5_survey_80 : decode cX5_survey 80 = .ok (.aload_n 0, 1) := by decide +kernel
theorem dX5_survey_81 : decode cX5_survey 81 = .ok (.getfield 18, 3) := by decide +kernel
theorem dX5_survey_84 : decode cX5_survey 84 = .ok (.iload_n 3, 1) := by decide +kernel
theorem dX5_survey_85 : decode cX5_survey 85 = .ok (.iaload, 1) := by decide +kernel
theorem dX5_survey_86 : decode cX5_survey 86 = .ok (.iconst 1, 1) := by decide +kernel
theorem dX5_survey_87 : decode cX5_survey 87 = .ok (.if_icmp .eq 23, 3) := by decide +kernel
theorem dX5_survey_90 : decode cX5_survey 90 = .ok (.aload_n 0, 1) := by decide +kernel
theorem dX5_survey_91 : decode cX5_survey 91 = .ok (.getfield 9, 3) := by decide +kernel
theorem dX5_survey_94 : decode cX5_survey 94 = .ok (.iload_n 2, 1) := by decide +kernel
theorem dX5_survey_95 : decode cX5_survey 95 = .ok (.iaload, 1) := by decide +kernel
theorem dX5_survey_96 : decode cX5_survey 96 = .ok (.aload_n 0, 1) := by decide +kernel
theorem dX5_survey_97 : decode cX5_survey 97 = .ok (.getfield 9, 3) := by decide +kernel
theorem dX5_survey_100 : decode cX5_survey 100 = .ok (.aload_n 0, 1) := by decide +kernel
theorem dX5_survey_101 : decode cX5_survey 101 = .ok (.getfield 21, 3) := by decide +kernel
theorem dX5_survey_104 : decode cX5_survey 104 = .ok (.iload_n 3, 1) := by decide +kernel
theorem dX5_survey_105 : decode cX5_survey 105 = .ok (.iaload, 1) := by decide +kernel
theorem dX5_survey_106 : decode cX5_survey 106 = .ok (.iaload, 1) := by decide +kernel
theorem dX5_survey_107 : decode cX5_survey 107 = .ok (.if_icmp .le 22, 3) := by decide +kernel
theorem dX5_survey_110 : decode cX5_survey 110 = .ok (.aload_n 0, 1) := by decide +kernel
theorem dX5_survey_111 : decode cX5_survey 111 = .ok (.getfield 21, 3) := by decide +kernel
theorem dX5_survey_114 : decode cX5_survey 114 = .ok (.iload_n 3, 1) := by decide +kernel
theorem dX5_survey_115 : decode cX5_survey 115 = .ok (.iload_n 2, 1) := by decide +kernel
theorem dX5_survey_116 : decode cX5_survey 116 = .ok (.iastore, 1) := by decide +kernel
theorem dX5_survey_117 : decode cX5_survey 117 = .ok (.aload_n 0, 1) := by decide +kernel
theorem dX5_survey_118 : decode cX5_survey 118 = .ok (.getfield 24, 3) := by decide +kernel
theorem dX5_survey_121 : decode cX5_survey 121 = .ok (.iload_n 3, 1) := by decide +kernel
theorem dX5_survey_122 : decode cX5_survey 122 = .ok (.aload_n 0, 1) := by decide +kernel
theorem dX5_survey_123 : decode cX5_survey 123 = .ok (.getfield 18, 3) := by decide +kernel
theorem dX5_survey_126 : decode cX5_survey 126 = .ok (.iload_n 3, 1) := by decide +kernel
theorem dX5_survey_127 : decode cX5_survey 127 = .ok (.iaload, 1) := by decide +kernel
theorem dX5_survey_128 : decode cX5_survey 128 = .ok (.iastore, 1) := by decide +kernel
theorem dX5_survey_129 : decode cX5_survey 129 = .ok (.iinc 2 1, 3) := by decide +kernel
theorem dX5_survey_132 : decode cX5_survey 132 = .ok (.goto (-117), 3) := by decide +kernel
theorem dX5_survey_135 : decode cX5_survey 135 = .ok (.return_, 1) := by decide +kernel
theorem dX5_hearAppeals_0 : decode cX5_hearAppeals 0 = .ok (.iconst 0, 1) := by decide +kernel
theorem dX5_hearAppeals_1 : decode cX5_hearAppeals 1 = .ok (.istore_n 2, 1) := by decide +kernel
theorem dX5_hearAppeals_2 : decode cX5_hearAppeals 2 = .ok (.iload_n 2, 1) := by decide +kernel
theorem dX5_hearAppeals_3 : decode cX5_hearAppeals 3 = .ok (.aload_n 0, 1) := by decide +kernel
theorem dX5_hearAppeals_4 : decode cX5_hearAppeals 4 = .ok (.getfield 55, 3) := by decide +kernel
theorem dX5_hearAppeals_7 : decode cX5_hearAppeals 7 = .ok (.getfield 73, 3) := by decide +kernel
theorem dX5_hearAppeals_10 : decode cX5_hearAppeals 10 = .ok (.if_icmp .ge 31, 3) := by decide +kernel
theorem dX5_hearAppeals_13 : decode cX5_hearAppeals 13 = .ok (.aload_n 0, 1) := by decide +kernel
theorem dX5_hearAppeals_14 : decode cX5_hearAppeals 14 = .ok (.getfield 9, 3) := by decide +kernel
theorem dX5_hearAppeals_17 : decode cX5_hearAppeals 17 = .ok (.iload_n 2, 1) := by decide +kernel
theorem dX5_hearAppeals_18 : decode cX5_hearAppeals 18 = .ok (.aload_n 0, 1) := by decide +kernel
theorem dX5_hearAppeals_19 : decode cX5_hearAppeals 19 = .ok (.getfield 55, 3) := by decide +kernel
theorem dX5_hearAppeals_22 : decode cX5_hearAppeals 22 = .ok (.getfield 95, 3) := by decide +kernel
theorem dX5_hearAppeals_25 : decode cX5_hearAppeals 25 = .ok (.iload_n 2, 1) := by decide +kernel
theorem dX5_hearAppeals_26 : decode cX5_hearAppeals 26 = .ok (.iaload, 1) := by decide +kernel
theorem dX5_hearAppeals_27 : decode cX5_hearAppeals 27 = .ok (.iastore, 1) := by decide +kernel
theorem dX5_hearAppeals_28 : decode cX5_hearAppeals 28 = .ok (.aload_n 0, 1) := by decide +kernel
theorem dX5_hearAppeals_29 : decode cX5_hearAppeals 29 = .ok (.getfield 15, 3) := by decide +kernel
theorem dX5_hearAppeals_32 : decode cX5_hearAppeals 32 = .ok (.iload_n 2, 1) := by decide +kernel
theorem dX5_hearAppeals_33 : decode cX5_hearAppeals 33 = .ok (.iconst (-1), 1) := by decide +kernel
theorem dX5_hearAppeals_34 : decode cX5_hearAppeals 34 = .ok (.iastore, 1) := by decide +kernel
theorem dX5_hearAppeals_35 : decode cX5_hearAppeals 35 = .ok (.iinc 2 1, 3) := by decide +kernel
theorem dX5_hearAppeals_38 : decode cX5_hearAppeals 38 = .ok (.goto (-36), 3) := by decide +kernel
theorem dX5_hearAppeals_41 : decode cX5_hearAppeals 41 = .ok (.iconst 0, 1) := by decide +kernel
theorem dX5_hearAppeals_42 : decode cX5_hearAppeals 42 = .ok (.istore_n 2, 1) := by decide +kernel
theorem dX5_hearAppeals_43 : decode cX5_hearAppeals 43 = .ok (.iload_n 2, 1) := by decide +kernel
theorem dX5_hearAppeals_44 : decode cX5_hearAppeals 44 = .ok (.aload_n 0, 1) := by decide +kernel
theorem dX5_hearAppeals_45 : decode cX5_hearAppeals 45 = .ok (.getfield 59, 3) := by decide +kernel
theorem dX5_hearAppeals_48 : decode cX5_hearAppeals 48 = .ok (.getfield 98, 3) := by decide +kernel
theorem dX5_hearAppeals_51 : decode cX5_hearAppeals 51 = .ok (.if_icmp .ge 80, 3) := by decide +kernel
theorem dX5_hearAppeals_54 : decode cX5_hearAppeals 54 = .ok (.aload_n 0, 1) := by decide +kernel
theorem dX5_hearAppeals_55 : decode cX5_hearAppeals 55 = .ok (.getfield 59, 3) := by decide +kernel
theorem dX5_hearAppeals_58 : decode cX5_hearAppeals 58 = .ok (.getfield 101, 3) := by decide +kernel
theorem dX5_hearAppeals_61 : decode cX5_hearAppeals 61 = .ok (.iload_n 2, 1) := by decide +kernel
theorem dX5_hearAppeals_62 : decode cX5_hearAppeals 62 = .ok (.iaload, 1) := by decide +kernel
theorem dX5_hearAppeals_63 : decode cX5_hearAppeals 63 = .ok (.istore_n 3, 1) := by decide +kernel
theorem dX5_hearAppeals_64 : decode cX5_hearAppeals 64 = .ok (.aload_n 0, 1) := by decide +kernel
theorem dX5_hearAppeals_65 : decode cX5_hearAppeals 65 = .ok (.getfield 59, 3) := by decide +kernel
theorem dX5_hearAppeals_68 : decode cX5_hearAppeals 68 = .ok (.getfield 104, 3) := by decide +kernel
theorem dX5_hearAppeals_71 : decode cX5_hearAppeals 71 = .ok (.iload_n 2, 1) := by decide +kernel
theorem dX5_hearAppeals_72 : decode cX5_hearAppeals 72 = .ok (.iaload, 1) := by decide +kernel
theorem dX5_hearAppeals_73 : decode cX5_hearAppeals 73 = .ok (.iload_n 1, 1) := by decide +kernel
theorem dX5_hearAppeals_74 : decode cX5_hearAppeals 74 = .ok (.if_icmp .gt 51, 3) := by decide +kernel
theorem dX5_hearAppeals_77 : decode cX5_hearAppeals 77 = .ok (.aload_n 0, 1) := by decide +kernel
theorem dX5_hearAppeals_78 : decode cX5_hearAppeals 78 = .ok (.getfield 59, 3) := by decide +kernel
theorem dX5_hearAppeals_81 : decode cX5_hearAppeals 81 = .ok (.getfield 104, 3) := by decide +kernel
theorem dX5_hearAppeals_84 : decode cX5_hearAppeals 84 = .ok (.iload_n 2, 1) := by decide +kernel
theorem dX5_hearAppeals_85 : decode cX5_hearAppeals 85 = .ok (.iaload, 1) := by decide +kernel
theorem dX5_hearAppeals_86 : decode cX5_hearAppeals 86 = .ok (.aload_n 0, 1) := by decide +kernel
theorem dX5_hearAppeals_87 : decode cX5_hearAppeals 87 = .ok (.getfield 15, 3) := by decide +kernel
theorem dX5_hearAppeals_90 : decode cX5_hearAppeals 90 = .ok (.iload_n 3, 1) := by decide +kernel
theorem dX5_hearAppeals_91 : decode cX5_hearAppeals 91 = .ok (.iaload, 1) := by decide +kernel
theorem dX5_hearAppeals_92 : decode cX5_hearAppeals 92 = .ok (.if_icmp .lt 33, 3) := by decide +kernel
theorem dX5_hearAppeals_95 : decode cX5_hearAppeals 95 = .ok (.aload_n 0, 1) := by decide +kernel
theorem dX5_hearAppeals_96 : decode cX5_hearAppeals 96 = .ok (.getfield 9, 3) := by decide +kernel
theorem dX5_hearAppeals_99 : decode cX5_hearAppeals 99 = .ok (.iload_n 3, 1) := by decide +kernel
theorem dX5_hearAppeals_100 : decode cX5_hearAppeals 100 = .ok (.aload_n 0, 1) := by decide +kernel
theorem dX5_hearAppeals_101 : decode cX5_hearAppeals 101 = .ok (.getfield 59, 3) := by decide +kernel
theorem dX5_hearAppeals_104 : decode cX5_hearAppeals 104 = .ok (.getfield 107, 3) := by decide +kernel
theorem dX5_hearAppeals_107 : decode cX5_hearAppeals 107 = .ok (.iload_n 2, 1) := by decide +kernel
theorem dX5_hearAppeals_108 : decode cX5_hearAppeals 108 = .ok (.iaload, 1) := by decide +kernel
theorem dX5_hearAppeals_109 : decode cX5_hearAppeals 109 = .ok (.iastore, 1) := by decide +kernel
theorem dX5_hearAppeals_110 : decode cX5_hearAppeals 110 = .ok (.aload_n 0, 1) := by decide +kernel
theorem dX5_hearAppeals_111 : decode cX5_hearAppeals 111 = .ok (.getfield 15, 3) := by decide +kernel
theorem dX5_hearAppeals_114 : decode cX5_hearAppeals 114 = .ok (.iload_n 3, 1) := by decide +kernel
theorem dX5_hearAppeals_115 : decode cX5_hearAppeals 115 = .ok (.aload_n 0, 1) := by decide +kernel
theorem dX5_hearAppeals_116 : decode cX5_hearAppeals 116 = .ok (.getfield 59, 3) := by decide +kernel
theorem dX5_hearAppeals_119 : decode cX5_hearAppeals 119 = .ok (.getfield 104, 3) := by decide +kernel
theorem dX5_hearAppeals_122 : decode cX5_hearAppeals 122 = .ok (.iload_n 2, 1) := by decide +kernel
theorem dX5_hearAppeals_123 : decode cX5_hearAppeals 123 = .ok (.iaload, 1) := by decide +kernel
theorem dX5_hearAppeals_124 : decode cX5_hearAppeals 124 = .ok (.iastore, 1) := by decide +kernel
theorem dX5_hearAppeals_125 : decode cX5_hearAppeals 125 = .ok (.iinc 2 1, 3) := by decide +kernel
theorem dX5_hearAppeals_128 : decode cX5_hearAppeals 128 = .ok (.goto (-85), 3) := by decide +kernel
theorem dX5_hearAppeals_131 : decode cX5_hearAppeals 131 = .ok (.return_, 1) := by decide +kernel
theorem dX5_workFacts_0 : decode cX5_workFacts 0 = .ok (.aload_n 0, 1) := by decide +kernel
theorem dX5_workFacts_1 : decode cX5_workFacts 1 = .ok (.getfield 27, 3) := by decide +kernel
theorem dX5_workFacts_4 : decode cX5_workFacts 4 = .ok (.iconst 0, 1) := by decide +kernel
theorem dX5_workFacts_5 : decode cX5_workFacts 5 = .ok (.invokestatic 67, 3) := by decide +kernel
theorem dX5_workFacts_8 : decode cX5_workFacts 8 = .ok (.iload_n 1, 1) := by decide +kernel
theorem dX5_workFacts_9 : decode cX5_workFacts 9 = .ok (.iload_n 2, 1) := by decide +kernel
theorem dX5_workFacts_10 : decode cX5_workFacts 10 = .ok (.iload_n 3, 1) := by decide +kernel
theorem dX5_workFacts_11 : decode cX5_workFacts 11 = .ok (.invokestatic 91, 3) := by decide +kernel
theorem dX5_workFacts_14 : decode cX5_workFacts 14 = .ok (.istore 4, 2) := by decide +kernel
theorem dX5_workFacts_16 : decode cX5_workFacts 16 = .ok (.aload_n 0, 1) := by decide +kernel
theorem dX5_workFacts_17 : decode cX5_workFacts 17 = .ok (.getfield 18, 3) := by decide +kernel
theorem dX5_workFacts_20 : decode cX5_workFacts 20 = .ok (.iload 4, 2) := by decide +kernel
theorem dX5_workFacts_22 : decode cX5_workFacts 22 = .ok (.iaload, 1) := by decide +kernel
theorem dX5_workFacts_23 : decode cX5_workFacts 23 = .ok (.ifCond .ne 4, 3) := by decide +kernel
theorem dX5_workFacts_26 : decode cX5_workFacts 26 = .ok (.return_, 1) := by decide +kernel
theorem dX5_workFacts_27 : decode cX5_workFacts 27 = .ok (.aload_n 0, 1) := by decide +kernel
theorem dX5_workFacts_28 : decode cX5_workFacts 28 = .ok (.getfield 21, 3) := by decide +kernel
theorem dX5_workFacts_31 : decode cX5_workFacts 31 = .ok (.iload 4, 2) := by decide +kernel
theorem dX5_workFacts_33 : decode cX5_workFacts 33 = .ok (.iaload, 1) := by decide +kernel
theorem dX5_workFacts_34 : decode cX5_workFacts 34 = .ok (.istore 5, 2) := by decide +kernel
theorem dX5_workFacts_36 : decode cX5_workFacts 36 = .ok (.aload_n 0, 1) := by decide +kernel
theorem dX5_workFacts_37 : decode cX5_workFacts 37 = .ok (.getfield 9, 3) := by decide +kernel
theorem dX5_workFacts_40 : decode cX5_workFacts 40 = .ok (.iload 5, 2) := by decide +kernel
theorem dX5_workFacts_42 : decode cX5_workFacts 42 = .ok (.iaload, 1) := by decide +kernel
theorem dX5_workFacts_43 : decode cX5_workFacts 43 = .ok (.istore 6, 2) := by decide +kernel
theorem dX5_workFacts_45 : decode cX5_workFacts 45 = .ok (.iload 6, 2) := by decide +kernel
theorem dX5_workFacts_47 : decode cX5_workFacts 47 = .ok (.aload_n 0, 1) := by decide +kernel
theorem dX5_workFacts_48 : decode cX5_workFacts 48 = .ok (.getfield 47, 3) := by decide +kernel
theorem dX5_workFacts_51 : decode cX5_workFacts 51 = .ok (.iload_n 1, 1) := by decide +kernel
theorem dX5_workFacts_52 : decode cX5_workFacts 52 = .ok (.iload_n 3, 1) := by decide +kernel
theorem dX5_workFacts_53 : decode cX5_workFacts 53 = .ok (.invokevirtual 108, 3) := by decide +kernel
theorem dX5_workFacts_56 : decode cX5_workFacts 56 = .ok (.if_icmp .ne 7, 3) := by decide +kernel
theorem dX5_workFacts_59 : decode cX5_workFacts 59 = .ok (.iconst 1, 1) := by decide +kernel
theorem dX5_workFacts_60 : decode cX5_workFacts 60 = .ok (.goto 4, 3) := by decide +kernel
theorem dX5_workFacts_63 : decode cX5_workFacts 63 = .ok (.iconst 0, 1) := by decide +kernel
theorem dX5_workFacts_64 : decode cX5_workFacts 64 = .ok (.istore 7, 2) := by decide +kernel
theorem dX5_workFacts_66 : decode cX5_workFacts 66 = .ok (.aload_n 0, 1) := by decide +kernel
theorem dX5_workFacts_67 : decode cX5_workFacts 67 = .ok (.getfield 27, 3) := by decide +kernel
theorem dX5_workFacts_70 : decode cX5_workFacts 70 = .ok (.iconst 0, 1) := by decide +kernel
theorem dX5_workFacts_71 : decode cX5_workFacts 71 = .ok (.iload 7, 2) := by decide +kernel
theorem dX5_workFacts_73 : decode cX5_workFacts 73 = .ok (.ifCond .eq 7, 3) := by decide +kernel
theorem dX5_workFacts_76 : decode cX5_workFacts 76 = .ok (.iconst 1, 1) := by decide +kernel
theorem dX5_workFacts_77 : decode cX5_workFacts 77 = .ok (.goto 4, 3) := by decide +kernel
theorem dX5_workFacts_80 : decode cX5_workFacts 80 = .ok (.iconst 0, 1) := by decide +kernel
theorem dX5_workFacts_81 : decode cX5_workFacts 81 = .ok (.iastore, 1) := by decide +kernel
theorem dX5_workFacts_82 : decode cX5_workFacts 82 = .ok (.aload_n 0, 1) := by decide +kernel
theorem dX5_workFacts_83 : decode cX5_workFacts 83 = .ok (.getfield 27, 3) := by decide +kernel
theorem dX5_workFacts_86 : decode cX5_workFacts 86 = .ok (.iconst 1, 1) := by decide +kernel
theorem dX5_workFacts_87 : decode cX5_workFacts 87 = .ok (.aload_n 0, 1) := by decide +kernel
theorem dX5_workFacts_88 : decode cX5_workFacts 88 = .ok (.getfield 47, 3) := by decide +kernel
theorem dX5_workFacts_91 : decode cX5_workFacts 91 = .ok (.iload_n 1, 1) := by decide +kernel
theorem dX5_workFacts_92 : decode cX5_workFacts 92 = .ok (.iload_n 3, 1) := by decide +kernel
theorem dX5_workFacts_93 : decode cX5_workFacts 93 = .ok (.iload 6, 2) := by decide +kernel
theorem dX5_workFacts_95 : decode cX5_workFacts 95 = .ok (.invokevirtual 114, 3) := by decide +kernel
theorem dX5_workFacts_98 : decode cX5_workFacts 98 = .ok (.iastore, 1) := by decide +kernel
theorem dX5_workFacts_99 : decode cX5_workFacts 99 = .ok (.aload_n 0, 1) := by decide +kernel
theorem dX5_workFacts_100 : decode cX5_workFacts 100 = .ok (.getfield 27, 3) := by decide +kernel
theorem dX5_workFacts_103 : decode cX5_workFacts 103 = .ok (.iconst 2, 1) := by decide +kernel
theorem dX5_workFacts_104 : decode cX5_workFacts 104 = .ok (.iload 6, 2) := by decide +kernel
theorem dX5_workFacts_106 : decode cX5_workFacts 106 = .ok (.iastore, 1) := by decide +kernel
theorem dX5_workFacts_107 : decode cX5_workFacts 107 = .ok (.aload_n 0, 1) := by decide +kernel
theorem dX5_workFacts_108 : decode cX5_workFacts 108 = .ok (.getfield 27, 3) := by decide +kernel
theorem dX5_workFacts_111 : decode cX5_workFacts 111 = .ok (.iconst 3, 1) := by decide +kernel
theorem dX5_workFacts_112 : decode cX5_workFacts 112 = .ok (.aload_n 0, 1) := by decide +kernel
theorem dX5_workFacts_113 : decode cX5_workFacts 113 = .ok (.getfield 24, 3) := by decide +kernel
theorem dX5_workFacts_116 : decode cX5_workFacts 116 = .ok (.iload 4, 2) := by decide +kernel
theorem dX5_workFacts_118 : decode cX5_workFacts 118 = .ok (.iaload, 1) := by decide +kernel
theorem dX5_workFacts_119 : decode cX5_workFacts 119 = .ok (.iastore, 1) := by decide +kernel
theorem dX5_workFacts_120 : decode cX5_workFacts 120 = .ok (.aload_n 0, 1) := by decide +kernel
theorem dX5_workFacts_121 : decode cX5_workFacts 121 = .ok (.getfield 27, 3) := by decide +kernel
theorem dX5_workFacts_124 : decode cX5_workFacts 124 = .ok (.iconst 4, 1) := by decide +kernel
theorem dX5_workFacts_125 : decode cX5_workFacts 125 = .ok (.aload_n 0, 1) := by decide +kernel
theorem dX5_workFacts_126 : decode cX5_workFacts 126 = .ok (.getfield 55, 3) := by decide +kernel
theorem dX5_workFacts_129 : decode cX5_workFacts 129 = .ok (.getfield 79, 3) := by decide +kernel
theorem dX5_workFacts_132 : decode cX5_workFacts 132 = .ok (.iload 5, 2) := by decide +kernel
theorem dX5_workFacts_134 : decode cX5_workFacts 134 = .ok (.iaload, 1) := by decide +kernel
theorem dX5_workFacts_135 : decode cX5_workFacts 135 = .ok (.ifCond .ne 7, 3) := by decide +kernel
theorem dX5_workFacts_138 : decode cX5_workFacts 138 = .ok (.iconst 0, 1) := by decide +kernel
theorem dX5_workFacts_139 : decode cX5_workFacts 139 = .ok (.goto 24, 3) := by decide +kernel
theorem dX5_workFacts_142 : decode cX5_workFacts 142 = .ok (.aload_n 0, 1) := by decide +kernel
theorem dX5_workFacts_143 : decode cX5_workFacts 143 = .ok (.getfield 55, 3) := by decide +kernel
theorem dX5_workFacts_146 : decode cX5_workFacts 146 = .ok (.getfield 117, 3) := by decide +kernel
theorem dX5_workFacts_149 : decode cX5_workFacts 149 = .ok (.iload 5, 2) := by decide +kernel
theorem dX5_workFacts_151 : decode cX5_workFacts 151 = .ok (.iaload, 1) := by decide +kernel
theorem dX5_workFacts_152 : decode cX5_workFacts 152 = .ok (.aload_n 0, 1) := by decide +kernel
theorem dX5_workFacts_153 : decode cX5_workFacts 153 = .ok (.getfield 55, 3) := by decide +kernel
theorem dX5_workFacts_156 : decode cX5_workFacts 156 = .ok (.getfield 120, 3) := by decide +kernel
theorem dX5_workFacts_159 : decode cX5_workFacts 159 = .ok (.iload 5, 2) := by decide +kernel
theorem dX5_workFacts_161 : decode cX5_workFacts 161 = .ok (.iaload, 1) := by decide +kernel
theorem dX5_workFacts_162 : decode cX5_workFacts 162 = .ok (.isub, 1) := by decide +kernel
theorem dX5_workFacts_163 : decode cX5_workFacts 163 = .ok (.iastore, 1) := by decide +kernel
theorem dX5_workFacts_164 : decode cX5_workFacts 164 = .ok (.aload_n 0, 1) := by decide +kernel
theorem dX5_workFacts_165 : decode cX5_workFacts 165 = .ok (.getfield 27, 3) := by decide +kernel
theorem dX5_workFacts_168 : decode cX5_workFacts 168 = .ok (.iconst 5, 1) := by decide +kernel
theorem dX5_workFacts_169 : decode cX5_workFacts 169 = .ok (.iload 7, 2) := by decide +kernel
theorem dX5_workFacts_171 : decode cX5_workFacts 171 = .ok (.ifCond .eq 18, 3) := by decide +kernel
theorem dX5_workFacts_174 : decode cX5_workFacts 174 = .ok (.aload_n 0, 1) := by decide +kernel
theorem dX5_workFacts_175 : decode cX5_workFacts 175 = .ok (.getfield 24, 3) := by decide +kernel
theorem dX5_workFacts_178 : decode cX5_workFacts 178 = .ok (.iload 4, 2) := by decide +kernel
theorem dX5_workFacts_180 : decode cX5_workFacts 180 = .ok (.iaload, 1) := by decide +kernel
theorem dX5_workFacts_181 : decode cX5_workFacts 181 = .ok (.iconst 1, 1) := by decide +kernel
theorem dX5_workFacts_182 : decode cX5_workFacts 182 = .ok (.if_icmp .ne 7, 3) := by decide +kernel
theorem dX5_workFacts_185 : decode cX5_workFacts 185 = .ok (.iconst 1, 1) := by decide +kernel
theorem dX5_workFacts_186 : decode cX5_workFacts 186 = .ok (.goto 4, 3) := by decide +kernel
theorem dX5_workFacts_189 : decode cX5_workFacts 189 = .ok (.iconst 0, 1) := by decide +kernel
theorem dX5_workFacts_190 : decode cX5_workFacts 190 = .ok (.iastore, 1) := by decide +kernel
theorem dX5_workFacts_191 : decode cX5_workFacts 191 = .ok (.return_, 1) := by decide +kernel
