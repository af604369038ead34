theorem dX2_letCome_0 : decode cX2_letCome 0 = .ok (.iconst 0, 1) := by decide +kernel
theorem dX2_letCome_1 : decode cX2_letCome 1 = .ok (.istore 4, 2) := by decide +kernel
theorem dX2_letCome_3 : decode cX2_letCome 3 = .ok (.iconst 0, 1) := by decide +kernel
theorem dX2_letCome_4 : decode cX2_letCome 4 = .ok (.istore 5, 2) := by decide +kernel
theorem dX2_letCome_6 : decode cX2_letCome 6 = .ok (.iload 5, 2) := by decide +kernel
theorem dX2_letCome_8 : decode cX2_letCome 8 = .ok (.aload_n 0, 1) := by decide +kernel
theorem dX2_letCome_9 : decode cX2_letCome 9 = .ok (.getfield 18, 3) := by decide +kernel
theorem dX2_letCome_12 : decode cX2_letCome 12 = .ok (.if_icmp .ge 47, 3) := by decide +kernel
theorem dX2_letCome_15 : decode cX2_letCome 15 = .ok (.aload_n 0, 1) := by decide +kernel
theorem dX2_letCome_16 : decode cX2_letCome 16 = .ok (.getfield 9, 3) := by decide +kernel
theorem dX2_letCome_19 : decode cX2_letCome 19 = .ok (.iload 5, 2) := by decide +kernel
theorem dX2_letCome_21 : decode cX2_letCome 21 = .ok (.iaload, 1) := by decide +kernel
theorem dX2_letCome_22 : decode cX2_letCome 22 = .ok (.aload_n 0, 1) := by decide +kernel
theorem dX2_letCome_23 : decode cX2_letCome 23 = .ok (.getfield 22, 3) := by decide +kernel
theorem dX2_letCome_26 : decode cX2_letCome 26 = .ok (.if_icmp .ne 27, 3) := by decide +kernel
theorem dX2_letCome_29 : decode cX2_letCome 29 = .ok (.aload_n 1, 1) := by decide +kernel
theorem dX2_letCome_30 : decode cX2_letCome 30 = .ok (.iload 5, 2) := by decide +kernel
theorem dX2_letCome_32 : decode cX2_letCome 32 = .ok (.iaload, 1) := by decide +kernel
theorem dX2_letCome_33 : decode cX2_letCome 33 = .ok (.iload_n 2, 1) := by decide +kernel
theorem dX2_letCome_34 : decode cX2_letCome 34 = .ok (.if_icmp .gt 19, 3) := by decide +kernel
theorem dX2_letCome_37 : decode cX2_letCome 37 = .ok (.aload_n 0, 1) := by decide +kernel
theorem dX2_letCome_38 : decode cX2_letCome 38 = .ok (.getfield 9, 3) := by decide +kernel
theorem dX2_letCome_41 : decode cX2_letCome 41 = .ok (.iload 5, 2) := by decide +kernel
theorem dX2_letCome_43 : decode cX2_letCome 43 = .ok (.aload_n 0, 1) := by decide +kernel
theorem dX2_letCome_44 : decode cX2_letCome 44 = .ok (.getfield 22, 3) := by decide +kernel
theorem dX2_letCome_47 : decode cX2_letCome 47 = .ok (.iconst 1, 1) := by decide +kernel
theorem dX2_letCome_48 : decode cX2_letCome 48 = .ok (.iadd, 1) := by decide +kernel
theorem dX2_letCome_49 : decode cX2_letCome 49 = .ok (.iastore, 1) := by decide +kernel
theorem dX2_letCome_50 : decode cX2_letCome 50 = .ok (.iinc 4 1, 3) := by decide +kernel
theorem dX2_letCome_53 : decode cX2_letCome 53 = .ok (.iinc 5 1, 3) := by decide +kernel
theorem dX2_letCome_56 : decode cX2_letCome 56 = .ok (.goto (-50), 3) := by decide +kernel
theorem dX2_letCome_59 : decode cX2_letCome 59 = .ok (.aload_n 0, 1) := by decide +kernel
theorem dX2_letCome_60 : decode cX2_letCome 60 = .ok (.dup, 1) := by decide +kernel
theorem dX2_letCome_61 : decode cX2_letCome 61 = .ok (.getfield 22, 3) := by decide +kernel
theorem dX2_letCome_64 : decode cX2_letCome 64 = .ok (.iconst 1, 1) := by decide +kernel
theorem dX2_letCome_65 : decode cX2_letCome 65 = .ok (.iadd, 1) := by decide +kernel
theorem dX2_letCome_66 : decode cX2_letCome 66 = .ok (.putfield 22, 3) := by decide +kernel
theorem dX2_letCome_69 : decode cX2_letCome 69 = .ok (.aload_n 0, 1) := by decide +kernel
theorem dX2_letCome_70 : decode cX2_letCome 70 = .ok (.getfield 15, 3) := by decide +kernel
theorem dX2_letCome_73 : decode cX2_letCome 73 = .ok (.aload_n 0, 1) := by decide +kernel
theorem dX2_letCome_74 : decode cX2_letCome 74 = .ok (.getfield 22, 3) := by decide +kernel
theorem dX2_letCome_77 : decode cX2_letCome 77 = .ok (.iload_n 3, 1) := by decide +kernel
theorem dX2_letCome_78 : decode cX2_letCome 78 = .ok (.iastore, 1) := by decide +kernel
theorem dX2_letCome_79 : decode cX2_letCome 79 = .ok (.iload 4, 2) := by decide +kernel
theorem dX2_letCome_81 : decode cX2_letCome 81 = .ok (.ireturn, 1) := by decide +kernel
theorem dX4_pointsFor_0 : decode cX4_pointsFor 0 = .ok (.iconst 0, 1) := by decide +kernel
theorem dX4_pointsFor_1 : decode cX4_pointsFor 1 = .ok (.istore_n 2, 1) := by decide +kernel
theorem dX4_pointsFor_2 : decode cX4_pointsFor 2 = .ok (.iconst 0, 1) := by decide +kernel
theorem dX4_pointsFor_3 : decode cX4_pointsFor 3 = .ok (.istore_n 3, 1) := by decide +kernel
theorem dX4_pointsFor_4 : decode cX4_pointsFor 4 = .ok (.iload_n 3, 1) := by decide +kernel
theorem dX4_pointsFor_5 : decode cX4_pointsFor 5 = .ok (.aload_n 0, 1) := by decide +kernel
theorem dX4_pointsFor_6 : decode cX4_pointsFor 6 = .ok (.getfield 35, 3) := by decide +kernel
theorem dX4_pointsFor_9 : decode cX4_pointsFor 9 = .ok (.if_icmp .ge 133, 3) := by decide +kernel
theorem dX4_pointsFor_12 : decode cX4_pointsFor 12 = .ok (.aload_n 0, 1) := by decide +kernel
theorem dX4_pointsFor_13 : decode cX4_pointsFor 13 = .ok (.getfield 15, 3) := by decide +kernel
theorem dX4_pointsFor_16 : decode cX4_pointsFor 16 = .ok (.iload_n 3, 1) := by decide +kernel
theorem dX4_pointsFor_17 : decode cX4_pointsFor 17 = .ok (.iaload, 1) := by decide +kernel
theorem dX4_pointsFor_18 : decode cX4_pointsFor 18 = .ok (.istore 4, 2) := by decide +kernel
theorem dX4_pointsFor_20 : decode cX4_pointsFor 20 = .ok (.iload 4, 2) := by decide +kernel
theorem dX4_pointsFor_22 : decode cX4_pointsFor 22 = .ok (.bipush 6, 2) := by decide +kernel
theorem dX4_pointsFor_24 : decode cX4_pointsFor 24 = .ok (.if_icmp .gt 43, 3) := by decide +kernel
theorem dX4_pointsFor_27 : decode cX4_pointsFor 27 = .ok (.iload_n 2, 1) := by decide +kernel
theorem dX4_pointsFor_28 : decode cX4_pointsFor 28 = .ok (.bipush 40, 2) := by decide +kernel
theorem dX4_pointsFor_30 : decode cX4_pointsFor 30 = .ok (.if_icmp .ge 106, 3) := by decide +kernel
theorem dX4_pointsFor_33 : decode cX4_pointsFor 33 = .ok (.aload_n 0, 1) := by decide +kernel
theorem dX4_pointsFor_34 : decode cX4_pointsFor 34 = .ok (.getfield 27, 3) := by decide +kernel
theorem dX4_pointsFor_37 : decode cX4_pointsFor 37 = .ok (.iload_n 2, 1) := by decide +kernel
theorem dX4_pointsFor_38 : decode cX4_pointsFor 38 = .ok (.iload 4, 2) := by decide +kernel
theorem dX4_pointsFor_40 : decode cX4_pointsFor 40 = .ok (.bipush 6, 2) := by decide +kernel
theorem dX4_pointsFor_42 : decode cX4_pointsFor 42 = .ok (.if_icmp .ne 13, 3) := by decide +kernel
theorem dX4_pointsFor_45 : decode cX4_pointsFor 45 = .ok (.aload_n 0, 1) := by decide +kernel
theorem dX4_pointsFor_46 : decode cX4_pointsFor 46 = .ok (.getfield 18, 3) := by decide +kernel
theorem dX4_pointsFor_49 : decode cX4_pointsFor 49 = .ok (.iload_n 3, 1) := by decide +kernel
theorem dX4_pointsFor_50 : decode cX4_pointsFor 50 = .ok (.iaload, 1) := by decide +kernel
theorem dX4_pointsFor_51 : decode cX4_pointsFor 51 = .ok (.i2l, 1) := by decide +kernel
theorem dX4_pointsFor_52 : decode cX4_pointsFor 52 = .ok (.goto 8, 3) := by decide +kernel
theorem dX4_pointsFor_55 : decode cX4_pointsFor 55 = .ok (.aload_n 1, 1) := by decide +kernel
theorem dX4_pointsFor_56 : decode cX4_pointsFor 56 = .ok (.iload 4, 2) := by decide +kernel
theorem dX4_pointsFor_58 : decode cX4_pointsFor 58 = .ok (.iaload, 1) := by decide +kernel
theorem dX4_pointsFor_59 : decode cX4_pointsFor 59 = .ok (.i2l, 1) := by decide +kernel
theorem dX4_pointsFor_60 : decode cX4_pointsFor 60 = .ok (.lastore, 1) := by decide +kernel
theorem dX4_pointsFor_61 : decode cX4_pointsFor 61 = .ok (.iinc 2 1, 3) := by decide +kernel
theorem dX4_pointsFor_64 : decode cX4_pointsFor 64 = .ok (.goto 72, 3) := by decide +kernel
theorem dX4_pointsFor_67 : decode cX4_pointsFor 67 = .ok (.iload 4, 2) := by decide +kernel
theorem dX4_pointsFor_69 : decode cX4_pointsFor 69 = .ok (.bipush 10, 2) := by decide +kernel
theorem dX4_pointsFor_71 : decode cX4_pointsFor 71 = .ok (.if_icmp .ne 27, 3) := by decide +kernel
theorem dX4_pointsFor_74 : decode cX4_pointsFor 74 = .ok (.iload_n 2, 1) := by decide +kernel
theorem dX4_pointsFor_75 : decode cX4_pointsFor 75 = .ok (.ifCond .le 61, 3) := by decide +kernel
theorem dX4_pointsFor_78 : decode cX4_pointsFor 78 = .ok (.aload_n 0, 1) := by decide +kernel
theorem dX4_pointsFor_79 : decode cX4_pointsFor 79 = .ok (.getfield 27, 3) := by decide +kernel
theorem dX4_pointsFor_82 : decode cX4_pointsFor 82 = .ok (.iload_n 2, 1) := by decide +kernel
theorem dX4_pointsFor_83 : decode cX4_pointsFor 83 = .ok (.iconst 1, 1) := by decide +kernel
theorem dX4_pointsFor_84 : decode cX4_pointsFor 84 = .ok (.isub, 1) := by decide +kernel
theorem dX4_pointsFor_85 : decode cX4_pointsFor 85 = .ok (.aload_n 0, 1) := by decide +kernel
theorem dX4_pointsFor_86 : decode cX4_pointsFor 86 = .ok (.getfield 27, 3) := by decide +kernel
theorem dX4_pointsFor_89 : decode cX4_pointsFor 89 = .ok (.iload_n 2, 1) := by decide +kernel
theorem dX4_pointsFor_90 : decode cX4_pointsFor 90 = .ok (.iconst 1, 1) := by decide +kernel
theorem dX4_pointsFor_91 : decode cX4_pointsFor 91 = .ok (.isub, 1) := by decide +kernel
theorem dX4_pointsFor_92 : decode cX4_pointsFor 92 = .ok (.laload, 1) := by decide +kernel
theorem dX4_pointsFor_93 : decode cX4_pointsFor 93 = .ok (.lneg, 1) := by decide +kernel
theorem dX4_pointsFor_94 : decode cX4_pointsFor 94 = .ok (.lastore, 1) := by decide +kernel
theorem dX4_pointsFor_95 : decode cX4_pointsFor 95 = .ok (.goto 41, 3) := by decide +kernel
theorem dX4_pointsFor_98 : decode cX4_pointsFor 98 = .ok (.iload_n 2, 1) := by decide +kernel
theorem dX4_pointsFor_99 : decode cX4_pointsFor 99 = .ok (.iconst 1, 1) := by decide +kernel
theorem dX4_pointsFor_100 : decode cX4_pointsFor 100 = .ok (.if_icmp .le 36, 3) := by decide +kernel
theorem dX4_pointsFor_103 : decode cX4_pointsFor 103 = .ok (.iinc 2 (-1), 3) := by decide +kernel
theorem dX4_pointsFor_106 : decode cX4_pointsFor 106 = .ok (.aload_n 0, 1) := by decide +kernel
theorem dX4_pointsFor_107 : decode cX4_pointsFor 107 = .ok (.getfield 27, 3) := by decide +kernel
theorem dX4_pointsFor_110 : decode cX4_pointsFor 110 = .ok (.iload_n 2, 1) := by decide +kernel
theorem dX4_pointsFor_111 : decode cX4_pointsFor 111 = .ok (.iconst 1, 1) := by decide +kernel
theorem dX4_pointsFor_112 : decode cX4_pointsFor 112 = .ok (.isub, 1) := by decide +kernel
theorem dX4_pointsFor_113 : decode cX4_pointsFor 113 = .ok (.iload 4, 2) := by decide +kernel
theorem dX4_pointsFor_115 : decode cX4_pointsFor 115 = .ok (.aload_n 0, 1) := by decide +kernel
theorem dX4_pointsFor_116 : decode cX4_pointsFor 116 = .ok (.getfield 27, 3) := by decide +kernel
theorem dX4_pointsFor_119 : decode cX4_pointsFor 119 = .ok (.iload_n 2, 1) := by decide +kernel
theorem dX4_pointsFor_120 : decode cX4_pointsFor 120 = .ok (.iconst 1, 1) := by decide +kernel
theorem dX4_pointsFor_121 : decode cX4_pointsFor 121 = .ok (.isub, 1) := by decide +kernel
theorem dX4_pointsFor_122 : decode cX4_pointsFor 122 = .ok (.laload, 1) := by decide +kernel
theorem dX4_pointsFor_123 : decode cX4_pointsFor 123 = .ok (.aload_n 0, 1) := by decide +kernel
theorem dX4_pointsFor_124 : decode cX4_pointsFor 124 = .ok (.getfield 27, 3) := by decide +kernel
theorem dX4_pointsFor_127 : decode cX4_pointsFor 127 = .ok (.iload_n 2, 1) := by decide +kernel
theorem dX4_pointsFor_128 : decode cX4_pointsFor 128 = .ok (.laload, 1) := by decide +kernel
theorem dX4_pointsFor_129 : decode cX4_pointsFor 129 = .ok (.invokestatic 63, 3) := by decide +kernel
theorem dX4_pointsFor_132 : decode cX4_pointsFor 132 = .ok (.invokestatic 67, 3) := by decide +kernel
theorem dX4_pointsFor_135 : decode cX4_pointsFor 135 = .ok (.lastore, 1) := by decide +kernel
theorem dX4_pointsFor_136 : decode cX4_pointsFor 136 = .ok (.iinc 3 1, 3) := by decide +kernel
theorem dX4_pointsFor_139 : decode cX4_pointsFor 139 = .ok (.goto (-135), 3) := by decide +kernel
theorem dX4_pointsFor_142 : decode cX4_pointsFor 142 = .ok (.iload_n 2, 1) := by decide +kernel
theorem dX4_pointsFor_143 : decode cX4_pointsFor 143 = .ok (.ifCond .le 13, 3) := by decide +kernel
theorem dX4_pointsFor_146 : decode cX4_pointsFor 146 = .ok (.aload_n 0, 1) := by decide +kernel
theorem dX4_pointsFor_147 : decode cX4_pointsFor 147 = .ok (.getfield 27, 3) := by decide +kernel
theorem dX4_pointsFor_150 : decode cX4_pointsFor 150 = .ok (.iconst 0, 1) := by decide +kernel
theorem dX4_pointsFor_151 : decode cX4_pointsFor 151 = .ok (.laload, 1) := by decide +kernel
theorem dX4_pointsFor_152 : decode cX4_pointsFor 152 = .ok (.l2i, 1) := by decide +kernel
theorem dX4_pointsFor_153 : decode cX4_pointsFor 153 = .ok (.goto 4, 3) := by decide +kernel
theorem dX4_pointsFor_156 : decode cX4_pointsFor 156 = .ok (.iconst 0, 1) := by decide +kernel
theorem dX4_pointsFor_157 : decode cX4_pointsFor 157 = .ok (.ireturn, 1) := by decide +kernel
theorem dX4_worked_0 : decode cX4_worked 0 = .ok (.iload_n 0, 1) := by decide +kernel
theorem dX4_worked_1 : decode cX4_worked 1 = .ok (.bipush 9, 2) := by decide +kernel
theorem dX4_worked_3 : decode cX4_worked 3 = .ok (.if_icmp .ne 7, 3) := by decide +kernel
theorem dX4_worked_6 : decode cX4_worked 6 = .ok (.lload_n 1, 1) := by decide +kernel
theorem dX4_worked_7 : decode cX4_worked 7 = .ok (.lload_n 3, 1) := by decide +kernel
theorem dX4_worked_8 : decode cX4_worked 8 = .ok (.lmul, 1) := by decide +kernel
theorem dX4_worked_9 : decode cX4_worked 9 = .ok (.lreturn, 1) := by decide +kernel
theorem dX4_worked_10 : decode cX4_worked 10 = .ok (.iload_n 0, 1) := by decide +kernel
theorem dX4_worked_11 : decode cX4_worked 11 = .ok (.bipush 7, 2) := by decide +kernel
theorem dX4_worked_13 : decode cX4_worked 13 = .ok (.if_icmp .ne 9, 3) := by decide +kernel
theorem dX4_worked_16 : decode cX4_worked 16 = .ok (.lload_n 1, 1) := by decide +kernel
theorem dX4_worked_17 : decode cX4_worked 17 = .ok (.lload_n 3, 1) := by decide +kernel
theorem dX4_worked_18 : decode cX4_worked 18 = .ok (.ladd, 1) := by decide +kernel
theorem dX4_worked_19 : decode cX4_worked 19 = .ok (.goto 6, 3) := by decide +kernel
theorem dX4_worked_22 : decode cX4_worked 22 = .ok (.lload_n 1, 1) := by decide +kernel
theorem dX4_worked_23 : decode cX4_worked 23 = .ok (.lload_n 3, 1) := by decide +kernel
theorem dX4_worked_24 : decode cX4_worked 24 = .ok (.lsub, 1) := by decide +kernel
theorem dX4_worked_25 : decode cX4_worked 25 = .ok (.lreturn, 1) := by decide +kernel
theorem dX4_bounded_0 : decode cX4_bounded 0 = .ok (.ldc2_w 71, 3) := by decide +kernel
theorem dX4_bounded_3 : decode cX4_bounded 3 = .ok (.ldc2_w 73, 3) := by decide +kernel
theorem dX4_bounded_6 : decode cX4_bounded 6 = .ok (.lload_n 0, 1) := by decide +kernel
theorem dX4_bounded_7 : decode cX4_bounded 7 = .ok (.invokestatic 75, 3) := by decide +kernel
theorem dX4_bounded_10 : decode cX4_bounded 10 = .ok (.invokestatic 81, 3) := by decide +kernel
theorem dX4_bounded_13 : decode cX4_bounded 13 = .ok (.lreturn, 1) := by decide +kernel
theorem dX5_cellOf_0 : decode cX5_cellOf 0 = .ok (.iload_n 0, 1) := by decide +kernel
theorem dX5_cellOf_1 : decode cX5_cellOf 1 = .ok (.bipush 80, 2) := by decide +kernel
theorem dX5_cellOf_3 : decode cX5_cellOf 3 = .ok (.imul, 1) := by decide +kernel
theorem dX5_cellOf_4 : decode cX5_cellOf 4 = .ok (.iload_n 1, 1) := by decide +kernel
theorem dX5_cellOf_5 : decode cX5_cellOf 5 = .ok (.iconst 5, 1) := by decide +kernel
theorem dX5_cellOf_6 : decode cX5_cellOf 6 = .ok (.imul, 1) := by decide +kernel
theorem dX5_cellOf_7 : decode cX5_cellOf 7 = .ok (.iadd, 1) := by decide +kernel
theorem dX5_cellOf_8 : decode cX5_cellOf 8 = .ok (.iload_n 2, 1) := by decide +kernel
theorem dX5_cellOf_9 : decode cX5_cellOf 9 = .ok (.iadd, 1) := by decide +kernel
theorem dX5_cellOf_10 : decode cX5_cellOf 10 = .ok (.ireturn, 1) := by decide +kernel
theorem dX5_keyRow_0 : decode cX5_keyRow 0 = .ok (.iload_n 0, 1) := by decide +kernel
theorem dX5_keyRow_1 : decode cX5_keyRow 1 = .ok (.bipush 16, 2) := by decide +kernel
theorem dX5_keyRow_3 : decode cX5_keyRow 3 = .ok (.imul, 1) := by decide +kernel
theorem dX5_keyRow_4 : decode cX5_keyRow 4 = .ok (.iload_n 1, 1) := by decide +kernel
theorem dX5_keyRow_5 : decode cX5_keyRow 5 = .ok (.iadd, 1) := by decide +kernel
theorem dX5_keyRow_6 : decode cX5_keyRow 6 = .ok (.iconst 4, 1) := by decide +kernel
theorem dX5_keyRow_7 : decode cX5_keyRow 7 = .ok (.imul, 1) := by decide +kernel
theorem dX5_keyRow_8 : decode cX5_keyRow 8 = .ok (.ireturn, 1) := by decide +kernel
theorem dX5_survey_0 : decode cX5_survey 0 = .ok (.aload_n 0, 1) := by decide +kernel
theorem dX5_survey_1 : decode cX5_survey 1 = .ok (.iload_n 1, 1) := by decide +kernel
theorem dX5_survey_2 : decode cX5_survey 2 = .ok (.invokevirtual 63, 3) := by decide +kernel
theorem dX5_survey_5 : decode cX5_survey 5 = .ok (.aload_n 0, 1) := by decide +kernel
theorem dX5_survey_6 : decode cX5_survey 6 = .ok (.getfield 18, 3) := by decide +kernel
theorem dX5_survey_9 : decode cX5_survey 9 = .ok (.iconst 0, 1) := by decide +kernel
theorem dX5_survey_10 : decode cX5_survey 10 = .ok (.invokestatic 67, 3) := by decide +kernel
theorem dX5_survey_13 : decode cX5_survey 13 = .ok (.iconst 0, 1) := by decide +kernel
theorem dX5_survey_14 : decode cX5_survey 14 = .ok (.istore_n 2, 1) := by decide +kernel
theorem dX5_survey_15 : decode cX5_survey 15 = .ok (.iload_n 2, 1) := by decide +kernel
theorem dX5_survey_16 : decode cX5_survey 16 = .ok (.aload_n 0, 1) := by decide +kernel
theorem dX5_survey_17 : decode cX5_survey 17 = .ok (.getfield 55, 3) := by decide +kernel
theorem dX5_survey_20 : decode cX5_survey 20 = .ok (.getfield 73, 3) := by decide +kernel
theorem dX5_survey_23 : decode cX5_survey 23 = .ok (.if_icmp .ge 112, 3) := by decide +kernel
theorem dX5_survey_26 : decode cX5_survey 26 = .ok (.aload_n 0, 1) := by decide +kernel
theorem dX5_survey_27 : decode cX5_survey 27 = .ok (.getfield 55, 3) := by decide +kernel
theorem dX5_survey_30 : decode cX5_survey 30 = .ok (.getfield 79, 3) := by decide +kernel
theorem dX5_survey_33 : decode cX5_survey 33 = .ok (.iload_n 2, 1) := by decide +kernel
theorem dX5_survey_34 : decode cX5_survey 34 = .ok (.iaload, 1) := by decide +kernel
theorem dX5_survey_35 : decode cX5_survey 35 = .ok (.iconst 4, 1) := by decide +kernel
theorem dX5_survey_36 : decode cX5_survey 36 = .ok (.if_icmp .eq 93, 3) := by decide +kernel
theorem dX5_survey_39 : decode cX5_survey 39 = .ok (.aload_n 0, 1) := by decide +kernel
theorem dX5_survey_40 : decode cX5_survey 40 = .ok (.getfield 55, 3) := by decide +kernel
theorem dX5_survey_43 : decode cX5_survey 43 = .ok (.getfield 82, 3) := by decide +kernel
theorem dX5_survey_46 : decode cX5_survey 46 = .ok (.iload_n 2, 1) := by decide +kernel
theorem dX5_survey_47 : decode cX5_survey 47 = .ok (.iaload, 1) := by decide +kernel
theorem dX5_survey_48 : decode cX5_survey 48 = .ok (.aload_n 0, 1) := by decide +kernel
theorem dX5_survey_49 : decode cX5_survey 49 = .ok (.getfield 55, 3) := by decide +kernel
theorem dX5_survey_52 : decode cX5_survey 52 = .ok (.getfield 85, 3) := by decide +kernel
theorem dX5_survey_55 : decode cX5_survey 55 = .ok (.iload_n 2, 1) := by decide +kernel
theorem dX5_survey_56 : decode cX5_survey 56 = .ok (.iaload, 1) := by decide +kernel
theorem dX5_survey_57 : decode cX5_survey 57 = .ok (.aload_n 0, 1) := by decide +kernel
theorem dX5_survey_58 : decode cX5_survey 58 = .ok (.getfield 55, 3) := by decide +kernel
theorem dX5_survey_61 : decode cX5_survey 61 = .ok (.getfield 88, 3) := by decide +kernel
theorem dX5_survey_64 : decode cX5_survey 64 = .ok (.iload_n 2, 1) := by decide +kernel
theorem dX5_survey_65 : decode cX5_survey 65 = .ok (.iaload, 1) := by decide +kernel
theorem dX5_survey_66 : decode cX5_survey 66 = .ok (.invokestatic 91, 3) := by decide +kernel
theorem dX5_survey_69 : decode cX5_survey 69 = .ok (.istore_n 3, 1) := by decide +kernel
theorem dX5_survey_70 : decode cX5_survey 70 = .ok (.aload_n 0, 1) := by decide +kernel
theorem dX5_survey_71 : decode cX5_survey 71 = .ok (.getfield 18, 3) := by decide +kernel
theorem dX5_survey_74 : decode cX5_survey 74 = .ok (.iload_n 3, 1) := by decide +kernel
theorem dX5_survey_75 : decode cX5_survey 75 = .ok (.dup2, 1) := by decide +kernel
theorem dX5_survey_76 : decode cX5_survey 76 = .ok (.iaload, 1) := by decide +kernel
theorem dX5_survey_77 : decode cX5_survey 77 = .ok (.iconst 1, 1) := by decide +kernel
theorem dX5_survey_78 : decode cX5_survey 78 = .ok (.iadd, 1) := by decide +kernel
theorem dX5_survey_79 : decode cX5_survey 79 = .ok (.iastore, 1) := by decide +kernel
theorem dX5_survey_80 : decode cX5_survey 80 = .ok (.aload_n 0, 1) := by decide +kernel
theorem dX5_survey_81 : decode cX5_survey 81 = .ok (.getfield 18, 3) := by decide +kernel
theorem dX5_survey_84 : decode cX5_survey 84 = .ok (.iload_n 3, 1) := by decide +kernel
theorem dX5_survey_85 : decode cX5_survey 85 = .ok (.iaload, 1) := by decide +kernel
theorem dX5_survey_86 : decode cX5_survey 86 = .ok (.iconst 1, 1) := by decide +kernel
theorem dX5_survey_87 : decode cX5_survey 87 = .ok (.if_icmp .eq 23, 3) := by decide +kernel
theorem dX5_survey_90 : decode cX5_survey 90 = .ok (.aload_n 0, 1) := by decide +kernel
theorem dX5_survey_91 : decode cX5_survey 91 = .ok (.getfield 9, 3) := by decide +kernel
theorem dX5_survey_94 : decode cX5_survey 94 = .ok (.iload_n 2, 1) := by decide +kernel
theorem dX5_survey_95 : decode cX5_survey 95 = .ok (.iaload, 1) := by decide +kernel
theorem dX5_survey_96 : decode cX5_survey 96 = .ok (.aload_n 0, 1) := by decide +kernel
theorem dX5_survey_97 : decode cX5_survey 97 = .ok (.getfield 9, 3) := by decide +kernel
theorem dX5_survey_100 : decode cX5_survey 100 = .ok (.aload_n 0, 1) := by decide +kernel
theorem dX5_survey_101 : decode cX5_survey 101 = .ok (.getfield 21, 3) := by decide +kernel
theorem dX5_survey_104 : decode cX5_survey 104 = .ok (.iload_n 3, 1) := by decide +kernel
theorem dX5_survey_105 : decode cX5_survey 105 = .ok (.iaload, 1) := by decide +kernel
theorem dX5_survey_106 : decode cX5_survey 106 = .ok (.iaload, 1) := by decide +kernel
theorem dX5_survey_107 : decode cX5_survey 107 = .ok (.if_icmp .le 22, 3) := by decide +kernel
theorem dX5_survey_110 : decode cX5_survey 110 = .ok (.aload_n 0, 1) := by decide +kernel
theorem dX5_survey_111 : decode cX5_survey 111 = .ok (.getfield 21, 3) := by decide +kernel
theorem dX5_survey_114 : decode cX5_survey 114 = .ok (.iload_n 3, 1) := by decide +kernel
theorem dX5_survey_115 : decode cX5_survey 115 = .ok (.iload_n 2, 1) := by decide +kernel
theorem dX5_survey_116 : decode cX5_survey 116 = .ok (.iastore, 1) := by decide +kernel
theorem dX5_survey_117 : decode cX5_survey 117 = .ok (.aload_n 0, 1) := by decide +kernel
theorem dX5_survey_118 : decode cX5_survey 118 = .ok (.getfield 24, 3) := by decide +kernel
theorem dX5_survey_121 : decode cX5_survey 121 = .ok (.iload_n 3, 1) := by decide +kernel
theorem dX5_survey_122 : decode cX5_survey 122 = .ok (.aload_n 0, 1) := by decide +kernel
theorem dX5_survey_123 : decode cX5_survey 123 = .ok (.getfield 18, 3) := by decide +kernel
theorem dX5_survey_126 : decode cX5_survey 126 = .ok (.iload_n 3, 1) := by decide +kernel
theorem dX5_survey_127 : decode cX5_survey 127 = .ok (.iaload, 1) := by decide +kernel
theorem dX5_survey_128 : decode cX5_survey 128 = .ok (.iastore, 1) := by decide +kernel
theorem dX5_survey_129 : decode cX5_survey 129 = .ok (.iinc 2 1, 3) := by decide +kernel
theorem dX5_survey_132 : decode cX5_survey 132 = .ok (.goto (-117), 3) := by decide +kernel
theorem dX5_survey_135 : decode cX5_survey 135 = .ok (.return_, 1) := by decide +kernel
theorem dX5_hearAppeals_0 : decode cX5_hearAppeals 0 = .ok (.iconst 0, 1) := by decide +kernel
theorem dX5_hearAppeals_1 : decode cX5_hearAppeals 1 = .ok (.istore_n 2, 1) := by decide +kernel
theorem dX5_hearAppeals_2 : decode cX5_hearAppeals 2 = .ok (.iload_n 2, 1) := by decide +kernel
theorem dX5_hearAppeals_3 : decode cX5_hearAppeals 3 = .ok (.aload_n 0, 1) := by decide +kernel
theorem dX5_hearAppeals_4 : decode cX5_hearAppeals 4 = .ok (.getfield 55, 3) := by decide +kernel
theorem dX5_hearAppeals_7 : decode cX5_hearAppeals 7 = .ok (.getfield 73, 3) := by decide +kernel
theorem dX5_hearAppeals_10 : decode cX5_hearAppeals 10 = .ok (.if_icmp .ge 31, 3) := by decide +kernel
theorem dX5_hearAppeals_13 : decode cX5_hearAppeals 13 = .ok (.aload_n 0, 1) := by decide +kernel
theorem dX5_hearAppeals_14 : decode cX5_hearAppeals 14 = .ok (.getfield 9, 3) := by decide +kernel
theorem dX5_hearAppeals_17 : decode cX5_hearAppeals 17 = .ok (.iload_n 2, 1) := by decide +kernel
theorem dX5_hearAppeals_18 : decode cX5_hearAppeals 18 = .ok (.aload_n 0, 1) := by decide +kernel
theorem dX5_hearAppeals_19 : decode cX5_hearAppeals 19 = .ok (.getfield 55, 3) := by decide +kernel
theorem dX5_hearAppeals_22 : decode cX5_hearAppeals 22 = .ok (.getfield 95, 3) := by decide +kernel
theorem dX5_hearAppeals_25 : decode cX5_hearAppeals 25 = .ok (.iload_n 2, 1) := by decide +kernel
theorem dX5_hearAppeals_26 : decode cX5_hearAppeals 26 = .ok (.iaload, 1) := by decide +kernel
theorem dX5_hearAppeals_27 : decode cX5_hearAppeals 27 = .ok (.iastore, 1) := by decide +kernel
theorem dX5_hearAppeals_28 : decode cX5_hearAppeals 28 = .ok (.aload_n 0, 1) := by decide +kernel
theorem dX5_hearAppeals_29 : decode cX5_hearAppeals 29 = .ok (.getfield 15, 3) := by decide +kernel
theorem dX5_hearAppeals_32 : decode cX5_hearAppeals 32 = .ok (.iload_n 2, 1) := by decide +kernel
theorem dX5_hearAppeals_33 : decode cX5_hearAppeals 33 = .ok (.iconst (-1), 1) := by decide +kernel
theorem dX5_hearAppeals_34 : decode cX5_hearAppeals 34 = .ok (.iastore, 1) := by decide +kernel
theorem dX5_hearAppeals_35 : decode cX5_hearAppeals 35 = .ok (.iinc 2 1, 3) := by decide +kernel
theorem dX5_hearAppeals_38 : decode cX5_hearAppeals 38 = .ok (.goto (-36), 3) := by decide +kernel
theorem dX5_hearAppeals_41 : decode cX5_hearAppeals 41 = .ok (.iconst 0, 1) := by decide +kernel
theorem dX5_hearAppeals_42 : decode cX5_hearAppeals 42 = .ok (.istore_n 2, 1) := by decide +kernel
theorem dX5_hearAppeals_43 : decode cX5_hearAppeals 43 = .ok (.iload_n 2, 1) := by decide +kernel
theorem dX5_hearAppeals_44 : decode cX5_hearAppeals 44 = .ok (.aload_n 0, 1) := by decide +kernel
theorem dX5_hearAppeals_45 : decode cX5_hearAppeals 45 = .ok (.getfield 59, 3) := by decide +kernel
theorem dX5_hearAppeals_48 : decode cX5_hearAppeals 48 = .ok (.getfield 98, 3) := by decide +kernel
theorem dX5_hearAppeals_51 : decode cX5_hearAppeals 51 = .ok (.if_icmp .ge 80, 3) := by decide +kernel
theorem dX5_hearAppeals_54 : decode cX5_hearAppeals 54 = .ok (.aload_n 0, 1) := by decide +kernel
theorem dX5_hearAppeals_55 : decode cX5_hearAppeals 55 = .ok (.getfield 59, 3) := by decide +kernel
theorem dX5_hearAppeals_58 : decode cX5_hearAppeals 58 = .ok (.getfield 101, 3) := by decide +kernel
theorem dX5_hearAppeals_61 : decode cX5_hearAppeals 61 = .ok (.iload_n 2, 1) := by decide +kernel
theorem dX5_hearAppeals_62 : decode cX5_hearAppeals 62 = .ok (.iaload, 1) := by decide +kernel
theorem dX5_hearAppeals_63 : decode cX5_hearAppeals 63 = .ok (.istore_n 3, 1) := by decide +kernel
theorem dX5_hearAppeals_64 : decode cX5_hearAppeals 64 = .ok (.aload_n 0, 1) := by decide +kernel
theorem dX5_hearAppeals_65 : decode cX5_hearAppeals 65 = .ok (.getfield 59, 3) := by decide +kernel
theorem dX5_hearAppeals_68 : decode cX5_hearAppeals 68 = .ok (.getfield 104, 3) := by decide +kernel
theorem dX5_hearAppeals_71 : decode cX5_hearAppeals 71 = .ok (.iload_n 2, 1) := by decide +kernel
theorem dX5_hearAppeals_72 : decode cX5_hearAppeals 72 = .ok (.iaload, 1) := by decide +kernel
theorem dX5_hearAppeals_73 : decode cX5_hearAppeals 73 = .ok (.iload_n 1, 1) := by decide +kernel
theorem dX5_hearAppeals_74 : decode cX5_hearAppeals 74 = .ok (.if_icmp .gt 51, 3) := by decide +kernel
theorem dX5_hearAppeals_77 : decode cX5_hearAppeals 77 = .ok (.aload_n 0, 1) := by decide +kernel
theorem dX5_hearAppeals_78 : decode cX5_hearAppeals 78 = .ok (.getfield 59, 3) := by decide +kernel
theorem dX5_hearAppeals_81 : decode cX5_hearAppeals 81 = .ok (.getfield 104, 3) := by decide +kernel
theorem dX5_hearAppeals_84 : decode cX5_hearAppeals 84 = .ok (.iload_n 2, 1) := by decide +kernel
theorem dX5_hearAppeals_85 : decode cX5_hearAppeals 85 = .ok (.iaload, 1) := by decide +kernel
theorem dX5_hearAppeals_86 : decode cX5_hearAppeals 86 = .ok (.aload_n 0, 1) := by decide +kernel
theorem dX5_hearAppeals_87 : decode cX5_hearAppeals 87 = .ok (.getfield 15, 3) := by decide +kernel
theorem dX5_hearAppeals_90 : decode cX5_hearAppeals 90 = .ok (.iload_n 3, 1) := by decide +kernel
theorem dX5_hearAppeals_91 : decode cX5_hearAppeals 91 = .ok (.iaload, 1) := by decide +kernel
theorem dX5_hearAppeals_92 : decode cX5_hearAppeals 92 = .ok (.if_icmp .lt 33, 3) := by decide +kernel
theorem dX5_hearAppeals_95 : decode cX5_hearAppeals 95 = .ok (.aload_n 0, 1) := by decide +kernel
theorem dX5_hearAppeals_96 : decode cX5_hearAppeals 96 = .ok (.getfield 9, 3) := by decide +kernel
theorem dX5_hearAppeals_99 : decode cX5_hearAppeals 99 = .ok (.iload_n 3, 1) := by decide +kernel
theorem dX5_hearAppeals_100 : decode cX5_hearAppeals 100 = .ok (.aload_n 0, 1) := by decide +kernel
theorem dX5_hearAppeals_101 : decode cX5_hearAppeals 101 = .ok (.getfield 59, 3) := by decide +kernel
theorem dX5_hearAppeals_104 : decode cX5_hearAppeals 104 = .ok (.getfield 107, 3) := by decide +kernel
theorem dX5_hearAppeals_107 : decode cX5_hearAppeals 107 = .ok (.iload_n 2, 1) := by decide +kernel
theorem dX5_hearAppeals_108 : decode cX5_hearAppeals 108 = .ok (.iaload, 1) := by decide +kernel
theorem dX5_hearAppeals_109 : decode cX5_hearAppeals 109 = .ok (.iastore, 1) := by decide +kernel
theorem dX5_hearAppeals_110 : decode cX5_hearAppeals 110 = .ok (.aload_n 0, 1) := by decide +kernel
theorem dX5_hearAppeals_111 : decode cX5_hearAppeals 111 = .ok (.getfield 15, 3) := by decide +kernel
theorem dX5_hearAppeals_114 : decode cX5_hearAppeals 114 = .ok (.iload_n 3, 1) := by decide +kernel
theorem dX5_hearAppeals_115 : decode cX5_hearAppeals 115 = .ok (.aload_n 0, 1) := by decide +kernel
theorem dX5_hearAppeals_116 : decode cX5_hearAppeals 116 = .ok (.getfield 59, 3) := by decide +kernel
theorem dX5_hearAppeals_119 : decode cX5_hearAppeals 119 = .ok (.getfield 104, 3) := by decide +kernel
theorem dX5_hearAppeals_122 : decode cX5_hearAppeals 122 = .ok (.iload_n 2, 1) := by decide +kernel
theorem dX5_hearAppeals_123 : decode cX5_hearAppeals 123 = .ok (.iaload, 1) := by decide +kernel
theorem dX5_hearAppeals_124 : decode cX5_hearAppeals 124 = .ok (.iastore, 1) := by decide +kernel
theorem dX5_hearAppeals_125 : decode cX5_hearAppeals 125 = .ok (.iinc 2 1, 3) := by decide +kernel
theorem dX5_hearAppeals_128 : decode cX5_hearAppeals 128 = .ok (.goto (-85), 3) := by decide +kernel
theorem dX5_hearAppeals_131 : decode cX5_hearAppeals 131 = .ok (.return_, 1) := by decide +kernel
theorem dX5_workFacts_0 : decode cX5_workFacts 0 = .ok (.aload_n 0, 1) := by decide +kernel
theorem dX5_workFacts_1 : decode cX5_workFacts 1 = .ok (.getfield 27, 3) := by decide +kernel
theorem dX5_workFacts_4 : decode cX5_workFacts 4 = .ok (.iconst 0, 1) := by decide +kernel
theorem dX5_workFacts_5 : decode cX5_workFacts 5 = .ok (.invokestatic 67, 3) := by decide +kernel
theorem dX5_workFacts_8 : decode cX5_workFacts 8 = .ok (.iload_n 1, 1) := by decide +kernel
theorem dX5_workFacts_9 : decode cX5_workFacts 9 = .ok (.iload_n 2, 1) := by decide +kernel
theorem dX5_workFacts_10 : decode cX5_workFacts 10 = .ok (.iload_n 3, 1) := by decide +kernel
theorem dX5_workFacts_11 : decode cX5_workFacts 11 = .ok (.invokestatic 91, 3) := by decide +kernel
theorem dX5_workFacts_14 : decode cX5_workFacts 14 = .ok (.istore 4, 2) := by decide +kernel
theorem dX5_workFacts_16 : decode cX5_workFacts 16 = .ok (.aload_n 0, 1) := by decide +kernel
theorem dX5_workFacts_17 : decode cX5_workFacts 17 = .ok (.getfield 18, 3) := by decide +kernel
theorem dX5_workFacts_20 : decode cX5_workFacts 20 = .ok (.iload 4, 2) := by decide +kernel
theorem dX5_workFacts_22 : decode cX5_workFacts 22 = .ok (.iaload, 1) := by decide +kernel
theorem dX5_workFacts_23 : decode cX5_workFacts 23 = .ok (.ifCond .ne 4, 3) := by decide +kernel
theorem dX5_workFacts_26 : decode cX5_workFacts 26 = .ok (.return_, 1) := by decide +kernel
theorem dX5_workFacts_27 : decode cX5_workFacts 27 = .ok (.aload_n 0, 1) := by decide +kernel
theorem dX5_workFacts_28 : decode cX5_workFacts 28 = .ok (.getfield 21, 3) := by decide +kernel
theorem dX5_workFacts_31 : decode cX5_workFacts 31 = .ok (.iload 4, 2) := by decide +kernel
theorem dX5_workFacts_33 : decode cX5_workFacts 33 = .ok (.iaload, 1) := by decide +kernel
theorem dX5_workFacts_34 : decode cX5_workFacts 34 = .ok (.istore 5, 2) := by decide +kernel
theorem dX5_workFacts_36 : decode cX5_workFacts 36 = .ok (.aload_n 0, 1) := by decide +kernel
theorem dX5_workFacts_37 : decode cX5_workFacts 37 = .ok (.getfield 9, 3) := by decide +kernel
theorem dX5_workFacts_40 : decode cX5_workFacts 40 = .ok (.iload 5, 2) := by decide +kernel
theorem dX5_workFacts_42 : decode cX5_workFacts 42 = .ok (.iaload, 1) := by decide +kernel
theorem dX5_workFacts_43 : decode cX5_workFacts 43 = .ok (.istore 6, 2) := by decide +kernel
theorem dX5_workFacts_45 : decode cX5_workFacts 45 = .ok (.iload 6, 2) := by decide +kernel
theorem dX5_workFacts_47 : decode cX5_workFacts 47 = .ok (.aload_n 0, 1) := by decide +kernel
theorem dX5_workFacts_48 : decode cX5_workFacts 48 = .ok (.getfield 47, 3) := by decide +kernel
theorem dX5_workFacts_51 : decode cX5_workFacts 51 = .ok (.iload_n 1, 1) := by decide +kernel
theorem dX5_workFacts_52 : decode cX5_workFacts 52 = .ok (.iload_n 3, 1) := by decide +kernel
theorem dX5_workFacts_53 : decode cX5_workFacts 53 = .ok (.invokevirtual 108, 3) := by decide +kernel
theorem dX5_workFacts_56 : decode cX5_workFacts 56 = .ok (.if_icmp .ne 7, 3) := by decide +kernel
theorem dX5_workFacts_59 : decode cX5_workFacts 59 = .ok (.iconst 1, 1) := by decide +kernel
theorem dX5_workFacts_60 : decode cX5_workFacts 60 = .ok (.goto 4, 3) := by decide +kernel
theorem dX5_workFacts_63 : decode cX5_workFacts 63 = .ok (.iconst 0, 1) := by decide +kernel
theorem dX5_workFacts_64 : decode cX5_workFacts 64 = .ok (.istore 7, 2) := by decide +kernel
theorem dX5_workFacts_66 : decode cX5_workFacts 66 = .ok (.aload_n 0, 1) := by decide +kernel
theorem dX5_workFacts_67 : decode cX5_workFacts 67 = .ok (.getfield 27, 3) := by decide +kernel
theorem dX5_workFacts_70 : decode cX5_workFacts 70 = .ok (.iconst 0, 1) := by decide +kernel
theorem dX5_workFacts_71 : decode cX5_workFacts 71 = .ok (.iload 7, 2) := by decide +kernel
theorem dX5_workFacts_73 : decode cX5_workFacts 73 = .ok (.ifCond .eq 7, 3) := by decide +kernel
theorem dX5_workFacts_76 : decode cX5_workFacts 76 = .ok (.iconst 1, 1) := by decide +kernel
theorem dX5_workFacts_77 : decode cX5_workFacts 77 = .ok (.goto 4, 3) := by decide +kernel
theorem dX5_workFacts_80 : decode cX5_workFacts 80 = .ok (.iconst 0, 1) := by decide +kernel
theorem dX5_workFacts_81 : decode cX5_workFacts 81 = .ok (.iastore, 1) := by decide +kernel
theorem dX5_workFacts_82 : decode cX5_workFacts 82 = .ok (.aload_n 0, 1) := by decide +kernel
theorem dX5_workFacts_83 : decode cX5_workFacts 83 = .ok (.getfield 27, 3) := by decide +kernel
theorem dX5_workFacts_86 : decode cX5_workFacts 86 = .ok (.iconst 1, 1) := by decide +kernel
theorem dX5_workFacts_87 : decode cX5_workFacts 87 = .ok (.aload_n 0, 1) := by decide +kernel
theorem dX5_workFacts_88 : decode cX5_workFacts 88 = .ok (.getfield 47, 3) := by decide +kernel
theorem dX5_workFacts_91 : decode cX5_workFacts 91 = .ok (.iload_n 1, 1) := by decide +kernel
theorem dX5_workFacts_92 : decode cX5_workFacts 92 = .ok (.iload_n 3, 1) := by decide +kernel
theorem dX5_workFacts_93 : decode cX5_workFacts 93 = .ok (.iload 6, 2) := by decide +kernel
theorem dX5_workFacts_95 : decode cX5_workFacts 95 = .ok (.invokevirtual 114, 3) := by decide +kernel
theorem dX5_workFacts_98 : decode cX5_workFacts 98 = .ok (.iastore, 1) := by decide +kernel
theorem dX5_workFacts_99 : decode cX5_workFacts 99 = .ok (.aload_n 0, 1) := by decide +kernel
theorem dX5_workFacts_100 : decode cX5_workFacts 100 = .ok (.getfield 27, 3) := by decide +kernel
theorem dX5_workFacts_103 : decode cX5_workFacts 103 = .ok (.iconst 2, 1) := by decide +kernel
theorem dX5_workFacts_104 : decode cX5_workFacts 104 = .ok (.iload 6, 2) := by decide +kernel
theorem dX5_workFacts_106 : decode cX5_workFacts 106 = .ok (.iastore, 1) := by decide +kernel
theorem dX5_workFacts_107 : decode cX5_workFacts 107 = .ok (.aload_n 0, 1) := by decide +kernel
theorem dX5_workFacts_108 : decode cX5_workFacts 108 = .ok (.getfield 27, 3) := by decide +kernel
theorem dX5_workFacts_111 : decode cX5_workFacts 111 = .ok (.iconst 3, 1) := by decide +kernel
theorem dX5_workFacts_112 : decode cX5_workFacts 112 = .ok (.aload_n 0, 1) := by decide +kernel
theorem dX5_workFacts_113 : decode cX5_workFacts 113 = .ok (.getfield 24, 3) := by decide +kernel
theorem dX5_workFacts_116 : decode cX5_workFacts 116 = .ok (.iload 4, 2) := by decide +kernel
theorem dX5_workFacts_118 : decode cX5_workFacts 118 = .ok (.iaload, 1) := by decide +kernel
theorem dX5_workFacts_119 : decode cX5_workFacts 119 = .ok (.iastore, 1) := by decide +kernel
theorem dX5_workFacts_120 : decode cX5_workFacts 120 = .ok (.aload_n 0, 1) := by decide +kernel
theorem dX5_workFacts_121 : decode cX5_workFacts 121 = .ok (.getfield 27, 3) := by decide +kernel
theorem dX5_workFacts_124 : decode cX5_workFacts 124 = .ok (.iconst 4, 1) := by decide +kernel
theorem dX5_workFacts_125 : decode cX5_workFacts 125 = .ok (.aload_n 0, 1) := by decide +kernel
theorem dX5_workFacts_126 : decode cX5_workFacts 126 = .ok (.getfield 55, 3) := by decide +kernel
theorem dX5_workFacts_129 : decode cX5_workFacts 129 = .ok (.getfield 79, 3) := by decide +kernel
theorem dX5_workFacts_132 : decode cX5_workFacts 132 = .ok (.iload 5, 2) := by decide +kernel
theorem dX5_workFacts_134 : decode cX5_workFacts 134 = .ok (.iaload, 1) := by decide +kernel
theorem dX5_workFacts_135 : decode cX5_workFacts 135 = .ok (.ifCond .ne 7, 3) := by decide +kernel
theorem dX5_workFacts_138 : decode cX5_workFacts 138 = .ok (.iconst 0, 1) := by decide +kernel
theorem dX5_workFacts_139 : decode cX5_workFacts 139 = .ok (.goto 24, 3) := by decide +kernel
theorem dX5_workFacts_142 : decode cX5_workFacts 142 = .ok (.aload_n 0, 1) := by decide +kernel
theorem dX5_workFacts_143 : decode cX5_workFacts 143 = .ok (.getfield 55, 3) := by decide +kernel
theorem dX5_workFacts_146 : decode cX5_workFacts 146 = .ok (.getfield 117, 3) := by decide +kernel
theorem dX5_workFacts_149 : decode cX5_workFacts 149 = .ok (.iload 5, 2) := by decide +kernel
theorem dX5_workFacts_151 : decode cX5_workFacts 151 = .ok (.iaload, 1) := by decide +kernel
theorem dX5_workFacts_152 : decode cX5_workFacts 152 = .ok (.aload_n 0, 1) := by decide +kernel
theorem dX5_workFacts_153 : decode cX5_workFacts 153 = .ok (.getfield 55, 3) := by decide +kernel
theorem dX5_workFacts_156 : decode cX5_workFacts 156 = .ok (.getfield 120, 3) := by decide +kernel
theorem dX5_workFacts_159 : decode cX5_workFacts 159 = .ok (.iload 5, 2) := by decide +kernel
theorem dX5_workFacts_161 : decode cX5_workFacts 161 = .ok (.iaload, 1) := by decide +kernel
theorem dX5_workFacts_162 : decode cX5_workFacts 162 = .ok (.isub, 1) := by decide +kernel
theorem dX5_workFacts_163 : decode cX5_workFacts 163 = .ok (.iastore, 1) := by decide +kernel
theorem dX5_workFacts_164 : decode cX5_workFacts 164 = .ok (.aload_n 0, 1) := by decide +kernel
theorem dX5_workFacts_165 : decode cX5_workFacts 165 = .ok (.getfield 27, 3) := by decide +kernel
theorem dX5_workFacts_168 : decode cX5_workFacts 168 = .ok (.iconst 5, 1) := by decide +kernel
theorem dX5_workFacts_169 : decode cX5_workFacts 169 = .ok (.iload 7, 2) := by decide +kernel
theorem dX5_workFacts_171 : decode cX5_workFacts 171 = .ok (.ifCond .eq 18, 3) := by decide +kernel
theorem dX5_workFacts_174 : decode cX5_workFacts 174 = .ok (.aload_n 0, 1) := by decide +kernel
theorem dX5_workFacts_175 : decode cX5_workFacts 175 = .ok (.getfield 24, 3) := by decide +kernel
theorem dX5_workFacts_178 : decode cX5_workFacts 178 = .ok (.iload 4, 2) := by decide +kernel
theorem dX5_workFacts_180 : decode cX5_workFacts 180 = .ok (.iaload, 1) := by decide +kernel
theorem dX5_workFacts_181 : decode cX5_workFacts 181 = .ok (.iconst 1, 1) := by decide +kernel
theorem dX5_workFacts_182 : decode cX5_workFacts 182 = .ok (.if_icmp .ne 7, 3) := by decide +kernel
theorem dX5_workFacts_185 : decode cX5_workFacts 185 = .ok (.iconst 1, 1) := by decide +kernel
theorem dX5_workFacts_186 : decode cX5_workFacts 186 = .ok (.goto 4, 3) := by decide +kernel
theorem dX5_workFacts_189 : decode cX5_workFacts 189 = .ok (.iconst 0, 1) := by decide +kernel
theorem dX5_workFacts_190 : decode cX5_workFacts 190 = .ok (.iastore, 1) := by decide +kernel
theorem dX5_workFacts_191 : decode cX5_workFacts 191 = .ok (.return_, 1) := by decide +kernel
theorem dX5_workKeys_0 : decode cX5_workKeys 0 = .ok (.aload_n 0, 1) := by decide +kernel
theorem dX5_workKeys_1 : decode cX5_workKeys 1 = .ok (.getfield 33, 3) := by decide +kernel
theorem dX5_workKeys_4 : decode cX5_workKeys 4 = .ok (.lconst 0, 1) := by decide +kernel
theorem dX5_workKeys_5 : decode cX5_workKeys 5 = .ok (.invokestatic 123, 3) := by decide +kernel
theorem dX5_workKeys_8 : decode cX5_workKeys 8 = .ok (.iconst 0, 1) := by decide +kernel
theorem dX5_workKeys_9 : decode cX5_workKeys 9 = .ok (.istore_n 3, 1) := by decide +kernel
theorem dX5_workKeys_10 : decode cX5_workKeys 10 = .ok (.iload_n 3, 1) := by decide +kernel
theorem dX5_workKeys_11 : decode cX5_workKeys 11 = .ok (.aload_n 0, 1) := by decide +kernel
theorem dX5_workKeys_12 : decode cX5_workKeys 12 = .ok (.getfield 43, 3) := by decide +kernel
theorem dX5_workKeys_15 : decode cX5_workKeys 15 = .ok (.iload_n 1, 1) := by decide +kernel
theorem dX5_workKeys_16 : decode cX5_workKeys 16 = .ok (.iconst 0, 1) := by decide +kernel
theorem dX5_workKeys_17 : decode cX5_workKeys 17 = .ok (.invokevirtual 126, 3) := by decide +kernel
theorem dX5_workKeys_20 : decode cX5_workKeys 20 = .ok (.if_icmp .ge 101, 3) := by decide +kernel
theorem dX5_workKeys_23 : decode cX5_workKeys 23 = .ok (.aload_n 0, 1) := by decide +kernel
theorem dX5_workKeys_24 : decode cX5_workKeys 24 = .ok (.iload_n 1, 1) := by decide +kernel
theorem dX5_workKeys_25 : decode cX5_workKeys 25 = .ok (.iload_n 2, 1) := by decide +kernel
theorem dX5_workKeys_26 : decode cX5_workKeys 26 = .ok (.iload_n 3, 1) := by decide +kernel
theorem dX5_workKeys_27 : decode cX5_workKeys 27 = .ok (.invokevirtual 131, 3) := by decide +kernel
theorem dX5_workKeys_30 : decode cX5_workKeys 30 = .ok (.aload_n 0, 1) := by decide +kernel
theorem dX5_workKeys_31 : decode cX5_workKeys 31 = .ok (.getfield 43, 3) := by decide +kernel
theorem dX5_workKeys_34 : decode cX5_workKeys 34 = .ok (.aload_n 0, 1) := by decide +kernel
theorem dX5_workKeys_35 : decode cX5_workKeys 35 = .ok (.getfield 27, 3) := by decide +kernel
theorem dX5_workKeys_38 : decode cX5_workKeys 38 = .ok (.invokevirtual 135, 3) := by decide +kernel
theorem dX5_workKeys_41 : decode cX5_workKeys 41 = .ok (.istore 4, 2) := by decide +kernel
theorem dX5_workKeys_43 : decode cX5_workKeys 43 = .ok (.aload_n 0, 1) := by decide +kernel
theorem dX5_workKeys_44 : decode cX5_workKeys 44 = .ok (.getfield 33, 3) := by decide +kernel
theorem dX5_workKeys_47 : decode cX5_workKeys 47 = .ok (.iconst 0, 1) := by decide +kernel
theorem dX5_workKeys_48 : decode cX5_workKeys 48 = .ok (.dup2, 1) := by decide +kernel
theorem dX5_workKeys_49 : decode cX5_workKeys 49 = .ok (.laload, 1) := by decide +kernel
theorem dX5_workKeys_50 : decode cX5_workKeys 50 = .ok (.iload 4, 2) := by decide +kernel
theorem dX5_workKeys_52 : decode cX5_workKeys 52 = .ok (.i2l, 1) := by decide +kernel
theorem dX5_workKeys_53 : decode cX5_workKeys 53 = .ok (.ladd, 1) := by decide +kernel
theorem dX5_workKeys_54 : decode cX5_workKeys 54 = .ok (.lastore, 1) := by decide +kernel
theorem dX5_workKeys_55 : decode cX5_workKeys 55 = .ok (.aload_n 0, 1) := by decide +kernel
theorem dX5_workKeys_56 : decode cX5_workKeys 56 = .ok (.getfield 33, 3) := by decide +kernel
theorem dX5_workKeys_59 : decode cX5_workKeys 59 = .ok (.iconst 1, 1) := by decide +kernel
theorem dX5_workKeys_60 : decode cX5_workKeys 60 = .ok (.iload_n 3, 1) := by decide +kernel
theorem dX5_workKeys_61 : decode cX5_workKeys 61 = .ok (.ifCond .ne 9, 3) := by decide +kernel
theorem dX5_workKeys_64 : decode cX5_workKeys 64 = .ok (.iload 4, 2) := by decide +kernel
theorem dX5_workKeys_66 : decode cX5_workKeys 66 = .ok (.i2l, 1) := by decide +kernel
theorem dX5_workKeys_67 : decode cX5_workKeys 67 = .ok (.goto 15, 3) := by decide +kernel
theorem dX5_workKeys_70 : decode cX5_workKeys 70 = .ok (.aload_n 0, 1) := by decide +kernel
theorem dX5_workKeys_71 : decode cX5_workKeys 71 = .ok (.getfield 33, 3) := by decide +kernel
theorem dX5_workKeys_74 : decode cX5_workKeys 74 = .ok (.iconst 1, 1) := by decide +kernel
theorem dX5_workKeys_75 : decode cX5_workKeys 75 = .ok (.laload, 1) := by decide +kernel
theorem dX5_workKeys_76 : decode cX5_workKeys 76 = .ok (.iload 4, 2) := by decide +kernel
theorem dX5_workKeys_78 : decode cX5_workKeys 78 = .ok (.i2l, 1) := by decide +kernel
theorem dX5_workKeys_79 : decode cX5_workKeys 79 = .ok (.invokestatic 139, 3) := by decide +kernel
theorem dX5_workKeys_82 : decode cX5_workKeys 82 = .ok (.lastore, 1) := by decide +kernel
theorem dX5_workKeys_83 : decode cX5_workKeys 83 = .ok (.aload_n 0, 1) := by decide +kernel
theorem dX5_workKeys_84 : decode cX5_workKeys 84 = .ok (.getfield 33, 3) := by decide +kernel
theorem dX5_workKeys_87 : decode cX5_workKeys 87 = .ok (.iconst 2, 1) := by decide +kernel
theorem dX5_workKeys_88 : decode cX5_workKeys 88 = .ok (.dup2, 1) := by decide +kernel
theorem dX5_workKeys_89 : decode cX5_workKeys 89 = .ok (.laload, 1) := by decide +kernel
theorem dX5_workKeys_90 : decode cX5_workKeys 90 = .ok (.aload_n 0, 1) := by decide +kernel
theorem dX5_workKeys_91 : decode cX5_workKeys 91 = .ok (.getfield 27, 3) := by decide +kernel
theorem dX5_workKeys_94 : decode cX5_workKeys 94 = .ok (.iconst 0, 1) := by decide +kernel
theorem dX5_workKeys_95 : decode cX5_workKeys 95 = .ok (.iaload, 1) := by decide +kernel
theorem dX5_workKeys_96 : decode cX5_workKeys 96 = .ok (.i2l, 1) := by decide +kernel
theorem dX5_workKeys_97 : decode cX5_workKeys 97 = .ok (.ladd, 1) := by decide +kernel
theorem dX5_workKeys_98 : decode cX5_workKeys 98 = .ok (.lastore, 1) := by decide +kernel
theorem dX5_workKeys_99 : decode cX5_workKeys 99 = .ok (.aload_n 0, 1) := by decide +kernel
theorem dX5_workKeys_100 : decode cX5_workKeys 100 = .ok (.getfield 33, 3) := by decide +kernel
theorem dX5_workKeys_103 : decode cX5_workKeys 103 = .ok (.iconst 3, 1) := by decide +kernel
theorem dX5_workKeys_104 : decode cX5_workKeys 104 = .ok (.dup2, 1) := by decide +kernel
theorem dX5_workKeys_105 : decode cX5_workKeys 105 = .ok (.laload, 1) := by decide +kernel
theorem dX5_workKeys_106 : decode cX5_workKeys 106 = .ok (.aload_n 0, 1) := by decide +kernel
theorem dX5_workKeys_107 : decode cX5_workKeys 107 = .ok (.getfield 27, 3) := by decide +kernel
theorem dX5_workKeys_110 : decode cX5_workKeys 110 = .ok (.iconst 1, 1) := by decide +kernel
theorem dX5_workKeys_111 : decode cX5_workKeys 111 = .ok (.iaload, 1) := by decide +kernel
theorem dX5_workKeys_112 : decode cX5_workKeys 112 = .ok (.i2l, 1) := by decide +kernel
theorem dX5_workKeys_113 : decode cX5_workKeys 113 = .ok (.ladd, 1) := by decide +kernel
theorem dX5_workKeys_114 : decode cX5_workKeys 114 = .ok (.lastore, 1) := by decide +kernel
theorem dX5_workKeys_115 : decode cX5_workKeys 115 = .ok (.iinc 3 1, 3) := by decide +kernel
theorem dX5_workKeys_118 : decode cX5_workKeys 118 = .ok (.goto (-108), 3) := by decide +kernel
theorem dX5_workKeys_121 : decode cX5_workKeys 121 = .ok (.iconst 0, 1) := by decide +kernel
theorem dX5_workKeys_122 : decode cX5_workKeys 122 = .ok (.istore_n 3, 1) := by decide +kernel
theorem dX5_workKeys_123 : decode cX5_workKeys 123 = .ok (.iload_n 3, 1) := by decide +kernel
theorem dX5_workKeys_124 : decode cX5_workKeys 124 = .ok (.aload_n 0, 1) := by decide +kernel
theorem dX5_workKeys_125 : decode cX5_workKeys 125 = .ok (.getfield 43, 3) := by decide +kernel
theorem dX5_workKeys_128 : decode cX5_workKeys 128 = .ok (.getfield 145, 3) := by decide +kernel
theorem dX5_workKeys_131 : decode cX5_workKeys 131 = .ok (.if_icmp .ge 35, 3) := by decide +kernel
theorem dX5_workKeys_134 : decode cX5_workKeys 134 = .ok (.aload_n 0, 1) := by decide +kernel
theorem dX5_workKeys_135 : decode cX5_workKeys 135 = .ok (.getfield 37, 3) := by decide +kernel
theorem dX5_workKeys_138 : decode cX5_workKeys 138 = .ok (.iload_n 1, 1) := by decide +kernel
theorem dX5_workKeys_139 : decode cX5_workKeys 139 = .ok (.iload_n 2, 1) := by decide +kernel
theorem dX5_workKeys_140 : decode cX5_workKeys 140 = .ok (.invokestatic 148, 3) := by decide +kernel
theorem dX5_workKeys_143 : decode cX5_workKeys 143 = .ok (.iload_n 3, 1) := by decide +kernel
theorem dX5_workKeys_144 : decode cX5_workKeys 144 = .ok (.iadd, 1) := by decide +kernel
theorem dX5_workKeys_145 : decode cX5_workKeys 145 = .ok (.aload_n 0, 1) := by decide +kernel
theorem dX5_workKeys_146 : decode cX5_workKeys 146 = .ok (.getfield 33, 3) := by decide +kernel
theorem dX5_workKeys_149 : decode cX5_workKeys 149 = .ok (.aload_n 0, 1) := by decide +kernel
theorem dX5_workKeys_150 : decode cX5_workKeys 150 = .ok (.getfield 43, 3) := by decide +kernel
theorem dX5_workKeys_153 : decode cX5_workKeys 153 = .ok (.getfield 151, 3) := by decide +kernel
theorem dX5_workKeys_156 : decode cX5_workKeys 156 = .ok (.iload_n 3, 1) := by decide +kernel
theorem dX5_workKeys_157 : decode cX5_workKeys 157 = .ok (.iaload, 1) := by decide +kernel
theorem dX5_workKeys_158 : decode cX5_workKeys 158 = .ok (.laload, 1) := by decide +kernel
theorem dX5_workKeys_159 : decode cX5_workKeys 159 = .ok (.lastore, 1) := by decide +kernel
theorem dX5_workKeys_160 : decode cX5_workKeys 160 = .ok (.iinc 3 1, 3) := by decide +kernel
theorem dX5_workKeys_163 : decode cX5_workKeys 163 = .ok (.goto (-40), 3) := by decide +kernel
theorem dX5_workKeys_166 : decode cX5_workKeys 166 = .ok (.return_, 1) := by decide +kernel
theorem dX5_keyOf_0 : decode cX5_keyOf 0 = .ok (.aload_n 0, 1) := by decide +kernel
theorem dX5_keyOf_1 : decode cX5_keyOf 1 = .ok (.getfield 37, 3) := by decide +kernel
theorem dX5_keyOf_4 : decode cX5_keyOf 4 = .ok (.iload_n 1, 1) := by decide +kernel
theorem dX5_keyOf_5 : decode cX5_keyOf 5 = .ok (.iload_n 2, 1) := by decide +kernel
theorem dX5_keyOf_6 : decode cX5_keyOf 6 = .ok (.invokestatic 148, 3) := by decide +kernel
theorem dX5_keyOf_9 : decode cX5_keyOf 9 = .ok (.iload_n 3, 1) := by decide +kernel
theorem dX5_keyOf_10 : decode cX5_keyOf 10 = .ok (.iadd, 1) := by decide +kernel
theorem dX5_keyOf_11 : decode cX5_keyOf 11 = .ok (.laload, 1) := by decide +kernel
theorem dX5_keyOf_12 : decode cX5_keyOf 12 = .ok (.lreturn, 1) := by decide +kernel
theorem dX5_workRanks_0 : decode cX5_workRanks 0 = .ok (.aload_n 0, 1) := by decide +kernel
theorem dX5_workRanks_1 : decode cX5_workRanks 1 = .ok (.iload_n 2, 1) := by decide +kernel
theorem dX5_workRanks_2 : decode cX5_workRanks 2 = .ok (.invokevirtual 154, 3) := by decide +kernel
theorem dX5_workRanks_5 : decode cX5_workRanks 5 = .ok (.iconst 0, 1) := by decide +kernel
theorem dX5_workRanks_6 : decode cX5_workRanks 6 = .ok (.istore_n 3, 1) := by decide +kernel
theorem dX5_workRanks_7 : decode cX5_workRanks 7 = .ok (.iload_n 3, 1) := by decide +kernel
theorem dX5_workRanks_8 : decode cX5_workRanks 8 = .ok (.aload_n 0, 1) := by decide +kernel
theorem dX5_workRanks_9 : decode cX5_workRanks 9 = .ok (.getfield 51, 3) := by decide +kernel
theorem dX5_workRanks_12 : decode cX5_workRanks 12 = .ok (.getfield 157, 3) := by decide +kernel
theorem dX5_workRanks_15 : decode cX5_workRanks 15 = .ok (.if_icmp .ge 47, 3) := by decide +kernel
theorem dX5_workRanks_18 : decode cX5_workRanks 18 = .ok (.aload_n 0, 1) := by decide +kernel
theorem dX5_workRanks_19 : decode cX5_workRanks 19 = .ok (.iload_n 1, 1) := by decide +kernel
theorem dX5_workRanks_20 : decode cX5_workRanks 20 = .ok (.invokevirtual 162, 3) := by decide +kernel
theorem dX5_workRanks_23 : decode cX5_workRanks 23 = .ok (.istore 4, 2) := by decide +kernel
theorem dX5_workRanks_25 : decode cX5_workRanks 25 = .ok (.iload 4, 2) := by decide +kernel
theorem dX5_workRanks_27 : decode cX5_workRanks 27 = .ok (.iload_n 1, 1) := by decide +kernel
theorem dX5_workRanks_28 : decode cX5_workRanks 28 = .ok (.if_icmp .gt 28, 3) := by decide +kernel
theorem dX5_workRanks_31 : decode cX5_workRanks 31 = .ok (.aload_n 0, 1) := by decide +kernel
theorem dX5_workRanks_32 : decode cX5_workRanks 32 = .ok (.getfield 51, 3) := by decide +kernel
theorem dX5_workRanks_35 : decode cX5_workRanks 35 = .ok (.iload_n 1, 1) := by decide +kernel
theorem dX5_workRanks_36 : decode cX5_workRanks 36 = .ok (.iload_n 3, 1) := by decide +kernel
theorem dX5_workRanks_37 : decode cX5_workRanks 37 = .ok (.invokevirtual 166, 3) := by decide +kernel
theorem dX5_workRanks_40 : decode cX5_workRanks 40 = .ok (.ifCond .eq 16, 3) := by decide +kernel
theorem dX5_workRanks_43 : decode cX5_workRanks 43 = .ok (.aload_n 0, 1) := by decide +kernel
theorem dX5_workRanks_44 : decode cX5_workRanks 44 = .ok (.iload 4, 2) := by decide +kernel
theorem dX5_workRanks_46 : decode cX5_workRanks 46 = .ok (.iload_n 3, 1) := by decide +kernel
theorem dX5_workRanks_47 : decode cX5_workRanks 47 = .ok (.invokevirtual 170, 3) := by decide +kernel
theorem dX5_workRanks_50 : decode cX5_workRanks 50 = .ok (.iinc 4 1, 3) := by decide +kernel
theorem dX5_workRanks_53 : decode cX5_workRanks 53 = .ok (.goto (-28), 3) := by decide +kernel
theorem dX5_workRanks_56 : decode cX5_workRanks 56 = .ok (.iinc 3 1, 3) := by decide +kernel
theorem dX5_workRanks_59 : decode cX5_workRanks 59 = .ok (.goto (-52), 3) := by decide +kernel
theorem dX5_workRanks_62 : decode cX5_workRanks 62 = .ok (.iconst 0, 1) := by decide +kernel
theorem dX5_workRanks_63 : decode cX5_workRanks 63 = .ok (.istore_n 3, 1) := by decide +kernel
theorem dX5_workRanks_64 : decode cX5_workRanks 64 = .ok (.iload_n 3, 1) := by decide +kernel
theorem dX5_workRanks_65 : decode cX5_workRanks 65 = .ok (.aload_n 0, 1) := by decide +kernel
theorem dX5_workRanks_66 : decode cX5_workRanks 66 = .ok (.getfield 51, 3) := by decide +kernel
theorem dX5_workRanks_69 : decode cX5_workRanks 69 = .ok (.getfield 157, 3) := by decide +kernel
theorem dX5_workRanks_72 : decode cX5_workRanks 72 = .ok (.if_icmp .ge 39, 3) := by decide +kernel
theorem dX5_workRanks_75 : decode cX5_workRanks 75 = .ok (.aload_n 0, 1) := by decide +kernel
theorem dX5_workRanks_76 : decode cX5_workRanks 76 = .ok (.getfield 40, 3) := by decide +kernel
theorem dX5_workRanks_79 : decode cX5_workRanks 79 = .ok (.iload_n 3, 1) := by decide +kernel
theorem dX5_workRanks_80 : decode cX5_workRanks 80 = .ok (.aload_n 0, 1) := by decide +kernel
theorem dX5_workRanks_81 : decode cX5_workRanks 81 = .ok (.getfield 51, 3) := by decide +kernel
theorem dX5_workRanks_84 : decode cX5_workRanks 84 = .ok (.iload_n 1, 1) := by decide +kernel
theorem dX5_workRanks_85 : decode cX5_workRanks 85 = .ok (.iload_n 3, 1) := by decide +kernel
theorem dX5_workRanks_86 : decode cX5_workRanks 86 = .ok (.invokevirtual 166, 3) := by decide +kernel
theorem dX5_workRanks_89 : decode cX5_workRanks 89 = .ok (.ifCond .eq 14, 3) := by decide +kernel
theorem dX5_workRanks_92 : decode cX5_workRanks 92 = .ok (.iconst 1, 1) := by decide +kernel
theorem dX5_workRanks_93 : decode cX5_workRanks 93 = .ok (.aload_n 0, 1) := by decide +kernel
theorem dX5_workRanks_94 : decode cX5_workRanks 94 = .ok (.iload_n 1, 1) := by decide +kernel
theorem dX5_workRanks_95 : decode cX5_workRanks 95 = .ok (.iload_n 3, 1) := by decide +kernel
theorem dX5_workRanks_96 : decode cX5_workRanks 96 = .ok (.invokevirtual 174, 3) := by decide +kernel
theorem dX5_workRanks_99 : decode cX5_workRanks 99 = .ok (.iadd, 1) := by decide +kernel
theorem dX5_workRanks_100 : decode cX5_workRanks 100 = .ok (.goto 4, 3) := by decide +kernel
theorem dX5_workRanks_103 : decode cX5_workRanks 103 = .ok (.iconst (-1), 1) := by decide +kernel
theorem dX5_workRanks_104 : decode cX5_workRanks 104 = .ok (.iastore, 1) := by decide +kernel
theorem dX5_workRanks_105 : decode cX5_workRanks 105 = .ok (.iinc 3 1, 3) := by decide +kernel
theorem dX5_workRanks_108 : decode cX5_workRanks 108 = .ok (.goto (-44), 3) := by decide +kernel
theorem dX5_workRanks_111 : decode cX5_workRanks 111 = .ok (.return_, 1) := by decide +kernel
theorem dX5_manyAhead_0 : decode cX5_manyAhead 0 = .ok (.iconst 0, 1) := by decide +kernel
theorem dX5_manyAhead_1 : decode cX5_manyAhead 1 = .ok (.istore_n 3, 1) := by decide +kernel
theorem dX5_manyAhead_2 : decode cX5_manyAhead 2 = .ok (.iconst 0, 1) := by decide +kernel
theorem dX5_manyAhead_3 : decode cX5_manyAhead 3 = .ok (.istore 4, 2) := by decide +kernel
theorem dX5_manyAhead_5 : decode cX5_manyAhead 5 = .ok (.iload 4, 2) := by decide +kernel
theorem dX5_manyAhead_7 : decode cX5_manyAhead 7 = .ok (.aload_n 0, 1) := by decide +kernel
theorem dX5_manyAhead_8 : decode cX5_manyAhead 8 = .ok (.getfield 51, 3) := by decide +kernel
theorem dX5_manyAhead_11 : decode cX5_manyAhead 11 = .ok (.getfield 157, 3) := by decide +kernel
theorem dX5_manyAhead_14 : decode cX5_manyAhead 14 = .ok (.if_icmp .ge 36, 3) := by decide +kernel
theorem dX5_manyAhead_17 : decode cX5_manyAhead 17 = .ok (.aload_n 0, 1) := by decide +kernel
theorem dX5_manyAhead_18 : decode cX5_manyAhead 18 = .ok (.getfield 51, 3) := by decide +kernel
theorem dX5_manyAhead_21 : decode cX5_manyAhead 21 = .ok (.iload_n 1, 1) := by decide +kernel
theorem dX5_manyAhead_22 : decode cX5_manyAhead 22 = .ok (.iload 4, 2) := by decide +kernel
theorem dX5_manyAhead_24 : decode cX5_manyAhead 24 = .ok (.invokevirtual 166, 3) := by decide +kernel
theorem dX5_manyAhead_27 : decode cX5_manyAhead 27 = .ok (.ifCond .eq 17, 3) := by decide +kernel
theorem dX5_manyAhead_30 : decode cX5_manyAhead 30 = .ok (.aload_n 0, 1) := by decide +kernel
theorem dX5_manyAhead_31 : decode cX5_manyAhead 31 = .ok (.iload_n 1, 1) := by decide +kernel
theorem dX5_manyAhead_32 : decode cX5_manyAhead 32 = .ok (.iload 4, 2) := by decide +kernel
theorem dX5_manyAhead_34 : decode cX5_manyAhead 34 = .ok (.iload_n 2, 1) := by decide +kernel
theorem dX5_manyAhead_35 : decode cX5_manyAhead 35 = .ok (.invokevirtual 177, 3) := by decide +kernel
theorem dX5_manyAhead_38 : decode cX5_manyAhead 38 = .ok (.ifCond .eq 6, 3) := by decide +kernel
theorem dX5_manyAhead_41 : decode cX5_manyAhead 41 = .ok (.iinc 3 1, 3) := by decide +kernel
theorem dX5_manyAhead_44 : decode cX5_manyAhead 44 = .ok (.iinc 4 1, 3) := by decide +kernel
theorem dX5_manyAhead_47 : decode cX5_manyAhead 47 = .ok (.goto (-42), 3) := by decide +kernel
theorem dX5_manyAhead_50 : decode cX5_manyAhead 50 = .ok (.iload_n 3, 1) := by decide +kernel
theorem dX5_manyAhead_51 : decode cX5_manyAhead 51 = .ok (.ireturn, 1) := by decide +kernel
theorem dX5_lowestAsked_0 : decode cX5_lowestAsked 0 = .ok (.aload_n 0, 1) := by decide +kernel
theorem dX5_lowestAsked_1 : decode cX5_lowestAsked 1 = .ok (.getfield 43, 3) := by decide +kernel
theorem dX5_lowestAsked_4 : decode cX5_lowestAsked 4 = .ok (.getfield 181, 3) := by decide +kernel
theorem dX5_lowestAsked_7 : decode cX5_lowestAsked 7 = .ok (.ifCond .eq 7, 3) := by decide +kernel
theorem dX5_lowestAsked_10 : decode cX5_lowestAsked 10 = .ok (.iconst 0, 1) := by decide +kernel
theorem dX5_lowestAsked_11 : decode cX5_lowestAsked 11 = .ok (.goto 4, 3) := by decide +kernel
theorem dX5_lowestAsked_14 : decode cX5_lowestAsked 14 = .ok (.iload_n 1, 1) := by decide +kernel
theorem dX5_lowestAsked_15 : decode cX5_lowestAsked 15 = .ok (.ireturn, 1) := by decide +kernel
theorem dX5_isAhead_0 : decode cX5_isAhead 0 = .ok (.iload_n 1, 1) := by decide +kernel
theorem dX5_isAhead_1 : decode cX5_isAhead 1 = .ok (.istore 4, 2) := by decide +kernel
theorem dX5_isAhead_3 : decode cX5_isAhead 3 = .ok (.iload 4, 2) := by decide +kernel
theorem dX5_isAhead_5 : decode cX5_isAhead 5 = .ok (.aload_n 0, 1) := by decide +kernel
theorem dX5_isAhead_6 : decode cX5_isAhead 6 = .ok (.iload_n 1, 1) := by decide +kernel
theorem dX5_isAhead_7 : decode cX5_isAhead 7 = .ok (.invokevirtual 162, 3) := by decide +kernel
theorem dX5_isAhead_10 : decode cX5_isAhead 10 = .ok (.if_icmp .lt 101, 3) := by decide +kernel
theorem dX5_isAhead_13 : decode cX5_isAhead 13 = .ok (.iconst 0, 1) := by decide +kernel
theorem dX5_isAhead_14 : decode cX5_isAhead 14 = .ok (.istore 5, 2) := by decide +kernel
theorem dX5_isAhead_16 : decode cX5_isAhead 16 = .ok (.iload 5, 2) := by decide +kernel
theorem dX5_isAhead_18 : decode cX5_isAhead 18 = .ok (.aload_n 0, 1) := by decide +kernel
theorem dX5_isAhead_19 : decode cX5_isAhead 19 = .ok (.getfield 43, 3) := by decide +kernel
theorem dX5_isAhead_22 : decode cX5_isAhead 22 = .ok (.getfield 145, 3) := by decide +kernel
theorem dX5_isAhead_25 : decode cX5_isAhead 25 = .ok (.if_icmp .ge 80, 3) := by decide +kernel
theorem dX5_isAhead_28 : decode cX5_isAhead 28 = .ok (.aload_n 0, 1) := by decide +kernel
theorem dX5_isAhead_29 : decode cX5_isAhead 29 = .ok (.iload 4, 2) := by decide +kernel
theorem dX5_isAhead_31 : decode cX5_isAhead 31 = .ok (.iload_n 2, 1) := by decide +kernel
theorem dX5_isAhead_32 : decode cX5_isAhead 32 = .ok (.iload 5, 2) := by decide +kernel
theorem dX5_isAhead_34 : decode cX5_isAhead 34 = .ok (.invokevirtual 185, 3) := by decide +kernel
theorem dX5_isAhead_37 : decode cX5_isAhead 37 = .ok (.lstore 6, 2) := by decide +kernel
theorem dX5_isAhead_39 : decode cX5_isAhead 39 = .ok (.aload_n 0, 1) := by decide +kernel
theorem dX5_isAhead_40 : decode cX5_isAhead 40 = .ok (.iload 4, 2) := by decide +kernel
theorem dX5_isAhead_42 : decode cX5_isAhead 42 = .ok (.iload_n 3, 1) := by decide +kernel
theorem dX5_isAhead_43 : decode cX5_isAhead 43 = .ok (.iload 5, 2) := by decide +kernel
theorem dX5_isAhead_45 : decode cX5_isAhead 45 = .ok (.invokevirtual 185, 3) := by decide +kernel
theorem dX5_isAhead_48 : decode cX5_isAhead 48 = .ok (.lstore 8, 2) := by decide +kernel
theorem dX5_isAhead_50 : decode cX5_isAhead 50 = .ok (.lload 6, 2) := by decide +kernel
theorem dX5_isAhead_52 : decode cX5_isAhead 52 = .ok (.lload 8, 2) := by decide +kernel
theorem dX5_isAhead_54 : decode cX5_isAhead 54 = .ok (.lcmp, 1) := by decide +kernel
theorem dX5_isAhead_55 : decode cX5_isAhead 55 = .ok (.ifCond .eq 44, 3) := by decide +kernel
theorem dX5_isAhead_58 : decode cX5_isAhead 58 = .ok (.lload 6, 2) := by decide +kernel
theorem dX5_isAhead_60 : decode cX5_isAhead 60 = .ok (.lload 8, 2) := by decide +kernel
theorem dX5_isAhead_62 : decode cX5_isAhead 62 = .ok (.lcmp, 1) := by decide +kernel
theorem dX5_isAhead_63 : decode cX5_isAhead 63 = .ok (.ifCond .le 7, 3) := by decide +kernel
theorem dX5_isAhead_66 : decode cX5_isAhead 66 = .ok (.iconst 1, 1) := by decide +kernel
theorem dX5_isAhead_67 : decode cX5_isAhead 67 = .ok (.goto 4, 3) := by decide +kernel
theorem dX5_isAhead_70 : decode cX5_isAhead 70 = .ok (.iconst 0, 1) := by decide +kernel
theorem dX5_isAhead_71 : decode cX5_isAhead 71 = .ok (.aload_n 0, 1) := by decide +kernel
theorem dX5_isAhead_72 : decode cX5_isAhead 72 = .ok (.getfield 43, 3) := by decide +kernel
theorem dX5_isAhead_75 : decode cX5_isAhead 75 = .ok (.getfield 189, 3) := by decide +kernel
theorem dX5_isAhead_78 : decode cX5_isAhead 78 = .ok (.iload 5, 2) := by decide +kernel
theorem dX5_isAhead_80 : decode cX5_isAhead 80 = .ok (.iaload, 1) := by decide +kernel
theorem dX5_isAhead_81 : decode cX5_isAhead 81 = .ok (.iconst 1, 1) := by decide +kernel
theorem dX5_isAhead_82 : decode cX5_isAhead 82 = .ok (.if_icmp .ne 7, 3) := by decide +kernel
theorem dX5_isAhead_85 : decode cX5_isAhead 85 = .ok (.iconst 1, 1) := by decide +kernel
theorem dX5_isAhead_86 : decode cX5_isAhead 86 = .ok (.goto 4, 3) := by decide +kernel
theorem dX5_isAhead_89 : decode cX5_isAhead 89 = .ok (.iconst 0, 1) := by decide +kernel
theorem dX5_isAhead_90 : decode cX5_isAhead 90 = .ok (.if_icmp .ne 7, 3) := by decide +kernel
theorem dX5_isAhead_93 : decode cX5_isAhead 93 = .ok (.iconst 1, 1) := by decide +kernel
theorem dX5_isAhead_94 : decode cX5_isAhead 94 = .ok (.goto 4, 3) := by decide +kernel
theorem dX5_isAhead_97 : decode cX5_isAhead 97 = .ok (.iconst 0, 1) := by decide +kernel
theorem dX5_isAhead_98 : decode cX5_isAhead 98 = .ok (.ireturn, 1) := by decide +kernel
theorem dX5_isAhead_99 : decode cX5_isAhead 99 = .ok (.iinc 5 1, 3) := by decide +kernel
theorem dX5_isAhead_102 : decode cX5_isAhead 102 = .ok (.goto (-86), 3) := by decide +kernel
theorem dX5_isAhead_105 : decode cX5_isAhead 105 = .ok (.iinc 4 (-1), 3) := by decide +kernel
theorem dX5_isAhead_108 : decode cX5_isAhead 108 = .ok (.goto (-105), 3) := by decide +kernel
theorem dX5_isAhead_111 : decode cX5_isAhead 111 = .ok (.iconst 0, 1) := by decide +kernel
theorem dX5_isAhead_112 : decode cX5_isAhead 112 = .ok (.ireturn, 1) := by decide +kernel
theorem dX5_starter_0 : decode cX5_starter 0 = .ok (.iconst 0, 1) := by decide +kernel
theorem dX5_starter_1 : decode cX5_starter 1 = .ok (.istore_n 3, 1) := by decide +kernel
theorem dX5_starter_2 : decode cX5_starter 2 = .ok (.iload_n 3, 1) := by decide +kernel
theorem dX5_starter_3 : decode cX5_starter 3 = .ok (.aload_n 0, 1) := by decide +kernel
theorem dX5_starter_4 : decode cX5_starter 4 = .ok (.getfield 51, 3) := by decide +kernel
theorem dX5_starter_7 : decode cX5_starter 7 = .ok (.getfield 157, 3) := by decide +kernel
theorem dX5_starter_10 : decode cX5_starter 10 = .ok (.if_icmp .ge 33, 3) := by decide +kernel
theorem dX5_starter_13 : decode cX5_starter 13 = .ok (.aload_n 0, 1) := by decide +kernel
theorem dX5_starter_14 : decode cX5_starter 14 = .ok (.getfield 51, 3) := by decide +kernel
theorem dX5_starter_17 : decode cX5_starter 17 = .ok (.iload_n 1, 1) := by decide +kernel
theorem dX5_starter_18 : decode cX5_starter 18 = .ok (.iload_n 3, 1) := by decide +kernel
theorem dX5_starter_19 : decode cX5_starter 19 = .ok (.invokevirtual 166, 3) := by decide +kernel
theorem dX5_starter_22 : decode cX5_starter 22 = .ok (.ifCond .eq 15, 3) := by decide +kernel
theorem dX5_starter_25 : decode cX5_starter 25 = .ok (.aload_n 0, 1) := by decide +kernel
theorem dX5_starter_26 : decode cX5_starter 26 = .ok (.iload_n 1, 1) := by decide +kernel
theorem dX5_starter_27 : decode cX5_starter 27 = .ok (.iload_n 3, 1) := by decide +kernel
theorem dX5_starter_28 : decode cX5_starter 28 = .ok (.invokevirtual 192, 3) := by decide +kernel
theorem dX5_starter_31 : decode cX5_starter 31 = .ok (.iload_n 2, 1) := by decide +kernel
theorem dX5_starter_32 : decode cX5_starter 32 = .ok (.if_icmp .ne 5, 3) := by decide +kernel
theorem dX5_starter_35 : decode cX5_starter 35 = .ok (.iload_n 3, 1) := by decide +kernel
theorem dX5_starter_36 : decode cX5_starter 36 = .ok (.ireturn, 1) := by decide +kernel
theorem dX5_starter_37 : decode cX5_starter 37 = .ok (.iinc 3 1, 3) := by decide +kernel
theorem dX5_starter_40 : decode cX5_starter 40 = .ok (.goto (-38), 3) := by decide +kernel
theorem dX5_starter_43 : decode cX5_starter 43 = .ok (.iconst (-1), 1) := by decide +kernel
theorem dX5_starter_44 : decode cX5_starter 44 = .ok (.ireturn, 1) := by decide +kernel
theorem dX5_manyStartAhead_0 : decode cX5_manyStartAhead 0 = .ok (.iconst 0, 1) := by decide +kernel
theorem dX5_manyStartAhead_1 : decode cX5_manyStartAhead 1 = .ok (.istore_n 3, 1) := by decide +kernel
theorem dX5_manyStartAhead_2 : decode cX5_manyStartAhead 2 = .ok (.iconst 0, 1) := by decide +kernel
theorem dX5_manyStartAhead_3 : decode cX5_manyStartAhead 3 = .ok (.istore 4, 2) := by decide +kernel
theorem dX5_manyStartAhead_5 : decode cX5_manyStartAhead 5 = .ok (.iload 4, 2) := by decide +kernel
theorem dX5_manyStartAhead_7 : decode cX5_manyStartAhead 7 = .ok (.aload_n 0, 1) := by decide +kernel
theorem dX5_manyStartAhead_8 : decode cX5_manyStartAhead 8 = .ok (.getfield 51, 3) := by decide +kernel
theorem dX5_manyStartAhead_11 : decode cX5_manyStartAhead 11 = .ok (.getfield 157, 3) := by decide +kernel
theorem dX5_manyStartAhead_14 : decode cX5_manyStartAhead 14 = .ok (.if_icmp .ge 63, 3) := by decide +kernel
theorem dX5_manyStartAhead_17 : decode cX5_manyStartAhead 17 = .ok (.aload_n 0, 1) := by decide +kernel
theorem dX5_manyStartAhead_18 : decode cX5_manyStartAhead 18 = .ok (.getfield 51, 3) := by decide +kernel
theorem dX5_manyStartAhead_21 : decode cX5_manyStartAhead 21 = .ok (.iload_n 1, 1) := by decide +kernel
theorem dX5_manyStartAhead_22 : decode cX5_manyStartAhead 22 = .ok (.iload 4, 2) := by decide +kernel
theorem dX5_manyStartAhead_24 : decode cX5_manyStartAhead 24 = .ok (.invokevirtual 166, 3) := by decide +kernel
theorem dX5_manyStartAhead_27 : decode cX5_manyStartAhead 27 = .ok (.ifCond .eq 44, 3) := by decide +kernel
theorem dX5_manyStartAhead_30 : decode cX5_manyStartAhead 30 = .ok (.aload_n 0, 1) := by decide +kernel
theorem dX5_manyStartAhead_31 : decode cX5_manyStartAhead 31 = .ok (.getfield 40, 3) := by decide +kernel
theorem dX5_manyStartAhead_34 : decode cX5_manyStartAhead 34 = .ok (.iload 4, 2) := by decide +kernel
theorem dX5_manyStartAhead_36 : decode cX5_manyStartAhead 36 = .ok (.iaload, 1) := by decide +kernel
theorem dX5_manyStartAhead_37 : decode cX5_manyStartAhead 37 = .ok (.aload_n 0, 1) := by decide +kernel
theorem dX5_manyStartAhead_38 : decode cX5_manyStartAhead 38 = .ok (.getfield 40, 3) := by decide +kernel
theorem dX5_manyStartAhead_41 : decode cX5_manyStartAhead 41 = .ok (.iload_n 2, 1) := by decide +kernel
theorem dX5_manyStartAhead_42 : decode cX5_manyStartAhead 42 = .ok (.iaload, 1) := by decide +kernel
theorem dX5_manyStartAhead_43 : decode cX5_manyStartAhead 43 = .ok (.if_icmp .gt 25, 3) := by decide +kernel
theorem dX5_manyStartAhead_46 : decode cX5_manyStartAhead 46 = .ok (.aload_n 0, 1) := by decide +kernel
theorem dX5_manyStartAhead_47 : decode cX5_manyStartAhead 47 = .ok (.getfield 40, 3) := by decide +kernel
theorem dX5_manyStartAhead_50 : decode cX5_manyStartAhead 50 = .ok (.iload 4, 2) := by decide +kernel
theorem dX5_manyStartAhead_52 : decode cX5_manyStartAhead 52 = .ok (.iaload, 1) := by decide +kernel
theorem dX5_manyStartAhead_53 : decode cX5_manyStartAhead 53 = .ok (.aload_n 0, 1) := by decide +kernel
theorem dX5_manyStartAhead_54 : decode cX5_manyStartAhead 54 = .ok (.getfield 40, 3) := by decide +kernel
theorem dX5_manyStartAhead_57 : decode cX5_manyStartAhead 57 = .ok (.iload_n 2, 1) := by decide +kernel
theorem dX5_manyStartAhead_58 : decode cX5_manyStartAhead 58 = .ok (.iaload, 1) := by decide +kernel
theorem dX5_manyStartAhead_59 : decode cX5_manyStartAhead 59 = .ok (.if_icmp .ne 12, 3) := by decide +kernel
theorem dX5_manyStartAhead_62 : decode cX5_manyStartAhead 62 = .ok (.iload 4, 2) := by decide +kernel
theorem dX5_manyStartAhead_64 : decode cX5_manyStartAhead 64 = .ok (.iload_n 2, 1) := by decide +kernel
theorem dX5_manyStartAhead_65 : decode cX5_manyStartAhead 65 = .ok (.if_icmp .le 6, 3) := by decide +kernel
theorem dX5_manyStartAhead_68 : decode cX5_manyStartAhead 68 = .ok (.iinc 3 1, 3) := by decide +kernel
theorem dX5_manyStartAhead_71 : decode cX5_manyStartAhead 71 = .ok (.iinc 4 1, 3) := by decide +kernel
theorem dX5_manyStartAhead_74 : decode cX5_manyStartAhead 74 = .ok (.goto (-69), 3) := by decide +kernel
theorem dX5_manyStartAhead_77 : decode cX5_manyStartAhead 77 = .ok (.iload_n 3, 1) := by decide +kernel
theorem dX5_manyStartAhead_78 : decode cX5_manyStartAhead 78 = .ok (.ireturn, 1) := by decide +kernel
theorem dX5_workPoints_0 : decode cX5_workPoints 0 = .ok (.aload_n 0, 1) := by decide +kernel
theorem dX5_workPoints_1 : decode cX5_workPoints 1 = .ok (.iload_n 2, 1) := by decide +kernel
theorem dX5_workPoints_2 : decode cX5_workPoints 2 = .ok (.invokevirtual 154, 3) := by decide +kernel
theorem dX5_workPoints_5 : decode cX5_workPoints 5 = .ok (.iconst 0, 1) := by decide +kernel
theorem dX5_workPoints_6 : decode cX5_workPoints 6 = .ok (.istore_n 3, 1) := by decide +kernel
theorem dX5_workPoints_7 : decode cX5_workPoints 7 = .ok (.iload_n 3, 1) := by decide +kernel
theorem dX5_workPoints_8 : decode cX5_workPoints 8 = .ok (.aload_n 0, 1) := by decide +kernel
theorem dX5_workPoints_9 : decode cX5_workPoints 9 = .ok (.getfield 51, 3) := by decide +kernel
theorem dX5_workPoints_12 : decode cX5_workPoints 12 = .ok (.getfield 157, 3) := by decide +kernel
theorem dX5_workPoints_15 : decode cX5_workPoints 15 = .ok (.if_icmp .ge 62, 3) := by decide +kernel
theorem dX5_workPoints_18 : decode cX5_workPoints 18 = .ok (.iconst 0, 1) := by decide +kernel
theorem dX5_workPoints_19 : decode cX5_workPoints 19 = .ok (.istore 4, 2) := by decide +kernel
theorem dX5_workPoints_21 : decode cX5_workPoints 21 = .ok (.iload 4, 2) := by decide +kernel
theorem dX5_workPoints_23 : decode cX5_workPoints 23 = .ok (.aload_n 0, 1) := by decide +kernel
theorem dX5_workPoints_24 : decode cX5_workPoints 24 = .ok (.getfield 43, 3) := by decide +kernel
theorem dX5_workPoints_27 : decode cX5_workPoints 27 = .ok (.iload_n 1, 1) := by decide +kernel
theorem dX5_workPoints_28 : decode cX5_workPoints 28 = .ok (.iconst 0, 1) := by decide +kernel
theorem dX5_workPoints_29 : decode cX5_workPoints 29 = .ok (.invokevirtual 126, 3) := by decide +kernel
theorem dX5_workPoints_32 : decode cX5_workPoints 32 = .ok (.if_icmp .ge 39, 3) := by decide +kernel
theorem dX5_workPoints_35 : decode cX5_workPoints 35 = .ok (.aload_n 0, 1) := by decide +kernel
theorem dX5_workPoints_36 : decode cX5_workPoints 36 = .ok (.iload_n 1, 1) := by decide +kernel
theorem dX5_workPoints_37 : decode cX5_workPoints 37 = .ok (.iload_n 3, 1) := by decide +kernel
theorem dX5_workPoints_38 : decode cX5_workPoints 38 = .ok (.iload 4, 2) := by decide +kernel
theorem dX5_workPoints_40 : decode cX5_workPoints 40 = .ok (.invokevirtual 131, 3) := by decide +kernel
theorem dX5_workPoints_43 : decode cX5_workPoints 43 = .ok (.aload_n 0, 1) := by decide +kernel
theorem dX5_workPoints_44 : decode cX5_workPoints 44 = .ok (.getfield 30, 3) := by decide +kernel
theorem dX5_workPoints_47 : decode cX5_workPoints 47 = .ok (.iload_n 3, 1) := by decide +kernel
theorem dX5_workPoints_48 : decode cX5_workPoints 48 = .ok (.iconst 5, 1) := by decide +kernel
theorem dX5_workPoints_49 : decode cX5_workPoints 49 = .ok (.imul, 1) := by decide +kernel
theorem dX5_workPoints_50 : decode cX5_workPoints 50 = .ok (.iload 4, 2) := by decide +kernel
theorem dX5_workPoints_52 : decode cX5_workPoints 52 = .ok (.iadd, 1) := by decide +kernel
theorem dX5_workPoints_53 : decode cX5_workPoints 53 = .ok (.aload_n 0, 1) := by decide +kernel
theorem dX5_workPoints_54 : decode cX5_workPoints 54 = .ok (.getfield 43, 3) := by decide +kernel
theorem dX5_workPoints_57 : decode cX5_workPoints 57 = .ok (.aload_n 0, 1) := by decide +kernel
theorem dX5_workPoints_58 : decode cX5_workPoints 58 = .ok (.getfield 27, 3) := by decide +kernel
theorem dX5_workPoints_61 : decode cX5_workPoints 61 = .ok (.invokevirtual 135, 3) := by decide +kernel
theorem dX5_workPoints_64 : decode cX5_workPoints 64 = .ok (.iastore, 1) := by decide +kernel
theorem dX5_workPoints_65 : decode cX5_workPoints 65 = .ok (.iinc 4 1, 3) := by decide +kernel
theorem dX5_workPoints_68 : decode cX5_workPoints 68 = .ok (.goto (-47), 3) := by decide +kernel
theorem dX5_workPoints_71 : decode cX5_workPoints 71 = .ok (.iinc 3 1, 3) := by decide +kernel
theorem dX5_workPoints_74 : decode cX5_workPoints 74 = .ok (.goto (-67), 3) := by decide +kernel
theorem dX5_workPoints_77 : decode cX5_workPoints 77 = .ok (.return_, 1) := by decide +kernel
theorem dX5_together_0 : decode cX5_together 0 = .ok (.lconst 0, 1) := by decide +kernel
theorem dX5_together_1 : decode cX5_together 1 = .ok (.lstore_n 3, 1) := by decide +kernel
theorem dX5_together_2 : decode cX5_together 2 = .ok (.iconst 0, 1) := by decide +kernel
theorem dX5_together_3 : decode cX5_together 3 = .ok (.istore 5, 2) := by decide +kernel
theorem dX5_together_5 : decode cX5_together 5 = .ok (.iload 5, 2) := by decide +kernel
theorem dX5_together_7 : decode cX5_together 7 = .ok (.iconst 5, 1) := by decide +kernel
theorem dX5_together_8 : decode cX5_together 8 = .ok (.if_icmp .ge 34, 3) := by decide +kernel
theorem dX5_together_11 : decode cX5_together 11 = .ok (.iload_n 2, 1) := by decide +kernel
theorem dX5_together_12 : decode cX5_together 12 = .ok (.iload 5, 2) := by decide +kernel
theorem dX5_together_14 : decode cX5_together 14 = .ok (.ishr, 1) := by decide +kernel
theorem dX5_together_15 : decode cX5_together 15 = .ok (.iconst 1, 1) := by decide +kernel
theorem dX5_together_16 : decode cX5_together 16 = .ok (.iand, 1) := by decide +kernel
theorem dX5_together_17 : decode cX5_together 17 = .ok (.iconst 1, 1) := by decide +kernel
theorem dX5_together_18 : decode cX5_together 18 = .ok (.if_icmp .ne 18, 3) := by decide +kernel
theorem dX5_together_21 : decode cX5_together 21 = .ok (.lload_n 3, 1) := by decide +kernel
theorem dX5_together_22 : decode cX5_together 22 = .ok (.aload_n 0, 1) := by decide +kernel
theorem dX5_together_23 : decode cX5_together 23 = .ok (.getfield 30, 3) := by decide +kernel
theorem dX5_together_26 : decode cX5_together 26 = .ok (.iload_n 1, 1) := by decide +kernel
theorem dX5_together_27 : decode cX5_together 27 = .ok (.iconst 5, 1) := by decide +kernel
theorem dX5_together_28 : decode cX5_together 28 = .ok (.imul, 1) := by decide +kernel
theorem dX5_together_29 : decode cX5_together 29 = .ok (.iload 5, 2) := by decide +kernel
theorem dX5_together_31 : decode cX5_together 31 = .ok (.iadd, 1) := by decide +kernel
theorem dX5_together_32 : decode cX5_together 32 = .ok (.iaload, 1) := by decide +kernel
theorem dX5_together_33 : decode cX5_together 33 = .ok (.i2l, 1) := by decide +kernel
theorem dX5_together_34 : decode cX5_together 34 = .ok (.ladd, 1) := by decide +kernel
theorem dX5_together_35 : decode cX5_together 35 = .ok (.lstore_n 3, 1) := by decide +kernel
theorem dX5_together_36 : decode cX5_together 36 = .ok (.iinc 5 1, 3) := by decide +kernel
theorem dX5_together_39 : decode cX5_together 39 = .ok (.goto (-34), 3) := by decide +kernel
theorem dX5_together_42 : decode cX5_together 42 = .ok (.lload_n 3, 1) := by decide +kernel
theorem dX5_together_43 : decode cX5_together 43 = .ok (.lreturn, 1) := by decide +kernel
theorem dX5_pairsParted_0 : decode cX5_pairsParted 0 = .ok (.iconst 0, 1) := by decide +kernel
theorem dX5_pairsParted_1 : decode cX5_pairsParted 1 = .ok (.istore_n 3, 1) := by decide +kernel
theorem dX5_pairsParted_2 : decode cX5_pairsParted 2 = .ok (.iconst 0, 1) := by decide +kernel
theorem dX5_pairsParted_3 : decode cX5_pairsParted 3 = .ok (.istore 4, 2) := by decide +kernel
theorem dX5_pairsParted_5 : decode cX5_pairsParted 5 = .ok (.iload 4, 2) := by decide +kernel
theorem dX5_pairsParted_7 : decode cX5_pairsParted 7 = .ok (.aload_n 0, 1) := by decide +kernel
theorem dX5_pairsParted_8 : decode cX5_pairsParted 8 = .ok (.getfield 51, 3) := by decide +kernel
theorem dX5_pairsParted_11 : decode cX5_pairsParted 11 = .ok (.getfield 157, 3) := by decide +kernel
theorem dX5_pairsParted_14 : decode cX5_pairsParted 14 = .ok (.if_icmp .ge 72, 3) := by decide +kernel
theorem dX5_pairsParted_17 : decode cX5_pairsParted 17 = .ok (.iconst 0, 1) := by decide +kernel
theorem dX5_pairsParted_18 : decode cX5_pairsParted 18 = .ok (.istore 5, 2) := by decide +kernel
theorem dX5_pairsParted_20 : decode cX5_pairsParted 20 = .ok (.iload 5, 2) := by decide +kernel
theorem dX5_pairsParted_22 : decode cX5_pairsParted 22 = .ok (.iload 4, 2) := by decide +kernel
theorem dX5_pairsParted_24 : decode cX5_pairsParted 24 = .ok (.if_icmp .ge 56, 3) := by decide +kernel
theorem dX5_pairsParted_27 : decode cX5_pairsParted 27 = .ok (.aload_n 0, 1) := by decide +kernel
theorem dX5_pairsParted_28 : decode cX5_pairsParted 28 = .ok (.getfield 51, 3) := by decide +kernel
theorem dX5_pairsParted_31 : decode cX5_pairsParted 31 = .ok (.iload_n 1, 1) := by decide +kernel
theorem dX5_pairsParted_32 : decode cX5_pairsParted 32 = .ok (.iload 4, 2) := by decide +kernel
theorem dX5_pairsParted_34 : decode cX5_pairsParted 34 = .ok (.invokevirtual 166, 3) := by decide +kernel
theorem dX5_pairsParted_37 : decode cX5_pairsParted 37 = .ok (.ifCond .eq 37, 3) := by decide +kernel
theorem dX5_pairsParted_40 : decode cX5_pairsParted 40 = .ok (.aload_n 0, 1) := by decide +kernel
theorem dX5_pairsParted_41 : decode cX5_pairsParted 41 = .ok (.getfield 51, 3) := by decide +kernel
theorem dX5_pairsParted_44 : decode cX5_pairsParted 44 = .ok (.iload_n 1, 1) := by decide +kernel
theorem dX5_pairsParted_45 : decode cX5_pairsParted 45 = .ok (.iload 5, 2) := by decide +kernel
theorem dX5_pairsParted_47 : decode cX5_pairsParted 47 = .ok (.invokevirtual 166, 3) := by decide +kernel
theorem dX5_pairsParted_50 : decode cX5_pairsParted 50 = .ok (.ifCond .eq 24, 3) := by decide +kernel
theorem dX5_pairsParted_53 : decode cX5_pairsParted 53 = .ok (.aload_n 0, 1) := by decide +kernel
theorem dX5_pairsParted_54 : decode cX5_pairsParted 54 = .ok (.iload 4, 2) := by decide +kernel
theorem dX5_pairsParted_56 : decode cX5_pairsParted 56 = .ok (.iload_n 2, 1) := by decide +kernel
theorem dX5_pairsParted_57 : decode cX5_pairsParted 57 = .ok (.invokevirtual 195, 3) := by decide +kernel
theorem dX5_pairsParted_60 : decode cX5_pairsParted 60 = .ok (.aload_n 0, 1) := by decide +kernel
theorem dX5_pairsParted_61 : decode cX5_pairsParted 61 = .ok (.iload 5, 2) := by decide +kernel
theorem dX5_pairsParted_63 : decode cX5_pairsParted 63 = .ok (.iload_n 2, 1) := by decide +kernel
theorem dX5_pairsParted_64 : decode cX5_pairsParted 64 = .ok (.invokevirtual 195, 3) := by decide +kernel
theorem dX5_pairsParted_67 : decode cX5_pairsParted 67 = .ok (.lcmp, 1) := by decide +kernel
theorem dX5_pairsParted_68 : decode cX5_pairsParted 68 = .ok (.ifCond .eq 6, 3) := by decide +kernel
theorem dX5_pairsParted_71 : decode cX5_pairsParted 71 = .ok (.iinc 3 1, 3) := by decide +kernel
theorem dX5_pairsParted_74 : decode cX5_pairsParted 74 = .ok (.iinc 5 1, 3) := by decide +kernel
theorem dX5_pairsParted_77 : decode cX5_pairsParted 77 = .ok (.goto (-57), 3) := by decide +kernel
theorem dX5_pairsParted_80 : decode cX5_pairsParted 80 = .ok (.iinc 4 1, 3) := by decide +kernel
theorem dX5_pairsParted_83 : decode cX5_pairsParted 83 = .ok (.goto (-78), 3) := by decide +kernel
theorem dX5_pairsParted_86 : decode cX5_pairsParted 86 = .ok (.iload_n 3, 1) := by decide +kernel
theorem dX5_pairsParted_87 : decode cX5_pairsParted 87 = .ok (.ireturn, 1) := by decide +kernel
theorem dX5_bestSet_0 : decode cX5_bestSet 0 = .ok (.iconst (-1), 1) := by decide +kernel
theorem dX5_bestSet_1 : decode cX5_bestSet 1 = .ok (.istore 4, 2) := by decide +kernel
theorem dX5_bestSet_3 : decode cX5_bestSet 3 = .ok (.iconst (-1), 1) := by decide +kernel
theorem dX5_bestSet_4 : decode cX5_bestSet 4 = .ok (.istore 5, 2) := by decide +kernel
theorem dX5_bestSet_6 : decode cX5_bestSet 6 = .ok (.iconst 1, 1) := by decide +kernel
theorem dX5_bestSet_7 : decode cX5_bestSet 7 = .ok (.istore 6, 2) := by decide +kernel
theorem dX5_bestSet_9 : decode cX5_bestSet 9 = .ok (.iload 6, 2) := by decide +kernel
theorem dX5_bestSet_11 : decode cX5_bestSet 11 = .ok (.iconst 1, 1) := by decide +kernel
theorem dX5_bestSet_12 : decode cX5_bestSet 12 = .ok (.iload_n 2, 1) := by decide +kernel
theorem dX5_bestSet_13 : decode cX5_bestSet 13 = .ok (.ishl, 1) := by decide +kernel
theorem dX5_bestSet_14 : decode cX5_bestSet 14 = .ok (.if_icmp .ge 42, 3) := by decide +kernel
theorem dX5_bestSet_17 : decode cX5_bestSet 17 = .ok (.iload 6, 2) := by decide +kernel
theorem dX5_bestSet_19 : decode cX5_bestSet 19 = .ok (.invokestatic 199, 3) := by decide +kernel
theorem dX5_bestSet_22 : decode cX5_bestSet 22 = .ok (.iload_n 3, 1) := by decide +kernel
theorem dX5_bestSet_23 : decode cX5_bestSet 23 = .ok (.if_icmp .ne 27, 3) := by decide +kernel
theorem dX5_bestSet_26 : decode cX5_bestSet 26 = .ok (.aload_n 0, 1) := by decide +kernel
theorem dX5_bestSet_27 : decode cX5_bestSet 27 = .ok (.iload_n 1, 1) := by decide +kernel
theorem dX5_bestSet_28 : decode cX5_bestSet 28 = .ok (.iload 6, 2) := by decide +kernel
theorem dX5_bestSet_30 : decode cX5_bestSet 30 = .ok (.invokevirtual 204, 3) := by decide +kernel
theorem dX5_bestSet_33 : decode cX5_bestSet 33 = .ok (.istore 7, 2) := by decide +kernel
theorem dX5_bestSet_35 : decode cX5_bestSet 35 = .ok (.iload 7, 2) := by decide +kernel
theorem dX5_bestSet_37 : decode cX5_bestSet 37 = .ok (.iload 5, 2) := by decide +kernel
theorem dX5_bestSet_39 : decode cX5_bestSet 39 = .ok (.if_icmp .le 11, 3) := by decide +kernel
theorem dX5_bestSet_42 : decode cX5_bestSet 42 = .ok (.iload 7, 2) := by decide +kernel
theorem dX5_bestSet_44 : decode cX5_bestSet 44 = .ok (.istore 5, 2) := by decide +kernel
theorem dX5_bestSet_46 : decode cX5_bestSet 46 = .ok (.iload 6, 2) := by decide +kernel
theorem dX5_bestSet_48 : decode cX5_bestSet 48 = .ok (.istore 4, 2) := by decide +kernel
theorem dX5_bestSet_50 : decode cX5_bestSet 50 = .ok (.iinc 6 1, 3) := by decide +kernel
theorem dX5_bestSet_53 : decode cX5_bestSet 53 = .ok (.goto (-44), 3) := by decide +kernel
theorem dX5_bestSet_56 : decode cX5_bestSet 56 = .ok (.iload 4, 2) := by decide +kernel
theorem dX5_bestSet_58 : decode cX5_bestSet 58 = .ok (.ireturn, 1) := by decide +kernel
theorem dX9_hasSeen_0 : decode cX9_hasSeen 0 = .ok (.iconst 0, 1) := by decide +kernel
theorem dX9_hasSeen_1 : decode cX9_hasSeen 1 = .ok (.istore 6, 2) := by decide +kernel
theorem dX9_hasSeen_3 : decode cX9_hasSeen 3 = .ok (.iload 6, 2) := by decide +kernel
theorem dX9_hasSeen_5 : decode cX9_hasSeen 5 = .ok (.aload_n 1, 1) := by decide +kernel
theorem dX9_hasSeen_6 : decode cX9_hasSeen 6 = .ok (.getfield 31, 3) := by decide +kernel
theorem dX9_hasSeen_9 : decode cX9_hasSeen 9 = .ok (.if_icmp .ge 85, 3) := by decide +kernel
theorem dX9_hasSeen_12 : decode cX9_hasSeen 12 = .ok (.aload_n 1, 1) := by decide +kernel
theorem dX9_hasSeen_13 : decode cX9_hasSeen 13 = .ok (.getfield 37, 3) := by decide +kernel
theorem dX9_hasSeen_16 : decode cX9_hasSeen 16 = .ok (.iload 6, 2) := by decide +kernel
theorem dX9_hasSeen_18 : decode cX9_hasSeen 18 = .ok (.iaload, 1) := by decide +kernel
theorem dX9_hasSeen_19 : decode cX9_hasSeen 19 = .ok (.iload_n 3, 1) := by decide +kernel
theorem dX9_hasSeen_20 : decode cX9_hasSeen 20 = .ok (.if_icmp .ne 68, 3) := by decide +kernel
theorem dX9_hasSeen_23 : decode cX9_hasSeen 23 = .ok (.aload_n 1, 1) := by decide +kernel
theorem dX9_hasSeen_24 : decode cX9_hasSeen 24 = .ok (.getfield 40, 3) := by decide +kernel
theorem dX9_hasSeen_27 : decode cX9_hasSeen 27 = .ok (.iload 6, 2) := by decide +kernel
theorem dX9_hasSeen_29 : decode cX9_hasSeen 29 = .ok (.iaload, 1) := by decide +kernel
theorem dX9_hasSeen_30 : decode cX9_hasSeen 30 = .ok (.iload 4, 2) := by decide +kernel
theorem dX9_hasSeen_32 : decode cX9_hasSeen 32 = .ok (.if_icmp .ne 56, 3) := by decide +kernel
theorem dX9_hasSeen_35 : decode cX9_hasSeen 35 = .ok (.aload_n 1, 1) := by decide +kernel
theorem dX9_hasSeen_36 : decode cX9_hasSeen 36 = .ok (.getfield 43, 3) := by decide +kernel
theorem dX9_hasSeen_39 : decode cX9_hasSeen 39 = .ok (.iload 6, 2) := by decide +kernel
theorem dX9_hasSeen_41 : decode cX9_hasSeen 41 = .ok (.iaload, 1) := by decide +kernel
theorem dX9_hasSeen_42 : decode cX9_hasSeen 42 = .ok (.iload_n 2, 1) := by decide +kernel
theorem dX9_hasSeen_43 : decode cX9_hasSeen 43 = .ok (.if_icmp .eq 45, 3) := by decide +kernel
theorem dX9_hasSeen_46 : decode cX9_hasSeen 46 = .ok (.aload_n 0, 1) := by decide +kernel
theorem dX9_hasSeen_47 : decode cX9_hasSeen 47 = .ok (.iload_n 2, 1) := by decide +kernel
theorem dX9_hasSeen_48 : decode cX9_hasSeen 48 = .ok (.aload_n 1, 1) := by decide +kernel
theorem dX9_hasSeen_49 : decode cX9_hasSeen 49 = .ok (.getfield 46, 3) := by decide +kernel
theorem dX9_hasSeen_52 : decode cX9_hasSeen 52 = .ok (.iload 6, 2) := by decide +kernel
theorem dX9_hasSeen_54 : decode cX9_hasSeen 54 = .ok (.iaload, 1) := by decide +kernel
theorem dX9_hasSeen_55 : decode cX9_hasSeen 55 = .ok (.aload_n 1, 1) := by decide +kernel
theorem dX9_hasSeen_56 : decode cX9_hasSeen 56 = .ok (.getfield 49, 3) := by decide +kernel
theorem dX9_hasSeen_59 : decode cX9_hasSeen 59 = .ok (.iload 6, 2) := by decide +kernel
theorem dX9_hasSeen_61 : decode cX9_hasSeen 61 = .ok (.iaload, 1) := by decide +kernel
theorem dX9_hasSeen_62 : decode cX9_hasSeen 62 = .ok (.iconst (-1), 1) := by decide +kernel
theorem dX9_hasSeen_63 : decode cX9_hasSeen 63 = .ok (.if_icmp .ne 8, 3) := by decide +kernel
theorem dX9_hasSeen_66 : decode cX9_hasSeen 66 = .ok (.iload 5, 2) := by decide +kernel
theorem dX9_hasSeen_68 : decode cX9_hasSeen 68 = .ok (.goto 10, 3) := by decide +kernel
theorem dX9_hasSeen_71 : decode cX9_hasSeen 71 = .ok (.aload_n 1, 1) := by decide +kernel
theorem dX9_hasSeen_72 : decode cX9_hasSeen 72 = .ok (.getfield 49, 3) := by decide +kernel
theorem dX9_hasSeen_75 : decode cX9_hasSeen 75 = .ok (.iload 6, 2) := by decide +kernel
theorem dX9_hasSeen_77 : decode cX9_hasSeen 77 = .ok (.iaload, 1) := by decide +kernel
theorem dX9_hasSeen_78 : decode cX9_hasSeen 78 = .ok (.iload 5, 2) := by decide +kernel
theorem dX9_hasSeen_80 : decode cX9_hasSeen 80 = .ok (.invokevirtual 52, 3) := by decide +kernel
theorem dX9_hasSeen_83 : decode cX9_hasSeen 83 = .ok (.ifCond .eq 5, 3) := by decide +kernel
theorem dX9_hasSeen_86 : decode cX9_hasSeen 86 = .ok (.iconst 1, 1) := by decide +kernel
theorem dX9_hasSeen_87 : decode cX9_hasSeen 87 = .ok (.ireturn, 1) := by decide +kernel
theorem dX9_hasSeen_88 : decode cX9_hasSeen 88 = .ok (.iinc 6 1, 3) := by decide +kernel
theorem dX9_hasSeen_91 : decode cX9_hasSeen 91 = .ok (.goto (-88), 3) := by decide +kernel
theorem dX9_hasSeen_94 : decode cX9_hasSeen 94 = .ok (.iconst 0, 1) := by decide +kernel
theorem dX9_hasSeen_95 : decode cX9_hasSeen 95 = .ok (.ireturn, 1) := by decide +kernel
theorem dX9_wasOut_0 : decode cX9_wasOut 0 = .ok (.iload_n 1, 1) := by decide +kernel
theorem dX9_wasOut_1 : decode cX9_wasOut 1 = .ok (.bipush 20, 2) := by decide +kernel
theorem dX9_wasOut_3 : decode cX9_wasOut 3 = .ok (.imul, 1) := by decide +kernel
theorem dX9_wasOut_4 : decode cX9_wasOut 4 = .ok (.istore 5, 2) := by decide +kernel
theorem dX9_wasOut_6 : decode cX9_wasOut 6 = .ok (.iload 5, 2) := by decide +kernel
theorem dX9_wasOut_8 : decode cX9_wasOut 8 = .ok (.aload_n 0, 1) := by decide +kernel
theorem dX9_wasOut_9 : decode cX9_wasOut 9 = .ok (.iload_n 1, 1) := by decide +kernel
theorem dX9_wasOut_10 : decode cX9_wasOut 10 = .ok (.invokevirtual 27, 3) := by decide +kernel
theorem dX9_wasOut_13 : decode cX9_wasOut 13 = .ok (.if_icmp .gt 53, 3) := by decide +kernel
theorem dX9_wasOut_16 : decode cX9_wasOut 16 = .ok (.aload_n 0, 1) := by decide +kernel
theorem dX9_wasOut_17 : decode cX9_wasOut 17 = .ok (.getfield 18, 3) := by decide +kernel
theorem dX9_wasOut_20 : decode cX9_wasOut 20 = .ok (.iload 5, 2) := by decide +kernel
theorem dX9_wasOut_22 : decode cX9_wasOut 22 = .ok (.iaload, 1) := by decide +kernel
theorem dX9_wasOut_23 : decode cX9_wasOut 23 = .ok (.iconst (-1), 1) := by decide +kernel
theorem dX9_wasOut_24 : decode cX9_wasOut 24 = .ok (.if_icmp .ne 8, 3) := by decide +kernel
theorem dX9_wasOut_27 : decode cX9_wasOut 27 = .ok (.iload 4, 2) := by decide +kernel
theorem dX9_wasOut_29 : decode cX9_wasOut 29 = .ok (.goto 10, 3) := by decide +kernel
theorem dX9_wasOut_32 : decode cX9_wasOut 32 = .ok (.aload_n 0, 1) := by decide +kernel
theorem dX9_wasOut_33 : decode cX9_wasOut 33 = .ok (.getfield 18, 3) := by decide +kernel
theorem dX9_wasOut_36 : decode cX9_wasOut 36 = .ok (.iload 5, 2) := by decide +kernel
theorem dX9_wasOut_38 : decode cX9_wasOut 38 = .ok (.iaload, 1) := by decide +kernel
theorem dX9_wasOut_39 : decode cX9_wasOut 39 = .ok (.istore 6, 2) := by decide +kernel
theorem dX9_wasOut_41 : decode cX9_wasOut 41 = .ok (.aload_n 0, 1) := by decide +kernel
theorem dX9_wasOut_42 : decode cX9_wasOut 42 = .ok (.getfield 15, 3) := by decide +kernel
theorem dX9_wasOut_45 : decode cX9_wasOut 45 = .ok (.iload 5, 2) := by decide +kernel
theorem dX9_wasOut_47 : decode cX9_wasOut 47 = .ok (.iaload, 1) := by decide +kernel
theorem dX9_wasOut_48 : decode cX9_wasOut 48 = .ok (.iload_n 3, 1) := by decide +kernel
theorem dX9_wasOut_49 : decode cX9_wasOut 49 = .ok (.if_icmp .gt 11, 3) := by decide +kernel
theorem dX9_wasOut_52 : decode cX9_wasOut 52 = .ok (.iload_n 2, 1) := by decide +kernel
theorem dX9_wasOut_53 : decode cX9_wasOut 53 = .ok (.iload 6, 2) := by decide +kernel
theorem dX9_wasOut_55 : decode cX9_wasOut 55 = .ok (.if_icmp .gt 5, 3) := by decide +kernel
theorem dX9_wasOut_58 : decode cX9_wasOut 58 = .ok (.iconst 1, 1) := by decide +kernel
theorem dX9_wasOut_59 : decode cX9_wasOut 59 = .ok (.ireturn, 1) := by decide +kernel
theorem dX9_wasOut_60 : decode cX9_wasOut 60 = .ok (.iinc 5 1, 3) := by decide +kernel
theorem dX9_wasOut_63 : decode cX9_wasOut 63 = .ok (.goto (-57), 3) := by decide +kernel
theorem dX9_wasOut_66 : decode cX9_wasOut 66 = .ok (.iconst 0, 1) := by decide +kernel
theorem dX9_wasOut_67 : decode cX9_wasOut 67 = .ok (.ireturn, 1) := by decide +kernel
