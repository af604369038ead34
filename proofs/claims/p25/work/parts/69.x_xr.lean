section
theorem dG_dX4_pointsFor_0 : (decode cX4_pointsFor 0 = .ok (.iconst 0, 1)) ∧ (decode cX4_pointsFor 1 = .ok (.istore_n 2, 1)) ∧ (decode cX4_pointsFor 2 = .ok (.iconst 0, 1)) ∧ (decode cX4_pointsFor 3 = .ok (.istore_n 3, 1)) ∧ (decode cX4_pointsFor 4 = .ok (.iload_n 3, 1)) ∧ (decode cX4_pointsFor 5 = .ok (.aload_n 0, 1)) ∧ (decode cX4_pointsFor 6 = .ok (.getfield 35, 3)) ∧ (decode cX4_pointsFor 9 = .ok (.if_icmp .ge 133, 3)) ∧ (decode cX4_pointsFor 12 = .ok (.aload_n 0, 1)) ∧ (decode cX4_pointsFor 13 = .ok (.getfield 15, 3)) ∧ (decode cX4_pointsFor 16 = .ok (.iload_n 3, 1)) ∧ (decode cX4_pointsFor 17 = .ok (.iaload, 1)) := by decide +kernel
theorem dX4_pointsFor_0 : decode cX4_pointsFor 0 = .ok (.iconst 0, 1) := dG_dX4_pointsFor_0.1
theorem dX4_pointsFor_1 : decode cX4_pointsFor 1 = .ok (.istore_n 2, 1) := dG_dX4_pointsFor_0.2.1
theorem dX4_pointsFor_2 : decode cX4_pointsFor 2 = .ok (.iconst 0, 1) := dG_dX4_pointsFor_0.2.2.1
theorem dX4_pointsFor_3 : decode cX4_pointsFor 3 = .ok (.istore_n 3, 1) := dG_dX4_pointsFor_0.2.2.2.1
theorem dX4_pointsFor_4 : decode cX4_pointsFor 4 = .ok (.iload_n 3, 1) := dG_dX4_pointsFor_0.2.2.2.2.1
theorem dX4_pointsFor_5 : decode cX4_pointsFor 5 = .ok (.aload_n 0, 1) := dG_dX4_pointsFor_0.2.2.2.2.2.1
theorem dX4_pointsFor_6 : decode cX4_pointsFor 6 = .ok (.getfield 35, 3) := dG_dX4_pointsFor_0.2.2.2.2.2.2.1
theorem dX4_pointsFor_9 : decode cX4_pointsFor 9 = .ok (.if_icmp .ge 133, 3) := dG_dX4_pointsFor_0.2.2.2.2.2.2.2.1
theorem dX4_pointsFor_12 : decode cX4_pointsFor 12 = .ok (.aload_n 0, 1) := dG_dX4_pointsFor_0.2.2.2.2.2.2.2.2.1
theorem dX4_pointsFor_13 : decode cX4_pointsFor 13 = .ok (.getfield 15, 3) := dG_dX4_pointsFor_0.2.2.2.2.2.2.2.2.2.1
theorem dX4_pointsFor_16 : decode cX4_pointsFor 16 = .ok (.iload_n 3, 1) := dG_dX4_pointsFor_0.2.2.2.2.2.2.2.2.2.2.1
theorem dX4_pointsFor_17 : decode cX4_pointsFor 17 = .ok (.iaload, 1) := dG_dX4_pointsFor_0.2.2.2.2.2.2.2.2.2.2.2
theorem dG_dX4_pointsFor_18 : (decode cX4_pointsFor 18 = .ok (.istore 4, 2)) ∧ (decode cX4_pointsFor 20 = .ok (.iload 4, 2)) ∧ (decode cX4_pointsFor 22 = .ok (.bipush 6, 2)) ∧ (decode cX4_pointsFor 24 = .ok (.if_icmp .gt 43, 3)) ∧ (decode cX4_pointsFor 27 = .ok (.iload_n 2, 1)) ∧ (decode cX4_pointsFor 28 = .ok (.bipush 40, 2)) ∧ (decode cX4_pointsFor 30 = .ok (.if_icmp .ge 106, 3)) ∧ (decode cX4_pointsFor 33 = .ok (.aload_n 0, 1)) ∧ (decode cX4_pointsFor 34 = .ok (.getfield 27, 3)) ∧ (decode cX4_pointsFor 37 = .ok (.iload_n 2, 1)) ∧ (decode cX4_pointsFor 38 = .ok (.iload 4, 2)) ∧ (decode cX4_pointsFor 40 = .ok (.bipush 6, 2)) := by decide +kernel
theorem dX4_pointsFor_18 : decode cX4_pointsFor 18 = .ok (.istore 4, 2) := dG_dX4_pointsFor_18.1
theorem dX4_pointsFor_20 : decode cX4_pointsFor 20 = .ok (.iload 4, 2) := dG_dX4_pointsFor_18.2.1
theorem dX4_pointsFor_22 : decode cX4_pointsFor 22 = .ok (.bipush 6, 2) := dG_dX4_pointsFor_18.2.2.1
theorem dX4_pointsFor_24 : decode cX4_pointsFor 24 = .ok (.if_icmp .gt 43, 3) := dG_dX4_pointsFor_18.2.2.2.1
theorem dX4_pointsFor_27 : decode cX4_pointsFor 27 = .ok (.iload_n 2, 1) := dG_dX4_pointsFor_18.2.2.2.2.1
theorem dX4_pointsFor_28 : decode cX4_pointsFor 28 = .ok (.bipush 40, 2) := dG_dX4_pointsFor_18.2.2.2.2.2.1
theorem dX4_pointsFor_30 : decode cX4_pointsFor 30 = .ok (.if_icmp .ge 106, 3) := dG_dX4_pointsFor_18.2.2.2.2.2.2.1
theorem dX4_pointsFor_33 : decode cX4_pointsFor 33 = .ok (.aload_n 0, 1) := dG_dX4_pointsFor_18.2.2.2.2.2.2.2.1
theorem dX4_pointsFor_34 : decode cX4_pointsFor 34 = .ok (.getfield 27, 3) := dG_dX4_pointsFor_18.2.2.2.2.2.2.2.2.1
theorem dX4_pointsFor_37 : decode cX4_pointsFor 37 = .ok (.iload_n 2, 1) := dG_dX4_pointsFor_18.2.2.2.2.2.2.2.2.2.1
theorem dX4_pointsFor_38 : decode cX4_pointsFor 38 = .ok (.iload 4, 2) := dG_dX4_pointsFor_18.2.2.2.2.2.2.2.2.2.2.1
theorem dX4_pointsFor_40 : decode cX4_pointsFor 40 = .ok (.bipush 6, 2) := dG_dX4_pointsFor_18.2.2.2.2.2.2.2.2.2.2.2
theorem dG_dX4_pointsFor_42 : (decode cX4_pointsFor 42 = .ok (.if_icmp .ne 13, 3)) ∧ (decode cX4_pointsFor 45 = .ok (.aload_n 0, 1)) ∧ (decode cX4_pointsFor 46 = .ok (.getfield 18, 3)) ∧ (decode cX4_pointsFor 49 = .ok (.iload_n 3, 1)) ∧ (decode cX4_pointsFor 50 = .ok (.iaload, 1)) ∧ (decode cX4_pointsFor 51 = .ok (.i2l, 1)) ∧ (decode cX4_pointsFor 52 = .ok (.goto 8, 3)) ∧ (decode cX4_pointsFor 55 = .ok (.aload_n 1, 1)) ∧ (decode cX4_pointsFor 56 = .ok (.iload 4, 2)) ∧ (decode cX4_pointsFor 58 = .ok (.iaload, 1)) ∧ (decode cX4_pointsFor 59 = .ok (.i2l, 1)) ∧ (decode cX4_pointsFor 60 = .ok (.lastore, 1)) := by decide +kernel
theorem dX4_pointsFor_42 : decode cX4_pointsFor 42 = .ok (.if_icmp .ne 13, 3) := dG_dX4_pointsFor_42.1
theorem dX4_pointsFor_45 : decode cX4_pointsFor 45 = .ok (.aload_n 0, 1) := dG_dX4_pointsFor_42.2.1
theorem dX4_pointsFor_46 : decode cX4_pointsFor 46 = .ok (.getfield 18, 3) := dG_dX4_pointsFor_42.2.2.1
theorem dX4_pointsFor_49 : decode cX4_pointsFor 49 = .ok (.iload_n 3, 1) := dG_dX4_pointsFor_42.2.2.2.1
theorem dX4_pointsFor_50 : decode cX4_pointsFor 50 = .ok (.iaload, 1) := dG_dX4_pointsFor_42.2.2.2.2.1
theorem dX4_pointsFor_51 : decode cX4_pointsFor 51 = .ok (.i2l, 1) := dG_dX4_pointsFor_42.2.2.2.2.2.1
theorem dX4_pointsFor_52 : decode cX4_pointsFor 52 = .ok (.goto 8, 3) := dG_dX4_pointsFor_42.2.2.2.2.2.2.1
theorem dX4_pointsFor_55 : decode cX4_pointsFor 55 = .ok (.aload_n 1, 1) := dG_dX4_pointsFor_42.2.2.2.2.2.2.2.1
theorem dX4_pointsFor_56 : decode cX4_pointsFor 56 = .ok (.iload 4, 2) := dG_dX4_pointsFor_42.2.2.2.2.2.2.2.2.1
theorem dX4_pointsFor_58 : decode cX4_pointsFor 58 = .ok (.iaload, 1) := dG_dX4_pointsFor_42.2.2.2.2.2.2.2.2.2.1
theorem dX4_pointsFor_59 : decode cX4_pointsFor 59 = .ok (.i2l, 1) := dG_dX4_pointsFor_42.2.2.2.2.2.2.2.2.2.2.1
theorem dX4_pointsFor_60 : decode cX4_pointsFor 60 = .ok (.lastore, 1) := dG_dX4_pointsFor_42.2.2.2.2.2.2.2.2.2.2.2
theorem dG_dX4_pointsFor_61 : (decode cX4_pointsFor 61 = .ok (.iinc 2 1, 3)) ∧ (decode cX4_pointsFor 64 = .ok (.goto 72, 3)) ∧ (decode cX4_pointsFor 67 = .ok (.iload 4, 2)) ∧ (decode cX4_pointsFor 69 = .ok (.bipush 10, 2)) ∧ (decode cX4_pointsFor 71 = .ok (.if_icmp .ne 27, 3)) ∧ (decode cX4_pointsFor 74 = .ok (.iload_n 2, 1)) ∧ (decode cX4_pointsFor 75 = .ok (.ifCond .le 61, 3)) ∧ (decode cX4_pointsFor 78 = .ok (.aload_n 0, 1)) ∧ (decode cX4_pointsFor 79 = .ok (.getfield 27, 3)) ∧ (decode cX4_pointsFor 82 = .ok (.iload_n 2, 1)) ∧ (decode cX4_pointsFor 83 = .ok (.iconst 1, 1)) ∧ (decode cX4_pointsFor 84 = .ok (.isub, 1)) := by decide +kernel
theorem dX4_pointsFor_61 : decode cX4_pointsFor 61 = .ok (.iinc 2 1, 3) := dG_dX4_pointsFor_61.1
theorem dX4_pointsFor_64 : decode cX4_pointsFor 64 = .ok (.goto 72, 3) := dG_dX4_pointsFor_61.2.1
theorem dX4_pointsFor_67 : decode cX4_pointsFor 67 = .ok (.iload 4, 2) := dG_dX4_pointsFor_61.2.2.1
theorem dX4_pointsFor_69 : decode cX4_pointsFor 69 = .ok (.bipush 10, 2) := dG_dX4_pointsFor_61.2.2.2.1
theorem dX4_pointsFor_71 : decode cX4_pointsFor 71 = .ok (.if_icmp .ne 27, 3) := dG_dX4_pointsFor_61.2.2.2.2.1
theorem dX4_pointsFor_74 : decode cX4_pointsFor 74 = .ok (.iload_n 2, 1) := dG_dX4_pointsFor_61.2.2.2.2.2.1
theorem dX4_pointsFor_75 : decode cX4_pointsFor 75 = .ok (.ifCond .le 61, 3) := dG_dX4_pointsFor_61.2.2.2.2.2.2.1
theorem dX4_pointsFor_78 : decode cX4_pointsFor 78 = .ok (.aload_n 0, 1) := dG_dX4_pointsFor_61.2.2.2.2.2.2.2.1
theorem dX4_pointsFor_79 : decode cX4_pointsFor 79 = .ok (.getfield 27, 3) := dG_dX4_pointsFor_61.2.2.2.2.2.2.2.2.1
theorem dX4_pointsFor_82 : decode cX4_pointsFor 82 = .ok (.iload_n 2, 1) := dG_dX4_pointsFor_61.2.2.2.2.2.2.2.2.2.1
theorem dX4_pointsFor_83 : decode cX4_pointsFor 83 = .ok (.iconst 1, 1) := dG_dX4_pointsFor_61.2.2.2.2.2.2.2.2.2.2.1
theorem dX4_pointsFor_84 : decode cX4_pointsFor 84 = .ok (.isub, 1) := dG_dX4_pointsFor_61.2.2.2.2.2.2.2.2.2.2.2
theorem dG_dX4_pointsFor_85 : (decode cX4_pointsFor 85 = .ok (.aload_n 0, 1)) ∧ (decode cX4_pointsFor 86 = .ok (.getfield 27, 3)) ∧ (decode cX4_pointsFor 89 = .ok (.iload_n 2, 1)) ∧ (decode cX4_pointsFor 90 = .ok (.iconst 1, 1)) ∧ (decode cX4_pointsFor 91 = .ok (.isub, 1)) ∧ (decode cX4_pointsFor 92 = .ok (.laload, 1)) ∧ (decode cX4_pointsFor 93 = .ok (.lneg, 1)) ∧ (decode cX4_pointsFor 94 = .ok (.lastore, 1)) ∧ (decode cX4_pointsFor 95 = .ok (.goto 41, 3)) ∧ (decode cX4_pointsFor 98 = .ok (.iload_n 2, 1)) ∧ (decode cX4_pointsFor 99 = .ok (.iconst 1, 1)) ∧ (decode cX4_pointsFor 100 = .ok (.if_icmp .le 36, 3)) := by decide +kernel
theorem dX4_pointsFor_85 : decode cX4_pointsFor 85 = .ok (.aload_n 0, 1) := dG_dX4_pointsFor_85.1
theorem dX4_pointsFor_86 : decode cX4_pointsFor 86 = .ok (.getfield 27, 3) := dG_dX4_pointsFor_85.2.1
theorem dX4_pointsFor_89 : decode cX4_pointsFor 89 = .ok (.iload_n 2, 1) := dG_dX4_pointsFor_85.2.2.1
theorem dX4_pointsFor_90 : decode cX4_pointsFor 90 = .ok (.iconst 1, 1) := dG_dX4_pointsFor_85.2.2.2.1
theorem dX4_pointsFor_91 : decode cX4_pointsFor 91 = .ok (.isub, 1) := dG_dX4_pointsFor_85.2.2.2.2.1
theorem dX4_pointsFor_92 : decode cX4_pointsFor 92 = .ok (.laload, 1) := dG_dX4_pointsFor_85.2.2.2.2.2.1
theorem dX4_pointsFor_93 : decode cX4_pointsFor 93 = .ok (.lneg, 1) := dG_dX4_pointsFor_85.2.2.2.2.2.2.1
theorem dX4_pointsFor_94 : decode cX4_pointsFor 94 = .ok (.lastore, 1) := dG_dX4_pointsFor_85.2.2.2.2.2.2.2.1
theorem dX4_pointsFor_95 : decode cX4_pointsFor 95 = .ok (.goto 41, 3) := dG_dX4_pointsFor_85.2.2.2.2.2.2.2.2.1
theorem dX4_pointsFor_98 : decode cX4_pointsFor 98 = .ok (.iload_n 2, 1) := dG_dX4_pointsFor_85.2.2.2.2.2.2.2.2.2.1
theorem dX4_pointsFor_99 : decode cX4_pointsFor 99 = .ok (.iconst 1, 1) := dG_dX4_pointsFor_85.2.2.2.2.2.2.2.2.2.2.1
theorem dX4_pointsFor_100 : decode cX4_pointsFor 100 = .ok (.if_icmp .le 36, 3) := dG_dX4_pointsFor_85.2.2.2.2.2.2.2.2.2.2.2
theorem dG_dX4_pointsFor_103 : (decode cX4_pointsFor 103 = .ok (.iinc 2 (-1), 3)) ∧ (decode cX4_pointsFor 106 = .ok (.aload_n 0, 1)) ∧ (decode cX4_pointsFor 107 = .ok (.getfield 27, 3)) ∧ (decode cX4_pointsFor 110 = .ok (.iload_n 2, 1)) ∧ (decode cX4_pointsFor 111 = .ok (.iconst 1, 1)) ∧ (decode cX4_pointsFor 112 = .ok (.isub, 1)) ∧ (decode cX4_pointsFor 113 = .ok (.iload 4, 2)) ∧ (decode cX4_pointsFor 115 = .ok (.aload_n 0, 1)) ∧ (decode cX4_pointsFor 116 = .ok (.getfield 27, 3)) ∧ (decode cX4_pointsFor 119 = .ok (.iload_n 2, 1)) ∧ (decode cX4_pointsFor 120 = .ok (.iconst 1, 1)) ∧ (decode cX4_pointsFor 121 = .ok (.isub, 1)) := by decide +kernel
theorem dX4_pointsFor_103 : decode cX4_pointsFor 103 = .ok (.iinc 2 (-1), 3) := dG_dX4_pointsFor_103.1
theorem dX4_pointsFor_106 : decode cX4_pointsFor 106 = .ok (.aload_n 0, 1) := dG_dX4_pointsFor_103.2.1
theorem dX4_pointsFor_107 : decode cX4_pointsFor 107 = .ok (.getfield 27, 3) := dG_dX4_pointsFor_103.2.2.1
theorem dX4_pointsFor_110 : decode cX4_pointsFor 110 = .ok (.iload_n 2, 1) := dG_dX4_pointsFor_103.2.2.2.1
theorem dX4_pointsFor_111 : decode cX4_pointsFor 111 = .ok (.iconst 1, 1) := dG_dX4_pointsFor_103.2.2.2.2.1
theorem dX4_pointsFor_112 : decode cX4_pointsFor 112 = .ok (.isub, 1) := dG_dX4_pointsFor_103.2.2.2.2.2.1
theorem dX4_pointsFor_113 : decode cX4_pointsFor 113 = .ok (.iload 4, 2) := dG_dX4_pointsFor_103.2.2.2.2.2.2.1
theorem dX4_pointsFor_115 : decode cX4_pointsFor 115 = .ok (.aload_n 0, 1) := dG_dX4_pointsFor_103.2.2.2.2.2.2.2.1
theorem dX4_pointsFor_116 : decode cX4_pointsFor 116 = .ok (.getfield 27, 3) := dG_dX4_pointsFor_103.2.2.2.2.2.2.2.2.1
theorem dX4_pointsFor_119 : decode cX4_pointsFor 119 = .ok (.iload_n 2, 1) := dG_dX4_pointsFor_103.2.2.2.2.2.2.2.2.2.1
theorem dX4_pointsFor_120 : decode cX4_pointsFor 120 = .ok (.iconst 1, 1) := dG_dX4_pointsFor_103.2.2.2.2.2.2.2.2.2.2.1
theorem dX4_pointsFor_121 : decode cX4_pointsFor 121 = .ok (.isub, 1) := dG_dX4_pointsFor_103.2.2.2.2.2.2.2.2.2.2.2
theorem dG_dX4_pointsFor_122 : (decode cX4_pointsFor 122 = .ok (.laload, 1)) ∧ (decode cX4_pointsFor 123 = .ok (.aload_n 0, 1)) ∧ (decode cX4_pointsFor 124 = .ok (.getfield 27, 3)) ∧ (decode cX4_pointsFor 127 = .ok (.iload_n 2, 1)) ∧ (decode cX4_pointsFor 128 = .ok (.laload, 1)) ∧ (decode cX4_pointsFor 129 = .ok (.invokestatic 63, 3)) ∧ (decode cX4_pointsFor 132 = .ok (.invokestatic 67, 3)) ∧ (decode cX4_pointsFor 135 = .ok (.lastore, 1)) ∧ (decode cX4_pointsFor 136 = .ok (.iinc 3 1, 3)) ∧ (decode cX4_pointsFor 139 = .ok (.goto (-135), 3)) ∧ (decode cX4_pointsFor 142 = .ok (.iload_n 2, 1)) ∧ (decode cX4_pointsFor 143 = .ok (.ifCond .le 13, 3)) := by decide +kernel
theorem dX4_pointsFor_122 : decode cX4_pointsFor 122 = .ok (.laload, 1) := dG_dX4_pointsFor_122.1
theorem dX4_pointsFor_123 : decode cX4_pointsFor 123 = .ok (.aload_n 0, 1) := dG_dX4_pointsFor_122.2.1
theorem dX4_pointsFor_124 : decode cX4_pointsFor 124 = .ok (.getfield 27, 3) := dG_dX4_pointsFor_122.2.2.1
theorem dX4_pointsFor_127 : decode cX4_pointsFor 127 = .ok (.iload_n 2, 1) := dG_dX4_pointsFor_122.2.2.2.1
theorem dX4_pointsFor_128 : decode cX4_pointsFor 128 = .ok (.laload, 1) := dG_dX4_pointsFor_122.2.2.2.2.1
theorem dX4_pointsFor_129 : decode cX4_pointsFor 129 = .ok (.invokestatic 63, 3) := dG_dX4_pointsFor_122.2.2.2.2.2.1
theorem dX4_pointsFor_132 : decode cX4_pointsFor 132 = .ok (.invokestatic 67, 3) := dG_dX4_pointsFor_122.2.2.2.2.2.2.1
theorem dX4_pointsFor_135 : decode cX4_pointsFor 135 = .ok (.lastore, 1) := dG_dX4_pointsFor_122.2.2.2.2.2.2.2.1
theorem dX4_pointsFor_136 : decode cX4_pointsFor 136 = .ok (.iinc 3 1, 3) := dG_dX4_pointsFor_122.2.2.2.2.2.2.2.2.1
theorem dX4_pointsFor_139 : decode cX4_pointsFor 139 = .ok (.goto (-135), 3) := dG_dX4_pointsFor_122.2.2.2.2.2.2.2.2.2.1
theorem dX4_pointsFor_142 : decode cX4_pointsFor 142 = .ok (.iload_n 2, 1) := dG_dX4_pointsFor_122.2.2.2.2.2.2.2.2.2.2.1
theorem dX4_pointsFor_143 : decode cX4_pointsFor 143 = .ok (.ifCond .le 13, 3) := dG_dX4_pointsFor_122.2.2.2.2.2.2.2.2.2.2.2
theorem dG_dX4_pointsFor_146 : (decode cX4_pointsFor 146 = .ok (.aload_n 0, 1)) ∧ (decode cX4_pointsFor 147 = .ok (.getfield 27, 3)) ∧ (decode cX4_pointsFor 150 = .ok (.iconst 0, 1)) ∧ (decode cX4_pointsFor 151 = .ok (.laload, 1)) ∧ (decode cX4_pointsFor 152 = .ok (.l2i, 1)) ∧ (decode cX4_pointsFor 153 = .ok (.goto 4, 3)) ∧ (decode cX4_pointsFor 156 = .ok (.iconst 0, 1)) ∧ (decode cX4_pointsFor 157 = .ok (.ireturn, 1)) ∧ (decode cX4_worked 0 = .ok (.iload_n 0, 1)) ∧ (decode cX4_worked 1 = .ok (.bipush 9, 2)) ∧ (decode cX4_worked 3 = .ok (.if_icmp .ne 7, 3)) ∧ (decode cX4_worked 6 = .ok (.lload_n 1, 1)) := by decide +kernel
theorem dX4_pointsFor_146 : decode cX4_pointsFor 146 = .ok (.aload_n 0, 1) := dG_dX4_pointsFor_146.1
theorem dX4_pointsFor_147 : decode cX4_pointsFor 147 = .ok (.getfield 27, 3) := dG_dX4_pointsFor_146.2.1
theorem dX4_pointsFor_150 : decode cX4_pointsFor 150 = .ok (.iconst 0, 1) := dG_dX4_pointsFor_146.2.2.1
theorem dX4_pointsFor_151 : decode cX4_pointsFor 151 = .ok (.laload, 1) := dG_dX4_pointsFor_146.2.2.2.1
theorem dX4_pointsFor_152 : decode cX4_pointsFor 152 = .ok (.l2i, 1) := dG_dX4_pointsFor_146.2.2.2.2.1
theorem dX4_pointsFor_153 : decode cX4_pointsFor 153 = .ok (.goto 4, 3) := dG_dX4_pointsFor_146.2.2.2.2.2.1
theorem dX4_pointsFor_156 : decode cX4_pointsFor 156 = .ok (.iconst 0, 1) := dG_dX4_pointsFor_146.2.2.2.2.2.2.1
theorem dX4_pointsFor_157 : decode cX4_pointsFor 157 = .ok (.ireturn, 1) := dG_dX4_pointsFor_146.2.2.2.2.2.2.2.1
theorem dX4_worked_0 : decode cX4_worked 0 = .ok (.iload_n 0, 1) := dG_dX4_pointsFor_146.2.2.2.2.2.2.2.2.1
theorem dX4_worked_1 : decode cX4_worked 1 = .ok (.bipush 9, 2) := dG_dX4_pointsFor_146.2.2.2.2.2.2.2.2.2.1
theorem dX4_worked_3 : decode cX4_worked 3 = .ok (.if_icmp .ne 7, 3) := dG_dX4_pointsFor_146.2.2.2.2.2.2.2.2.2.2.1
theorem dX4_worked_6 : decode cX4_worked 6 = .ok (.lload_n 1, 1) := dG_dX4_pointsFor_146.2.2.2.2.2.2.2.2.2.2.2
theorem dG_dX4_worked_7 : (decode cX4_worked 7 = .ok (.lload_n 3, 1)) ∧ (decode cX4_worked 8 = .ok (.lmul, 1)) ∧ (decode cX4_worked 9 = .ok (.lreturn, 1)) ∧ (decode cX4_worked 10 = .ok (.iload_n 0, 1)) ∧ (decode cX4_worked 11 = .ok (.bipush 7, 2)) ∧ (decode cX4_worked 13 = .ok (.if_icmp .ne 9, 3)) ∧ (decode cX4_worked 16 = .ok (.lload_n 1, 1)) ∧ (decode cX4_worked 17 = .ok (.lload_n 3, 1)) ∧ (decode cX4_worked 18 = .ok (.ladd, 1)) ∧ (decode cX4_worked 19 = .ok (.goto 6, 3)) ∧ (decode cX4_worked 22 = .ok (.lload_n 1, 1)) ∧ (decode cX4_worked 23 = .ok (.lload_n 3, 1)) := by decide +kernel
theorem dX4_worked_7 : decode cX4_worked 7 = .ok (.lload_n 3, 1) := dG_dX4_worked_7.1
theorem dX4_worked_8 : decode cX4_worked 8 = .ok (.lmul, 1) := dG_dX4_worked_7.2.1
theorem dX4_worked_9 : decode cX4_worked 9 = .ok (.lreturn, 1) := dG_dX4_worked_7.2.2.1
theorem dX4_worked_10 : decode cX4_worked 10 = .ok (.iload_n 0, 1) := dG_dX4_worked_7.2.2.2.1
theorem dX4_worked_11 : decode cX4_worked 11 = .ok (.bipush 7, 2) := dG_dX4_worked_7.2.2.2.2.1
theorem dX4_worked_13 : decode cX4_worked 13 = .ok (.if_icmp .ne 9, 3) := dG_dX4_worked_7.2.2.2.2.2.1
theorem dX4_worked_16 : decode cX4_worked 16 = .ok (.lload_n 1, 1) := dG_dX4_worked_7.2.2.2.2.2.2.1
theorem dX4_worked_17 : decode cX4_worked 17 = .ok (.lload_n 3, 1) := dG_dX4_worked_7.2.2.2.2.2.2.2.1
theorem dX4_worked_18 : decode cX4_worked 18 = .ok (.ladd, 1) := dG_dX4_worked_7.2.2.2.2.2.2.2.2.1
theorem dX4_worked_19 : decode cX4_worked 19 = .ok (.goto 6, 3) := dG_dX4_worked_7.2.2.2.2.2.2.2.2.2.1
theorem dX4_worked_22 : decode cX4_worked 22 = .ok (.lload_n 1, 1) := dG_dX4_worked_7.2.2.2.2.2.2.2.2.2.2.1
theorem dX4_worked_23 : decode cX4_worked 23 = .ok (.lload_n 3, 1) := dG_dX4_worked_7.2.2.2.2.2.2.2.2.2.2.2
theorem dG_dX4_worked_24 : (decode cX4_worked 24 = .ok (.lsub, 1)) ∧ (decode cX4_worked 25 = .ok (.lreturn, 1)) ∧ (decode cX4_bounded 0 = .ok (.ldc2_w 71, 3)) ∧ (decode cX4_bounded 3 = .ok (.ldc2_w 73, 3)) ∧ (decode cX4_bounded 6 = .ok (.lload_n 0, 1)) ∧ (decode cX4_bounded 7 = .ok (.invokestatic 75, 3)) ∧ (decode cX4_bounded 10 = .ok (.invokestatic 81, 3)) ∧ (decode cX4_bounded 13 = .ok (.lreturn, 1)) ∧ (decode cX5_survey 0 = .ok (.aload_n 0, 1)) ∧ (decode cX5_survey 1 = .ok (.iload_n 1, 1)) ∧ (decode cX5_survey 2 = .ok (.invokevirtual 63, 3)) ∧ (decode cX5_survey 5 = .ok (.aload_n 0, 1)) := by decide +kernel
theorem dX4_worked_24 : decode cX4_worked 24 = .ok (.lsub, 1) := dG_dX4_worked_24.1
theorem dX4_worked_25 : decode cX4_worked 25 = .ok (.lreturn, 1) := dG_dX4_worked_24.2.1
theorem dX4_bounded_0 : decode cX4_bounded 0 = .ok (.ldc2_w 71, 3) := dG_dX4_worked_24.2.2.1
theorem dX4_bounded_3 : decode cX4_bounded 3 = .ok (.ldc2_w 73, 3) := dG_dX4_worked_24.2.2.2.1
theorem dX4_bounded_6 : decode cX4_bounded 6 = .ok (.lload_n 0, 1) := dG_dX4_worked_24.2.2.2.2.1
theorem dX4_bounded_7 : decode cX4_bounded 7 = .ok (.invokestatic 75, 3) := dG_dX4_worked_24.2.2.2.2.2.1
theorem dX4_bounded_10 : decode cX4_bounded 10 = .ok (.invokestatic 81, 3) := dG_dX4_worked_24.2.2.2.2.2.2.1
theorem dX4_bounded_13 : decode cX4_bounded 13 = .ok (.lreturn, 1) := dG_dX4_worked_24.2.2.2.2.2.2.2.1
theorem dX5_survey_0 : decode cX5_survey 0 = .ok (.aload_n 0, 1) := dG_dX4_worked_24.2.2.2.2.2.2.2.2.1
theorem dX5_survey_1 : decode cX5_survey 1 = .ok (.iload_n 1, 1) := dG_dX4_worked_24.2.2.2.2.2.2.2.2.2.1
theorem dX5_survey_2 : decode cX5_survey 2 = .ok (.invokevirtual 63, 3) := dG_dX4_worked_24.2.2.2.2.2.2.2.2.2.2.1
theorem dX5_survey_5 : decode cX5_survey 5 = .ok (.aload_n 0, 1) := dG_dX4_worked_24.2.2.2.2.2.2.2.2.2.2.2
theorem dG_dX5_survey_6 : (decode cX5_survey 6 = .ok (.getfield 18, 3)) ∧ (decode cX5_survey 9 = .ok (.iconst 0, 1)) ∧ (decode cX5_survey 10 = .ok (.invokestatic 67, 3)) ∧ (decode cX5_survey 13 = .ok (.iconst 0, 1)) ∧ (decode cX5_survey 14 = .ok (.istore_n 2, 1)) ∧ (decode cX5_survey 15 = .ok (.iload_n 2, 1)) ∧ (decode cX5_survey 16 = .ok (.aload_n 0, 1)) ∧ (decode cX5_survey 17 = .ok (.getfield 55, 3)) ∧ (decode cX5_survey 20 = .ok (.getfield 73, 3)) ∧ (decode cX5_survey 23 = .ok (.if_icmp .ge 112, 3)) ∧ (decode cX5_survey 26 = .ok (.aload_n 0, 1)) ∧ (decode cX5_survey 27 = .ok (.getfield 55, 3)) := by decide +kernel
theorem dX5_survey_6 : decode cX5_survey 6 = .ok (.getfield 18, 3) := dG_dX5_survey_6.1
theorem dX5_survey_9 : decode cX5_survey 9 = .ok (.iconst 0, 1) := dG_dX5_survey_6.2.1
theorem dX5_survey_10 : decode cX5_survey 10 = .ok (.invokestatic 67, 3) := dG_dX5_survey_6.2.2.1
theorem dX5_survey_13 : decode cX5_survey 13 = .ok (.iconst 0, 1) := dG_dX5_survey_6.2.2.2.1
theorem dX5_survey_14 : decode cX5_survey 14 = .ok (.istore_n 2, 1) := dG_dX5_survey_6.2.2.2.2.1
theorem dX5_survey_15 : decode cX5_survey 15 = .ok (.iload_n 2, 1) := dG_dX5_survey_6.2.2.2.2.2.1
theorem dX5_survey_16 : decode cX5_survey 16 = .ok (.aload_n 0, 1) := dG_dX5_survey_6.2.2.2.2.2.2.1
theorem dX5_survey_17 : decode cX5_survey 17 = .ok (.getfield 55, 3) := dG_dX5_survey_6.2.2.2.2.2.2.2.1
theorem dX5_survey_20 : decode cX5_survey 20 = .ok (.getfield 73, 3) := dG_dX5_survey_6.2.2.2.2.2.2.2.2.1
theorem dX5_survey_23 : decode cX5_survey 23 = .ok (.if_icmp .ge 112, 3) := dG_dX5_survey_6.2.2.2.2.2.2.2.2.2.1
theorem dX5_survey_26 : decode cX5_survey 26 = .ok (.aload_n 0, 1) := dG_dX5_survey_6.2.2.2.2.2.2.2.2.2.2.1
theorem dX5_survey_27 : decode cX5_survey 27 = .ok (.getfield 55, 3) := dG_dX5_survey_6.2.2.2.2.2.2.2.2.2.2.2
theorem dG_dX5_survey_30 : (decode cX5_survey 30 = .ok (.getfield 79, 3)) ∧ (decode cX5_survey 33 = .ok (.iload_n 2, 1)) ∧ (decode cX5_survey 34 = .ok (.iaload, 1)) ∧ (decode cX5_survey 35 = .ok (.iconst 4, 1)) ∧ (decode cX5_survey 36 = .ok (.if_icmp .eq 93, 3)) ∧ (decode cX5_survey 39 = .ok (.aload_n 0, 1)) ∧ (decode cX5_survey 40 = .ok (.getfield 55, 3)) ∧ (decode cX5_survey 43 = .ok (.getfield 82, 3)) ∧ (decode cX5_survey 46 = .ok (.iload_n 2, 1)) ∧ (decode cX5_survey 47 = .ok (.iaload, 1)) ∧ (decode cX5_survey 48 = .ok (.aload_n 0, 1)) ∧ (decode cX5_survey 49 = .ok (.getfield 55, 3)) := by decide +kernel
theorem dX5_survey_30 : decode cX5_survey 30 = .ok (.getfield 79, 3) := dG_dX5_survey_30.1
theorem dX5_survey_33 : decode cX5_survey 33 = .ok (.iload_n 2, 1) := dG_dX5_survey_30.2.1
theorem dX5_survey_34 : decode cX5_survey 34 = .ok (.iaload, 1) := dG_dX5_survey_30.2.2.1
theorem dX5_survey_35 : decode cX5_survey 35 = .ok (.iconst 4, 1) := dG_dX5_survey_30.2.2.2.1
theorem dX5_survey_36 : decode cX5_survey 36 = .ok (.if_icmp .eq 93, 3) := dG_dX5_survey_30.2.2.2.2.1
theorem dX5_survey_39 : decode cX5_survey 39 = .ok (.aload_n 0, 1) := dG_dX5_survey_30.2.2.2.2.2.1
theorem dX5_survey_40 : decode cX5_survey 40 = .ok (.getfield 55, 3) := dG_dX5_survey_30.2.2.2.2.2.2.1
theorem dX5_survey_43 : decode cX5_survey 43 = .ok (.getfield 82, 3) := dG_dX5_survey_30.2.2.2.2.2.2.2.1
theorem dX5_survey_46 : decode cX5_survey 46 = .ok (.iload_n 2, 1) := dG_dX5_survey_30.2.2.2.2.2.2.2.2.1
theorem dX5_survey_47 : decode cX5_survey 47 = .ok (.iaload, 1) := dG_dX5_survey_30.2.2.2.2.2.2.2.2.2.1
theorem dX5_survey_48 : decode cX5_survey 48 = .ok (.aload_n 0, 1) := dG_dX5_survey_30.2.2.2.2.2.2.2.2.2.2.1
theorem dX5_survey_49 : decode cX5_survey 49 = .ok (.getfield 55, 3) := dG_dX5_survey_30.2.2.2.2.2.2.2.2.2.2.2
theorem dG_dX5_survey_52 : (decode cX5_survey 52 = .ok (.getfield 85, 3)) ∧ (decode cX5_survey 55 = .ok (.iload_n 2, 1)) ∧ (decode cX5_survey 56 = .ok (.iaload, 1)) ∧ (decode cX5_survey 57 = .ok (.aload_n 0, 1)) ∧ (decode cX5_survey 58 = .ok (.getfield 55, 3)) ∧ (decode cX5_survey 61 = .ok (.getfield 88, 3)) ∧ (decode cX5_survey 64 = .ok (.iload_n 2, 1)) ∧ (decode cX5_survey 65 = .ok (.iaload, 1)) ∧ (decode cX5_survey 66 = .ok (.invokestatic 91, 3)) ∧ (decode cX5_survey 69 = .ok (.istore_n 3, 1)) ∧ (decode cX5_survey 70 = .ok (.aload_n 0, 1)) ∧ (decode cX5_survey 71 = .ok (.getfield 18, 3)) := by decide +kernel
theorem dX5_survey_52 : decode cX5_survey 52 = .ok (.getfield 85, 3) := dG_dX5_survey_52.1
theorem dX5_survey_55 : decode cX5_survey 55 = .ok (.iload_n 2, 1) := dG_dX5_survey_52.2.1
theorem dX5_survey_56 : decode cX5_survey 56 = .ok (.iaload, 1) := dG_dX5_survey_52.2.2.1
theorem dX5_survey_57 : decode cX5_survey 57 = .ok (.aload_n 0, 1) := dG_dX5_survey_52.2.2.2.1
theorem dX5_survey_58 : decode cX5_survey 58 = .ok (.getfield 55, 3) := dG_dX5_survey_52.2.2.2.2.1
theorem dX5_survey_61 : decode cX5_survey 61 = .ok (.getfield 88, 3) := dG_dX5_survey_52.2.2.2.2.2.1
theorem dX5_survey_64 : decode cX5_survey 64 = .ok (.iload_n 2, 1) := dG_dX5_survey_52.2.2.2.2.2.2.1
theorem dX5_survey_65 : decode cX5_survey 65 = .ok (.iaload, 1) := dG_dX5_survey_52.2.2.2.2.2.2.2.1
theorem dX5_survey_66 : decode cX5_survey 66 = .ok (.invokestatic 91, 3) := dG_dX5_survey_52.2.2.2.2.2.2.2.2.1
theorem dX5_survey_69 : decode cX5_survey 69 = .ok (.istore_n 3, 1) := dG_dX5_survey_52.2.2.2.2.2.2.2.2.2.1
theorem dX5_survey_70 : decode cX5_survey 70 = .ok (.aload_n 0, 1) := dG_dX5_survey_52.2.2.2.2.2.2.2.2.2.2.1
theorem dX5_survey_71 : decode cX5_survey 71 = .ok (.getfield 18, 3) := dG_dX5_survey_52.2.2.2.2.2.2.2.2.2.2.2
theorem dG_dX5_survey_74 : (decode cX5_survey 74 = .ok (.iload_n 3, 1)) ∧ (decode cX5_survey 75 = .ok (.dup2, 1)) ∧ (decode cX5_survey 76 = .ok (.iaload, 1)) ∧ (decode cX5_survey 77 = .ok (.iconst 1, 1)) ∧ (decode cX5_survey 78 = .ok (.iadd, 1)) ∧ (decode cX5_survey 79 = .ok (.iastore, 1)) ∧ (decode cX5_survey 80 = .ok (.aload_n 0, 1)) ∧ (decode cX5_survey 81 = .ok (.getfield 18, 3)) ∧ (decode cX5_survey 84 = .ok (.iload_n 3, 1)) ∧ (decode cX5_survey 85 = .ok (.iaload, 1)) ∧ (decode cX5_survey 86 = .ok (.iconst 1, 1)) ∧ (decode cX5_survey 87 = .ok (.if_icmp .eq 23, 3)) := by decide +kernel
theorem dX5_survey_74 : decode cX5_survey 74 = .ok (.iload_n 3, 1) := dG_dX5_survey_74.1
theorem dX5_survey_75 : decode cX5_survey 75 = .ok (.dup2, 1) := dG_dX5_survey_74.2.1
theorem dX5_survey_76 : decode cX5_survey 76 = .ok (.iaload, 1) := dG_dX5_survey_74.2.2.1
theorem dX5_survey_77 : decode cX5_survey 77 = .ok (.iconst 1, 1) := dG_dX5_survey_74.2.2.2.1
theorem dX5_survey_78 : decode cX5_survey 78 = .ok (.iadd, 1) := dG_dX5_survey_74.2.2.2.2.1
theorem dX5_survey_79 : decode cX5_survey 79 = .ok (.iastore, 1) := dG_dX5_survey_74.2.2.2.2.2.1
theorem dX5_survey_80 : decode cX5_survey 80 = .ok (.aload_n 0, 1) := dG_dX5_survey_74.2.2.2.2.2.2.1
theorem dX5_survey_81 : decode cX5_survey 81 = .ok (.getfield 18, 3) := dG_dX5_survey_74.2.2.2.2.2.2.2.1
theorem dX5_survey_84 : decode cX5_survey 84 = .ok (.iload_n 3, 1) := dG_dX5_survey_74.2.2.2.2.2.2.2.2.1
theorem dX5_survey_85 : decode cX5_survey 85 = .ok (.iaload, 1) := dG_dX5_survey_74.2.2.2.2.2.2.2.2.2.1
theorem dX5_survey_86 : decode cX5_survey 86 = .ok (.iconst 1, 1) := dG_dX5_survey_74.2.2.2.2.2.2.2.2.2.2.1
theorem dX5_survey_87 : decode cX5_survey 87 = .ok (.if_icmp .eq 23, 3) := dG_dX5_survey_74.2.2.2.2.2.2.2.2.2.2.2
theorem dG_dX5_survey_90 : (decode cX5_survey 90 = .ok (.aload_n 0, 1)) ∧ (decode cX5_survey 91 = .ok (.getfield 9, 3)) ∧ (decode cX5_survey 94 = .ok (.iload_n 2, 1)) ∧ (decode cX5_survey 95 = .ok (.iaload, 1)) ∧ (decode cX5_survey 96 = .ok (.aload_n 0, 1)) ∧ (decode cX5_survey 97 = .ok (.getfield 9, 3)) ∧ (decode cX5_survey 100 = .ok (.aload_n 0, 1)) ∧ (decode cX5_survey 101 = .ok (.getfield 21, 3)) ∧ (decode cX5_survey 104 = .ok (.iload_n 3, 1)) ∧ (decode cX5_survey 105 = .ok (.iaload, 1)) ∧ (decode cX5_survey 106 = .ok (.iaload, 1)) ∧ (decode cX5_survey 107 = .ok (.if_icmp .le 22, 3)) := by decide +kernel
theorem dX5_survey_90 : decode cX5_survey 90 = .ok (.aload_n 0, 1) := dG_dX5_survey_90.1
theorem dX5_survey_91 : decode cX5_survey 91 = .ok (.getfield 9, 3) := dG_dX5_survey_90.2.1
theorem dX5_survey_94 : decode cX5_survey 94 = .ok (.iload_n 2, 1) := dG_dX5_survey_90.2.2.1
theorem dX5_survey_95 : decode cX5_survey 95 = .ok (.iaload, 1) := dG_dX5_survey_90.2.2.2.1
theorem dX5_survey_96 : decode cX5_survey 96 = .ok (.aload_n 0, 1) := dG_dX5_survey_90.2.2.2.2.1
theorem dX5_survey_97 : decode cX5_survey 97 = .ok (.getfield 9, 3) := dG_dX5_survey_90.2.2.2.2.2.1
theorem dX5_survey_100 : decode cX5_survey 100 = .ok (.aload_n 0, 1) := dG_dX5_survey_90.2.2.2.2.2.2.1
theorem dX5_survey_101 : decode cX5_survey 101 = .ok (.getfield 21, 3) := dG_dX5_survey_90.2.2.2.2.2.2.2.1
theorem dX5_survey_104 : decode cX5_survey 104 = .ok (.iload_n 3, 1) := dG_dX5_survey_90.2.2.2.2.2.2.2.2.1
theorem dX5_survey_105 : decode cX5_survey 105 = .ok (.iaload, 1) := dG_dX5_survey_90.2.2.2.2.2.2.2.2.2.1
theorem dX5_survey_106 : decode cX5_survey 106 = .ok (.iaload, 1) := dG_dX5_survey_90.2.2.2.2.2.2.2.2.2.2.1
theorem dX5_survey_107 : decode cX5_survey 107 = .ok (.if_icmp .le 22, 3) := dG_dX5_survey_90.2.2.2.2.2.2.2.2.2.2.2
theorem dG_dX5_survey_110 : (decode cX5_survey 110 = .ok (.aload_n 0, 1)) ∧ (decode cX5_survey 111 = .ok (.getfield 21, 3)) ∧ (decode cX5_survey 114 = .ok (.iload_n 3, 1)) ∧ (decode cX5_survey 115 = .ok (.iload_n 2, 1)) ∧ (decode cX5_survey 116 = .ok (.iastore, 1)) ∧ (decode cX5_survey 117 = .ok (.aload_n 0, 1)) ∧ (decode cX5_survey 118 = .ok (.getfield 24, 3)) ∧ (decode cX5_survey 121 = .ok (.iload_n 3, 1)) ∧ (decode cX5_survey 122 = .ok (.aload_n 0, 1)) ∧ (decode cX5_survey 123 = .ok (.getfield 18, 3)) ∧ (decode cX5_survey 126 = .ok (.iload_n 3, 1)) ∧ (decode cX5_survey 127 = .ok (.iaload, 1)) := by decide +kernel
theorem dX5_survey_110 : decode cX5_survey 110 = .ok (.aload_n 0, 1) := dG_dX5_survey_110.1
theorem dX5_survey_111 : decode cX5_survey 111 = .ok (.getfield 21, 3) := dG_dX5_survey_110.2.1
theorem dX5_survey_114 : decode cX5_survey 114 = .ok (.iload_n 3, 1) := dG_dX5_survey_110.2.2.1
theorem dX5_survey_115 : decode cX5_survey 115 = .ok (.iload_n 2, 1) := dG_dX5_survey_110.2.2.2.1
theorem dX5_survey_116 : decode cX5_survey 116 = .ok (.iastore, 1) := dG_dX5_survey_110.2.2.2.2.1
theorem dX5_survey_117 : decode cX5_survey 117 = .ok (.aload_n 0, 1) := dG_dX5_survey_110.2.2.2.2.2.1
theorem dX5_survey_118 : decode cX5_survey 118 = .ok (.getfield 24, 3) := dG_dX5_survey_110.2.2.2.2.2.2.1
theorem dX5_survey_121 : decode cX5_survey 121 = .ok (.iload_n 3, 1) := dG_dX5_survey_110.2.2.2.2.2.2.2.1
theorem dX5_survey_122 : decode cX5_survey 122 = .ok (.aload_n 0, 1) := dG_dX5_survey_110.2.2.2.2.2.2.2.2.1
theorem dX5_survey_123 : decode cX5_survey 123 = .ok (.getfield 18, 3) := dG_dX5_survey_110.2.2.2.2.2.2.2.2.2.1
theorem dX5_survey_126 : decode cX5_survey 126 = .ok (.iload_n 3, 1) := dG_dX5_survey_110.2.2.2.2.2.2.2.2.2.2.1
theorem dX5_survey_127 : decode cX5_survey 127 = .ok (.iaload, 1) := dG_dX5_survey_110.2.2.2.2.2.2.2.2.2.2.2
theorem dG_dX5_survey_128 : (decode cX5_survey 128 = .ok (.iastore, 1)) ∧ (decode cX5_survey 129 = .ok (.iinc 2 1, 3)) ∧ (decode cX5_survey 132 = .ok (.goto (-117), 3)) ∧ (decode cX5_survey 135 = .ok (.return_, 1)) ∧ (decode cX5_hearAppeals 0 = .ok (.iconst 0, 1)) ∧ (decode cX5_hearAppeals 1 = .ok (.istore_n 2, 1)) ∧ (decode cX5_hearAppeals 2 = .ok (.iload_n 2, 1)) ∧ (decode cX5_hearAppeals 3 = .ok (.aload_n 0, 1)) ∧ (decode cX5_hearAppeals 4 = .ok (.getfield 55, 3)) ∧ (decode cX5_hearAppeals 7 = .ok (.getfield 73, 3)) ∧ (decode cX5_hearAppeals 10 = .ok (.if_icmp .ge 31, 3)) ∧ (decode cX5_hearAppeals 13 = .ok (.aload_n 0, 1)) := by decide +kernel
theorem dX5_survey_128 : decode cX5_survey 128 = .ok (.iastore, 1) := dG_dX5_survey_128.1
theorem dX5_survey_129 : decode cX5_survey 129 = .ok (.iinc 2 1, 3) := dG_dX5_survey_128.2.1
theorem dX5_survey_132 : decode cX5_survey 132 = .ok (.goto (-117), 3) := dG_dX5_survey_128.2.2.1
theorem dX5_survey_135 : decode cX5_survey 135 = .ok (.return_, 1) := dG_dX5_survey_128.2.2.2.1
theorem dX5_hearAppeals_0 : decode cX5_hearAppeals 0 = .ok (.iconst 0, 1) := dG_dX5_survey_128.2.2.2.2.1
theorem dX5_hearAppeals_1 : decode cX5_hearAppeals 1 = .ok (.istore_n 2, 1) := dG_dX5_survey_128.2.2.2.2.2.1
theorem dX5_hearAppeals_2 : decode cX5_hearAppeals 2 = .ok (.iload_n 2, 1) := dG_dX5_survey_128.2.2.2.2.2.2.1
theorem dX5_hearAppeals_3 : decode cX5_hearAppeals 3 = .ok (.aload_n 0, 1) := dG_dX5_survey_128.2.2.2.2.2.2.2.1
theorem dX5_hearAppeals_4 : decode cX5_hearAppeals 4 = .ok (.getfield 55, 3) := dG_dX5_survey_128.2.2.2.2.2.2.2.2.1
theorem dX5_hearAppeals_7 : decode cX5_hearAppeals 7 = .ok (.getfield 73, 3) := dG_dX5_survey_128.2.2.2.2.2.2.2.2.2.1
theorem dX5_hearAppeals_10 : decode cX5_hearAppeals 10 = .ok (.if_icmp .ge 31, 3) := dG_dX5_survey_128.2.2.2.2.2.2.2.2.2.2.1
theorem dX5_hearAppeals_13 : decode cX5_hearAppeals 13 = .ok (.aload_n 0, 1) := dG_dX5_survey_128.2.2.2.2.2.2.2.2.2.2.2
theorem dG_dX5_hearAppeals_14 : (decode cX5_hearAppeals 14 = .ok (.getfield 9, 3)) ∧ (decode cX5_hearAppeals 17 = .ok (.iload_n 2, 1)) ∧ (decode cX5_hearAppeals 18 = .ok (.aload_n 0, 1)) ∧ (decode cX5_hearAppeals 19 = .ok (.getfield 55, 3)) ∧ (decode cX5_hearAppeals 22 = .ok (.getfield 95, 3)) ∧ (decode cX5_hearAppeals 25 = .ok (.iload_n 2, 1)) ∧ (decode cX5_hearAppeals 26 = .ok (.iaload, 1)) ∧ (decode cX5_hearAppeals 27 = .ok (.iastore, 1)) ∧ (decode cX5_hearAppeals 28 = .ok (.aload_n 0, 1)) ∧ (decode cX5_hearAppeals 29 = .ok (.getfield 15, 3)) ∧ (decode cX5_hearAppeals 32 = .ok (.iload_n 2, 1)) ∧ (decode cX5_hearAppeals 33 = .ok (.iconst (-1), 1)) := by decide +kernel
theorem dX5_hearAppeals_14 : decode cX5_hearAppeals 14 = .ok (.getfield 9, 3) := dG_dX5_hearAppeals_14.1
theorem dX5_hearAppeals_17 : decode cX5_hearAppeals 17 = .ok (.iload_n 2, 1) := dG_dX5_hearAppeals_14.2.1
theorem dX5_hearAppeals_18 : decode cX5_hearAppeals 18 = .ok (.aload_n 0, 1) := dG_dX5_hearAppeals_14.2.2.1
theorem dX5_hearAppeals_19 : decode cX5_hearAppeals 19 = .ok (.getfield 55, 3) := dG_dX5_hearAppeals_14.2.2.2.1
theorem dX5_hearAppeals_22 : decode cX5_hearAppeals 22 = .ok (.getfield 95, 3) := dG_dX5_hearAppeals_14.2.2.2.2.1
theorem dX5_hearAppeals_25 : decode cX5_hearAppeals 25 = .ok (.iload_n 2, 1) := dG_dX5_hearAppeals_14.2.2.2.2.2.1
theorem dX5_hearAppeals_26 : decode cX5_hearAppeals 26 = .ok (.iaload, 1) := dG_dX5_hearAppeals_14.2.2.2.2.2.2.1
theorem dX5_hearAppeals_27 : decode cX5_hearAppeals 27 = .ok (.iastore, 1) := dG_dX5_hearAppeals_14.2.2.2.2.2.2.2.1
theorem dX5_hearAppeals_28 : decode cX5_hearAppeals 28 = .ok (.aload_n 0, 1) := dG_dX5_hearAppeals_14.2.2.2.2.2.2.2.2.1
theorem dX5_hearAppeals_29 : decode cX5_hearAppeals 29 = .ok (.getfield 15, 3) := dG_dX5_hearAppeals_14.2.2.2.2.2.2.2.2.2.1
theorem dX5_hearAppeals_32 : decode cX5_hearAppeals 32 = .ok (.iload_n 2, 1) := dG_dX5_hearAppeals_14.2.2.2.2.2.2.2.2.2.2.1
theorem dX5_hearAppeals_33 : decode cX5_hearAppeals 33 = .ok (.iconst (-1), 1) := dG_dX5_hearAppeals_14.2.2.2.2.2.2.2.2.2.2.2
theorem dG_dX5_hearAppeals_34 : (decode cX5_hearAppeals 34 = .ok (.iastore, 1)) ∧ (decode cX5_hearAppeals 35 = .ok (.iinc 2 1, 3)) ∧ (decode cX5_hearAppeals 38 = .ok (.goto (-36), 3)) ∧ (decode cX5_hearAppeals 41 = .ok (.iconst 0, 1)) ∧ (decode cX5_hearAppeals 42 = .ok (.istore_n 2, 1)) ∧ (decode cX5_hearAppeals 43 = .ok (.iload_n 2, 1)) ∧ (decode cX5_hearAppeals 44 = .ok (.aload_n 0, 1)) ∧ (decode cX5_hearAppeals 45 = .ok (.getfield 59, 3)) ∧ (decode cX5_hearAppeals 48 = .ok (.getfield 98, 3)) ∧ (decode cX5_hearAppeals 51 = .ok (.if_icmp .ge 80, 3)) ∧ (decode cX5_hearAppeals 54 = .ok (.aload_n 0, 1)) ∧ (decode cX5_hearAppeals 55 = .ok (.getfield 59, 3)) := by decide +kernel
theorem dX5_hearAppeals_34 : decode cX5_hearAppeals 34 = .ok (.iastore, 1) := dG_dX5_hearAppeals_34.1
theorem dX5_hearAppeals_35 : decode cX5_hearAppeals 35 = .ok (.iinc 2 1, 3) := dG_dX5_hearAppeals_34.2.1
theorem dX5_hearAppeals_38 : decode cX5_hearAppeals 38 = .ok (.goto (-36), 3) := dG_dX5_hearAppeals_34.2.2.1
theorem dX5_hearAppeals_41 : decode cX5_hearAppeals 41 = .ok (.iconst 0, 1) := dG_dX5_hearAppeals_34.2.2.2.1
theorem dX5_hearAppeals_42 : decode cX5_hearAppeals 42 = .ok (.istore_n 2, 1) := dG_dX5_hearAppeals_34.2.2.2.2.1
theorem dX5_hearAppeals_43 : decode cX5_hearAppeals 43 = .ok (.iload_n 2, 1) := dG_dX5_hearAppeals_34.2.2.2.2.2.1
theorem dX5_hearAppeals_44 : decode cX5_hearAppeals 44 = .ok (.aload_n 0, 1) := dG_dX5_hearAppeals_34.2.2.2.2.2.2.1
theorem dX5_hearAppeals_45 : decode cX5_hearAppeals 45 = .ok (.getfield 59, 3) := dG_dX5_hearAppeals_34.2.2.2.2.2.2.2.1
theorem dX5_hearAppeals_48 : decode cX5_hearAppeals 48 = .ok (.getfield 98, 3) := dG_dX5_hearAppeals_34.2.2.2.2.2.2.2.2.1
theorem dX5_hearAppeals_51 : decode cX5_hearAppeals 51 = .ok (.if_icmp .ge 80, 3) := dG_dX5_hearAppeals_34.2.2.2.2.2.2.2.2.2.1
theorem dX5_hearAppeals_54 : decode cX5_hearAppeals 54 = .ok (.aload_n 0, 1) := dG_dX5_hearAppeals_34.2.2.2.2.2.2.2.2.2.2.1
theorem dX5_hearAppeals_55 : decode cX5_hearAppeals 55 = .ok (.getfield 59, 3) := dG_dX5_hearAppeals_34.2.2.2.2.2.2.2.2.2.2.2
theorem dG_dX5_hearAppeals_58 : (decode cX5_hearAppeals 58 = .ok (.getfield 101, 3)) ∧ (decode cX5_hearAppeals 61 = .ok (.iload_n 2, 1)) ∧ (decode cX5_hearAppeals 62 = .ok (.iaload, 1)) ∧ (decode cX5_hearAppeals 63 = .ok (.istore_n 3, 1)) ∧ (decode cX5_hearAppeals 64 = .ok (.aload_n 0, 1)) ∧ (decode cX5_hearAppeals 65 = .ok (.getfield 59, 3)) ∧ (decode cX5_hearAppeals 68 = .ok (.getfield 104, 3)) ∧ (decode cX5_hearAppeals 71 = .ok (.iload_n 2, 1)) ∧ (decode cX5_hearAppeals 72 = .ok (.iaload, 1)) ∧ (decode cX5_hearAppeals 73 = .ok (.iload_n 1, 1)) ∧ (decode cX5_hearAppeals 74 = .ok (.if_icmp .gt 51, 3)) ∧ (decode cX5_hearAppeals 77 = .ok (.aload_n 0, 1)) := by decide +kernel
theorem dX5_hearAppeals_58 : decode cX5_hearAppeals 58 = .ok (.getfield 101, 3) := dG_dX5_hearAppeals_58.1
theorem dX5_hearAppeals_61 : decode cX5_hearAppeals 61 = .ok (.iload_n 2, 1) := dG_dX5_hearAppeals_58.2.1
theorem dX5_hearAppeals_62 : decode cX5_hearAppeals 62 = .ok (.iaload, 1) := dG_dX5_hearAppeals_58.2.2.1
theorem dX5_hearAppeals_63 : decode cX5_hearAppeals 63 = .ok (.istore_n 3, 1) := dG_dX5_hearAppeals_58.2.2.2.1
theorem dX5_hearAppeals_64 : decode cX5_hearAppeals 64 = .ok (.aload_n 0, 1) := dG_dX5_hearAppeals_58.2.2.2.2.1
theorem dX5_hearAppeals_65 : decode cX5_hearAppeals 65 = .ok (.getfield 59, 3) := dG_dX5_hearAppeals_58.2.2.2.2.2.1
theorem dX5_hearAppeals_68 : decode cX5_hearAppeals 68 = .ok (.getfield 104, 3) := dG_dX5_hearAppeals_58.2.2.2.2.2.2.1
theorem dX5_hearAppeals_71 : decode cX5_hearAppeals 71 = .ok (.iload_n 2, 1) := dG_dX5_hearAppeals_58.2.2.2.2.2.2.2.1
theorem dX5_hearAppeals_72 : decode cX5_hearAppeals 72 = .ok (.iaload, 1) := dG_dX5_hearAppeals_58.2.2.2.2.2.2.2.2.1
theorem dX5_hearAppeals_73 : decode cX5_hearAppeals 73 = .ok (.iload_n 1, 1) := dG_dX5_hearAppeals_58.2.2.2.2.2.2.2.2.2.1
theorem dX5_hearAppeals_74 : decode cX5_hearAppeals 74 = .ok (.if_icmp .gt 51, 3) := dG_dX5_hearAppeals_58.2.2.2.2.2.2.2.2.2.2.1
theorem dX5_hearAppeals_77 : decode cX5_hearAppeals 77 = .ok (.aload_n 0, 1) := dG_dX5_hearAppeals_58.2.2.2.2.2.2.2.2.2.2.2
theorem dG_dX5_hearAppeals_78 : (decode cX5_hearAppeals 78 = .ok (.getfield 59, 3)) ∧ (decode cX5_hearAppeals 81 = .ok (.getfield 104, 3)) ∧ (decode cX5_hearAppeals 84 = .ok (.iload_n 2, 1)) ∧ (decode cX5_hearAppeals 85 = .ok (.iaload, 1)) ∧ (decode cX5_hearAppeals 86 = .ok (.aload_n 0, 1)) ∧ (decode cX5_hearAppeals 87 = .ok (.getfield 15, 3)) ∧ (decode cX5_hearAppeals 90 = .ok (.iload_n 3, 1)) ∧ (decode cX5_hearAppeals 91 = .ok (.iaload, 1)) ∧ (decode cX5_hearAppeals 92 = .ok (.if_icmp .lt 33, 3)) ∧ (decode cX5_hearAppeals 95 = .ok (.aload_n 0, 1)) ∧ (decode cX5_hearAppeals 96 = .ok (.getfield 9, 3)) ∧ (decode cX5_hearAppeals 99 = .ok (.iload_n 3, 1)) := by decide +kernel
theorem dX5_hearAppeals_78 : decode cX5_hearAppeals 78 = .ok (.getfield 59, 3) := dG_dX5_hearAppeals_78.1
theorem dX5_hearAppeals_81 : decode cX5_hearAppeals 81 = .ok (.getfield 104, 3) := dG_dX5_hearAppeals_78.2.1
theorem dX5_hearAppeals_84 : decode cX5_hearAppeals 84 = .ok (.iload_n 2, 1) := dG_dX5_hearAppeals_78.2.2.1
theorem dX5_hearAppeals_85 : decode cX5_hearAppeals 85 = .ok (.iaload, 1) := dG_dX5_hearAppeals_78.2.2.2.1
theorem dX5_hearAppeals_86 : decode cX5_hearAppeals 86 = .ok (.aload_n 0, 1) := dG_dX5_hearAppeals_78.2.2.2.2.1
theorem dX5_hearAppeals_87 : decode cX5_hearAppeals 87 = .ok (.getfield 15, 3) := dG_dX5_hearAppeals_78.2.2.2.2.2.1
theorem dX5_hearAppeals_90 : decode cX5_hearAppeals 90 = .ok (.iload_n 3, 1) := dG_dX5_hearAppeals_78.2.2.2.2.2.2.1
theorem dX5_hearAppeals_91 : decode cX5_hearAppeals 91 = .ok (.iaload, 1) := dG_dX5_hearAppeals_78.2.2.2.2.2.2.2.1
theorem dX5_hearAppeals_92 : decode cX5_hearAppeals 92 = .ok (.if_icmp .lt 33, 3) := dG_dX5_hearAppeals_78.2.2.2.2.2.2.2.2.1
theorem dX5_hearAppeals_95 : decode cX5_hearAppeals 95 = .ok (.aload_n 0, 1) := dG_dX5_hearAppeals_78.2.2.2.2.2.2.2.2.2.1
theorem dX5_hearAppeals_96 : decode cX5_hearAppeals 96 = .ok (.getfield 9, 3) := dG_dX5_hearAppeals_78.2.2.2.2.2.2.2.2.2.2.1
theorem dX5_hearAppeals_99 : decode cX5_hearAppeals 99 = .ok (.iload_n 3, 1) := dG_dX5_hearAppeals_78.2.2.2.2.2.2.2.2.2.2.2
theorem dG_dX5_hearAppeals_100 : (decode cX5_hearAppeals 100 = .ok (.aload_n 0, 1)) ∧ (decode cX5_hearAppeals 101 = .ok (.getfield 59, 3)) ∧ (decode cX5_hearAppeals 104 = .ok (.getfield 107, 3)) ∧ (decode cX5_hearAppeals 107 = .ok (.iload_n 2, 1)) ∧ (decode cX5_hearAppeals 108 = .ok (.iaload, 1)) ∧ (decode cX5_hearAppeals 109 = .ok (.iastore, 1)) ∧ (decode cX5_hearAppeals 110 = .ok (.aload_n 0, 1)) ∧ (decode cX5_hearAppeals 111 = .ok (.getfield 15, 3)) ∧ (decode cX5_hearAppeals 114 = .ok (.iload_n 3, 1)) ∧ (decode cX5_hearAppeals 115 = .ok (.aload_n 0, 1)) ∧ (decode cX5_hearAppeals 116 = .ok (.getfield 59, 3)) ∧ (decode cX5_hearAppeals 119 = .ok (.getfield 104, 3)) := by decide +kernel
theorem dX5_hearAppeals_100 : decode cX5_hearAppeals 100 = .ok (.aload_n 0, 1) := dG_dX5_hearAppeals_100.1
theorem dX5_hearAppeals_101 : decode cX5_hearAppeals 101 = .ok (.getfield 59, 3) := dG_dX5_hearAppeals_100.2.1
theorem dX5_hearAppeals_104 : decode cX5_hearAppeals 104 = .ok (.getfield 107, 3) := dG_dX5_hearAppeals_100.2.2.1
theorem dX5_hearAppeals_107 : decode cX5_hearAppeals 107 = .ok (.iload_n 2, 1) := dG_dX5_hearAppeals_100.2.2.2.1
theorem dX5_hearAppeals_108 : decode cX5_hearAppeals 108 = .ok (.iaload, 1) := dG_dX5_hearAppeals_100.2.2.2.2.1
theorem dX5_hearAppeals_109 : decode cX5_hearAppeals 109 = .ok (.iastore, 1) := dG_dX5_hearAppeals_100.2.2.2.2.2.1
theorem dX5_hearAppeals_110 : decode cX5_hearAppeals 110 = .ok (.aload_n 0, 1) := dG_dX5_hearAppeals_100.2.2.2.2.2.2.1
theorem dX5_hearAppeals_111 : decode cX5_hearAppeals 111 = .ok (.getfield 15, 3) := dG_dX5_hearAppeals_100.2.2.2.2.2.2.2.1
theorem dX5_hearAppeals_114 : decode cX5_hearAppeals 114 = .ok (.iload_n 3, 1) := dG_dX5_hearAppeals_100.2.2.2.2.2.2.2.2.1
theorem dX5_hearAppeals_115 : decode cX5_hearAppeals 115 = .ok (.aload_n 0, 1) := dG_dX5_hearAppeals_100.2.2.2.2.2.2.2.2.2.1
theorem dX5_hearAppeals_116 : decode cX5_hearAppeals 116 = .ok (.getfield 59, 3) := dG_dX5_hearAppeals_100.2.2.2.2.2.2.2.2.2.2.1
theorem dX5_hearAppeals_119 : decode cX5_hearAppeals 119 = .ok (.getfield 104, 3) := dG_dX5_hearAppeals_100.2.2.2.2.2.2.2.2.2.2.2
theorem dG_dX5_hearAppeals_122 : (decode cX5_hearAppeals 122 = .ok (.iload_n 2, 1)) ∧ (decode cX5_hearAppeals 123 = .ok (.iaload, 1)) ∧ (decode cX5_hearAppeals 124 = .ok (.iastore, 1)) ∧ (decode cX5_hearAppeals 125 = .ok (.iinc 2 1, 3)) ∧ (decode cX5_hearAppeals 128 = .ok (.goto (-85), 3)) ∧ (decode cX5_hearAppeals 131 = .ok (.return_, 1)) ∧ (decode cX5_workFacts 0 = .ok (.aload_n 0, 1)) ∧ (decode cX5_workFacts 1 = .ok (.getfield 27, 3)) ∧ (decode cX5_workFacts 4 = .ok (.iconst 0, 1)) ∧ (decode cX5_workFacts 5 = .ok (.invokestatic 67, 3)) ∧ (decode cX5_workFacts 8 = .ok (.iload_n 1, 1)) ∧ (decode cX5_workFacts 9 = .ok (.iload_n 2, 1)) := by decide +kernel
theorem dX5_hearAppeals_122 : decode cX5_hearAppeals 122 = .ok (.iload_n 2, 1) := dG_dX5_hearAppeals_122.1
theorem dX5_hearAppeals_123 : decode cX5_hearAppeals 123 = .ok (.iaload, 1) := dG_dX5_hearAppeals_122.2.1
theorem dX5_hearAppeals_124 : decode cX5_hearAppeals 124 = .ok (.iastore, 1) := dG_dX5_hearAppeals_122.2.2.1
theorem dX5_hearAppeals_125 : decode cX5_hearAppeals 125 = .ok (.iinc 2 1, 3) := dG_dX5_hearAppeals_122.2.2.2.1
theorem dX5_hearAppeals_128 : decode cX5_hearAppeals 128 = .ok (.goto (-85), 3) := dG_dX5_hearAppeals_122.2.2.2.2.1
theorem dX5_hearAppeals_131 : decode cX5_hearAppeals 131 = .ok (.return_, 1) := dG_dX5_hearAppeals_122.2.2.2.2.2.1
theorem dX5_workFacts_0 : decode cX5_workFacts 0 = .ok (.aload_n 0, 1) := dG_dX5_hearAppeals_122.2.2.2.2.2.2.1
theorem dX5_workFacts_1 : decode cX5_workFacts 1 = .ok (.getfield 27, 3) := dG_dX5_hearAppeals_122.2.2.2.2.2.2.2.1
theorem dX5_workFacts_4 : decode cX5_workFacts 4 = .ok (.iconst 0, 1) := dG_dX5_hearAppeals_122.2.2.2.2.2.2.2.2.1
theorem dX5_workFacts_5 : decode cX5_workFacts 5 = .ok (.invokestatic 67, 3) := dG_dX5_hearAppeals_122.2.2.2.2.2.2.2.2.2.1
theorem dX5_workFacts_8 : decode cX5_workFacts 8 = .ok (.iload_n 1, 1) := dG_dX5_hearAppeals_122.2.2.2.2.2.2.2.2.2.2.1
theorem dX5_workFacts_9 : decode cX5_workFacts 9 = .ok (.iload_n 2, 1) := dG_dX5_hearAppeals_122.2.2.2.2.2.2.2.2.2.2.2
theorem dG_dX5_workFacts_10 : (decode cX5_workFacts 10 = .ok (.iload_n 3, 1)) ∧ (decode cX5_workFacts 11 = .ok (.invokestatic 91, 3)) ∧ (decode cX5_workFacts 14 = .ok (.istore 4, 2)) ∧ (decode cX5_workFacts 16 = .ok (.aload_n 0, 1)) ∧ (decode cX5_workFacts 17 = .ok (.getfield 18, 3)) ∧ (decode cX5_workFacts 20 = .ok (.iload 4, 2)) ∧ (decode cX5_workFacts 22 = .ok (.iaload, 1)) ∧ (decode cX5_workFacts 23 = .ok (.ifCond .ne 4, 3)) ∧ (decode cX5_workFacts 26 = .ok (.return_, 1)) ∧ (decode cX5_workFacts 27 = .ok (.aload_n 0, 1)) ∧ (decode cX5_workFacts 28 = .ok (.getfield 21, 3)) ∧ (decode cX5_workFacts 31 = .ok (.iload 4, 2)) := by decide +kernel
theorem dX5_workFacts_10 : decode cX5_workFacts 10 = .ok (.iload_n 3, 1) := dG_dX5_workFacts_10.1
theorem dX5_workFacts_11 : decode cX5_workFacts 11 = .ok (.invokestatic 91, 3) := dG_dX5_workFacts_10.2.1
theorem dX5_workFacts_14 : decode cX5_workFacts 14 = .ok (.istore 4, 2) := dG_dX5_workFacts_10.2.2.1
theorem dX5_workFacts_16 : decode cX5_workFacts 16 = .ok (.aload_n 0, 1) := dG_dX5_workFacts_10.2.2.2.1
theorem dX5_workFacts_17 : decode cX5_workFacts 17 = .ok (.getfield 18, 3) := dG_dX5_workFacts_10.2.2.2.2.1
theorem dX5_workFacts_20 : decode cX5_workFacts 20 = .ok (.iload 4, 2) := dG_dX5_workFacts_10.2.2.2.2.2.1
theorem dX5_workFacts_22 : decode cX5_workFacts 22 = .ok (.iaload, 1) := dG_dX5_workFacts_10.2.2.2.2.2.2.1
theorem dX5_workFacts_23 : decode cX5_workFacts 23 = .ok (.ifCond .ne 4, 3) := dG_dX5_workFacts_10.2.2.2.2.2.2.2.1
theorem dX5_workFacts_26 : decode cX5_workFacts 26 = .ok (.return_, 1) := dG_dX5_workFacts_10.2.2.2.2.2.2.2.2.1
theorem dX5_workFacts_27 : decode cX5_workFacts 27 = .ok (.aload_n 0, 1) := dG_dX5_workFacts_10.2.2.2.2.2.2.2.2.2.1
theorem dX5_workFacts_28 : decode cX5_workFacts 28 = .ok (.getfield 21, 3) := dG_dX5_workFacts_10.2.2.2.2.2.2.2.2.2.2.1
theorem dX5_workFacts_31 : decode cX5_workFacts 31 = .ok (.iload 4, 2) := dG_dX5_workFacts_10.2.2.2.2.2.2.2.2.2.2.2
theorem dG_dX5_workFacts_33 : (decode cX5_workFacts 33 = .ok (.iaload, 1)) ∧ (decode cX5_workFacts 34 = .ok (.istore 5, 2)) ∧ (decode cX5_workFacts 36 = .ok (.aload_n 0, 1)) ∧ (decode cX5_workFacts 37 = .ok (.getfield 9, 3)) ∧ (decode cX5_workFacts 40 = .ok (.iload 5, 2)) ∧ (decode cX5_workFacts 42 = .ok (.iaload, 1)) ∧ (decode cX5_workFacts 43 = .ok (.istore 6, 2)) ∧ (decode cX5_workFacts 45 = .ok (.iload 6, 2)) ∧ (decode cX5_workFacts 47 = .ok (.aload_n 0, 1)) ∧ (decode cX5_workFacts 48 = .ok (.getfield 47, 3)) ∧ (decode cX5_workFacts 51 = .ok (.iload_n 1, 1)) ∧ (decode cX5_workFacts 52 = .ok (.iload_n 3, 1)) := by decide +kernel
theorem dX5_workFacts_33 : decode cX5_workFacts 33 = .ok (.iaload, 1) := dG_dX5_workFacts_33.1
theorem dX5_workFacts_34 : decode cX5_workFacts 34 = .ok (.istore 5, 2) := dG_dX5_workFacts_33.2.1
theorem dX5_workFacts_36 : decode cX5_workFacts 36 = .ok (.aload_n 0, 1) := dG_dX5_workFacts_33.2.2.1
theorem dX5_workFacts_37 : decode cX5_workFacts 37 = .ok (.getfield 9, 3) := dG_dX5_workFacts_33.2.2.2.1
theorem dX5_workFacts_40 : decode cX5_workFacts 40 = .ok (.iload 5, 2) := dG_dX5_workFacts_33.2.2.2.2.1
theorem dX5_workFacts_42 : decode cX5_workFacts 42 = .ok (.iaload, 1) := dG_dX5_workFacts_33.2.2.2.2.2.1
theorem dX5_workFacts_43 : decode cX5_workFacts 43 = .ok (.istore 6, 2) := dG_dX5_workFacts_33.2.2.2.2.2.2.1
theorem dX5_workFacts_45 : decode cX5_workFacts 45 = .ok (.iload 6, 2) := dG_dX5_workFacts_33.2.2.2.2.2.2.2.1
theorem dX5_workFacts_47 : decode cX5_workFacts 47 = .ok (.aload_n 0, 1) := dG_dX5_workFacts_33.2.2.2.2.2.2.2.2.1
theorem dX5_workFacts_48 : decode cX5_workFacts 48 = .ok (.getfield 47, 3) := dG_dX5_workFacts_33.2.2.2.2.2.2.2.2.2.1
theorem dX5_workFacts_51 : decode cX5_workFacts 51 = .ok (.iload_n 1, 1) := dG_dX5_workFacts_33.2.2.2.2.2.2.2.2.2.2.1
theorem dX5_workFacts_52 : decode cX5_workFacts 52 = .ok (.iload_n 3, 1) := dG_dX5_workFacts_33.2.2.2.2.2.2.2.2.2.2.2
theorem dG_dX5_workFacts_53 : (decode cX5_workFacts 53 = .ok (.invokevirtual 108, 3)) ∧ (decode cX5_workFacts 56 = .ok (.if_icmp .ne 7, 3)) ∧ (decode cX5_workFacts 59 = .ok (.iconst 1, 1)) ∧ (decode cX5_workFacts 60 = .ok (.goto 4, 3)) ∧ (decode cX5_workFacts 63 = .ok (.iconst 0, 1)) ∧ (decode cX5_workFacts 64 = .ok (.istore 7, 2)) ∧ (decode cX5_workFacts 66 = .ok (.aload_n 0, 1)) ∧ (decode cX5_workFacts 67 = .ok (.getfield 27, 3)) ∧ (decode cX5_workFacts 70 = .ok (.iconst 0, 1)) ∧ (decode cX5_workFacts 71 = .ok (.iload 7, 2)) ∧ (decode cX5_workFacts 73 = .ok (.ifCond .eq 7, 3)) ∧ (decode cX5_workFacts 76 = .ok (.iconst 1, 1)) := by decide +kernel
theorem dX5_workFacts_53 : decode cX5_workFacts 53 = .ok (.invokevirtual 108, 3) := dG_dX5_workFacts_53.1
theorem dX5_workFacts_56 : decode cX5_workFacts 56 = .ok (.if_icmp .ne 7, 3) := dG_dX5_workFacts_53.2.1
theorem dX5_workFacts_59 : decode cX5_workFacts 59 = .ok (.iconst 1, 1) := dG_dX5_workFacts_53.2.2.1
theorem dX5_workFacts_60 : decode cX5_workFacts 60 = .ok (.goto 4, 3) := dG_dX5_workFacts_53.2.2.2.1
theorem dX5_workFacts_63 : decode cX5_workFacts 63 = .ok (.iconst 0, 1) := dG_dX5_workFacts_53.2.2.2.2.1
theorem dX5_workFacts_64 : decode cX5_workFacts 64 = .ok (.istore 7, 2) := dG_dX5_workFacts_53.2.2.2.2.2.1
theorem dX5_workFacts_66 : decode cX5_workFacts 66 = .ok (.aload_n 0, 1) := dG_dX5_workFacts_53.2.2.2.2.2.2.1
theorem dX5_workFacts_67 : decode cX5_workFacts 67 = .ok (.getfield 27, 3) := dG_dX5_workFacts_53.2.2.2.2.2.2.2.1
theorem dX5_workFacts_70 : decode cX5_workFacts 70 = .ok (.iconst 0, 1) := dG_dX5_workFacts_53.2.2.2.2.2.2.2.2.1
theorem dX5_workFacts_71 : decode cX5_workFacts 71 = .ok (.iload 7, 2) := dG_dX5_workFacts_53.2.2.2.2.2.2.2.2.2.1
theorem dX5_workFacts_73 : decode cX5_workFacts 73 = .ok (.ifCond .eq 7, 3) := dG_dX5_workFacts_53.2.2.2.2.2.2.2.2.2.2.1
theorem dX5_workFacts_76 : decode cX5_workFacts 76 = .ok (.iconst 1, 1) := dG_dX5_workFacts_53.2.2.2.2.2.2.2.2.2.2.2
theorem dG_dX5_workFacts_77 : (decode cX5_workFacts 77 = .ok (.goto 4, 3)) ∧ (decode cX5_workFacts 80 = .ok (.iconst 0, 1)) ∧ (decode cX5_workFacts 81 = .ok (.iastore, 1)) ∧ (decode cX5_workFacts 82 = .ok (.aload_n 0, 1)) ∧ (decode cX5_workFacts 83 = .ok (.getfield 27, 3)) ∧ (decode cX5_workFacts 86 = .ok (.iconst 1, 1)) ∧ (decode cX5_workFacts 87 = .ok (.aload_n 0, 1)) ∧ (decode cX5_workFacts 88 = .ok (.getfield 47, 3)) ∧ (decode cX5_workFacts 91 = .ok (.iload_n 1, 1)) ∧ (decode cX5_workFacts 92 = .ok (.iload_n 3, 1)) ∧ (decode cX5_workFacts 93 = .ok (.iload 6, 2)) ∧ (decode cX5_workFacts 95 = .ok (.invokevirtual 114, 3)) := by decide +kernel
theorem dX5_workFacts_77 : decode cX5_workFacts 77 = .ok (.goto 4, 3) := dG_dX5_workFacts_77.1
theorem dX5_workFacts_80 : decode cX5_workFacts 80 = .ok (.iconst 0, 1) := dG_dX5_workFacts_77.2.1
theorem dX5_workFacts_81 : decode cX5_workFacts 81 = .ok (.iastore, 1) := dG_dX5_workFacts_77.2.2.1
theorem dX5_workFacts_82 : decode cX5_workFacts 82 = .ok (.aload_n 0, 1) := dG_dX5_workFacts_77.2.2.2.1
theorem dX5_workFacts_83 : decode cX5_workFacts 83 = .ok (.getfield 27, 3) := dG_dX5_workFacts_77.2.2.2.2.1
theorem dX5_workFacts_86 : decode cX5_workFacts 86 = .ok (.iconst 1, 1) := dG_dX5_workFacts_77.2.2.2.2.2.1
theorem dX5_workFacts_87 : decode cX5_workFacts 87 = .ok (.aload_n 0, 1) := dG_dX5_workFacts_77.2.2.2.2.2.2.1
theorem dX5_workFacts_88 : decode cX5_workFacts 88 = .ok (.getfield 47, 3) := dG_dX5_workFacts_77.2.2.2.2.2.2.2.1
theorem dX5_workFacts_91 : decode cX5_workFacts 91 = .ok (.iload_n 1, 1) := dG_dX5_workFacts_77.2.2.2.2.2.2.2.2.1
theorem dX5_workFacts_92 : decode cX5_workFacts 92 = .ok (.iload_n 3, 1) := dG_dX5_workFacts_77.2.2.2.2.2.2.2.2.2.1
theorem dX5_workFacts_93 : decode cX5_workFacts 93 = .ok (.iload 6, 2) := dG_dX5_workFacts_77.2.2.2.2.2.2.2.2.2.2.1
theorem dX5_workFacts_95 : decode cX5_workFacts 95 = .ok (.invokevirtual 114, 3) := dG_dX5_workFacts_77.2.2.2.2.2.2.2.2.2.2.2
theorem dG_dX5_workFacts_98 : (decode cX5_workFacts 98 = .ok (.iastore, 1)) ∧ (decode cX5_workFacts 99 = .ok (.aload_n 0, 1)) ∧ (decode cX5_workFacts 100 = .ok (.getfield 27, 3)) ∧ (decode cX5_workFacts 103 = .ok (.iconst 2, 1)) ∧ (decode cX5_workFacts 104 = .ok (.iload 6, 2)) ∧ (decode cX5_workFacts 106 = .ok (.iastore, 1)) ∧ (decode cX5_workFacts 107 = .ok (.aload_n 0, 1)) ∧ (decode cX5_workFacts 108 = .ok (.getfield 27, 3)) ∧ (decode cX5_workFacts 111 = .ok (.iconst 3, 1)) ∧ (decode cX5_workFacts 112 = .ok (.aload_n 0, 1)) ∧ (decode cX5_workFacts 113 = .ok (.getfield 24, 3)) ∧ (decode cX5_workFacts 116 = .ok (.iload 4, 2)) := by decide +kernel
theorem dX5_workFacts_98 : decode cX5_workFacts 98 = .ok (.iastore, 1) := dG_dX5_workFacts_98.1
theorem dX5_workFacts_99 : decode cX5_workFacts 99 = .ok (.aload_n 0, 1) := dG_dX5_workFacts_98.2.1
theorem dX5_workFacts_100 : decode cX5_workFacts 100 = .ok (.getfield 27, 3) := dG_dX5_workFacts_98.2.2.1
theorem dX5_workFacts_103 : decode cX5_workFacts 103 = .ok (.iconst 2, 1) := dG_dX5_workFacts_98.2.2.2.1
theorem dX5_workFacts_104 : decode cX5_workFacts 104 = .ok (.iload 6, 2) := dG_dX5_workFacts_98.2.2.2.2.1
theorem dX5_workFacts_106 : decode cX5_workFacts 106 = .ok (.iastore, 1) := dG_dX5_workFacts_98.2.2.2.2.2.1
theorem dX5_workFacts_107 : decode cX5_workFacts 107 = .ok (.aload_n 0, 1) := dG_dX5_workFacts_98.2.2.2.2.2.2.1
theorem dX5_workFacts_108 : decode cX5_workFacts 108 = .ok (.getfield 27, 3) := dG_dX5_workFacts_98.2.2.2.2.2.2.2.1
theorem dX5_workFacts_111 : decode cX5_workFacts 111 = .ok (.iconst 3, 1) := dG_dX5_workFacts_98.2.2.2.2.2.2.2.2.1
theorem dX5_workFacts_112 : decode cX5_workFacts 112 = .ok (.aload_n 0, 1) := dG_dX5_workFacts_98.2.2.2.2.2.2.2.2.2.1
theorem dX5_workFacts_113 : decode cX5_workFacts 113 = .ok (.getfield 24, 3) := dG_dX5_workFacts_98.2.2.2.2.2.2.2.2.2.2.1
theorem dX5_workFacts_116 : decode cX5_workFacts 116 = .ok (.iload 4, 2) := dG_dX5_workFacts_98.2.2.2.2.2.2.2.2.2.2.2
theorem dG_dX5_workFacts_118 : (decode cX5_workFacts 118 = .ok (.iaload, 1)) ∧ (decode cX5_workFacts 119 = .ok (.iastore, 1)) ∧ (decode cX5_workFacts 120 = .ok (.aload_n 0, 1)) ∧ (decode cX5_workFacts 121 = .ok (.getfield 27, 3)) ∧ (decode cX5_workFacts 124 = .ok (.iconst 4, 1)) ∧ (decode cX5_workFacts 125 = .ok (.aload_n 0, 1)) ∧ (decode cX5_workFacts 126 = .ok (.getfield 55, 3)) ∧ (decode cX5_workFacts 129 = .ok (.getfield 79, 3)) ∧ (decode cX5_workFacts 132 = .ok (.iload 5, 2)) ∧ (decode cX5_workFacts 134 = .ok (.iaload, 1)) ∧ (decode cX5_workFacts 135 = .ok (.ifCond .ne 7, 3)) ∧ (decode cX5_workFacts 138 = .ok (.iconst 0, 1)) := by decide +kernel
theorem dX5_workFacts_118 : decode cX5_workFacts 118 = .ok (.iaload, 1) := dG_dX5_workFacts_118.1
theorem dX5_workFacts_119 : decode cX5_workFacts 119 = .ok (.iastore, 1) := dG_dX5_workFacts_118.2.1
theorem dX5_workFacts_120 : decode cX5_workFacts 120 = .ok (.aload_n 0, 1) := dG_dX5_workFacts_118.2.2.1
theorem dX5_workFacts_121 : decode cX5_workFacts 121 = .ok (.getfield 27, 3) := dG_dX5_workFacts_118.2.2.2.1
theorem dX5_workFacts_124 : decode cX5_workFacts 124 = .ok (.iconst 4, 1) := dG_dX5_workFacts_118.2.2.2.2.1
theorem dX5_workFacts_125 : decode cX5_workFacts 125 = .ok (.aload_n 0, 1) := dG_dX5_workFacts_118.2.2.2.2.2.1
theorem dX5_workFacts_126 : decode cX5_workFacts 126 = .ok (.getfield 55, 3) := dG_dX5_workFacts_118.2.2.2.2.2.2.1
theorem dX5_workFacts_129 : decode cX5_workFacts 129 = .ok (.getfield 79, 3) := dG_dX5_workFacts_118.2.2.2.2.2.2.2.1
theorem dX5_workFacts_132 : decode cX5_workFacts 132 = .ok (.iload 5, 2) := dG_dX5_workFacts_118.2.2.2.2.2.2.2.2.1
theorem dX5_workFacts_134 : decode cX5_workFacts 134 = .ok (.iaload, 1) := dG_dX5_workFacts_118.2.2.2.2.2.2.2.2.2.1
theorem dX5_workFacts_135 : decode cX5_workFacts 135 = .ok (.ifCond .ne 7, 3) := dG_dX5_workFacts_118.2.2.2.2.2.2.2.2.2.2.1
theorem dX5_workFacts_138 : decode cX5_workFacts 138 = .ok (.iconst 0, 1) := dG_dX5_workFacts_118.2.2.2.2.2.2.2.2.2.2.2
theorem dG_dX5_workFacts_139 : (decode cX5_workFacts 139 = .ok (.goto 24, 3)) ∧ (decode cX5_workFacts 142 = .ok (.aload_n 0, 1)) ∧ (decode cX5_workFacts 143 = .ok (.getfield 55, 3)) ∧ (decode cX5_workFacts 146 = .ok (.getfield 117, 3)) ∧ (decode cX5_workFacts 149 = .ok (.iload 5, 2)) ∧ (decode cX5_workFacts 151 = .ok (.iaload, 1)) ∧ (decode cX5_workFacts 152 = .ok (.aload_n 0, 1)) ∧ (decode cX5_workFacts 153 = .ok (.getfield 55, 3)) ∧ (decode cX5_workFacts 156 = .ok (.getfield 120, 3)) ∧ (decode cX5_workFacts 159 = .ok (.iload 5, 2)) ∧ (decode cX5_workFacts 161 = .ok (.iaload, 1)) ∧ (decode cX5_workFacts 162 = .ok (.isub, 1)) := by decide +kernel
theorem dX5_workFacts_139 : decode cX5_workFacts 139 = .ok (.goto 24, 3) := dG_dX5_workFacts_139.1
theorem dX5_workFacts_142 : decode cX5_workFacts 142 = .ok (.aload_n 0, 1) := dG_dX5_workFacts_139.2.1
theorem dX5_workFacts_143 : decode cX5_workFacts 143 = .ok (.getfield 55, 3) := dG_dX5_workFacts_139.2.2.1
theorem dX5_workFacts_146 : decode cX5_workFacts 146 = .ok (.getfield 117, 3) := dG_dX5_workFacts_139.2.2.2.1
theorem dX5_workFacts_149 : decode cX5_workFacts 149 = .ok (.iload 5, 2) := dG_dX5_workFacts_139.2.2.2.2.1
theorem dX5_workFacts_151 : decode cX5_workFacts 151 = .ok (.iaload, 1) := dG_dX5_workFacts_139.2.2.2.2.2.1
theorem dX5_workFacts_152 : decode cX5_workFacts 152 = .ok (.aload_n 0, 1) := dG_dX5_workFacts_139.2.2.2.2.2.2.1
theorem dX5_workFacts_153 : decode cX5_workFacts 153 = .ok (.getfield 55, 3) := dG_dX5_workFacts_139.2.2.2.2.2.2.2.1
theorem dX5_workFacts_156 : decode cX5_workFacts 156 = .ok (.getfield 120, 3) := dG_dX5_workFacts_139.2.2.2.2.2.2.2.2.1
theorem dX5_workFacts_159 : decode cX5_workFacts 159 = .ok (.iload 5, 2) := dG_dX5_workFacts_139.2.2.2.2.2.2.2.2.2.1
theorem dX5_workFacts_161 : decode cX5_workFacts 161 = .ok (.iaload, 1) := dG_dX5_workFacts_139.2.2.2.2.2.2.2.2.2.2.1
theorem dX5_workFacts_162 : decode cX5_workFacts 162 = .ok (.isub, 1) := dG_dX5_workFacts_139.2.2.2.2.2.2.2.2.2.2.2
theorem dG_dX5_workFacts_163 : (decode cX5_workFacts 163 = .ok (.iastore, 1)) ∧ (decode cX5_workFacts 164 = .ok (.aload_n 0, 1)) ∧ (decode cX5_workFacts 165 = .ok (.getfield 27, 3)) ∧ (decode cX5_workFacts 168 = .ok (.iconst 5, 1)) ∧ (decode cX5_workFacts 169 = .ok (.iload 7, 2)) ∧ (decode cX5_workFacts 171 = .ok (.ifCond .eq 18, 3)) ∧ (decode cX5_workFacts 174 = .ok (.aload_n 0, 1)) ∧ (decode cX5_workFacts 175 = .ok (.getfield 24, 3)) ∧ (decode cX5_workFacts 178 = .ok (.iload 4, 2)) ∧ (decode cX5_workFacts 180 = .ok (.iaload, 1)) ∧ (decode cX5_workFacts 181 = .ok (.iconst 1, 1)) ∧ (decode cX5_workFacts 182 = .ok (.if_icmp .ne 7, 3)) := by decide +kernel
theorem dX5_workFacts_163 : decode cX5_workFacts 163 = .ok (.iastore, 1) := dG_dX5_workFacts_163.1
theorem dX5_workFacts_164 : decode cX5_workFacts 164 = .ok (.aload_n 0, 1) := dG_dX5_workFacts_163.2.1
theorem dX5_workFacts_165 : decode cX5_workFacts 165 = .ok (.getfield 27, 3) := dG_dX5_workFacts_163.2.2.1
theorem dX5_workFacts_168 : decode cX5_workFacts 168 = .ok (.iconst 5, 1) := dG_dX5_workFacts_163.2.2.2.1
theorem dX5_workFacts_169 : decode cX5_workFacts 169 = .ok (.iload 7, 2) := dG_dX5_workFacts_163.2.2.2.2.1
theorem dX5_workFacts_171 : decode cX5_workFacts 171 = .ok (.ifCond .eq 18, 3) := dG_dX5_workFacts_163.2.2.2.2.2.1
theorem dX5_workFacts_174 : decode cX5_workFacts 174 = .ok (.aload_n 0, 1) := dG_dX5_workFacts_163.2.2.2.2.2.2.1
theorem dX5_workFacts_175 : decode cX5_workFacts 175 = .ok (.getfield 24, 3) := dG_dX5_workFacts_163.2.2.2.2.2.2.2.1
theorem dX5_workFacts_178 : decode cX5_workFacts 178 = .ok (.iload 4, 2) := dG_dX5_workFacts_163.2.2.2.2.2.2.2.2.1
theorem dX5_workFacts_180 : decode cX5_workFacts 180 = .ok (.iaload, 1) := dG_dX5_workFacts_163.2.2.2.2.2.2.2.2.2.1
theorem dX5_workFacts_181 : decode cX5_workFacts 181 = .ok (.iconst 1, 1) := dG_dX5_workFacts_163.2.2.2.2.2.2.2.2.2.2.1
theorem dX5_workFacts_182 : decode cX5_workFacts 182 = .ok (.if_icmp .ne 7, 3) := dG_dX5_workFacts_163.2.2.2.2.2.2.2.2.2.2.2
theorem dG_dX5_workFacts_185 : (decode cX5_workFacts 185 = .ok (.iconst 1, 1)) ∧ (decode cX5_workFacts 186 = .ok (.goto 4, 3)) ∧ (decode cX5_workFacts 189 = .ok (.iconst 0, 1)) ∧ (decode cX5_workFacts 190 = .ok (.iastore, 1)) ∧ (decode cX5_workFacts 191 = .ok (.return_, 1)) := by decide +kernel
theorem dX5_workFacts_185 : decode cX5_workFacts 185 = .ok (.iconst 1, 1) := dG_dX5_workFacts_185.1
theorem dX5_workFacts_186 : decode cX5_workFacts 186 = .ok (.goto 4, 3) := dG_dX5_workFacts_185.2.1
theorem dX5_workFacts_189 : decode cX5_workFacts 189 = .ok (.iconst 0, 1) := dG_dX5_workFacts_185.2.2.1
theorem dX5_workFacts_190 : decode cX5_workFacts 190 = .ok (.iastore, 1) := dG_dX5_workFacts_185.2.2.2.1
theorem dX5_workFacts_191 : decode cX5_workFacts 191 = .ok (.return_, 1) := dG_dX5_workFacts_185.2.2.2.2
end

section
set_option maxHeartbeats 4000000 in
set_option maxRecDepth 100000 in
theorem x_La_worked (l : Launch) (D : va_G) (k : Nat → ClassId) (A : Nat → Prop) (ad : Nat → Nat) (hD : rwD A k ad) (v : gV) (f g : gF) (a1 : Int) (a2 : Int) (a3 : Int) (h_a1 : inR a1) : GM l D k A (rwT k ad) yX4_worked cX4_worked 5 (some .long) 0 0 [.int (iI a1), .long (iL a2), .long (iL a3)] v f g (fun r v1 f1 g1 => ∃ (z : Int), r = some (.long (iL z)) ∧ v = v1 ∧ f = f1 ∧ g = g1 ∧ (z = (if a1 = 9 then a2 * a3 else if a1 = 7 then a2 + a3 else a2 - a3))) := by
  refine GM.of (by decide) (Nat.le_of_ble_eq_true rfl) ?_
  intro p e s m args below meth c Q ls hQ C hml hr hlocks hP hl
  have hx := C.1
  have hb := C.2.1
  have hok := hP.2
  have hS : va_S A s.heap s.heap [] := va_S.rf
  have hl : lv_has ls 5 [(0, .int (iI a1)), (1, .long (iL a2)), (3, .long (iL a3))] := hl
  refine lv_iload_n hx hb dX4_worked_0 rfl (lv_at hl 0 rfl) ?_
  refine lv_bipush (v := iI 9) hx hb dX4_worked_1 (by decide) ?_
  refine gi_cne (tgt := 10) hx hb dX4_worked_3 (by decide) (by omega) (by decide) (fun c_1 => ?_) (fun c_1 => ?_)
  · refine lv_iload_n hx hb dX4_worked_10 rfl (lv_at hl 0 rfl) ?_
    refine lv_bipush (v := iI 7) hx hb dX4_worked_11 (by decide) ?_
    refine gi_cne (tgt := 22) hx hb dX4_worked_13 (by decide) (by omega) (by decide) (fun c_2 => ?_) (fun c_2 => ?_)
    · refine lv_lload_n hx hb dX4_worked_22 rfl (lv_at hl 1 rfl) ?_
      refine lv_lload_n hx hb dX4_worked_23 rfl (lv_at hl 2 rfl) ?_
      refine gl_sub (z := (a2 - a3)) hx hb dX4_worked_24 rfl ?_
      exact g_lret hQ C hr hlocks hP hS dX4_worked_25 ⟨(a2 - a3), rfl, rfl, rfl, rfl, (by first | rw [if_pos (by omega)] | rw [if_neg (by omega), if_pos (by omega)] | rw [if_neg (by omega), if_neg (by omega)])⟩
    · refine lv_lload_n hx hb dX4_worked_16 rfl (lv_at hl 1 rfl) ?_
      refine lv_lload_n hx hb dX4_worked_17 rfl (lv_at hl 2 rfl) ?_
      refine gl_add (z := (a2 + a3)) hx hb dX4_worked_18 rfl ?_
      refine lv_goto (tgt := 25) hx hb dX4_worked_19 (by decide) ?_
      exact g_lret hQ C hr hlocks hP hS dX4_worked_25 ⟨(a2 + a3), rfl, rfl, rfl, rfl, (by first | rw [if_pos (by omega)] | rw [if_neg (by omega), if_pos (by omega)] | rw [if_neg (by omega), if_neg (by omega)])⟩
  · refine lv_lload_n hx hb dX4_worked_6 rfl (lv_at hl 1 rfl) ?_
    refine lv_lload_n hx hb dX4_worked_7 rfl (lv_at hl 2 rfl) ?_
    refine gl_mul (z := (a2 * a3)) hx hb dX4_worked_8 rfl ?_
    exact g_lret hQ C hr hlocks hP hS dX4_worked_9 ⟨(a2 * a3), rfl, rfl, rfl, rfl, (by first | rw [if_pos (by omega)] | rw [if_neg (by omega), if_pos (by omega)] | rw [if_neg (by omega), if_neg (by omega)])⟩

set_option maxHeartbeats 4000000 in
set_option maxRecDepth 100000 in
theorem x_La_bounded (l : Launch) (D : va_G) (k : Nat → ClassId) (A : Nat → Prop) (ad : Nat → Nat) (hD : rwD A k ad) (v : gV) (f g : gF) (a1 : Int) (hL : inL a1) : GM l D k A (rwT k ad) yX4_bounded cX4_bounded 2 (some .long) 1 40 [.long (iL a1)] v f g (fun r v1 f1 g1 => ∃ (z : Int), r = some (.long (iL z)) ∧ v = v1 ∧ f = f1 ∧ g = g1 ∧ (z = (bd a1)) ∧ ((-1000000000) ≤ z ∧ z ≤ 1000000000)) := by
  refine GM.of (by decide) (Nat.le_of_ble_eq_true rfl) ?_
  intro p e s m args below meth c Q ls hQ C hml hr hlocks hP hl
  have hx := C.1
  have hb := C.2.1
  have hok := hP.2
  have hS : va_S A s.heap s.heap [] := va_S.rf
  have hl : lv_has ls 2 [(0, .long (iL a1))] := hl
  refine lv_ldc2 (v := iL (-1000000000)) hx hb C.2.2.2.1 (C.2.2.1 _ (show Cond.constantLong RX4 71 (iL (-1000000000)) ∈ gWs from mD_X4_71)) dX4_bounded_0 ?_
  refine lv_ldc2 (v := iL 1000000000) hx hb C.2.2.2.1 (C.2.2.1 _ (show Cond.constantLong RX4 73 (iL 1000000000) ∈ gWs from mD_X4_73)) dX4_bounded_3 ?_
  refine lv_lload_n hx hb dX4_bounded_6 rfl (lv_at hl 0 rfl) ?_
  refine gl_minE C hml hl.1 mM_X4_75 (by omega) (by omega) (Nat.le_of_ble_eq_true rfl) (Nat.le_of_ble_eq_true rfl) dX4_bounded_7 (fun x_1 hx_1 => ?_)
  refine gl_maxE C hml hl.1 mM_X4_81 (by omega) (by omega) (Nat.le_of_ble_eq_true rfl) (Nat.le_of_ble_eq_true rfl) dX4_bounded_10 (fun x_2 hx_2 => ?_)
  exact g_lret hQ C hr hlocks hP hS dX4_bounded_13 ⟨x_2, rfl, rfl, rfl, rfl, (by unfold bd; (repeat' split) <;> omega), (by first | omega | ((repeat' split) <;> omega))⟩

set_option maxHeartbeats 4000000 in
set_option maxRecDepth 100000 in
theorem x_La_pointsFor (l : Launch) (D : va_G) (k : Nat → ClassId) (A : Nat → Prop) (ad : Nat → Nat) (hD : rwD A k ad) (v : gV) (f g : gF) : GM l D k A (rwT k ad) yX4_pointsFor cX4_pointsFor 5 (some .int) 2 61 [.ref (ad 2), .ref (ad 53)] v f g (fun r v1 f1 g1 => ∃ (z : Int) (b0_ : Int → Int), r = some (.int (iI z)) ∧ v = v1 ∧ f = f1 ∧ (va_up g 0 b0_) = g1 ∧ (z = (evR (f 2) (f 3) (f 39) (v 2))) ∧ ((-1000000000) ≤ z ∧ z ≤ 1000000000)) := by
  refine GM.of (by decide) (Nat.le_of_ble_eq_true rfl) ?_
  intro p e s m args below meth c Q ls hQ C hml hr hlocks hP hl
  have hx := C.1
  have hb := C.2.1
  have hok := hP.2
  have hS : va_S A s.heap s.heap [] := va_S.rf
  have hl : lv_has ls 5 [(0, .ref (ad 2)), (1, .ref (ad 53))] := hl
  have hP : gWd D (rwT k ad) v f (va_up g 0 (g 0)) s.heap := by rw [va_id]; exact hP
  have hnu : ∀ k, 0 ≤ (f 3) k ∧ (f 3) k ≤ 999999 := fun k => hok.2 3 k
  have hit : ∀ k, 0 ≤ (f 2) k ∧ (f 2) k ≤ 10 := fun k => hok.2 2 k
  have hfa : ∀ i, 0 ≤ i → i < 6 → (-1000000000) ≤ (f 39) i ∧ (f 39) i ≤ 1000000000 := fun i _ _ => by have h : (-2000000) ≤ (f 39) i ∧ (f 39) i ≤ 2000000 := hok.2 39 i; omega
  have r_1 : 0 ≤ (v 2) ∧ (v 2) ≤ 40 := hok.1 2
  refine lv_iconst (v := iI 0) hx hb dX4_pointsFor_0 rfl ?_
  refine lv_istore_n (lv' := [(2, .int (iI 0)), (0, .ref (ad 2)), (1, .ref (ad 53))]) hx hb dX4_pointsFor_1 rfl hl (by decide) rfl (fun ls hl => ?_)
  refine lv_iconst (v := iI 0) hx hb dX4_pointsFor_2 rfl ?_
  refine lv_istore_n (lv' := [(3, .int (iI 0)), (2, .int (iI 0)), (0, .ref (ad 2)), (1, .ref (ad 53))]) hx hb dX4_pointsFor_3 rfl hl (by decide) rfl (fun ls hl => ?_)
  have L_2 : ∀ (n : Nat) (x2 : Int) (x3 : Int) (d0_2 : Int → Int) (H : Heap) (locs : List Loc) (ls : Array Slot), 40 - x3 < (n : Int) → (0 ≤ x3 ∧ x3 ≤ (v 2)) → (0 ≤ x2 ∧ x2 ≤ x3) → (rep (evL (f 2) (f 3) (f 39) x3.toNat) d0_2 x2) → gWd D (rwT k ad) v f (va_up g 0 d0_2) H → va_S A s.heap H locs → lv_has ls 5 [(0, .ref (ad 2)), (1, .ref (ad 53)), (2, .int (iI x2)), (3, .int (iI x3))] → W p l e (gRm 2 61) s m args below meth c H locs 0 0 Q (F0 m 4 ls []) := by
    intro n
    induction n with
    | zero =>
      intro x2 x3 d0_2 H locs ls hn_2 i2_0 i2_1 i2_2 hP hS hl
      exfalso; omega
    | succ n ih_4 =>
      intro x2 x3 d0_2 H locs ls hn_2 i2_0 i2_1 i2_2 hP hS hl
      have hR := i2_2
      have hBd := rep_bnd _ _ hR (evL_bd hnu hfa (fun k => (hit k).1) x3.toNat)
      refine lv_iload_n hx hb dX4_pointsFor_4 rfl (lv_at hl 3 rfl) ?_
      refine lv_aload_n hx hb dX4_pointsFor_5 rfl (lv_at hl 0 rfl) ?_
      refine rwG_laws_items C hP mF_X4_35 dX4_pointsFor_6 ?_
      refine gi_cge (tgt := 142) hx hb dX4_pointsFor_9 (by decide) (by omega) (by omega) (fun c_3 => ?_) (fun c_3 => ?_)
      · refine lv_iload_n hx hb dX4_pointsFor_142 rfl (lv_at hl 2 rfl) ?_
        refine gi_zle (tgt := 156) hx hb dX4_pointsFor_143 (by decide) (by omega) (fun c_4 => ?_) (fun c_4 => ?_)
        · refine lv_iconst (v := iI 0) hx hb dX4_pointsFor_156 rfl ?_
          exact g_iret hQ C hr hlocks hP hS dX4_pointsFor_157 ⟨0, d0_2, rfl, rfl, rfl, rfl, (by rw [show (v 2) = x3 by omega]; first | exact rep_bot _ _ hR (by omega) | exact (rep_em hR (by omega)).symm), (by first | omega | ((repeat' split) <;> omega))⟩
        · refine lv_aload_n hx hb dX4_pointsFor_146 rfl (lv_at hl 0 rfl) ?_
          refine rwG_laws_stack C hP mF_X4_27 dX4_pointsFor_147 ?_
          refine lv_iconst (v := iI 0) hx hb dX4_pointsFor_150 rfl ?_
          refine rwL_laws_stack C hP (by decide) (by decide) dX4_pointsFor_151 ?_
          show W p l e (gRm 2 61) s m args below meth c _ _ 0 0 Q (F0 m 152 ls [.long (iL (d0_2 0))])
          have hb0 := hBd 0 (by omega) (by omega)
          refine gl_l2iE hx hb (by omega) dX4_pointsFor_152 ?_
          refine lv_goto (tgt := 157) hx hb dX4_pointsFor_153 (by decide) ?_
          exact g_iret hQ C hr hlocks hP hS dX4_pointsFor_157 ⟨(d0_2 0), d0_2, rfl, rfl, rfl, rfl, (by rw [show (v 2) = x3 by omega]; first | exact rep_bot _ _ hR (by omega) | exact (rep_em hR (by omega)).symm), (by first | omega | ((repeat' split) <;> omega))⟩
      · refine lv_aload_n hx hb dX4_pointsFor_12 rfl (lv_at hl 0 rfl) ?_
        refine rwG_laws_item C hP mF_X4_15 dX4_pointsFor_13 ?_
        refine lv_iload_n hx hb dX4_pointsFor_16 rfl (lv_at hl 3 rfl) ?_
        refine rwL_laws_item C hP (by omega) (by omega) dX4_pointsFor_17 ?_
        have r_5 : 0 ≤ (f 2 x3) ∧ (f 2 x3) ≤ 10 := hP.2.2 2 x3
        refine lv_istore (lv' := [(4, .int (iI (f 2 x3))), (0, .ref (ad 2)), (1, .ref (ad 53)), (2, .int (iI x2)), (3, .int (iI x3))]) hx hb dX4_pointsFor_18 hl (by decide) rfl (fun ls hl => ?_)
        refine lv_iload hx hb dX4_pointsFor_20 (lv_at hl 0 rfl) ?_
        refine lv_bipush (v := iI 6) hx hb dX4_pointsFor_22 (by decide) ?_
        refine gi_cgt (tgt := 67) hx hb dX4_pointsFor_24 (by decide) (by omega) (by decide) (fun c_6 => ?_) (fun c_6 => ?_)
        · refine lv_iload hx hb dX4_pointsFor_67 (lv_at hl 0 rfl) ?_
          refine lv_bipush (v := iI 10) hx hb dX4_pointsFor_69 (by decide) ?_
          refine gi_cne (tgt := 98) hx hb dX4_pointsFor_71 (by decide) (by omega) (by decide) (fun c_7 => ?_) (fun c_7 => ?_)
          · refine lv_iload_n hx hb dX4_pointsFor_98 rfl (lv_at hl 3 rfl) ?_
            refine lv_iconst (v := iI 1) hx hb dX4_pointsFor_99 rfl ?_
            refine gi_cle (tgt := 136) hx hb dX4_pointsFor_100 (by decide) (by omega) (by decide) (fun c_8 => ?_) (fun c_8 => ?_)
            · refine lv_iinc (v := iI (x3 + 1)) (lv' := [(3, .int (iI (x3 + 1))), (4, .int (iI (f 2 x3))), (0, .ref (ad 2)), (1, .ref (ad 53)), (2, .int (iI x2))]) hx hb dX4_pointsFor_136 hl (k := 4) rfl (by show iI _ + iI 1 = _; rw [iI_add]) (by decide) rfl (fun ls hl => ?_)
              refine lv_goto (tgt := 4) hx hb dX4_pointsFor_139 (by decide) ?_
              exact ih_4 x2 (x3 + 1) d0_2 _ _ _ (by omega) (by omega) (by omega) (by rw [evL_s (by omega)]; first | exact rep_num hR _ _ (by omega) (Or.inl ⟨by omega, rfl⟩) | exact rep_num hR _ _ (by omega) (Or.inr ⟨by omega, rfl⟩) | exact rep_neg hR (by omega) _ _ (by omega) rfl rfl | exact rep_low hR (by omega) _ _ (by omega) | exact rep_low1 hR (by omega) _ _ (by omega) | exact rep_bin (j := x2 + (-1)) hR (by omega) _ _ (by omega) (by omega) (by omega) (by omega) (by rw [hbd, hwk])) hP hS (lv_sub hl [2, 3, 4, 0] rfl)
            · refine lv_iinc (v := iI (x2 + (-1))) (lv' := [(2, .int (iI (x2 + (-1)))), (4, .int (iI (f 2 x3))), (0, .ref (ad 2)), (1, .ref (ad 53)), (3, .int (iI x3))]) hx hb dX4_pointsFor_103 hl (k := 3) rfl (by show iI _ + iI (-1) = _; rw [iI_add]) (by decide) rfl (fun ls hl => ?_)
              refine lv_aload_n hx hb dX4_pointsFor_106 rfl (lv_at hl 2 rfl) ?_
              refine rwG_laws_stack C hP mF_X4_27 dX4_pointsFor_107 ?_
              refine lv_iload_n hx hb dX4_pointsFor_110 rfl (lv_at hl 0 rfl) ?_
              refine lv_iconst (v := iI 1) hx hb dX4_pointsFor_111 rfl ?_
              refine gi_sub (z := ((x2 + (-1)) - 1)) hx hb dX4_pointsFor_112 rfl ?_
              refine lv_iload hx hb dX4_pointsFor_113 (lv_at hl 1 rfl) ?_
              refine lv_aload_n hx hb dX4_pointsFor_115 rfl (lv_at hl 2 rfl) ?_
              refine rwG_laws_stack C hP mF_X4_27 dX4_pointsFor_116 ?_
              refine lv_iload_n hx hb dX4_pointsFor_119 rfl (lv_at hl 0 rfl) ?_
              refine lv_iconst (v := iI 1) hx hb dX4_pointsFor_120 rfl ?_
              refine gi_sub (z := ((x2 + (-1)) - 1)) hx hb dX4_pointsFor_121 rfl ?_
              refine rwL_laws_stack C hP (by omega) (by omega) dX4_pointsFor_122 ?_
              show W p l e (gRm 2 61) s m args below meth c _ _ 0 0 Q (F0 m 123 ls [.long (iL (d0_2 ((x2 + (-1)) - 1))), .int (iI (f 2 x3)), .int (iI ((x2 + (-1)) - 1)), .ref (ad 8)])
              refine lv_aload_n hx hb dX4_pointsFor_123 rfl (lv_at hl 2 rfl) ?_
              refine rwG_laws_stack C hP mF_X4_27 dX4_pointsFor_124 ?_
              refine lv_iload_n hx hb dX4_pointsFor_127 rfl (lv_at hl 0 rfl) ?_
              refine rwL_laws_stack C hP (by omega) (by omega) dX4_pointsFor_128 ?_
              show W p l e (gRm 2 61) s m args below meth c _ _ 0 0 Q (F0 m 129 ls [.long (iL (d0_2 (x2 + (-1)))), .long (iL (d0_2 ((x2 + (-1)) - 1))), .int (iI (f 2 x3)), .int (iI ((x2 + (-1)) - 1)), .ref (ad 8)])
              refine g_cs (As := [.int (iI (f 2 x3)), .long (iL (d0_2 ((x2 + (-1)) - 1))), .long (iL (d0_2 (x2 + (-1))))]) (rest := [.int (iI ((x2 + (-1)) - 1)), .ref (ad 8)]) (n := 3) C hml (x_La_worked l D k A ad hD v f (va_up g 0 d0_2) (f 2 x3) (d0_2 ((x2 + (-1)) - 1)) (d0_2 (x2 + (-1))) (by omega)) mM_X4_63 mS_X4_worked mN_X4 mC_X4_worked (by decide +kernel) hP hS (fun _ h => h) ⟨Nat.le_of_ble_eq_true rfl, Nat.le_of_ble_eq_true rfl⟩ ⟨Nat.zero_le _, Nat.zero_le _⟩ hl.1 rfl rfl (Nat.le_of_ble_eq_true rfl) dX4_pointsFor_129 (fun r_9 v_9 f_9 g_9 H locs hq_9 hP _ hS => ?_)
              obtain ⟨z_9, rfl, rfl, rfl, rfl, p0_9⟩ := hq_9
              show W p l e (gRm 2 61) s m args below meth c _ _ 0 0 Q (F0 m 132 ls [.long (iL z_9), .int (iI ((x2 + (-1)) - 1)), .ref (ad 8)])
              replace p0_9 : z_9 = (if (f 2 x3) = 9 then (d0_2 ((x2 + (-1)) - 1)) * (d0_2 (x2 + (-1))) else if (f 2 x3) = 7 then (d0_2 ((x2 + (-1)) - 1)) + (d0_2 (x2 + (-1))) else (d0_2 ((x2 + (-1)) - 1)) - (d0_2 (x2 + (-1)))) := p0_9
              have hwk := p0_9
              clear p0_9
              refine g_cs (As := [.long (iL z_9)]) (rest := [.int (iI ((x2 + (-1)) - 1)), .ref (ad 8)]) (n := 1) C hml (x_La_bounded l D k A ad hD v f (va_up g 0 d0_2) z_9 (show inL z_9 from wk_in (hBd _ (by omega) (by omega)) (hBd _ (by omega) (by omega)) hwk)) mM_X4_67 mS_X4_bounded mN_X4 mC_X4_bounded (by decide +kernel) hP hS (fun _ h => h) ⟨Nat.le_of_ble_eq_true rfl, Nat.le_of_ble_eq_true rfl⟩ ⟨Nat.zero_le _, Nat.zero_le _⟩ hl.1 rfl rfl (Nat.le_of_ble_eq_true rfl) dX4_pointsFor_132 (fun r_10 v_10 f_10 g_10 H locs hq_10 hP _ hS => ?_)
              obtain ⟨z_10, rfl, rfl, rfl, rfl, p0_10, p1_10⟩ := hq_10
              show W p l e (gRm 2 61) s m args below meth c _ _ 0 0 Q (F0 m 135 ls [.long (iL z_10), .int (iI ((x2 + (-1)) - 1)), .ref (ad 8)])
              replace p0_10 : z_10 = (bd z_9) := p0_10
              replace p1_10 : (-1000000000) ≤ z_10 ∧ z_10 ≤ 1000000000 := p1_10
              have hbd := p0_10
              refine rwS_laws_stack (g1 := (va_up g 0 (u1 d0_2 ((x2 + (-1)) - 1) z_10))) C hP hD hS (by omega) (by omega) rfl dX4_pointsFor_135 (fun H locs hP hS => ?_)
              refine lv_iinc (v := iI (x3 + 1)) (lv' := [(3, .int (iI (x3 + 1))), (2, .int (iI (x2 + (-1)))), (4, .int (iI (f 2 x3))), (0, .ref (ad 2)), (1, .ref (ad 53))]) hx hb dX4_pointsFor_136 hl (k := 4) rfl (by show iI _ + iI 1 = _; rw [iI_add]) (by decide) rfl (fun ls hl => ?_)
              refine lv_goto (tgt := 4) hx hb dX4_pointsFor_139 (by decide) ?_
              exact ih_4 (x2 + (-1)) (x3 + 1) (u1 d0_2 ((x2 + (-1)) - 1) z_10) _ _ _ (by omega) (by omega) (by omega) (by rw [evL_s (by omega)]; first | exact rep_num hR _ _ (by omega) (Or.inl ⟨by omega, rfl⟩) | exact rep_num hR _ _ (by omega) (Or.inr ⟨by omega, rfl⟩) | exact rep_neg hR (by omega) _ _ (by omega) rfl rfl | exact rep_low hR (by omega) _ _ (by omega) | exact rep_low1 hR (by omega) _ _ (by omega) | exact rep_bin (j := x2 + (-1)) hR (by omega) _ _ (by omega) (by omega) (by omega) (by omega) (by rw [hbd, hwk])) hP hS (lv_sub hl [3, 4, 1, 0] rfl)
          · refine lv_iload_n hx hb dX4_pointsFor_74 rfl (lv_at hl 3 rfl) ?_
            refine gi_zle (tgt := 136) hx hb dX4_pointsFor_75 (by decide) (by omega) (fun c_11 => ?_) (fun c_11 => ?_)
            · refine lv_iinc (v := iI (x3 + 1)) (lv' := [(3, .int (iI (x3 + 1))), (4, .int (iI (f 2 x3))), (0, .ref (ad 2)), (1, .ref (ad 53)), (2, .int (iI x2))]) hx hb dX4_pointsFor_136 hl (k := 4) rfl (by show iI _ + iI 1 = _; rw [iI_add]) (by decide) rfl (fun ls hl => ?_)
              refine lv_goto (tgt := 4) hx hb dX4_pointsFor_139 (by decide) ?_
              exact ih_4 x2 (x3 + 1) d0_2 _ _ _ (by omega) (by omega) (by omega) (by rw [evL_s (by omega)]; first | exact rep_num hR _ _ (by omega) (Or.inl ⟨by omega, rfl⟩) | exact rep_num hR _ _ (by omega) (Or.inr ⟨by omega, rfl⟩) | exact rep_neg hR (by omega) _ _ (by omega) rfl rfl | exact rep_low hR (by omega) _ _ (by omega) | exact rep_low1 hR (by omega) _ _ (by omega) | exact rep_bin (j := x2 + (-1)) hR (by omega) _ _ (by omega) (by omega) (by omega) (by omega) (by rw [hbd, hwk])) hP hS (lv_sub hl [2, 3, 4, 0] rfl)
            · refine lv_aload_n hx hb dX4_pointsFor_78 rfl (lv_at hl 1 rfl) ?_
              refine rwG_laws_stack C hP mF_X4_27 dX4_pointsFor_79 ?_
              refine lv_iload_n hx hb dX4_pointsFor_82 rfl (lv_at hl 3 rfl) ?_
              refine lv_iconst (v := iI 1) hx hb dX4_pointsFor_83 rfl ?_
              refine gi_sub (z := (x2 - 1)) hx hb dX4_pointsFor_84 rfl ?_
              refine lv_aload_n hx hb dX4_pointsFor_85 rfl (lv_at hl 1 rfl) ?_
              refine rwG_laws_stack C hP mF_X4_27 dX4_pointsFor_86 ?_
              refine lv_iload_n hx hb dX4_pointsFor_89 rfl (lv_at hl 3 rfl) ?_
              refine lv_iconst (v := iI 1) hx hb dX4_pointsFor_90 rfl ?_
              refine gi_sub (z := (x2 - 1)) hx hb dX4_pointsFor_91 rfl ?_
              refine rwL_laws_stack C hP (by omega) (by omega) dX4_pointsFor_92 ?_
              show W p l e (gRm 2 61) s m args below meth c _ _ 0 0 Q (F0 m 93 ls [.long (iL (d0_2 (x2 - 1))), .int (iI (x2 - 1)), .ref (ad 8)])
              refine gl_neg (z := (-(d0_2 (x2 - 1)))) hx hb dX4_pointsFor_93 rfl ?_
              refine rwS_laws_stack (g1 := (va_up g 0 (u1 d0_2 (x2 - 1) (-(d0_2 (x2 - 1)))))) C hP hD hS (by omega) (by omega) rfl dX4_pointsFor_94 (fun H locs hP hS => ?_)
              refine lv_goto (tgt := 136) hx hb dX4_pointsFor_95 (by decide) ?_
              refine lv_iinc (v := iI (x3 + 1)) (lv' := [(3, .int (iI (x3 + 1))), (4, .int (iI (f 2 x3))), (0, .ref (ad 2)), (1, .ref (ad 53)), (2, .int (iI x2))]) hx hb dX4_pointsFor_136 hl (k := 4) rfl (by show iI _ + iI 1 = _; rw [iI_add]) (by decide) rfl (fun ls hl => ?_)
              refine lv_goto (tgt := 4) hx hb dX4_pointsFor_139 (by decide) ?_
              exact ih_4 x2 (x3 + 1) (u1 d0_2 (x2 - 1) (-(d0_2 (x2 - 1)))) _ _ _ (by omega) (by omega) (by omega) (by rw [evL_s (by omega)]; first | exact rep_num hR _ _ (by omega) (Or.inl ⟨by omega, rfl⟩) | exact rep_num hR _ _ (by omega) (Or.inr ⟨by omega, rfl⟩) | exact rep_neg hR (by omega) _ _ (by omega) rfl rfl | exact rep_low hR (by omega) _ _ (by omega) | exact rep_low1 hR (by omega) _ _ (by omega) | exact rep_bin (j := x2 + (-1)) hR (by omega) _ _ (by omega) (by omega) (by omega) (by omega) (by rw [hbd, hwk])) hP hS (lv_sub hl [2, 3, 4, 0] rfl)
        · refine lv_iload_n hx hb dX4_pointsFor_27 rfl (lv_at hl 3 rfl) ?_
          refine lv_bipush (v := iI 40) hx hb dX4_pointsFor_28 (by decide) ?_
          refine gi_cge (tgt := 136) hx hb dX4_pointsFor_30 (by decide) (by omega) (by decide) (fun c_12 => ?_) (fun c_12 => ?_)
          · refine lv_iinc (v := iI (x3 + 1)) (lv' := [(3, .int (iI (x3 + 1))), (4, .int (iI (f 2 x3))), (0, .ref (ad 2)), (1, .ref (ad 53)), (2, .int (iI x2))]) hx hb dX4_pointsFor_136 hl (k := 4) rfl (by show iI _ + iI 1 = _; rw [iI_add]) (by decide) rfl (fun ls hl => ?_)
            refine lv_goto (tgt := 4) hx hb dX4_pointsFor_139 (by decide) ?_
            exact ih_4 x2 (x3 + 1) d0_2 _ _ _ (by omega) (by omega) (by omega) (by rw [evL_s (by omega)]; first | exact rep_num hR _ _ (by omega) (Or.inl ⟨by omega, rfl⟩) | exact rep_num hR _ _ (by omega) (Or.inr ⟨by omega, rfl⟩) | exact rep_neg hR (by omega) _ _ (by omega) rfl rfl | exact rep_low hR (by omega) _ _ (by omega) | exact rep_low1 hR (by omega) _ _ (by omega) | exact rep_bin (j := x2 + (-1)) hR (by omega) _ _ (by omega) (by omega) (by omega) (by omega) (by rw [hbd, hwk])) hP hS (lv_sub hl [2, 3, 4, 0] rfl)
          · refine lv_aload_n hx hb dX4_pointsFor_33 rfl (lv_at hl 1 rfl) ?_
            refine rwG_laws_stack C hP mF_X4_27 dX4_pointsFor_34 ?_
            refine lv_iload_n hx hb dX4_pointsFor_37 rfl (lv_at hl 3 rfl) ?_
            refine lv_iload hx hb dX4_pointsFor_38 (lv_at hl 0 rfl) ?_
            refine lv_bipush (v := iI 6) hx hb dX4_pointsFor_40 (by decide) ?_
            refine gi_cne (tgt := 55) hx hb dX4_pointsFor_42 (by decide) (by omega) (by decide) (fun c_13 => ?_) (fun c_13 => ?_)
            · refine lv_aload_n hx hb dX4_pointsFor_55 rfl (lv_at hl 2 rfl) ?_
              refine lv_iload hx hb dX4_pointsFor_56 (lv_at hl 0 rfl) ?_
              refine rwL_results_facts C hP (by omega) (by omega) dX4_pointsFor_58 ?_
              have r_14 : (-2000000) ≤ (f 39 (f 2 x3)) ∧ (f 39 (f 2 x3)) ≤ 2000000 := hP.2.2 39 (f 2 x3)
              refine gi_i2l hx hb (by omega) dX4_pointsFor_59 ?_
              refine rwS_laws_stack (g1 := (va_up g 0 (u1 d0_2 x2 (f 39 (f 2 x3))))) C hP hD hS (by omega) (by omega) rfl dX4_pointsFor_60 (fun H locs hP hS => ?_)
              refine lv_iinc (v := iI (x2 + 1)) (lv' := [(2, .int (iI (x2 + 1))), (4, .int (iI (f 2 x3))), (0, .ref (ad 2)), (1, .ref (ad 53)), (3, .int (iI x3))]) hx hb dX4_pointsFor_61 hl (k := 3) rfl (by show iI _ + iI 1 = _; rw [iI_add]) (by decide) rfl (fun ls hl => ?_)
              refine lv_goto (tgt := 136) hx hb dX4_pointsFor_64 (by decide) ?_
              refine lv_iinc (v := iI (x3 + 1)) (lv' := [(3, .int (iI (x3 + 1))), (2, .int (iI (x2 + 1))), (4, .int (iI (f 2 x3))), (0, .ref (ad 2)), (1, .ref (ad 53))]) hx hb dX4_pointsFor_136 hl (k := 4) rfl (by show iI _ + iI 1 = _; rw [iI_add]) (by decide) rfl (fun ls hl => ?_)
              refine lv_goto (tgt := 4) hx hb dX4_pointsFor_139 (by decide) ?_
              exact ih_4 (x2 + 1) (x3 + 1) (u1 d0_2 x2 (f 39 (f 2 x3))) _ _ _ (by omega) (by omega) (by omega) (by rw [evL_s (by omega)]; first | exact rep_num hR _ _ (by omega) (Or.inl ⟨by omega, rfl⟩) | exact rep_num hR _ _ (by omega) (Or.inr ⟨by omega, rfl⟩) | exact rep_neg hR (by omega) _ _ (by omega) rfl rfl | exact rep_low hR (by omega) _ _ (by omega) | exact rep_low1 hR (by omega) _ _ (by omega) | exact rep_bin (j := x2 + (-1)) hR (by omega) _ _ (by omega) (by omega) (by omega) (by omega) (by rw [hbd, hwk])) hP hS (lv_sub hl [3, 4, 1, 0] rfl)
            · refine lv_aload_n hx hb dX4_pointsFor_45 rfl (lv_at hl 1 rfl) ?_
              refine rwG_laws_number C hP mF_X4_18 dX4_pointsFor_46 ?_
              refine lv_iload_n hx hb dX4_pointsFor_49 rfl (lv_at hl 4 rfl) ?_
              refine rwL_laws_number C hP (by omega) (by omega) dX4_pointsFor_50 ?_
              have r_15 : 0 ≤ (f 3 x3) ∧ (f 3 x3) ≤ 999999 := hP.2.2 3 x3
              refine gi_i2l hx hb (by omega) dX4_pointsFor_51 ?_
              refine lv_goto (tgt := 60) hx hb dX4_pointsFor_52 (by decide) ?_
              refine rwS_laws_stack (g1 := (va_up g 0 (u1 d0_2 x2 (f 3 x3)))) C hP hD hS (by omega) (by omega) rfl dX4_pointsFor_60 (fun H locs hP hS => ?_)
              refine lv_iinc (v := iI (x2 + 1)) (lv' := [(2, .int (iI (x2 + 1))), (4, .int (iI (f 2 x3))), (0, .ref (ad 2)), (1, .ref (ad 53)), (3, .int (iI x3))]) hx hb dX4_pointsFor_61 hl (k := 3) rfl (by show iI _ + iI 1 = _; rw [iI_add]) (by decide) rfl (fun ls hl => ?_)
              refine lv_goto (tgt := 136) hx hb dX4_pointsFor_64 (by decide) ?_
              refine lv_iinc (v := iI (x3 + 1)) (lv' := [(3, .int (iI (x3 + 1))), (2, .int (iI (x2 + 1))), (4, .int (iI (f 2 x3))), (0, .ref (ad 2)), (1, .ref (ad 53))]) hx hb dX4_pointsFor_136 hl (k := 4) rfl (by show iI _ + iI 1 = _; rw [iI_add]) (by decide) rfl (fun ls hl => ?_)
              refine lv_goto (tgt := 4) hx hb dX4_pointsFor_139 (by decide) ?_
              exact ih_4 (x2 + 1) (x3 + 1) (u1 d0_2 x2 (f 3 x3)) _ _ _ (by omega) (by omega) (by omega) (by rw [evL_s (by omega)]; first | exact rep_num hR _ _ (by omega) (Or.inl ⟨by omega, rfl⟩) | exact rep_num hR _ _ (by omega) (Or.inr ⟨by omega, rfl⟩) | exact rep_neg hR (by omega) _ _ (by omega) rfl rfl | exact rep_low hR (by omega) _ _ (by omega) | exact rep_low1 hR (by omega) _ _ (by omega) | exact rep_bin (j := x2 + (-1)) hR (by omega) _ _ (by omega) (by omega) (by omega) (by omega) (by rw [hbd, hwk])) hP hS (lv_sub hl [3, 4, 1, 0] rfl)
  exact L_2 41 0 0 (g 0) _ _ _ (by omega) (by omega) (by omega) (show rep [] _ 0 from rfl) hP hS (lv_sub hl [2, 3, 1, 0] rfl)

set_option maxHeartbeats 4000000 in
set_option maxRecDepth 100000 in
theorem x_Re_hearAppeals (l : Launch) (D : va_G) (k : Nat → ClassId) (A : Nat → Prop) (ad : Nat → Nat) (hD : rwD A k ad) (v : gV) (f g : gF) (a1 : Int) (h_a1 : inR a1) : GM l D k A (rwT k ad) yX5_hearAppeals cX5_hearAppeals 4 none 0 0 [.ref (ad 47), .int (iI a1)] v f g (fun r v1 f1 g1 => ∃ (a34_ : Int → Int) (a35_ : Int → Int), r = none ∧ v = v1 ∧ (va_up (va_up f 34 a34_) 35 a35_) = f1 ∧ g = g1 ∧ (kOk (f 28) (f 29) (f 30) (f 25) a1 (v 23) (v 24) a34_ a35_)) := by
  refine GM.of (by decide) (Nat.le_of_ble_eq_true rfl) ?_
  intro p e s m args below meth c Q ls hQ C hml hr hlocks hP hl
  have hx := C.1
  have hb := C.2.1
  have hok := hP.2
  have hS : va_S A s.heap s.heap [] := va_S.rf
  have hl : lv_has ls 4 [(0, .ref (ad 47)), (1, .int (iI a1))] := hl
  have hP : gWd D (rwT k ad) v (va_up (va_up f 34 (f 34)) 35 (f 35)) g s.heap := by rw [va_id, va_id]; exact hP
  have r_1 : 0 ≤ (v 23) ∧ (v 23) ≤ 300 := hok.1 23
  have r_2 : 0 ≤ (v 24) ∧ (v 24) ≤ 40 := hok.1 24
  refine lv_iconst (v := iI 0) hx hb dX5_hearAppeals_0 rfl ?_
  refine lv_istore_n (lv' := [(2, .int (iI 0)), (0, .ref (ad 47)), (1, .int (iI a1))]) hx hb dX5_hearAppeals_1 rfl hl (by decide) rfl (fun ls hl => ?_)
  have L_3 : ∀ (n : Nat) (x2 : Int) (c34_3 : Int → Int) (c35_3 : Int → Int) (H : Heap) (locs : List Loc) (ls : Array Slot), 300 - x2 < (n : Int) → (0 ≤ x2 ∧ x2 ≤ (v 23)) → (∀ k, 0 ≤ k → k < x2 → c34_3 k = (f 25) k ∧ c35_3 k = (-1)) → gWd D (rwT k ad) v (va_up (va_up f 34 c34_3) 35 c35_3) g H → va_S A s.heap H locs → lv_has ls 4 [(0, .ref (ad 47)), (1, .int (iI a1)), (2, .int (iI x2))] → W p l e (gRm 0 0) s m args below meth c H locs 0 0 Q (F0 m 2 ls []) := by
    intro n
    induction n with
    | zero =>
      intro x2 c34_3 c35_3 H locs ls hn_3 i3_0 i3_1 hP hS hl
      exfalso; omega
    | succ n ih_2 =>
      intro x2 c34_3 c35_3 H locs ls hn_3 i3_0 i3_1 hP hS hl
      have hI1 := i3_1
      refine lv_iload_n hx hb dX5_hearAppeals_2 rfl (lv_at hl 2 rfl) ?_
      refine lv_aload_n hx hb dX5_hearAppeals_3 rfl (lv_at hl 0 rfl) ?_
      refine rwG_results_tries C hP mF_X5_55 dX5_hearAppeals_4 ?_
      refine rwG_tries_many C hP mF_X5_73 dX5_hearAppeals_7 ?_
      refine gi_cge (tgt := 41) hx hb dX5_hearAppeals_10 (by decide) (by omega) (by omega) (fun c_4 => ?_) (fun c_4 => ?_)
      · refine lv_iconst (v := iI 0) hx hb dX5_hearAppeals_41 rfl ?_
        refine lv_istore_n (lv' := [(2, .int (iI 0)), (0, .ref (ad 47)), (1, .int (iI a1))]) hx hb dX5_hearAppeals_42 rfl hl (by decide) rfl (fun ls hl => ?_)
        have L_5 : ∀ (n : Nat) (x2 : Int) (c34_5 : Int → Int) (c35_5 : Int → Int) (H : Heap) (locs : List Loc) (ls : Array Slot), 40 - x2 < (n : Int) → (0 ≤ x2 ∧ x2 ≤ (v 24)) → (kOk (f 28) (f 29) (f 30) (f 25) a1 (v 23) x2 c34_5 c35_5) → gWd D (rwT k ad) v (va_up (va_up f 34 c34_5) 35 c35_5) g H → va_S A s.heap H locs → lv_has ls 4 [(0, .ref (ad 47)), (1, .int (iI a1)), (2, .int (iI x2))] → W p l e (gRm 0 0) s m args below meth c H locs 0 0 Q (F0 m 43 ls []) := by
          intro n
          induction n with
          | zero =>
            intro x2 c34_5 c35_5 H locs ls hn_5 i5_0 i5_1 hP hS hl
            exfalso; omega
          | succ n ih_43 =>
            intro x2 c34_5 c35_5 H locs ls hn_5 i5_0 i5_1 hP hS hl
            have hK := i5_1
            refine lv_iload_n hx hb dX5_hearAppeals_43 rfl (lv_at hl 2 rfl) ?_
            refine lv_aload_n hx hb dX5_hearAppeals_44 rfl (lv_at hl 0 rfl) ?_
            refine rwG_results_appeals C hP mF_X5_59 dX5_hearAppeals_45 ?_
            refine rwG_appeals_many C hP mF_X5_98 dX5_hearAppeals_48 ?_
            refine gi_cge (tgt := 131) hx hb dX5_hearAppeals_51 (by decide) (by omega) (by omega) (fun c_6 => ?_) (fun c_6 => ?_)
            · exact g_vret hQ C hr hlocks hP hS dX5_hearAppeals_131 ⟨c34_5, c35_5, rfl, rfl, rfl, rfl, (by rw [show (v 24) = x2 by omega]; exact hK)⟩
            · refine lv_aload_n hx hb dX5_hearAppeals_54 rfl (lv_at hl 0 rfl) ?_
              refine rwG_results_appeals C hP mF_X5_59 dX5_hearAppeals_55 ?_
              refine rwG_appeals_number C hP mF_X5_101 dX5_hearAppeals_58 ?_
              refine lv_iload_n hx hb dX5_hearAppeals_61 rfl (lv_at hl 2 rfl) ?_
              refine rwL_appeals_number C hP (by omega) (by omega) dX5_hearAppeals_62 ?_
              show W p l e (gRm 0 0) s m args below meth c _ _ 0 0 Q (F0 m 63 ls [.int (iI (f 28 x2))])
              have r_7 : 0 ≤ (f 28 x2) ∧ (f 28 x2) ≤ 299 := hP.2.2 28 x2
              refine lv_istore_n (lv' := [(3, .int (iI (f 28 x2))), (0, .ref (ad 47)), (1, .int (iI a1)), (2, .int (iI x2))]) hx hb dX5_hearAppeals_63 rfl hl (by decide) rfl (fun ls hl => ?_)
              refine lv_aload_n hx hb dX5_hearAppeals_64 rfl (lv_at hl 1 rfl) ?_
              refine rwG_results_appeals C hP mF_X5_59 dX5_hearAppeals_65 ?_
              refine rwG_appeals_day C hP mF_X5_104 dX5_hearAppeals_68 ?_
              refine lv_iload_n hx hb dX5_hearAppeals_71 rfl (lv_at hl 3 rfl) ?_
              refine rwL_appeals_day C hP (by omega) (by omega) dX5_hearAppeals_72 ?_
              show W p l e (gRm 0 0) s m args below meth c _ _ 0 0 Q (F0 m 73 ls [.int (iI (f 30 x2))])
              have r_8 : 0 ≤ (f 30 x2) ∧ (f 30 x2) ≤ 999 := hP.2.2 30 x2
              refine lv_iload_n hx hb dX5_hearAppeals_73 rfl (lv_at hl 2 rfl) ?_
              refine gi_cgt (tgt := 125) hx hb dX5_hearAppeals_74 (by decide) (by omega) (by omega) (fun c_9 => ?_) (fun c_9 => ?_)
              · refine lv_iinc (v := iI (x2 + 1)) (lv' := [(2, .int (iI (x2 + 1))), (3, .int (iI (f 28 x2))), (0, .ref (ad 47)), (1, .int (iI a1))]) hx hb dX5_hearAppeals_125 hl (k := 3) rfl (by show iI _ + iI 1 = _; rw [iI_add]) (by decide) rfl (fun ls hl => ?_)
                refine lv_goto (tgt := 43) hx hb dX5_hearAppeals_128 (by decide) ?_
                exact ih_43 (x2 + 1) c34_5 c35_5 _ _ _ (by omega) (by omega) (by first | exact kOk_hit (by omega) hK (by omega) | exact kOk_skip (by omega) hK (by omega)) hP hS (lv_sub hl [2, 3, 0] rfl)
              · refine lv_aload_n hx hb dX5_hearAppeals_77 rfl (lv_at hl 1 rfl) ?_
                refine rwG_results_appeals C hP mF_X5_59 dX5_hearAppeals_78 ?_
                refine rwG_appeals_day C hP mF_X5_104 dX5_hearAppeals_81 ?_
                refine lv_iload_n hx hb dX5_hearAppeals_84 rfl (lv_at hl 3 rfl) ?_
                refine rwL_appeals_day C hP (by omega) (by omega) dX5_hearAppeals_85 ?_
                show W p l e (gRm 0 0) s m args below meth c _ _ 0 0 Q (F0 m 86 ls [.int (iI (f 30 x2))])
                refine lv_aload_n hx hb dX5_hearAppeals_86 rfl (lv_at hl 1 rfl) ?_
                refine rwG_results_knownDay C hP mF_X5_15 dX5_hearAppeals_87 ?_
                refine lv_iload_n hx hb dX5_hearAppeals_90 rfl (lv_at hl 0 rfl) ?_
                refine rwL_results_knownDay C hP (by omega) (by omega) dX5_hearAppeals_91 ?_
                show W p l e (gRm 0 0) s m args below meth c _ _ 0 0 Q (F0 m 92 ls [.int (iI (c35_5 (f 28 x2))), .int (iI (f 30 x2))])
                have r_10 : (-1) ≤ (c35_5 (f 28 x2)) ∧ (c35_5 (f 28 x2)) ≤ 999 := hP.2.2 35 (f 28 x2)
                refine gi_clt (tgt := 125) hx hb dX5_hearAppeals_92 (by decide) (by omega) (by omega) (fun c_11 => ?_) (fun c_11 => ?_)
                · refine lv_iinc (v := iI (x2 + 1)) (lv' := [(2, .int (iI (x2 + 1))), (3, .int (iI (f 28 x2))), (0, .ref (ad 47)), (1, .int (iI a1))]) hx hb dX5_hearAppeals_125 hl (k := 3) rfl (by show iI _ + iI 1 = _; rw [iI_add]) (by decide) rfl (fun ls hl => ?_)
                  refine lv_goto (tgt := 43) hx hb dX5_hearAppeals_128 (by decide) ?_
                  exact ih_43 (x2 + 1) c34_5 c35_5 _ _ _ (by omega) (by omega) (by first | exact kOk_hit (by omega) hK (by omega) | exact kOk_skip (by omega) hK (by omega)) hP hS (lv_sub hl [2, 3, 0] rfl)
                · refine lv_aload_n hx hb dX5_hearAppeals_95 rfl (lv_at hl 1 rfl) ?_
                  refine rwG_results_known C hP mF_X5_9 dX5_hearAppeals_96 ?_
                  refine lv_iload_n hx hb dX5_hearAppeals_99 rfl (lv_at hl 0 rfl) ?_
                  refine lv_aload_n hx hb dX5_hearAppeals_100 rfl (lv_at hl 1 rfl) ?_
                  refine rwG_results_appeals C hP mF_X5_59 dX5_hearAppeals_101 ?_
                  refine rwG_appeals_hold C hP mF_X5_107 dX5_hearAppeals_104 ?_
                  refine lv_iload_n hx hb dX5_hearAppeals_107 rfl (lv_at hl 3 rfl) ?_
                  refine rwL_appeals_hold C hP (by omega) (by omega) dX5_hearAppeals_108 ?_
                  show W p l e (gRm 0 0) s m args below meth c _ _ 0 0 Q (F0 m 109 ls [.int (iI (f 29 x2)), .int (iI (f 28 x2)), .ref (ad 48)])
                  have r_12 : 0 ≤ (f 29 x2) ∧ (f 29 x2) ≤ 60 := hP.2.2 29 x2
                  refine rwS_results_known (f1 := (va_up (va_up f 34 (u1 c34_5 (f 28 x2) (f 29 x2))) 35 c35_5)) C hP hD hS (by omega) (by omega) (by omega) rfl (Or.inr (gF_up (V := rwV) (F := rwF) (gF_up (V := rwV) (F := rwF) ⟨hok.1, hok.2⟩ 34 (u1_rng (hP.2.2 34) (show 0 ≤ (f 29 x2) ∧ (f 29 x2) ≤ 60 from (by omega)))) 35 (hP.2.2 35))) dX5_hearAppeals_109 (fun H locs hP hS => ?_)
                  refine lv_aload_n hx hb dX5_hearAppeals_110 rfl (lv_at hl 1 rfl) ?_
                  refine rwG_results_knownDay C hP mF_X5_15 dX5_hearAppeals_111 ?_
                  refine lv_iload_n hx hb dX5_hearAppeals_114 rfl (lv_at hl 0 rfl) ?_
                  refine lv_aload_n hx hb dX5_hearAppeals_115 rfl (lv_at hl 1 rfl) ?_
                  refine rwG_results_appeals C hP mF_X5_59 dX5_hearAppeals_116 ?_
                  refine rwG_appeals_day C hP mF_X5_104 dX5_hearAppeals_119 ?_
                  refine lv_iload_n hx hb dX5_hearAppeals_122 rfl (lv_at hl 3 rfl) ?_
                  refine rwL_appeals_day C hP (by omega) (by omega) dX5_hearAppeals_123 ?_
                  show W p l e (gRm 0 0) s m args below meth c _ _ 0 0 Q (F0 m 124 ls [.int (iI (f 30 x2)), .int (iI (f 28 x2)), .ref (ad 49)])
                  refine rwS_results_knownDay (f1 := (va_up (va_up f 34 (u1 c34_5 (f 28 x2) (f 29 x2))) 35 (u1 c35_5 (f 28 x2) (f 30 x2)))) C hP hD hS (by omega) (by omega) (by omega) rfl (Or.inr (gF_up (V := rwV) (F := rwF) (gF_up (V := rwV) (F := rwF) ⟨hok.1, hok.2⟩ 34 (hP.2.2 34)) 35 (u1_rng (hP.2.2 35) (show (-1) ≤ (f 30 x2) ∧ (f 30 x2) ≤ 999 from (by omega))))) dX5_hearAppeals_124 (fun H locs hP hS => ?_)
                  refine lv_iinc (v := iI (x2 + 1)) (lv' := [(2, .int (iI (x2 + 1))), (3, .int (iI (f 28 x2))), (0, .ref (ad 47)), (1, .int (iI a1))]) hx hb dX5_hearAppeals_125 hl (k := 3) rfl (by show iI _ + iI 1 = _; rw [iI_add]) (by decide) rfl (fun ls hl => ?_)
                  refine lv_goto (tgt := 43) hx hb dX5_hearAppeals_128 (by decide) ?_
                  exact ih_43 (x2 + 1) (u1 c34_5 (f 28 x2) (f 29 x2)) (u1 c35_5 (f 28 x2) (f 30 x2)) _ _ _ (by omega) (by omega) (by first | exact kOk_hit (by omega) hK (by omega) | exact kOk_skip (by omega) hK (by omega)) hP hS (lv_sub hl [2, 3, 0] rfl)
        exact L_5 41 0 c34_3 c35_3 _ _ _ (by omega) (by omega) (kOk_0 (fun k h0 h1 => hI1 k h0 (by omega))) hP hS (lv_sub hl [1, 2, 0] rfl)
      · refine lv_aload_n hx hb dX5_hearAppeals_13 rfl (lv_at hl 0 rfl) ?_
        refine rwG_results_known C hP mF_X5_9 dX5_hearAppeals_14 ?_
        refine lv_iload_n hx hb dX5_hearAppeals_17 rfl (lv_at hl 2 rfl) ?_
        refine lv_aload_n hx hb dX5_hearAppeals_18 rfl (lv_at hl 0 rfl) ?_
        refine rwG_results_tries C hP mF_X5_55 dX5_hearAppeals_19 ?_
        refine rwG_tries_hold C hP mF_X5_95 dX5_hearAppeals_22 ?_
        refine lv_iload_n hx hb dX5_hearAppeals_25 rfl (lv_at hl 2 rfl) ?_
        refine rwL_tries_hold C hP (by omega) (by omega) dX5_hearAppeals_26 ?_
        show W p l e (gRm 0 0) s m args below meth c _ _ 0 0 Q (F0 m 27 ls [.int (iI (f 25 x2)), .int (iI x2), .ref (ad 48)])
        have r_13 : 0 ≤ (f 25 x2) ∧ (f 25 x2) ≤ 60 := hP.2.2 25 x2
        refine rwS_results_known (f1 := (va_up (va_up f 34 (u1 c34_3 x2 (f 25 x2))) 35 c35_3)) C hP hD hS (by omega) (by omega) (by omega) rfl (Or.inr (gF_up (V := rwV) (F := rwF) (gF_up (V := rwV) (F := rwF) ⟨hok.1, hok.2⟩ 34 (u1_rng (hP.2.2 34) (show 0 ≤ (f 25 x2) ∧ (f 25 x2) ≤ 60 from (by omega)))) 35 (hP.2.2 35))) dX5_hearAppeals_27 (fun H locs hP hS => ?_)
        refine lv_aload_n hx hb dX5_hearAppeals_28 rfl (lv_at hl 0 rfl) ?_
        refine rwG_results_knownDay C hP mF_X5_15 dX5_hearAppeals_29 ?_
        refine lv_iload_n hx hb dX5_hearAppeals_32 rfl (lv_at hl 2 rfl) ?_
        refine lv_iconst (v := iI (-1)) hx hb dX5_hearAppeals_33 rfl ?_
        refine rwS_results_knownDay (f1 := (va_up (va_up f 34 (u1 c34_3 x2 (f 25 x2))) 35 (u1 c35_3 x2 (-1)))) C hP hD hS (by omega) (by omega) (by decide) rfl (Or.inr (gF_up (V := rwV) (F := rwF) (gF_up (V := rwV) (F := rwF) ⟨hok.1, hok.2⟩ 34 (hP.2.2 34)) 35 (u1_rng (hP.2.2 35) (show (-1) ≤ (-1) ∧ (-1) ≤ 999 from (by decide))))) dX5_hearAppeals_34 (fun H locs hP hS => ?_)
        refine lv_iinc (v := iI (x2 + 1)) (lv' := [(2, .int (iI (x2 + 1))), (0, .ref (ad 47)), (1, .int (iI a1))]) hx hb dX5_hearAppeals_35 hl (k := 2) rfl (by show iI _ + iI 1 = _; rw [iI_add]) (by decide) rfl (fun ls hl => ?_)
        refine lv_goto (tgt := 2) hx hb dX5_hearAppeals_38 (by decide) ?_
        exact ih_2 (x2 + 1) (u1 c34_3 x2 (f 25 x2)) (u1 c35_3 x2 (-1)) _ _ _ (by omega) (by omega) (kn_fill hI1) hP hS (lv_sub hl [1, 2, 0] rfl)
  exact L_3 301 0 (f 34) (f 35) _ _ _ (by omega) (by omega) (fun k h0 h1 => by omega) hP hS (lv_sub hl [1, 2, 0] rfl)

set_option maxHeartbeats 4000000 in
set_option maxRecDepth 100000 in
theorem x_Re_survey (l : Launch) (D : va_G) (k : Nat → ClassId) (A : Nat → Prop) (ad : Nat → Nat) (hD : rwD A k ad) (v : gV) (f g : gF) (a1 : Int) (h_a1 : inR a1) : GM l D k A (rwT k ad) yX5_survey cX5_survey 4 none 1 23 [.ref (ad 47), .int (iI a1)] v f g (fun r v1 f1 g1 => ∃ (a34_ : Int → Int) (a35_ : Int → Int) (a36_ : Int → Int) (a37_ : Int → Int) (a38_ : Int → Int), r = none ∧ v = v1 ∧ (va_up (va_up (va_up (va_up (va_up f 34 a34_) 35 a35_) 36 a36_) 37 a37_) 38 a38_) = f1 ∧ g = g1 ∧ (svOk (f 20) (f 21) (f 22) (f 26) (Fk (f 28) (f 29) (f 30) (f 25) (v 24) a1) (v 23) a36_ a37_ a38_) ∧ (∀ k, 0 ≤ k → k < (v 23) → a34_ k = (Fk (f 28) (f 29) (f 30) (f 25) (v 24) a1) k)) := by
  refine GM.of (by decide) (Nat.le_of_ble_eq_true rfl) ?_
  intro p e s m args below meth c Q ls hQ C hml hr hlocks hP hl
  have hx := C.1
  have hb := C.2.1
  have hok := hP.2
  have hS : va_S A s.heap s.heap [] := va_S.rf
  have hl : lv_has ls 4 [(0, .ref (ad 47)), (1, .int (iI a1))] := hl
  have hP : gWd D (rwT k ad) v (va_up (va_up (va_up (va_up (va_up f 34 (f 34)) 35 (f 35)) 36 (f 36)) 37 (f 37)) 38 (f 38)) g s.heap := by rw [va_id, va_id, va_id, va_id, va_id]; exact hP
  have hkr : ∀ k, 0 ≤ (Fk (f 28) (f 29) (f 30) (f 25) (v 24) a1) k ∧ (Fk (f 28) (f 29) (f 30) (f 25) (v 24) a1) k ≤ 60 := fun k => kH_r (hok.2 25 k) (hok.2 29) _
  have r_1 : 0 ≤ (v 23) ∧ (v 23) ≤ 300 := hok.1 23
  refine lv_aload_n hx hb dX5_survey_0 rfl (lv_at hl 0 rfl) ?_
  refine lv_iload_n hx hb dX5_survey_1 rfl (lv_at hl 1 rfl) ?_
  refine g_cv (As := [.int (iI a1)]) (rest := []) (n := 1) C hml (x_Re_hearAppeals l D k A ad hD v (va_up (va_up (va_up (va_up (va_up f 34 (f 34)) 35 (f 35)) 36 (f 36)) 37 (f 37)) 38 (f 38)) g a1 (by omega)) mM_X5_63 mI_X5_hearAppeals mE_X5_hearAppeals mN_X5 mC_X5_hearAppeals (by decide +kernel) 47 (ci := 5) rfl rfl hP hS (fun _ h => h) ⟨Nat.le_of_ble_eq_true rfl, Nat.le_of_ble_eq_true rfl⟩ ⟨Nat.zero_le _, Nat.zero_le _⟩ hl.1 rfl rfl (Nat.le_of_ble_eq_true rfl) dX5_survey_2 (fun r_2 v_2 f_2 g_2 H locs hq_2 hP _ hS => ?_)
  obtain ⟨a34_2, a35_2, rfl, rfl, rfl, rfl, p0_2⟩ := hq_2
  show W p l e (gRm 1 23) s m args below meth c _ _ 0 0 Q (F0 m 5 ls [])
  have hP : gWd D (rwT k ad) v (va_up (va_up (va_up (va_up (va_up f 34 a34_2) 35 a35_2) 36 (f 36)) 37 (f 37)) 38 (f 38)) g H := ⟨hP.1, (gF_up (V := rwV) (F := rwF) (gF_up (V := rwV) (F := rwF) (gF_up (V := rwV) (F := rwF) (gF_up (V := rwV) (F := rwF) (gF_up (V := rwV) (F := rwF) ⟨hok.1, hok.2⟩ 34 (hP.2.2 34)) 35 (hP.2.2 35)) 36 (hP.2.2 36)) 37 (hP.2.2 37)) 38 (hP.2.2 38))⟩
  replace p0_2 : kOk (f 28) (f 29) (f 30) (f 25) a1 (v 23) (v 24) a34_2 a35_2 := p0_2
  have hkn : ∀ k, 0 ≤ k → k < (v 23) → a34_2 k = (Fk (f 28) (f 29) (f 30) (f 25) (v 24) a1) k := fun k h0 h1 => (p0_2 k h0 h1).1
  refine lv_aload_n hx hb dX5_survey_5 rfl (lv_at hl 0 rfl) ?_
  refine rwG_results_counted C hP mF_X5_18 dX5_survey_6 ?_
  refine lv_iconst (v := iI 0) hx hb dX5_survey_9 rfl ?_
  refine g_cs (As := [.ref (ad 50), .int (iI 0)]) (rest := []) (n := 2) C hml (c_fillI l D k A (rwT k ad) (ad 50) 50 36 320 (fun _ _ _ => rfl) (fun _ _ _ _ => rfl) hD (by decide) v (va_up (va_up (va_up (va_up (va_up f 34 a34_2) 35 a35_2) 36 (f 36)) 37 (f 37)) 38 (f 38)) g 0 (by decide) (show 0 ≤ 0 ∧ 0 ≤ 300 from (by decide))) mM_X5_67 mS_J7_fill_53178 mN_J7 mC_J7_fill_53178 (by decide +kernel) hP hS (fun _ h => h) ⟨Nat.le_of_ble_eq_true rfl, Nat.le_of_ble_eq_true rfl⟩ ⟨Nat.zero_le _, Nat.zero_le _⟩ hl.1 rfl rfl (Nat.le_of_ble_eq_true rfl) dX5_survey_10 (fun r v1 f1 g1 H locs hq hP _ hS => ?_)
  obtain ⟨rfl, rfl, rfl, rfl⟩ := hq
  show W p l e (gRm 1 23) s m args below meth c _ _ 0 0 Q (F0 m 13 ls [])
  have hP : gWd D (rwT k ad) v (va_up (va_up (va_up (va_up (va_up f 34 a34_2) 35 a35_2) 36 (gfill (f 36) 320 0)) 37 (f 37)) 38 (f 38)) g H := ⟨hP.1, (gF_up (V := rwV) (F := rwF) (gF_up (V := rwV) (F := rwF) (gF_up (V := rwV) (F := rwF) (gF_up (V := rwV) (F := rwF) (gF_up (V := rwV) (F := rwF) ⟨hok.1, hok.2⟩ 34 (hP.2.2 34)) 35 (hP.2.2 35)) 36 (hP.2.2 36)) 37 (hP.2.2 37)) 38 (hP.2.2 38))⟩
  refine lv_iconst (v := iI 0) hx hb dX5_survey_13 rfl ?_
  refine lv_istore_n (lv' := [(2, .int (iI 0)), (0, .ref (ad 47)), (1, .int (iI a1))]) hx hb dX5_survey_14 rfl hl (by decide) rfl (fun ls hl => ?_)
  have L_3 : ∀ (n : Nat) (x2 : Int) (c36_3 : Int → Int) (c37_3 : Int → Int) (c38_3 : Int → Int) (H : Heap) (locs : List Loc) (ls : Array Slot), 300 - x2 < (n : Int) → (0 ≤ x2 ∧ x2 ≤ (v 23)) → (∀ k, 0 ≤ k → k < 320 → c36_3 k ≤ x2) → (svOk (f 20) (f 21) (f 22) (f 26) (Fk (f 28) (f 29) (f 30) (f 25) (v 24) a1) x2 c36_3 c37_3 c38_3) → gWd D (rwT k ad) v (va_up (va_up (va_up (va_up (va_up f 34 a34_2) 35 a35_2) 36 c36_3) 37 c37_3) 38 c38_3) g H → va_S A s.heap H locs → lv_has ls 4 [(0, .ref (ad 47)), (1, .int (iI a1)), (2, .int (iI x2))] → W p l e (gRm 1 23) s m args below meth c H locs 0 0 Q (F0 m 15 ls []) := by
    intro n
    induction n with
    | zero =>
      intro x2 c36_3 c37_3 c38_3 H locs ls hn_3 i3_0 i3_1 i3_2 hP hS hl
      exfalso; omega
    | succ n ih_15 =>
      intro x2 c36_3 c37_3 c38_3 H locs ls hn_3 i3_0 i3_1 i3_2 hP hS hl
      have hcnt := i3_1
      have hS_ := i3_2
      have hr1 : (0 ≤ (f 20) x2 ∧ (f 20) x2 ≤ 15) ∧ (0 ≤ (f 21) x2 ∧ (f 21) x2 ≤ 3) ∧ (0 ≤ (f 22) x2 ∧ (f 22) x2 ≤ 4) := ⟨hok.2 20 x2, hok.2 21 x2, hok.2 22 x2⟩
      refine lv_iload_n hx hb dX5_survey_15 rfl (lv_at hl 2 rfl) ?_
      refine lv_aload_n hx hb dX5_survey_16 rfl (lv_at hl 0 rfl) ?_
      refine rwG_results_tries C hP mF_X5_55 dX5_survey_17 ?_
      refine rwG_tries_many C hP mF_X5_73 dX5_survey_20 ?_
      refine gi_cge (tgt := 135) hx hb dX5_survey_23 (by decide) (by omega) (by omega) (fun c_4 => ?_) (fun c_4 => ?_)
      · exact g_vret hQ C hr hlocks hP hS dX5_survey_135 ⟨a34_2, a35_2, c36_3, c37_3, c38_3, rfl, rfl, rfl, rfl, (by rw [show (v 23) = x2 by omega]; exact hS_), hkn⟩
      · refine lv_aload_n hx hb dX5_survey_26 rfl (lv_at hl 0 rfl) ?_
        refine rwG_results_tries C hP mF_X5_55 dX5_survey_27 ?_
        refine rwG_tries_how C hP mF_X5_79 dX5_survey_30 ?_
        refine lv_iload_n hx hb dX5_survey_33 rfl (lv_at hl 2 rfl) ?_
        refine rwL_tries_how C hP (by omega) (by omega) dX5_survey_34 ?_
        show W p l e (gRm 1 23) s m args below meth c _ _ 0 0 Q (F0 m 35 ls [.int (iI (f 26 x2))])
        have r_5 : 0 ≤ (f 26 x2) ∧ (f 26 x2) ≤ 4 := hP.2.2 26 x2
        refine lv_iconst (v := iI 4) hx hb dX5_survey_35 rfl ?_
        refine gi_ceq (tgt := 129) hx hb dX5_survey_36 (by decide) (by omega) (by decide) (fun c_6 => ?_) (fun c_6 => ?_)
        · refine lv_iinc (v := iI (x2 + 1)) (lv' := [(2, .int (iI (x2 + 1))), (0, .ref (ad 47)), (1, .int (iI a1))]) hx hb dX5_survey_129 hl (k := 2) rfl (by show iI _ + iI 1 = _; rw [iI_add]) (by decide) rfl (fun ls hl => ?_)
          refine lv_goto (tgt := 15) hx hb dX5_survey_132 (by decide) ?_
          exact ih_15 (x2 + 1) c36_3 c37_3 c38_3 _ _ _ (by omega) (by omega) (by first | exact cntKeep hcnt | exact cntUp hcnt (hcnt _ (by omega) (by omega))) (by first | exact svOk_skip (by omega) hS_ (by omega) | exact svOk_new (by omega) hr1 hS_ hce (by omega) (sv_lt hkr hr1 hS_ hce hkn (by omega) (by omega) (by omega)) rfl (by omega) | exact svOk_old (by omega) hr1 hS_ hce (by omega) (by have := (sv_most hkr hr1 hS_ hce).2.2; omega) (sv_ge hkr hr1 hS_ hce hkn (by omega) (by omega) ⟨by have := (sv_most hkr hr1 hS_ hce).2.2; omega, by omega⟩) rfl) hP hS (lv_sub hl [1, 2, 0] rfl)
        · refine lv_aload_n hx hb dX5_survey_39 rfl (lv_at hl 0 rfl) ?_
          refine rwG_results_tries C hP mF_X5_55 dX5_survey_40 ?_
          refine rwG_tries_round C hP mF_X5_82 dX5_survey_43 ?_
          refine lv_iload_n hx hb dX5_survey_46 rfl (lv_at hl 2 rfl) ?_
          refine rwL_tries_round C hP (by omega) (by omega) dX5_survey_47 ?_
          show W p l e (gRm 1 23) s m args below meth c _ _ 0 0 Q (F0 m 48 ls [.int (iI (f 21 x2))])
          have r_7 : 0 ≤ (f 21 x2) ∧ (f 21 x2) ≤ 3 := hP.2.2 21 x2
          refine lv_aload_n hx hb dX5_survey_48 rfl (lv_at hl 0 rfl) ?_
          refine rwG_results_tries C hP mF_X5_55 dX5_survey_49 ?_
          refine rwG_tries_climber C hP mF_X5_85 dX5_survey_52 ?_
          refine lv_iload_n hx hb dX5_survey_55 rfl (lv_at hl 2 rfl) ?_
          refine rwL_tries_climber C hP (by omega) (by omega) dX5_survey_56 ?_
          show W p l e (gRm 1 23) s m args below meth c _ _ 0 0 Q (F0 m 57 ls [.int (iI (f 20 x2)), .int (iI (f 21 x2))])
          have r_8 : 0 ≤ (f 20 x2) ∧ (f 20 x2) ≤ 15 := hP.2.2 20 x2
          refine lv_aload_n hx hb dX5_survey_57 rfl (lv_at hl 0 rfl) ?_
          refine rwG_results_tries C hP mF_X5_55 dX5_survey_58 ?_
          refine rwG_tries_route C hP mF_X5_88 dX5_survey_61 ?_
          refine lv_iload_n hx hb dX5_survey_64 rfl (lv_at hl 2 rfl) ?_
          refine rwL_tries_route C hP (by omega) (by omega) dX5_survey_65 ?_
          show W p l e (gRm 1 23) s m args below meth c _ _ 0 0 Q (F0 m 66 ls [.int (iI (f 22 x2)), .int (iI (f 20 x2)), .int (iI (f 21 x2))])
          have r_9 : 0 ≤ (f 22 x2) ∧ (f 22 x2) ≤ 4 := hP.2.2 22 x2
          refine g_cs (As := [.int (iI (f 21 x2)), .int (iI (f 20 x2)), .int (iI (f 22 x2))]) (rest := []) (n := 3) C hml (c_X5_cellOf l D k A ad hD v (va_up (va_up (va_up (va_up (va_up f 34 a34_2) 35 a35_2) 36 c36_3) 37 c37_3) 38 c38_3) g (f 21 x2) (f 20 x2) (f 22 x2) (by omega) (by omega) (by omega) (show 0 ≤ (f 21 x2) ∧ (f 21 x2) ≤ 3 from by omega) (show 0 ≤ (f 20 x2) ∧ (f 20 x2) ≤ 15 from by omega) (show 0 ≤ (f 22 x2) ∧ (f 22 x2) ≤ 4 from by omega)) mM_X5_91 mS_X5_cellOf mN_X5 mC_X5_cellOf (by decide +kernel) hP hS (fun _ h => h) ⟨Nat.le_of_ble_eq_true rfl, Nat.le_of_ble_eq_true rfl⟩ ⟨Nat.zero_le _, Nat.zero_le _⟩ hl.1 rfl rfl (Nat.le_of_ble_eq_true rfl) dX5_survey_66 (fun r_10 v_10 f_10 g_10 H locs hq_10 hP _ hS => ?_)
          obtain ⟨z_10, rfl, rfl, rfl, rfl, p0_10⟩ := hq_10
          show W p l e (gRm 1 23) s m args below meth c _ _ 0 0 Q (F0 m 69 ls [.int (iI z_10)])
          replace p0_10 : z_10 = ((f 21 x2) * 80 + (f 20 x2) * 5 + (f 22 x2)) := p0_10
          have hz_10 : inR z_10 := (by first | omega | (rw [p0_10]; split <;> omega))
          have hce := p0_10
          refine lv_istore_n (lv' := [(3, .int (iI z_10)), (0, .ref (ad 47)), (1, .int (iI a1)), (2, .int (iI x2))]) hx hb dX5_survey_69 rfl hl (by decide) rfl (fun ls hl => ?_)
          refine lv_aload_n hx hb dX5_survey_70 rfl (lv_at hl 1 rfl) ?_
          refine rwG_results_counted C hP mF_X5_18 dX5_survey_71 ?_
          refine lv_iload_n hx hb dX5_survey_74 rfl (lv_at hl 0 rfl) ?_
          refine lv_dup2_11 hx hb dX5_survey_75 rfl rfl ?_
          refine rwL_results_counted C hP (by omega) (by omega) dX5_survey_76 ?_
          show W p l e (gRm 1 23) s m args below meth c _ _ 0 0 Q (F0 m 77 ls [.int (iI (c36_3 z_10)), .int (iI z_10), .ref (ad 50)])
          have r_11 : 0 ≤ (c36_3 z_10) ∧ (c36_3 z_10) ≤ 300 := hP.2.2 36 z_10
          have q_12 := hcnt z_10 (by omega) (by omega)
          refine lv_iconst (v := iI 1) hx hb dX5_survey_77 rfl ?_
          refine gi_add (z := ((c36_3 z_10) + 1)) hx hb dX5_survey_78 rfl ?_
          refine rwS_results_counted (f1 := (va_up (va_up (va_up (va_up (va_up f 34 a34_2) 35 a35_2) 36 (u1 c36_3 z_10 ((c36_3 z_10) + 1))) 37 c37_3) 38 c38_3)) C hP hD hS (by omega) (by omega) (by omega) rfl (Or.inr (gF_up (V := rwV) (F := rwF) (gF_up (V := rwV) (F := rwF) (gF_up (V := rwV) (F := rwF) (gF_up (V := rwV) (F := rwF) (gF_up (V := rwV) (F := rwF) ⟨hok.1, hok.2⟩ 34 (hP.2.2 34)) 35 (hP.2.2 35)) 36 (u1_rng (hP.2.2 36) (show 0 ≤ ((c36_3 z_10) + 1) ∧ ((c36_3 z_10) + 1) ≤ 300 from (by omega)))) 37 (hP.2.2 37)) 38 (hP.2.2 38))) dX5_survey_79 (fun H locs hP hS => ?_)
          refine lv_aload_n hx hb dX5_survey_80 rfl (lv_at hl 1 rfl) ?_
          refine rwG_results_counted C hP mF_X5_18 dX5_survey_81 ?_
          refine lv_iload_n hx hb dX5_survey_84 rfl (lv_at hl 0 rfl) ?_
          refine rwL_results_counted C hP (by omega) (by omega) dX5_survey_85 ?_
          show W p l e (gRm 1 23) s m args below meth c _ _ 0 0 Q (F0 m 86 ls [.int (iI ((u1 c36_3 z_10 ((c36_3 z_10) + 1)) z_10))])
          have r_13 : 0 ≤ ((u1 c36_3 z_10 ((c36_3 z_10) + 1)) z_10) ∧ ((u1 c36_3 z_10 ((c36_3 z_10) + 1)) z_10) ≤ 300 := hP.2.2 36 z_10
          have q_14 : ((u1 c36_3 z_10 ((c36_3 z_10) + 1)) z_10) = (c36_3 z_10) + 1 := u1_s
          refine lv_iconst (v := iI 1) hx hb dX5_survey_86 rfl ?_
          refine gi_ceq (tgt := 110) hx hb dX5_survey_87 (by decide) (by omega) (by decide) (fun c_15 => ?_) (fun c_15 => ?_)
          · refine lv_aload_n hx hb dX5_survey_110 rfl (lv_at hl 1 rfl) ?_
            refine rwG_results_best C hP mF_X5_21 dX5_survey_111 ?_
            refine lv_iload_n hx hb dX5_survey_114 rfl (lv_at hl 0 rfl) ?_
            refine lv_iload_n hx hb dX5_survey_115 rfl (lv_at hl 3 rfl) ?_
            refine rwS_results_best (f1 := (va_up (va_up (va_up (va_up (va_up f 34 a34_2) 35 a35_2) 36 (u1 c36_3 z_10 ((c36_3 z_10) + 1))) 37 (u1 c37_3 z_10 x2)) 38 c38_3)) C hP hD hS (by omega) (by omega) (by omega) rfl (Or.inr (gF_up (V := rwV) (F := rwF) (gF_up (V := rwV) (F := rwF) (gF_up (V := rwV) (F := rwF) (gF_up (V := rwV) (F := rwF) (gF_up (V := rwV) (F := rwF) ⟨hok.1, hok.2⟩ 34 (hP.2.2 34)) 35 (hP.2.2 35)) 36 (hP.2.2 36)) 37 (u1_rng (hP.2.2 37) (show 0 ≤ x2 ∧ x2 ≤ 299 from (by omega)))) 38 (hP.2.2 38))) dX5_survey_116 (fun H locs hP hS => ?_)
            refine lv_aload_n hx hb dX5_survey_117 rfl (lv_at hl 1 rfl) ?_
            refine rwG_results_bestNumber C hP mF_X5_24 dX5_survey_118 ?_
            refine lv_iload_n hx hb dX5_survey_121 rfl (lv_at hl 0 rfl) ?_
            refine lv_aload_n hx hb dX5_survey_122 rfl (lv_at hl 1 rfl) ?_
            refine rwG_results_counted C hP mF_X5_18 dX5_survey_123 ?_
            refine lv_iload_n hx hb dX5_survey_126 rfl (lv_at hl 0 rfl) ?_
            refine rwL_results_counted C hP (by omega) (by omega) dX5_survey_127 ?_
            show W p l e (gRm 1 23) s m args below meth c _ _ 0 0 Q (F0 m 128 ls [.int (iI ((u1 c36_3 z_10 ((c36_3 z_10) + 1)) z_10)), .int (iI z_10), .ref (ad 52)])
            have q_16 : ((u1 c36_3 z_10 ((c36_3 z_10) + 1)) z_10) = (c36_3 z_10) + 1 := u1_s
            refine rwS_results_bestNumber (f1 := (va_up (va_up (va_up (va_up (va_up f 34 a34_2) 35 a35_2) 36 (u1 c36_3 z_10 ((c36_3 z_10) + 1))) 37 (u1 c37_3 z_10 x2)) 38 (u1 c38_3 z_10 ((u1 c36_3 z_10 ((c36_3 z_10) + 1)) z_10)))) C hP hD hS (by omega) (by omega) (by omega) rfl (Or.inr (gF_up (V := rwV) (F := rwF) (gF_up (V := rwV) (F := rwF) (gF_up (V := rwV) (F := rwF) (gF_up (V := rwV) (F := rwF) (gF_up (V := rwV) (F := rwF) ⟨hok.1, hok.2⟩ 34 (hP.2.2 34)) 35 (hP.2.2 35)) 36 (hP.2.2 36)) 37 (hP.2.2 37)) 38 (u1_rng (hP.2.2 38) (show 0 ≤ ((u1 c36_3 z_10 ((c36_3 z_10) + 1)) z_10) ∧ ((u1 c36_3 z_10 ((c36_3 z_10) + 1)) z_10) ≤ 300 from (by omega))))) dX5_survey_128 (fun H locs hP hS => ?_)
            refine lv_iinc (v := iI (x2 + 1)) (lv' := [(2, .int (iI (x2 + 1))), (3, .int (iI z_10)), (0, .ref (ad 47)), (1, .int (iI a1))]) hx hb dX5_survey_129 hl (k := 3) rfl (by show iI _ + iI 1 = _; rw [iI_add]) (by decide) rfl (fun ls hl => ?_)
            refine lv_goto (tgt := 15) hx hb dX5_survey_132 (by decide) ?_
            exact ih_15 (x2 + 1) (u1 c36_3 z_10 ((c36_3 z_10) + 1)) (u1 c37_3 z_10 x2) (u1 c38_3 z_10 ((u1 c36_3 z_10 ((c36_3 z_10) + 1)) z_10)) _ _ _ (by omega) (by omega) (by first | exact cntKeep hcnt | exact cntUp hcnt (hcnt _ (by omega) (by omega))) (by first | exact svOk_skip (by omega) hS_ (by omega) | exact svOk_new (by omega) hr1 hS_ hce (by omega) (sv_lt hkr hr1 hS_ hce hkn (by omega) (by omega) (by omega)) rfl (by omega) | exact svOk_old (by omega) hr1 hS_ hce (by omega) (by have := (sv_most hkr hr1 hS_ hce).2.2; omega) (sv_ge hkr hr1 hS_ hce hkn (by omega) (by omega) ⟨by have := (sv_most hkr hr1 hS_ hce).2.2; omega, by omega⟩) rfl) hP hS (lv_sub hl [2, 3, 0] rfl)
          · refine lv_aload_n hx hb dX5_survey_90 rfl (lv_at hl 1 rfl) ?_
            refine rwG_results_known C hP mF_X5_9 dX5_survey_91 ?_
            refine lv_iload_n hx hb dX5_survey_94 rfl (lv_at hl 3 rfl) ?_
            refine rwL_results_known C hP (by omega) (by omega) dX5_survey_95 ?_
            show W p l e (gRm 1 23) s m args below meth c _ _ 0 0 Q (F0 m 96 ls [.int (iI (a34_2 x2))])
            have r_17 : 0 ≤ (a34_2 x2) ∧ (a34_2 x2) ≤ 60 := hP.2.2 34 x2
            refine lv_aload_n hx hb dX5_survey_96 rfl (lv_at hl 1 rfl) ?_
            refine rwG_results_known C hP mF_X5_9 dX5_survey_97 ?_
            refine lv_aload_n hx hb dX5_survey_100 rfl (lv_at hl 1 rfl) ?_
            refine rwG_results_best C hP mF_X5_21 dX5_survey_101 ?_
            refine lv_iload_n hx hb dX5_survey_104 rfl (lv_at hl 0 rfl) ?_
            refine rwL_results_best C hP (by omega) (by omega) dX5_survey_105 ?_
            show W p l e (gRm 1 23) s m args below meth c _ _ 0 0 Q (F0 m 106 ls [.int (iI (c37_3 z_10)), .ref (ad 48), .int (iI (a34_2 x2))])
            have r_18 : 0 ≤ (c37_3 z_10) ∧ (c37_3 z_10) ≤ 299 := hP.2.2 37 z_10
            refine rwL_results_known C hP (by omega) (by omega) dX5_survey_106 ?_
            show W p l e (gRm 1 23) s m args below meth c _ _ 0 0 Q (F0 m 107 ls [.int (iI (a34_2 (c37_3 z_10))), .int (iI (a34_2 x2))])
            have r_19 : 0 ≤ (a34_2 (c37_3 z_10)) ∧ (a34_2 (c37_3 z_10)) ≤ 60 := hP.2.2 34 (c37_3 z_10)
            refine gi_cle (tgt := 129) hx hb dX5_survey_107 (by decide) (by omega) (by omega) (fun c_20 => ?_) (fun c_20 => ?_)
            · refine lv_iinc (v := iI (x2 + 1)) (lv' := [(2, .int (iI (x2 + 1))), (3, .int (iI z_10)), (0, .ref (ad 47)), (1, .int (iI a1))]) hx hb dX5_survey_129 hl (k := 3) rfl (by show iI _ + iI 1 = _; rw [iI_add]) (by decide) rfl (fun ls hl => ?_)
              refine lv_goto (tgt := 15) hx hb dX5_survey_132 (by decide) ?_
              exact ih_15 (x2 + 1) (u1 c36_3 z_10 ((c36_3 z_10) + 1)) c37_3 c38_3 _ _ _ (by omega) (by omega) (by first | exact cntKeep hcnt | exact cntUp hcnt (hcnt _ (by omega) (by omega))) (by first | exact svOk_skip (by omega) hS_ (by omega) | exact svOk_new (by omega) hr1 hS_ hce (by omega) (sv_lt hkr hr1 hS_ hce hkn (by omega) (by omega) (by omega)) rfl (by omega) | exact svOk_old (by omega) hr1 hS_ hce (by omega) (by have := (sv_most hkr hr1 hS_ hce).2.2; omega) (sv_ge hkr hr1 hS_ hce hkn (by omega) (by omega) ⟨by have := (sv_most hkr hr1 hS_ hce).2.2; omega, by omega⟩) rfl) hP hS (lv_sub hl [2, 3, 0] rfl)
            · refine lv_aload_n hx hb dX5_survey_110 rfl (lv_at hl 1 rfl) ?_
              refine rwG_results_best C hP mF_X5_21 dX5_survey_111 ?_
              refine lv_iload_n hx hb dX5_survey_114 rfl (lv_at hl 0 rfl) ?_
              refine lv_iload_n hx hb dX5_survey_115 rfl (lv_at hl 3 rfl) ?_
              refine rwS_results_best (f1 := (va_up (va_up (va_up (va_up (va_up f 34 a34_2) 35 a35_2) 36 (u1 c36_3 z_10 ((c36_3 z_10) + 1))) 37 (u1 c37_3 z_10 x2)) 38 c38_3)) C hP hD hS (by omega) (by omega) (by omega) rfl (Or.inr (gF_up (V := rwV) (F := rwF) (gF_up (V := rwV) (F := rwF) (gF_up (V := rwV) (F := rwF) (gF_up (V := rwV) (F := rwF) (gF_up (V := rwV) (F := rwF) ⟨hok.1, hok.2⟩ 34 (hP.2.2 34)) 35 (hP.2.2 35)) 36 (hP.2.2 36)) 37 (u1_rng (hP.2.2 37) (show 0 ≤ x2 ∧ x2 ≤ 299 from (by omega)))) 38 (hP.2.2 38))) dX5_survey_116 (fun H locs hP hS => ?_)
              refine lv_aload_n hx hb dX5_survey_117 rfl (lv_at hl 1 rfl) ?_
              refine rwG_results_bestNumber C hP mF_X5_24 dX5_survey_118 ?_
              refine lv_iload_n hx hb dX5_survey_121 rfl (lv_at hl 0 rfl) ?_
              refine lv_aload_n hx hb dX5_survey_122 rfl (lv_at hl 1 rfl) ?_
              refine rwG_results_counted C hP mF_X5_18 dX5_survey_123 ?_
              refine lv_iload_n hx hb dX5_survey_126 rfl (lv_at hl 0 rfl) ?_
              refine rwL_results_counted C hP (by omega) (by omega) dX5_survey_127 ?_
              show W p l e (gRm 1 23) s m args below meth c _ _ 0 0 Q (F0 m 128 ls [.int (iI ((u1 c36_3 z_10 ((c36_3 z_10) + 1)) z_10)), .int (iI z_10), .ref (ad 52)])
              have q_21 : ((u1 c36_3 z_10 ((c36_3 z_10) + 1)) z_10) = (c36_3 z_10) + 1 := u1_s
              refine rwS_results_bestNumber (f1 := (va_up (va_up (va_up (va_up (va_up f 34 a34_2) 35 a35_2) 36 (u1 c36_3 z_10 ((c36_3 z_10) + 1))) 37 (u1 c37_3 z_10 x2)) 38 (u1 c38_3 z_10 ((u1 c36_3 z_10 ((c36_3 z_10) + 1)) z_10)))) C hP hD hS (by omega) (by omega) (by omega) rfl (Or.inr (gF_up (V := rwV) (F := rwF) (gF_up (V := rwV) (F := rwF) (gF_up (V := rwV) (F := rwF) (gF_up (V := rwV) (F := rwF) (gF_up (V := rwV) (F := rwF) ⟨hok.1, hok.2⟩ 34 (hP.2.2 34)) 35 (hP.2.2 35)) 36 (hP.2.2 36)) 37 (hP.2.2 37)) 38 (u1_rng (hP.2.2 38) (show 0 ≤ ((u1 c36_3 z_10 ((c36_3 z_10) + 1)) z_10) ∧ ((u1 c36_3 z_10 ((c36_3 z_10) + 1)) z_10) ≤ 300 from (by omega))))) dX5_survey_128 (fun H locs hP hS => ?_)
              refine lv_iinc (v := iI (x2 + 1)) (lv' := [(2, .int (iI (x2 + 1))), (3, .int (iI z_10)), (0, .ref (ad 47)), (1, .int (iI a1))]) hx hb dX5_survey_129 hl (k := 3) rfl (by show iI _ + iI 1 = _; rw [iI_add]) (by decide) rfl (fun ls hl => ?_)
              refine lv_goto (tgt := 15) hx hb dX5_survey_132 (by decide) ?_
              exact ih_15 (x2 + 1) (u1 c36_3 z_10 ((c36_3 z_10) + 1)) (u1 c37_3 z_10 x2) (u1 c38_3 z_10 ((u1 c36_3 z_10 ((c36_3 z_10) + 1)) z_10)) _ _ _ (by omega) (by omega) (by first | exact cntKeep hcnt | exact cntUp hcnt (hcnt _ (by omega) (by omega))) (by first | exact svOk_skip (by omega) hS_ (by omega) | exact svOk_new (by omega) hr1 hS_ hce (by omega) (sv_lt hkr hr1 hS_ hce hkn (by omega) (by omega) (by omega)) rfl (by omega) | exact svOk_old (by omega) hr1 hS_ hce (by omega) (by have := (sv_most hkr hr1 hS_ hce).2.2; omega) (sv_ge hkr hr1 hS_ hce hkn (by omega) (by omega) ⟨by have := (sv_most hkr hr1 hS_ hce).2.2; omega, by omega⟩) rfl) hP hS (lv_sub hl [2, 3, 0] rfl)
  exact L_3 301 0 (gfill (f 36) 320 0) (f 37) (f 38) _ _ _ (by omega) (by omega) (fun k h0 h1 => by have : (gfill (f 36) 320 0) k = 0 := if_pos ⟨h0, h1⟩; omega) (svOk_0 (fun k h0 h1 => if_pos ⟨h0, h1⟩)) hP hS (lv_sub hl [1, 2, 0] rfl)

set_option maxHeartbeats 4000000 in
set_option maxRecDepth 100000 in
theorem x_Re_workFacts (l : Launch) (D : va_G) (k : Nat → ClassId) (A : Nat → Prop) (ad : Nat → Nat) (hD : rwD A k ad) (v : gV) (f g : gF) (a1 : Int) (a2 : Int) (a3 : Int) (dd : Int) (h_a1 : inR a1) (h_a2 : inR a2) (h_a3 : inR a3) (h1 : 0 ≤ a1 ∧ a1 ≤ 3) (h2 : 0 ≤ a2 ∧ a2 ≤ 15) (h3 : 0 ≤ a3 ∧ a3 ≤ 4) (hsv : svOk (f 20) (f 21) (f 22) (f 26) (Fk (f 28) (f 29) (f 30) (f 25) (v 24) dd) (v 23) (f 36) (f 37) (f 38)) (hkn : ∀ k, 0 ≤ k → k < (v 23) → (f 34) k = (Fk (f 28) (f 29) (f 30) (f 25) (v 24) dd) k) : GM l D k A (rwT k ad) yX5_workFacts cX5_workFacts 8 none 2 49 [.ref (ad 47), .int (iI a1), .int (iI a2), .int (iI a3)] v f g (fun r v1 f1 g1 => ∃ (a39_ : Int → Int), r = none ∧ v = v1 ∧ (va_up f 39 a39_) = f1 ∧ g = g1 ∧ (a39_ 0 = gFd (f 20) (f 21) (f 22) (f 23) (f 24) (f 25) (f 26) (f 28) (f 29) (f 30) (f 15) (f 17) (v 23) (v 24) dd a1 a3 a2 0 ∧ a39_ 1 = gFd (f 20) (f 21) (f 22) (f 23) (f 24) (f 25) (f 26) (f 28) (f 29) (f 30) (f 15) (f 17) (v 23) (v 24) dd a1 a3 a2 1 ∧ a39_ 2 = gFd (f 20) (f 21) (f 22) (f 23) (f 24) (f 25) (f 26) (f 28) (f 29) (f 30) (f 15) (f 17) (v 23) (v 24) dd a1 a3 a2 2 ∧ a39_ 3 = gFd (f 20) (f 21) (f 22) (f 23) (f 24) (f 25) (f 26) (f 28) (f 29) (f 30) (f 15) (f 17) (v 23) (v 24) dd a1 a3 a2 3 ∧ a39_ 4 = gFd (f 20) (f 21) (f 22) (f 23) (f 24) (f 25) (f 26) (f 28) (f 29) (f 30) (f 15) (f 17) (v 23) (v 24) dd a1 a3 a2 4 ∧ a39_ 5 = gFd (f 20) (f 21) (f 22) (f 23) (f 24) (f 25) (f 26) (f 28) (f 29) (f 30) (f 15) (f 17) (v 23) (v 24) dd a1 a3 a2 5)) := by
  refine GM.of (by decide) (Nat.le_of_ble_eq_true rfl) ?_
  intro p e s m args below meth c Q ls hQ C hml hr hlocks hP hl
  have hx := C.1
  have hb := C.2.1
  have hok := hP.2
  have hS : va_S A s.heap s.heap [] := va_S.rf
  have hl : lv_has ls 8 [(0, .ref (ad 47)), (1, .int (iI a1)), (2, .int (iI a2)), (3, .int (iI a3))] := hl
  have hP : gWd D (rwT k ad) v (va_up f 39 (f 39)) g s.heap := by rw [va_id]; exact hP
  have hkr : ∀ k, 0 ≤ (Fk (f 28) (f 29) (f 30) (f 25) (v 24) dd) k ∧ (Fk (f 28) (f 29) (f 30) (f 25) (v 24) dd) k ≤ 60 := fun k => kH_r (hok.2 25 k) (hok.2 29) _
  have hcl : svC (fS (f 20) (f 21) (f 22) (f 26) (Fk (f 28) (f 29) (f 30) (f 25) (v 24) dd) a2 a1 a3 (v 23).toNat) ((f 36) (a1 * 80 + a2 * 5 + a3)) ((f 37) (a1 * 80 + a2 * 5 + a3)) ((f 38) (a1 * 80 + a2 * 5 + a3)) := hsv a2 a1 a3 (by omega) (by omega) (by omega)
  have hfo := fS_ok (wh := (f 20)) (rd := (f 21)) (rt := (f 22)) (hw := (f 26)) (c := a2) (r := a1) (t := a3) hkr (v 23).toNat
  have hc0 := hcl.1
  have r_1 : 0 ≤ (v 23) ∧ (v 23) ≤ 300 := hok.1 23
  refine lv_aload_n hx hb dX5_workFacts_0 rfl (lv_at hl 0 rfl) ?_
  refine rwG_results_facts C hP mF_X5_27 dX5_workFacts_1 ?_
  refine lv_iconst (v := iI 0) hx hb dX5_workFacts_4 rfl ?_
  refine g_cs (As := [.ref (ad 53), .int (iI 0)]) (rest := []) (n := 2) C hml (c_fillI l D k A (rwT k ad) (ad 53) 53 39 6 (fun _ _ _ => rfl) (fun _ _ _ _ => rfl) hD (by decide) v (va_up f 39 (f 39)) g 0 (by decide) (show (-2000000) ≤ 0 ∧ 0 ≤ 2000000 from (by decide))) mM_X5_67 mS_J7_fill_53178 mN_J7 mC_J7_fill_53178 (by decide +kernel) hP hS (fun _ h => h) ⟨Nat.le_of_ble_eq_true rfl, Nat.le_of_ble_eq_true rfl⟩ ⟨Nat.zero_le _, Nat.zero_le _⟩ hl.1 rfl rfl (Nat.le_of_ble_eq_true rfl) dX5_workFacts_5 (fun r v1 f1 g1 H locs hq hP _ hS => ?_)
  obtain ⟨rfl, rfl, rfl, rfl⟩ := hq
  show W p l e (gRm 2 49) s m args below meth c _ _ 0 0 Q (F0 m 8 ls [])
  have hP : gWd D (rwT k ad) v (va_up f 39 (gfill (f 39) 6 0)) g H := ⟨hP.1, (gF_up (V := rwV) (F := rwF) ⟨hok.1, hok.2⟩ 39 (hP.2.2 39))⟩
  refine lv_iload_n hx hb dX5_workFacts_8 rfl (lv_at hl 1 rfl) ?_
  refine lv_iload_n hx hb dX5_workFacts_9 rfl (lv_at hl 2 rfl) ?_
  refine lv_iload_n hx hb dX5_workFacts_10 rfl (lv_at hl 3 rfl) ?_
  refine g_cs (As := [.int (iI a1), .int (iI a2), .int (iI a3)]) (rest := []) (n := 3) C hml (c_X5_cellOf l D k A ad hD v (va_up f 39 (gfill (f 39) 6 0)) g a1 a2 a3 (by omega) (by omega) (by omega) (show 0 ≤ a1 ∧ a1 ≤ 3 from by omega) (show 0 ≤ a2 ∧ a2 ≤ 15 from by omega) (show 0 ≤ a3 ∧ a3 ≤ 4 from by omega)) mM_X5_91 mS_X5_cellOf mN_X5 mC_X5_cellOf (by decide +kernel) hP hS (fun _ h => h) ⟨Nat.le_of_ble_eq_true rfl, Nat.le_of_ble_eq_true rfl⟩ ⟨Nat.zero_le _, Nat.zero_le _⟩ hl.1 rfl rfl (Nat.le_of_ble_eq_true rfl) dX5_workFacts_11 (fun r_2 v_2 f_2 g_2 H locs hq_2 hP _ hS => ?_)
  obtain ⟨z_2, rfl, rfl, rfl, rfl, p0_2⟩ := hq_2
  show W p l e (gRm 2 49) s m args below meth c _ _ 0 0 Q (F0 m 14 ls [.int (iI z_2)])
  replace p0_2 : z_2 = (a1 * 80 + a2 * 5 + a3) := p0_2
  have hz_2 : inR z_2 := (by first | omega | (rw [p0_2]; split <;> omega))
  have hce := p0_2
  rw [← hce] at hcl hc0
  refine lv_istore (lv' := [(4, .int (iI z_2)), (0, .ref (ad 47)), (1, .int (iI a1)), (2, .int (iI a2)), (3, .int (iI a3))]) hx hb dX5_workFacts_14 hl (by decide) rfl (fun ls hl => ?_)
  refine lv_aload_n hx hb dX5_workFacts_16 rfl (lv_at hl 1 rfl) ?_
  refine rwG_results_counted C hP mF_X5_18 dX5_workFacts_17 ?_
  refine lv_iload hx hb dX5_workFacts_20 (lv_at hl 0 rfl) ?_
  refine rwL_results_counted C hP (by omega) (by omega) dX5_workFacts_22 ?_
  show W p l e (gRm 2 49) s m args below meth c _ _ 0 0 Q (F0 m 23 ls [.int (iI (f 36 z_2))])
  have r_3 : 0 ≤ (f 36 z_2) ∧ (f 36 z_2) ≤ 300 := hP.2.2 36 z_2
  refine gi_zne (tgt := 27) hx hb dX5_workFacts_23 (by decide) (by omega) (fun c_4 => ?_) (fun c_4 => ?_)
  · have hp : 0 < (fS (f 20) (f 21) (f 22) (f 26) (Fk (f 28) (f 29) (f 30) (f 25) (v 24) dd) a2 a1 a3 (v 23).toNat).1 := by have := hfo.1; omega
    have hb1 := (hcl.2 hp).1
    have hb2 := (hcl.2 hp).2
    have hf3 := hfo.2.2 hp
    have hk1 := hkn (fS (f 20) (f 21) (f 22) (f 26) (Fk (f 28) (f 29) (f 30) (f 25) (v 24) dd) a2 a1 a3 (v 23).toNat).2.2.1 hf3.1.1 (by have := hf3.1.2; omega)
    rw [hf3.2.1, ← hb1] at hk1
    refine lv_aload_n hx hb dX5_workFacts_27 rfl (lv_at hl 1 rfl) ?_
    refine rwG_results_best C hP mF_X5_21 dX5_workFacts_28 ?_
    refine lv_iload hx hb dX5_workFacts_31 (lv_at hl 0 rfl) ?_
    refine rwL_results_best C hP (by omega) (by omega) dX5_workFacts_33 ?_
    show W p l e (gRm 2 49) s m args below meth c _ _ 0 0 Q (F0 m 34 ls [.int (iI (f 37 z_2))])
    have r_5 : 0 ≤ (f 37 z_2) ∧ (f 37 z_2) ≤ 299 := hP.2.2 37 z_2
    refine lv_istore (lv' := [(5, .int (iI (f 37 z_2))), (4, .int (iI z_2)), (0, .ref (ad 47)), (1, .int (iI a1)), (2, .int (iI a2)), (3, .int (iI a3))]) hx hb dX5_workFacts_34 hl (by decide) rfl (fun ls hl => ?_)
    refine lv_aload_n hx hb dX5_workFacts_36 rfl (lv_at hl 2 rfl) ?_
    refine rwG_results_known C hP mF_X5_9 dX5_workFacts_37 ?_
    refine lv_iload hx hb dX5_workFacts_40 (lv_at hl 0 rfl) ?_
    refine rwL_results_known C hP (by omega) (by omega) dX5_workFacts_42 ?_
    show W p l e (gRm 2 49) s m args below meth c _ _ 0 0 Q (F0 m 43 ls [.int (iI (f 34 (f 37 z_2)))])
    have r_6 : 0 ≤ (f 34 (f 37 z_2)) ∧ (f 34 (f 37 z_2)) ≤ 60 := hP.2.2 34 (f 37 z_2)
    refine lv_istore (lv' := [(6, .int (iI (f 34 (f 37 z_2)))), (5, .int (iI (f 37 z_2))), (4, .int (iI z_2)), (0, .ref (ad 47)), (1, .int (iI a1)), (2, .int (iI a2)), (3, .int (iI a3))]) hx hb dX5_workFacts_43 hl (by decide) rfl (fun ls hl => ?_)
    refine lv_iload hx hb dX5_workFacts_45 (lv_at hl 0 rfl) ?_
    refine lv_aload_n hx hb dX5_workFacts_47 rfl (lv_at hl 3 rfl) ?_
    refine rwG_results_wall C hP mF_X5_47 dX5_workFacts_48 ?_
    refine lv_iload_n hx hb dX5_workFacts_51 rfl (lv_at hl 4 rfl) ?_
    refine lv_iload_n hx hb dX5_workFacts_52 rfl (lv_at hl 6 rfl) ?_
    refine g_cv (As := [.int (iI a1), .int (iI a3)]) (rest := [.int (iI (f 34 (f 37 z_2)))]) (n := 2) C hml (c_X8_holdsOf l D k A ad hD v (va_up f 39 (gfill (f 39) 6 0)) g a1 a3 (by omega) (by omega) (show 0 ≤ a1 ∧ a1 ≤ 3 from by omega) (show 0 ≤ a3 ∧ a3 ≤ 4 from by omega)) mM_X5_108 mI_X8_holdsOf mE_X8_holdsOf mN_X8 mC_X8_holdsOf (by decide +kernel) 23 (ci := 8) rfl rfl hP hS (fun _ h => h) ⟨Nat.le_of_ble_eq_true rfl, Nat.le_of_ble_eq_true rfl⟩ ⟨Nat.zero_le _, Nat.zero_le _⟩ hl.1 rfl rfl (Nat.le_of_ble_eq_true rfl) dX5_workFacts_53 (fun r_7 v_7 f_7 g_7 H locs hq_7 hP _ hS => ?_)
    obtain ⟨z_7, rfl, rfl, rfl, rfl, p0_7, p1_7⟩ := hq_7
    show W p l e (gRm 2 49) s m args below meth c _ _ 0 0 Q (F0 m 56 ls [.int (iI z_7), .int (iI (f 34 (f 37 z_2)))])
    replace p0_7 : z_7 = ((f 15) (a1 * 5 + a3)) := p0_7
    replace p1_7 : 0 ≤ z_7 ∧ z_7 ≤ 60 := p1_7
    have hz_7 : inR z_7 := (by first | omega | (rw [p0_7]; split <;> omega))
    refine gi_cne (tgt := 63) hx hb dX5_workFacts_56 (by decide) (by omega) (by omega) (fun c_8 => ?_) (fun c_8 => ?_)
    · refine lv_iconst (v := iI 0) hx hb dX5_workFacts_63 rfl ?_
      refine lv_istore (lv' := [(7, .int (iI 0)), (6, .int (iI (f 34 (f 37 z_2)))), (5, .int (iI (f 37 z_2))), (4, .int (iI z_2)), (0, .ref (ad 47)), (1, .int (iI a1)), (2, .int (iI a2)), (3, .int (iI a3))]) hx hb dX5_workFacts_64 hl (by decide) rfl (fun ls hl => ?_)
      refine lv_aload_n hx hb dX5_workFacts_66 rfl (lv_at hl 4 rfl) ?_
      refine rwG_results_facts C hP mF_X5_27 dX5_workFacts_67 ?_
      refine lv_iconst (v := iI 0) hx hb dX5_workFacts_70 rfl ?_
      refine lv_iload hx hb dX5_workFacts_71 (lv_at hl 0 rfl) ?_
      refine gi_zeq (tgt := 80) hx hb dX5_workFacts_73 (by decide) (by decide) (fun c_9 => ?_) (fun c_9 => ?_)
      · refine lv_iconst (v := iI 0) hx hb dX5_workFacts_80 rfl ?_
        refine rwS_results_facts (f1 := (va_up f 39 (u1 (gfill (f 39) 6 0) 0 0))) C hP hD hS (by decide) (by decide) (by decide) rfl (Or.inr (gF_up (V := rwV) (F := rwF) ⟨hok.1, hok.2⟩ 39 (u1_rng (hP.2.2 39) (show (-2000000) ≤ 0 ∧ 0 ≤ 2000000 from (by decide))))) dX5_workFacts_81 (fun H locs hP hS => ?_)
        refine lv_aload_n hx hb dX5_workFacts_82 rfl (lv_at hl 4 rfl) ?_
        refine rwG_results_facts C hP mF_X5_27 dX5_workFacts_83 ?_
        refine lv_iconst (v := iI 1) hx hb dX5_workFacts_86 rfl ?_
        refine lv_aload_n hx hb dX5_workFacts_87 rfl (lv_at hl 4 rfl) ?_
        refine rwG_results_wall C hP mF_X5_47 dX5_workFacts_88 ?_
        refine lv_iload_n hx hb dX5_workFacts_91 rfl (lv_at hl 5 rfl) ?_
        refine lv_iload_n hx hb dX5_workFacts_92 rfl (lv_at hl 7 rfl) ?_
        refine lv_iload hx hb dX5_workFacts_93 (lv_at hl 1 rfl) ?_
        refine g_cv (As := [.int (iI a1), .int (iI a3), .int (iI (f 34 (f 37 z_2)))]) (rest := [.int (iI 1), .ref (ad 53)]) (n := 3) C hml (x_Wa_zonesUpTo l D k A ad hD v (va_up f 39 (u1 (gfill (f 39) 6 0) 0 0)) g a1 a3 (f 34 (f 37 z_2)) (by omega) (by omega) (by omega) (show 0 ≤ a1 ∧ a1 ≤ 3 from by omega) (show 0 ≤ a3 ∧ a3 ≤ 4 from by omega)) mM_X5_114 mI_X8_zonesUpTo mE_X8_zonesUpTo mN_X8 mC_X8_zonesUpTo (by decide +kernel) 23 (ci := 8) rfl rfl hP hS (fun _ h => h) ⟨Nat.le_of_ble_eq_true rfl, Nat.le_of_ble_eq_true rfl⟩ ⟨Nat.zero_le _, Nat.zero_le _⟩ hl.1 rfl rfl (Nat.le_of_ble_eq_true rfl) dX5_workFacts_95 (fun r_10 v_10 f_10 g_10 H locs hq_10 hP _ hS => ?_)
        obtain ⟨z_10, rfl, rfl, rfl, rfl, p0_10, p1_10⟩ := hq_10
        show W p l e (gRm 2 49) s m args below meth c _ _ 0 0 Q (F0 m 98 ls [.int (iI z_10), .int (iI 1), .ref (ad 53)])
        replace p0_10 : z_10 = (zU (f 17) ((a1 * 5 + a3) * 3) (f 34 (f 37 z_2))) := p0_10
        replace p1_10 : 0 ≤ z_10 ∧ z_10 ≤ 3 := p1_10
        have hz_10 : inR z_10 := (by first | omega | (rw [p0_10]; split <;> omega))
        have hzu := p0_10
        refine rwS_results_facts (f1 := (va_up f 39 (u1 (u1 (gfill (f 39) 6 0) 0 0) 1 z_10))) C hP hD hS (by decide) (by decide) (by omega) rfl (Or.inr (gF_up (V := rwV) (F := rwF) ⟨hok.1, hok.2⟩ 39 (u1_rng (hP.2.2 39) (show (-2000000) ≤ z_10 ∧ z_10 ≤ 2000000 from (by omega))))) dX5_workFacts_98 (fun H locs hP hS => ?_)
        refine lv_aload_n hx hb dX5_workFacts_99 rfl (lv_at hl 4 rfl) ?_
        refine rwG_results_facts C hP mF_X5_27 dX5_workFacts_100 ?_
        refine lv_iconst (v := iI 2) hx hb dX5_workFacts_103 rfl ?_
        refine lv_iload hx hb dX5_workFacts_104 (lv_at hl 1 rfl) ?_
        refine rwS_results_facts (f1 := (va_up f 39 (u1 (u1 (u1 (gfill (f 39) 6 0) 0 0) 1 z_10) 2 (f 34 (f 37 z_2))))) C hP hD hS (by decide) (by decide) (by omega) rfl (Or.inr (gF_up (V := rwV) (F := rwF) ⟨hok.1, hok.2⟩ 39 (u1_rng (hP.2.2 39) (show (-2000000) ≤ (f 34 (f 37 z_2)) ∧ (f 34 (f 37 z_2)) ≤ 2000000 from (by omega))))) dX5_workFacts_106 (fun H locs hP hS => ?_)
        refine lv_aload_n hx hb dX5_workFacts_107 rfl (lv_at hl 4 rfl) ?_
        refine rwG_results_facts C hP mF_X5_27 dX5_workFacts_108 ?_
        refine lv_iconst (v := iI 3) hx hb dX5_workFacts_111 rfl ?_
        refine lv_aload_n hx hb dX5_workFacts_112 rfl (lv_at hl 4 rfl) ?_
        refine rwG_results_bestNumber C hP mF_X5_24 dX5_workFacts_113 ?_
        refine lv_iload hx hb dX5_workFacts_116 (lv_at hl 3 rfl) ?_
        refine rwL_results_bestNumber C hP (by omega) (by omega) dX5_workFacts_118 ?_
        show W p l e (gRm 2 49) s m args below meth c _ _ 0 0 Q (F0 m 119 ls [.int (iI (f 38 z_2)), .int (iI 3), .ref (ad 53)])
        have r_11 : 0 ≤ (f 38 z_2) ∧ (f 38 z_2) ≤ 300 := hP.2.2 38 z_2
        refine rwS_results_facts (f1 := (va_up f 39 (u1 (u1 (u1 (u1 (gfill (f 39) 6 0) 0 0) 1 z_10) 2 (f 34 (f 37 z_2))) 3 (f 38 z_2)))) C hP hD hS (by decide) (by decide) (by omega) rfl (Or.inr (gF_up (V := rwV) (F := rwF) ⟨hok.1, hok.2⟩ 39 (u1_rng (hP.2.2 39) (show (-2000000) ≤ (f 38 z_2) ∧ (f 38 z_2) ≤ 2000000 from (by omega))))) dX5_workFacts_119 (fun H locs hP hS => ?_)
        refine lv_aload_n hx hb dX5_workFacts_120 rfl (lv_at hl 4 rfl) ?_
        refine rwG_results_facts C hP mF_X5_27 dX5_workFacts_121 ?_
        refine lv_iconst (v := iI 4) hx hb dX5_workFacts_124 rfl ?_
        refine lv_aload_n hx hb dX5_workFacts_125 rfl (lv_at hl 4 rfl) ?_
        refine rwG_results_tries C hP mF_X5_55 dX5_workFacts_126 ?_
        refine rwG_tries_how C hP mF_X5_79 dX5_workFacts_129 ?_
        refine lv_iload hx hb dX5_workFacts_132 (lv_at hl 2 rfl) ?_
        refine rwL_tries_how C hP (by omega) (by omega) dX5_workFacts_134 ?_
        show W p l e (gRm 2 49) s m args below meth c _ _ 0 0 Q (F0 m 135 ls [.int (iI (f 26 (f 37 z_2))), .int (iI 4), .ref (ad 53)])
        have r_12 : 0 ≤ (f 26 (f 37 z_2)) ∧ (f 26 (f 37 z_2)) ≤ 4 := hP.2.2 26 (f 37 z_2)
        refine gi_zne (tgt := 142) hx hb dX5_workFacts_135 (by decide) (by omega) (fun c_13 => ?_) (fun c_13 => ?_)
        · refine lv_aload_n hx hb dX5_workFacts_142 rfl (lv_at hl 4 rfl) ?_
          refine rwG_results_tries C hP mF_X5_55 dX5_workFacts_143 ?_
          refine rwG_tries_ended C hP mF_X5_117 dX5_workFacts_146 ?_
          refine lv_iload hx hb dX5_workFacts_149 (lv_at hl 2 rfl) ?_
          refine rwL_tries_ended C hP (by omega) (by omega) dX5_workFacts_151 ?_
          show W p l e (gRm 2 49) s m args below meth c _ _ 0 0 Q (F0 m 152 ls [.int (iI (f 24 (f 37 z_2))), .int (iI 4), .ref (ad 53)])
          have r_14 : (-1) ≤ (f 24 (f 37 z_2)) ∧ (f 24 (f 37 z_2)) ≤ 1000999 := hP.2.2 24 (f 37 z_2)
          refine lv_aload_n hx hb dX5_workFacts_152 rfl (lv_at hl 4 rfl) ?_
          refine rwG_results_tries C hP mF_X5_55 dX5_workFacts_153 ?_
          refine rwG_tries_begun C hP mF_X5_120 dX5_workFacts_156 ?_
          refine lv_iload hx hb dX5_workFacts_159 (lv_at hl 2 rfl) ?_
          refine rwL_tries_begun C hP (by omega) (by omega) dX5_workFacts_161 ?_
          show W p l e (gRm 2 49) s m args below meth c _ _ 0 0 Q (F0 m 162 ls [.int (iI (f 23 (f 37 z_2))), .int (iI (f 24 (f 37 z_2))), .int (iI 4), .ref (ad 53)])
          have r_15 : 0 ≤ (f 23 (f 37 z_2)) ∧ (f 23 (f 37 z_2)) ≤ 1000000 := hP.2.2 23 (f 37 z_2)
          refine gi_sub (z := ((f 24 (f 37 z_2)) - (f 23 (f 37 z_2)))) hx hb dX5_workFacts_162 rfl ?_
          refine rwS_results_facts (f1 := (va_up f 39 (u1 (u1 (u1 (u1 (u1 (gfill (f 39) 6 0) 0 0) 1 z_10) 2 (f 34 (f 37 z_2))) 3 (f 38 z_2)) 4 ((f 24 (f 37 z_2)) - (f 23 (f 37 z_2)))))) C hP hD hS (by decide) (by decide) (by omega) rfl (Or.inr (gF_up (V := rwV) (F := rwF) ⟨hok.1, hok.2⟩ 39 (u1_rng (hP.2.2 39) (show (-2000000) ≤ ((f 24 (f 37 z_2)) - (f 23 (f 37 z_2))) ∧ ((f 24 (f 37 z_2)) - (f 23 (f 37 z_2))) ≤ 2000000 from (by omega))))) dX5_workFacts_163 (fun H locs hP hS => ?_)
          refine lv_aload_n hx hb dX5_workFacts_164 rfl (lv_at hl 4 rfl) ?_
          refine rwG_results_facts C hP mF_X5_27 dX5_workFacts_165 ?_
          refine lv_iconst (v := iI 5) hx hb dX5_workFacts_168 rfl ?_
          refine lv_iload hx hb dX5_workFacts_169 (lv_at hl 0 rfl) ?_
          refine gi_zeq (tgt := 189) hx hb dX5_workFacts_171 (by decide) (by decide) (fun c_16 => ?_) (fun c_16 => ?_)
          · refine lv_iconst (v := iI 0) hx hb dX5_workFacts_189 rfl ?_
            refine rwS_results_facts (f1 := (va_up f 39 (u1 (u1 (u1 (u1 (u1 (u1 (gfill (f 39) 6 0) 0 0) 1 z_10) 2 (f 34 (f 37 z_2))) 3 (f 38 z_2)) 4 ((f 24 (f 37 z_2)) - (f 23 (f 37 z_2)))) 5 0))) C hP hD hS (by decide) (by decide) (by decide) rfl (Or.inr (gF_up (V := rwV) (F := rwF) ⟨hok.1, hok.2⟩ 39 (u1_rng (hP.2.2 39) (show (-2000000) ≤ 0 ∧ 0 ≤ 2000000 from (by decide))))) dX5_workFacts_190 (fun H locs hP hS => ?_)
            exact g_vret hQ C hr hlocks hP hS dX5_workFacts_191 ⟨(u1 (u1 (u1 (u1 (u1 (u1 (gfill (f 39) 6 0) 0 0) 1 z_10) 2 (f 34 (f 37 z_2))) 3 (f 38 z_2)) 4 ((f 24 (f 37 z_2)) - (f 23 (f 37 z_2)))) 5 0), rfl, rfl, rfl, rfl, (by first | exact fa_zero (by omega) | exact fa_all hp (by omega) (by omega) (by omega) (by first | rw [if_pos (by omega)] | rw [if_neg (by omega)]) hzu rfl rfl (by first | rw [if_pos (by omega)] | rw [if_neg (by omega)]) (by first | rw [if_pos (by omega)] | rw [if_neg (by omega)]))⟩
          · exfalso; omega
        · refine lv_iconst (v := iI 0) hx hb dX5_workFacts_138 rfl ?_
          refine lv_goto (tgt := 163) hx hb dX5_workFacts_139 (by decide) ?_
          refine rwS_results_facts (f1 := (va_up f 39 (u1 (u1 (u1 (u1 (u1 (gfill (f 39) 6 0) 0 0) 1 z_10) 2 (f 34 (f 37 z_2))) 3 (f 38 z_2)) 4 0))) C hP hD hS (by decide) (by decide) (by decide) rfl (Or.inr (gF_up (V := rwV) (F := rwF) ⟨hok.1, hok.2⟩ 39 (u1_rng (hP.2.2 39) (show (-2000000) ≤ 0 ∧ 0 ≤ 2000000 from (by decide))))) dX5_workFacts_163 (fun H locs hP hS => ?_)
          refine lv_aload_n hx hb dX5_workFacts_164 rfl (lv_at hl 4 rfl) ?_
          refine rwG_results_facts C hP mF_X5_27 dX5_workFacts_165 ?_
          refine lv_iconst (v := iI 5) hx hb dX5_workFacts_168 rfl ?_
          refine lv_iload hx hb dX5_workFacts_169 (lv_at hl 0 rfl) ?_
          refine gi_zeq (tgt := 189) hx hb dX5_workFacts_171 (by decide) (by decide) (fun c_17 => ?_) (fun c_17 => ?_)
          · refine lv_iconst (v := iI 0) hx hb dX5_workFacts_189 rfl ?_
            refine rwS_results_facts (f1 := (va_up f 39 (u1 (u1 (u1 (u1 (u1 (u1 (gfill (f 39) 6 0) 0 0) 1 z_10) 2 (f 34 (f 37 z_2))) 3 (f 38 z_2)) 4 0) 5 0))) C hP hD hS (by decide) (by decide) (by decide) rfl (Or.inr (gF_up (V := rwV) (F := rwF) ⟨hok.1, hok.2⟩ 39 (u1_rng (hP.2.2 39) (show (-2000000) ≤ 0 ∧ 0 ≤ 2000000 from (by decide))))) dX5_workFacts_190 (fun H locs hP hS => ?_)
            exact g_vret hQ C hr hlocks hP hS dX5_workFacts_191 ⟨(u1 (u1 (u1 (u1 (u1 (u1 (gfill (f 39) 6 0) 0 0) 1 z_10) 2 (f 34 (f 37 z_2))) 3 (f 38 z_2)) 4 0) 5 0), rfl, rfl, rfl, rfl, (by first | exact fa_zero (by omega) | exact fa_all hp (by omega) (by omega) (by omega) (by first | rw [if_pos (by omega)] | rw [if_neg (by omega)]) hzu rfl rfl (by first | rw [if_pos (by omega)] | rw [if_neg (by omega)]) (by first | rw [if_pos (by omega)] | rw [if_neg (by omega)]))⟩
          · exfalso; omega
      · exfalso; omega
    · refine lv_iconst (v := iI 1) hx hb dX5_workFacts_59 rfl ?_
      refine lv_goto (tgt := 64) hx hb dX5_workFacts_60 (by decide) ?_
      refine lv_istore (lv' := [(7, .int (iI 1)), (6, .int (iI (f 34 (f 37 z_2)))), (5, .int (iI (f 37 z_2))), (4, .int (iI z_2)), (0, .ref (ad 47)), (1, .int (iI a1)), (2, .int (iI a2)), (3, .int (iI a3))]) hx hb dX5_workFacts_64 hl (by decide) rfl (fun ls hl => ?_)
      refine lv_aload_n hx hb dX5_workFacts_66 rfl (lv_at hl 4 rfl) ?_
      refine rwG_results_facts C hP mF_X5_27 dX5_workFacts_67 ?_
      refine lv_iconst (v := iI 0) hx hb dX5_workFacts_70 rfl ?_
      refine lv_iload hx hb dX5_workFacts_71 (lv_at hl 0 rfl) ?_
      refine gi_zeq (tgt := 80) hx hb dX5_workFacts_73 (by decide) (by decide) (fun c_18 => ?_) (fun c_18 => ?_)
      · exfalso; omega
      · refine lv_iconst (v := iI 1) hx hb dX5_workFacts_76 rfl ?_
        refine lv_goto (tgt := 81) hx hb dX5_workFacts_77 (by decide) ?_
        refine rwS_results_facts (f1 := (va_up f 39 (u1 (gfill (f 39) 6 0) 0 1))) C hP hD hS (by decide) (by decide) (by decide) rfl (Or.inr (gF_up (V := rwV) (F := rwF) ⟨hok.1, hok.2⟩ 39 (u1_rng (hP.2.2 39) (show (-2000000) ≤ 1 ∧ 1 ≤ 2000000 from (by decide))))) dX5_workFacts_81 (fun H locs hP hS => ?_)
        refine lv_aload_n hx hb dX5_workFacts_82 rfl (lv_at hl 4 rfl) ?_
        refine rwG_results_facts C hP mF_X5_27 dX5_workFacts_83 ?_
        refine lv_iconst (v := iI 1) hx hb dX5_workFacts_86 rfl ?_
        refine lv_aload_n hx hb dX5_workFacts_87 rfl (lv_at hl 4 rfl) ?_
        refine rwG_results_wall C hP mF_X5_47 dX5_workFacts_88 ?_
        refine lv_iload_n hx hb dX5_workFacts_91 rfl (lv_at hl 5 rfl) ?_
        refine lv_iload_n hx hb dX5_workFacts_92 rfl (lv_at hl 7 rfl) ?_
        refine lv_iload hx hb dX5_workFacts_93 (lv_at hl 1 rfl) ?_
        refine g_cv (As := [.int (iI a1), .int (iI a3), .int (iI (f 34 (f 37 z_2)))]) (rest := [.int (iI 1), .ref (ad 53)]) (n := 3) C hml (x_Wa_zonesUpTo l D k A ad hD v (va_up f 39 (u1 (gfill (f 39) 6 0) 0 1)) g a1 a3 (f 34 (f 37 z_2)) (by omega) (by omega) (by omega) (show 0 ≤ a1 ∧ a1 ≤ 3 from by omega) (show 0 ≤ a3 ∧ a3 ≤ 4 from by omega)) mM_X5_114 mI_X8_zonesUpTo mE_X8_zonesUpTo mN_X8 mC_X8_zonesUpTo (by decide +kernel) 23 (ci := 8) rfl rfl hP hS (fun _ h => h) ⟨Nat.le_of_ble_eq_true rfl, Nat.le_of_ble_eq_true rfl⟩ ⟨Nat.zero_le _, Nat.zero_le _⟩ hl.1 rfl rfl (Nat.le_of_ble_eq_true rfl) dX5_workFacts_95 (fun r_19 v_19 f_19 g_19 H locs hq_19 hP _ hS => ?_)
        obtain ⟨z_19, rfl, rfl, rfl, rfl, p0_19, p1_19⟩ := hq_19
        show W p l e (gRm 2 49) s m args below meth c _ _ 0 0 Q (F0 m 98 ls [.int (iI z_19), .int (iI 1), .ref (ad 53)])
        replace p0_19 : z_19 = (zU (f 17) ((a1 * 5 + a3) * 3) (f 34 (f 37 z_2))) := p0_19
        replace p1_19 : 0 ≤ z_19 ∧ z_19 ≤ 3 := p1_19
        have hz_19 : inR z_19 := (by first | omega | (rw [p0_19]; split <;> omega))
        have hzu := p0_19
        refine rwS_results_facts (f1 := (va_up f 39 (u1 (u1 (gfill (f 39) 6 0) 0 1) 1 z_19))) C hP hD hS (by decide) (by decide) (by omega) rfl (Or.inr (gF_up (V := rwV) (F := rwF) ⟨hok.1, hok.2⟩ 39 (u1_rng (hP.2.2 39) (show (-2000000) ≤ z_19 ∧ z_19 ≤ 2000000 from (by omega))))) dX5_workFacts_98 (fun H locs hP hS => ?_)
        refine lv_aload_n hx hb dX5_workFacts_99 rfl (lv_at hl 4 rfl) ?_
        refine rwG_results_facts C hP mF_X5_27 dX5_workFacts_100 ?_
        refine lv_iconst (v := iI 2) hx hb dX5_workFacts_103 rfl ?_
        refine lv_iload hx hb dX5_workFacts_104 (lv_at hl 1 rfl) ?_
        refine rwS_results_facts (f1 := (va_up f 39 (u1 (u1 (u1 (gfill (f 39) 6 0) 0 1) 1 z_19) 2 (f 34 (f 37 z_2))))) C hP hD hS (by decide) (by decide) (by omega) rfl (Or.inr (gF_up (V := rwV) (F := rwF) ⟨hok.1, hok.2⟩ 39 (u1_rng (hP.2.2 39) (show (-2000000) ≤ (f 34 (f 37 z_2)) ∧ (f 34 (f 37 z_2)) ≤ 2000000 from (by omega))))) dX5_workFacts_106 (fun H locs hP hS => ?_)
        refine lv_aload_n hx hb dX5_workFacts_107 rfl (lv_at hl 4 rfl) ?_
        refine rwG_results_facts C hP mF_X5_27 dX5_workFacts_108 ?_
        refine lv_iconst (v := iI 3) hx hb dX5_workFacts_111 rfl ?_
        refine lv_aload_n hx hb dX5_workFacts_112 rfl (lv_at hl 4 rfl) ?_
        refine rwG_results_bestNumber C hP mF_X5_24 dX5_workFacts_113 ?_
        refine lv_iload hx hb dX5_workFacts_116 (lv_at hl 3 rfl) ?_
        refine rwL_results_bestNumber C hP (by omega) (by omega) dX5_workFacts_118 ?_
        show W p l e (gRm 2 49) s m args below meth c _ _ 0 0 Q (F0 m 119 ls [.int (iI (f 38 z_2)), .int (iI 3), .ref (ad 53)])
        have r_20 : 0 ≤ (f 38 z_2) ∧ (f 38 z_2) ≤ 300 := hP.2.2 38 z_2
        refine rwS_results_facts (f1 := (va_up f 39 (u1 (u1 (u1 (u1 (gfill (f 39) 6 0) 0 1) 1 z_19) 2 (f 34 (f 37 z_2))) 3 (f 38 z_2)))) C hP hD hS (by decide) (by decide) (by omega) rfl (Or.inr (gF_up (V := rwV) (F := rwF) ⟨hok.1, hok.2⟩ 39 (u1_rng (hP.2.2 39) (show (-2000000) ≤ (f 38 z_2) ∧ (f 38 z_2) ≤ 2000000 from (by omega))))) dX5_workFacts_119 (fun H locs hP hS => ?_)
        refine lv_aload_n hx hb dX5_workFacts_120 rfl (lv_at hl 4 rfl) ?_
        refine rwG_results_facts C hP mF_X5_27 dX5_workFacts_121 ?_
        refine lv_iconst (v := iI 4) hx hb dX5_workFacts_124 rfl ?_
        refine lv_aload_n hx hb dX5_workFacts_125 rfl (lv_at hl 4 rfl) ?_
        refine rwG_results_tries C hP mF_X5_55 dX5_workFacts_126 ?_
        refine rwG_tries_how C hP mF_X5_79 dX5_workFacts_129 ?_
        refine lv_iload hx hb dX5_workFacts_132 (lv_at hl 2 rfl) ?_
        refine rwL_tries_how C hP (by omega) (by omega) dX5_workFacts_134 ?_
        show W p l e (gRm 2 49) s m args below meth c _ _ 0 0 Q (F0 m 135 ls [.int (iI (f 26 (f 37 z_2))), .int (iI 4), .ref (ad 53)])
        have r_21 : 0 ≤ (f 26 (f 37 z_2)) ∧ (f 26 (f 37 z_2)) ≤ 4 := hP.2.2 26 (f 37 z_2)
        refine gi_zne (tgt := 142) hx hb dX5_workFacts_135 (by decide) (by omega) (fun c_22 => ?_) (fun c_22 => ?_)
        · refine lv_aload_n hx hb dX5_workFacts_142 rfl (lv_at hl 4 rfl) ?_
          refine rwG_results_tries C hP mF_X5_55 dX5_workFacts_143 ?_
          refine rwG_tries_ended C hP mF_X5_117 dX5_workFacts_146 ?_
          refine lv_iload hx hb dX5_workFacts_149 (lv_at hl 2 rfl) ?_
          refine rwL_tries_ended C hP (by omega) (by omega) dX5_workFacts_151 ?_
          show W p l e (gRm 2 49) s m args below meth c _ _ 0 0 Q (F0 m 152 ls [.int (iI (f 24 (f 37 z_2))), .int (iI 4), .ref (ad 53)])
          have r_23 : (-1) ≤ (f 24 (f 37 z_2)) ∧ (f 24 (f 37 z_2)) ≤ 1000999 := hP.2.2 24 (f 37 z_2)
          refine lv_aload_n hx hb dX5_workFacts_152 rfl (lv_at hl 4 rfl) ?_
          refine rwG_results_tries C hP mF_X5_55 dX5_workFacts_153 ?_
          refine rwG_tries_begun C hP mF_X5_120 dX5_workFacts_156 ?_
          refine lv_iload hx hb dX5_workFacts_159 (lv_at hl 2 rfl) ?_
          refine rwL_tries_begun C hP (by omega) (by omega) dX5_workFacts_161 ?_
          show W p l e (gRm 2 49) s m args below meth c _ _ 0 0 Q (F0 m 162 ls [.int (iI (f 23 (f 37 z_2))), .int (iI (f 24 (f 37 z_2))), .int (iI 4), .ref (ad 53)])
          have r_24 : 0 ≤ (f 23 (f 37 z_2)) ∧ (f 23 (f 37 z_2)) ≤ 1000000 := hP.2.2 23 (f 37 z_2)
          refine gi_sub (z := ((f 24 (f 37 z_2)) - (f 23 (f 37 z_2)))) hx hb dX5_workFacts_162 rfl ?_
          refine rwS_results_facts (f1 := (va_up f 39 (u1 (u1 (u1 (u1 (u1 (gfill (f 39) 6 0) 0 1) 1 z_19) 2 (f 34 (f 37 z_2))) 3 (f 38 z_2)) 4 ((f 24 (f 37 z_2)) - (f 23 (f 37 z_2)))))) C hP hD hS (by decide) (by decide) (by omega) rfl (Or.inr (gF_up (V := rwV) (F := rwF) ⟨hok.1, hok.2⟩ 39 (u1_rng (hP.2.2 39) (show (-2000000) ≤ ((f 24 (f 37 z_2)) - (f 23 (f 37 z_2))) ∧ ((f 24 (f 37 z_2)) - (f 23 (f 37 z_2))) ≤ 2000000 from (by omega))))) dX5_workFacts_163 (fun H locs hP hS => ?_)
          refine lv_aload_n hx hb dX5_workFacts_164 rfl (lv_at hl 4 rfl) ?_
          refine rwG_results_facts C hP mF_X5_27 dX5_workFacts_165 ?_
          refine lv_iconst (v := iI 5) hx hb dX5_workFacts_168 rfl ?_
          refine lv_iload hx hb dX5_workFacts_169 (lv_at hl 0 rfl) ?_
          refine gi_zeq (tgt := 189) hx hb dX5_workFacts_171 (by decide) (by decide) (fun c_25 => ?_) (fun c_25 => ?_)
          · exfalso; omega
          · refine lv_aload_n hx hb dX5_workFacts_174 rfl (lv_at hl 4 rfl) ?_
            refine rwG_results_bestNumber C hP mF_X5_24 dX5_workFacts_175 ?_
            refine lv_iload hx hb dX5_workFacts_178 (lv_at hl 3 rfl) ?_
            refine rwL_results_bestNumber C hP (by omega) (by omega) dX5_workFacts_180 ?_
            show W p l e (gRm 2 49) s m args below meth c _ _ 0 0 Q (F0 m 181 ls [.int (iI (f 38 z_2)), .int (iI 5), .ref (ad 53)])
            refine lv_iconst (v := iI 1) hx hb dX5_workFacts_181 rfl ?_
            refine gi_cne (tgt := 189) hx hb dX5_workFacts_182 (by decide) (by omega) (by decide) (fun c_26 => ?_) (fun c_26 => ?_)
            · refine lv_iconst (v := iI 0) hx hb dX5_workFacts_189 rfl ?_
              refine rwS_results_facts (f1 := (va_up f 39 (u1 (u1 (u1 (u1 (u1 (u1 (gfill (f 39) 6 0) 0 1) 1 z_19) 2 (f 34 (f 37 z_2))) 3 (f 38 z_2)) 4 ((f 24 (f 37 z_2)) - (f 23 (f 37 z_2)))) 5 0))) C hP hD hS (by decide) (by decide) (by decide) rfl (Or.inr (gF_up (V := rwV) (F := rwF) ⟨hok.1, hok.2⟩ 39 (u1_rng (hP.2.2 39) (show (-2000000) ≤ 0 ∧ 0 ≤ 2000000 from (by decide))))) dX5_workFacts_190 (fun H locs hP hS => ?_)
              exact g_vret hQ C hr hlocks hP hS dX5_workFacts_191 ⟨(u1 (u1 (u1 (u1 (u1 (u1 (gfill (f 39) 6 0) 0 1) 1 z_19) 2 (f 34 (f 37 z_2))) 3 (f 38 z_2)) 4 ((f 24 (f 37 z_2)) - (f 23 (f 37 z_2)))) 5 0), rfl, rfl, rfl, rfl, (by first | exact fa_zero (by omega) | exact fa_all hp (by omega) (by omega) (by omega) (by first | rw [if_pos (by omega)] | rw [if_neg (by omega)]) hzu rfl rfl (by first | rw [if_pos (by omega)] | rw [if_neg (by omega)]) (by first | rw [if_pos (by omega)] | rw [if_neg (by omega)]))⟩
            · refine lv_iconst (v := iI 1) hx hb dX5_workFacts_185 rfl ?_
              refine lv_goto (tgt := 190) hx hb dX5_workFacts_186 (by decide) ?_
              refine rwS_results_facts (f1 := (va_up f 39 (u1 (u1 (u1 (u1 (u1 (u1 (gfill (f 39) 6 0) 0 1) 1 z_19) 2 (f 34 (f 37 z_2))) 3 (f 38 z_2)) 4 ((f 24 (f 37 z_2)) - (f 23 (f 37 z_2)))) 5 1))) C hP hD hS (by decide) (by decide) (by decide) rfl (Or.inr (gF_up (V := rwV) (F := rwF) ⟨hok.1, hok.2⟩ 39 (u1_rng (hP.2.2 39) (show (-2000000) ≤ 1 ∧ 1 ≤ 2000000 from (by decide))))) dX5_workFacts_190 (fun H locs hP hS => ?_)
              exact g_vret hQ C hr hlocks hP hS dX5_workFacts_191 ⟨(u1 (u1 (u1 (u1 (u1 (u1 (gfill (f 39) 6 0) 0 1) 1 z_19) 2 (f 34 (f 37 z_2))) 3 (f 38 z_2)) 4 ((f 24 (f 37 z_2)) - (f 23 (f 37 z_2)))) 5 1), rfl, rfl, rfl, rfl, (by first | exact fa_zero (by omega) | exact fa_all hp (by omega) (by omega) (by omega) (by first | rw [if_pos (by omega)] | rw [if_neg (by omega)]) hzu rfl rfl (by first | rw [if_pos (by omega)] | rw [if_neg (by omega)]) (by first | rw [if_pos (by omega)] | rw [if_neg (by omega)]))⟩
        · refine lv_iconst (v := iI 0) hx hb dX5_workFacts_138 rfl ?_
          refine lv_goto (tgt := 163) hx hb dX5_workFacts_139 (by decide) ?_
          refine rwS_results_facts (f1 := (va_up f 39 (u1 (u1 (u1 (u1 (u1 (gfill (f 39) 6 0) 0 1) 1 z_19) 2 (f 34 (f 37 z_2))) 3 (f 38 z_2)) 4 0))) C hP hD hS (by decide) (by decide) (by decide) rfl (Or.inr (gF_up (V := rwV) (F := rwF) ⟨hok.1, hok.2⟩ 39 (u1_rng (hP.2.2 39) (show (-2000000) ≤ 0 ∧ 0 ≤ 2000000 from (by decide))))) dX5_workFacts_163 (fun H locs hP hS => ?_)
          refine lv_aload_n hx hb dX5_workFacts_164 rfl (lv_at hl 4 rfl) ?_
          refine rwG_results_facts C hP mF_X5_27 dX5_workFacts_165 ?_
          refine lv_iconst (v := iI 5) hx hb dX5_workFacts_168 rfl ?_
          refine lv_iload hx hb dX5_workFacts_169 (lv_at hl 0 rfl) ?_
          refine gi_zeq (tgt := 189) hx hb dX5_workFacts_171 (by decide) (by decide) (fun c_27 => ?_) (fun c_27 => ?_)
          · exfalso; omega
          · refine lv_aload_n hx hb dX5_workFacts_174 rfl (lv_at hl 4 rfl) ?_
            refine rwG_results_bestNumber C hP mF_X5_24 dX5_workFacts_175 ?_
            refine lv_iload hx hb dX5_workFacts_178 (lv_at hl 3 rfl) ?_
            refine rwL_results_bestNumber C hP (by omega) (by omega) dX5_workFacts_180 ?_
            show W p l e (gRm 2 49) s m args below meth c _ _ 0 0 Q (F0 m 181 ls [.int (iI (f 38 z_2)), .int (iI 5), .ref (ad 53)])
            refine lv_iconst (v := iI 1) hx hb dX5_workFacts_181 rfl ?_
            refine gi_cne (tgt := 189) hx hb dX5_workFacts_182 (by decide) (by omega) (by decide) (fun c_28 => ?_) (fun c_28 => ?_)
            · refine lv_iconst (v := iI 0) hx hb dX5_workFacts_189 rfl ?_
              refine rwS_results_facts (f1 := (va_up f 39 (u1 (u1 (u1 (u1 (u1 (u1 (gfill (f 39) 6 0) 0 1) 1 z_19) 2 (f 34 (f 37 z_2))) 3 (f 38 z_2)) 4 0) 5 0))) C hP hD hS (by decide) (by decide) (by decide) rfl (Or.inr (gF_up (V := rwV) (F := rwF) ⟨hok.1, hok.2⟩ 39 (u1_rng (hP.2.2 39) (show (-2000000) ≤ 0 ∧ 0 ≤ 2000000 from (by decide))))) dX5_workFacts_190 (fun H locs hP hS => ?_)
              exact g_vret hQ C hr hlocks hP hS dX5_workFacts_191 ⟨(u1 (u1 (u1 (u1 (u1 (u1 (gfill (f 39) 6 0) 0 1) 1 z_19) 2 (f 34 (f 37 z_2))) 3 (f 38 z_2)) 4 0) 5 0), rfl, rfl, rfl, rfl, (by first | exact fa_zero (by omega) | exact fa_all hp (by omega) (by omega) (by omega) (by first | rw [if_pos (by omega)] | rw [if_neg (by omega)]) hzu rfl rfl (by first | rw [if_pos (by omega)] | rw [if_neg (by omega)]) (by first | rw [if_pos (by omega)] | rw [if_neg (by omega)]))⟩
            · refine lv_iconst (v := iI 1) hx hb dX5_workFacts_185 rfl ?_
              refine lv_goto (tgt := 190) hx hb dX5_workFacts_186 (by decide) ?_
              refine rwS_results_facts (f1 := (va_up f 39 (u1 (u1 (u1 (u1 (u1 (u1 (gfill (f 39) 6 0) 0 1) 1 z_19) 2 (f 34 (f 37 z_2))) 3 (f 38 z_2)) 4 0) 5 1))) C hP hD hS (by decide) (by decide) (by decide) rfl (Or.inr (gF_up (V := rwV) (F := rwF) ⟨hok.1, hok.2⟩ 39 (u1_rng (hP.2.2 39) (show (-2000000) ≤ 1 ∧ 1 ≤ 2000000 from (by decide))))) dX5_workFacts_190 (fun H locs hP hS => ?_)
              exact g_vret hQ C hr hlocks hP hS dX5_workFacts_191 ⟨(u1 (u1 (u1 (u1 (u1 (u1 (gfill (f 39) 6 0) 0 1) 1 z_19) 2 (f 34 (f 37 z_2))) 3 (f 38 z_2)) 4 0) 5 1), rfl, rfl, rfl, rfl, (by first | exact fa_zero (by omega) | exact fa_all hp (by omega) (by omega) (by omega) (by first | rw [if_pos (by omega)] | rw [if_neg (by omega)]) hzu rfl rfl (by first | rw [if_pos (by omega)] | rw [if_neg (by omega)]) (by first | rw [if_pos (by omega)] | rw [if_neg (by omega)]))⟩
  · exact g_vret hQ C hr hlocks hP hS dX5_workFacts_26 ⟨(gfill (f 39) 6 0), rfl, rfl, rfl, rfl, (by first | exact fa_zero (by omega) | exact fa_all hp (by omega) (by omega) (by omega) (by first | rw [if_pos (by omega)] | rw [if_neg (by omega)]) hzu rfl rfl (by first | rw [if_pos (by omega)] | rw [if_neg (by omega)]) (by first | rw [if_pos (by omega)] | rw [if_neg (by omega)]))⟩
end
