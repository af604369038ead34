theorem dX3_readRound_0 : decode cX3_readRound 0 = .ok (.aload_n 0, 1) := by decide +kernel
theorem dX3_readRound_1 : decode cX3_readRound 1 = .ok (.getfield 21, 3) := by decide +kernel
theorem dX3_readRound_4 : decode cX3_readRound 4 = .ok (.getfield 100, 3) := by decide +kernel
theorem dX3_readRound_7 : decode cX3_readRound 7 = .ok (.istore_n 1, 1) := by decide +kernel
theorem dX3_readRound_8 : decode cX3_readRound 8 = .ok (.aload_n 0, 1) := by decide +kernel
theorem dX3_readRound_9 : decode cX3_readRound 9 = .ok (.iload_n 1, 1) := by decide +kernel
theorem dX3_readRound_10 : decode cX3_readRound 10 = .ok (.iconst 4, 1) := by decide +kernel
theorem dX3_readRound_11 : decode cX3_readRound 11 = .ok (.if_icmp .lt 7, 3) := by decide +kernel
theorem dX3_readRound_14 : decode cX3_readRound 14 = .ok (.iconst 1, 1) := by decide +kernel
theorem dX3_readRound_15 : decode cX3_readRound 15 = .ok (.goto 4, 3) := by decide +kernel
theorem dX3_readRound_18 : decode cX3_readRound 18 = .ok (.iconst 0, 1) := by decide +kernel
theorem dX3_readRound_19 : decode cX3_readRound 19 = .ok (.iconst 3, 1) := by decide +kernel
theorem dX3_readRound_20 : decode cX3_readRound 20 = .ok (.invokevirtual 66, 3) := by decide +kernel
theorem dX3_readRound_23 : decode cX3_readRound 23 = .ok (.aload_n 0, 1) := by decide +kernel
theorem dX3_readRound_24 : decode cX3_readRound 24 = .ok (.invokevirtual 70, 3) := by decide +kernel
theorem dX3_readRound_27 : decode cX3_readRound 27 = .ok (.ifCond .ne 4, 3) := by decide +kernel
theorem dX3_readRound_30 : decode cX3_readRound 30 = .ok (.return_, 1) := by decide +kernel
theorem dX3_readRound_31 : decode cX3_readRound 31 = .ok (.iconst 0, 1) := by decide +kernel
theorem dX3_readRound_32 : decode cX3_readRound 32 = .ok (.istore_n 2, 1) := by decide +kernel
theorem dX3_readRound_33 : decode cX3_readRound 33 = .ok (.iload_n 2, 1) := by decide +kernel
theorem dX3_readRound_34 : decode cX3_readRound 34 = .ok (.iconst 4, 1) := by decide +kernel
theorem dX3_readRound_35 : decode cX3_readRound 35 = .ok (.if_icmp .ge 96, 3) := by decide +kernel
theorem dX3_readRound_38 : decode cX3_readRound 38 = .ok (.aload_n 0, 1) := by decide +kernel
theorem dX3_readRound_39 : decode cX3_readRound 39 = .ok (.getfield 32, 3) := by decide +kernel
theorem dX3_readRound_42 : decode cX3_readRound 42 = .ok (.ifCond .ne 89, 3) := by decide +kernel
theorem dX3_readRound_45 : decode cX3_readRound 45 = .ok (.aload_n 0, 1) := by decide +kernel
theorem dX3_readRound_46 : decode cX3_readRound 46 = .ok (.getfield 12, 3) := by decide +kernel
theorem dX3_readRound_49 : decode cX3_readRound 49 = .ok (.invokevirtual 56, 3) := by decide +kernel
theorem dX3_readRound_52 : decode cX3_readRound 52 = .ok (.sipush 258, 3) := by decide +kernel
theorem dX3_readRound_55 : decode cX3_readRound 55 = .ok (.if_icmp .ne 63, 3) := by decide +kernel
theorem dX3_readRound_58 : decode cX3_readRound 58 = .ok (.aload_n 0, 1) := by decide +kernel
theorem dX3_readRound_59 : decode cX3_readRound 59 = .ok (.aload_n 0, 1) := by decide +kernel
theorem dX3_readRound_60 : decode cX3_readRound 60 = .ok (.getfield 12, 3) := by decide +kernel
theorem dX3_readRound_63 : decode cX3_readRound 63 = .ok (.invokevirtual 103, 3) := by decide +kernel
theorem dX3_readRound_66 : decode cX3_readRound 66 = .ok (.getstatic 106, 3) := by decide +kernel
theorem dX3_readRound_69 : decode cX3_readRound 69 = .ok (.iload_n 2, 1) := by decide +kernel
theorem dX3_readRound_70 : decode cX3_readRound 70 = .ok (.iaload, 1) := by decide +kernel
theorem dX3_readRound_71 : decode cX3_readRound 71 = .ok (.if_icmp .lt 18, 3) := by decide +kernel
theorem dX3_readRound_74 : decode cX3_readRound 74 = .ok (.aload_n 0, 1) := by decide +kernel
theorem dX3_readRound_75 : decode cX3_readRound 75 = .ok (.getfield 12, 3) := by decide +kernel
theorem dX3_readRound_78 : decode cX3_readRound 78 = .ok (.invokevirtual 103, 3) := by decide +kernel
theorem dX3_readRound_81 : decode cX3_readRound 81 = .ok (.getstatic 110, 3) := by decide +kernel
theorem dX3_readRound_84 : decode cX3_readRound 84 = .ok (.iload_n 2, 1) := by decide +kernel
theorem dX3_readRound_85 : decode cX3_readRound 85 = .ok (.iaload, 1) := by decide +kernel
theorem dX3_readRound_86 : decode cX3_readRound 86 = .ok (.if_icmp .le 7, 3) := by decide +kernel
theorem dX3_readRound_89 : decode cX3_readRound 89 = .ok (.iconst 1, 1) := by decide +kernel
theorem dX3_readRound_90 : decode cX3_readRound 90 = .ok (.goto 4, 3) := by decide +kernel
theorem dX3_readRound_93 : decode cX3_readRound 93 = .ok (.iconst 0, 1) := by decide +kernel
theorem dX3_readRound_94 : decode cX3_readRound 94 = .ok (.iconst 4, 1) := by decide +kernel
theorem dX3_readRound_95 : decode cX3_readRound 95 = .ok (.invokevirtual 66, 3) := by decide +kernel
theorem dX3_readRound_98 : decode cX3_readRound 98 = .ok (.aload_n 0, 1) := by decide +kernel
theorem dX3_readRound_99 : decode cX3_readRound 99 = .ok (.getfield 21, 3) := by decide +kernel
theorem dX3_readRound_102 : decode cX3_readRound 102 = .ok (.getfield 113, 3) := by decide +kernel
theorem dX3_readRound_105 : decode cX3_readRound 105 = .ok (.iload_n 1, 1) := by decide +kernel
theorem dX3_readRound_106 : decode cX3_readRound 106 = .ok (.iconst 4, 1) := by decide +kernel
theorem dX3_readRound_107 : decode cX3_readRound 107 = .ok (.imul, 1) := by decide +kernel
theorem dX3_readRound_108 : decode cX3_readRound 108 = .ok (.iload_n 2, 1) := by decide +kernel
theorem dX3_readRound_109 : decode cX3_readRound 109 = .ok (.iadd, 1) := by decide +kernel
theorem dX3_readRound_110 : decode cX3_readRound 110 = .ok (.aload_n 0, 1) := by decide +kernel
theorem dX3_readRound_111 : decode cX3_readRound 111 = .ok (.getfield 12, 3) := by decide +kernel
theorem dX3_readRound_114 : decode cX3_readRound 114 = .ok (.invokevirtual 103, 3) := by decide +kernel
theorem dX3_readRound_117 : decode cX3_readRound 117 = .ok (.iastore, 1) := by decide +kernel
theorem dX3_readRound_118 : decode cX3_readRound 118 = .ok (.aload_n 0, 1) := by decide +kernel
theorem dX3_readRound_119 : decode cX3_readRound 119 = .ok (.sipush 258, 3) := by decide +kernel
theorem dX3_readRound_122 : decode cX3_readRound 122 = .ok (.invokevirtual 91, 3) := by decide +kernel
theorem dX3_readRound_125 : decode cX3_readRound 125 = .ok (.iinc 2 1, 3) := by decide +kernel
theorem dX3_readRound_128 : decode cX3_readRound 128 = .ok (.goto (-95), 3) := by decide +kernel
theorem dX3_readRound_131 : decode cX3_readRound 131 = .ok (.aload_n 0, 1) := by decide +kernel
theorem dX3_readRound_132 : decode cX3_readRound 132 = .ok (.getfield 21, 3) := by decide +kernel
theorem dX3_readRound_135 : decode cX3_readRound 135 = .ok (.iload_n 1, 1) := by decide +kernel
theorem dX3_readRound_136 : decode cX3_readRound 136 = .ok (.iconst 1, 1) := by decide +kernel
theorem dX3_readRound_137 : decode cX3_readRound 137 = .ok (.iadd, 1) := by decide +kernel
theorem dX3_readRound_138 : decode cX3_readRound 138 = .ok (.putfield 100, 3) := by decide +kernel
theorem dX3_readRound_141 : decode cX3_readRound 141 = .ok (.return_, 1) := by decide +kernel
