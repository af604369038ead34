theorem dX11_readFactor_0 : decode cX11_readFactor 0 = .ok (.aload_n 0, 1) := by decide +kernel
theorem dX11_readFactor_1 : decode cX11_readFactor 1 = .ok (.invokevirtual 283, 3) := by decide +kernel
theorem dX11_readFactor_4 : decode cX11_readFactor 4 = .ok (.istore_n 1, 1) := by decide +kernel
theorem dX11_readFactor_5 : decode cX11_readFactor 5 = .ok (.aload_n 0, 1) := by decide +kernel
theorem dX11_readFactor_6 : decode cX11_readFactor 6 = .ok (.getfield 165, 3) := by decide +kernel
theorem dX11_readFactor_9 : decode cX11_readFactor 9 = .ok (.iconst 2, 1) := by decide +kernel
theorem dX11_readFactor_10 : decode cX11_readFactor 10 = .ok (.if_icmp .eq 7, 3) := by decide +kernel
theorem dX11_readFactor_13 : decode cX11_readFactor 13 = .ok (.iload_n 1, 1) := by decide +kernel
theorem dX11_readFactor_14 : decode cX11_readFactor 14 = .ok (.ifCond .le 55, 3) := by decide +kernel
theorem dX11_readFactor_17 : decode cX11_readFactor 17 = .ok (.aload_n 0, 1) := by decide +kernel
theorem dX11_readFactor_18 : decode cX11_readFactor 18 = .ok (.invokevirtual 271, 3) := by decide +kernel
theorem dX11_readFactor_21 : decode cX11_readFactor 21 = .ok (.aload_n 0, 1) := by decide +kernel
theorem dX11_readFactor_22 : decode cX11_readFactor 22 = .ok (.getfield 188, 3) := by decide +kernel
theorem dX11_readFactor_25 : decode cX11_readFactor 25 = .ok (.ifCond .le 5, 3) := by decide +kernel
theorem dX11_readFactor_28 : decode cX11_readFactor 28 = .ok (.iconst 0, 1) := by decide +kernel
theorem dX11_readFactor_29 : decode cX11_readFactor 29 = .ok (.ireturn, 1) := by decide +kernel
theorem dX11_readFactor_30 : decode cX11_readFactor 30 = .ok (.aload_n 0, 1) := by decide +kernel
theorem dX11_readFactor_31 : decode cX11_readFactor 31 = .ok (.aload_n 0, 1) := by decide +kernel
theorem dX11_readFactor_32 : decode cX11_readFactor 32 = .ok (.getfield 165, 3) := by decide +kernel
theorem dX11_readFactor_35 : decode cX11_readFactor 35 = .ok (.iconst 2, 1) := by decide +kernel
theorem dX11_readFactor_36 : decode cX11_readFactor 36 = .ok (.if_icmp .ne 7, 3) := by decide +kernel
theorem dX11_readFactor_39 : decode cX11_readFactor 39 = .ok (.iconst 0, 1) := by decide +kernel
theorem dX11_readFactor_40 : decode cX11_readFactor 40 = .ok (.goto 4, 3) := by decide +kernel
theorem dX11_readFactor_43 : decode cX11_readFactor 43 = .ok (.iload_n 1, 1) := by decide +kernel
theorem dX11_readFactor_44 : decode cX11_readFactor 44 = .ok (.aload_n 0, 1) := by decide +kernel
theorem dX11_readFactor_45 : decode cX11_readFactor 45 = .ok (.getfield 165, 3) := by decide +kernel
theorem dX11_readFactor_48 : decode cX11_readFactor 48 = .ok (.iconst 2, 1) := by decide +kernel
theorem dX11_readFactor_49 : decode cX11_readFactor 49 = .ok (.if_icmp .ne 10, 3) := by decide +kernel
theorem dX11_readFactor_52 : decode cX11_readFactor 52 = .ok (.aload_n 0, 1) := by decide +kernel
theorem dX11_readFactor_53 : decode cX11_readFactor 53 = .ok (.getfield 185, 3) := by decide +kernel
theorem dX11_readFactor_56 : decode cX11_readFactor 56 = .ok (.goto 4, 3) := by decide +kernel
theorem dX11_readFactor_59 : decode cX11_readFactor 59 = .ok (.iconst 0, 1) := by decide +kernel
theorem dX11_readFactor_60 : decode cX11_readFactor 60 = .ok (.invokevirtual 261, 3) := by decide +kernel
theorem dX11_readFactor_63 : decode cX11_readFactor 63 = .ok (.aload_n 0, 1) := by decide +kernel
theorem dX11_readFactor_64 : decode cX11_readFactor 64 = .ok (.invokevirtual 201, 3) := by decide +kernel
theorem dX11_readFactor_67 : decode cX11_readFactor 67 = .ok (.iconst 1, 1) := by decide +kernel
theorem dX11_readFactor_68 : decode cX11_readFactor 68 = .ok (.ireturn, 1) := by decide +kernel
theorem dX11_readFactor_69 : decode cX11_readFactor 69 = .ok (.aload_n 0, 1) := by decide +kernel
theorem dX11_readFactor_70 : decode cX11_readFactor 70 = .ok (.bipush 45, 2) := by decide +kernel
theorem dX11_readFactor_72 : decode cX11_readFactor 72 = .ok (.invokevirtual 204, 3) := by decide +kernel
theorem dX11_readFactor_75 : decode cX11_readFactor 75 = .ok (.ifCond .eq 33, 3) := by decide +kernel
theorem dX11_readFactor_78 : decode cX11_readFactor 78 = .ok (.aload_n 0, 1) := by decide +kernel
theorem dX11_readFactor_79 : decode cX11_readFactor 79 = .ok (.invokevirtual 271, 3) := by decide +kernel
theorem dX11_readFactor_82 : decode cX11_readFactor 82 = .ok (.aload_n 0, 1) := by decide +kernel
theorem dX11_readFactor_83 : decode cX11_readFactor 83 = .ok (.invokevirtual 286, 3) := by decide +kernel
theorem dX11_readFactor_86 : decode cX11_readFactor 86 = .ok (.aload_n 0, 1) := by decide +kernel
theorem dX11_readFactor_87 : decode cX11_readFactor 87 = .ok (.getfield 188, 3) := by decide +kernel
theorem dX11_readFactor_90 : decode cX11_readFactor 90 = .ok (.ifCond .le 5, 3) := by decide +kernel
theorem dX11_readFactor_93 : decode cX11_readFactor 93 = .ok (.iconst 0, 1) := by decide +kernel
theorem dX11_readFactor_94 : decode cX11_readFactor 94 = .ok (.ireturn, 1) := by decide +kernel
theorem dX11_readFactor_95 : decode cX11_readFactor 95 = .ok (.aload_n 0, 1) := by decide +kernel
theorem dX11_readFactor_96 : decode cX11_readFactor 96 = .ok (.bipush 10, 2) := by decide +kernel
theorem dX11_readFactor_98 : decode cX11_readFactor 98 = .ok (.invokevirtual 277, 3) := by decide +kernel
theorem dX11_readFactor_101 : decode cX11_readFactor 101 = .ok (.aload_n 0, 1) := by decide +kernel
theorem dX11_readFactor_102 : decode cX11_readFactor 102 = .ok (.invokevirtual 201, 3) := by decide +kernel
theorem dX11_readFactor_105 : decode cX11_readFactor 105 = .ok (.goto 42, 3) := by decide +kernel
theorem dX11_readFactor_108 : decode cX11_readFactor 108 = .ok (.aload_n 0, 1) := by decide +kernel
theorem dX11_readFactor_109 : decode cX11_readFactor 109 = .ok (.bipush 40, 2) := by decide +kernel
theorem dX11_readFactor_111 : decode cX11_readFactor 111 = .ok (.invokevirtual 204, 3) := by decide +kernel
theorem dX11_readFactor_114 : decode cX11_readFactor 114 = .ok (.ifCond .eq 29, 3) := by decide +kernel
theorem dX11_readFactor_117 : decode cX11_readFactor 117 = .ok (.aload_n 0, 1) := by decide +kernel
theorem dX11_readFactor_118 : decode cX11_readFactor 118 = .ok (.invokevirtual 286, 3) := by decide +kernel
theorem dX11_readFactor_121 : decode cX11_readFactor 121 = .ok (.aload_n 0, 1) := by decide +kernel
theorem dX11_readFactor_122 : decode cX11_readFactor 122 = .ok (.getfield 188, 3) := by decide +kernel
theorem dX11_readFactor_125 : decode cX11_readFactor 125 = .ok (.ifCond .le 5, 3) := by decide +kernel
theorem dX11_readFactor_128 : decode cX11_readFactor 128 = .ok (.iconst 0, 1) := by decide +kernel
theorem dX11_readFactor_129 : decode cX11_readFactor 129 = .ok (.ireturn, 1) := by decide +kernel
theorem dX11_readFactor_130 : decode cX11_readFactor 130 = .ok (.aload_n 0, 1) := by decide +kernel
theorem dX11_readFactor_131 : decode cX11_readFactor 131 = .ok (.bipush 11, 2) := by decide +kernel
theorem dX11_readFactor_133 : decode cX11_readFactor 133 = .ok (.invokevirtual 277, 3) := by decide +kernel
theorem dX11_readFactor_136 : decode cX11_readFactor 136 = .ok (.aload_n 0, 1) := by decide +kernel
theorem dX11_readFactor_137 : decode cX11_readFactor 137 = .ok (.invokevirtual 201, 3) := by decide +kernel
theorem dX11_readFactor_140 : decode cX11_readFactor 140 = .ok (.goto 7, 3) := by decide +kernel
theorem dX11_readFactor_143 : decode cX11_readFactor 143 = .ok (.aload_n 0, 1) := by decide +kernel
theorem dX11_readFactor_144 : decode cX11_readFactor 144 = .ok (.invokevirtual 198, 3) := by decide +kernel
theorem dX11_readFactor_147 : decode cX11_readFactor 147 = .ok (.iconst 0, 1) := by decide +kernel
theorem dX11_readFactor_148 : decode cX11_readFactor 148 = .ok (.ireturn, 1) := by decide +kernel
