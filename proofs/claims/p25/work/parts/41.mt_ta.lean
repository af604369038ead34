section
theorem dG_dX3_readRound_0 : (decode cX3_readRound 0 = .ok (.aload_n 0, 1)) ∧ (decode cX3_readRound 1 = .ok (.getfield 21, 3)) ∧ (decode cX3_readRound 4 = .ok (.getfield 100, 3)) ∧ (decode cX3_readRound 7 = .ok (.istore_n 1, 1)) ∧ (decode cX3_readRound 8 = .ok (.aload_n 0, 1)) ∧ (decode cX3_readRound 9 = .ok (.iload_n 1, 1)) ∧ (decode cX3_readRound 10 = .ok (.iconst 4, 1)) ∧ (decode cX3_readRound 11 = .ok (.if_icmp .lt 7, 3)) ∧ (decode cX3_readRound 14 = .ok (.iconst 1, 1)) ∧ (decode cX3_readRound 15 = .ok (.goto 4, 3)) ∧ (decode cX3_readRound 18 = .ok (.iconst 0, 1)) ∧ (decode cX3_readRound 19 = .ok (.iconst 3, 1)) := by decide +kernel
theorem dX3_readRound_0 : decode cX3_readRound 0 = .ok (.aload_n 0, 1) := dG_dX3_readRound_0.1
theorem dX3_readRound_1 : decode cX3_readRound 1 = .ok (.getfield 21, 3) := dG_dX3_readRound_0.2.1
theorem dX3_readRound_4 : decode cX3_readRound 4 = .ok (.getfield 100, 3) := dG_dX3_readRound_0.2.2.1
theorem dX3_readRound_7 : decode cX3_readRound 7 = .ok (.istore_n 1, 1) := dG_dX3_readRound_0.2.2.2.1
theorem dX3_readRound_8 : decode cX3_readRound 8 = .ok (.aload_n 0, 1) := dG_dX3_readRound_0.2.2.2.2.1
theorem dX3_readRound_9 : decode cX3_readRound 9 = .ok (.iload_n 1, 1) := dG_dX3_readRound_0.2.2.2.2.2.1
theorem dX3_readRound_10 : decode cX3_readRound 10 = .ok (.iconst 4, 1) := dG_dX3_readRound_0.2.2.2.2.2.2.1
theorem dX3_readRound_11 : decode cX3_readRound 11 = .ok (.if_icmp .lt 7, 3) := dG_dX3_readRound_0.2.2.2.2.2.2.2.1
theorem dX3_readRound_14 : decode cX3_readRound 14 = .ok (.iconst 1, 1) := dG_dX3_readRound_0.2.2.2.2.2.2.2.2.1
theorem dX3_readRound_15 : decode cX3_readRound 15 = .ok (.goto 4, 3) := dG_dX3_readRound_0.2.2.2.2.2.2.2.2.2.1
theorem dX3_readRound_18 : decode cX3_readRound 18 = .ok (.iconst 0, 1) := dG_dX3_readRound_0.2.2.2.2.2.2.2.2.2.2.1
theorem dX3_readRound_19 : decode cX3_readRound 19 = .ok (.iconst 3, 1) := dG_dX3_readRound_0.2.2.2.2.2.2.2.2.2.2.2
theorem dG_dX3_readRound_20 : (decode cX3_readRound 20 = .ok (.invokevirtual 66, 3)) ∧ (decode cX3_readRound 23 = .ok (.aload_n 0, 1)) ∧ (decode cX3_readRound 24 = .ok (.invokevirtual 70, 3)) ∧ (decode cX3_readRound 27 = .ok (.ifCond .ne 4, 3)) ∧ (decode cX3_readRound 30 = .ok (.return_, 1)) ∧ (decode cX3_readRound 31 = .ok (.iconst 0, 1)) ∧ (decode cX3_readRound 32 = .ok (.istore_n 2, 1)) ∧ (decode cX3_readRound 33 = .ok (.iload_n 2, 1)) ∧ (decode cX3_readRound 34 = .ok (.iconst 4, 1)) ∧ (decode cX3_readRound 35 = .ok (.if_icmp .ge 96, 3)) ∧ (decode cX3_readRound 38 = .ok (.aload_n 0, 1)) ∧ (decode cX3_readRound 39 = .ok (.getfield 32, 3)) := by decide +kernel
theorem dX3_readRound_20 : decode cX3_readRound 20 = .ok (.invokevirtual 66, 3) := dG_dX3_readRound_20.1
theorem dX3_readRound_23 : decode cX3_readRound 23 = .ok (.aload_n 0, 1) := dG_dX3_readRound_20.2.1
theorem dX3_readRound_24 : decode cX3_readRound 24 = .ok (.invokevirtual 70, 3) := dG_dX3_readRound_20.2.2.1
theorem dX3_readRound_27 : decode cX3_readRound 27 = .ok (.ifCond .ne 4, 3) := dG_dX3_readRound_20.2.2.2.1
theorem dX3_readRound_30 : decode cX3_readRound 30 = .ok (.return_, 1) := dG_dX3_readRound_20.2.2.2.2.1
theorem dX3_readRound_31 : decode cX3_readRound 31 = .ok (.iconst 0, 1) := dG_dX3_readRound_20.2.2.2.2.2.1
theorem dX3_readRound_32 : decode cX3_readRound 32 = .ok (.istore_n 2, 1) := dG_dX3_readRound_20.2.2.2.2.2.2.1
theorem dX3_readRound_33 : decode cX3_readRound 33 = .ok (.iload_n 2, 1) := dG_dX3_readRound_20.2.2.2.2.2.2.2.1
theorem dX3_readRound_34 : decode cX3_readRound 34 = .ok (.iconst 4, 1) := dG_dX3_readRound_20.2.2.2.2.2.2.2.2.1
theorem dX3_readRound_35 : decode cX3_readRound 35 = .ok (.if_icmp .ge 96, 3) := dG_dX3_readRound_20.2.2.2.2.2.2.2.2.2.1
theorem dX3_readRound_38 : decode cX3_readRound 38 = .ok (.aload_n 0, 1) := dG_dX3_readRound_20.2.2.2.2.2.2.2.2.2.2.1
theorem dX3_readRound_39 : decode cX3_readRound 39 = .ok (.getfield 32, 3) := dG_dX3_readRound_20.2.2.2.2.2.2.2.2.2.2.2
theorem dG_dX3_readRound_42 : (decode cX3_readRound 42 = .ok (.ifCond .ne 89, 3)) ∧ (decode cX3_readRound 45 = .ok (.aload_n 0, 1)) ∧ (decode cX3_readRound 46 = .ok (.getfield 12, 3)) ∧ (decode cX3_readRound 49 = .ok (.invokevirtual 56, 3)) ∧ (decode cX3_readRound 52 = .ok (.sipush 258, 3)) ∧ (decode cX3_readRound 55 = .ok (.if_icmp .ne 63, 3)) ∧ (decode cX3_readRound 58 = .ok (.aload_n 0, 1)) ∧ (decode cX3_readRound 59 = .ok (.aload_n 0, 1)) ∧ (decode cX3_readRound 60 = .ok (.getfield 12, 3)) ∧ (decode cX3_readRound 63 = .ok (.invokevirtual 103, 3)) ∧ (decode cX3_readRound 66 = .ok (.getstatic 106, 3)) ∧ (decode cX3_readRound 69 = .ok (.iload_n 2, 1)) := by decide +kernel
theorem dX3_readRound_42 : decode cX3_readRound 42 = .ok (.ifCond .ne 89, 3) := dG_dX3_readRound_42.1
theorem dX3_readRound_45 : decode cX3_readRound 45 = .ok (.aload_n 0, 1) := dG_dX3_readRound_42.2.1
theorem dX3_readRound_46 : decode cX3_readRound 46 = .ok (.getfield 12, 3) := dG_dX3_readRound_42.2.2.1
theorem dX3_readRound_49 : decode cX3_readRound 49 = .ok (.invokevirtual 56, 3) := dG_dX3_readRound_42.2.2.2.1
theorem dX3_readRound_52 : decode cX3_readRound 52 = .ok (.sipush 258, 3) := dG_dX3_readRound_42.2.2.2.2.1
theorem dX3_readRound_55 : decode cX3_readRound 55 = .ok (.if_icmp .ne 63, 3) := dG_dX3_readRound_42.2.2.2.2.2.1
theorem dX3_readRound_58 : decode cX3_readRound 58 = .ok (.aload_n 0, 1) := dG_dX3_readRound_42.2.2.2.2.2.2.1
theorem dX3_readRound_59 : decode cX3_readRound 59 = .ok (.aload_n 0, 1) := dG_dX3_readRound_42.2.2.2.2.2.2.2.1
theorem dX3_readRound_60 : decode cX3_readRound 60 = .ok (.getfield 12, 3) := dG_dX3_readRound_42.2.2.2.2.2.2.2.2.1
theorem dX3_readRound_63 : decode cX3_readRound 63 = .ok (.invokevirtual 103, 3) := dG_dX3_readRound_42.2.2.2.2.2.2.2.2.2.1
theorem dX3_readRound_66 : decode cX3_readRound 66 = .ok (.getstatic 106, 3) := dG_dX3_readRound_42.2.2.2.2.2.2.2.2.2.2.1
theorem dX3_readRound_69 : decode cX3_readRound 69 = .ok (.iload_n 2, 1) := dG_dX3_readRound_42.2.2.2.2.2.2.2.2.2.2.2
theorem dG_dX3_readRound_70 : (decode cX3_readRound 70 = .ok (.iaload, 1)) ∧ (decode cX3_readRound 71 = .ok (.if_icmp .lt 18, 3)) ∧ (decode cX3_readRound 74 = .ok (.aload_n 0, 1)) ∧ (decode cX3_readRound 75 = .ok (.getfield 12, 3)) ∧ (decode cX3_readRound 78 = .ok (.invokevirtual 103, 3)) ∧ (decode cX3_readRound 81 = .ok (.getstatic 110, 3)) ∧ (decode cX3_readRound 84 = .ok (.iload_n 2, 1)) ∧ (decode cX3_readRound 85 = .ok (.iaload, 1)) ∧ (decode cX3_readRound 86 = .ok (.if_icmp .le 7, 3)) ∧ (decode cX3_readRound 89 = .ok (.iconst 1, 1)) ∧ (decode cX3_readRound 90 = .ok (.goto 4, 3)) ∧ (decode cX3_readRound 93 = .ok (.iconst 0, 1)) := by decide +kernel
theorem dX3_readRound_70 : decode cX3_readRound 70 = .ok (.iaload, 1) := dG_dX3_readRound_70.1
theorem dX3_readRound_71 : decode cX3_readRound 71 = .ok (.if_icmp .lt 18, 3) := dG_dX3_readRound_70.2.1
theorem dX3_readRound_74 : decode cX3_readRound 74 = .ok (.aload_n 0, 1) := dG_dX3_readRound_70.2.2.1
theorem dX3_readRound_75 : decode cX3_readRound 75 = .ok (.getfield 12, 3) := dG_dX3_readRound_70.2.2.2.1
theorem dX3_readRound_78 : decode cX3_readRound 78 = .ok (.invokevirtual 103, 3) := dG_dX3_readRound_70.2.2.2.2.1
theorem dX3_readRound_81 : decode cX3_readRound 81 = .ok (.getstatic 110, 3) := dG_dX3_readRound_70.2.2.2.2.2.1
theorem dX3_readRound_84 : decode cX3_readRound 84 = .ok (.iload_n 2, 1) := dG_dX3_readRound_70.2.2.2.2.2.2.1
theorem dX3_readRound_85 : decode cX3_readRound 85 = .ok (.iaload, 1) := dG_dX3_readRound_70.2.2.2.2.2.2.2.1
theorem dX3_readRound_86 : decode cX3_readRound 86 = .ok (.if_icmp .le 7, 3) := dG_dX3_readRound_70.2.2.2.2.2.2.2.2.1
theorem dX3_readRound_89 : decode cX3_readRound 89 = .ok (.iconst 1, 1) := dG_dX3_readRound_70.2.2.2.2.2.2.2.2.2.1
theorem dX3_readRound_90 : decode cX3_readRound 90 = .ok (.goto 4, 3) := dG_dX3_readRound_70.2.2.2.2.2.2.2.2.2.2.1
theorem dX3_readRound_93 : decode cX3_readRound 93 = .ok (.iconst 0, 1) := dG_dX3_readRound_70.2.2.2.2.2.2.2.2.2.2.2
theorem dG_dX3_readRound_94 : (decode cX3_readRound 94 = .ok (.iconst 4, 1)) ∧ (decode cX3_readRound 95 = .ok (.invokevirtual 66, 3)) ∧ (decode cX3_readRound 98 = .ok (.aload_n 0, 1)) ∧ (decode cX3_readRound 99 = .ok (.getfield 21, 3)) ∧ (decode cX3_readRound 102 = .ok (.getfield 113, 3)) ∧ (decode cX3_readRound 105 = .ok (.iload_n 1, 1)) ∧ (decode cX3_readRound 106 = .ok (.iconst 4, 1)) ∧ (decode cX3_readRound 107 = .ok (.imul, 1)) ∧ (decode cX3_readRound 108 = .ok (.iload_n 2, 1)) ∧ (decode cX3_readRound 109 = .ok (.iadd, 1)) ∧ (decode cX3_readRound 110 = .ok (.aload_n 0, 1)) ∧ (decode cX3_readRound 111 = .ok (.getfield 12, 3)) := by decide +kernel
theorem dX3_readRound_94 : decode cX3_readRound 94 = .ok (.iconst 4, 1) := dG_dX3_readRound_94.1
theorem dX3_readRound_95 : decode cX3_readRound 95 = .ok (.invokevirtual 66, 3) := dG_dX3_readRound_94.2.1
theorem dX3_readRound_98 : decode cX3_readRound 98 = .ok (.aload_n 0, 1) := dG_dX3_readRound_94.2.2.1
theorem dX3_readRound_99 : decode cX3_readRound 99 = .ok (.getfield 21, 3) := dG_dX3_readRound_94.2.2.2.1
theorem dX3_readRound_102 : decode cX3_readRound 102 = .ok (.getfield 113, 3) := dG_dX3_readRound_94.2.2.2.2.1
theorem dX3_readRound_105 : decode cX3_readRound 105 = .ok (.iload_n 1, 1) := dG_dX3_readRound_94.2.2.2.2.2.1
theorem dX3_readRound_106 : decode cX3_readRound 106 = .ok (.iconst 4, 1) := dG_dX3_readRound_94.2.2.2.2.2.2.1
theorem dX3_readRound_107 : decode cX3_readRound 107 = .ok (.imul, 1) := dG_dX3_readRound_94.2.2.2.2.2.2.2.1
theorem dX3_readRound_108 : decode cX3_readRound 108 = .ok (.iload_n 2, 1) := dG_dX3_readRound_94.2.2.2.2.2.2.2.2.1
theorem dX3_readRound_109 : decode cX3_readRound 109 = .ok (.iadd, 1) := dG_dX3_readRound_94.2.2.2.2.2.2.2.2.2.1
theorem dX3_readRound_110 : decode cX3_readRound 110 = .ok (.aload_n 0, 1) := dG_dX3_readRound_94.2.2.2.2.2.2.2.2.2.2.1
theorem dX3_readRound_111 : decode cX3_readRound 111 = .ok (.getfield 12, 3) := dG_dX3_readRound_94.2.2.2.2.2.2.2.2.2.2.2
theorem dG_dX3_readRound_114 : (decode cX3_readRound 114 = .ok (.invokevirtual 103, 3)) ∧ (decode cX3_readRound 117 = .ok (.iastore, 1)) ∧ (decode cX3_readRound 118 = .ok (.aload_n 0, 1)) ∧ (decode cX3_readRound 119 = .ok (.sipush 258, 3)) ∧ (decode cX3_readRound 122 = .ok (.invokevirtual 91, 3)) ∧ (decode cX3_readRound 125 = .ok (.iinc 2 1, 3)) ∧ (decode cX3_readRound 128 = .ok (.goto (-95), 3)) ∧ (decode cX3_readRound 131 = .ok (.aload_n 0, 1)) ∧ (decode cX3_readRound 132 = .ok (.getfield 21, 3)) ∧ (decode cX3_readRound 135 = .ok (.iload_n 1, 1)) ∧ (decode cX3_readRound 136 = .ok (.iconst 1, 1)) ∧ (decode cX3_readRound 137 = .ok (.iadd, 1)) := by decide +kernel
theorem dX3_readRound_114 : decode cX3_readRound 114 = .ok (.invokevirtual 103, 3) := dG_dX3_readRound_114.1
theorem dX3_readRound_117 : decode cX3_readRound 117 = .ok (.iastore, 1) := dG_dX3_readRound_114.2.1
theorem dX3_readRound_118 : decode cX3_readRound 118 = .ok (.aload_n 0, 1) := dG_dX3_readRound_114.2.2.1
theorem dX3_readRound_119 : decode cX3_readRound 119 = .ok (.sipush 258, 3) := dG_dX3_readRound_114.2.2.2.1
theorem dX3_readRound_122 : decode cX3_readRound 122 = .ok (.invokevirtual 91, 3) := dG_dX3_readRound_114.2.2.2.2.1
theorem dX3_readRound_125 : decode cX3_readRound 125 = .ok (.iinc 2 1, 3) := dG_dX3_readRound_114.2.2.2.2.2.1
theorem dX3_readRound_128 : decode cX3_readRound 128 = .ok (.goto (-95), 3) := dG_dX3_readRound_114.2.2.2.2.2.2.1
theorem dX3_readRound_131 : decode cX3_readRound 131 = .ok (.aload_n 0, 1) := dG_dX3_readRound_114.2.2.2.2.2.2.2.1
theorem dX3_readRound_132 : decode cX3_readRound 132 = .ok (.getfield 21, 3) := dG_dX3_readRound_114.2.2.2.2.2.2.2.2.1
theorem dX3_readRound_135 : decode cX3_readRound 135 = .ok (.iload_n 1, 1) := dG_dX3_readRound_114.2.2.2.2.2.2.2.2.2.1
theorem dX3_readRound_136 : decode cX3_readRound 136 = .ok (.iconst 1, 1) := dG_dX3_readRound_114.2.2.2.2.2.2.2.2.2.2.1
theorem dX3_readRound_137 : decode cX3_readRound 137 = .ok (.iadd, 1) := dG_dX3_readRound_114.2.2.2.2.2.2.2.2.2.2.2
theorem dG_dX3_readRound_138 : (decode cX3_readRound 138 = .ok (.putfield 100, 3)) ∧ (decode cX3_readRound 141 = .ok (.return_, 1)) := by decide +kernel
theorem dX3_readRound_138 : decode cX3_readRound 138 = .ok (.putfield 100, 3) := dG_dX3_readRound_138.1
theorem dX3_readRound_141 : decode cX3_readRound 141 = .ok (.return_, 1) := dG_dX3_readRound_138.2
end

section
theorem dG_dX3_readLaw_0 : (decode cX3_readLaw 0 = .ok (.aload_n 0, 1)) ∧ (decode cX3_readLaw 1 = .ok (.getfield 12, 3)) ∧ (decode cX3_readLaw 4 = .ok (.invokevirtual 56, 3)) ∧ (decode cX3_readLaw 7 = .ok (.tableswitch 121 260 263 #[29, 36, 79, 100], 29)) ∧ (decode cX3_readLaw 36 = .ok (.aload_n 0, 1)) ∧ (decode cX3_readLaw 37 = .ok (.invokevirtual 63, 3)) ∧ (decode cX3_readLaw 40 = .ok (.goto 92, 3)) ∧ (decode cX3_readLaw 43 = .ok (.aload_n 0, 1)) ∧ (decode cX3_readLaw 44 = .ok (.aload_n 0, 1)) ∧ (decode cX3_readLaw 45 = .ok (.getfield 39, 3)) ∧ (decode cX3_readLaw 48 = .ok (.iconst 5, 1)) ∧ (decode cX3_readLaw 49 = .ok (.invokevirtual 66, 3)) := by decide +kernel
theorem dX3_readLaw_0 : decode cX3_readLaw 0 = .ok (.aload_n 0, 1) := dG_dX3_readLaw_0.1
theorem dX3_readLaw_1 : decode cX3_readLaw 1 = .ok (.getfield 12, 3) := dG_dX3_readLaw_0.2.1
theorem dX3_readLaw_4 : decode cX3_readLaw 4 = .ok (.invokevirtual 56, 3) := dG_dX3_readLaw_0.2.2.1
theorem dX3_readLaw_7 : decode cX3_readLaw 7 = .ok (.tableswitch 121 260 263 #[29, 36, 79, 100], 29) := dG_dX3_readLaw_0.2.2.2.1
theorem dX3_readLaw_36 : decode cX3_readLaw 36 = .ok (.aload_n 0, 1) := dG_dX3_readLaw_0.2.2.2.2.1
theorem dX3_readLaw_37 : decode cX3_readLaw 37 = .ok (.invokevirtual 63, 3) := dG_dX3_readLaw_0.2.2.2.2.2.1
theorem dX3_readLaw_40 : decode cX3_readLaw 40 = .ok (.goto 92, 3) := dG_dX3_readLaw_0.2.2.2.2.2.2.1
theorem dX3_readLaw_43 : decode cX3_readLaw 43 = .ok (.aload_n 0, 1) := dG_dX3_readLaw_0.2.2.2.2.2.2.2.1
theorem dX3_readLaw_44 : decode cX3_readLaw 44 = .ok (.aload_n 0, 1) := dG_dX3_readLaw_0.2.2.2.2.2.2.2.2.1
theorem dX3_readLaw_45 : decode cX3_readLaw 45 = .ok (.getfield 39, 3) := dG_dX3_readLaw_0.2.2.2.2.2.2.2.2.2.1
theorem dX3_readLaw_48 : decode cX3_readLaw 48 = .ok (.iconst 5, 1) := dG_dX3_readLaw_0.2.2.2.2.2.2.2.2.2.2.1
theorem dX3_readLaw_49 : decode cX3_readLaw 49 = .ok (.invokevirtual 66, 3) := dG_dX3_readLaw_0.2.2.2.2.2.2.2.2.2.2.2
theorem dG_dX3_readLaw_52 : (decode cX3_readLaw 52 = .ok (.aload_n 0, 1)) ∧ (decode cX3_readLaw 53 = .ok (.iconst 1, 1)) ∧ (decode cX3_readLaw 54 = .ok (.putfield 39, 3)) ∧ (decode cX3_readLaw 57 = .ok (.aload_n 0, 1)) ∧ (decode cX3_readLaw 58 = .ok (.invokevirtual 70, 3)) ∧ (decode cX3_readLaw 61 = .ok (.ifCond .eq 71, 3)) ∧ (decode cX3_readLaw 64 = .ok (.aload_n 0, 1)) ∧ (decode cX3_readLaw 65 = .ok (.aload_n 0, 1)) ∧ (decode cX3_readLaw 66 = .ok (.getfield 28, 3)) ∧ (decode cX3_readLaw 69 = .ok (.aload_n 0, 1)) ∧ (decode cX3_readLaw 70 = .ok (.getfield 12, 3)) ∧ (decode cX3_readLaw 73 = .ok (.aload_n 0, 1)) := by decide +kernel
theorem dX3_readLaw_52 : decode cX3_readLaw 52 = .ok (.aload_n 0, 1) := dG_dX3_readLaw_52.1
theorem dX3_readLaw_53 : decode cX3_readLaw 53 = .ok (.iconst 1, 1) := dG_dX3_readLaw_52.2.1
theorem dX3_readLaw_54 : decode cX3_readLaw 54 = .ok (.putfield 39, 3) := dG_dX3_readLaw_52.2.2.1
theorem dX3_readLaw_57 : decode cX3_readLaw 57 = .ok (.aload_n 0, 1) := dG_dX3_readLaw_52.2.2.2.1
theorem dX3_readLaw_58 : decode cX3_readLaw 58 = .ok (.invokevirtual 70, 3) := dG_dX3_readLaw_52.2.2.2.2.1
theorem dX3_readLaw_61 : decode cX3_readLaw 61 = .ok (.ifCond .eq 71, 3) := dG_dX3_readLaw_52.2.2.2.2.2.1
theorem dX3_readLaw_64 : decode cX3_readLaw 64 = .ok (.aload_n 0, 1) := dG_dX3_readLaw_52.2.2.2.2.2.2.1
theorem dX3_readLaw_65 : decode cX3_readLaw 65 = .ok (.aload_n 0, 1) := dG_dX3_readLaw_52.2.2.2.2.2.2.2.1
theorem dX3_readLaw_66 : decode cX3_readLaw 66 = .ok (.getfield 28, 3) := dG_dX3_readLaw_52.2.2.2.2.2.2.2.2.1
theorem dX3_readLaw_69 : decode cX3_readLaw 69 = .ok (.aload_n 0, 1) := dG_dX3_readLaw_52.2.2.2.2.2.2.2.2.2.1
theorem dX3_readLaw_70 : decode cX3_readLaw 70 = .ok (.getfield 12, 3) := dG_dX3_readLaw_52.2.2.2.2.2.2.2.2.2.2.1
theorem dX3_readLaw_73 : decode cX3_readLaw 73 = .ok (.aload_n 0, 1) := dG_dX3_readLaw_52.2.2.2.2.2.2.2.2.2.2.2
theorem dG_dX3_readLaw_74 : (decode cX3_readLaw 74 = .ok (.getfield 21, 3)) ∧ (decode cX3_readLaw 77 = .ok (.invokevirtual 74, 3)) ∧ (decode cX3_readLaw 80 = .ok (.invokevirtual 78, 3)) ∧ (decode cX3_readLaw 83 = .ok (.goto 49, 3)) ∧ (decode cX3_readLaw 86 = .ok (.aload_n 0, 1)) ∧ (decode cX3_readLaw 87 = .ok (.aload_n 0, 1)) ∧ (decode cX3_readLaw 88 = .ok (.getfield 43, 3)) ∧ (decode cX3_readLaw 91 = .ok (.iconst 5, 1)) ∧ (decode cX3_readLaw 92 = .ok (.invokevirtual 66, 3)) ∧ (decode cX3_readLaw 95 = .ok (.aload_n 0, 1)) ∧ (decode cX3_readLaw 96 = .ok (.iconst 1, 1)) ∧ (decode cX3_readLaw 97 = .ok (.putfield 43, 3)) := by decide +kernel
theorem dX3_readLaw_74 : decode cX3_readLaw 74 = .ok (.getfield 21, 3) := dG_dX3_readLaw_74.1
theorem dX3_readLaw_77 : decode cX3_readLaw 77 = .ok (.invokevirtual 74, 3) := dG_dX3_readLaw_74.2.1
theorem dX3_readLaw_80 : decode cX3_readLaw 80 = .ok (.invokevirtual 78, 3) := dG_dX3_readLaw_74.2.2.1
theorem dX3_readLaw_83 : decode cX3_readLaw 83 = .ok (.goto 49, 3) := dG_dX3_readLaw_74.2.2.2.1
theorem dX3_readLaw_86 : decode cX3_readLaw 86 = .ok (.aload_n 0, 1) := dG_dX3_readLaw_74.2.2.2.2.1
theorem dX3_readLaw_87 : decode cX3_readLaw 87 = .ok (.aload_n 0, 1) := dG_dX3_readLaw_74.2.2.2.2.2.1
theorem dX3_readLaw_88 : decode cX3_readLaw 88 = .ok (.getfield 43, 3) := dG_dX3_readLaw_74.2.2.2.2.2.2.1
theorem dX3_readLaw_91 : decode cX3_readLaw 91 = .ok (.iconst 5, 1) := dG_dX3_readLaw_74.2.2.2.2.2.2.2.1
theorem dX3_readLaw_92 : decode cX3_readLaw 92 = .ok (.invokevirtual 66, 3) := dG_dX3_readLaw_74.2.2.2.2.2.2.2.2.1
theorem dX3_readLaw_95 : decode cX3_readLaw 95 = .ok (.aload_n 0, 1) := dG_dX3_readLaw_74.2.2.2.2.2.2.2.2.2.1
theorem dX3_readLaw_96 : decode cX3_readLaw 96 = .ok (.iconst 1, 1) := dG_dX3_readLaw_74.2.2.2.2.2.2.2.2.2.2.1
theorem dX3_readLaw_97 : decode cX3_readLaw 97 = .ok (.putfield 43, 3) := dG_dX3_readLaw_74.2.2.2.2.2.2.2.2.2.2.2
theorem dG_dX3_readLaw_100 : (decode cX3_readLaw 100 = .ok (.aload_n 0, 1)) ∧ (decode cX3_readLaw 101 = .ok (.invokevirtual 82, 3)) ∧ (decode cX3_readLaw 104 = .ok (.goto 28, 3)) ∧ (decode cX3_readLaw 107 = .ok (.aload_n 0, 1)) ∧ (decode cX3_readLaw 108 = .ok (.aload_n 0, 1)) ∧ (decode cX3_readLaw 109 = .ok (.getfield 46, 3)) ∧ (decode cX3_readLaw 112 = .ok (.iconst 5, 1)) ∧ (decode cX3_readLaw 113 = .ok (.invokevirtual 66, 3)) ∧ (decode cX3_readLaw 116 = .ok (.aload_n 0, 1)) ∧ (decode cX3_readLaw 117 = .ok (.iconst 1, 1)) ∧ (decode cX3_readLaw 118 = .ok (.putfield 46, 3)) ∧ (decode cX3_readLaw 121 = .ok (.aload_n 0, 1)) := by decide +kernel
theorem dX3_readLaw_100 : decode cX3_readLaw 100 = .ok (.aload_n 0, 1) := dG_dX3_readLaw_100.1
theorem dX3_readLaw_101 : decode cX3_readLaw 101 = .ok (.invokevirtual 82, 3) := dG_dX3_readLaw_100.2.1
theorem dX3_readLaw_104 : decode cX3_readLaw 104 = .ok (.goto 28, 3) := dG_dX3_readLaw_100.2.2.1
theorem dX3_readLaw_107 : decode cX3_readLaw 107 = .ok (.aload_n 0, 1) := dG_dX3_readLaw_100.2.2.2.1
theorem dX3_readLaw_108 : decode cX3_readLaw 108 = .ok (.aload_n 0, 1) := dG_dX3_readLaw_100.2.2.2.2.1
theorem dX3_readLaw_109 : decode cX3_readLaw 109 = .ok (.getfield 46, 3) := dG_dX3_readLaw_100.2.2.2.2.2.1
theorem dX3_readLaw_112 : decode cX3_readLaw 112 = .ok (.iconst 5, 1) := dG_dX3_readLaw_100.2.2.2.2.2.2.1
theorem dX3_readLaw_113 : decode cX3_readLaw 113 = .ok (.invokevirtual 66, 3) := dG_dX3_readLaw_100.2.2.2.2.2.2.2.1
theorem dX3_readLaw_116 : decode cX3_readLaw 116 = .ok (.aload_n 0, 1) := dG_dX3_readLaw_100.2.2.2.2.2.2.2.2.1
theorem dX3_readLaw_117 : decode cX3_readLaw 117 = .ok (.iconst 1, 1) := dG_dX3_readLaw_100.2.2.2.2.2.2.2.2.2.1
theorem dX3_readLaw_118 : decode cX3_readLaw 118 = .ok (.putfield 46, 3) := dG_dX3_readLaw_100.2.2.2.2.2.2.2.2.2.2.1
theorem dX3_readLaw_121 : decode cX3_readLaw 121 = .ok (.aload_n 0, 1) := dG_dX3_readLaw_100.2.2.2.2.2.2.2.2.2.2.2
theorem dG_dX3_readLaw_122 : (decode cX3_readLaw 122 = .ok (.invokevirtual 85, 3)) ∧ (decode cX3_readLaw 125 = .ok (.goto 7, 3)) ∧ (decode cX3_readLaw 128 = .ok (.aload_n 0, 1)) ∧ (decode cX3_readLaw 129 = .ok (.invokevirtual 88, 3)) ∧ (decode cX3_readLaw 132 = .ok (.aload_n 0, 1)) ∧ (decode cX3_readLaw 133 = .ok (.bipush 59, 2)) ∧ (decode cX3_readLaw 135 = .ok (.invokevirtual 91, 3)) ∧ (decode cX3_readLaw 138 = .ok (.return_, 1)) := by decide +kernel
theorem dX3_readLaw_122 : decode cX3_readLaw 122 = .ok (.invokevirtual 85, 3) := dG_dX3_readLaw_122.1
theorem dX3_readLaw_125 : decode cX3_readLaw 125 = .ok (.goto 7, 3) := dG_dX3_readLaw_122.2.1
theorem dX3_readLaw_128 : decode cX3_readLaw 128 = .ok (.aload_n 0, 1) := dG_dX3_readLaw_122.2.2.1
theorem dX3_readLaw_129 : decode cX3_readLaw 129 = .ok (.invokevirtual 88, 3) := dG_dX3_readLaw_122.2.2.2.1
theorem dX3_readLaw_132 : decode cX3_readLaw 132 = .ok (.aload_n 0, 1) := dG_dX3_readLaw_122.2.2.2.2.1
theorem dX3_readLaw_133 : decode cX3_readLaw 133 = .ok (.bipush 59, 2) := dG_dX3_readLaw_122.2.2.2.2.2.1
theorem dX3_readLaw_135 : decode cX3_readLaw 135 = .ok (.invokevirtual 91, 3) := dG_dX3_readLaw_122.2.2.2.2.2.2.1
theorem dX3_readLaw_138 : decode cX3_readLaw 138 = .ok (.return_, 1) := dG_dX3_readLaw_122.2.2.2.2.2.2.2
end

section
theorem dG_dX3_read_0 : (decode cX3_read 0 = .ok (.aload_n 0, 1)) ∧ (decode cX3_read 1 = .ok (.iconst 0, 1)) ∧ (decode cX3_read 2 = .ok (.putfield 32, 3)) ∧ (decode cX3_read 5 = .ok (.aload_n 0, 1)) ∧ (decode cX3_read 6 = .ok (.iconst (-1), 1)) ∧ (decode cX3_read 7 = .ok (.putfield 36, 3)) ∧ (decode cX3_read 10 = .ok (.aload_n 0, 1)) ∧ (decode cX3_read 11 = .ok (.iconst 0, 1)) ∧ (decode cX3_read 12 = .ok (.putfield 39, 3)) ∧ (decode cX3_read 15 = .ok (.aload_n 0, 1)) ∧ (decode cX3_read 16 = .ok (.iconst 0, 1)) ∧ (decode cX3_read 17 = .ok (.putfield 43, 3)) := by decide +kernel
theorem dX3_read_0 : decode cX3_read 0 = .ok (.aload_n 0, 1) := dG_dX3_read_0.1
theorem dX3_read_1 : decode cX3_read 1 = .ok (.iconst 0, 1) := dG_dX3_read_0.2.1
theorem dX3_read_2 : decode cX3_read 2 = .ok (.putfield 32, 3) := dG_dX3_read_0.2.2.1
theorem dX3_read_5 : decode cX3_read 5 = .ok (.aload_n 0, 1) := dG_dX3_read_0.2.2.2.1
theorem dX3_read_6 : decode cX3_read 6 = .ok (.iconst (-1), 1) := dG_dX3_read_0.2.2.2.2.1
theorem dX3_read_7 : decode cX3_read 7 = .ok (.putfield 36, 3) := dG_dX3_read_0.2.2.2.2.2.1
theorem dX3_read_10 : decode cX3_read 10 = .ok (.aload_n 0, 1) := dG_dX3_read_0.2.2.2.2.2.2.1
theorem dX3_read_11 : decode cX3_read 11 = .ok (.iconst 0, 1) := dG_dX3_read_0.2.2.2.2.2.2.2.1
theorem dX3_read_12 : decode cX3_read 12 = .ok (.putfield 39, 3) := dG_dX3_read_0.2.2.2.2.2.2.2.2.1
theorem dX3_read_15 : decode cX3_read 15 = .ok (.aload_n 0, 1) := dG_dX3_read_0.2.2.2.2.2.2.2.2.2.1
theorem dX3_read_16 : decode cX3_read 16 = .ok (.iconst 0, 1) := dG_dX3_read_0.2.2.2.2.2.2.2.2.2.2.1
theorem dX3_read_17 : decode cX3_read 17 = .ok (.putfield 43, 3) := dG_dX3_read_0.2.2.2.2.2.2.2.2.2.2.2
theorem dG_dX3_read_20 : (decode cX3_read 20 = .ok (.aload_n 0, 1)) ∧ (decode cX3_read 21 = .ok (.iconst 0, 1)) ∧ (decode cX3_read 22 = .ok (.putfield 46, 3)) ∧ (decode cX3_read 25 = .ok (.aload_n 0, 1)) ∧ (decode cX3_read 26 = .ok (.getfield 21, 3)) ∧ (decode cX3_read 29 = .ok (.invokevirtual 49, 3)) ∧ (decode cX3_read 32 = .ok (.aload_n 0, 1)) ∧ (decode cX3_read 33 = .ok (.getfield 12, 3)) ∧ (decode cX3_read 36 = .ok (.aload_n 1, 1)) ∧ (decode cX3_read 37 = .ok (.iload_n 2, 1)) ∧ (decode cX3_read 38 = .ok (.invokevirtual 52, 3)) ∧ (decode cX3_read 41 = .ok (.iconst 0, 1)) := by decide +kernel
theorem dX3_read_20 : decode cX3_read 20 = .ok (.aload_n 0, 1) := dG_dX3_read_20.1
theorem dX3_read_21 : decode cX3_read 21 = .ok (.iconst 0, 1) := dG_dX3_read_20.2.1
theorem dX3_read_22 : decode cX3_read 22 = .ok (.putfield 46, 3) := dG_dX3_read_20.2.2.1
theorem dX3_read_25 : decode cX3_read 25 = .ok (.aload_n 0, 1) := dG_dX3_read_20.2.2.2.1
theorem dX3_read_26 : decode cX3_read 26 = .ok (.getfield 21, 3) := dG_dX3_read_20.2.2.2.2.1
theorem dX3_read_29 : decode cX3_read 29 = .ok (.invokevirtual 49, 3) := dG_dX3_read_20.2.2.2.2.2.1
theorem dX3_read_32 : decode cX3_read 32 = .ok (.aload_n 0, 1) := dG_dX3_read_20.2.2.2.2.2.2.1
theorem dX3_read_33 : decode cX3_read 33 = .ok (.getfield 12, 3) := dG_dX3_read_20.2.2.2.2.2.2.2.1
theorem dX3_read_36 : decode cX3_read 36 = .ok (.aload_n 1, 1) := dG_dX3_read_20.2.2.2.2.2.2.2.2.1
theorem dX3_read_37 : decode cX3_read 37 = .ok (.iload_n 2, 1) := dG_dX3_read_20.2.2.2.2.2.2.2.2.2.1
theorem dX3_read_38 : decode cX3_read 38 = .ok (.invokevirtual 52, 3) := dG_dX3_read_20.2.2.2.2.2.2.2.2.2.2.1
theorem dX3_read_41 : decode cX3_read 41 = .ok (.iconst 0, 1) := dG_dX3_read_20.2.2.2.2.2.2.2.2.2.2.2
theorem dG_dX3_read_42 : (decode cX3_read 42 = .ok (.istore_n 3, 1)) ∧ (decode cX3_read 43 = .ok (.iload_n 3, 1)) ∧ (decode cX3_read 44 = .ok (.sipush 700, 3)) ∧ (decode cX3_read 47 = .ok (.if_icmp .gt 33, 3)) ∧ (decode cX3_read 50 = .ok (.aload_n 0, 1)) ∧ (decode cX3_read 51 = .ok (.getfield 32, 3)) ∧ (decode cX3_read 54 = .ok (.ifCond .ne 26, 3)) ∧ (decode cX3_read 57 = .ok (.aload_n 0, 1)) ∧ (decode cX3_read 58 = .ok (.getfield 12, 3)) ∧ (decode cX3_read 61 = .ok (.invokevirtual 56, 3)) ∧ (decode cX3_read 64 = .ok (.sipush 256, 3)) ∧ (decode cX3_read 67 = .ok (.if_icmp .eq 13, 3)) := by decide +kernel
theorem dX3_read_42 : decode cX3_read 42 = .ok (.istore_n 3, 1) := dG_dX3_read_42.1
theorem dX3_read_43 : decode cX3_read 43 = .ok (.iload_n 3, 1) := dG_dX3_read_42.2.1
theorem dX3_read_44 : decode cX3_read 44 = .ok (.sipush 700, 3) := dG_dX3_read_42.2.2.1
theorem dX3_read_47 : decode cX3_read 47 = .ok (.if_icmp .gt 33, 3) := dG_dX3_read_42.2.2.2.1
theorem dX3_read_50 : decode cX3_read 50 = .ok (.aload_n 0, 1) := dG_dX3_read_42.2.2.2.2.1
theorem dX3_read_51 : decode cX3_read 51 = .ok (.getfield 32, 3) := dG_dX3_read_42.2.2.2.2.2.1
theorem dX3_read_54 : decode cX3_read 54 = .ok (.ifCond .ne 26, 3) := dG_dX3_read_42.2.2.2.2.2.2.1
theorem dX3_read_57 : decode cX3_read 57 = .ok (.aload_n 0, 1) := dG_dX3_read_42.2.2.2.2.2.2.2.1
theorem dX3_read_58 : decode cX3_read 58 = .ok (.getfield 12, 3) := dG_dX3_read_42.2.2.2.2.2.2.2.2.1
theorem dX3_read_61 : decode cX3_read 61 = .ok (.invokevirtual 56, 3) := dG_dX3_read_42.2.2.2.2.2.2.2.2.2.1
theorem dX3_read_64 : decode cX3_read 64 = .ok (.sipush 256, 3) := dG_dX3_read_42.2.2.2.2.2.2.2.2.2.2.1
theorem dX3_read_67 : decode cX3_read 67 = .ok (.if_icmp .eq 13, 3) := dG_dX3_read_42.2.2.2.2.2.2.2.2.2.2.2
theorem dG_dX3_read_70 : (decode cX3_read 70 = .ok (.aload_n 0, 1)) ∧ (decode cX3_read 71 = .ok (.invokevirtual 60, 3)) ∧ (decode cX3_read 74 = .ok (.iinc 3 1, 3)) ∧ (decode cX3_read 77 = .ok (.goto (-34), 3)) ∧ (decode cX3_read 80 = .ok (.return_, 1)) ∧ (decode cX4_setUntold 0 = .ok (.aload_n 0, 1)) ∧ (decode cX4_setUntold 1 = .ok (.iconst 0, 1)) ∧ (decode cX4_setUntold 2 = .ok (.putfield 31, 3)) ∧ (decode cX4_setUntold 5 = .ok (.aload_n 0, 1)) ∧ (decode cX4_setUntold 6 = .ok (.iconst 0, 1)) ∧ (decode cX4_setUntold 7 = .ok (.putfield 35, 3)) ∧ (decode cX4_setUntold 10 = .ok (.aload_n 0, 1)) := by decide +kernel
theorem dX3_read_70 : decode cX3_read 70 = .ok (.aload_n 0, 1) := dG_dX3_read_70.1
theorem dX3_read_71 : decode cX3_read 71 = .ok (.invokevirtual 60, 3) := dG_dX3_read_70.2.1
theorem dX3_read_74 : decode cX3_read 74 = .ok (.iinc 3 1, 3) := dG_dX3_read_70.2.2.1
theorem dX3_read_77 : decode cX3_read 77 = .ok (.goto (-34), 3) := dG_dX3_read_70.2.2.2.1
theorem dX3_read_80 : decode cX3_read 80 = .ok (.return_, 1) := dG_dX3_read_70.2.2.2.2.1
theorem dX4_setUntold_0 : decode cX4_setUntold 0 = .ok (.aload_n 0, 1) := dG_dX3_read_70.2.2.2.2.2.1
theorem dX4_setUntold_1 : decode cX4_setUntold 1 = .ok (.iconst 0, 1) := dG_dX3_read_70.2.2.2.2.2.2.1
theorem dX4_setUntold_2 : decode cX4_setUntold 2 = .ok (.putfield 31, 3) := dG_dX3_read_70.2.2.2.2.2.2.2.1
theorem dX4_setUntold_5 : decode cX4_setUntold 5 = .ok (.aload_n 0, 1) := dG_dX3_read_70.2.2.2.2.2.2.2.2.1
theorem dX4_setUntold_6 : decode cX4_setUntold 6 = .ok (.iconst 0, 1) := dG_dX3_read_70.2.2.2.2.2.2.2.2.2.1
theorem dX4_setUntold_7 : decode cX4_setUntold 7 = .ok (.putfield 35, 3) := dG_dX3_read_70.2.2.2.2.2.2.2.2.2.2.1
theorem dX4_setUntold_10 : decode cX4_setUntold 10 = .ok (.aload_n 0, 1) := dG_dX3_read_70.2.2.2.2.2.2.2.2.2.2.2
theorem dG_dX4_setUntold_11 : (decode cX4_setUntold 11 = .ok (.bipush 6, 2)) ∧ (decode cX4_setUntold 13 = .ok (.bipush 100, 2)) ∧ (decode cX4_setUntold 15 = .ok (.invokevirtual 38, 3)) ∧ (decode cX4_setUntold 18 = .ok (.aload_n 0, 1)) ∧ (decode cX4_setUntold 19 = .ok (.iconst 0, 1)) ∧ (decode cX4_setUntold 20 = .ok (.iconst 0, 1)) ∧ (decode cX4_setUntold 21 = .ok (.invokevirtual 38, 3)) ∧ (decode cX4_setUntold 24 = .ok (.aload_n 0, 1)) ∧ (decode cX4_setUntold 25 = .ok (.bipush 9, 2)) ∧ (decode cX4_setUntold 27 = .ok (.iconst 0, 1)) ∧ (decode cX4_setUntold 28 = .ok (.invokevirtual 38, 3)) ∧ (decode cX4_setUntold 31 = .ok (.aload_n 0, 1)) := by decide +kernel
theorem dX4_setUntold_11 : decode cX4_setUntold 11 = .ok (.bipush 6, 2) := dG_dX4_setUntold_11.1
theorem dX4_setUntold_13 : decode cX4_setUntold 13 = .ok (.bipush 100, 2) := dG_dX4_setUntold_11.2.1
theorem dX4_setUntold_15 : decode cX4_setUntold 15 = .ok (.invokevirtual 38, 3) := dG_dX4_setUntold_11.2.2.1
theorem dX4_setUntold_18 : decode cX4_setUntold 18 = .ok (.aload_n 0, 1) := dG_dX4_setUntold_11.2.2.2.1
theorem dX4_setUntold_19 : decode cX4_setUntold 19 = .ok (.iconst 0, 1) := dG_dX4_setUntold_11.2.2.2.2.1
theorem dX4_setUntold_20 : decode cX4_setUntold 20 = .ok (.iconst 0, 1) := dG_dX4_setUntold_11.2.2.2.2.2.1
theorem dX4_setUntold_21 : decode cX4_setUntold 21 = .ok (.invokevirtual 38, 3) := dG_dX4_setUntold_11.2.2.2.2.2.2.1
theorem dX4_setUntold_24 : decode cX4_setUntold 24 = .ok (.aload_n 0, 1) := dG_dX4_setUntold_11.2.2.2.2.2.2.2.1
theorem dX4_setUntold_25 : decode cX4_setUntold 25 = .ok (.bipush 9, 2) := dG_dX4_setUntold_11.2.2.2.2.2.2.2.2.1
theorem dX4_setUntold_27 : decode cX4_setUntold 27 = .ok (.iconst 0, 1) := dG_dX4_setUntold_11.2.2.2.2.2.2.2.2.2.1
theorem dX4_setUntold_28 : decode cX4_setUntold 28 = .ok (.invokevirtual 38, 3) := dG_dX4_setUntold_11.2.2.2.2.2.2.2.2.2.2.1
theorem dX4_setUntold_31 : decode cX4_setUntold 31 = .ok (.aload_n 0, 1) := dG_dX4_setUntold_11.2.2.2.2.2.2.2.2.2.2.2
theorem dG_dX4_setUntold_32 : (decode cX4_setUntold 32 = .ok (.iconst 1, 1)) ∧ (decode cX4_setUntold 33 = .ok (.iconst 0, 1)) ∧ (decode cX4_setUntold 34 = .ok (.invokevirtual 38, 3)) ∧ (decode cX4_setUntold 37 = .ok (.aload_n 0, 1)) ∧ (decode cX4_setUntold 38 = .ok (.bipush 7, 2)) ∧ (decode cX4_setUntold 40 = .ok (.iconst 0, 1)) ∧ (decode cX4_setUntold 41 = .ok (.invokevirtual 38, 3)) ∧ (decode cX4_setUntold 44 = .ok (.aload_n 0, 1)) ∧ (decode cX4_setUntold 45 = .ok (.iconst 0, 1)) ∧ (decode cX4_setUntold 46 = .ok (.putfield 42, 3)) ∧ (decode cX4_setUntold 49 = .ok (.aload_n 0, 1)) ∧ (decode cX4_setUntold 50 = .ok (.iconst 0, 1)) := by decide +kernel
theorem dX4_setUntold_32 : decode cX4_setUntold 32 = .ok (.iconst 1, 1) := dG_dX4_setUntold_32.1
theorem dX4_setUntold_33 : decode cX4_setUntold 33 = .ok (.iconst 0, 1) := dG_dX4_setUntold_32.2.1
theorem dX4_setUntold_34 : decode cX4_setUntold 34 = .ok (.invokevirtual 38, 3) := dG_dX4_setUntold_32.2.2.1
theorem dX4_setUntold_37 : decode cX4_setUntold 37 = .ok (.aload_n 0, 1) := dG_dX4_setUntold_32.2.2.2.1
theorem dX4_setUntold_38 : decode cX4_setUntold 38 = .ok (.bipush 7, 2) := dG_dX4_setUntold_32.2.2.2.2.1
theorem dX4_setUntold_40 : decode cX4_setUntold 40 = .ok (.iconst 0, 1) := dG_dX4_setUntold_32.2.2.2.2.2.1
theorem dX4_setUntold_41 : decode cX4_setUntold 41 = .ok (.invokevirtual 38, 3) := dG_dX4_setUntold_32.2.2.2.2.2.2.1
theorem dX4_setUntold_44 : decode cX4_setUntold 44 = .ok (.aload_n 0, 1) := dG_dX4_setUntold_32.2.2.2.2.2.2.2.1
theorem dX4_setUntold_45 : decode cX4_setUntold 45 = .ok (.iconst 0, 1) := dG_dX4_setUntold_32.2.2.2.2.2.2.2.2.1
theorem dX4_setUntold_46 : decode cX4_setUntold 46 = .ok (.putfield 42, 3) := dG_dX4_setUntold_32.2.2.2.2.2.2.2.2.2.1
theorem dX4_setUntold_49 : decode cX4_setUntold 49 = .ok (.aload_n 0, 1) := dG_dX4_setUntold_32.2.2.2.2.2.2.2.2.2.2.1
theorem dX4_setUntold_50 : decode cX4_setUntold 50 = .ok (.iconst 0, 1) := dG_dX4_setUntold_32.2.2.2.2.2.2.2.2.2.2.2
theorem dG_dX4_setUntold_51 : (decode cX4_setUntold 51 = .ok (.iconst 1, 1)) ∧ (decode cX4_setUntold 52 = .ok (.invokevirtual 45, 3)) ∧ (decode cX4_setUntold 55 = .ok (.aload_n 0, 1)) ∧ (decode cX4_setUntold 56 = .ok (.iconst 0, 1)) ∧ (decode cX4_setUntold 57 = .ok (.putfield 49, 3)) ∧ (decode cX4_setUntold 60 = .ok (.return_, 1)) := by decide +kernel
theorem dX4_setUntold_51 : decode cX4_setUntold 51 = .ok (.iconst 1, 1) := dG_dX4_setUntold_51.1
theorem dX4_setUntold_52 : decode cX4_setUntold 52 = .ok (.invokevirtual 45, 3) := dG_dX4_setUntold_51.2.1
theorem dX4_setUntold_55 : decode cX4_setUntold 55 = .ok (.aload_n 0, 1) := dG_dX4_setUntold_51.2.2.1
theorem dX4_setUntold_56 : decode cX4_setUntold 56 = .ok (.iconst 0, 1) := dG_dX4_setUntold_51.2.2.2.1
theorem dX4_setUntold_57 : decode cX4_setUntold 57 = .ok (.putfield 49, 3) := dG_dX4_setUntold_51.2.2.2.2.1
theorem dX4_setUntold_60 : decode cX4_setUntold 60 = .ok (.return_, 1) := dG_dX4_setUntold_51.2.2.2.2.2
end

section
/-! bytes of an int: the class's (v >>> s) & 255, the reference's (byte)(v >> s) -/
theorem iI_bv (v : Int) : (iI v).toBitVec = BitVec.ofInt 32 v := rfl
theorem gUsB {v x : Int} {s : Nat} (hs : s = 0 ∨ s = 8 ∨ s = 16 ∨ s = 24) (e : ((iI v).toUInt32 >>> ((iI (s : Int)).toUInt32 &&& Int32.toUInt32 31)).toInt32 = iI x) : iI x &&& iI 255 = iI (v / ((2 : Int) ^ s) % 256) := by
  rw [← e]
  apply Int32.toBitVec_inj.mp
  have h1 : ((((iI v).toUInt32 >>> ((iI (s : Int)).toUInt32 &&& Int32.toUInt32 31)).toInt32 &&& iI 255).toBitVec) = (BitVec.ofInt 32 v >>> s) &&& 255#32 := by
    rcases hs with rfl | rfl | rfl | rfl <;> rfl
  rw [h1, iI_bv]
  apply BitVec.eq_of_toNat_eq
  have h2 : ((BitVec.ofInt 32 v >>> s) &&& 255#32).toNat = ((v % 4294967296).toNat >>> s) &&& 255 := by
    rw [BitVec.toNat_and, BitVec.toNat_ushiftRight, BitVec.toNat_ofInt]; rfl
  rw [h2, BitVec.toNat_ofInt, show (255 : Nat) = 2 ^ 8 - 1 from rfl, Nat.and_two_pow_sub_one_eq_mod, Nat.shiftRight_eq_div_pow]
  rcases hs with rfl | rfl | rfl | rfl <;> simp only [Nat.reducePow, Int.reducePow] <;> omega
theorem gUs24 {v x : Int} (_ : inR v) (e : ((iI v).toUInt32 >>> ((iI 24).toUInt32 &&& Int32.toUInt32 31)).toInt32 = iI x) : iI x &&& iI 255 = iI (v / 16777216 % 256) := gUsB (s := 24) (by decide) e
theorem gUs16 {v x : Int} (_ : inR v) (e : ((iI v).toUInt32 >>> ((iI 16).toUInt32 &&& Int32.toUInt32 31)).toInt32 = iI x) : iI x &&& iI 255 = iI (v / 65536 % 256) := gUsB (s := 16) (by decide) e
theorem gUs8 {v x : Int} (_ : inR v) (e : ((iI v).toUInt32 >>> ((iI 8).toUInt32 &&& Int32.toUInt32 31)).toInt32 = iI x) : iI x &&& iI 255 = iI (v / 256 % 256) := gUsB (s := 8) (by decide) e
theorem gUs0 {v x : Int} (_ : inR v) (e : ((iI v).toUInt32 >>> ((iI 0).toUInt32 &&& Int32.toUInt32 31)).toInt32 = iI x) : iI x &&& iI 255 = iI (v / 1 % 256) := gUsB (s := 0) (by decide) e
theorem gSrB {v x : Int} {s : Nat} (hs : s = 0 ∨ s = 8 ∨ s = 16 ∨ s = 24) (hv : inR v) (hx : inR x) (e : iI v >>> (iI (s : Int) &&& 31) = iI x) : x = v / ((2 : Int) ^ s) := by
  have h1 : (iI x).toInt = v / ((2 : Int) ^ s) := by
    rw [← e]
    have h2 : (iI v >>> (iI (s : Int) &&& 31)).toInt = ((iI v).toBitVec.sshiftRight s).toInt := by
      rcases hs with rfl | rfl | rfl | rfl <;> rfl
    rw [h2, BitVec.toInt_sshiftRight]
    show (iI v).toInt >>> s = _
    rw [iI_toInt hv, Int.shiftRight_eq_div_pow]
    rcases hs with rfl | rfl | rfl | rfl <;> rfl
  rw [iI_toInt hx] at h1
  exact h1
theorem gSr24 {v x : Int} (hv : inR v) (hx : inR x) (e : iI v >>> (iI 24 &&& 31) = iI x) : x = v / 16777216 := gSrB (s := 24) (by decide) hv hx e
theorem gSr16 {v x : Int} (hv : inR v) (hx : inR x) (e : iI v >>> (iI 16 &&& 31) = iI x) : x = v / 65536 := gSrB (s := 16) (by decide) hv hx e
theorem gSr8 {v x : Int} (hv : inR v) (hx : inR x) (e : iI v >>> (iI 8 &&& 31) = iI x) : x = v / 256 := gSrB (s := 8) (by decide) hv hx e
theorem gSr0 {v x : Int} (hv : inR v) (hx : inR x) (e : iI v >>> (iI 0 &&& 31) = iI x) : x = v / 1 := gSrB (s := 0) (by decide) hv hx e
theorem gB8m {x y : Int} (hx : inR x) (hy : inR y) (e : (iI x).toInt8.toInt32 = iI y) : y % 256 = x % 256 := by
  have h1 : (iI y).toInt = (x.bmod 256) := by
    rw [← e, Int8.toInt_toInt32, Int32.toInt_toInt8, iI_toInt hx]
  rw [iI_toInt hy] at h1
  rw [h1]
  exact Int.bmod_emod
/-- four bytes of an int laid down, highest first; five ints -/
def bP (a : Int → Int) (t x : Int) : Int → Int := u1 (u1 (u1 (u1 a t (x / 16777216 % 256)) (t + 1) (x / 65536 % 256)) (t + 2) (x / 256 % 256)) (t + 3) (x / 1 % 256)
def bF (a : Int → Int) (t x1 x2 x3 x4 x5 : Int) : Int → Int := bP (bP (bP (bP (bP a t x1) (t + 4) x2) (t + 8) x3) (t + 12) x4) (t + 16) x5
theorem u1_mod {a B : Int → Int} (h : ∀ k, a k % 256 = B k) {e y z : Int} (hz : y % 256 = z) : ∀ k, u1 a e y k % 256 = u1 B e z k := fun k => by
  unfold u1
  by_cases hk : k = e
  · rw [if_pos hk, if_pos hk]; exact hz
  · rw [if_neg hk, if_neg hk]; exact h k
end

section
/-! the reference's state of an expression -/
def mp (x : Int) : Int := if x = 6 then 0 else if x < 6 then x + 1 else x
theorem mp_op {x : Int} (h : 6 < x) : x = mp x := by unfold mp; rw [if_neg (by omega), if_neg (by omega)]
theorem mp_num : (0 : Int) = mp 6 := rfl
theorem mp_nam {x : Int} (h : x < 6) : x + 1 = mp x := by unfold mp; rw [if_neg (by omega), if_pos h]
def cB : List Int → Int
  | [] => 0
  | x :: S => cB S + (if x < 10 then 1 else 0)
def dp : List (Int × Int) → Int
  | [] => 0
  | x :: E => dp E + (if x.1 < 7 then 1 else if x.1 = 10 then 0 else -1)
def vR : List (Int × Int) → Prop
  | [] => True
  | x :: E => vR E ∧ (x.1 ≤ 10) ∧ (x.1 = 10 → 1 ≤ dp E) ∧ (7 ≤ x.1 → x.1 ≠ 10 → 2 ≤ dp E)
theorem cB_tail {S : List Int} (h0 : S ≠ []) : (hdS S < 10 → cB S = cB S.tail + 1) ∧ (10 ≤ hdS S → cB S = cB S.tail) := by
  cases S with
  | nil => exact absurd rfl h0
  | cons x S =>
    simp only [cB, hdS, List.tail_cons]
    exact ⟨fun h => by rw [if_pos h], fun h => by rw [if_neg (by omega)]; omega⟩
theorem cB_pos : ∀ S : List Int, 0 ≤ cB S := by
  intro S
  induction S with
  | nil => decide
  | cons x S ih => simp only [cB]; split <;> omega
theorem rlS_v (c : Int) : ∀ (S : List Int) (E : List (Int × Int)), wfS S → vR E → dp E = cB S + 1 → vR (rlS c S E).2 ∧ dp (rlS c S E).2 = cB (rlS c S E).1 + 1 := by
  intro S
  induction S with
  | nil => intro E _ h1 h2; exact ⟨h1, h2⟩
  | cons x S ih =>
    intro E hw h1 h2
    have hx := hw.2.1
    have hp := cB_pos S
    unfold rlS
    by_cases hc : x < 10 ∧ (c = 9 → x = 9)
    · rw [if_pos hc]
      simp only [cB] at h2
      rw [if_pos hc.1] at h2
      refine ih ((x, 0) :: E) hw.1 ⟨h1, by show x ≤ 10; omega, fun h => by have h : x = 10 := h; omega, fun _ _ => by omega⟩ ?_
      simp only [dp]
      rw [if_neg (by omega), if_neg (by omega)]
      omega
    · rw [if_neg hc]
      exact ⟨h1, h2⟩
theorem rlN_v : ∀ (S : List Int) (E : List (Int × Int)), wfS S → vR E → dp E = cB S + 1 → vR (rlN S E).2 ∧ dp (rlN S E).2 = cB (rlN S E).1 + 1 := by
  intro S
  induction S with
  | nil => intro E _ h1 h2; exact ⟨h1, h2⟩
  | cons x S ih =>
    intro E hw h1 h2
    have hp := cB_pos S
    unfold rlN
    by_cases hc : x = 10
    · rw [if_pos hc]
      simp only [cB] at h2
      rw [if_neg (by omega)] at h2
      refine ih ((10, 0) :: E) hw.1 ⟨h1, by decide, fun _ => by omega, fun _ h => absurd rfl h⟩ ?_
      simp only [dp]
      rw [if_neg (by decide), if_pos (by decide)]
      omega
    · rw [if_neg hc]
      exact ⟨h1, h2⟩
def xM (has : Int) (S : List Int) (E : List (Int × Int)) (wt : Int → Int) (w : Int) (it nu : Int → Int) (c deep cnt dd : Int) : Prop :=
  (wfS S ∧ (has = 1 → hdS S ≠ 10) ∧ rep S wt w ∧ repC mp E it nu c ∧ deep = cNs S ∧ cnt = (E.length : Int) + cSg S ∧ cnt ≤ 40 ∧ deep ≤ 8) ∧ vR E ∧ dp E = cB S + dd
section XM
variable {S : List Int} {E : List (Int × Int)} {wt it nu : Int → Int} {w c deep cnt x : Int}
theorem xM_rng {has dd : Int} (h : xM has S E wt w it nu c deep cnt dd) : w = (S.length : Int) ∧ c = (E.length : Int) ∧ (0 ≤ cSg S ∧ 0 ≤ cNs S ∧ 0 ≤ cPa S ∧ cPa S ≤ cNs S) ∧ (S.length : Int) ≤ 3 * cNs S + 2 ∧ deep = cNs S ∧ cnt = (E.length : Int) + cSg S ∧ cnt ≤ 40 ∧ deep ≤ 8 := by
  obtain ⟨⟨h1, h2, h3, h4, h5, h6, h7, h8⟩, -⟩ := h
  exact ⟨rep_len _ _ _ h3, repC_len _ _ _ _ h4, cnt_pos S, (wfS_len S h1).1, h5, h6, h7, h8⟩
theorem xM_sg (hw : wfS S) (hx : 7 ≤ x ∧ x ≤ 9) (h9 : x ≠ 9 → S = [] ∨ hdS S = 11) (h9' : x = 9 → hdS S ≠ 9) (hd : hdS S ≠ 10) (hr : rep S wt w) (hc : repC mp E it nu c) (hn : deep = cNs S) (hi : cnt = (E.length : Int) + cSg S + 1) (hi4 : cnt ≤ 40) (hn8 : deep ≤ 8) (hv : vR E) (hd2 : dp E = cB S + 1) : xM 0 (x :: S) E (u1 wt w x) (w + 1) it nu c deep cnt 0 := by
  have hc2 := cnt_tail (S := x :: S) (by simp)
  simp only [hdS, List.tail_cons] at hc2
  refine ⟨⟨⟨hw, by omega, fun _ => ?_⟩, fun h => absurd h (by decide), rep_push hr, hc, ?_, ?_, hi4, hn8⟩, hv, ?_⟩
  · by_cases e : x = 9
    · by_cases e2 : S = []
      · exact Or.inl e2
      · have := wfS_hd hw e2
        have := h9' e
        by_cases e3 : hdS S = 11
        · exact Or.inr (Or.inl e3)
        · exact Or.inr (Or.inr ⟨e, by omega⟩)
    · rcases h9 e with h | h
      · exact Or.inl h
      · exact Or.inr (Or.inl h)
  · rw [hc2.2.2.2.1 (by omega)]; exact hn
  · rw [hc2.2.1 (by omega)]; omega
  · simp only [cB]; rw [if_pos (by omega)]; omega
theorem xM_nest (h : xM 0 S E wt w it nu c deep cnt 0) (hx : 10 ≤ x ∧ x ≤ 11) {deep' cnt' : Int} (hn : deep' = deep + 1) (hi : cnt' = cnt + (11 - x)) (hi4 : cnt' ≤ 40) (hn8 : deep' ≤ 8) : xM 0 (x :: S) E (u1 wt w x) (w + 1) it nu c deep' cnt' 0 := by
  obtain ⟨⟨h1, h2, h3, h4, h5, h6, h7, h8⟩, h9, h10⟩ := h
  have hc2 := cnt_tail (S := x :: S) (by simp)
  simp only [hdS, List.tail_cons] at hc2
  refine ⟨⟨⟨h1, by omega, fun h => by omega⟩, fun h => absurd h (by decide), rep_push h3, h4, ?_, ?_, hi4, hn8⟩, h9, ?_⟩
  · rw [hc2.2.2.1 (by omega)]; omega
  · by_cases e : x = 11
    · rw [hc2.1 e]; omega
    · rw [hc2.2.1 e]; omega
  · simp only [cB]; rw [if_neg (by omega)]; omega
theorem xM_item (h : xM 0 S E wt w it nu c deep cnt 0) {y z cnt' : Int} (hx : x ≤ 6) (hy : y = mp x) (hi : cnt' = cnt + 1) (hi4 : cnt' ≤ 40) : xM 0 S ((x, z) :: E) wt w (u1 it c y) (u1 nu c z) (c + 1) deep cnt' 1 := by
  obtain ⟨⟨h1, h2, h3, h4, h5, h6, h7, h8⟩, h9, h10⟩ := h
  refine ⟨⟨h1, h2, h3, repC_push x h4 hy, h5, ?_, hi4, h8⟩, ⟨h9, by show x ≤ 10; omega, fun h => by have h : x = 10 := h; omega, fun h _ => by have h : 7 ≤ x := h; omega⟩, ?_⟩
  · simp only [List.length_cons]; omega
  · simp only [dp]; rw [if_pos (by omega)]; omega
theorem xM_whole {w' c' deep' : Int} {it' nu' : Int → Int} (h : xM 0 S E wt w it nu c deep cnt 1) (hr : rep (rlN S E).1 wt w') (hc : repC mp (rlN S E).2 it' nu' c') (hn : deep' = cNs (rlN S E).1) : xM 1 (rlN S E).1 (rlN S E).2 wt w' it' nu' c' deep' cnt 1 := by
  obtain ⟨⟨h1, h2, h3, h4, h5, h6, h7, h8⟩, h9, h10⟩ := h
  obtain ⟨i1, i2, i3, i4, i5⟩ := rlN_ok S E h1
  obtain ⟨j1, j2⟩ := rlN_v S E h1 h9 h10
  exact ⟨⟨i1, fun _ => i2, hr, hc, hn, by omega, h7, by omega⟩, j1, j2⟩
/-- behind a paren: the paren off, not yet the negations -/
theorem xM_close {w' c' deep' : Int} {it' nu' : Int → Int} (h : xM 1 S E wt w it nu c deep cnt 1) (hp : 0 < cPa S) (hr : rep (rlS 7 S E).1 wt w') (hc : repC mp (rlS 7 S E).2 it' nu' c') {w2 : Int} (hw2 : w2 = w' - 1) (hn : deep' = deep - 1) : 0 < w' ∧ 1 ≤ deep ∧ xM 0 (rlS 7 S E).1.tail (rlS 7 S E).2 wt w2 it' nu' c' deep' cnt 1 := by
  obtain ⟨⟨h1, h2, h3, h4, h5, h6, h7, h8⟩, h9, h10⟩ := h
  obtain ⟨i1, i2, i3, i4, i5, i6, i7⟩ := rlS_ok 7 S E h1 (h2 rfl)
  obtain ⟨j1, j2⟩ := rlS_v 7 S E h1 h9 h10
  obtain ⟨k1, k2⟩ := clo_hd (E := E) h1 (h2 rfl) hp
  have hct := cnt_tail k1
  have hcb := cB_tail k1
  have hps := cnt_pos (rlS 7 S E).1.tail
  have hw0 : 0 < w' := by
    have hl := rep_len _ _ _ hr
    rcases Int.lt_or_le 0 w' with h | h
    · exact h
    · exact absurd ((rep_nil hr).mp (by omega)) k1
  refine ⟨hw0, by omega, ⟨wfS_tail i1, fun h => absurd h (by decide), by rw [hw2]; exact (rep_top hr hw0).2, hc, by omega, by omega, h7, by omega⟩, j1, by have := hcb.2 (by omega); omega⟩
theorem rep_pa : ∀ (S : List Int) (a : Int → Int) (w : Int), rep S a w → (cPa S = 0 ↔ ∀ j, 0 ≤ j → j < w → a j ≠ 11) := by
  intro S
  induction S with
  | nil => intro a w h; have h : w = 0 := h; exact ⟨fun _ j h0 h1 => by omega, fun _ => rfl⟩
  | cons x S ih =>
    intro a w h
    have hl := rep_len _ _ _ h
    simp only [List.length_cons] at hl
    have i := ih a (w - 1) h.2
    have hp := cnt_pos S
    simp only [cPa]
    by_cases e : x = 11
    · rw [if_pos e]
      exact ⟨fun h => by omega, fun h2 => absurd (h.1.trans e) (h2 (w - 1) (by omega) (by omega))⟩
    · rw [if_neg e]
      constructor
      · intro h2 j h0 h1
        by_cases ej : j = w - 1
        · rw [ej, h.1]; exact e
        · exact i.mp (by omega) j h0 (by omega)
      · intro h2
        have := i.mpr (fun j h0 h1 => h2 j h0 (by omega))
        omega
/-- the end: a code that can be worked -/
theorem repC_dp : ∀ (E : List (Int × Int)) (a b : Int → Int) (c : Int), repC mp E a b c → vR E → rdp a c.toNat = dp E ∧ ∀ i : Nat, (i : Int) < c → (a (i : Int) = 10 → 1 ≤ rdp a i) ∧ (7 ≤ a (i : Int) → a (i : Int) ≠ 10 → 2 ≤ rdp a i) := by
  intro E
  induction E with
  | nil => intro a b c h _; have h : c = 0 := h; subst h; exact ⟨rfl, fun i hi => by omega⟩
  | cons x E ih =>
    intro a b c h hv
    have hl := repC_len _ _ _ _ h
    simp only [List.length_cons] at hl
    obtain ⟨i1, i2⟩ := ih a b (c - 1) h.2.2 hv.1
    have e : c.toNat = (c - 1).toNat + 1 := by omega
    have e2 : (((c - 1).toNat : Nat) : Int) = c - 1 := by omega
    have hm : (mp x.1 < 7 ↔ x.1 < 7) ∧ (mp x.1 = 10 ↔ x.1 = 10) ∧ (mp x.1 ≤ 10) := by
      have := hv.2.1
      unfold mp
      by_cases h6 : x.1 = 6
      · rw [if_pos h6]; omega
      · rw [if_neg h6]
        by_cases h7 : x.1 < 6
        · rw [if_pos h7]; omega
        · rw [if_neg h7]; omega
    constructor
    · rw [e]
      show rdp a (c - 1).toNat + (if a (((c - 1).toNat : Nat) : Int) < 7 then 1 else if a (((c - 1).toNat : Nat) : Int) = 10 then 0 else -1) = dp (x :: E)
      rw [e2, h.1, i1]
      simp only [dp]
      by_cases h7 : x.1 < 7
      · rw [if_pos h7, if_pos (hm.1.mpr h7)]
      · rw [if_neg h7, if_neg (fun q => h7 (hm.1.mp q))]
        by_cases h10 : x.1 = 10
        · rw [if_pos h10, if_pos (hm.2.1.mpr h10)]
        · rw [if_neg h10, if_neg (fun q => h10 (hm.2.1.mp q))]
    · intro i hi
      by_cases ei : (i : Int) = c - 1
      · have ei2 : i = (c - 1).toNat := by omega
        rw [ei, h.1, ei2, i1]
        exact ⟨fun q => hv.2.2.1 (hm.2.1.mp q), fun q1 q2 => hv.2.2.2 (by have := hm.1; omega) (fun q => q2 (hm.2.1.mpr q))⟩
      · exact i2 i (by omega)
theorem xM_end (h : xM 1 S E wt w it nu c deep cnt 1) (hp : cPa S = 0) {w' c' : Int} {it' nu' : Int → Int} (hr : rep (rlS 7 S E).1 wt w') (hc : repC mp (rlS 7 S E).2 it' nu' c') : w' = 0 ∧ rpOk c' it' ∧ c' ≤ 40 := by
  obtain ⟨⟨h1, h2, h3, h4, h5, h6, h7, h8⟩, h9, h10⟩ := h
  obtain ⟨i1, i2, i3, i4, i5, i6, i7⟩ := rlS_ok 7 S E h1 (h2 rfl)
  obtain ⟨j1, j2⟩ := rlS_v 7 S E h1 h9 h10
  have e : (rlS 7 S E).1 = [] := by
    rcases i6 (by decide) with h | h
    · exact h
    · exfalso
      have hne : (rlS 7 S E).1 ≠ [] := fun q => by rw [q] at h; exact absurd h (by decide)
      have := (cnt_tail hne).2.2.2.2.1 h
      have := cnt_pos (rlS 7 S E).1.tail
      omega
  have hl := repC_len _ _ _ _ hc
  have hs := cnt_pos (rlS 7 S E).1
  obtain ⟨d1, d2⟩ := repC_dp _ _ _ _ hc j1
  refine ⟨(rep_nil hr).mpr e, ⟨?_, d2⟩, by omega⟩
  rw [d1, j2, e]
  decide
end XM
/-! outcomes -/
def oM (B : Int → Int) (n : Int) (o : Int × Int) (bad badAt a bh so nu w : Int) : Prop := bad = o.1 ∧ (o.1 ≠ 0 → badAt = o.2) ∧ mAt B n a bh so nu w o.2
section OM
variable {B : Int → Int} {n bad badAt a bh so nu w k q p : Int} {o : Int × Int}
theorem oM_ok (h : o = (0, q)) (h1 : bad = 0) (h3 : mAt B n a bh so nu w q) : oM B n o bad badAt a bh so nu w := by rw [h]; exact ⟨h1, fun h => absurd rfl h, h3⟩
theorem oM_bad (h : o = (k, q)) (h1 : bad = k) (h2 : badAt = q) (h3 : mAt B n a bh so nu w q) : oM B n o bad badAt a bh so nu w := by rw [h]; exact ⟨h1, fun _ => h2, h3⟩
def nm1 (B : Int → Int) (n lo hi p : Int) : Int × Int := if tK B n p ≠ 258 then (fk B n p, p) else if tV B n p < lo ∨ hi < tV B n p then (4, p) else (0, tX B n p)
theorem nm1_a {lo hi : Int} (h : tK B n p ≠ 258) : nm1 B n lo hi p = (fk B n p, p) := if_pos h
theorem nm1_b {lo hi : Int} (h : tK B n p = 258) (h2 : tV B n p < lo ∨ hi < tV B n p) : nm1 B n lo hi p = (4, p) := by unfold nm1; rw [if_neg (fun q => q h), if_pos h2]
theorem nm1_c {lo hi : Int} (h : tK B n p = 258) (h2 : lo ≤ tV B n p ∧ tV B n p ≤ hi) : nm1 B n lo hi p = (0, tX B n p) := by unfold nm1; rw [if_neg (fun q => q h), if_neg (by omega)]
theorem rnd_nm1 {kk : Nat} {i lo hi : Int} (h1 : gElo i.toNat = lo) (h2 : gEhi i.toNat = hi) : rnd B n (kk + 1) i p = if (nm1 B n lo hi p).1 ≠ 0 then nm1 B n lo hi p else rnd B n kk (i + 1) (nm1 B n lo hi p).2 := by
  have hf := fk_rng B n p
  by_cases c1 : tK B n p ≠ 258
  · rw [rnd_a c1, nm1_a c1, if_pos (by show fk B n p ≠ 0; omega)]
  · by_cases c2 : tV B n p < lo ∨ hi < tV B n p
    · rw [rnd_b (by omega) (by rw [h1, h2]; exact c2), nm1_b (by omega) c2, if_pos (by show (4 : Int) ≠ 0; decide)]
    · rw [rnd_c (by omega) (by rw [h1, h2]; omega), nm1_c (by omega) (by omega)]
      exact (if_neg (fun h => h rfl)).symm
theorem semi_bad (h : o.1 ≠ 0) : semi B n o = o := if_pos h
theorem semi_ok (h : tK B n q = 59) : semi B n (0, q) = (0, tX B n q) := by unfold semi; rw [if_neg (fun h => h rfl), if_neg (fun h2 => h2 h)]
theorem semi_no (h : tK B n q ≠ 59) : semi B n (0, q) = (fk B n q, q) := by unfold semi; rw [if_neg (fun h => h rfl), if_pos h]
theorem semi_fk : semi B n (fk B n q, q) = (fk B n q, q) := semi_bad (by have := fk_rng B n q; show fk B n q ≠ 0; omega)
end OM
theorem hW_rng : ∀ i : Nat, i < 18 → 0 ≤ hW i ∧ hW i ≤ 1152921504606846976 := by decide +kernel
theorem tV_nam {B : Int → Int} {n p : Int} (h : 259 ≤ tK B n p) : tV B n p = 0 := tV_0 (fun q => by
  have := tK_D q.1 q.2
  split at this <;> omega)
end

section
theorem dG_dX11_look_0 : (decode cX11_look 0 = .ok (.iload_n 1, 1)) ∧ (decode cX11_look 1 = .ok (.aload_n 0, 1)) ∧ (decode cX11_look 2 = .ok (.getfield 152, 3)) ∧ (decode cX11_look 5 = .ok (.if_icmp .ge 16, 3)) ∧ (decode cX11_look 8 = .ok (.aload_n 0, 1)) ∧ (decode cX11_look 9 = .ok (.getfield 7, 3)) ∧ (decode cX11_look 12 = .ok (.iload_n 1, 1)) ∧ (decode cX11_look 13 = .ok (.baload, 1)) ∧ (decode cX11_look 14 = .ok (.sipush 255, 3)) ∧ (decode cX11_look 17 = .ok (.iand, 1)) ∧ (decode cX11_look 18 = .ok (.goto 4, 3)) ∧ (decode cX11_look 21 = .ok (.iconst 0, 1)) := by decide +kernel
theorem dX11_look_0 : decode cX11_look 0 = .ok (.iload_n 1, 1) := dG_dX11_look_0.1
theorem dX11_look_1 : decode cX11_look 1 = .ok (.aload_n 0, 1) := dG_dX11_look_0.2.1
theorem dX11_look_2 : decode cX11_look 2 = .ok (.getfield 152, 3) := dG_dX11_look_0.2.2.1
theorem dX11_look_5 : decode cX11_look 5 = .ok (.if_icmp .ge 16, 3) := dG_dX11_look_0.2.2.2.1
theorem dX11_look_8 : decode cX11_look 8 = .ok (.aload_n 0, 1) := dG_dX11_look_0.2.2.2.2.1
theorem dX11_look_9 : decode cX11_look 9 = .ok (.getfield 7, 3) := dG_dX11_look_0.2.2.2.2.2.1
theorem dX11_look_12 : decode cX11_look 12 = .ok (.iload_n 1, 1) := dG_dX11_look_0.2.2.2.2.2.2.1
theorem dX11_look_13 : decode cX11_look 13 = .ok (.baload, 1) := dG_dX11_look_0.2.2.2.2.2.2.2.1
theorem dX11_look_14 : decode cX11_look 14 = .ok (.sipush 255, 3) := dG_dX11_look_0.2.2.2.2.2.2.2.2.1
theorem dX11_look_17 : decode cX11_look 17 = .ok (.iand, 1) := dG_dX11_look_0.2.2.2.2.2.2.2.2.2.1
theorem dX11_look_18 : decode cX11_look 18 = .ok (.goto 4, 3) := dG_dX11_look_0.2.2.2.2.2.2.2.2.2.2.1
theorem dX11_look_21 : decode cX11_look 21 = .ok (.iconst 0, 1) := dG_dX11_look_0.2.2.2.2.2.2.2.2.2.2.2
theorem dG_dX11_look_22 : (decode cX11_look 22 = .ok (.ireturn, 1)) ∧ (decode cX11_isLetter 0 = .ok (.iload_n 0, 1)) ∧ (decode cX11_isLetter 1 = .ok (.bipush 97, 2)) ∧ (decode cX11_isLetter 3 = .ok (.if_icmp .lt 13, 3)) ∧ (decode cX11_isLetter 6 = .ok (.iload_n 0, 1)) ∧ (decode cX11_isLetter 7 = .ok (.bipush 122, 2)) ∧ (decode cX11_isLetter 9 = .ok (.if_icmp .gt 7, 3)) ∧ (decode cX11_isLetter 12 = .ok (.iconst 1, 1)) ∧ (decode cX11_isLetter 13 = .ok (.goto 4, 3)) ∧ (decode cX11_isLetter 16 = .ok (.iconst 0, 1)) ∧ (decode cX11_isLetter 17 = .ok (.ireturn, 1)) ∧ (decode cX11_isDigit 0 = .ok (.iload_n 0, 1)) := by decide +kernel
theorem dX11_look_22 : decode cX11_look 22 = .ok (.ireturn, 1) := dG_dX11_look_22.1
theorem dX11_isLetter_0 : decode cX11_isLetter 0 = .ok (.iload_n 0, 1) := dG_dX11_look_22.2.1
theorem dX11_isLetter_1 : decode cX11_isLetter 1 = .ok (.bipush 97, 2) := dG_dX11_look_22.2.2.1
theorem dX11_isLetter_3 : decode cX11_isLetter 3 = .ok (.if_icmp .lt 13, 3) := dG_dX11_look_22.2.2.2.1
theorem dX11_isLetter_6 : decode cX11_isLetter 6 = .ok (.iload_n 0, 1) := dG_dX11_look_22.2.2.2.2.1
theorem dX11_isLetter_7 : decode cX11_isLetter 7 = .ok (.bipush 122, 2) := dG_dX11_look_22.2.2.2.2.2.1
theorem dX11_isLetter_9 : decode cX11_isLetter 9 = .ok (.if_icmp .gt 7, 3) := dG_dX11_look_22.2.2.2.2.2.2.1
theorem dX11_isLetter_12 : decode cX11_isLetter 12 = .ok (.iconst 1, 1) := dG_dX11_look_22.2.2.2.2.2.2.2.1
theorem dX11_isLetter_13 : decode cX11_isLetter 13 = .ok (.goto 4, 3) := dG_dX11_look_22.2.2.2.2.2.2.2.2.1
theorem dX11_isLetter_16 : decode cX11_isLetter 16 = .ok (.iconst 0, 1) := dG_dX11_look_22.2.2.2.2.2.2.2.2.2.1
theorem dX11_isLetter_17 : decode cX11_isLetter 17 = .ok (.ireturn, 1) := dG_dX11_look_22.2.2.2.2.2.2.2.2.2.2.1
theorem dX11_isDigit_0 : decode cX11_isDigit 0 = .ok (.iload_n 0, 1) := dG_dX11_look_22.2.2.2.2.2.2.2.2.2.2.2
theorem dG_dX11_isDigit_1 : (decode cX11_isDigit 1 = .ok (.bipush 48, 2)) ∧ (decode cX11_isDigit 3 = .ok (.if_icmp .lt 13, 3)) ∧ (decode cX11_isDigit 6 = .ok (.iload_n 0, 1)) ∧ (decode cX11_isDigit 7 = .ok (.bipush 57, 2)) ∧ (decode cX11_isDigit 9 = .ok (.if_icmp .gt 7, 3)) ∧ (decode cX11_isDigit 12 = .ok (.iconst 1, 1)) ∧ (decode cX11_isDigit 13 = .ok (.goto 4, 3)) ∧ (decode cX11_isDigit 16 = .ok (.iconst 0, 1)) ∧ (decode cX11_isDigit 17 = .ok (.ireturn, 1)) ∧ (decode cX11_next 0 = .ok (.aload_n 0, 1)) ∧ (decode cX11_next 1 = .ok (.aload_n 0, 1)) ∧ (decode cX11_next 2 = .ok (.getfield 155, 3)) := by decide +kernel
theorem dX11_isDigit_1 : decode cX11_isDigit 1 = .ok (.bipush 48, 2) := dG_dX11_isDigit_1.1
theorem dX11_isDigit_3 : decode cX11_isDigit 3 = .ok (.if_icmp .lt 13, 3) := dG_dX11_isDigit_1.2.1
theorem dX11_isDigit_6 : decode cX11_isDigit 6 = .ok (.iload_n 0, 1) := dG_dX11_isDigit_1.2.2.1
theorem dX11_isDigit_7 : decode cX11_isDigit 7 = .ok (.bipush 57, 2) := dG_dX11_isDigit_1.2.2.2.1
theorem dX11_isDigit_9 : decode cX11_isDigit 9 = .ok (.if_icmp .gt 7, 3) := dG_dX11_isDigit_1.2.2.2.2.1
theorem dX11_isDigit_12 : decode cX11_isDigit 12 = .ok (.iconst 1, 1) := dG_dX11_isDigit_1.2.2.2.2.2.1
theorem dX11_isDigit_13 : decode cX11_isDigit 13 = .ok (.goto 4, 3) := dG_dX11_isDigit_1.2.2.2.2.2.2.1
theorem dX11_isDigit_16 : decode cX11_isDigit 16 = .ok (.iconst 0, 1) := dG_dX11_isDigit_1.2.2.2.2.2.2.2.1
theorem dX11_isDigit_17 : decode cX11_isDigit 17 = .ok (.ireturn, 1) := dG_dX11_isDigit_1.2.2.2.2.2.2.2.2.1
theorem dX11_next_0 : decode cX11_next 0 = .ok (.aload_n 0, 1) := dG_dX11_isDigit_1.2.2.2.2.2.2.2.2.2.1
theorem dX11_next_1 : decode cX11_next 1 = .ok (.aload_n 0, 1) := dG_dX11_isDigit_1.2.2.2.2.2.2.2.2.2.2.1
theorem dX11_next_2 : decode cX11_next 2 = .ok (.getfield 155, 3) := dG_dX11_isDigit_1.2.2.2.2.2.2.2.2.2.2.2
theorem dG_dX11_next_5 : (decode cX11_next 5 = .ok (.putfield 158, 3)) ∧ (decode cX11_next 8 = .ok (.aload_n 0, 1)) ∧ (decode cX11_next 9 = .ok (.getfield 158, 3)) ∧ (decode cX11_next 12 = .ok (.aload_n 0, 1)) ∧ (decode cX11_next 13 = .ok (.getfield 152, 3)) ∧ (decode cX11_next 16 = .ok (.if_icmp .ge 42, 3)) ∧ (decode cX11_next 19 = .ok (.aload_n 0, 1)) ∧ (decode cX11_next 20 = .ok (.aload_n 0, 1)) ∧ (decode cX11_next 21 = .ok (.getfield 158, 3)) ∧ (decode cX11_next 24 = .ok (.invokevirtual 161, 3)) ∧ (decode cX11_next 27 = .ok (.bipush 10, 2)) ∧ (decode cX11_next 29 = .ok (.if_icmp .eq 16, 3)) := by decide +kernel
theorem dX11_next_5 : decode cX11_next 5 = .ok (.putfield 158, 3) := dG_dX11_next_5.1
theorem dX11_next_8 : decode cX11_next 8 = .ok (.aload_n 0, 1) := dG_dX11_next_5.2.1
theorem dX11_next_9 : decode cX11_next 9 = .ok (.getfield 158, 3) := dG_dX11_next_5.2.2.1
theorem dX11_next_12 : decode cX11_next 12 = .ok (.aload_n 0, 1) := dG_dX11_next_5.2.2.2.1
theorem dX11_next_13 : decode cX11_next 13 = .ok (.getfield 152, 3) := dG_dX11_next_5.2.2.2.2.1
theorem dX11_next_16 : decode cX11_next 16 = .ok (.if_icmp .ge 42, 3) := dG_dX11_next_5.2.2.2.2.2.1
theorem dX11_next_19 : decode cX11_next 19 = .ok (.aload_n 0, 1) := dG_dX11_next_5.2.2.2.2.2.2.1
theorem dX11_next_20 : decode cX11_next 20 = .ok (.aload_n 0, 1) := dG_dX11_next_5.2.2.2.2.2.2.2.1
theorem dX11_next_21 : decode cX11_next 21 = .ok (.getfield 158, 3) := dG_dX11_next_5.2.2.2.2.2.2.2.2.1
theorem dX11_next_24 : decode cX11_next 24 = .ok (.invokevirtual 161, 3) := dG_dX11_next_5.2.2.2.2.2.2.2.2.2.1
theorem dX11_next_27 : decode cX11_next 27 = .ok (.bipush 10, 2) := dG_dX11_next_5.2.2.2.2.2.2.2.2.2.2.1
theorem dX11_next_29 : decode cX11_next 29 = .ok (.if_icmp .eq 16, 3) := dG_dX11_next_5.2.2.2.2.2.2.2.2.2.2.2
theorem dG_dX11_next_32 : (decode cX11_next 32 = .ok (.aload_n 0, 1)) ∧ (decode cX11_next 33 = .ok (.aload_n 0, 1)) ∧ (decode cX11_next 34 = .ok (.getfield 158, 3)) ∧ (decode cX11_next 37 = .ok (.invokevirtual 161, 3)) ∧ (decode cX11_next 40 = .ok (.bipush 32, 2)) ∧ (decode cX11_next 42 = .ok (.if_icmp .ne 16, 3)) ∧ (decode cX11_next 45 = .ok (.aload_n 0, 1)) ∧ (decode cX11_next 46 = .ok (.dup, 1)) ∧ (decode cX11_next 47 = .ok (.getfield 158, 3)) ∧ (decode cX11_next 50 = .ok (.iconst 1, 1)) ∧ (decode cX11_next 51 = .ok (.iadd, 1)) ∧ (decode cX11_next 52 = .ok (.putfield 158, 3)) := by decide +kernel
theorem dX11_next_32 : decode cX11_next 32 = .ok (.aload_n 0, 1) := dG_dX11_next_32.1
theorem dX11_next_33 : decode cX11_next 33 = .ok (.aload_n 0, 1) := dG_dX11_next_32.2.1
theorem dX11_next_34 : decode cX11_next 34 = .ok (.getfield 158, 3) := dG_dX11_next_32.2.2.1
theorem dX11_next_37 : decode cX11_next 37 = .ok (.invokevirtual 161, 3) := dG_dX11_next_32.2.2.2.1
theorem dX11_next_40 : decode cX11_next 40 = .ok (.bipush 32, 2) := dG_dX11_next_32.2.2.2.2.1
theorem dX11_next_42 : decode cX11_next 42 = .ok (.if_icmp .ne 16, 3) := dG_dX11_next_32.2.2.2.2.2.1
theorem dX11_next_45 : decode cX11_next 45 = .ok (.aload_n 0, 1) := dG_dX11_next_32.2.2.2.2.2.2.1
theorem dX11_next_46 : decode cX11_next 46 = .ok (.dup, 1) := dG_dX11_next_32.2.2.2.2.2.2.2.1
theorem dX11_next_47 : decode cX11_next 47 = .ok (.getfield 158, 3) := dG_dX11_next_32.2.2.2.2.2.2.2.2.1
theorem dX11_next_50 : decode cX11_next 50 = .ok (.iconst 1, 1) := dG_dX11_next_32.2.2.2.2.2.2.2.2.2.1
theorem dX11_next_51 : decode cX11_next 51 = .ok (.iadd, 1) := dG_dX11_next_32.2.2.2.2.2.2.2.2.2.2.1
theorem dX11_next_52 : decode cX11_next 52 = .ok (.putfield 158, 3) := dG_dX11_next_32.2.2.2.2.2.2.2.2.2.2.2
theorem dG_dX11_next_55 : (decode cX11_next 55 = .ok (.goto (-47), 3)) ∧ (decode cX11_next 58 = .ok (.aload_n 0, 1)) ∧ (decode cX11_next 59 = .ok (.aload_n 0, 1)) ∧ (decode cX11_next 60 = .ok (.getfield 158, 3)) ∧ (decode cX11_next 63 = .ok (.putfield 155, 3)) ∧ (decode cX11_next 66 = .ok (.aload_n 0, 1)) ∧ (decode cX11_next 67 = .ok (.getfield 158, 3)) ∧ (decode cX11_next 70 = .ok (.aload_n 0, 1)) ∧ (decode cX11_next 71 = .ok (.getfield 152, 3)) ∧ (decode cX11_next 74 = .ok (.if_icmp .lt 9, 3)) ∧ (decode cX11_next 77 = .ok (.aload_n 0, 1)) ∧ (decode cX11_next 78 = .ok (.iconst 0, 1)) := by decide +kernel
theorem dX11_next_55 : decode cX11_next 55 = .ok (.goto (-47), 3) := dG_dX11_next_55.1
theorem dX11_next_58 : decode cX11_next 58 = .ok (.aload_n 0, 1) := dG_dX11_next_55.2.1
theorem dX11_next_59 : decode cX11_next 59 = .ok (.aload_n 0, 1) := dG_dX11_next_55.2.2.1
theorem dX11_next_60 : decode cX11_next 60 = .ok (.getfield 158, 3) := dG_dX11_next_55.2.2.2.1
theorem dX11_next_63 : decode cX11_next 63 = .ok (.putfield 155, 3) := dG_dX11_next_55.2.2.2.2.1
theorem dX11_next_66 : decode cX11_next 66 = .ok (.aload_n 0, 1) := dG_dX11_next_55.2.2.2.2.2.1
theorem dX11_next_67 : decode cX11_next 67 = .ok (.getfield 158, 3) := dG_dX11_next_55.2.2.2.2.2.2.1
theorem dX11_next_70 : decode cX11_next 70 = .ok (.aload_n 0, 1) := dG_dX11_next_55.2.2.2.2.2.2.2.1
theorem dX11_next_71 : decode cX11_next 71 = .ok (.getfield 152, 3) := dG_dX11_next_55.2.2.2.2.2.2.2.2.1
theorem dX11_next_74 : decode cX11_next 74 = .ok (.if_icmp .lt 9, 3) := dG_dX11_next_55.2.2.2.2.2.2.2.2.2.1
theorem dX11_next_77 : decode cX11_next 77 = .ok (.aload_n 0, 1) := dG_dX11_next_55.2.2.2.2.2.2.2.2.2.2.1
theorem dX11_next_78 : decode cX11_next 78 = .ok (.iconst 0, 1) := dG_dX11_next_55.2.2.2.2.2.2.2.2.2.2.2
theorem dG_dX11_next_79 : (decode cX11_next 79 = .ok (.putfield 165, 3)) ∧ (decode cX11_next 82 = .ok (.return_, 1)) ∧ (decode cX11_next 83 = .ok (.aload_n 0, 1)) ∧ (decode cX11_next 84 = .ok (.aload_n 0, 1)) ∧ (decode cX11_next 85 = .ok (.getfield 158, 3)) ∧ (decode cX11_next 88 = .ok (.invokevirtual 161, 3)) ∧ (decode cX11_next 91 = .ok (.istore_n 1, 1)) ∧ (decode cX11_next 92 = .ok (.iload_n 1, 1)) ∧ (decode cX11_next 93 = .ok (.invokestatic 168, 3)) ∧ (decode cX11_next 96 = .ok (.ifCond .eq 86, 3)) ∧ (decode cX11_next 99 = .ok (.aload_n 0, 1)) ∧ (decode cX11_next 100 = .ok (.iconst 1, 1)) := by decide +kernel
theorem dX11_next_79 : decode cX11_next 79 = .ok (.putfield 165, 3) := dG_dX11_next_79.1
theorem dX11_next_82 : decode cX11_next 82 = .ok (.return_, 1) := dG_dX11_next_79.2.1
theorem dX11_next_83 : decode cX11_next 83 = .ok (.aload_n 0, 1) := dG_dX11_next_79.2.2.1
theorem dX11_next_84 : decode cX11_next 84 = .ok (.aload_n 0, 1) := dG_dX11_next_79.2.2.2.1
theorem dX11_next_85 : decode cX11_next 85 = .ok (.getfield 158, 3) := dG_dX11_next_79.2.2.2.2.1
theorem dX11_next_88 : decode cX11_next 88 = .ok (.invokevirtual 161, 3) := dG_dX11_next_79.2.2.2.2.2.1
theorem dX11_next_91 : decode cX11_next 91 = .ok (.istore_n 1, 1) := dG_dX11_next_79.2.2.2.2.2.2.1
theorem dX11_next_92 : decode cX11_next 92 = .ok (.iload_n 1, 1) := dG_dX11_next_79.2.2.2.2.2.2.2.1
theorem dX11_next_93 : decode cX11_next 93 = .ok (.invokestatic 168, 3) := dG_dX11_next_79.2.2.2.2.2.2.2.2.1
theorem dX11_next_96 : decode cX11_next 96 = .ok (.ifCond .eq 86, 3) := dG_dX11_next_79.2.2.2.2.2.2.2.2.2.1
theorem dX11_next_99 : decode cX11_next 99 = .ok (.aload_n 0, 1) := dG_dX11_next_79.2.2.2.2.2.2.2.2.2.2.1
theorem dX11_next_100 : decode cX11_next 100 = .ok (.iconst 1, 1) := dG_dX11_next_79.2.2.2.2.2.2.2.2.2.2.2
theorem dG_dX11_next_101 : (decode cX11_next 101 = .ok (.putfield 165, 3)) ∧ (decode cX11_next 104 = .ok (.aload_n 0, 1)) ∧ (decode cX11_next 105 = .ok (.lconst 0, 1)) ∧ (decode cX11_next 106 = .ok (.putfield 172, 3)) ∧ (decode cX11_next 109 = .ok (.aload_n 0, 1)) ∧ (decode cX11_next 110 = .ok (.aload_n 0, 1)) ∧ (decode cX11_next 111 = .ok (.getfield 155, 3)) ∧ (decode cX11_next 114 = .ok (.invokevirtual 161, 3)) ∧ (decode cX11_next 117 = .ok (.invokestatic 168, 3)) ∧ (decode cX11_next 120 = .ok (.ifCond .eq 230, 3)) ∧ (decode cX11_next 123 = .ok (.aload_n 0, 1)) ∧ (decode cX11_next 124 = .ok (.aload_n 0, 1)) := by decide +kernel
theorem dX11_next_101 : decode cX11_next 101 = .ok (.putfield 165, 3) := dG_dX11_next_101.1
theorem dX11_next_104 : decode cX11_next 104 = .ok (.aload_n 0, 1) := dG_dX11_next_101.2.1
theorem dX11_next_105 : decode cX11_next 105 = .ok (.lconst 0, 1) := dG_dX11_next_101.2.2.1
theorem dX11_next_106 : decode cX11_next 106 = .ok (.putfield 172, 3) := dG_dX11_next_101.2.2.2.1
theorem dX11_next_109 : decode cX11_next 109 = .ok (.aload_n 0, 1) := dG_dX11_next_101.2.2.2.2.1
theorem dX11_next_110 : decode cX11_next 110 = .ok (.aload_n 0, 1) := dG_dX11_next_101.2.2.2.2.2.1
theorem dX11_next_111 : decode cX11_next 111 = .ok (.getfield 155, 3) := dG_dX11_next_101.2.2.2.2.2.2.1
theorem dX11_next_114 : decode cX11_next 114 = .ok (.invokevirtual 161, 3) := dG_dX11_next_101.2.2.2.2.2.2.2.1
theorem dX11_next_117 : decode cX11_next 117 = .ok (.invokestatic 168, 3) := dG_dX11_next_101.2.2.2.2.2.2.2.2.1
theorem dX11_next_120 : decode cX11_next 120 = .ok (.ifCond .eq 230, 3) := dG_dX11_next_101.2.2.2.2.2.2.2.2.2.1
theorem dX11_next_123 : decode cX11_next 123 = .ok (.aload_n 0, 1) := dG_dX11_next_101.2.2.2.2.2.2.2.2.2.2.1
theorem dX11_next_124 : decode cX11_next 124 = .ok (.aload_n 0, 1) := dG_dX11_next_101.2.2.2.2.2.2.2.2.2.2.2
theorem dG_dX11_next_125 : (decode cX11_next 125 = .ok (.getfield 155, 3)) ∧ (decode cX11_next 128 = .ok (.aload_n 0, 1)) ∧ (decode cX11_next 129 = .ok (.getfield 158, 3)) ∧ (decode cX11_next 132 = .ok (.isub, 1)) ∧ (decode cX11_next 133 = .ok (.bipush 12, 2)) ∧ (decode cX11_next 135 = .ok (.if_icmp .ge 28, 3)) ∧ (decode cX11_next 138 = .ok (.aload_n 0, 1)) ∧ (decode cX11_next 139 = .ok (.getfield 172, 3)) ∧ (decode cX11_next 142 = .ok (.ldc2_w 176, 3)) ∧ (decode cX11_next 145 = .ok (.lmul, 1)) ∧ (decode cX11_next 146 = .ok (.aload_n 0, 1)) ∧ (decode cX11_next 147 = .ok (.aload_n 0, 1)) := by decide +kernel
theorem dX11_next_125 : decode cX11_next 125 = .ok (.getfield 155, 3) := dG_dX11_next_125.1
theorem dX11_next_128 : decode cX11_next 128 = .ok (.aload_n 0, 1) := dG_dX11_next_125.2.1
theorem dX11_next_129 : decode cX11_next 129 = .ok (.getfield 158, 3) := dG_dX11_next_125.2.2.1
theorem dX11_next_132 : decode cX11_next 132 = .ok (.isub, 1) := dG_dX11_next_125.2.2.2.1
theorem dX11_next_133 : decode cX11_next 133 = .ok (.bipush 12, 2) := dG_dX11_next_125.2.2.2.2.1
theorem dX11_next_135 : decode cX11_next 135 = .ok (.if_icmp .ge 28, 3) := dG_dX11_next_125.2.2.2.2.2.1
theorem dX11_next_138 : decode cX11_next 138 = .ok (.aload_n 0, 1) := dG_dX11_next_125.2.2.2.2.2.2.1
theorem dX11_next_139 : decode cX11_next 139 = .ok (.getfield 172, 3) := dG_dX11_next_125.2.2.2.2.2.2.2.1
theorem dX11_next_142 : decode cX11_next 142 = .ok (.ldc2_w 176, 3) := dG_dX11_next_125.2.2.2.2.2.2.2.2.1
theorem dX11_next_145 : decode cX11_next 145 = .ok (.lmul, 1) := dG_dX11_next_125.2.2.2.2.2.2.2.2.2.1
theorem dX11_next_146 : decode cX11_next 146 = .ok (.aload_n 0, 1) := dG_dX11_next_125.2.2.2.2.2.2.2.2.2.2.1
theorem dX11_next_147 : decode cX11_next 147 = .ok (.aload_n 0, 1) := dG_dX11_next_125.2.2.2.2.2.2.2.2.2.2.2
theorem dG_dX11_next_148 : (decode cX11_next 148 = .ok (.getfield 155, 3)) ∧ (decode cX11_next 151 = .ok (.invokevirtual 161, 3)) ∧ (decode cX11_next 154 = .ok (.i2l, 1)) ∧ (decode cX11_next 155 = .ok (.ladd, 1)) ∧ (decode cX11_next 156 = .ok (.ldc2_w 178, 3)) ∧ (decode cX11_next 159 = .ok (.lsub, 1)) ∧ (decode cX11_next 160 = .ok (.goto 6, 3)) ∧ (decode cX11_next 163 = .ok (.ldc2_w 180, 3)) ∧ (decode cX11_next 166 = .ok (.putfield 172, 3)) ∧ (decode cX11_next 169 = .ok (.aload_n 0, 1)) ∧ (decode cX11_next 170 = .ok (.dup, 1)) ∧ (decode cX11_next 171 = .ok (.getfield 155, 3)) := by decide +kernel
theorem dX11_next_148 : decode cX11_next 148 = .ok (.getfield 155, 3) := dG_dX11_next_148.1
theorem dX11_next_151 : decode cX11_next 151 = .ok (.invokevirtual 161, 3) := dG_dX11_next_148.2.1
theorem dX11_next_154 : decode cX11_next 154 = .ok (.i2l, 1) := dG_dX11_next_148.2.2.1
theorem dX11_next_155 : decode cX11_next 155 = .ok (.ladd, 1) := dG_dX11_next_148.2.2.2.1
theorem dX11_next_156 : decode cX11_next 156 = .ok (.ldc2_w 178, 3) := dG_dX11_next_148.2.2.2.2.1
theorem dX11_next_159 : decode cX11_next 159 = .ok (.lsub, 1) := dG_dX11_next_148.2.2.2.2.2.1
theorem dX11_next_160 : decode cX11_next 160 = .ok (.goto 6, 3) := dG_dX11_next_148.2.2.2.2.2.2.1
theorem dX11_next_163 : decode cX11_next 163 = .ok (.ldc2_w 180, 3) := dG_dX11_next_148.2.2.2.2.2.2.2.1
theorem dX11_next_166 : decode cX11_next 166 = .ok (.putfield 172, 3) := dG_dX11_next_148.2.2.2.2.2.2.2.2.1
theorem dX11_next_169 : decode cX11_next 169 = .ok (.aload_n 0, 1) := dG_dX11_next_148.2.2.2.2.2.2.2.2.2.1
theorem dX11_next_170 : decode cX11_next 170 = .ok (.dup, 1) := dG_dX11_next_148.2.2.2.2.2.2.2.2.2.2.1
theorem dX11_next_171 : decode cX11_next 171 = .ok (.getfield 155, 3) := dG_dX11_next_148.2.2.2.2.2.2.2.2.2.2.2
theorem dG_dX11_next_174 : (decode cX11_next 174 = .ok (.iconst 1, 1)) ∧ (decode cX11_next 175 = .ok (.iadd, 1)) ∧ (decode cX11_next 176 = .ok (.putfield 155, 3)) ∧ (decode cX11_next 179 = .ok (.goto (-70), 3)) ∧ (decode cX11_next 182 = .ok (.iload_n 1, 1)) ∧ (decode cX11_next 183 = .ok (.invokestatic 182, 3)) ∧ (decode cX11_next 186 = .ok (.ifCond .eq 98, 3)) ∧ (decode cX11_next 189 = .ok (.aload_n 0, 1)) ∧ (decode cX11_next 190 = .ok (.iconst 0, 1)) ∧ (decode cX11_next 191 = .ok (.putfield 185, 3)) ∧ (decode cX11_next 194 = .ok (.aload_n 0, 1)) ∧ (decode cX11_next 195 = .ok (.aload_n 0, 1)) := by decide +kernel
theorem dX11_next_174 : decode cX11_next 174 = .ok (.iconst 1, 1) := dG_dX11_next_174.1
theorem dX11_next_175 : decode cX11_next 175 = .ok (.iadd, 1) := dG_dX11_next_174.2.1
theorem dX11_next_176 : decode cX11_next 176 = .ok (.putfield 155, 3) := dG_dX11_next_174.2.2.1
theorem dX11_next_179 : decode cX11_next 179 = .ok (.goto (-70), 3) := dG_dX11_next_174.2.2.2.1
theorem dX11_next_182 : decode cX11_next 182 = .ok (.iload_n 1, 1) := dG_dX11_next_174.2.2.2.2.1
theorem dX11_next_183 : decode cX11_next 183 = .ok (.invokestatic 182, 3) := dG_dX11_next_174.2.2.2.2.2.1
theorem dX11_next_186 : decode cX11_next 186 = .ok (.ifCond .eq 98, 3) := dG_dX11_next_174.2.2.2.2.2.2.1
theorem dX11_next_189 : decode cX11_next 189 = .ok (.aload_n 0, 1) := dG_dX11_next_174.2.2.2.2.2.2.2.1
theorem dX11_next_190 : decode cX11_next 190 = .ok (.iconst 0, 1) := dG_dX11_next_174.2.2.2.2.2.2.2.2.1
theorem dX11_next_191 : decode cX11_next 191 = .ok (.putfield 185, 3) := dG_dX11_next_174.2.2.2.2.2.2.2.2.2.1
theorem dX11_next_194 : decode cX11_next 194 = .ok (.aload_n 0, 1) := dG_dX11_next_174.2.2.2.2.2.2.2.2.2.2.1
theorem dX11_next_195 : decode cX11_next 195 = .ok (.aload_n 0, 1) := dG_dX11_next_174.2.2.2.2.2.2.2.2.2.2.2
theorem dG_dX11_next_196 : (decode cX11_next 196 = .ok (.getfield 155, 3)) ∧ (decode cX11_next 199 = .ok (.invokevirtual 161, 3)) ∧ (decode cX11_next 202 = .ok (.invokestatic 182, 3)) ∧ (decode cX11_next 205 = .ok (.ifCond .eq 53, 3)) ∧ (decode cX11_next 208 = .ok (.aload_n 0, 1)) ∧ (decode cX11_next 209 = .ok (.getfield 155, 3)) ∧ (decode cX11_next 212 = .ok (.aload_n 0, 1)) ∧ (decode cX11_next 213 = .ok (.getfield 158, 3)) ∧ (decode cX11_next 216 = .ok (.isub, 1)) ∧ (decode cX11_next 217 = .ok (.bipush 6, 2)) ∧ (decode cX11_next 219 = .ok (.if_icmp .ge 26, 3)) ∧ (decode cX11_next 222 = .ok (.aload_n 0, 1)) := by decide +kernel
theorem dX11_next_196 : decode cX11_next 196 = .ok (.getfield 155, 3) := dG_dX11_next_196.1
theorem dX11_next_199 : decode cX11_next 199 = .ok (.invokevirtual 161, 3) := dG_dX11_next_196.2.1
theorem dX11_next_202 : decode cX11_next 202 = .ok (.invokestatic 182, 3) := dG_dX11_next_196.2.2.1
theorem dX11_next_205 : decode cX11_next 205 = .ok (.ifCond .eq 53, 3) := dG_dX11_next_196.2.2.2.1
theorem dX11_next_208 : decode cX11_next 208 = .ok (.aload_n 0, 1) := dG_dX11_next_196.2.2.2.2.1
theorem dX11_next_209 : decode cX11_next 209 = .ok (.getfield 155, 3) := dG_dX11_next_196.2.2.2.2.2.1
theorem dX11_next_212 : decode cX11_next 212 = .ok (.aload_n 0, 1) := dG_dX11_next_196.2.2.2.2.2.2.1
theorem dX11_next_213 : decode cX11_next 213 = .ok (.getfield 158, 3) := dG_dX11_next_196.2.2.2.2.2.2.2.1
theorem dX11_next_216 : decode cX11_next 216 = .ok (.isub, 1) := dG_dX11_next_196.2.2.2.2.2.2.2.2.1
theorem dX11_next_217 : decode cX11_next 217 = .ok (.bipush 6, 2) := dG_dX11_next_196.2.2.2.2.2.2.2.2.2.1
theorem dX11_next_219 : decode cX11_next 219 = .ok (.if_icmp .ge 26, 3) := dG_dX11_next_196.2.2.2.2.2.2.2.2.2.2.1
theorem dX11_next_222 : decode cX11_next 222 = .ok (.aload_n 0, 1) := dG_dX11_next_196.2.2.2.2.2.2.2.2.2.2.2
theorem dG_dX11_next_223 : (decode cX11_next 223 = .ok (.bipush 10, 2)) ∧ (decode cX11_next 225 = .ok (.aload_n 0, 1)) ∧ (decode cX11_next 226 = .ok (.getfield 185, 3)) ∧ (decode cX11_next 229 = .ok (.imul, 1)) ∧ (decode cX11_next 230 = .ok (.aload_n 0, 1)) ∧ (decode cX11_next 231 = .ok (.aload_n 0, 1)) ∧ (decode cX11_next 232 = .ok (.getfield 155, 3)) ∧ (decode cX11_next 235 = .ok (.invokevirtual 161, 3)) ∧ (decode cX11_next 238 = .ok (.iadd, 1)) ∧ (decode cX11_next 239 = .ok (.bipush 48, 2)) ∧ (decode cX11_next 241 = .ok (.isub, 1)) ∧ (decode cX11_next 242 = .ok (.putfield 185, 3)) := by decide +kernel
theorem dX11_next_223 : decode cX11_next 223 = .ok (.bipush 10, 2) := dG_dX11_next_223.1
theorem dX11_next_225 : decode cX11_next 225 = .ok (.aload_n 0, 1) := dG_dX11_next_223.2.1
theorem dX11_next_226 : decode cX11_next 226 = .ok (.getfield 185, 3) := dG_dX11_next_223.2.2.1
theorem dX11_next_229 : decode cX11_next 229 = .ok (.imul, 1) := dG_dX11_next_223.2.2.2.1
theorem dX11_next_230 : decode cX11_next 230 = .ok (.aload_n 0, 1) := dG_dX11_next_223.2.2.2.2.1
theorem dX11_next_231 : decode cX11_next 231 = .ok (.aload_n 0, 1) := dG_dX11_next_223.2.2.2.2.2.1
theorem dX11_next_232 : decode cX11_next 232 = .ok (.getfield 155, 3) := dG_dX11_next_223.2.2.2.2.2.2.1
theorem dX11_next_235 : decode cX11_next 235 = .ok (.invokevirtual 161, 3) := dG_dX11_next_223.2.2.2.2.2.2.2.1
theorem dX11_next_238 : decode cX11_next 238 = .ok (.iadd, 1) := dG_dX11_next_223.2.2.2.2.2.2.2.2.1
theorem dX11_next_239 : decode cX11_next 239 = .ok (.bipush 48, 2) := dG_dX11_next_223.2.2.2.2.2.2.2.2.2.1
theorem dX11_next_241 : decode cX11_next 241 = .ok (.isub, 1) := dG_dX11_next_223.2.2.2.2.2.2.2.2.2.2.1
theorem dX11_next_242 : decode cX11_next 242 = .ok (.putfield 185, 3) := dG_dX11_next_223.2.2.2.2.2.2.2.2.2.2.2
theorem dG_dX11_next_245 : (decode cX11_next 245 = .ok (.aload_n 0, 1)) ∧ (decode cX11_next 246 = .ok (.dup, 1)) ∧ (decode cX11_next 247 = .ok (.getfield 155, 3)) ∧ (decode cX11_next 250 = .ok (.iconst 1, 1)) ∧ (decode cX11_next 251 = .ok (.iadd, 1)) ∧ (decode cX11_next 252 = .ok (.putfield 155, 3)) ∧ (decode cX11_next 255 = .ok (.goto (-61), 3)) ∧ (decode cX11_next 258 = .ok (.aload_n 0, 1)) ∧ (decode cX11_next 259 = .ok (.aload_n 0, 1)) ∧ (decode cX11_next 260 = .ok (.getfield 155, 3)) ∧ (decode cX11_next 263 = .ok (.aload_n 0, 1)) ∧ (decode cX11_next 264 = .ok (.getfield 158, 3)) := by decide +kernel
theorem dX11_next_245 : decode cX11_next 245 = .ok (.aload_n 0, 1) := dG_dX11_next_245.1
theorem dX11_next_246 : decode cX11_next 246 = .ok (.dup, 1) := dG_dX11_next_245.2.1
theorem dX11_next_247 : decode cX11_next 247 = .ok (.getfield 155, 3) := dG_dX11_next_245.2.2.1
theorem dX11_next_250 : decode cX11_next 250 = .ok (.iconst 1, 1) := dG_dX11_next_245.2.2.2.1
theorem dX11_next_251 : decode cX11_next 251 = .ok (.iadd, 1) := dG_dX11_next_245.2.2.2.2.1
theorem dX11_next_252 : decode cX11_next 252 = .ok (.putfield 155, 3) := dG_dX11_next_245.2.2.2.2.2.1
theorem dX11_next_255 : decode cX11_next 255 = .ok (.goto (-61), 3) := dG_dX11_next_245.2.2.2.2.2.2.1
theorem dX11_next_258 : decode cX11_next 258 = .ok (.aload_n 0, 1) := dG_dX11_next_245.2.2.2.2.2.2.2.1
theorem dX11_next_259 : decode cX11_next 259 = .ok (.aload_n 0, 1) := dG_dX11_next_245.2.2.2.2.2.2.2.2.1
theorem dX11_next_260 : decode cX11_next 260 = .ok (.getfield 155, 3) := dG_dX11_next_245.2.2.2.2.2.2.2.2.2.1
theorem dX11_next_263 : decode cX11_next 263 = .ok (.aload_n 0, 1) := dG_dX11_next_245.2.2.2.2.2.2.2.2.2.2.1
theorem dX11_next_264 : decode cX11_next 264 = .ok (.getfield 158, 3) := dG_dX11_next_245.2.2.2.2.2.2.2.2.2.2.2
theorem dG_dX11_next_267 : (decode cX11_next 267 = .ok (.isub, 1)) ∧ (decode cX11_next 268 = .ok (.bipush 6, 2)) ∧ (decode cX11_next 270 = .ok (.if_icmp .le 7, 3)) ∧ (decode cX11_next 273 = .ok (.iconst 4, 1)) ∧ (decode cX11_next 274 = .ok (.goto 4, 3)) ∧ (decode cX11_next 277 = .ok (.iconst 2, 1)) ∧ (decode cX11_next 278 = .ok (.putfield 165, 3)) ∧ (decode cX11_next 281 = .ok (.goto 69, 3)) ∧ (decode cX11_next 284 = .ok (.aload_n 0, 1)) ∧ (decode cX11_next 285 = .ok (.aload_n 0, 1)) ∧ (decode cX11_next 286 = .ok (.getfield 158, 3)) ∧ (decode cX11_next 289 = .ok (.iconst 1, 1)) := by decide +kernel
theorem dX11_next_267 : decode cX11_next 267 = .ok (.isub, 1) := dG_dX11_next_267.1
theorem dX11_next_268 : decode cX11_next 268 = .ok (.bipush 6, 2) := dG_dX11_next_267.2.1
theorem dX11_next_270 : decode cX11_next 270 = .ok (.if_icmp .le 7, 3) := dG_dX11_next_267.2.2.1
theorem dX11_next_273 : decode cX11_next 273 = .ok (.iconst 4, 1) := dG_dX11_next_267.2.2.2.1
theorem dX11_next_274 : decode cX11_next 274 = .ok (.goto 4, 3) := dG_dX11_next_267.2.2.2.2.1
theorem dX11_next_277 : decode cX11_next 277 = .ok (.iconst 2, 1) := dG_dX11_next_267.2.2.2.2.2.1
theorem dX11_next_278 : decode cX11_next 278 = .ok (.putfield 165, 3) := dG_dX11_next_267.2.2.2.2.2.2.1
theorem dX11_next_281 : decode cX11_next 281 = .ok (.goto 69, 3) := dG_dX11_next_267.2.2.2.2.2.2.2.1
theorem dX11_next_284 : decode cX11_next 284 = .ok (.aload_n 0, 1) := dG_dX11_next_267.2.2.2.2.2.2.2.2.1
theorem dX11_next_285 : decode cX11_next 285 = .ok (.aload_n 0, 1) := dG_dX11_next_267.2.2.2.2.2.2.2.2.2.1
theorem dX11_next_286 : decode cX11_next 286 = .ok (.getfield 158, 3) := dG_dX11_next_267.2.2.2.2.2.2.2.2.2.2.1
theorem dX11_next_289 : decode cX11_next 289 = .ok (.iconst 1, 1) := dG_dX11_next_267.2.2.2.2.2.2.2.2.2.2.2
theorem dG_dX11_next_290 : (decode cX11_next 290 = .ok (.iadd, 1)) ∧ (decode cX11_next 291 = .ok (.putfield 155, 3)) ∧ (decode cX11_next 294 = .ok (.aload_n 0, 1)) ∧ (decode cX11_next 295 = .ok (.iload_n 1, 1)) ∧ (decode cX11_next 296 = .ok (.putfield 185, 3)) ∧ (decode cX11_next 299 = .ok (.aload_n 0, 1)) ∧ (decode cX11_next 300 = .ok (.iload_n 1, 1)) ∧ (decode cX11_next 301 = .ok (.bipush 43, 2)) ∧ (decode cX11_next 303 = .ok (.if_icmp .eq 39, 3)) ∧ (decode cX11_next 306 = .ok (.iload_n 1, 1)) ∧ (decode cX11_next 307 = .ok (.bipush 45, 2)) ∧ (decode cX11_next 309 = .ok (.if_icmp .eq 33, 3)) := by decide +kernel
theorem dX11_next_290 : decode cX11_next 290 = .ok (.iadd, 1) := dG_dX11_next_290.1
theorem dX11_next_291 : decode cX11_next 291 = .ok (.putfield 155, 3) := dG_dX11_next_290.2.1
theorem dX11_next_294 : decode cX11_next 294 = .ok (.aload_n 0, 1) := dG_dX11_next_290.2.2.1
theorem dX11_next_295 : decode cX11_next 295 = .ok (.iload_n 1, 1) := dG_dX11_next_290.2.2.2.1
theorem dX11_next_296 : decode cX11_next 296 = .ok (.putfield 185, 3) := dG_dX11_next_290.2.2.2.2.1
theorem dX11_next_299 : decode cX11_next 299 = .ok (.aload_n 0, 1) := dG_dX11_next_290.2.2.2.2.2.1
theorem dX11_next_300 : decode cX11_next 300 = .ok (.iload_n 1, 1) := dG_dX11_next_290.2.2.2.2.2.2.1
theorem dX11_next_301 : decode cX11_next 301 = .ok (.bipush 43, 2) := dG_dX11_next_290.2.2.2.2.2.2.2.1
theorem dX11_next_303 : decode cX11_next 303 = .ok (.if_icmp .eq 39, 3) := dG_dX11_next_290.2.2.2.2.2.2.2.2.1
theorem dX11_next_306 : decode cX11_next 306 = .ok (.iload_n 1, 1) := dG_dX11_next_290.2.2.2.2.2.2.2.2.2.1
theorem dX11_next_307 : decode cX11_next 307 = .ok (.bipush 45, 2) := dG_dX11_next_290.2.2.2.2.2.2.2.2.2.2.1
theorem dX11_next_309 : decode cX11_next 309 = .ok (.if_icmp .eq 33, 3) := dG_dX11_next_290.2.2.2.2.2.2.2.2.2.2.2
theorem dG_dX11_next_312 : (decode cX11_next 312 = .ok (.iload_n 1, 1)) ∧ (decode cX11_next 313 = .ok (.bipush 42, 2)) ∧ (decode cX11_next 315 = .ok (.if_icmp .eq 27, 3)) ∧ (decode cX11_next 318 = .ok (.iload_n 1, 1)) ∧ (decode cX11_next 319 = .ok (.bipush 40, 2)) ∧ (decode cX11_next 321 = .ok (.if_icmp .eq 21, 3)) ∧ (decode cX11_next 324 = .ok (.iload_n 1, 1)) ∧ (decode cX11_next 325 = .ok (.bipush 41, 2)) ∧ (decode cX11_next 327 = .ok (.if_icmp .eq 15, 3)) ∧ (decode cX11_next 330 = .ok (.iload_n 1, 1)) ∧ (decode cX11_next 331 = .ok (.bipush 44, 2)) ∧ (decode cX11_next 333 = .ok (.if_icmp .eq 9, 3)) := by decide +kernel
theorem dX11_next_312 : decode cX11_next 312 = .ok (.iload_n 1, 1) := dG_dX11_next_312.1
theorem dX11_next_313 : decode cX11_next 313 = .ok (.bipush 42, 2) := dG_dX11_next_312.2.1
theorem dX11_next_315 : decode cX11_next 315 = .ok (.if_icmp .eq 27, 3) := dG_dX11_next_312.2.2.1
theorem dX11_next_318 : decode cX11_next 318 = .ok (.iload_n 1, 1) := dG_dX11_next_312.2.2.2.1
theorem dX11_next_319 : decode cX11_next 319 = .ok (.bipush 40, 2) := dG_dX11_next_312.2.2.2.2.1
theorem dX11_next_321 : decode cX11_next 321 = .ok (.if_icmp .eq 21, 3) := dG_dX11_next_312.2.2.2.2.2.1
theorem dX11_next_324 : decode cX11_next 324 = .ok (.iload_n 1, 1) := dG_dX11_next_312.2.2.2.2.2.2.1
theorem dX11_next_325 : decode cX11_next 325 = .ok (.bipush 41, 2) := dG_dX11_next_312.2.2.2.2.2.2.2.1
theorem dX11_next_327 : decode cX11_next 327 = .ok (.if_icmp .eq 15, 3) := dG_dX11_next_312.2.2.2.2.2.2.2.2.1
theorem dX11_next_330 : decode cX11_next 330 = .ok (.iload_n 1, 1) := dG_dX11_next_312.2.2.2.2.2.2.2.2.2.1
theorem dX11_next_331 : decode cX11_next 331 = .ok (.bipush 44, 2) := dG_dX11_next_312.2.2.2.2.2.2.2.2.2.2.1
theorem dX11_next_333 : decode cX11_next 333 = .ok (.if_icmp .eq 9, 3) := dG_dX11_next_312.2.2.2.2.2.2.2.2.2.2.2
theorem dG_dX11_next_336 : (decode cX11_next 336 = .ok (.iload_n 1, 1)) ∧ (decode cX11_next 337 = .ok (.bipush 59, 2)) ∧ (decode cX11_next 339 = .ok (.if_icmp .ne 7, 3)) ∧ (decode cX11_next 342 = .ok (.iconst 3, 1)) ∧ (decode cX11_next 343 = .ok (.goto 4, 3)) ∧ (decode cX11_next 346 = .ok (.iconst 4, 1)) ∧ (decode cX11_next 347 = .ok (.putfield 165, 3)) ∧ (decode cX11_next 350 = .ok (.return_, 1)) ∧ (decode cX11_spelled 0 = .ok (.iload_n 0, 1)) ∧ (decode cX11_spelled 1 = .ok (.i2l, 1)) ∧ (decode cX11_spelled 2 = .ok (.ldc2_w 178, 3)) ∧ (decode cX11_spelled 5 = .ok (.lsub, 1)) := by decide +kernel
theorem dX11_next_336 : decode cX11_next 336 = .ok (.iload_n 1, 1) := dG_dX11_next_336.1
theorem dX11_next_337 : decode cX11_next 337 = .ok (.bipush 59, 2) := dG_dX11_next_336.2.1
theorem dX11_next_339 : decode cX11_next 339 = .ok (.if_icmp .ne 7, 3) := dG_dX11_next_336.2.2.1
theorem dX11_next_342 : decode cX11_next 342 = .ok (.iconst 3, 1) := dG_dX11_next_336.2.2.2.1
theorem dX11_next_343 : decode cX11_next 343 = .ok (.goto 4, 3) := dG_dX11_next_336.2.2.2.2.1
theorem dX11_next_346 : decode cX11_next 346 = .ok (.iconst 4, 1) := dG_dX11_next_336.2.2.2.2.2.1
theorem dX11_next_347 : decode cX11_next 347 = .ok (.putfield 165, 3) := dG_dX11_next_336.2.2.2.2.2.2.1
theorem dX11_next_350 : decode cX11_next 350 = .ok (.return_, 1) := dG_dX11_next_336.2.2.2.2.2.2.2.1
theorem dX11_spelled_0 : decode cX11_spelled 0 = .ok (.iload_n 0, 1) := dG_dX11_next_336.2.2.2.2.2.2.2.2.1
theorem dX11_spelled_1 : decode cX11_spelled 1 = .ok (.i2l, 1) := dG_dX11_next_336.2.2.2.2.2.2.2.2.2.1
theorem dX11_spelled_2 : decode cX11_spelled 2 = .ok (.ldc2_w 178, 3) := dG_dX11_next_336.2.2.2.2.2.2.2.2.2.2.1
theorem dX11_spelled_5 : decode cX11_spelled 5 = .ok (.lsub, 1) := dG_dX11_next_336.2.2.2.2.2.2.2.2.2.2.2
theorem dG_dX11_spelled_6 : (decode cX11_spelled 6 = .ok (.lstore 7, 2)) ∧ (decode cX11_spelled 8 = .ok (.iload_n 1, 1)) ∧ (decode cX11_spelled 9 = .ok (.ifCond .le 19, 3)) ∧ (decode cX11_spelled 12 = .ok (.lload 7, 2)) ∧ (decode cX11_spelled 14 = .ok (.ldc2_w 176, 3)) ∧ (decode cX11_spelled 17 = .ok (.lmul, 1)) ∧ (decode cX11_spelled 18 = .ok (.iload_n 1, 1)) ∧ (decode cX11_spelled 19 = .ok (.i2l, 1)) ∧ (decode cX11_spelled 20 = .ok (.ladd, 1)) ∧ (decode cX11_spelled 21 = .ok (.ldc2_w 178, 3)) ∧ (decode cX11_spelled 24 = .ok (.lsub, 1)) ∧ (decode cX11_spelled 25 = .ok (.goto 5, 3)) := by decide +kernel
theorem dX11_spelled_6 : decode cX11_spelled 6 = .ok (.lstore 7, 2) := dG_dX11_spelled_6.1
theorem dX11_spelled_8 : decode cX11_spelled 8 = .ok (.iload_n 1, 1) := dG_dX11_spelled_6.2.1
theorem dX11_spelled_9 : decode cX11_spelled 9 = .ok (.ifCond .le 19, 3) := dG_dX11_spelled_6.2.2.1
theorem dX11_spelled_12 : decode cX11_spelled 12 = .ok (.lload 7, 2) := dG_dX11_spelled_6.2.2.2.1
theorem dX11_spelled_14 : decode cX11_spelled 14 = .ok (.ldc2_w 176, 3) := dG_dX11_spelled_6.2.2.2.2.1
theorem dX11_spelled_17 : decode cX11_spelled 17 = .ok (.lmul, 1) := dG_dX11_spelled_6.2.2.2.2.2.1
theorem dX11_spelled_18 : decode cX11_spelled 18 = .ok (.iload_n 1, 1) := dG_dX11_spelled_6.2.2.2.2.2.2.1
theorem dX11_spelled_19 : decode cX11_spelled 19 = .ok (.i2l, 1) := dG_dX11_spelled_6.2.2.2.2.2.2.2.1
theorem dX11_spelled_20 : decode cX11_spelled 20 = .ok (.ladd, 1) := dG_dX11_spelled_6.2.2.2.2.2.2.2.2.1
theorem dX11_spelled_21 : decode cX11_spelled 21 = .ok (.ldc2_w 178, 3) := dG_dX11_spelled_6.2.2.2.2.2.2.2.2.2.1
theorem dX11_spelled_24 : decode cX11_spelled 24 = .ok (.lsub, 1) := dG_dX11_spelled_6.2.2.2.2.2.2.2.2.2.2.1
theorem dX11_spelled_25 : decode cX11_spelled 25 = .ok (.goto 5, 3) := dG_dX11_spelled_6.2.2.2.2.2.2.2.2.2.2.2
theorem dG_dX11_spelled_28 : (decode cX11_spelled 28 = .ok (.lload 7, 2)) ∧ (decode cX11_spelled 30 = .ok (.lstore 7, 2)) ∧ (decode cX11_spelled 32 = .ok (.iload_n 2, 1)) ∧ (decode cX11_spelled 33 = .ok (.ifCond .le 19, 3)) ∧ (decode cX11_spelled 36 = .ok (.lload 7, 2)) ∧ (decode cX11_spelled 38 = .ok (.ldc2_w 176, 3)) ∧ (decode cX11_spelled 41 = .ok (.lmul, 1)) ∧ (decode cX11_spelled 42 = .ok (.iload_n 2, 1)) ∧ (decode cX11_spelled 43 = .ok (.i2l, 1)) ∧ (decode cX11_spelled 44 = .ok (.ladd, 1)) ∧ (decode cX11_spelled 45 = .ok (.ldc2_w 178, 3)) ∧ (decode cX11_spelled 48 = .ok (.lsub, 1)) := by decide +kernel
theorem dX11_spelled_28 : decode cX11_spelled 28 = .ok (.lload 7, 2) := dG_dX11_spelled_28.1
theorem dX11_spelled_30 : decode cX11_spelled 30 = .ok (.lstore 7, 2) := dG_dX11_spelled_28.2.1
theorem dX11_spelled_32 : decode cX11_spelled 32 = .ok (.iload_n 2, 1) := dG_dX11_spelled_28.2.2.1
theorem dX11_spelled_33 : decode cX11_spelled 33 = .ok (.ifCond .le 19, 3) := dG_dX11_spelled_28.2.2.2.1
theorem dX11_spelled_36 : decode cX11_spelled 36 = .ok (.lload 7, 2) := dG_dX11_spelled_28.2.2.2.2.1
theorem dX11_spelled_38 : decode cX11_spelled 38 = .ok (.ldc2_w 176, 3) := dG_dX11_spelled_28.2.2.2.2.2.1
theorem dX11_spelled_41 : decode cX11_spelled 41 = .ok (.lmul, 1) := dG_dX11_spelled_28.2.2.2.2.2.2.1
theorem dX11_spelled_42 : decode cX11_spelled 42 = .ok (.iload_n 2, 1) := dG_dX11_spelled_28.2.2.2.2.2.2.2.1
theorem dX11_spelled_43 : decode cX11_spelled 43 = .ok (.i2l, 1) := dG_dX11_spelled_28.2.2.2.2.2.2.2.2.1
theorem dX11_spelled_44 : decode cX11_spelled 44 = .ok (.ladd, 1) := dG_dX11_spelled_28.2.2.2.2.2.2.2.2.2.1
theorem dX11_spelled_45 : decode cX11_spelled 45 = .ok (.ldc2_w 178, 3) := dG_dX11_spelled_28.2.2.2.2.2.2.2.2.2.2.1
theorem dX11_spelled_48 : decode cX11_spelled 48 = .ok (.lsub, 1) := dG_dX11_spelled_28.2.2.2.2.2.2.2.2.2.2.2
theorem dG_dX11_spelled_49 : (decode cX11_spelled 49 = .ok (.goto 5, 3)) ∧ (decode cX11_spelled 52 = .ok (.lload 7, 2)) ∧ (decode cX11_spelled 54 = .ok (.lstore 7, 2)) ∧ (decode cX11_spelled 56 = .ok (.iload_n 3, 1)) ∧ (decode cX11_spelled 57 = .ok (.ifCond .le 19, 3)) ∧ (decode cX11_spelled 60 = .ok (.lload 7, 2)) ∧ (decode cX11_spelled 62 = .ok (.ldc2_w 176, 3)) ∧ (decode cX11_spelled 65 = .ok (.lmul, 1)) ∧ (decode cX11_spelled 66 = .ok (.iload_n 3, 1)) ∧ (decode cX11_spelled 67 = .ok (.i2l, 1)) ∧ (decode cX11_spelled 68 = .ok (.ladd, 1)) ∧ (decode cX11_spelled 69 = .ok (.ldc2_w 178, 3)) := by decide +kernel
theorem dX11_spelled_49 : decode cX11_spelled 49 = .ok (.goto 5, 3) := dG_dX11_spelled_49.1
theorem dX11_spelled_52 : decode cX11_spelled 52 = .ok (.lload 7, 2) := dG_dX11_spelled_49.2.1
theorem dX11_spelled_54 : decode cX11_spelled 54 = .ok (.lstore 7, 2) := dG_dX11_spelled_49.2.2.1
theorem dX11_spelled_56 : decode cX11_spelled 56 = .ok (.iload_n 3, 1) := dG_dX11_spelled_49.2.2.2.1
theorem dX11_spelled_57 : decode cX11_spelled 57 = .ok (.ifCond .le 19, 3) := dG_dX11_spelled_49.2.2.2.2.1
theorem dX11_spelled_60 : decode cX11_spelled 60 = .ok (.lload 7, 2) := dG_dX11_spelled_49.2.2.2.2.2.1
theorem dX11_spelled_62 : decode cX11_spelled 62 = .ok (.ldc2_w 176, 3) := dG_dX11_spelled_49.2.2.2.2.2.2.1
theorem dX11_spelled_65 : decode cX11_spelled 65 = .ok (.lmul, 1) := dG_dX11_spelled_49.2.2.2.2.2.2.2.1
theorem dX11_spelled_66 : decode cX11_spelled 66 = .ok (.iload_n 3, 1) := dG_dX11_spelled_49.2.2.2.2.2.2.2.2.1
theorem dX11_spelled_67 : decode cX11_spelled 67 = .ok (.i2l, 1) := dG_dX11_spelled_49.2.2.2.2.2.2.2.2.2.1
theorem dX11_spelled_68 : decode cX11_spelled 68 = .ok (.ladd, 1) := dG_dX11_spelled_49.2.2.2.2.2.2.2.2.2.2.1
theorem dX11_spelled_69 : decode cX11_spelled 69 = .ok (.ldc2_w 178, 3) := dG_dX11_spelled_49.2.2.2.2.2.2.2.2.2.2.2
theorem dG_dX11_spelled_72 : (decode cX11_spelled 72 = .ok (.lsub, 1)) ∧ (decode cX11_spelled 73 = .ok (.goto 5, 3)) ∧ (decode cX11_spelled 76 = .ok (.lload 7, 2)) ∧ (decode cX11_spelled 78 = .ok (.lstore 7, 2)) ∧ (decode cX11_spelled 80 = .ok (.iload 4, 2)) ∧ (decode cX11_spelled 82 = .ok (.ifCond .le 20, 3)) ∧ (decode cX11_spelled 85 = .ok (.lload 7, 2)) ∧ (decode cX11_spelled 87 = .ok (.ldc2_w 176, 3)) ∧ (decode cX11_spelled 90 = .ok (.lmul, 1)) ∧ (decode cX11_spelled 91 = .ok (.iload 4, 2)) ∧ (decode cX11_spelled 93 = .ok (.i2l, 1)) ∧ (decode cX11_spelled 94 = .ok (.ladd, 1)) := by decide +kernel
theorem dX11_spelled_72 : decode cX11_spelled 72 = .ok (.lsub, 1) := dG_dX11_spelled_72.1
theorem dX11_spelled_73 : decode cX11_spelled 73 = .ok (.goto 5, 3) := dG_dX11_spelled_72.2.1
theorem dX11_spelled_76 : decode cX11_spelled 76 = .ok (.lload 7, 2) := dG_dX11_spelled_72.2.2.1
theorem dX11_spelled_78 : decode cX11_spelled 78 = .ok (.lstore 7, 2) := dG_dX11_spelled_72.2.2.2.1
theorem dX11_spelled_80 : decode cX11_spelled 80 = .ok (.iload 4, 2) := dG_dX11_spelled_72.2.2.2.2.1
theorem dX11_spelled_82 : decode cX11_spelled 82 = .ok (.ifCond .le 20, 3) := dG_dX11_spelled_72.2.2.2.2.2.1
theorem dX11_spelled_85 : decode cX11_spelled 85 = .ok (.lload 7, 2) := dG_dX11_spelled_72.2.2.2.2.2.2.1
theorem dX11_spelled_87 : decode cX11_spelled 87 = .ok (.ldc2_w 176, 3) := dG_dX11_spelled_72.2.2.2.2.2.2.2.1
theorem dX11_spelled_90 : decode cX11_spelled 90 = .ok (.lmul, 1) := dG_dX11_spelled_72.2.2.2.2.2.2.2.2.1
theorem dX11_spelled_91 : decode cX11_spelled 91 = .ok (.iload 4, 2) := dG_dX11_spelled_72.2.2.2.2.2.2.2.2.2.1
theorem dX11_spelled_93 : decode cX11_spelled 93 = .ok (.i2l, 1) := dG_dX11_spelled_72.2.2.2.2.2.2.2.2.2.2.1
theorem dX11_spelled_94 : decode cX11_spelled 94 = .ok (.ladd, 1) := dG_dX11_spelled_72.2.2.2.2.2.2.2.2.2.2.2
theorem dG_dX11_spelled_95 : (decode cX11_spelled 95 = .ok (.ldc2_w 178, 3)) ∧ (decode cX11_spelled 98 = .ok (.lsub, 1)) ∧ (decode cX11_spelled 99 = .ok (.goto 5, 3)) ∧ (decode cX11_spelled 102 = .ok (.lload 7, 2)) ∧ (decode cX11_spelled 104 = .ok (.lstore 7, 2)) ∧ (decode cX11_spelled 106 = .ok (.iload 5, 2)) ∧ (decode cX11_spelled 108 = .ok (.ifCond .le 20, 3)) ∧ (decode cX11_spelled 111 = .ok (.lload 7, 2)) ∧ (decode cX11_spelled 113 = .ok (.ldc2_w 176, 3)) ∧ (decode cX11_spelled 116 = .ok (.lmul, 1)) ∧ (decode cX11_spelled 117 = .ok (.iload 5, 2)) ∧ (decode cX11_spelled 119 = .ok (.i2l, 1)) := by decide +kernel
theorem dX11_spelled_95 : decode cX11_spelled 95 = .ok (.ldc2_w 178, 3) := dG_dX11_spelled_95.1
theorem dX11_spelled_98 : decode cX11_spelled 98 = .ok (.lsub, 1) := dG_dX11_spelled_95.2.1
theorem dX11_spelled_99 : decode cX11_spelled 99 = .ok (.goto 5, 3) := dG_dX11_spelled_95.2.2.1
theorem dX11_spelled_102 : decode cX11_spelled 102 = .ok (.lload 7, 2) := dG_dX11_spelled_95.2.2.2.1
theorem dX11_spelled_104 : decode cX11_spelled 104 = .ok (.lstore 7, 2) := dG_dX11_spelled_95.2.2.2.2.1
theorem dX11_spelled_106 : decode cX11_spelled 106 = .ok (.iload 5, 2) := dG_dX11_spelled_95.2.2.2.2.2.1
theorem dX11_spelled_108 : decode cX11_spelled 108 = .ok (.ifCond .le 20, 3) := dG_dX11_spelled_95.2.2.2.2.2.2.1
theorem dX11_spelled_111 : decode cX11_spelled 111 = .ok (.lload 7, 2) := dG_dX11_spelled_95.2.2.2.2.2.2.2.1
theorem dX11_spelled_113 : decode cX11_spelled 113 = .ok (.ldc2_w 176, 3) := dG_dX11_spelled_95.2.2.2.2.2.2.2.2.1
theorem dX11_spelled_116 : decode cX11_spelled 116 = .ok (.lmul, 1) := dG_dX11_spelled_95.2.2.2.2.2.2.2.2.2.1
theorem dX11_spelled_117 : decode cX11_spelled 117 = .ok (.iload 5, 2) := dG_dX11_spelled_95.2.2.2.2.2.2.2.2.2.2.1
theorem dX11_spelled_119 : decode cX11_spelled 119 = .ok (.i2l, 1) := dG_dX11_spelled_95.2.2.2.2.2.2.2.2.2.2.2
theorem dG_dX11_spelled_120 : (decode cX11_spelled 120 = .ok (.ladd, 1)) ∧ (decode cX11_spelled 121 = .ok (.ldc2_w 178, 3)) ∧ (decode cX11_spelled 124 = .ok (.lsub, 1)) ∧ (decode cX11_spelled 125 = .ok (.goto 5, 3)) ∧ (decode cX11_spelled 128 = .ok (.lload 7, 2)) ∧ (decode cX11_spelled 130 = .ok (.lstore 7, 2)) ∧ (decode cX11_spelled 132 = .ok (.iload 6, 2)) ∧ (decode cX11_spelled 134 = .ok (.ifCond .le 20, 3)) ∧ (decode cX11_spelled 137 = .ok (.lload 7, 2)) ∧ (decode cX11_spelled 139 = .ok (.ldc2_w 176, 3)) ∧ (decode cX11_spelled 142 = .ok (.lmul, 1)) ∧ (decode cX11_spelled 143 = .ok (.iload 6, 2)) := by decide +kernel
theorem dX11_spelled_120 : decode cX11_spelled 120 = .ok (.ladd, 1) := dG_dX11_spelled_120.1
theorem dX11_spelled_121 : decode cX11_spelled 121 = .ok (.ldc2_w 178, 3) := dG_dX11_spelled_120.2.1
theorem dX11_spelled_124 : decode cX11_spelled 124 = .ok (.lsub, 1) := dG_dX11_spelled_120.2.2.1
theorem dX11_spelled_125 : decode cX11_spelled 125 = .ok (.goto 5, 3) := dG_dX11_spelled_120.2.2.2.1
theorem dX11_spelled_128 : decode cX11_spelled 128 = .ok (.lload 7, 2) := dG_dX11_spelled_120.2.2.2.2.1
theorem dX11_spelled_130 : decode cX11_spelled 130 = .ok (.lstore 7, 2) := dG_dX11_spelled_120.2.2.2.2.2.1
theorem dX11_spelled_132 : decode cX11_spelled 132 = .ok (.iload 6, 2) := dG_dX11_spelled_120.2.2.2.2.2.2.1
theorem dX11_spelled_134 : decode cX11_spelled 134 = .ok (.ifCond .le 20, 3) := dG_dX11_spelled_120.2.2.2.2.2.2.2.1
theorem dX11_spelled_137 : decode cX11_spelled 137 = .ok (.lload 7, 2) := dG_dX11_spelled_120.2.2.2.2.2.2.2.2.1
theorem dX11_spelled_139 : decode cX11_spelled 139 = .ok (.ldc2_w 176, 3) := dG_dX11_spelled_120.2.2.2.2.2.2.2.2.2.1
theorem dX11_spelled_142 : decode cX11_spelled 142 = .ok (.lmul, 1) := dG_dX11_spelled_120.2.2.2.2.2.2.2.2.2.2.1
theorem dX11_spelled_143 : decode cX11_spelled 143 = .ok (.iload 6, 2) := dG_dX11_spelled_120.2.2.2.2.2.2.2.2.2.2.2
theorem dG_dX11_spelled_145 : (decode cX11_spelled 145 = .ok (.i2l, 1)) ∧ (decode cX11_spelled 146 = .ok (.ladd, 1)) ∧ (decode cX11_spelled 147 = .ok (.ldc2_w 178, 3)) ∧ (decode cX11_spelled 150 = .ok (.lsub, 1)) ∧ (decode cX11_spelled 151 = .ok (.goto 5, 3)) ∧ (decode cX11_spelled 154 = .ok (.lload 7, 2)) ∧ (decode cX11_spelled 156 = .ok (.lreturn, 1)) ∧ (decode cX11_isWord 0 = .ok (.aload_n 0, 1)) ∧ (decode cX11_isWord 1 = .ok (.getfield 165, 3)) ∧ (decode cX11_isWord 4 = .ok (.iconst 1, 1)) ∧ (decode cX11_isWord 5 = .ok (.if_icmp .ne 16, 3)) ∧ (decode cX11_isWord 8 = .ok (.aload_n 0, 1)) := by decide +kernel
theorem dX11_spelled_145 : decode cX11_spelled 145 = .ok (.i2l, 1) := dG_dX11_spelled_145.1
theorem dX11_spelled_146 : decode cX11_spelled 146 = .ok (.ladd, 1) := dG_dX11_spelled_145.2.1
theorem dX11_spelled_147 : decode cX11_spelled 147 = .ok (.ldc2_w 178, 3) := dG_dX11_spelled_145.2.2.1
theorem dX11_spelled_150 : decode cX11_spelled 150 = .ok (.lsub, 1) := dG_dX11_spelled_145.2.2.2.1
theorem dX11_spelled_151 : decode cX11_spelled 151 = .ok (.goto 5, 3) := dG_dX11_spelled_145.2.2.2.2.1
theorem dX11_spelled_154 : decode cX11_spelled 154 = .ok (.lload 7, 2) := dG_dX11_spelled_145.2.2.2.2.2.1
theorem dX11_spelled_156 : decode cX11_spelled 156 = .ok (.lreturn, 1) := dG_dX11_spelled_145.2.2.2.2.2.2.1
theorem dX11_isWord_0 : decode cX11_isWord 0 = .ok (.aload_n 0, 1) := dG_dX11_spelled_145.2.2.2.2.2.2.2.1
theorem dX11_isWord_1 : decode cX11_isWord 1 = .ok (.getfield 165, 3) := dG_dX11_spelled_145.2.2.2.2.2.2.2.2.1
theorem dX11_isWord_4 : decode cX11_isWord 4 = .ok (.iconst 1, 1) := dG_dX11_spelled_145.2.2.2.2.2.2.2.2.2.1
theorem dX11_isWord_5 : decode cX11_isWord 5 = .ok (.if_icmp .ne 16, 3) := dG_dX11_spelled_145.2.2.2.2.2.2.2.2.2.2.1
theorem dX11_isWord_8 : decode cX11_isWord 8 = .ok (.aload_n 0, 1) := dG_dX11_spelled_145.2.2.2.2.2.2.2.2.2.2.2
theorem dG_dX11_isWord_9 : (decode cX11_isWord 9 = .ok (.getfield 172, 3)) ∧ (decode cX11_isWord 12 = .ok (.lload_n 1, 1)) ∧ (decode cX11_isWord 13 = .ok (.lcmp, 1)) ∧ (decode cX11_isWord 14 = .ok (.ifCond .ne 7, 3)) ∧ (decode cX11_isWord 17 = .ok (.iconst 1, 1)) ∧ (decode cX11_isWord 18 = .ok (.goto 4, 3)) ∧ (decode cX11_isWord 21 = .ok (.iconst 0, 1)) ∧ (decode cX11_isWord 22 = .ok (.ireturn, 1)) ∧ (decode cX11_isSign 0 = .ok (.aload_n 0, 1)) ∧ (decode cX11_isSign 1 = .ok (.getfield 165, 3)) ∧ (decode cX11_isSign 4 = .ok (.iconst 3, 1)) ∧ (decode cX11_isSign 5 = .ok (.if_icmp .ne 15, 3)) := by decide +kernel
theorem dX11_isWord_9 : decode cX11_isWord 9 = .ok (.getfield 172, 3) := dG_dX11_isWord_9.1
theorem dX11_isWord_12 : decode cX11_isWord 12 = .ok (.lload_n 1, 1) := dG_dX11_isWord_9.2.1
theorem dX11_isWord_13 : decode cX11_isWord 13 = .ok (.lcmp, 1) := dG_dX11_isWord_9.2.2.1
theorem dX11_isWord_14 : decode cX11_isWord 14 = .ok (.ifCond .ne 7, 3) := dG_dX11_isWord_9.2.2.2.1
theorem dX11_isWord_17 : decode cX11_isWord 17 = .ok (.iconst 1, 1) := dG_dX11_isWord_9.2.2.2.2.1
theorem dX11_isWord_18 : decode cX11_isWord 18 = .ok (.goto 4, 3) := dG_dX11_isWord_9.2.2.2.2.2.1
theorem dX11_isWord_21 : decode cX11_isWord 21 = .ok (.iconst 0, 1) := dG_dX11_isWord_9.2.2.2.2.2.2.1
theorem dX11_isWord_22 : decode cX11_isWord 22 = .ok (.ireturn, 1) := dG_dX11_isWord_9.2.2.2.2.2.2.2.1
theorem dX11_isSign_0 : decode cX11_isSign 0 = .ok (.aload_n 0, 1) := dG_dX11_isWord_9.2.2.2.2.2.2.2.2.1
theorem dX11_isSign_1 : decode cX11_isSign 1 = .ok (.getfield 165, 3) := dG_dX11_isWord_9.2.2.2.2.2.2.2.2.2.1
theorem dX11_isSign_4 : decode cX11_isSign 4 = .ok (.iconst 3, 1) := dG_dX11_isWord_9.2.2.2.2.2.2.2.2.2.2.1
theorem dX11_isSign_5 : decode cX11_isSign 5 = .ok (.if_icmp .ne 15, 3) := dG_dX11_isWord_9.2.2.2.2.2.2.2.2.2.2.2
theorem dG_dX11_isSign_8 : (decode cX11_isSign 8 = .ok (.aload_n 0, 1)) ∧ (decode cX11_isSign 9 = .ok (.getfield 185, 3)) ∧ (decode cX11_isSign 12 = .ok (.iload_n 1, 1)) ∧ (decode cX11_isSign 13 = .ok (.if_icmp .ne 7, 3)) ∧ (decode cX11_isSign 16 = .ok (.iconst 1, 1)) ∧ (decode cX11_isSign 17 = .ok (.goto 4, 3)) ∧ (decode cX11_isSign 20 = .ok (.iconst 0, 1)) ∧ (decode cX11_isSign 21 = .ok (.ireturn, 1)) ∧ (decode cX11_fail 0 = .ok (.aload_n 0, 1)) ∧ (decode cX11_fail 1 = .ok (.getfield 188, 3)) ∧ (decode cX11_fail 4 = .ok (.ifCond .le 4, 3)) ∧ (decode cX11_fail 7 = .ok (.return_, 1)) := by decide +kernel
theorem dX11_isSign_8 : decode cX11_isSign 8 = .ok (.aload_n 0, 1) := dG_dX11_isSign_8.1
theorem dX11_isSign_9 : decode cX11_isSign 9 = .ok (.getfield 185, 3) := dG_dX11_isSign_8.2.1
theorem dX11_isSign_12 : decode cX11_isSign 12 = .ok (.iload_n 1, 1) := dG_dX11_isSign_8.2.2.1
theorem dX11_isSign_13 : decode cX11_isSign 13 = .ok (.if_icmp .ne 7, 3) := dG_dX11_isSign_8.2.2.2.1
theorem dX11_isSign_16 : decode cX11_isSign 16 = .ok (.iconst 1, 1) := dG_dX11_isSign_8.2.2.2.2.1
theorem dX11_isSign_17 : decode cX11_isSign 17 = .ok (.goto 4, 3) := dG_dX11_isSign_8.2.2.2.2.2.1
theorem dX11_isSign_20 : decode cX11_isSign 20 = .ok (.iconst 0, 1) := dG_dX11_isSign_8.2.2.2.2.2.2.1
theorem dX11_isSign_21 : decode cX11_isSign 21 = .ok (.ireturn, 1) := dG_dX11_isSign_8.2.2.2.2.2.2.2.1
theorem dX11_fail_0 : decode cX11_fail 0 = .ok (.aload_n 0, 1) := dG_dX11_isSign_8.2.2.2.2.2.2.2.2.1
theorem dX11_fail_1 : decode cX11_fail 1 = .ok (.getfield 188, 3) := dG_dX11_isSign_8.2.2.2.2.2.2.2.2.2.1
theorem dX11_fail_4 : decode cX11_fail 4 = .ok (.ifCond .le 4, 3) := dG_dX11_isSign_8.2.2.2.2.2.2.2.2.2.2.1
theorem dX11_fail_7 : decode cX11_fail 7 = .ok (.return_, 1) := dG_dX11_isSign_8.2.2.2.2.2.2.2.2.2.2.2
theorem dG_dX11_fail_8 : (decode cX11_fail 8 = .ok (.aload_n 0, 1)) ∧ (decode cX11_fail 9 = .ok (.iload_n 1, 1)) ∧ (decode cX11_fail 10 = .ok (.putfield 188, 3)) ∧ (decode cX11_fail 13 = .ok (.aload_n 0, 1)) ∧ (decode cX11_fail 14 = .ok (.iload_n 2, 1)) ∧ (decode cX11_fail 15 = .ok (.putfield 191, 3)) ∧ (decode cX11_fail 18 = .ok (.return_, 1)) ∧ (decode cX11_wrong 0 = .ok (.aload_n 0, 1)) ∧ (decode cX11_wrong 1 = .ok (.aload_n 0, 1)) ∧ (decode cX11_wrong 2 = .ok (.getfield 165, 3)) ∧ (decode cX11_wrong 5 = .ok (.iconst 4, 1)) ∧ (decode cX11_wrong 6 = .ok (.if_icmp .ne 7, 3)) := by decide +kernel
theorem dX11_fail_8 : decode cX11_fail 8 = .ok (.aload_n 0, 1) := dG_dX11_fail_8.1
theorem dX11_fail_9 : decode cX11_fail 9 = .ok (.iload_n 1, 1) := dG_dX11_fail_8.2.1
theorem dX11_fail_10 : decode cX11_fail 10 = .ok (.putfield 188, 3) := dG_dX11_fail_8.2.2.1
theorem dX11_fail_13 : decode cX11_fail 13 = .ok (.aload_n 0, 1) := dG_dX11_fail_8.2.2.2.1
theorem dX11_fail_14 : decode cX11_fail 14 = .ok (.iload_n 2, 1) := dG_dX11_fail_8.2.2.2.2.1
theorem dX11_fail_15 : decode cX11_fail 15 = .ok (.putfield 191, 3) := dG_dX11_fail_8.2.2.2.2.2.1
theorem dX11_fail_18 : decode cX11_fail 18 = .ok (.return_, 1) := dG_dX11_fail_8.2.2.2.2.2.2.1
theorem dX11_wrong_0 : decode cX11_wrong 0 = .ok (.aload_n 0, 1) := dG_dX11_fail_8.2.2.2.2.2.2.2.1
theorem dX11_wrong_1 : decode cX11_wrong 1 = .ok (.aload_n 0, 1) := dG_dX11_fail_8.2.2.2.2.2.2.2.2.1
theorem dX11_wrong_2 : decode cX11_wrong 2 = .ok (.getfield 165, 3) := dG_dX11_fail_8.2.2.2.2.2.2.2.2.2.1
theorem dX11_wrong_5 : decode cX11_wrong 5 = .ok (.iconst 4, 1) := dG_dX11_fail_8.2.2.2.2.2.2.2.2.2.2.1
theorem dX11_wrong_6 : decode cX11_wrong 6 = .ok (.if_icmp .ne 7, 3) := dG_dX11_fail_8.2.2.2.2.2.2.2.2.2.2.2
theorem dG_dX11_wrong_9 : (decode cX11_wrong 9 = .ok (.iconst 1, 1)) ∧ (decode cX11_wrong 10 = .ok (.goto 4, 3)) ∧ (decode cX11_wrong 13 = .ok (.iconst 2, 1)) ∧ (decode cX11_wrong 14 = .ok (.aload_n 0, 1)) ∧ (decode cX11_wrong 15 = .ok (.getfield 158, 3)) ∧ (decode cX11_wrong 18 = .ok (.invokevirtual 194, 3)) ∧ (decode cX11_wrong 21 = .ok (.return_, 1)) := by decide +kernel
theorem dX11_wrong_9 : decode cX11_wrong 9 = .ok (.iconst 1, 1) := dG_dX11_wrong_9.1
theorem dX11_wrong_10 : decode cX11_wrong 10 = .ok (.goto 4, 3) := dG_dX11_wrong_9.2.1
theorem dX11_wrong_13 : decode cX11_wrong 13 = .ok (.iconst 2, 1) := dG_dX11_wrong_9.2.2.1
theorem dX11_wrong_14 : decode cX11_wrong 14 = .ok (.aload_n 0, 1) := dG_dX11_wrong_9.2.2.2.1
theorem dX11_wrong_15 : decode cX11_wrong 15 = .ok (.getfield 158, 3) := dG_dX11_wrong_9.2.2.2.2.1
theorem dX11_wrong_18 : decode cX11_wrong 18 = .ok (.invokevirtual 194, 3) := dG_dX11_wrong_9.2.2.2.2.2.1
theorem dX11_wrong_21 : decode cX11_wrong 21 = .ok (.return_, 1) := dG_dX11_wrong_9.2.2.2.2.2.2
end

section
set_option maxHeartbeats 4000000 in
set_option maxRecDepth 100000 in
theorem n_isLetter (l : Launch) (D : va_G) (k : Nat → ClassId) (A : Nat → Prop) (ad : Nat → Nat) (hD : mdD A k ad) (v : gV) (f g : gF) (a1 : Int) (h_a1 : inR a1) : GM l D k A (mdT k ad) yX11_isLetter cX11_isLetter 1 (some .boolean) 0 0 [.int (iI a1)] v f g (fun r v1 f1 g1 => ∃ (z : Int), r = some (.int (iI z)) ∧ v = v1 ∧ f = f1 ∧ g = g1 ∧ (z = (if 97 ≤ a1 ∧ a1 ≤ 122 then 1 else 0))) := by
  refine GM.of (by decide) (Nat.le_of_ble_eq_true rfl) ?_
  intro p e s m args below meth c Q ls hQ C hml hr hlocks hP hl
  have hx := C.1
  have hb := C.2.1
  have hok := hP.2
  have hS : va_S A s.heap s.heap [] := va_S.rf
  have hl : lv_has ls 1 [(0, .int (iI a1))] := hl
  refine lv_iload_n hx hb dX11_isLetter_0 rfl (lv_at hl 0 rfl) ?_
  refine lv_bipush (v := iI 97) hx hb dX11_isLetter_1 (by decide) ?_
  refine gi_clt (tgt := 16) hx hb dX11_isLetter_3 (by decide) (by omega) (by decide) (fun c_1 => ?_) (fun c_1 => ?_)
  · refine lv_iconst (v := iI 0) hx hb dX11_isLetter_16 rfl ?_
    exact g_zret hQ C hr hlocks (by decide) hP hS dX11_isLetter_17 ⟨0, rfl, rfl, rfl, rfl, (by first | omega | (split <;> omega))⟩
  · refine lv_iload_n hx hb dX11_isLetter_6 rfl (lv_at hl 0 rfl) ?_
    refine lv_bipush (v := iI 122) hx hb dX11_isLetter_7 (by decide) ?_
    refine gi_cgt (tgt := 16) hx hb dX11_isLetter_9 (by decide) (by omega) (by decide) (fun c_2 => ?_) (fun c_2 => ?_)
    · refine lv_iconst (v := iI 0) hx hb dX11_isLetter_16 rfl ?_
      exact g_zret hQ C hr hlocks (by decide) hP hS dX11_isLetter_17 ⟨0, rfl, rfl, rfl, rfl, (by first | omega | (split <;> omega))⟩
    · refine lv_iconst (v := iI 1) hx hb dX11_isLetter_12 rfl ?_
      refine lv_goto (tgt := 17) hx hb dX11_isLetter_13 (by decide) ?_
      exact g_zret hQ C hr hlocks (by decide) hP hS dX11_isLetter_17 ⟨1, rfl, rfl, rfl, rfl, (by first | omega | (split <;> omega))⟩

set_option maxHeartbeats 4000000 in
set_option maxRecDepth 100000 in
theorem n_isDigit (l : Launch) (D : va_G) (k : Nat → ClassId) (A : Nat → Prop) (ad : Nat → Nat) (hD : mdD A k ad) (v : gV) (f g : gF) (a1 : Int) (h_a1 : inR a1) : GM l D k A (mdT k ad) yX11_isDigit cX11_isDigit 1 (some .boolean) 0 0 [.int (iI a1)] v f g (fun r v1 f1 g1 => ∃ (z : Int), r = some (.int (iI z)) ∧ v = v1 ∧ f = f1 ∧ g = g1 ∧ (z = (if 48 ≤ a1 ∧ a1 ≤ 57 then 1 else 0))) := by
  refine GM.of (by decide) (Nat.le_of_ble_eq_true rfl) ?_
  intro p e s m args below meth c Q ls hQ C hml hr hlocks hP hl
  have hx := C.1
  have hb := C.2.1
  have hok := hP.2
  have hS : va_S A s.heap s.heap [] := va_S.rf
  have hl : lv_has ls 1 [(0, .int (iI a1))] := hl
  refine lv_iload_n hx hb dX11_isDigit_0 rfl (lv_at hl 0 rfl) ?_
  refine lv_bipush (v := iI 48) hx hb dX11_isDigit_1 (by decide) ?_
  refine gi_clt (tgt := 16) hx hb dX11_isDigit_3 (by decide) (by omega) (by decide) (fun c_1 => ?_) (fun c_1 => ?_)
  · refine lv_iconst (v := iI 0) hx hb dX11_isDigit_16 rfl ?_
    exact g_zret hQ C hr hlocks (by decide) hP hS dX11_isDigit_17 ⟨0, rfl, rfl, rfl, rfl, (by first | omega | (split <;> omega))⟩
  · refine lv_iload_n hx hb dX11_isDigit_6 rfl (lv_at hl 0 rfl) ?_
    refine lv_bipush (v := iI 57) hx hb dX11_isDigit_7 (by decide) ?_
    refine gi_cgt (tgt := 16) hx hb dX11_isDigit_9 (by decide) (by omega) (by decide) (fun c_2 => ?_) (fun c_2 => ?_)
    · refine lv_iconst (v := iI 0) hx hb dX11_isDigit_16 rfl ?_
      exact g_zret hQ C hr hlocks (by decide) hP hS dX11_isDigit_17 ⟨0, rfl, rfl, rfl, rfl, (by first | omega | (split <;> omega))⟩
    · refine lv_iconst (v := iI 1) hx hb dX11_isDigit_12 rfl ?_
      refine lv_goto (tgt := 17) hx hb dX11_isDigit_13 (by decide) ?_
      exact g_zret hQ C hr hlocks (by decide) hP hS dX11_isDigit_17 ⟨1, rfl, rfl, rfl, rfl, (by first | omega | (split <;> omega))⟩

set_option maxHeartbeats 4000000 in
set_option maxRecDepth 100000 in
theorem n_look (l : Launch) (D : va_G) (k : Nat → ClassId) (A : Nat → Prop) (ad : Nat → Nat) (hD : mdD A k ad) (v : gV) (f g : gF) (a1 : Int) (B : Int → Int) (h_a1 : inR a1) (hB : ∀ k, (f 0) k % 256 = B k) (h1 : 0 ≤ a1) : GM l D k A (mdT k ad) yX11_look cX11_look 2 (some .int) 0 0 [.ref (ad 0), .int (iI a1)] v f g (fun r v1 f1 g1 => ∃ (z : Int), r = some (.int (iI z)) ∧ v = v1 ∧ f = f1 ∧ g = g1 ∧ (0 ≤ z ∧ z ≤ 255) ∧ (a1 < (v 3) → z = B a1) ∧ ((v 3) ≤ a1 → z = 0)) := by
  refine GM.of (by decide) (Nat.le_of_ble_eq_true rfl) ?_
  intro p e s m args below meth c Q ls hQ C hml hr hlocks hP hl
  have hx := C.1
  have hb := C.2.1
  have hok := hP.2
  have hS : va_S A s.heap s.heap [] := va_S.rf
  have hl : lv_has ls 2 [(0, .ref (ad 0)), (1, .int (iI a1))] := hl
  have r_1 : 0 ≤ (v 3) ∧ (v 3) ≤ 700 := hok.1 3
  refine lv_iload_n hx hb dX11_look_0 rfl (lv_at hl 1 rfl) ?_
  refine lv_aload_n hx hb dX11_look_1 rfl (lv_at hl 0 rfl) ?_
  refine mdG_end C hP mF_X11_152 dX11_look_2 ?_
  refine gi_cge (tgt := 21) hx hb dX11_look_5 (by decide) (by omega) (by omega) (fun c_2 => ?_) (fun c_2 => ?_)
  · refine lv_iconst (v := iI 0) hx hb dX11_look_21 rfl ?_
    exact g_iret hQ C hr hlocks hP hS dX11_look_22 ⟨0, rfl, rfl, rfl, rfl, (by first | omega | (split <;> omega)), (by first | exact fun _ => hB _ | (intro h; exfalso; omega)), (by first | omega | (split <;> omega))⟩
  · refine lv_aload_n hx hb dX11_look_8 rfl (lv_at hl 0 rfl) ?_
    refine mdG_tape C hP mF_X11_7 dX11_look_9 ?_
    refine lv_iload_n hx hb dX11_look_12 rfl (lv_at hl 1 rfl) ?_
    refine mdL_tape C hP (by omega) (by omega) dX11_look_13 ?_
    have r_3 : (-128) ≤ (f 0 a1) ∧ (f 0 a1) ≤ 127 := hP.2.2 0 a1
    refine lv_sipush (v := iI 255) hx hb dX11_look_14 (by decide) ?_
    refine gi_and (z := ((f 0 a1) % 256)) hx hb dX11_look_17 (gAnd255 (by omega)) ?_
    refine lv_goto (tgt := 22) hx hb dX11_look_18 (by decide) ?_
    exact g_iret hQ C hr hlocks hP hS dX11_look_22 ⟨((f 0 a1) % 256), rfl, rfl, rfl, rfl, (by first | omega | (split <;> omega)), (by first | exact fun _ => hB _ | (intro h; exfalso; omega)), (by first | omega | (split <;> omega))⟩

set_option maxHeartbeats 4000000 in
set_option maxRecDepth 100000 in
theorem n_next (l : Launch) (D : va_G) (k : Nat → ClassId) (A : Nat → Prop) (ad : Nat → Nat) (hD : mdD A k ad) (v : gV) (f g : gF) (B : Int → Int) (hB : ∀ k, (f 0) k % 256 = B k) (hj : 0 ≤ (v 10) ∧ (v 10) ≤ (v 3)) : GM l D k A (mdT k ad) yX11_next cX11_next 2 none 1 21 [.ref (ad 0)] v f g (fun r v1 f1 g1 => ∃ (w8 : Int) (w9 : Int) (w10 : Int) (w11 : Int) (b0_ : Int → Int), r = none ∧ (va_up (va_up (va_up (va_up v 8 w8) 9 w9) 10 w10) 11 w11) = v1 ∧ f = f1 ∧ (va_up g 0 b0_) = g1 ∧ (mAt B (v 3) w9 w10 w8 w11 (b0_ 0) (run bW B (v 3) (v 10)))) := by
  refine GM.of (by decide) (Nat.le_of_ble_eq_true rfl) ?_
  intro p e s m args below meth c Q ls hQ C hml hr hlocks hP hl
  have hx := C.1
  have hb := C.2.1
  have hok := hP.2
  have hS : va_S A s.heap s.heap [] := va_S.rf
  have hl : lv_has ls 2 [(0, .ref (ad 0))] := hl
  have hP : gWd D (mdT k ad) (va_up (va_up (va_up (va_up v 8 (v 8)) 9 (v 9)) 10 (v 10)) 11 (v 11)) f (va_up g 0 (g 0)) s.heap := by rw [va_id, va_id, va_id, va_id, va_id]; exact hP
  have r_1 : 0 ≤ (v 3) ∧ (v 3) ≤ 700 := hok.1 3
  have r_2 : 0 ≤ (v 10) ∧ (v 10) ≤ 700 := hok.1 10
  refine lv_aload_n hx hb dX11_next_0 rfl (lv_at hl 0 rfl) ?_
  refine lv_aload_n hx hb dX11_next_1 rfl (lv_at hl 0 rfl) ?_
  refine mdG_behind C hP mF_X11_155 dX11_next_2 ?_
  show W p l e (gRm 1 21) s m args below meth c _ _ 0 0 Q (F0 m 5 ls [.int (iI (v 10)), .ref (ad 0)])
  refine mdP_at (v1 := (va_up (va_up (va_up (va_up v 8 (v 8)) 9 (v 10)) 10 (v 10)) 11 (v 11))) C hP hD hS mF_X11_158 (by omega) rfl (Or.inr (gR_up (V := mdV) (F := mdF) (gR_up (V := mdV) (F := mdF) (gR_up (V := mdV) (F := mdF) (gR_up (V := mdV) (F := mdF) ⟨hok.1, hok.2⟩ 8 (hP.2.1 8)) 9 (show 0 ≤ (v 10) ∧ (v 10) ≤ 700 from by omega)) 10 (hP.2.1 10)) 11 (hP.2.1 11))) dX11_next_5 (fun H locs hP hS => ?_)
  have L_3 : ∀ (n : Nat) (y9_3 : Int) (H : Heap) (locs : List Loc) (ls : Array Slot), (v 3) - y9_3 < (n : Int) → ((v 10) ≤ y9_3 ∧ y9_3 ≤ (v 3)) → (∀ j, (v 10) ≤ j → j < y9_3 → j < (v 3) ∧ pW (B j)) → gWd D (mdT k ad) (va_up (va_up (va_up (va_up v 8 (v 8)) 9 y9_3) 10 (v 10)) 11 (v 11)) f (va_up g 0 (g 0)) H → va_S A s.heap H locs → lv_has ls 2 [(0, .ref (ad 0))] → W p l e (gRm 1 21) s m args below meth c H locs 0 0 Q (F0 m 8 ls []) := by
    intro n
    induction n with
    | zero =>
      intro y9_3 H locs ls hn_3 i3_0 i3_1 hP hS hl
      have ry9_3 : 0 ≤ y9_3 ∧ y9_3 ≤ 700 := hP.2.1 9
      exfalso; omega
    | succ n ih_8 =>
      intro y9_3 H locs ls hn_3 i3_0 i3_1 hP hS hl
      have ry9_3 : 0 ≤ y9_3 ∧ y9_3 ≤ 700 := hP.2.1 9
      have hI := i3_1
      refine lv_aload_n hx hb dX11_next_8 rfl (lv_at hl 0 rfl) ?_
      refine mdG_at C hP mF_X11_158 dX11_next_9 ?_
      show W p l e (gRm 1 21) s m args below meth c _ _ 0 0 Q (F0 m 12 ls [.int (iI y9_3)])
      have r_4 : 0 ≤ y9_3 ∧ y9_3 ≤ 700 := hP.2.1 9
      refine lv_aload_n hx hb dX11_next_12 rfl (lv_at hl 0 rfl) ?_
      refine mdG_end C hP mF_X11_152 dX11_next_13 ?_
      show W p l e (gRm 1 21) s m args below meth c _ _ 0 0 Q (F0 m 16 ls [.int (iI (v 3)), .int (iI y9_3)])
      refine gi_cge (tgt := 58) hx hb dX11_next_16 (by decide) (by omega) (by omega) (fun c_5 => ?_) (fun c_5 => ?_)
      · have hA : run bW B (v 3) (v 10) = y9_3 := runW_eq (by omega) hI (by omega)
        refine lv_aload_n hx hb dX11_next_58 rfl (lv_at hl 0 rfl) ?_
        refine lv_aload_n hx hb dX11_next_59 rfl (lv_at hl 0 rfl) ?_
        refine mdG_at C hP mF_X11_158 dX11_next_60 ?_
        show W p l e (gRm 1 21) s m args below meth c _ _ 0 0 Q (F0 m 63 ls [.int (iI y9_3), .ref (ad 0)])
        refine mdP_behind (v1 := (va_up (va_up (va_up (va_up v 8 (v 8)) 9 y9_3) 10 y9_3) 11 (v 11))) C hP hD hS mF_X11_155 (by omega) rfl (Or.inr (gR_up (V := mdV) (F := mdF) (gR_up (V := mdV) (F := mdF) (gR_up (V := mdV) (F := mdF) (gR_up (V := mdV) (F := mdF) ⟨hok.1, hok.2⟩ 8 (hP.2.1 8)) 9 (hP.2.1 9)) 10 (show 0 ≤ y9_3 ∧ y9_3 ≤ 700 from by omega)) 11 (hP.2.1 11))) dX11_next_63 (fun H locs hP hS => ?_)
        refine lv_aload_n hx hb dX11_next_66 rfl (lv_at hl 0 rfl) ?_
        refine mdG_at C hP mF_X11_158 dX11_next_67 ?_
        show W p l e (gRm 1 21) s m args below meth c _ _ 0 0 Q (F0 m 70 ls [.int (iI y9_3)])
        refine lv_aload_n hx hb dX11_next_70 rfl (lv_at hl 0 rfl) ?_
        refine mdG_end C hP mF_X11_152 dX11_next_71 ?_
        show W p l e (gRm 1 21) s m args below meth c _ _ 0 0 Q (F0 m 74 ls [.int (iI (v 3)), .int (iI y9_3)])
        refine gi_clt (tgt := 83) hx hb dX11_next_74 (by decide) (by omega) (by omega) (fun c_6 => ?_) (fun c_6 => ?_)
        · refine lv_aload_n hx hb dX11_next_83 rfl (lv_at hl 0 rfl) ?_
          refine lv_aload_n hx hb dX11_next_84 rfl (lv_at hl 0 rfl) ?_
          refine mdG_at C hP mF_X11_158 dX11_next_85 ?_
          show W p l e (gRm 1 21) s m args below meth c _ _ 0 0 Q (F0 m 88 ls [.int (iI y9_3), .ref (ad 0)])
          refine g_cv (As := [.int (iI y9_3)]) (rest := []) (n := 1) C hml (n_look l D k A ad hD (va_up (va_up (va_up (va_up v 8 (v 8)) 9 y9_3) 10 y9_3) 11 (v 11)) f (va_up g 0 (g 0)) y9_3 B (by omega) (show ∀ k, (f 0) k % 256 = B k from hB) (show 0 ≤ y9_3 from by omega)) mM_X11_161 mI_X11_look mE_X11_look mN_X11 mC_X11_look (by decide +kernel) 0 (ci := 11) rfl rfl hP hS (fun _ h => h) ⟨Nat.le_of_ble_eq_true rfl, Nat.le_of_ble_eq_true rfl⟩ ⟨Nat.zero_le _, Nat.zero_le _⟩ hl.1 rfl rfl (Nat.le_of_ble_eq_true rfl) dX11_next_88 (fun r_7 v_7 f_7 g_7 H locs hq_7 hP _ hS => ?_)
          obtain ⟨z_7, rfl, rfl, rfl, rfl, p0_7, p1_7, p2_7⟩ := hq_7
          show W p l e (gRm 1 21) s m args below meth c _ _ 0 0 Q (F0 m 91 ls [.int (iI z_7)])
          replace p0_7 : 0 ≤ z_7 ∧ z_7 ≤ 255 := p0_7
          replace p1_7 : y9_3 < (v 3) → z_7 = B y9_3 := p1_7
          replace p2_7 : (v 3) ≤ y9_3 → z_7 = 0 := p2_7
          refine lv_istore_n (lv' := [(1, .int (iI z_7)), (0, .ref (ad 0))]) hx hb dX11_next_91 rfl hl (by decide) rfl (fun ls hl => ?_)
          refine lv_iload_n hx hb dX11_next_92 rfl (lv_at hl 0 rfl) ?_
          refine g_cs (As := [.int (iI z_7)]) (rest := []) (n := 1) C hml (n_isLetter l D k A ad hD (va_up (va_up (va_up (va_up v 8 (v 8)) 9 y9_3) 10 y9_3) 11 (v 11)) f (va_up g 0 (g 0)) z_7 (by omega)) mM_X11_168 mS_X11_isLetter mN_X11 mC_X11_isLetter (by decide +kernel) hP hS (fun _ h => h) ⟨Nat.le_of_ble_eq_true rfl, Nat.le_of_ble_eq_true rfl⟩ ⟨Nat.zero_le _, Nat.zero_le _⟩ hl.1 rfl rfl (Nat.le_of_ble_eq_true rfl) dX11_next_93 (fun r_8 v_8 f_8 g_8 H locs hq_8 hP _ hS => ?_)
          obtain ⟨z_8, rfl, rfl, rfl, rfl, p0_8⟩ := hq_8
          show W p l e (gRm 1 21) s m args below meth c _ _ 0 0 Q (F0 m 96 ls [.int (iI z_8)])
          replace p0_8 : z_8 = (if 97 ≤ z_7 ∧ z_7 ≤ 122 then 1 else 0) := p0_8
          have w_8 := gif (P := 97 ≤ z_7 ∧ z_7 ≤ 122) p0_8
          have hz_8 : inR z_8 := (by first | omega | (rw [p0_8]; split <;> omega))
          refine gi_zeq (tgt := 182) hx hb dX11_next_96 (by decide) (by omega) (fun c_9 => ?_) (fun c_9 => ?_)
          · have v_8 := w_8.elim (fun q => absurd (q.1.symm.trans c_9) (by decide)) (fun q => q.2)
            clear w_8 p0_8
            refine lv_iload_n hx hb dX11_next_182 rfl (lv_at hl 0 rfl) ?_
            refine g_cs (As := [.int (iI z_7)]) (rest := []) (n := 1) C hml (n_isDigit l D k A ad hD (va_up (va_up (va_up (va_up v 8 (v 8)) 9 y9_3) 10 y9_3) 11 (v 11)) f (va_up g 0 (g 0)) z_7 (by omega)) mM_X11_182 mS_X11_isDigit mN_X11 mC_X11_isDigit (by decide +kernel) hP hS (fun _ h => h) ⟨Nat.le_of_ble_eq_true rfl, Nat.le_of_ble_eq_true rfl⟩ ⟨Nat.zero_le _, Nat.zero_le _⟩ hl.1 rfl rfl (Nat.le_of_ble_eq_true rfl) dX11_next_183 (fun r_10 v_10 f_10 g_10 H locs hq_10 hP _ hS => ?_)
            obtain ⟨z_10, rfl, rfl, rfl, rfl, p0_10⟩ := hq_10
            show W p l e (gRm 1 21) s m args below meth c _ _ 0 0 Q (F0 m 186 ls [.int (iI z_10)])
            replace p0_10 : z_10 = (if 48 ≤ z_7 ∧ z_7 ≤ 57 then 1 else 0) := p0_10
            have w_10 := gif (P := 48 ≤ z_7 ∧ z_7 ≤ 57) p0_10
            have hz_10 : inR z_10 := (by first | omega | (rw [p0_10]; split <;> omega))
            refine gi_zeq (tgt := 284) hx hb dX11_next_186 (by decide) (by omega) (fun c_11 => ?_) (fun c_11 => ?_)
            · have v_10 := w_10.elim (fun q => absurd (q.1.symm.trans c_11) (by decide)) (fun q => q.2)
              clear w_10 p0_10
              refine lv_aload_n hx hb dX11_next_284 rfl (lv_at hl 1 rfl) ?_
              refine lv_aload_n hx hb dX11_next_285 rfl (lv_at hl 1 rfl) ?_
              refine mdG_at C hP mF_X11_158 dX11_next_286 ?_
              show W p l e (gRm 1 21) s m args below meth c _ _ 0 0 Q (F0 m 289 ls [.int (iI y9_3), .ref (ad 0)])
              refine lv_iconst (v := iI 1) hx hb dX11_next_289 rfl ?_
              refine gi_add (z := (y9_3 + 1)) hx hb dX11_next_290 rfl ?_
              refine mdP_behind (v1 := (va_up (va_up (va_up (va_up v 8 (v 8)) 9 y9_3) 10 (y9_3 + 1)) 11 (v 11))) C hP hD hS mF_X11_155 (by omega) rfl (Or.inr (gR_up (V := mdV) (F := mdF) (gR_up (V := mdV) (F := mdF) (gR_up (V := mdV) (F := mdF) (gR_up (V := mdV) (F := mdF) ⟨hok.1, hok.2⟩ 8 (hP.2.1 8)) 9 (hP.2.1 9)) 10 (show 0 ≤ (y9_3 + 1) ∧ (y9_3 + 1) ≤ 700 from by omega)) 11 (hP.2.1 11))) dX11_next_291 (fun H locs hP hS => ?_)
              refine lv_aload_n hx hb dX11_next_294 rfl (lv_at hl 1 rfl) ?_
              refine lv_iload_n hx hb dX11_next_295 rfl (lv_at hl 0 rfl) ?_
              refine mdP_number (v1 := (va_up (va_up (va_up (va_up v 8 (v 8)) 9 y9_3) 10 (y9_3 + 1)) 11 z_7)) C hP hD hS mF_X11_185 (by omega) rfl (Or.inr (gR_up (V := mdV) (F := mdF) (gR_up (V := mdV) (F := mdF) (gR_up (V := mdV) (F := mdF) (gR_up (V := mdV) (F := mdF) ⟨hok.1, hok.2⟩ 8 (hP.2.1 8)) 9 (hP.2.1 9)) 10 (hP.2.1 10)) 11 (show 0 ≤ z_7 ∧ z_7 ≤ 999999 from by omega))) dX11_next_296 (fun H locs hP hS => ?_)
              refine lv_aload_n hx hb dX11_next_299 rfl (lv_at hl 1 rfl) ?_
              refine lv_iload_n hx hb dX11_next_300 rfl (lv_at hl 0 rfl) ?_
              refine lv_bipush (v := iI 43) hx hb dX11_next_301 (by decide) ?_
              refine gi_ceq (tgt := 342) hx hb dX11_next_303 (by decide) (by omega) (by decide) (fun c_12 => ?_) (fun c_12 => ?_)
              · refine lv_iconst (v := iI 3) hx hb dX11_next_342 rfl ?_
                refine lv_goto (tgt := 347) hx hb dX11_next_343 (by decide) ?_
                refine mdP_sort (v1 := (va_up (va_up (va_up (va_up v 8 3) 9 y9_3) 10 (y9_3 + 1)) 11 z_7)) C hP hD hS mF_X11_165 (by decide) rfl (Or.inr (gR_up (V := mdV) (F := mdF) (gR_up (V := mdV) (F := mdF) (gR_up (V := mdV) (F := mdF) (gR_up (V := mdV) (F := mdF) ⟨hok.1, hok.2⟩ 8 (show 0 ≤ 3 ∧ 3 ≤ 4 from by decide)) 9 (hP.2.1 9)) 10 (hP.2.1 10)) 11 (hP.2.1 11))) dX11_next_347 (fun H locs hP hS => ?_)
                exact g_vret hQ C hr hlocks hP hS dX11_next_350 ⟨3, y9_3, (y9_3 + 1), z_7, (g 0), rfl, rfl, rfl, rfl, (by rw [hA]; first | exact ⟨rfl, by omega, by omega, (tE_N (by omega)).symm, tok_end (by omega)⟩ | (have q := tok_word (B := B) (n := (v 3)) (p := y9_3) (y := (y9_3 + 1)) (nu := z_7) (w := (g 0) 0) (by omega) (by omega) (runL_eq (by omega) hL (by omega)) hW; exact ⟨rfl, by omega, by omega, q.2, q.1⟩) | (have q := tok_num (B := B) (n := (v 3)) (p := y9_3) (y := (y9_3 + 1)) (nu := z_7) (w := (g 0) 0) (by omega) (by omega) (runD_eq (by omega) hL (by omega)) hW; first | exact ⟨rfl, by omega, by omega, q.2.2, q.1 (by omega)⟩ | exact ⟨rfl, by omega, by omega, q.2.2, q.2.1 (by omega)⟩) | (have q := tok_sign (B := B) (n := (v 3)) (p := y9_3) (nu := z_7) (w := (g 0) 0) (by omega) (by omega) (by omega); exact ⟨rfl, by omega, by omega, q.2, q.1⟩) | (have q := tok_bad (B := B) (n := (v 3)) (p := y9_3) (nu := z_7) (w := (g 0) 0) (by omega) (by omega) (by omega) (by omega); exact ⟨rfl, by omega, by omega, q.2, q.1⟩))⟩
              · refine lv_iload_n hx hb dX11_next_306 rfl (lv_at hl 0 rfl) ?_
                refine lv_bipush (v := iI 45) hx hb dX11_next_307 (by decide) ?_
                refine gi_ceq (tgt := 342) hx hb dX11_next_309 (by decide) (by omega) (by decide) (fun c_13 => ?_) (fun c_13 => ?_)
                · refine lv_iconst (v := iI 3) hx hb dX11_next_342 rfl ?_
                  refine lv_goto (tgt := 347) hx hb dX11_next_343 (by decide) ?_
                  refine mdP_sort (v1 := (va_up (va_up (va_up (va_up v 8 3) 9 y9_3) 10 (y9_3 + 1)) 11 z_7)) C hP hD hS mF_X11_165 (by decide) rfl (Or.inr (gR_up (V := mdV) (F := mdF) (gR_up (V := mdV) (F := mdF) (gR_up (V := mdV) (F := mdF) (gR_up (V := mdV) (F := mdF) ⟨hok.1, hok.2⟩ 8 (show 0 ≤ 3 ∧ 3 ≤ 4 from by decide)) 9 (hP.2.1 9)) 10 (hP.2.1 10)) 11 (hP.2.1 11))) dX11_next_347 (fun H locs hP hS => ?_)
                  exact g_vret hQ C hr hlocks hP hS dX11_next_350 ⟨3, y9_3, (y9_3 + 1), z_7, (g 0), rfl, rfl, rfl, rfl, (by rw [hA]; first | exact ⟨rfl, by omega, by omega, (tE_N (by omega)).symm, tok_end (by omega)⟩ | (have q := tok_word (B := B) (n := (v 3)) (p := y9_3) (y := (y9_3 + 1)) (nu := z_7) (w := (g 0) 0) (by omega) (by omega) (runL_eq (by omega) hL (by omega)) hW; exact ⟨rfl, by omega, by omega, q.2, q.1⟩) | (have q := tok_num (B := B) (n := (v 3)) (p := y9_3) (y := (y9_3 + 1)) (nu := z_7) (w := (g 0) 0) (by omega) (by omega) (runD_eq (by omega) hL (by omega)) hW; first | exact ⟨rfl, by omega, by omega, q.2.2, q.1 (by omega)⟩ | exact ⟨rfl, by omega, by omega, q.2.2, q.2.1 (by omega)⟩) | (have q := tok_sign (B := B) (n := (v 3)) (p := y9_3) (nu := z_7) (w := (g 0) 0) (by omega) (by omega) (by omega); exact ⟨rfl, by omega, by omega, q.2, q.1⟩) | (have q := tok_bad (B := B) (n := (v 3)) (p := y9_3) (nu := z_7) (w := (g 0) 0) (by omega) (by omega) (by omega) (by omega); exact ⟨rfl, by omega, by omega, q.2, q.1⟩))⟩
                · refine lv_iload_n hx hb dX11_next_312 rfl (lv_at hl 0 rfl) ?_
                  refine lv_bipush (v := iI 42) hx hb dX11_next_313 (by decide) ?_
                  refine gi_ceq (tgt := 342) hx hb dX11_next_315 (by decide) (by omega) (by decide) (fun c_14 => ?_) (fun c_14 => ?_)
                  · refine lv_iconst (v := iI 3) hx hb dX11_next_342 rfl ?_
                    refine lv_goto (tgt := 347) hx hb dX11_next_343 (by decide) ?_
                    refine mdP_sort (v1 := (va_up (va_up (va_up (va_up v 8 3) 9 y9_3) 10 (y9_3 + 1)) 11 z_7)) C hP hD hS mF_X11_165 (by decide) rfl (Or.inr (gR_up (V := mdV) (F := mdF) (gR_up (V := mdV) (F := mdF) (gR_up (V := mdV) (F := mdF) (gR_up (V := mdV) (F := mdF) ⟨hok.1, hok.2⟩ 8 (show 0 ≤ 3 ∧ 3 ≤ 4 from by decide)) 9 (hP.2.1 9)) 10 (hP.2.1 10)) 11 (hP.2.1 11))) dX11_next_347 (fun H locs hP hS => ?_)
                    exact g_vret hQ C hr hlocks hP hS dX11_next_350 ⟨3, y9_3, (y9_3 + 1), z_7, (g 0), rfl, rfl, rfl, rfl, (by rw [hA]; first | exact ⟨rfl, by omega, by omega, (tE_N (by omega)).symm, tok_end (by omega)⟩ | (have q := tok_word (B := B) (n := (v 3)) (p := y9_3) (y := (y9_3 + 1)) (nu := z_7) (w := (g 0) 0) (by omega) (by omega) (runL_eq (by omega) hL (by omega)) hW; exact ⟨rfl, by omega, by omega, q.2, q.1⟩) | (have q := tok_num (B := B) (n := (v 3)) (p := y9_3) (y := (y9_3 + 1)) (nu := z_7) (w := (g 0) 0) (by omega) (by omega) (runD_eq (by omega) hL (by omega)) hW; first | exact ⟨rfl, by omega, by omega, q.2.2, q.1 (by omega)⟩ | exact ⟨rfl, by omega, by omega, q.2.2, q.2.1 (by omega)⟩) | (have q := tok_sign (B := B) (n := (v 3)) (p := y9_3) (nu := z_7) (w := (g 0) 0) (by omega) (by omega) (by omega); exact ⟨rfl, by omega, by omega, q.2, q.1⟩) | (have q := tok_bad (B := B) (n := (v 3)) (p := y9_3) (nu := z_7) (w := (g 0) 0) (by omega) (by omega) (by omega) (by omega); exact ⟨rfl, by omega, by omega, q.2, q.1⟩))⟩
                  · refine lv_iload_n hx hb dX11_next_318 rfl (lv_at hl 0 rfl) ?_
                    refine lv_bipush (v := iI 40) hx hb dX11_next_319 (by decide) ?_
                    refine gi_ceq (tgt := 342) hx hb dX11_next_321 (by decide) (by omega) (by decide) (fun c_15 => ?_) (fun c_15 => ?_)
                    · refine lv_iconst (v := iI 3) hx hb dX11_next_342 rfl ?_
                      refine lv_goto (tgt := 347) hx hb dX11_next_343 (by decide) ?_
                      refine mdP_sort (v1 := (va_up (va_up (va_up (va_up v 8 3) 9 y9_3) 10 (y9_3 + 1)) 11 z_7)) C hP hD hS mF_X11_165 (by decide) rfl (Or.inr (gR_up (V := mdV) (F := mdF) (gR_up (V := mdV) (F := mdF) (gR_up (V := mdV) (F := mdF) (gR_up (V := mdV) (F := mdF) ⟨hok.1, hok.2⟩ 8 (show 0 ≤ 3 ∧ 3 ≤ 4 from by decide)) 9 (hP.2.1 9)) 10 (hP.2.1 10)) 11 (hP.2.1 11))) dX11_next_347 (fun H locs hP hS => ?_)
                      exact g_vret hQ C hr hlocks hP hS dX11_next_350 ⟨3, y9_3, (y9_3 + 1), z_7, (g 0), rfl, rfl, rfl, rfl, (by rw [hA]; first | exact ⟨rfl, by omega, by omega, (tE_N (by omega)).symm, tok_end (by omega)⟩ | (have q := tok_word (B := B) (n := (v 3)) (p := y9_3) (y := (y9_3 + 1)) (nu := z_7) (w := (g 0) 0) (by omega) (by omega) (runL_eq (by omega) hL (by omega)) hW; exact ⟨rfl, by omega, by omega, q.2, q.1⟩) | (have q := tok_num (B := B) (n := (v 3)) (p := y9_3) (y := (y9_3 + 1)) (nu := z_7) (w := (g 0) 0) (by omega) (by omega) (runD_eq (by omega) hL (by omega)) hW; first | exact ⟨rfl, by omega, by omega, q.2.2, q.1 (by omega)⟩ | exact ⟨rfl, by omega, by omega, q.2.2, q.2.1 (by omega)⟩) | (have q := tok_sign (B := B) (n := (v 3)) (p := y9_3) (nu := z_7) (w := (g 0) 0) (by omega) (by omega) (by omega); exact ⟨rfl, by omega, by omega, q.2, q.1⟩) | (have q := tok_bad (B := B) (n := (v 3)) (p := y9_3) (nu := z_7) (w := (g 0) 0) (by omega) (by omega) (by omega) (by omega); exact ⟨rfl, by omega, by omega, q.2, q.1⟩))⟩
                    · refine lv_iload_n hx hb dX11_next_324 rfl (lv_at hl 0 rfl) ?_
                      refine lv_bipush (v := iI 41) hx hb dX11_next_325 (by decide) ?_
                      refine gi_ceq (tgt := 342) hx hb dX11_next_327 (by decide) (by omega) (by decide) (fun c_16 => ?_) (fun c_16 => ?_)
                      · refine lv_iconst (v := iI 3) hx hb dX11_next_342 rfl ?_
                        refine lv_goto (tgt := 347) hx hb dX11_next_343 (by decide) ?_
                        refine mdP_sort (v1 := (va_up (va_up (va_up (va_up v 8 3) 9 y9_3) 10 (y9_3 + 1)) 11 z_7)) C hP hD hS mF_X11_165 (by decide) rfl (Or.inr (gR_up (V := mdV) (F := mdF) (gR_up (V := mdV) (F := mdF) (gR_up (V := mdV) (F := mdF) (gR_up (V := mdV) (F := mdF) ⟨hok.1, hok.2⟩ 8 (show 0 ≤ 3 ∧ 3 ≤ 4 from by decide)) 9 (hP.2.1 9)) 10 (hP.2.1 10)) 11 (hP.2.1 11))) dX11_next_347 (fun H locs hP hS => ?_)
                        exact g_vret hQ C hr hlocks hP hS dX11_next_350 ⟨3, y9_3, (y9_3 + 1), z_7, (g 0), rfl, rfl, rfl, rfl, (by rw [hA]; first | exact ⟨rfl, by omega, by omega, (tE_N (by omega)).symm, tok_end (by omega)⟩ | (have q := tok_word (B := B) (n := (v 3)) (p := y9_3) (y := (y9_3 + 1)) (nu := z_7) (w := (g 0) 0) (by omega) (by omega) (runL_eq (by omega) hL (by omega)) hW; exact ⟨rfl, by omega, by omega, q.2, q.1⟩) | (have q := tok_num (B := B) (n := (v 3)) (p := y9_3) (y := (y9_3 + 1)) (nu := z_7) (w := (g 0) 0) (by omega) (by omega) (runD_eq (by omega) hL (by omega)) hW; first | exact ⟨rfl, by omega, by omega, q.2.2, q.1 (by omega)⟩ | exact ⟨rfl, by omega, by omega, q.2.2, q.2.1 (by omega)⟩) | (have q := tok_sign (B := B) (n := (v 3)) (p := y9_3) (nu := z_7) (w := (g 0) 0) (by omega) (by omega) (by omega); exact ⟨rfl, by omega, by omega, q.2, q.1⟩) | (have q := tok_bad (B := B) (n := (v 3)) (p := y9_3) (nu := z_7) (w := (g 0) 0) (by omega) (by omega) (by omega) (by omega); exact ⟨rfl, by omega, by omega, q.2, q.1⟩))⟩
                      · refine lv_iload_n hx hb dX11_next_330 rfl (lv_at hl 0 rfl) ?_
                        refine lv_bipush (v := iI 44) hx hb dX11_next_331 (by decide) ?_
                        refine gi_ceq (tgt := 342) hx hb dX11_next_333 (by decide) (by omega) (by decide) (fun c_17 => ?_) (fun c_17 => ?_)
                        · refine lv_iconst (v := iI 3) hx hb dX11_next_342 rfl ?_
                          refine lv_goto (tgt := 347) hx hb dX11_next_343 (by decide) ?_
                          refine mdP_sort (v1 := (va_up (va_up (va_up (va_up v 8 3) 9 y9_3) 10 (y9_3 + 1)) 11 z_7)) C hP hD hS mF_X11_165 (by decide) rfl (Or.inr (gR_up (V := mdV) (F := mdF) (gR_up (V := mdV) (F := mdF) (gR_up (V := mdV) (F := mdF) (gR_up (V := mdV) (F := mdF) ⟨hok.1, hok.2⟩ 8 (show 0 ≤ 3 ∧ 3 ≤ 4 from by decide)) 9 (hP.2.1 9)) 10 (hP.2.1 10)) 11 (hP.2.1 11))) dX11_next_347 (fun H locs hP hS => ?_)
                          exact g_vret hQ C hr hlocks hP hS dX11_next_350 ⟨3, y9_3, (y9_3 + 1), z_7, (g 0), rfl, rfl, rfl, rfl, (by rw [hA]; first | exact ⟨rfl, by omega, by omega, (tE_N (by omega)).symm, tok_end (by omega)⟩ | (have q := tok_word (B := B) (n := (v 3)) (p := y9_3) (y := (y9_3 + 1)) (nu := z_7) (w := (g 0) 0) (by omega) (by omega) (runL_eq (by omega) hL (by omega)) hW; exact ⟨rfl, by omega, by omega, q.2, q.1⟩) | (have q := tok_num (B := B) (n := (v 3)) (p := y9_3) (y := (y9_3 + 1)) (nu := z_7) (w := (g 0) 0) (by omega) (by omega) (runD_eq (by omega) hL (by omega)) hW; first | exact ⟨rfl, by omega, by omega, q.2.2, q.1 (by omega)⟩ | exact ⟨rfl, by omega, by omega, q.2.2, q.2.1 (by omega)⟩) | (have q := tok_sign (B := B) (n := (v 3)) (p := y9_3) (nu := z_7) (w := (g 0) 0) (by omega) (by omega) (by omega); exact ⟨rfl, by omega, by omega, q.2, q.1⟩) | (have q := tok_bad (B := B) (n := (v 3)) (p := y9_3) (nu := z_7) (w := (g 0) 0) (by omega) (by omega) (by omega) (by omega); exact ⟨rfl, by omega, by omega, q.2, q.1⟩))⟩
                        · refine lv_iload_n hx hb dX11_next_336 rfl (lv_at hl 0 rfl) ?_
                          refine lv_bipush (v := iI 59) hx hb dX11_next_337 (by decide) ?_
                          refine gi_cne (tgt := 346) hx hb dX11_next_339 (by decide) (by omega) (by decide) (fun c_18 => ?_) (fun c_18 => ?_)
                          · refine lv_iconst (v := iI 4) hx hb dX11_next_346 rfl ?_
                            refine mdP_sort (v1 := (va_up (va_up (va_up (va_up v 8 4) 9 y9_3) 10 (y9_3 + 1)) 11 z_7)) C hP hD hS mF_X11_165 (by decide) rfl (Or.inr (gR_up (V := mdV) (F := mdF) (gR_up (V := mdV) (F := mdF) (gR_up (V := mdV) (F := mdF) (gR_up (V := mdV) (F := mdF) ⟨hok.1, hok.2⟩ 8 (show 0 ≤ 4 ∧ 4 ≤ 4 from by decide)) 9 (hP.2.1 9)) 10 (hP.2.1 10)) 11 (hP.2.1 11))) dX11_next_347 (fun H locs hP hS => ?_)
                            exact g_vret hQ C hr hlocks hP hS dX11_next_350 ⟨4, y9_3, (y9_3 + 1), z_7, (g 0), rfl, rfl, rfl, rfl, (by rw [hA]; first | exact ⟨rfl, by omega, by omega, (tE_N (by omega)).symm, tok_end (by omega)⟩ | (have q := tok_word (B := B) (n := (v 3)) (p := y9_3) (y := (y9_3 + 1)) (nu := z_7) (w := (g 0) 0) (by omega) (by omega) (runL_eq (by omega) hL (by omega)) hW; exact ⟨rfl, by omega, by omega, q.2, q.1⟩) | (have q := tok_num (B := B) (n := (v 3)) (p := y9_3) (y := (y9_3 + 1)) (nu := z_7) (w := (g 0) 0) (by omega) (by omega) (runD_eq (by omega) hL (by omega)) hW; first | exact ⟨rfl, by omega, by omega, q.2.2, q.1 (by omega)⟩ | exact ⟨rfl, by omega, by omega, q.2.2, q.2.1 (by omega)⟩) | (have q := tok_sign (B := B) (n := (v 3)) (p := y9_3) (nu := z_7) (w := (g 0) 0) (by omega) (by omega) (by omega); exact ⟨rfl, by omega, by omega, q.2, q.1⟩) | (have q := tok_bad (B := B) (n := (v 3)) (p := y9_3) (nu := z_7) (w := (g 0) 0) (by omega) (by omega) (by omega) (by omega); exact ⟨rfl, by omega, by omega, q.2, q.1⟩))⟩
                          · refine lv_iconst (v := iI 3) hx hb dX11_next_342 rfl ?_
                            refine lv_goto (tgt := 347) hx hb dX11_next_343 (by decide) ?_
                            refine mdP_sort (v1 := (va_up (va_up (va_up (va_up v 8 3) 9 y9_3) 10 (y9_3 + 1)) 11 z_7)) C hP hD hS mF_X11_165 (by decide) rfl (Or.inr (gR_up (V := mdV) (F := mdF) (gR_up (V := mdV) (F := mdF) (gR_up (V := mdV) (F := mdF) (gR_up (V := mdV) (F := mdF) ⟨hok.1, hok.2⟩ 8 (show 0 ≤ 3 ∧ 3 ≤ 4 from by decide)) 9 (hP.2.1 9)) 10 (hP.2.1 10)) 11 (hP.2.1 11))) dX11_next_347 (fun H locs hP hS => ?_)
                            exact g_vret hQ C hr hlocks hP hS dX11_next_350 ⟨3, y9_3, (y9_3 + 1), z_7, (g 0), rfl, rfl, rfl, rfl, (by rw [hA]; first | exact ⟨rfl, by omega, by omega, (tE_N (by omega)).symm, tok_end (by omega)⟩ | (have q := tok_word (B := B) (n := (v 3)) (p := y9_3) (y := (y9_3 + 1)) (nu := z_7) (w := (g 0) 0) (by omega) (by omega) (runL_eq (by omega) hL (by omega)) hW; exact ⟨rfl, by omega, by omega, q.2, q.1⟩) | (have q := tok_num (B := B) (n := (v 3)) (p := y9_3) (y := (y9_3 + 1)) (nu := z_7) (w := (g 0) 0) (by omega) (by omega) (runD_eq (by omega) hL (by omega)) hW; first | exact ⟨rfl, by omega, by omega, q.2.2, q.1 (by omega)⟩ | exact ⟨rfl, by omega, by omega, q.2.2, q.2.1 (by omega)⟩) | (have q := tok_sign (B := B) (n := (v 3)) (p := y9_3) (nu := z_7) (w := (g 0) 0) (by omega) (by omega) (by omega); exact ⟨rfl, by omega, by omega, q.2, q.1⟩) | (have q := tok_bad (B := B) (n := (v 3)) (p := y9_3) (nu := z_7) (w := (g 0) 0) (by omega) (by omega) (by omega) (by omega); exact ⟨rfl, by omega, by omega, q.2, q.1⟩))⟩
            · have v_10 := w_10.elim (fun q => q.2) (fun q => absurd q.1 c_11)
              clear w_10 p0_10
              refine lv_aload_n hx hb dX11_next_189 rfl (lv_at hl 1 rfl) ?_
              refine lv_iconst (v := iI 0) hx hb dX11_next_190 rfl ?_
              refine mdP_number (v1 := (va_up (va_up (va_up (va_up v 8 (v 8)) 9 y9_3) 10 y9_3) 11 0)) C hP hD hS mF_X11_185 (by decide) rfl (Or.inr (gR_up (V := mdV) (F := mdF) (gR_up (V := mdV) (F := mdF) (gR_up (V := mdV) (F := mdF) (gR_up (V := mdV) (F := mdF) ⟨hok.1, hok.2⟩ 8 (hP.2.1 8)) 9 (hP.2.1 9)) 10 (hP.2.1 10)) 11 (show 0 ≤ 0 ∧ 0 ≤ 999999 from by decide))) dX11_next_191 (fun H locs hP hS => ?_)
              have L_19 : ∀ (n : Nat) (y10_19 : Int) (y11_19 : Int) (H : Heap) (locs : List Loc) (ls : Array Slot), (v 3) - y10_19 < (n : Int) → (y9_3 ≤ y10_19 ∧ y10_19 ≤ (v 3)) → (∀ j, y9_3 ≤ j → j < y10_19 → j < (v 3) ∧ pD (B j)) → (y11_19 = nV B y9_3 (y10_19 - y9_3).toNat) → gWd D (mdT k ad) (va_up (va_up (va_up (va_up v 8 (v 8)) 9 y9_3) 10 y10_19) 11 y11_19) f (va_up g 0 (g 0)) H → va_S A s.heap H locs → lv_has ls 2 [(0, .ref (ad 0)), (1, .int (iI z_7))] → W p l e (gRm 1 21) s m args below meth c H locs 0 0 Q (F0 m 194 ls []) := by
                intro n
                induction n with
                | zero =>
                  intro y10_19 y11_19 H locs ls hn_19 i19_0 i19_1 i19_2 hP hS hl
                  have ry10_19 : 0 ≤ y10_19 ∧ y10_19 ≤ 700 := hP.2.1 10
                  have ry11_19 : 0 ≤ y11_19 ∧ y11_19 ≤ 999999 := hP.2.1 11
                  exfalso; omega
                | succ n ih_194 =>
                  intro y10_19 y11_19 H locs ls hn_19 i19_0 i19_1 i19_2 hP hS hl
                  have ry10_19 : 0 ≤ y10_19 ∧ y10_19 ≤ 700 := hP.2.1 10
                  have ry11_19 : 0 ≤ y11_19 ∧ y11_19 ≤ 999999 := hP.2.1 11
                  have hL := i19_1
                  have hW := i19_2
                  have hR := nV_rng (B := B) (q := y9_3) (y10_19 - y9_3).toNat (runD_mem (fun j b1 b2 => (hL j b1 b2).2) (by omega))
                  refine lv_aload_n hx hb dX11_next_194 rfl (lv_at hl 0 rfl) ?_
                  refine lv_aload_n hx hb dX11_next_195 rfl (lv_at hl 0 rfl) ?_
                  refine mdG_behind C hP mF_X11_155 dX11_next_196 ?_
                  show W p l e (gRm 1 21) s m args below meth c _ _ 0 0 Q (F0 m 199 ls [.int (iI y10_19), .ref (ad 0)])
                  have r_20 : 0 ≤ y10_19 ∧ y10_19 ≤ 700 := hP.2.1 10
                  refine g_cv (As := [.int (iI y10_19)]) (rest := []) (n := 1) C hml (n_look l D k A ad hD (va_up (va_up (va_up (va_up v 8 (v 8)) 9 y9_3) 10 y10_19) 11 y11_19) f (va_up g 0 (g 0)) y10_19 B (by omega) (show ∀ k, (f 0) k % 256 = B k from hB) (show 0 ≤ y10_19 from by omega)) mM_X11_161 mI_X11_look mE_X11_look mN_X11 mC_X11_look (by decide +kernel) 0 (ci := 11) rfl rfl hP hS (fun _ h => h) ⟨Nat.le_of_ble_eq_true rfl, Nat.le_of_ble_eq_true rfl⟩ ⟨Nat.zero_le _, Nat.zero_le _⟩ hl.1 rfl rfl (Nat.le_of_ble_eq_true rfl) dX11_next_199 (fun r_21 v_21 f_21 g_21 H locs hq_21 hP _ hS => ?_)
                  obtain ⟨z_21, rfl, rfl, rfl, rfl, p0_21, p1_21, p2_21⟩ := hq_21
                  show W p l e (gRm 1 21) s m args below meth c _ _ 0 0 Q (F0 m 202 ls [.int (iI z_21)])
                  replace p0_21 : 0 ≤ z_21 ∧ z_21 ≤ 255 := p0_21
                  replace p1_21 : y10_19 < (v 3) → z_21 = B y10_19 := p1_21
                  replace p2_21 : (v 3) ≤ y10_19 → z_21 = 0 := p2_21
                  refine g_cs (As := [.int (iI z_21)]) (rest := []) (n := 1) C hml (n_isDigit l D k A ad hD (va_up (va_up (va_up (va_up v 8 (v 8)) 9 y9_3) 10 y10_19) 11 y11_19) f (va_up g 0 (g 0)) z_21 (by omega)) mM_X11_182 mS_X11_isDigit mN_X11 mC_X11_isDigit (by decide +kernel) hP hS (fun _ h => h) ⟨Nat.le_of_ble_eq_true rfl, Nat.le_of_ble_eq_true rfl⟩ ⟨Nat.zero_le _, Nat.zero_le _⟩ hl.1 rfl rfl (Nat.le_of_ble_eq_true rfl) dX11_next_202 (fun r_22 v_22 f_22 g_22 H locs hq_22 hP _ hS => ?_)
                  obtain ⟨z_22, rfl, rfl, rfl, rfl, p0_22⟩ := hq_22
                  show W p l e (gRm 1 21) s m args below meth c _ _ 0 0 Q (F0 m 205 ls [.int (iI z_22)])
                  replace p0_22 : z_22 = (if 48 ≤ z_21 ∧ z_21 ≤ 57 then 1 else 0) := p0_22
                  have w_22 := gif (P := 48 ≤ z_21 ∧ z_21 ≤ 57) p0_22
                  have hz_22 : inR z_22 := (by first | omega | (rw [p0_22]; split <;> omega))
                  refine gi_zeq (tgt := 258) hx hb dX11_next_205 (by decide) (by omega) (fun c_23 => ?_) (fun c_23 => ?_)
                  · have v_22 := w_22.elim (fun q => absurd (q.1.symm.trans c_23) (by decide)) (fun q => q.2)
                    clear w_22 p0_22
                    refine lv_aload_n hx hb dX11_next_258 rfl (lv_at hl 0 rfl) ?_
                    refine lv_aload_n hx hb dX11_next_259 rfl (lv_at hl 0 rfl) ?_
                    refine mdG_behind C hP mF_X11_155 dX11_next_260 ?_
                    show W p l e (gRm 1 21) s m args below meth c _ _ 0 0 Q (F0 m 263 ls [.int (iI y10_19), .ref (ad 0)])
                    refine lv_aload_n hx hb dX11_next_263 rfl (lv_at hl 0 rfl) ?_
                    refine mdG_at C hP mF_X11_158 dX11_next_264 ?_
                    show W p l e (gRm 1 21) s m args below meth c _ _ 0 0 Q (F0 m 267 ls [.int (iI y9_3), .int (iI y10_19), .ref (ad 0)])
                    refine gi_sub (z := (y10_19 - y9_3)) hx hb dX11_next_267 rfl ?_
                    refine lv_bipush (v := iI 6) hx hb dX11_next_268 (by decide) ?_
                    refine gi_cle (tgt := 277) hx hb dX11_next_270 (by decide) (by omega) (by decide) (fun c_24 => ?_) (fun c_24 => ?_)
                    · refine lv_iconst (v := iI 2) hx hb dX11_next_277 rfl ?_
                      refine mdP_sort (v1 := (va_up (va_up (va_up (va_up v 8 2) 9 y9_3) 10 y10_19) 11 y11_19)) C hP hD hS mF_X11_165 (by decide) rfl (Or.inr (gR_up (V := mdV) (F := mdF) (gR_up (V := mdV) (F := mdF) (gR_up (V := mdV) (F := mdF) (gR_up (V := mdV) (F := mdF) ⟨hok.1, hok.2⟩ 8 (show 0 ≤ 2 ∧ 2 ≤ 4 from by decide)) 9 (hP.2.1 9)) 10 (hP.2.1 10)) 11 (hP.2.1 11))) dX11_next_278 (fun H locs hP hS => ?_)
                      refine lv_goto (tgt := 350) hx hb dX11_next_281 (by decide) ?_
                      exact g_vret hQ C hr hlocks hP hS dX11_next_350 ⟨2, y9_3, y10_19, y11_19, (g 0), rfl, rfl, rfl, rfl, (by rw [hA]; first | exact ⟨rfl, by omega, by omega, (tE_N (by omega)).symm, tok_end (by omega)⟩ | (have q := tok_word (B := B) (n := (v 3)) (p := y9_3) (y := y10_19) (nu := y11_19) (w := (g 0) 0) (by omega) (by omega) (runL_eq (by omega) hL (by omega)) hW; exact ⟨rfl, by omega, by omega, q.2, q.1⟩) | (have q := tok_num (B := B) (n := (v 3)) (p := y9_3) (y := y10_19) (nu := y11_19) (w := (g 0) 0) (by omega) (by omega) (runD_eq (by omega) hL (by omega)) hW; first | exact ⟨rfl, by omega, by omega, q.2.2, q.1 (by omega)⟩ | exact ⟨rfl, by omega, by omega, q.2.2, q.2.1 (by omega)⟩) | (have q := tok_sign (B := B) (n := (v 3)) (p := y9_3) (nu := y11_19) (w := (g 0) 0) (by omega) (by omega) (by omega); exact ⟨rfl, by omega, by omega, q.2, q.1⟩) | (have q := tok_bad (B := B) (n := (v 3)) (p := y9_3) (nu := y11_19) (w := (g 0) 0) (by omega) (by omega) (by omega) (by omega); exact ⟨rfl, by omega, by omega, q.2, q.1⟩))⟩
                    · refine lv_iconst (v := iI 4) hx hb dX11_next_273 rfl ?_
                      refine lv_goto (tgt := 278) hx hb dX11_next_274 (by decide) ?_
                      refine mdP_sort (v1 := (va_up (va_up (va_up (va_up v 8 4) 9 y9_3) 10 y10_19) 11 y11_19)) C hP hD hS mF_X11_165 (by decide) rfl (Or.inr (gR_up (V := mdV) (F := mdF) (gR_up (V := mdV) (F := mdF) (gR_up (V := mdV) (F := mdF) (gR_up (V := mdV) (F := mdF) ⟨hok.1, hok.2⟩ 8 (show 0 ≤ 4 ∧ 4 ≤ 4 from by decide)) 9 (hP.2.1 9)) 10 (hP.2.1 10)) 11 (hP.2.1 11))) dX11_next_278 (fun H locs hP hS => ?_)
                      refine lv_goto (tgt := 350) hx hb dX11_next_281 (by decide) ?_
                      exact g_vret hQ C hr hlocks hP hS dX11_next_350 ⟨4, y9_3, y10_19, y11_19, (g 0), rfl, rfl, rfl, rfl, (by rw [hA]; first | exact ⟨rfl, by omega, by omega, (tE_N (by omega)).symm, tok_end (by omega)⟩ | (have q := tok_word (B := B) (n := (v 3)) (p := y9_3) (y := y10_19) (nu := y11_19) (w := (g 0) 0) (by omega) (by omega) (runL_eq (by omega) hL (by omega)) hW; exact ⟨rfl, by omega, by omega, q.2, q.1⟩) | (have q := tok_num (B := B) (n := (v 3)) (p := y9_3) (y := y10_19) (nu := y11_19) (w := (g 0) 0) (by omega) (by omega) (runD_eq (by omega) hL (by omega)) hW; first | exact ⟨rfl, by omega, by omega, q.2.2, q.1 (by omega)⟩ | exact ⟨rfl, by omega, by omega, q.2.2, q.2.1 (by omega)⟩) | (have q := tok_sign (B := B) (n := (v 3)) (p := y9_3) (nu := y11_19) (w := (g 0) 0) (by omega) (by omega) (by omega); exact ⟨rfl, by omega, by omega, q.2, q.1⟩) | (have q := tok_bad (B := B) (n := (v 3)) (p := y9_3) (nu := y11_19) (w := (g 0) 0) (by omega) (by omega) (by omega) (by omega); exact ⟨rfl, by omega, by omega, q.2, q.1⟩))⟩
                  · have v_22 := w_22.elim (fun q => q.2) (fun q => absurd q.1 c_23)
                    clear w_22 p0_22
                    refine lv_aload_n hx hb dX11_next_208 rfl (lv_at hl 0 rfl) ?_
                    refine mdG_behind C hP mF_X11_155 dX11_next_209 ?_
                    show W p l e (gRm 1 21) s m args below meth c _ _ 0 0 Q (F0 m 212 ls [.int (iI y10_19)])
                    refine lv_aload_n hx hb dX11_next_212 rfl (lv_at hl 0 rfl) ?_
                    refine mdG_at C hP mF_X11_158 dX11_next_213 ?_
                    show W p l e (gRm 1 21) s m args below meth c _ _ 0 0 Q (F0 m 216 ls [.int (iI y9_3), .int (iI y10_19)])
                    refine gi_sub (z := (y10_19 - y9_3)) hx hb dX11_next_216 rfl ?_
                    refine lv_bipush (v := iI 6) hx hb dX11_next_217 (by decide) ?_
                    refine gi_cge (tgt := 245) hx hb dX11_next_219 (by decide) (by omega) (by decide) (fun c_25 => ?_) (fun c_25 => ?_)
                    · refine lv_aload_n hx hb dX11_next_245 rfl (lv_at hl 0 rfl) ?_
                      refine lv_dup hx hb dX11_next_246 rfl ?_
                      refine mdG_behind C hP mF_X11_155 dX11_next_247 ?_
                      show W p l e (gRm 1 21) s m args below meth c _ _ 0 0 Q (F0 m 250 ls [.int (iI y10_19), .ref (ad 0)])
                      refine lv_iconst (v := iI 1) hx hb dX11_next_250 rfl ?_
                      refine gi_add (z := (y10_19 + 1)) hx hb dX11_next_251 rfl ?_
                      refine mdP_behind (v1 := (va_up (va_up (va_up (va_up v 8 (v 8)) 9 y9_3) 10 (y10_19 + 1)) 11 y11_19)) C hP hD hS mF_X11_155 (by omega) rfl (Or.inr (gR_up (V := mdV) (F := mdF) (gR_up (V := mdV) (F := mdF) (gR_up (V := mdV) (F := mdF) (gR_up (V := mdV) (F := mdF) ⟨hok.1, hok.2⟩ 8 (hP.2.1 8)) 9 (hP.2.1 9)) 10 (show 0 ≤ (y10_19 + 1) ∧ (y10_19 + 1) ≤ 700 from by omega)) 11 (hP.2.1 11))) dX11_next_252 (fun H locs hP hS => ?_)
                      refine lv_goto (tgt := 194) hx hb dX11_next_255 (by decide) ?_
                      exact ih_194 (y10_19 + 1) y11_19 _ _ _ (by omega) (by omega) (run_snoc hL (by omega) (by omega)) (by rw [nV_up (by omega)]; first | (rw [if_pos (by omega)]; omega) | (rw [if_neg (by omega)]; omega)) hP hS (lv_sub hl [0, 1] rfl)
                    · refine lv_aload_n hx hb dX11_next_222 rfl (lv_at hl 0 rfl) ?_
                      refine lv_bipush (v := iI 10) hx hb dX11_next_223 (by decide) ?_
                      refine lv_aload_n hx hb dX11_next_225 rfl (lv_at hl 0 rfl) ?_
                      refine mdG_number C hP mF_X11_185 dX11_next_226 ?_
                      show W p l e (gRm 1 21) s m args below meth c _ _ 0 0 Q (F0 m 229 ls [.int (iI y11_19), .int (iI 10), .ref (ad 0)])
                      have r_26 : 0 ≤ y11_19 ∧ y11_19 ≤ 999999 := hP.2.1 11
                      refine gi_mul (z := (10 * y11_19)) hx hb dX11_next_229 rfl ?_
                      refine lv_aload_n hx hb dX11_next_230 rfl (lv_at hl 0 rfl) ?_
                      refine lv_aload_n hx hb dX11_next_231 rfl (lv_at hl 0 rfl) ?_
                      refine mdG_behind C hP mF_X11_155 dX11_next_232 ?_
                      show W p l e (gRm 1 21) s m args below meth c _ _ 0 0 Q (F0 m 235 ls [.int (iI y10_19), .ref (ad 0), .int (iI (10 * y11_19)), .ref (ad 0)])
                      refine g_cv (As := [.int (iI y10_19)]) (rest := [.int (iI (10 * y11_19)), .ref (ad 0)]) (n := 1) C hml (n_look l D k A ad hD (va_up (va_up (va_up (va_up v 8 (v 8)) 9 y9_3) 10 y10_19) 11 y11_19) f (va_up g 0 (g 0)) y10_19 B (by omega) (show ∀ k, (f 0) k % 256 = B k from hB) (show 0 ≤ y10_19 from by omega)) mM_X11_161 mI_X11_look mE_X11_look mN_X11 mC_X11_look (by decide +kernel) 0 (ci := 11) rfl rfl hP hS (fun _ h => h) ⟨Nat.le_of_ble_eq_true rfl, Nat.le_of_ble_eq_true rfl⟩ ⟨Nat.zero_le _, Nat.zero_le _⟩ hl.1 rfl rfl (Nat.le_of_ble_eq_true rfl) dX11_next_235 (fun r_27 v_27 f_27 g_27 H locs hq_27 hP _ hS => ?_)
                      obtain ⟨z_27, rfl, rfl, rfl, rfl, p0_27, p1_27, p2_27⟩ := hq_27
                      show W p l e (gRm 1 21) s m args below meth c _ _ 0 0 Q (F0 m 238 ls [.int (iI z_27), .int (iI (10 * y11_19)), .ref (ad 0)])
                      replace p0_27 : 0 ≤ z_27 ∧ z_27 ≤ 255 := p0_27
                      replace p1_27 : y10_19 < (v 3) → z_27 = B y10_19 := p1_27
                      replace p2_27 : (v 3) ≤ y10_19 → z_27 = 0 := p2_27
                      refine gi_add (z := ((10 * y11_19) + z_27)) hx hb dX11_next_238 rfl ?_
                      refine lv_bipush (v := iI 48) hx hb dX11_next_239 (by decide) ?_
                      refine gi_sub (z := (((10 * y11_19) + z_27) - 48)) hx hb dX11_next_241 rfl ?_
                      refine mdP_number (v1 := (va_up (va_up (va_up (va_up v 8 (v 8)) 9 y9_3) 10 y10_19) 11 (((10 * y11_19) + z_27) - 48))) C hP hD hS mF_X11_185 (by omega) rfl (Or.inr (gR_up (V := mdV) (F := mdF) (gR_up (V := mdV) (F := mdF) (gR_up (V := mdV) (F := mdF) (gR_up (V := mdV) (F := mdF) ⟨hok.1, hok.2⟩ 8 (hP.2.1 8)) 9 (hP.2.1 9)) 10 (hP.2.1 10)) 11 (show 0 ≤ (((10 * y11_19) + z_27) - 48) ∧ (((10 * y11_19) + z_27) - 48) ≤ 999999 from by omega))) dX11_next_242 (fun H locs hP hS => ?_)
                      refine lv_aload_n hx hb dX11_next_245 rfl (lv_at hl 0 rfl) ?_
                      refine lv_dup hx hb dX11_next_246 rfl ?_
                      refine mdG_behind C hP mF_X11_155 dX11_next_247 ?_
                      show W p l e (gRm 1 21) s m args below meth c _ _ 0 0 Q (F0 m 250 ls [.int (iI y10_19), .ref (ad 0)])
                      refine lv_iconst (v := iI 1) hx hb dX11_next_250 rfl ?_
                      refine gi_add (z := (y10_19 + 1)) hx hb dX11_next_251 rfl ?_
                      refine mdP_behind (v1 := (va_up (va_up (va_up (va_up v 8 (v 8)) 9 y9_3) 10 (y10_19 + 1)) 11 (((10 * y11_19) + z_27) - 48))) C hP hD hS mF_X11_155 (by omega) rfl (Or.inr (gR_up (V := mdV) (F := mdF) (gR_up (V := mdV) (F := mdF) (gR_up (V := mdV) (F := mdF) (gR_up (V := mdV) (F := mdF) ⟨hok.1, hok.2⟩ 8 (hP.2.1 8)) 9 (hP.2.1 9)) 10 (show 0 ≤ (y10_19 + 1) ∧ (y10_19 + 1) ≤ 700 from by omega)) 11 (hP.2.1 11))) dX11_next_252 (fun H locs hP hS => ?_)
                      refine lv_goto (tgt := 194) hx hb dX11_next_255 (by decide) ?_
                      exact ih_194 (y10_19 + 1) (((10 * y11_19) + z_27) - 48) _ _ _ (by omega) (by omega) (run_snoc hL (by omega) (by omega)) (by rw [nV_up (by omega)]; first | (rw [if_pos (by omega)]; omega) | (rw [if_neg (by omega)]; omega)) hP hS (lv_sub hl [0, 1] rfl)
              exact L_19 701 y9_3 0 _ _ _ (by omega) (by omega) run_none (by rw [show (y9_3 - y9_3).toNat = 0 by omega]; rfl) hP hS (lv_sub hl [1, 0] rfl)
          · have v_8 := w_8.elim (fun q => q.2) (fun q => absurd q.1 c_9)
            clear w_8 p0_8
            refine lv_aload_n hx hb dX11_next_99 rfl (lv_at hl 1 rfl) ?_
            refine lv_iconst (v := iI 1) hx hb dX11_next_100 rfl ?_
            refine mdP_sort (v1 := (va_up (va_up (va_up (va_up v 8 1) 9 y9_3) 10 y9_3) 11 (v 11))) C hP hD hS mF_X11_165 (by decide) rfl (Or.inr (gR_up (V := mdV) (F := mdF) (gR_up (V := mdV) (F := mdF) (gR_up (V := mdV) (F := mdF) (gR_up (V := mdV) (F := mdF) ⟨hok.1, hok.2⟩ 8 (show 0 ≤ 1 ∧ 1 ≤ 4 from by decide)) 9 (hP.2.1 9)) 10 (hP.2.1 10)) 11 (hP.2.1 11))) dX11_next_101 (fun H locs hP hS => ?_)
            refine lv_aload_n hx hb dX11_next_104 rfl (lv_at hl 1 rfl) ?_
            refine lv_lconst (v := iL 0) hx hb dX11_next_105 (by decide) ?_
            refine mdP_word (g1 := (va_up g 0 (fun _ => 0))) C hP hD hS mF_X11_172 rfl dX11_next_106 (fun H locs hP hS => ?_)
            have L_28 : ∀ (n : Nat) (y10_28 : Int) (d0_28 : Int → Int) (H : Heap) (locs : List Loc) (ls : Array Slot), (v 3) - y10_28 < (n : Int) → (y9_3 ≤ y10_28 ∧ y10_28 ≤ (v 3)) → (∀ j, y9_3 ≤ j → j < y10_28 → j < (v 3) ∧ pL (B j)) → (d0_28 0 = hs B y9_3 (y10_28 - y9_3).toNat) → gWd D (mdT k ad) (va_up (va_up (va_up (va_up v 8 1) 9 y9_3) 10 y10_28) 11 (v 11)) f (va_up g 0 d0_28) H → va_S A s.heap H locs → lv_has ls 2 [(0, .ref (ad 0)), (1, .int (iI z_7))] → W p l e (gRm 1 21) s m args below meth c H locs 0 0 Q (F0 m 109 ls []) := by
              intro n
              induction n with
              | zero =>
                intro y10_28 d0_28 H locs ls hn_28 i28_0 i28_1 i28_2 hP hS hl
                have ry10_28 : 0 ≤ y10_28 ∧ y10_28 ≤ 700 := hP.2.1 10
                exfalso; omega
              | succ n ih_109 =>
                intro y10_28 d0_28 H locs ls hn_28 i28_0 i28_1 i28_2 hP hS hl
                have ry10_28 : 0 ≤ y10_28 ∧ y10_28 ≤ 700 := hP.2.1 10
                have hL := i28_1
                have hW := i28_2
                refine lv_aload_n hx hb dX11_next_109 rfl (lv_at hl 0 rfl) ?_
                refine lv_aload_n hx hb dX11_next_110 rfl (lv_at hl 0 rfl) ?_
                refine mdG_behind C hP mF_X11_155 dX11_next_111 ?_
                show W p l e (gRm 1 21) s m args below meth c _ _ 0 0 Q (F0 m 114 ls [.int (iI y10_28), .ref (ad 0)])
                have r_29 : 0 ≤ y10_28 ∧ y10_28 ≤ 700 := hP.2.1 10
                refine g_cv (As := [.int (iI y10_28)]) (rest := []) (n := 1) C hml (n_look l D k A ad hD (va_up (va_up (va_up (va_up v 8 1) 9 y9_3) 10 y10_28) 11 (v 11)) f (va_up g 0 d0_28) y10_28 B (by omega) (show ∀ k, (f 0) k % 256 = B k from hB) (show 0 ≤ y10_28 from by omega)) mM_X11_161 mI_X11_look mE_X11_look mN_X11 mC_X11_look (by decide +kernel) 0 (ci := 11) rfl rfl hP hS (fun _ h => h) ⟨Nat.le_of_ble_eq_true rfl, Nat.le_of_ble_eq_true rfl⟩ ⟨Nat.zero_le _, Nat.zero_le _⟩ hl.1 rfl rfl (Nat.le_of_ble_eq_true rfl) dX11_next_114 (fun r_30 v_30 f_30 g_30 H locs hq_30 hP _ hS => ?_)
                obtain ⟨z_30, rfl, rfl, rfl, rfl, p0_30, p1_30, p2_30⟩ := hq_30
                show W p l e (gRm 1 21) s m args below meth c _ _ 0 0 Q (F0 m 117 ls [.int (iI z_30)])
                replace p0_30 : 0 ≤ z_30 ∧ z_30 ≤ 255 := p0_30
                replace p1_30 : y10_28 < (v 3) → z_30 = B y10_28 := p1_30
                replace p2_30 : (v 3) ≤ y10_28 → z_30 = 0 := p2_30
                refine g_cs (As := [.int (iI z_30)]) (rest := []) (n := 1) C hml (n_isLetter l D k A ad hD (va_up (va_up (va_up (va_up v 8 1) 9 y9_3) 10 y10_28) 11 (v 11)) f (va_up g 0 d0_28) z_30 (by omega)) mM_X11_168 mS_X11_isLetter mN_X11 mC_X11_isLetter (by decide +kernel) hP hS (fun _ h => h) ⟨Nat.le_of_ble_eq_true rfl, Nat.le_of_ble_eq_true rfl⟩ ⟨Nat.zero_le _, Nat.zero_le _⟩ hl.1 rfl rfl (Nat.le_of_ble_eq_true rfl) dX11_next_117 (fun r_31 v_31 f_31 g_31 H locs hq_31 hP _ hS => ?_)
                obtain ⟨z_31, rfl, rfl, rfl, rfl, p0_31⟩ := hq_31
                show W p l e (gRm 1 21) s m args below meth c _ _ 0 0 Q (F0 m 120 ls [.int (iI z_31)])
                replace p0_31 : z_31 = (if 97 ≤ z_30 ∧ z_30 ≤ 122 then 1 else 0) := p0_31
                have w_31 := gif (P := 97 ≤ z_30 ∧ z_30 ≤ 122) p0_31
                have hz_31 : inR z_31 := (by first | omega | (rw [p0_31]; split <;> omega))
                refine gi_zeq (tgt := 350) hx hb dX11_next_120 (by decide) (by omega) (fun c_32 => ?_) (fun c_32 => ?_)
                · have v_31 := w_31.elim (fun q => absurd (q.1.symm.trans c_32) (by decide)) (fun q => q.2)
                  clear w_31 p0_31
                  exact g_vret hQ C hr hlocks hP hS dX11_next_350 ⟨1, y9_3, y10_28, (v 11), d0_28, rfl, rfl, rfl, rfl, (by rw [hA]; first | exact ⟨rfl, by omega, by omega, (tE_N (by omega)).symm, tok_end (by omega)⟩ | (have q := tok_word (B := B) (n := (v 3)) (p := y9_3) (y := y10_28) (nu := (v 11)) (w := d0_28 0) (by omega) (by omega) (runL_eq (by omega) hL (by omega)) hW; exact ⟨rfl, by omega, by omega, q.2, q.1⟩) | (have q := tok_num (B := B) (n := (v 3)) (p := y9_3) (y := y10_28) (nu := (v 11)) (w := d0_28 0) (by omega) (by omega) (runD_eq (by omega) hL (by omega)) hW; first | exact ⟨rfl, by omega, by omega, q.2.2, q.1 (by omega)⟩ | exact ⟨rfl, by omega, by omega, q.2.2, q.2.1 (by omega)⟩) | (have q := tok_sign (B := B) (n := (v 3)) (p := y9_3) (nu := (v 11)) (w := d0_28 0) (by omega) (by omega) (by omega); exact ⟨rfl, by omega, by omega, q.2, q.1⟩) | (have q := tok_bad (B := B) (n := (v 3)) (p := y9_3) (nu := (v 11)) (w := d0_28 0) (by omega) (by omega) (by omega) (by omega); exact ⟨rfl, by omega, by omega, q.2, q.1⟩))⟩
                · have v_31 := w_31.elim (fun q => q.2) (fun q => absurd q.1 c_32)
                  clear w_31 p0_31
                  refine lv_aload_n hx hb dX11_next_123 rfl (lv_at hl 0 rfl) ?_
                  refine lv_aload_n hx hb dX11_next_124 rfl (lv_at hl 0 rfl) ?_
                  refine mdG_behind C hP mF_X11_155 dX11_next_125 ?_
                  show W p l e (gRm 1 21) s m args below meth c _ _ 0 0 Q (F0 m 128 ls [.int (iI y10_28), .ref (ad 0)])
                  refine lv_aload_n hx hb dX11_next_128 rfl (lv_at hl 0 rfl) ?_
                  refine mdG_at C hP mF_X11_158 dX11_next_129 ?_
                  show W p l e (gRm 1 21) s m args below meth c _ _ 0 0 Q (F0 m 132 ls [.int (iI y9_3), .int (iI y10_28), .ref (ad 0)])
                  refine gi_sub (z := (y10_28 - y9_3)) hx hb dX11_next_132 rfl ?_
                  refine lv_bipush (v := iI 12) hx hb dX11_next_133 (by decide) ?_
                  refine gi_cge (tgt := 163) hx hb dX11_next_135 (by decide) (by omega) (by decide) (fun c_33 => ?_) (fun c_33 => ?_)
                  · refine lv_ldc2 (v := iL (-1)) hx hb C.2.2.2.1 (C.2.2.1 _ (show Cond.constantLong RX11 180 (iL (-1)) ∈ gWs from mD_X11_180)) dX11_next_163 ?_
                    refine mdP_word (g1 := (va_up g 0 (fun _ => (-1)))) C hP hD hS mF_X11_172 rfl dX11_next_166 (fun H locs hP hS => ?_)
                    refine lv_aload_n hx hb dX11_next_169 rfl (lv_at hl 0 rfl) ?_
                    refine lv_dup hx hb dX11_next_170 rfl ?_
                    refine mdG_behind C hP mF_X11_155 dX11_next_171 ?_
                    show W p l e (gRm 1 21) s m args below meth c _ _ 0 0 Q (F0 m 174 ls [.int (iI y10_28), .ref (ad 0)])
                    refine lv_iconst (v := iI 1) hx hb dX11_next_174 rfl ?_
                    refine gi_add (z := (y10_28 + 1)) hx hb dX11_next_175 rfl ?_
                    refine mdP_behind (v1 := (va_up (va_up (va_up (va_up v 8 1) 9 y9_3) 10 (y10_28 + 1)) 11 (v 11))) C hP hD hS mF_X11_155 (by omega) rfl (Or.inr (gR_up (V := mdV) (F := mdF) (gR_up (V := mdV) (F := mdF) (gR_up (V := mdV) (F := mdF) (gR_up (V := mdV) (F := mdF) ⟨hok.1, hok.2⟩ 8 (hP.2.1 8)) 9 (hP.2.1 9)) 10 (show 0 ≤ (y10_28 + 1) ∧ (y10_28 + 1) ≤ 700 from by omega)) 11 (hP.2.1 11))) dX11_next_176 (fun H locs hP hS => ?_)
                    refine lv_goto (tgt := 109) hx hb dX11_next_179 (by decide) ?_
                    exact ih_109 (y10_28 + 1) (fun _ => (-1)) _ _ _ (by omega) (by omega) (run_snoc hL (by omega) (by omega)) (by rw [hs_up (by omega)]; first | (rw [if_pos (by omega)]; omega) | (rw [if_neg (by omega)])) hP hS (lv_sub hl [0, 1] rfl)
                  · refine lv_aload_n hx hb dX11_next_138 rfl (lv_at hl 0 rfl) ?_
                    refine mdG_word C hP mF_X11_172 dX11_next_139 ?_
                    show W p l e (gRm 1 21) s m args below meth c _ _ 0 0 Q (F0 m 142 ls [.long (iL (d0_28 0)), .ref (ad 0)])
                    refine lv_ldc2 (v := iL 32) hx hb C.2.2.2.1 (C.2.2.1 _ (show Cond.constantLong RX11 176 (iL 32) ∈ gWs from mD_X11_176)) dX11_next_142 ?_
                    refine gl_mul (z := ((d0_28 0) * 32)) hx hb dX11_next_145 rfl ?_
                    refine lv_aload_n hx hb dX11_next_146 rfl (lv_at hl 0 rfl) ?_
                    refine lv_aload_n hx hb dX11_next_147 rfl (lv_at hl 0 rfl) ?_
                    refine mdG_behind C hP mF_X11_155 dX11_next_148 ?_
                    show W p l e (gRm 1 21) s m args below meth c _ _ 0 0 Q (F0 m 151 ls [.int (iI y10_28), .ref (ad 0), .long (iL ((d0_28 0) * 32)), .ref (ad 0)])
                    refine g_cv (As := [.int (iI y10_28)]) (rest := [.long (iL ((d0_28 0) * 32)), .ref (ad 0)]) (n := 1) C hml (n_look l D k A ad hD (va_up (va_up (va_up (va_up v 8 1) 9 y9_3) 10 y10_28) 11 (v 11)) f (va_up g 0 d0_28) y10_28 B (by omega) (show ∀ k, (f 0) k % 256 = B k from hB) (show 0 ≤ y10_28 from by omega)) mM_X11_161 mI_X11_look mE_X11_look mN_X11 mC_X11_look (by decide +kernel) 0 (ci := 11) rfl rfl hP hS (fun _ h => h) ⟨Nat.le_of_ble_eq_true rfl, Nat.le_of_ble_eq_true rfl⟩ ⟨Nat.zero_le _, Nat.zero_le _⟩ hl.1 rfl rfl (Nat.le_of_ble_eq_true rfl) dX11_next_151 (fun r_34 v_34 f_34 g_34 H locs hq_34 hP _ hS => ?_)
                    obtain ⟨z_34, rfl, rfl, rfl, rfl, p0_34, p1_34, p2_34⟩ := hq_34
                    show W p l e (gRm 1 21) s m args below meth c _ _ 0 0 Q (F0 m 154 ls [.int (iI z_34), .long (iL ((d0_28 0) * 32)), .ref (ad 0)])
                    replace p0_34 : 0 ≤ z_34 ∧ z_34 ≤ 255 := p0_34
                    replace p1_34 : y10_28 < (v 3) → z_34 = B y10_28 := p1_34
                    replace p2_34 : (v 3) ≤ y10_28 → z_34 = 0 := p2_34
                    refine gi_i2l hx hb (by omega) dX11_next_154 ?_
                    refine gl_add (z := (((d0_28 0) * 32) + z_34)) hx hb dX11_next_155 rfl ?_
                    refine lv_ldc2 (v := iL 96) hx hb C.2.2.2.1 (C.2.2.1 _ (show Cond.constantLong RX11 178 (iL 96) ∈ gWs from mD_X11_178)) dX11_next_156 ?_
                    refine gl_sub (z := ((((d0_28 0) * 32) + z_34) - 96)) hx hb dX11_next_159 rfl ?_
                    refine lv_goto (tgt := 166) hx hb dX11_next_160 (by decide) ?_
                    refine mdP_word (g1 := (va_up g 0 (fun _ => ((((d0_28 0) * 32) + z_34) - 96)))) C hP hD hS mF_X11_172 rfl dX11_next_166 (fun H locs hP hS => ?_)
                    refine lv_aload_n hx hb dX11_next_169 rfl (lv_at hl 0 rfl) ?_
                    refine lv_dup hx hb dX11_next_170 rfl ?_
                    refine mdG_behind C hP mF_X11_155 dX11_next_171 ?_
                    show W p l e (gRm 1 21) s m args below meth c _ _ 0 0 Q (F0 m 174 ls [.int (iI y10_28), .ref (ad 0)])
                    refine lv_iconst (v := iI 1) hx hb dX11_next_174 rfl ?_
                    refine gi_add (z := (y10_28 + 1)) hx hb dX11_next_175 rfl ?_
                    refine mdP_behind (v1 := (va_up (va_up (va_up (va_up v 8 1) 9 y9_3) 10 (y10_28 + 1)) 11 (v 11))) C hP hD hS mF_X11_155 (by omega) rfl (Or.inr (gR_up (V := mdV) (F := mdF) (gR_up (V := mdV) (F := mdF) (gR_up (V := mdV) (F := mdF) (gR_up (V := mdV) (F := mdF) ⟨hok.1, hok.2⟩ 8 (hP.2.1 8)) 9 (hP.2.1 9)) 10 (show 0 ≤ (y10_28 + 1) ∧ (y10_28 + 1) ≤ 700 from by omega)) 11 (hP.2.1 11))) dX11_next_176 (fun H locs hP hS => ?_)
                    refine lv_goto (tgt := 109) hx hb dX11_next_179 (by decide) ?_
                    exact ih_109 (y10_28 + 1) (fun _ => ((((d0_28 0) * 32) + z_34) - 96)) _ _ _ (by omega) (by omega) (run_snoc hL (by omega) (by omega)) (by rw [hs_up (by omega)]; first | (rw [if_pos (by omega)]; omega) | (rw [if_neg (by omega)])) hP hS (lv_sub hl [0, 1] rfl)
            exact L_28 701 y9_3 (fun _ => 0) _ _ _ (by omega) (by omega) run_none (by rw [show (y9_3 - y9_3).toNat = 0 by omega]; rfl) hP hS (lv_sub hl [1, 0] rfl)
        · refine lv_aload_n hx hb dX11_next_77 rfl (lv_at hl 0 rfl) ?_
          refine lv_iconst (v := iI 0) hx hb dX11_next_78 rfl ?_
          refine mdP_sort (v1 := (va_up (va_up (va_up (va_up v 8 0) 9 y9_3) 10 y9_3) 11 (v 11))) C hP hD hS mF_X11_165 (by decide) rfl (Or.inr (gR_up (V := mdV) (F := mdF) (gR_up (V := mdV) (F := mdF) (gR_up (V := mdV) (F := mdF) (gR_up (V := mdV) (F := mdF) ⟨hok.1, hok.2⟩ 8 (show 0 ≤ 0 ∧ 0 ≤ 4 from by decide)) 9 (hP.2.1 9)) 10 (hP.2.1 10)) 11 (hP.2.1 11))) dX11_next_79 (fun H locs hP hS => ?_)
          exact g_vret hQ C hr hlocks hP hS dX11_next_82 ⟨0, y9_3, y9_3, (v 11), (g 0), rfl, rfl, rfl, rfl, (by rw [hA]; first | exact ⟨rfl, by omega, by omega, (tE_N (by omega)).symm, tok_end (by omega)⟩ | (have q := tok_word (B := B) (n := (v 3)) (p := y9_3) (y := y9_3) (nu := (v 11)) (w := (g 0) 0) (by omega) (by omega) (runL_eq (by omega) hL (by omega)) hW; exact ⟨rfl, by omega, by omega, q.2, q.1⟩) | (have q := tok_num (B := B) (n := (v 3)) (p := y9_3) (y := y9_3) (nu := (v 11)) (w := (g 0) 0) (by omega) (by omega) (runD_eq (by omega) hL (by omega)) hW; first | exact ⟨rfl, by omega, by omega, q.2.2, q.1 (by omega)⟩ | exact ⟨rfl, by omega, by omega, q.2.2, q.2.1 (by omega)⟩) | (have q := tok_sign (B := B) (n := (v 3)) (p := y9_3) (nu := (v 11)) (w := (g 0) 0) (by omega) (by omega) (by omega); exact ⟨rfl, by omega, by omega, q.2, q.1⟩) | (have q := tok_bad (B := B) (n := (v 3)) (p := y9_3) (nu := (v 11)) (w := (g 0) 0) (by omega) (by omega) (by omega) (by omega); exact ⟨rfl, by omega, by omega, q.2, q.1⟩))⟩
      · refine lv_aload_n hx hb dX11_next_19 rfl (lv_at hl 0 rfl) ?_
        refine lv_aload_n hx hb dX11_next_20 rfl (lv_at hl 0 rfl) ?_
        refine mdG_at C hP mF_X11_158 dX11_next_21 ?_
        show W p l e (gRm 1 21) s m args below meth c _ _ 0 0 Q (F0 m 24 ls [.int (iI y9_3), .ref (ad 0)])
        refine g_cv (As := [.int (iI y9_3)]) (rest := []) (n := 1) C hml (n_look l D k A ad hD (va_up (va_up (va_up (va_up v 8 (v 8)) 9 y9_3) 10 (v 10)) 11 (v 11)) f (va_up g 0 (g 0)) y9_3 B (by omega) (show ∀ k, (f 0) k % 256 = B k from hB) (show 0 ≤ y9_3 from by omega)) mM_X11_161 mI_X11_look mE_X11_look mN_X11 mC_X11_look (by decide +kernel) 0 (ci := 11) rfl rfl hP hS (fun _ h => h) ⟨Nat.le_of_ble_eq_true rfl, Nat.le_of_ble_eq_true rfl⟩ ⟨Nat.zero_le _, Nat.zero_le _⟩ hl.1 rfl rfl (Nat.le_of_ble_eq_true rfl) dX11_next_24 (fun r_35 v_35 f_35 g_35 H locs hq_35 hP _ hS => ?_)
        obtain ⟨z_35, rfl, rfl, rfl, rfl, p0_35, p1_35, p2_35⟩ := hq_35
        show W p l e (gRm 1 21) s m args below meth c _ _ 0 0 Q (F0 m 27 ls [.int (iI z_35)])
        replace p0_35 : 0 ≤ z_35 ∧ z_35 ≤ 255 := p0_35
        replace p1_35 : y9_3 < (v 3) → z_35 = B y9_3 := p1_35
        replace p2_35 : (v 3) ≤ y9_3 → z_35 = 0 := p2_35
        refine lv_bipush (v := iI 10) hx hb dX11_next_27 (by decide) ?_
        refine gi_ceq (tgt := 45) hx hb dX11_next_29 (by decide) (by omega) (by decide) (fun c_36 => ?_) (fun c_36 => ?_)
        · refine lv_aload_n hx hb dX11_next_45 rfl (lv_at hl 0 rfl) ?_
          refine lv_dup hx hb dX11_next_46 rfl ?_
          refine mdG_at C hP mF_X11_158 dX11_next_47 ?_
          show W p l e (gRm 1 21) s m args below meth c _ _ 0 0 Q (F0 m 50 ls [.int (iI y9_3), .ref (ad 0)])
          refine lv_iconst (v := iI 1) hx hb dX11_next_50 rfl ?_
          refine gi_add (z := (y9_3 + 1)) hx hb dX11_next_51 rfl ?_
          refine mdP_at (v1 := (va_up (va_up (va_up (va_up v 8 (v 8)) 9 (y9_3 + 1)) 10 (v 10)) 11 (v 11))) C hP hD hS mF_X11_158 (by omega) rfl (Or.inr (gR_up (V := mdV) (F := mdF) (gR_up (V := mdV) (F := mdF) (gR_up (V := mdV) (F := mdF) (gR_up (V := mdV) (F := mdF) ⟨hok.1, hok.2⟩ 8 (hP.2.1 8)) 9 (show 0 ≤ (y9_3 + 1) ∧ (y9_3 + 1) ≤ 700 from by omega)) 10 (hP.2.1 10)) 11 (hP.2.1 11))) dX11_next_52 (fun H locs hP hS => ?_)
          refine lv_goto (tgt := 8) hx hb dX11_next_55 (by decide) ?_
          exact ih_8 (y9_3 + 1) _ _ _ (by omega) (by omega) (run_snoc hI (by omega) (by omega)) hP hS (lv_sub hl [0] rfl)
        · refine lv_aload_n hx hb dX11_next_32 rfl (lv_at hl 0 rfl) ?_
          refine lv_aload_n hx hb dX11_next_33 rfl (lv_at hl 0 rfl) ?_
          refine mdG_at C hP mF_X11_158 dX11_next_34 ?_
          show W p l e (gRm 1 21) s m args below meth c _ _ 0 0 Q (F0 m 37 ls [.int (iI y9_3), .ref (ad 0)])
          refine g_cv (As := [.int (iI y9_3)]) (rest := []) (n := 1) C hml (n_look l D k A ad hD (va_up (va_up (va_up (va_up v 8 (v 8)) 9 y9_3) 10 (v 10)) 11 (v 11)) f (va_up g 0 (g 0)) y9_3 B (by omega) (show ∀ k, (f 0) k % 256 = B k from hB) (show 0 ≤ y9_3 from by omega)) mM_X11_161 mI_X11_look mE_X11_look mN_X11 mC_X11_look (by decide +kernel) 0 (ci := 11) rfl rfl hP hS (fun _ h => h) ⟨Nat.le_of_ble_eq_true rfl, Nat.le_of_ble_eq_true rfl⟩ ⟨Nat.zero_le _, Nat.zero_le _⟩ hl.1 rfl rfl (Nat.le_of_ble_eq_true rfl) dX11_next_37 (fun r_37 v_37 f_37 g_37 H locs hq_37 hP _ hS => ?_)
          obtain ⟨z_37, rfl, rfl, rfl, rfl, p0_37, p1_37, p2_37⟩ := hq_37
          show W p l e (gRm 1 21) s m args below meth c _ _ 0 0 Q (F0 m 40 ls [.int (iI z_37)])
          replace p0_37 : 0 ≤ z_37 ∧ z_37 ≤ 255 := p0_37
          replace p1_37 : y9_3 < (v 3) → z_37 = B y9_3 := p1_37
          replace p2_37 : (v 3) ≤ y9_3 → z_37 = 0 := p2_37
          refine lv_bipush (v := iI 32) hx hb dX11_next_40 (by decide) ?_
          refine gi_cne (tgt := 58) hx hb dX11_next_42 (by decide) (by omega) (by decide) (fun c_38 => ?_) (fun c_38 => ?_)
          · have hA : run bW B (v 3) (v 10) = y9_3 := runW_eq (by omega) hI (by omega)
            refine lv_aload_n hx hb dX11_next_58 rfl (lv_at hl 0 rfl) ?_
            refine lv_aload_n hx hb dX11_next_59 rfl (lv_at hl 0 rfl) ?_
            refine mdG_at C hP mF_X11_158 dX11_next_60 ?_
            show W p l e (gRm 1 21) s m args below meth c _ _ 0 0 Q (F0 m 63 ls [.int (iI y9_3), .ref (ad 0)])
            refine mdP_behind (v1 := (va_up (va_up (va_up (va_up v 8 (v 8)) 9 y9_3) 10 y9_3) 11 (v 11))) C hP hD hS mF_X11_155 (by omega) rfl (Or.inr (gR_up (V := mdV) (F := mdF) (gR_up (V := mdV) (F := mdF) (gR_up (V := mdV) (F := mdF) (gR_up (V := mdV) (F := mdF) ⟨hok.1, hok.2⟩ 8 (hP.2.1 8)) 9 (hP.2.1 9)) 10 (show 0 ≤ y9_3 ∧ y9_3 ≤ 700 from by omega)) 11 (hP.2.1 11))) dX11_next_63 (fun H locs hP hS => ?_)
            refine lv_aload_n hx hb dX11_next_66 rfl (lv_at hl 0 rfl) ?_
            refine mdG_at C hP mF_X11_158 dX11_next_67 ?_
            show W p l e (gRm 1 21) s m args below meth c _ _ 0 0 Q (F0 m 70 ls [.int (iI y9_3)])
            refine lv_aload_n hx hb dX11_next_70 rfl (lv_at hl 0 rfl) ?_
            refine mdG_end C hP mF_X11_152 dX11_next_71 ?_
            show W p l e (gRm 1 21) s m args below meth c _ _ 0 0 Q (F0 m 74 ls [.int (iI (v 3)), .int (iI y9_3)])
            refine gi_clt (tgt := 83) hx hb dX11_next_74 (by decide) (by omega) (by omega) (fun c_39 => ?_) (fun c_39 => ?_)
            · refine lv_aload_n hx hb dX11_next_83 rfl (lv_at hl 0 rfl) ?_
              refine lv_aload_n hx hb dX11_next_84 rfl (lv_at hl 0 rfl) ?_
              refine mdG_at C hP mF_X11_158 dX11_next_85 ?_
              show W p l e (gRm 1 21) s m args below meth c _ _ 0 0 Q (F0 m 88 ls [.int (iI y9_3), .ref (ad 0)])
              refine g_cv (As := [.int (iI y9_3)]) (rest := []) (n := 1) C hml (n_look l D k A ad hD (va_up (va_up (va_up (va_up v 8 (v 8)) 9 y9_3) 10 y9_3) 11 (v 11)) f (va_up g 0 (g 0)) y9_3 B (by omega) (show ∀ k, (f 0) k % 256 = B k from hB) (show 0 ≤ y9_3 from by omega)) mM_X11_161 mI_X11_look mE_X11_look mN_X11 mC_X11_look (by decide +kernel) 0 (ci := 11) rfl rfl hP hS (fun _ h => h) ⟨Nat.le_of_ble_eq_true rfl, Nat.le_of_ble_eq_true rfl⟩ ⟨Nat.zero_le _, Nat.zero_le _⟩ hl.1 rfl rfl (Nat.le_of_ble_eq_true rfl) dX11_next_88 (fun r_40 v_40 f_40 g_40 H locs hq_40 hP _ hS => ?_)
              obtain ⟨z_40, rfl, rfl, rfl, rfl, p0_40, p1_40, p2_40⟩ := hq_40
              show W p l e (gRm 1 21) s m args below meth c _ _ 0 0 Q (F0 m 91 ls [.int (iI z_40)])
              replace p0_40 : 0 ≤ z_40 ∧ z_40 ≤ 255 := p0_40
              replace p1_40 : y9_3 < (v 3) → z_40 = B y9_3 := p1_40
              replace p2_40 : (v 3) ≤ y9_3 → z_40 = 0 := p2_40
              refine lv_istore_n (lv' := [(1, .int (iI z_40)), (0, .ref (ad 0))]) hx hb dX11_next_91 rfl hl (by decide) rfl (fun ls hl => ?_)
              refine lv_iload_n hx hb dX11_next_92 rfl (lv_at hl 0 rfl) ?_
              refine g_cs (As := [.int (iI z_40)]) (rest := []) (n := 1) C hml (n_isLetter l D k A ad hD (va_up (va_up (va_up (va_up v 8 (v 8)) 9 y9_3) 10 y9_3) 11 (v 11)) f (va_up g 0 (g 0)) z_40 (by omega)) mM_X11_168 mS_X11_isLetter mN_X11 mC_X11_isLetter (by decide +kernel) hP hS (fun _ h => h) ⟨Nat.le_of_ble_eq_true rfl, Nat.le_of_ble_eq_true rfl⟩ ⟨Nat.zero_le _, Nat.zero_le _⟩ hl.1 rfl rfl (Nat.le_of_ble_eq_true rfl) dX11_next_93 (fun r_41 v_41 f_41 g_41 H locs hq_41 hP _ hS => ?_)
              obtain ⟨z_41, rfl, rfl, rfl, rfl, p0_41⟩ := hq_41
              show W p l e (gRm 1 21) s m args below meth c _ _ 0 0 Q (F0 m 96 ls [.int (iI z_41)])
              replace p0_41 : z_41 = (if 97 ≤ z_40 ∧ z_40 ≤ 122 then 1 else 0) := p0_41
              have w_41 := gif (P := 97 ≤ z_40 ∧ z_40 ≤ 122) p0_41
              have hz_41 : inR z_41 := (by first | omega | (rw [p0_41]; split <;> omega))
              refine gi_zeq (tgt := 182) hx hb dX11_next_96 (by decide) (by omega) (fun c_42 => ?_) (fun c_42 => ?_)
              · have v_41 := w_41.elim (fun q => absurd (q.1.symm.trans c_42) (by decide)) (fun q => q.2)
                clear w_41 p0_41
                refine lv_iload_n hx hb dX11_next_182 rfl (lv_at hl 0 rfl) ?_
                refine g_cs (As := [.int (iI z_40)]) (rest := []) (n := 1) C hml (n_isDigit l D k A ad hD (va_up (va_up (va_up (va_up v 8 (v 8)) 9 y9_3) 10 y9_3) 11 (v 11)) f (va_up g 0 (g 0)) z_40 (by omega)) mM_X11_182 mS_X11_isDigit mN_X11 mC_X11_isDigit (by decide +kernel) hP hS (fun _ h => h) ⟨Nat.le_of_ble_eq_true rfl, Nat.le_of_ble_eq_true rfl⟩ ⟨Nat.zero_le _, Nat.zero_le _⟩ hl.1 rfl rfl (Nat.le_of_ble_eq_true rfl) dX11_next_183 (fun r_43 v_43 f_43 g_43 H locs hq_43 hP _ hS => ?_)
                obtain ⟨z_43, rfl, rfl, rfl, rfl, p0_43⟩ := hq_43
                show W p l e (gRm 1 21) s m args below meth c _ _ 0 0 Q (F0 m 186 ls [.int (iI z_43)])
                replace p0_43 : z_43 = (if 48 ≤ z_40 ∧ z_40 ≤ 57 then 1 else 0) := p0_43
                have w_43 := gif (P := 48 ≤ z_40 ∧ z_40 ≤ 57) p0_43
                have hz_43 : inR z_43 := (by first | omega | (rw [p0_43]; split <;> omega))
                refine gi_zeq (tgt := 284) hx hb dX11_next_186 (by decide) (by omega) (fun c_44 => ?_) (fun c_44 => ?_)
                · have v_43 := w_43.elim (fun q => absurd (q.1.symm.trans c_44) (by decide)) (fun q => q.2)
                  clear w_43 p0_43
                  refine lv_aload_n hx hb dX11_next_284 rfl (lv_at hl 1 rfl) ?_
                  refine lv_aload_n hx hb dX11_next_285 rfl (lv_at hl 1 rfl) ?_
                  refine mdG_at C hP mF_X11_158 dX11_next_286 ?_
                  show W p l e (gRm 1 21) s m args below meth c _ _ 0 0 Q (F0 m 289 ls [.int (iI y9_3), .ref (ad 0)])
                  refine lv_iconst (v := iI 1) hx hb dX11_next_289 rfl ?_
                  refine gi_add (z := (y9_3 + 1)) hx hb dX11_next_290 rfl ?_
                  refine mdP_behind (v1 := (va_up (va_up (va_up (va_up v 8 (v 8)) 9 y9_3) 10 (y9_3 + 1)) 11 (v 11))) C hP hD hS mF_X11_155 (by omega) rfl (Or.inr (gR_up (V := mdV) (F := mdF) (gR_up (V := mdV) (F := mdF) (gR_up (V := mdV) (F := mdF) (gR_up (V := mdV) (F := mdF) ⟨hok.1, hok.2⟩ 8 (hP.2.1 8)) 9 (hP.2.1 9)) 10 (show 0 ≤ (y9_3 + 1) ∧ (y9_3 + 1) ≤ 700 from by omega)) 11 (hP.2.1 11))) dX11_next_291 (fun H locs hP hS => ?_)
                  refine lv_aload_n hx hb dX11_next_294 rfl (lv_at hl 1 rfl) ?_
                  refine lv_iload_n hx hb dX11_next_295 rfl (lv_at hl 0 rfl) ?_
                  refine mdP_number (v1 := (va_up (va_up (va_up (va_up v 8 (v 8)) 9 y9_3) 10 (y9_3 + 1)) 11 z_40)) C hP hD hS mF_X11_185 (by omega) rfl (Or.inr (gR_up (V := mdV) (F := mdF) (gR_up (V := mdV) (F := mdF) (gR_up (V := mdV) (F := mdF) (gR_up (V := mdV) (F := mdF) ⟨hok.1, hok.2⟩ 8 (hP.2.1 8)) 9 (hP.2.1 9)) 10 (hP.2.1 10)) 11 (show 0 ≤ z_40 ∧ z_40 ≤ 999999 from by omega))) dX11_next_296 (fun H locs hP hS => ?_)
                  refine lv_aload_n hx hb dX11_next_299 rfl (lv_at hl 1 rfl) ?_
                  refine lv_iload_n hx hb dX11_next_300 rfl (lv_at hl 0 rfl) ?_
                  refine lv_bipush (v := iI 43) hx hb dX11_next_301 (by decide) ?_
                  refine gi_ceq (tgt := 342) hx hb dX11_next_303 (by decide) (by omega) (by decide) (fun c_45 => ?_) (fun c_45 => ?_)
                  · refine lv_iconst (v := iI 3) hx hb dX11_next_342 rfl ?_
                    refine lv_goto (tgt := 347) hx hb dX11_next_343 (by decide) ?_
                    refine mdP_sort (v1 := (va_up (va_up (va_up (va_up v 8 3) 9 y9_3) 10 (y9_3 + 1)) 11 z_40)) C hP hD hS mF_X11_165 (by decide) rfl (Or.inr (gR_up (V := mdV) (F := mdF) (gR_up (V := mdV) (F := mdF) (gR_up (V := mdV) (F := mdF) (gR_up (V := mdV) (F := mdF) ⟨hok.1, hok.2⟩ 8 (show 0 ≤ 3 ∧ 3 ≤ 4 from by decide)) 9 (hP.2.1 9)) 10 (hP.2.1 10)) 11 (hP.2.1 11))) dX11_next_347 (fun H locs hP hS => ?_)
                    exact g_vret hQ C hr hlocks hP hS dX11_next_350 ⟨3, y9_3, (y9_3 + 1), z_40, (g 0), rfl, rfl, rfl, rfl, (by rw [hA]; first | exact ⟨rfl, by omega, by omega, (tE_N (by omega)).symm, tok_end (by omega)⟩ | (have q := tok_word (B := B) (n := (v 3)) (p := y9_3) (y := (y9_3 + 1)) (nu := z_40) (w := (g 0) 0) (by omega) (by omega) (runL_eq (by omega) hL (by omega)) hW; exact ⟨rfl, by omega, by omega, q.2, q.1⟩) | (have q := tok_num (B := B) (n := (v 3)) (p := y9_3) (y := (y9_3 + 1)) (nu := z_40) (w := (g 0) 0) (by omega) (by omega) (runD_eq (by omega) hL (by omega)) hW; first | exact ⟨rfl, by omega, by omega, q.2.2, q.1 (by omega)⟩ | exact ⟨rfl, by omega, by omega, q.2.2, q.2.1 (by omega)⟩) | (have q := tok_sign (B := B) (n := (v 3)) (p := y9_3) (nu := z_40) (w := (g 0) 0) (by omega) (by omega) (by omega); exact ⟨rfl, by omega, by omega, q.2, q.1⟩) | (have q := tok_bad (B := B) (n := (v 3)) (p := y9_3) (nu := z_40) (w := (g 0) 0) (by omega) (by omega) (by omega) (by omega); exact ⟨rfl, by omega, by omega, q.2, q.1⟩))⟩
                  · refine lv_iload_n hx hb dX11_next_306 rfl (lv_at hl 0 rfl) ?_
                    refine lv_bipush (v := iI 45) hx hb dX11_next_307 (by decide) ?_
                    refine gi_ceq (tgt := 342) hx hb dX11_next_309 (by decide) (by omega) (by decide) (fun c_46 => ?_) (fun c_46 => ?_)
                    · refine lv_iconst (v := iI 3) hx hb dX11_next_342 rfl ?_
                      refine lv_goto (tgt := 347) hx hb dX11_next_343 (by decide) ?_
                      refine mdP_sort (v1 := (va_up (va_up (va_up (va_up v 8 3) 9 y9_3) 10 (y9_3 + 1)) 11 z_40)) C hP hD hS mF_X11_165 (by decide) rfl (Or.inr (gR_up (V := mdV) (F := mdF) (gR_up (V := mdV) (F := mdF) (gR_up (V := mdV) (F := mdF) (gR_up (V := mdV) (F := mdF) ⟨hok.1, hok.2⟩ 8 (show 0 ≤ 3 ∧ 3 ≤ 4 from by decide)) 9 (hP.2.1 9)) 10 (hP.2.1 10)) 11 (hP.2.1 11))) dX11_next_347 (fun H locs hP hS => ?_)
                      exact g_vret hQ C hr hlocks hP hS dX11_next_350 ⟨3, y9_3, (y9_3 + 1), z_40, (g 0), rfl, rfl, rfl, rfl, (by rw [hA]; first | exact ⟨rfl, by omega, by omega, (tE_N (by omega)).symm, tok_end (by omega)⟩ | (have q := tok_word (B := B) (n := (v 3)) (p := y9_3) (y := (y9_3 + 1)) (nu := z_40) (w := (g 0) 0) (by omega) (by omega) (runL_eq (by omega) hL (by omega)) hW; exact ⟨rfl, by omega, by omega, q.2, q.1⟩) | (have q := tok_num (B := B) (n := (v 3)) (p := y9_3) (y := (y9_3 + 1)) (nu := z_40) (w := (g 0) 0) (by omega) (by omega) (runD_eq (by omega) hL (by omega)) hW; first | exact ⟨rfl, by omega, by omega, q.2.2, q.1 (by omega)⟩ | exact ⟨rfl, by omega, by omega, q.2.2, q.2.1 (by omega)⟩) | (have q := tok_sign (B := B) (n := (v 3)) (p := y9_3) (nu := z_40) (w := (g 0) 0) (by omega) (by omega) (by omega); exact ⟨rfl, by omega, by omega, q.2, q.1⟩) | (have q := tok_bad (B := B) (n := (v 3)) (p := y9_3) (nu := z_40) (w := (g 0) 0) (by omega) (by omega) (by omega) (by omega); exact ⟨rfl, by omega, by omega, q.2, q.1⟩))⟩
                    · refine lv_iload_n hx hb dX11_next_312 rfl (lv_at hl 0 rfl) ?_
                      refine lv_bipush (v := iI 42) hx hb dX11_next_313 (by decide) ?_
                      refine gi_ceq (tgt := 342) hx hb dX11_next_315 (by decide) (by omega) (by decide) (fun c_47 => ?_) (fun c_47 => ?_)
                      · refine lv_iconst (v := iI 3) hx hb dX11_next_342 rfl ?_
                        refine lv_goto (tgt := 347) hx hb dX11_next_343 (by decide) ?_
                        refine mdP_sort (v1 := (va_up (va_up (va_up (va_up v 8 3) 9 y9_3) 10 (y9_3 + 1)) 11 z_40)) C hP hD hS mF_X11_165 (by decide) rfl (Or.inr (gR_up (V := mdV) (F := mdF) (gR_up (V := mdV) (F := mdF) (gR_up (V := mdV) (F := mdF) (gR_up (V := mdV) (F := mdF) ⟨hok.1, hok.2⟩ 8 (show 0 ≤ 3 ∧ 3 ≤ 4 from by decide)) 9 (hP.2.1 9)) 10 (hP.2.1 10)) 11 (hP.2.1 11))) dX11_next_347 (fun H locs hP hS => ?_)
                        exact g_vret hQ C hr hlocks hP hS dX11_next_350 ⟨3, y9_3, (y9_3 + 1), z_40, (g 0), rfl, rfl, rfl, rfl, (by rw [hA]; first | exact ⟨rfl, by omega, by omega, (tE_N (by omega)).symm, tok_end (by omega)⟩ | (have q := tok_word (B := B) (n := (v 3)) (p := y9_3) (y := (y9_3 + 1)) (nu := z_40) (w := (g 0) 0) (by omega) (by omega) (runL_eq (by omega) hL (by omega)) hW; exact ⟨rfl, by omega, by omega, q.2, q.1⟩) | (have q := tok_num (B := B) (n := (v 3)) (p := y9_3) (y := (y9_3 + 1)) (nu := z_40) (w := (g 0) 0) (by omega) (by omega) (runD_eq (by omega) hL (by omega)) hW; first | exact ⟨rfl, by omega, by omega, q.2.2, q.1 (by omega)⟩ | exact ⟨rfl, by omega, by omega, q.2.2, q.2.1 (by omega)⟩) | (have q := tok_sign (B := B) (n := (v 3)) (p := y9_3) (nu := z_40) (w := (g 0) 0) (by omega) (by omega) (by omega); exact ⟨rfl, by omega, by omega, q.2, q.1⟩) | (have q := tok_bad (B := B) (n := (v 3)) (p := y9_3) (nu := z_40) (w := (g 0) 0) (by omega) (by omega) (by omega) (by omega); exact ⟨rfl, by omega, by omega, q.2, q.1⟩))⟩
                      · refine lv_iload_n hx hb dX11_next_318 rfl (lv_at hl 0 rfl) ?_
                        refine lv_bipush (v := iI 40) hx hb dX11_next_319 (by decide) ?_
                        refine gi_ceq (tgt := 342) hx hb dX11_next_321 (by decide) (by omega) (by decide) (fun c_48 => ?_) (fun c_48 => ?_)
                        · refine lv_iconst (v := iI 3) hx hb dX11_next_342 rfl ?_
                          refine lv_goto (tgt := 347) hx hb dX11_next_343 (by decide) ?_
                          refine mdP_sort (v1 := (va_up (va_up (va_up (va_up v 8 3) 9 y9_3) 10 (y9_3 + 1)) 11 z_40)) C hP hD hS mF_X11_165 (by decide) rfl (Or.inr (gR_up (V := mdV) (F := mdF) (gR_up (V := mdV) (F := mdF) (gR_up (V := mdV) (F := mdF) (gR_up (V := mdV) (F := mdF) ⟨hok.1, hok.2⟩ 8 (show 0 ≤ 3 ∧ 3 ≤ 4 from by decide)) 9 (hP.2.1 9)) 10 (hP.2.1 10)) 11 (hP.2.1 11))) dX11_next_347 (fun H locs hP hS => ?_)
                          exact g_vret hQ C hr hlocks hP hS dX11_next_350 ⟨3, y9_3, (y9_3 + 1), z_40, (g 0), rfl, rfl, rfl, rfl, (by rw [hA]; first | exact ⟨rfl, by omega, by omega, (tE_N (by omega)).symm, tok_end (by omega)⟩ | (have q := tok_word (B := B) (n := (v 3)) (p := y9_3) (y := (y9_3 + 1)) (nu := z_40) (w := (g 0) 0) (by omega) (by omega) (runL_eq (by omega) hL (by omega)) hW; exact ⟨rfl, by omega, by omega, q.2, q.1⟩) | (have q := tok_num (B := B) (n := (v 3)) (p := y9_3) (y := (y9_3 + 1)) (nu := z_40) (w := (g 0) 0) (by omega) (by omega) (runD_eq (by omega) hL (by omega)) hW; first | exact ⟨rfl, by omega, by omega, q.2.2, q.1 (by omega)⟩ | exact ⟨rfl, by omega, by omega, q.2.2, q.2.1 (by omega)⟩) | (have q := tok_sign (B := B) (n := (v 3)) (p := y9_3) (nu := z_40) (w := (g 0) 0) (by omega) (by omega) (by omega); exact ⟨rfl, by omega, by omega, q.2, q.1⟩) | (have q := tok_bad (B := B) (n := (v 3)) (p := y9_3) (nu := z_40) (w := (g 0) 0) (by omega) (by omega) (by omega) (by omega); exact ⟨rfl, by omega, by omega, q.2, q.1⟩))⟩
                        · refine lv_iload_n hx hb dX11_next_324 rfl (lv_at hl 0 rfl) ?_
                          refine lv_bipush (v := iI 41) hx hb dX11_next_325 (by decide) ?_
                          refine gi_ceq (tgt := 342) hx hb dX11_next_327 (by decide) (by omega) (by decide) (fun c_49 => ?_) (fun c_49 => ?_)
                          · refine lv_iconst (v := iI 3) hx hb dX11_next_342 rfl ?_
                            refine lv_goto (tgt := 347) hx hb dX11_next_343 (by decide) ?_
                            refine mdP_sort (v1 := (va_up (va_up (va_up (va_up v 8 3) 9 y9_3) 10 (y9_3 + 1)) 11 z_40)) C hP hD hS mF_X11_165 (by decide) rfl (Or.inr (gR_up (V := mdV) (F := mdF) (gR_up (V := mdV) (F := mdF) (gR_up (V := mdV) (F := mdF) (gR_up (V := mdV) (F := mdF) ⟨hok.1, hok.2⟩ 8 (show 0 ≤ 3 ∧ 3 ≤ 4 from by decide)) 9 (hP.2.1 9)) 10 (hP.2.1 10)) 11 (hP.2.1 11))) dX11_next_347 (fun H locs hP hS => ?_)
                            exact g_vret hQ C hr hlocks hP hS dX11_next_350 ⟨3, y9_3, (y9_3 + 1), z_40, (g 0), rfl, rfl, rfl, rfl, (by rw [hA]; first | exact ⟨rfl, by omega, by omega, (tE_N (by omega)).symm, tok_end (by omega)⟩ | (have q := tok_word (B := B) (n := (v 3)) (p := y9_3) (y := (y9_3 + 1)) (nu := z_40) (w := (g 0) 0) (by omega) (by omega) (runL_eq (by omega) hL (by omega)) hW; exact ⟨rfl, by omega, by omega, q.2, q.1⟩) | (have q := tok_num (B := B) (n := (v 3)) (p := y9_3) (y := (y9_3 + 1)) (nu := z_40) (w := (g 0) 0) (by omega) (by omega) (runD_eq (by omega) hL (by omega)) hW; first | exact ⟨rfl, by omega, by omega, q.2.2, q.1 (by omega)⟩ | exact ⟨rfl, by omega, by omega, q.2.2, q.2.1 (by omega)⟩) | (have q := tok_sign (B := B) (n := (v 3)) (p := y9_3) (nu := z_40) (w := (g 0) 0) (by omega) (by omega) (by omega); exact ⟨rfl, by omega, by omega, q.2, q.1⟩) | (have q := tok_bad (B := B) (n := (v 3)) (p := y9_3) (nu := z_40) (w := (g 0) 0) (by omega) (by omega) (by omega) (by omega); exact ⟨rfl, by omega, by omega, q.2, q.1⟩))⟩
                          · refine lv_iload_n hx hb dX11_next_330 rfl (lv_at hl 0 rfl) ?_
                            refine lv_bipush (v := iI 44) hx hb dX11_next_331 (by decide) ?_
                            refine gi_ceq (tgt := 342) hx hb dX11_next_333 (by decide) (by omega) (by decide) (fun c_50 => ?_) (fun c_50 => ?_)
                            · refine lv_iconst (v := iI 3) hx hb dX11_next_342 rfl ?_
                              refine lv_goto (tgt := 347) hx hb dX11_next_343 (by decide) ?_
                              refine mdP_sort (v1 := (va_up (va_up (va_up (va_up v 8 3) 9 y9_3) 10 (y9_3 + 1)) 11 z_40)) C hP hD hS mF_X11_165 (by decide) rfl (Or.inr (gR_up (V := mdV) (F := mdF) (gR_up (V := mdV) (F := mdF) (gR_up (V := mdV) (F := mdF) (gR_up (V := mdV) (F := mdF) ⟨hok.1, hok.2⟩ 8 (show 0 ≤ 3 ∧ 3 ≤ 4 from by decide)) 9 (hP.2.1 9)) 10 (hP.2.1 10)) 11 (hP.2.1 11))) dX11_next_347 (fun H locs hP hS => ?_)
                              exact g_vret hQ C hr hlocks hP hS dX11_next_350 ⟨3, y9_3, (y9_3 + 1), z_40, (g 0), rfl, rfl, rfl, rfl, (by rw [hA]; first | exact ⟨rfl, by omega, by omega, (tE_N (by omega)).symm, tok_end (by omega)⟩ | (have q := tok_word (B := B) (n := (v 3)) (p := y9_3) (y := (y9_3 + 1)) (nu := z_40) (w := (g 0) 0) (by omega) (by omega) (runL_eq (by omega) hL (by omega)) hW; exact ⟨rfl, by omega, by omega, q.2, q.1⟩) | (have q := tok_num (B := B) (n := (v 3)) (p := y9_3) (y := (y9_3 + 1)) (nu := z_40) (w := (g 0) 0) (by omega) (by omega) (runD_eq (by omega) hL (by omega)) hW; first | exact ⟨rfl, by omega, by omega, q.2.2, q.1 (by omega)⟩ | exact ⟨rfl, by omega, by omega, q.2.2, q.2.1 (by omega)⟩) | (have q := tok_sign (B := B) (n := (v 3)) (p := y9_3) (nu := z_40) (w := (g 0) 0) (by omega) (by omega) (by omega); exact ⟨rfl, by omega, by omega, q.2, q.1⟩) | (have q := tok_bad (B := B) (n := (v 3)) (p := y9_3) (nu := z_40) (w := (g 0) 0) (by omega) (by omega) (by omega) (by omega); exact ⟨rfl, by omega, by omega, q.2, q.1⟩))⟩
                            · refine lv_iload_n hx hb dX11_next_336 rfl (lv_at hl 0 rfl) ?_
                              refine lv_bipush (v := iI 59) hx hb dX11_next_337 (by decide) ?_
                              refine gi_cne (tgt := 346) hx hb dX11_next_339 (by decide) (by omega) (by decide) (fun c_51 => ?_) (fun c_51 => ?_)
                              · refine lv_iconst (v := iI 4) hx hb dX11_next_346 rfl ?_
                                refine mdP_sort (v1 := (va_up (va_up (va_up (va_up v 8 4) 9 y9_3) 10 (y9_3 + 1)) 11 z_40)) C hP hD hS mF_X11_165 (by decide) rfl (Or.inr (gR_up (V := mdV) (F := mdF) (gR_up (V := mdV) (F := mdF) (gR_up (V := mdV) (F := mdF) (gR_up (V := mdV) (F := mdF) ⟨hok.1, hok.2⟩ 8 (show 0 ≤ 4 ∧ 4 ≤ 4 from by decide)) 9 (hP.2.1 9)) 10 (hP.2.1 10)) 11 (hP.2.1 11))) dX11_next_347 (fun H locs hP hS => ?_)
                                exact g_vret hQ C hr hlocks hP hS dX11_next_350 ⟨4, y9_3, (y9_3 + 1), z_40, (g 0), rfl, rfl, rfl, rfl, (by rw [hA]; first | exact ⟨rfl, by omega, by omega, (tE_N (by omega)).symm, tok_end (by omega)⟩ | (have q := tok_word (B := B) (n := (v 3)) (p := y9_3) (y := (y9_3 + 1)) (nu := z_40) (w := (g 0) 0) (by omega) (by omega) (runL_eq (by omega) hL (by omega)) hW; exact ⟨rfl, by omega, by omega, q.2, q.1⟩) | (have q := tok_num (B := B) (n := (v 3)) (p := y9_3) (y := (y9_3 + 1)) (nu := z_40) (w := (g 0) 0) (by omega) (by omega) (runD_eq (by omega) hL (by omega)) hW; first | exact ⟨rfl, by omega, by omega, q.2.2, q.1 (by omega)⟩ | exact ⟨rfl, by omega, by omega, q.2.2, q.2.1 (by omega)⟩) | (have q := tok_sign (B := B) (n := (v 3)) (p := y9_3) (nu := z_40) (w := (g 0) 0) (by omega) (by omega) (by omega); exact ⟨rfl, by omega, by omega, q.2, q.1⟩) | (have q := tok_bad (B := B) (n := (v 3)) (p := y9_3) (nu := z_40) (w := (g 0) 0) (by omega) (by omega) (by omega) (by omega); exact ⟨rfl, by omega, by omega, q.2, q.1⟩))⟩
                              · refine lv_iconst (v := iI 3) hx hb dX11_next_342 rfl ?_
                                refine lv_goto (tgt := 347) hx hb dX11_next_343 (by decide) ?_
                                refine mdP_sort (v1 := (va_up (va_up (va_up (va_up v 8 3) 9 y9_3) 10 (y9_3 + 1)) 11 z_40)) C hP hD hS mF_X11_165 (by decide) rfl (Or.inr (gR_up (V := mdV) (F := mdF) (gR_up (V := mdV) (F := mdF) (gR_up (V := mdV) (F := mdF) (gR_up (V := mdV) (F := mdF) ⟨hok.1, hok.2⟩ 8 (show 0 ≤ 3 ∧ 3 ≤ 4 from by decide)) 9 (hP.2.1 9)) 10 (hP.2.1 10)) 11 (hP.2.1 11))) dX11_next_347 (fun H locs hP hS => ?_)
                                exact g_vret hQ C hr hlocks hP hS dX11_next_350 ⟨3, y9_3, (y9_3 + 1), z_40, (g 0), rfl, rfl, rfl, rfl, (by rw [hA]; first | exact ⟨rfl, by omega, by omega, (tE_N (by omega)).symm, tok_end (by omega)⟩ | (have q := tok_word (B := B) (n := (v 3)) (p := y9_3) (y := (y9_3 + 1)) (nu := z_40) (w := (g 0) 0) (by omega) (by omega) (runL_eq (by omega) hL (by omega)) hW; exact ⟨rfl, by omega, by omega, q.2, q.1⟩) | (have q := tok_num (B := B) (n := (v 3)) (p := y9_3) (y := (y9_3 + 1)) (nu := z_40) (w := (g 0) 0) (by omega) (by omega) (runD_eq (by omega) hL (by omega)) hW; first | exact ⟨rfl, by omega, by omega, q.2.2, q.1 (by omega)⟩ | exact ⟨rfl, by omega, by omega, q.2.2, q.2.1 (by omega)⟩) | (have q := tok_sign (B := B) (n := (v 3)) (p := y9_3) (nu := z_40) (w := (g 0) 0) (by omega) (by omega) (by omega); exact ⟨rfl, by omega, by omega, q.2, q.1⟩) | (have q := tok_bad (B := B) (n := (v 3)) (p := y9_3) (nu := z_40) (w := (g 0) 0) (by omega) (by omega) (by omega) (by omega); exact ⟨rfl, by omega, by omega, q.2, q.1⟩))⟩
                · have v_43 := w_43.elim (fun q => q.2) (fun q => absurd q.1 c_44)
                  clear w_43 p0_43
                  refine lv_aload_n hx hb dX11_next_189 rfl (lv_at hl 1 rfl) ?_
                  refine lv_iconst (v := iI 0) hx hb dX11_next_190 rfl ?_
                  refine mdP_number (v1 := (va_up (va_up (va_up (va_up v 8 (v 8)) 9 y9_3) 10 y9_3) 11 0)) C hP hD hS mF_X11_185 (by decide) rfl (Or.inr (gR_up (V := mdV) (F := mdF) (gR_up (V := mdV) (F := mdF) (gR_up (V := mdV) (F := mdF) (gR_up (V := mdV) (F := mdF) ⟨hok.1, hok.2⟩ 8 (hP.2.1 8)) 9 (hP.2.1 9)) 10 (hP.2.1 10)) 11 (show 0 ≤ 0 ∧ 0 ≤ 999999 from by decide))) dX11_next_191 (fun H locs hP hS => ?_)
                  have L_52 : ∀ (n : Nat) (y10_52 : Int) (y11_52 : Int) (H : Heap) (locs : List Loc) (ls : Array Slot), (v 3) - y10_52 < (n : Int) → (y9_3 ≤ y10_52 ∧ y10_52 ≤ (v 3)) → (∀ j, y9_3 ≤ j → j < y10_52 → j < (v 3) ∧ pD (B j)) → (y11_52 = nV B y9_3 (y10_52 - y9_3).toNat) → gWd D (mdT k ad) (va_up (va_up (va_up (va_up v 8 (v 8)) 9 y9_3) 10 y10_52) 11 y11_52) f (va_up g 0 (g 0)) H → va_S A s.heap H locs → lv_has ls 2 [(0, .ref (ad 0)), (1, .int (iI z_40))] → W p l e (gRm 1 21) s m args below meth c H locs 0 0 Q (F0 m 194 ls []) := by
                    intro n
                    induction n with
                    | zero =>
                      intro y10_52 y11_52 H locs ls hn_52 i52_0 i52_1 i52_2 hP hS hl
                      have ry10_52 : 0 ≤ y10_52 ∧ y10_52 ≤ 700 := hP.2.1 10
                      have ry11_52 : 0 ≤ y11_52 ∧ y11_52 ≤ 999999 := hP.2.1 11
                      exfalso; omega
                    | succ n ih_194 =>
                      intro y10_52 y11_52 H locs ls hn_52 i52_0 i52_1 i52_2 hP hS hl
                      have ry10_52 : 0 ≤ y10_52 ∧ y10_52 ≤ 700 := hP.2.1 10
                      have ry11_52 : 0 ≤ y11_52 ∧ y11_52 ≤ 999999 := hP.2.1 11
                      have hL := i52_1
                      have hW := i52_2
                      have hR := nV_rng (B := B) (q := y9_3) (y10_52 - y9_3).toNat (runD_mem (fun j b1 b2 => (hL j b1 b2).2) (by omega))
                      refine lv_aload_n hx hb dX11_next_194 rfl (lv_at hl 0 rfl) ?_
                      refine lv_aload_n hx hb dX11_next_195 rfl (lv_at hl 0 rfl) ?_
                      refine mdG_behind C hP mF_X11_155 dX11_next_196 ?_
                      show W p l e (gRm 1 21) s m args below meth c _ _ 0 0 Q (F0 m 199 ls [.int (iI y10_52), .ref (ad 0)])
                      have r_53 : 0 ≤ y10_52 ∧ y10_52 ≤ 700 := hP.2.1 10
                      refine g_cv (As := [.int (iI y10_52)]) (rest := []) (n := 1) C hml (n_look l D k A ad hD (va_up (va_up (va_up (va_up v 8 (v 8)) 9 y9_3) 10 y10_52) 11 y11_52) f (va_up g 0 (g 0)) y10_52 B (by omega) (show ∀ k, (f 0) k % 256 = B k from hB) (show 0 ≤ y10_52 from by omega)) mM_X11_161 mI_X11_look mE_X11_look mN_X11 mC_X11_look (by decide +kernel) 0 (ci := 11) rfl rfl hP hS (fun _ h => h) ⟨Nat.le_of_ble_eq_true rfl, Nat.le_of_ble_eq_true rfl⟩ ⟨Nat.zero_le _, Nat.zero_le _⟩ hl.1 rfl rfl (Nat.le_of_ble_eq_true rfl) dX11_next_199 (fun r_54 v_54 f_54 g_54 H locs hq_54 hP _ hS => ?_)
                      obtain ⟨z_54, rfl, rfl, rfl, rfl, p0_54, p1_54, p2_54⟩ := hq_54
                      show W p l e (gRm 1 21) s m args below meth c _ _ 0 0 Q (F0 m 202 ls [.int (iI z_54)])
                      replace p0_54 : 0 ≤ z_54 ∧ z_54 ≤ 255 := p0_54
                      replace p1_54 : y10_52 < (v 3) → z_54 = B y10_52 := p1_54
                      replace p2_54 : (v 3) ≤ y10_52 → z_54 = 0 := p2_54
                      refine g_cs (As := [.int (iI z_54)]) (rest := []) (n := 1) C hml (n_isDigit l D k A ad hD (va_up (va_up (va_up (va_up v 8 (v 8)) 9 y9_3) 10 y10_52) 11 y11_52) f (va_up g 0 (g 0)) z_54 (by omega)) mM_X11_182 mS_X11_isDigit mN_X11 mC_X11_isDigit (by decide +kernel) hP hS (fun _ h => h) ⟨Nat.le_of_ble_eq_true rfl, Nat.le_of_ble_eq_true rfl⟩ ⟨Nat.zero_le _, Nat.zero_le _⟩ hl.1 rfl rfl (Nat.le_of_ble_eq_true rfl) dX11_next_202 (fun r_55 v_55 f_55 g_55 H locs hq_55 hP _ hS => ?_)
                      obtain ⟨z_55, rfl, rfl, rfl, rfl, p0_55⟩ := hq_55
                      show W p l e (gRm 1 21) s m args below meth c _ _ 0 0 Q (F0 m 205 ls [.int (iI z_55)])
                      replace p0_55 : z_55 = (if 48 ≤ z_54 ∧ z_54 ≤ 57 then 1 else 0) := p0_55
                      have w_55 := gif (P := 48 ≤ z_54 ∧ z_54 ≤ 57) p0_55
                      have hz_55 : inR z_55 := (by first | omega | (rw [p0_55]; split <;> omega))
                      refine gi_zeq (tgt := 258) hx hb dX11_next_205 (by decide) (by omega) (fun c_56 => ?_) (fun c_56 => ?_)
                      · have v_55 := w_55.elim (fun q => absurd (q.1.symm.trans c_56) (by decide)) (fun q => q.2)
                        clear w_55 p0_55
                        refine lv_aload_n hx hb dX11_next_258 rfl (lv_at hl 0 rfl) ?_
                        refine lv_aload_n hx hb dX11_next_259 rfl (lv_at hl 0 rfl) ?_
                        refine mdG_behind C hP mF_X11_155 dX11_next_260 ?_
                        show W p l e (gRm 1 21) s m args below meth c _ _ 0 0 Q (F0 m 263 ls [.int (iI y10_52), .ref (ad 0)])
                        refine lv_aload_n hx hb dX11_next_263 rfl (lv_at hl 0 rfl) ?_
                        refine mdG_at C hP mF_X11_158 dX11_next_264 ?_
                        show W p l e (gRm 1 21) s m args below meth c _ _ 0 0 Q (F0 m 267 ls [.int (iI y9_3), .int (iI y10_52), .ref (ad 0)])
                        refine gi_sub (z := (y10_52 - y9_3)) hx hb dX11_next_267 rfl ?_
                        refine lv_bipush (v := iI 6) hx hb dX11_next_268 (by decide) ?_
                        refine gi_cle (tgt := 277) hx hb dX11_next_270 (by decide) (by omega) (by decide) (fun c_57 => ?_) (fun c_57 => ?_)
                        · refine lv_iconst (v := iI 2) hx hb dX11_next_277 rfl ?_
                          refine mdP_sort (v1 := (va_up (va_up (va_up (va_up v 8 2) 9 y9_3) 10 y10_52) 11 y11_52)) C hP hD hS mF_X11_165 (by decide) rfl (Or.inr (gR_up (V := mdV) (F := mdF) (gR_up (V := mdV) (F := mdF) (gR_up (V := mdV) (F := mdF) (gR_up (V := mdV) (F := mdF) ⟨hok.1, hok.2⟩ 8 (show 0 ≤ 2 ∧ 2 ≤ 4 from by decide)) 9 (hP.2.1 9)) 10 (hP.2.1 10)) 11 (hP.2.1 11))) dX11_next_278 (fun H locs hP hS => ?_)
                          refine lv_goto (tgt := 350) hx hb dX11_next_281 (by decide) ?_
                          exact g_vret hQ C hr hlocks hP hS dX11_next_350 ⟨2, y9_3, y10_52, y11_52, (g 0), rfl, rfl, rfl, rfl, (by rw [hA]; first | exact ⟨rfl, by omega, by omega, (tE_N (by omega)).symm, tok_end (by omega)⟩ | (have q := tok_word (B := B) (n := (v 3)) (p := y9_3) (y := y10_52) (nu := y11_52) (w := (g 0) 0) (by omega) (by omega) (runL_eq (by omega) hL (by omega)) hW; exact ⟨rfl, by omega, by omega, q.2, q.1⟩) | (have q := tok_num (B := B) (n := (v 3)) (p := y9_3) (y := y10_52) (nu := y11_52) (w := (g 0) 0) (by omega) (by omega) (runD_eq (by omega) hL (by omega)) hW; first | exact ⟨rfl, by omega, by omega, q.2.2, q.1 (by omega)⟩ | exact ⟨rfl, by omega, by omega, q.2.2, q.2.1 (by omega)⟩) | (have q := tok_sign (B := B) (n := (v 3)) (p := y9_3) (nu := y11_52) (w := (g 0) 0) (by omega) (by omega) (by omega); exact ⟨rfl, by omega, by omega, q.2, q.1⟩) | (have q := tok_bad (B := B) (n := (v 3)) (p := y9_3) (nu := y11_52) (w := (g 0) 0) (by omega) (by omega) (by omega) (by omega); exact ⟨rfl, by omega, by omega, q.2, q.1⟩))⟩
                        · refine lv_iconst (v := iI 4) hx hb dX11_next_273 rfl ?_
                          refine lv_goto (tgt := 278) hx hb dX11_next_274 (by decide) ?_
                          refine mdP_sort (v1 := (va_up (va_up (va_up (va_up v 8 4) 9 y9_3) 10 y10_52) 11 y11_52)) C hP hD hS mF_X11_165 (by decide) rfl (Or.inr (gR_up (V := mdV) (F := mdF) (gR_up (V := mdV) (F := mdF) (gR_up (V := mdV) (F := mdF) (gR_up (V := mdV) (F := mdF) ⟨hok.1, hok.2⟩ 8 (show 0 ≤ 4 ∧ 4 ≤ 4 from by decide)) 9 (hP.2.1 9)) 10 (hP.2.1 10)) 11 (hP.2.1 11))) dX11_next_278 (fun H locs hP hS => ?_)
                          refine lv_goto (tgt := 350) hx hb dX11_next_281 (by decide) ?_
                          exact g_vret hQ C hr hlocks hP hS dX11_next_350 ⟨4, y9_3, y10_52, y11_52, (g 0), rfl, rfl, rfl, rfl, (by rw [hA]; first | exact ⟨rfl, by omega, by omega, (tE_N (by omega)).symm, tok_end (by omega)⟩ | (have q := tok_word (B := B) (n := (v 3)) (p := y9_3) (y := y10_52) (nu := y11_52) (w := (g 0) 0) (by omega) (by omega) (runL_eq (by omega) hL (by omega)) hW; exact ⟨rfl, by omega, by omega, q.2, q.1⟩) | (have q := tok_num (B := B) (n := (v 3)) (p := y9_3) (y := y10_52) (nu := y11_52) (w := (g 0) 0) (by omega) (by omega) (runD_eq (by omega) hL (by omega)) hW; first | exact ⟨rfl, by omega, by omega, q.2.2, q.1 (by omega)⟩ | exact ⟨rfl, by omega, by omega, q.2.2, q.2.1 (by omega)⟩) | (have q := tok_sign (B := B) (n := (v 3)) (p := y9_3) (nu := y11_52) (w := (g 0) 0) (by omega) (by omega) (by omega); exact ⟨rfl, by omega, by omega, q.2, q.1⟩) | (have q := tok_bad (B := B) (n := (v 3)) (p := y9_3) (nu := y11_52) (w := (g 0) 0) (by omega) (by omega) (by omega) (by omega); exact ⟨rfl, by omega, by omega, q.2, q.1⟩))⟩
                      · have v_55 := w_55.elim (fun q => q.2) (fun q => absurd q.1 c_56)
                        clear w_55 p0_55
                        refine lv_aload_n hx hb dX11_next_208 rfl (lv_at hl 0 rfl) ?_
                        refine mdG_behind C hP mF_X11_155 dX11_next_209 ?_
                        show W p l e (gRm 1 21) s m args below meth c _ _ 0 0 Q (F0 m 212 ls [.int (iI y10_52)])
                        refine lv_aload_n hx hb dX11_next_212 rfl (lv_at hl 0 rfl) ?_
                        refine mdG_at C hP mF_X11_158 dX11_next_213 ?_
                        show W p l e (gRm 1 21) s m args below meth c _ _ 0 0 Q (F0 m 216 ls [.int (iI y9_3), .int (iI y10_52)])
                        refine gi_sub (z := (y10_52 - y9_3)) hx hb dX11_next_216 rfl ?_
                        refine lv_bipush (v := iI 6) hx hb dX11_next_217 (by decide) ?_
                        refine gi_cge (tgt := 245) hx hb dX11_next_219 (by decide) (by omega) (by decide) (fun c_58 => ?_) (fun c_58 => ?_)
                        · refine lv_aload_n hx hb dX11_next_245 rfl (lv_at hl 0 rfl) ?_
                          refine lv_dup hx hb dX11_next_246 rfl ?_
                          refine mdG_behind C hP mF_X11_155 dX11_next_247 ?_
                          show W p l e (gRm 1 21) s m args below meth c _ _ 0 0 Q (F0 m 250 ls [.int (iI y10_52), .ref (ad 0)])
                          refine lv_iconst (v := iI 1) hx hb dX11_next_250 rfl ?_
                          refine gi_add (z := (y10_52 + 1)) hx hb dX11_next_251 rfl ?_
                          refine mdP_behind (v1 := (va_up (va_up (va_up (va_up v 8 (v 8)) 9 y9_3) 10 (y10_52 + 1)) 11 y11_52)) C hP hD hS mF_X11_155 (by omega) rfl (Or.inr (gR_up (V := mdV) (F := mdF) (gR_up (V := mdV) (F := mdF) (gR_up (V := mdV) (F := mdF) (gR_up (V := mdV) (F := mdF) ⟨hok.1, hok.2⟩ 8 (hP.2.1 8)) 9 (hP.2.1 9)) 10 (show 0 ≤ (y10_52 + 1) ∧ (y10_52 + 1) ≤ 700 from by omega)) 11 (hP.2.1 11))) dX11_next_252 (fun H locs hP hS => ?_)
                          refine lv_goto (tgt := 194) hx hb dX11_next_255 (by decide) ?_
                          exact ih_194 (y10_52 + 1) y11_52 _ _ _ (by omega) (by omega) (run_snoc hL (by omega) (by omega)) (by rw [nV_up (by omega)]; first | (rw [if_pos (by omega)]; omega) | (rw [if_neg (by omega)]; omega)) hP hS (lv_sub hl [0, 1] rfl)
                        · refine lv_aload_n hx hb dX11_next_222 rfl (lv_at hl 0 rfl) ?_
                          refine lv_bipush (v := iI 10) hx hb dX11_next_223 (by decide) ?_
                          refine lv_aload_n hx hb dX11_next_225 rfl (lv_at hl 0 rfl) ?_
                          refine mdG_number C hP mF_X11_185 dX11_next_226 ?_
                          show W p l e (gRm 1 21) s m args below meth c _ _ 0 0 Q (F0 m 229 ls [.int (iI y11_52), .int (iI 10), .ref (ad 0)])
                          have r_59 : 0 ≤ y11_52 ∧ y11_52 ≤ 999999 := hP.2.1 11
                          refine gi_mul (z := (10 * y11_52)) hx hb dX11_next_229 rfl ?_
                          refine lv_aload_n hx hb dX11_next_230 rfl (lv_at hl 0 rfl) ?_
                          refine lv_aload_n hx hb dX11_next_231 rfl (lv_at hl 0 rfl) ?_
                          refine mdG_behind C hP mF_X11_155 dX11_next_232 ?_
                          show W p l e (gRm 1 21) s m args below meth c _ _ 0 0 Q (F0 m 235 ls [.int (iI y10_52), .ref (ad 0), .int (iI (10 * y11_52)), .ref (ad 0)])
                          refine g_cv (As := [.int (iI y10_52)]) (rest := [.int (iI (10 * y11_52)), .ref (ad 0)]) (n := 1) C hml (n_look l D k A ad hD (va_up (va_up (va_up (va_up v 8 (v 8)) 9 y9_3) 10 y10_52) 11 y11_52) f (va_up g 0 (g 0)) y10_52 B (by omega) (show ∀ k, (f 0) k % 256 = B k from hB) (show 0 ≤ y10_52 from by omega)) mM_X11_161 mI_X11_look mE_X11_look mN_X11 mC_X11_look (by decide +kernel) 0 (ci := 11) rfl rfl hP hS (fun _ h => h) ⟨Nat.le_of_ble_eq_true rfl, Nat.le_of_ble_eq_true rfl⟩ ⟨Nat.zero_le _, Nat.zero_le _⟩ hl.1 rfl rfl (Nat.le_of_ble_eq_true rfl) dX11_next_235 (fun r_60 v_60 f_60 g_60 H locs hq_60 hP _ hS => ?_)
                          obtain ⟨z_60, rfl, rfl, rfl, rfl, p0_60, p1_60, p2_60⟩ := hq_60
                          show W p l e (gRm 1 21) s m args below meth c _ _ 0 0 Q (F0 m 238 ls [.int (iI z_60), .int (iI (10 * y11_52)), .ref (ad 0)])
                          replace p0_60 : 0 ≤ z_60 ∧ z_60 ≤ 255 := p0_60
                          replace p1_60 : y10_52 < (v 3) → z_60 = B y10_52 := p1_60
                          replace p2_60 : (v 3) ≤ y10_52 → z_60 = 0 := p2_60
                          refine gi_add (z := ((10 * y11_52) + z_60)) hx hb dX11_next_238 rfl ?_
                          refine lv_bipush (v := iI 48) hx hb dX11_next_239 (by decide) ?_
                          refine gi_sub (z := (((10 * y11_52) + z_60) - 48)) hx hb dX11_next_241 rfl ?_
                          refine mdP_number (v1 := (va_up (va_up (va_up (va_up v 8 (v 8)) 9 y9_3) 10 y10_52) 11 (((10 * y11_52) + z_60) - 48))) C hP hD hS mF_X11_185 (by omega) rfl (Or.inr (gR_up (V := mdV) (F := mdF) (gR_up (V := mdV) (F := mdF) (gR_up (V := mdV) (F := mdF) (gR_up (V := mdV) (F := mdF) ⟨hok.1, hok.2⟩ 8 (hP.2.1 8)) 9 (hP.2.1 9)) 10 (hP.2.1 10)) 11 (show 0 ≤ (((10 * y11_52) + z_60) - 48) ∧ (((10 * y11_52) + z_60) - 48) ≤ 999999 from by omega))) dX11_next_242 (fun H locs hP hS => ?_)
                          refine lv_aload_n hx hb dX11_next_245 rfl (lv_at hl 0 rfl) ?_
                          refine lv_dup hx hb dX11_next_246 rfl ?_
                          refine mdG_behind C hP mF_X11_155 dX11_next_247 ?_
                          show W p l e (gRm 1 21) s m args below meth c _ _ 0 0 Q (F0 m 250 ls [.int (iI y10_52), .ref (ad 0)])
                          refine lv_iconst (v := iI 1) hx hb dX11_next_250 rfl ?_
                          refine gi_add (z := (y10_52 + 1)) hx hb dX11_next_251 rfl ?_
                          refine mdP_behind (v1 := (va_up (va_up (va_up (va_up v 8 (v 8)) 9 y9_3) 10 (y10_52 + 1)) 11 (((10 * y11_52) + z_60) - 48))) C hP hD hS mF_X11_155 (by omega) rfl (Or.inr (gR_up (V := mdV) (F := mdF) (gR_up (V := mdV) (F := mdF) (gR_up (V := mdV) (F := mdF) (gR_up (V := mdV) (F := mdF) ⟨hok.1, hok.2⟩ 8 (hP.2.1 8)) 9 (hP.2.1 9)) 10 (show 0 ≤ (y10_52 + 1) ∧ (y10_52 + 1) ≤ 700 from by omega)) 11 (hP.2.1 11))) dX11_next_252 (fun H locs hP hS => ?_)
                          refine lv_goto (tgt := 194) hx hb dX11_next_255 (by decide) ?_
                          exact ih_194 (y10_52 + 1) (((10 * y11_52) + z_60) - 48) _ _ _ (by omega) (by omega) (run_snoc hL (by omega) (by omega)) (by rw [nV_up (by omega)]; first | (rw [if_pos (by omega)]; omega) | (rw [if_neg (by omega)]; omega)) hP hS (lv_sub hl [0, 1] rfl)
                  exact L_52 701 y9_3 0 _ _ _ (by omega) (by omega) run_none (by rw [show (y9_3 - y9_3).toNat = 0 by omega]; rfl) hP hS (lv_sub hl [1, 0] rfl)
              · have v_41 := w_41.elim (fun q => q.2) (fun q => absurd q.1 c_42)
                clear w_41 p0_41
                refine lv_aload_n hx hb dX11_next_99 rfl (lv_at hl 1 rfl) ?_
                refine lv_iconst (v := iI 1) hx hb dX11_next_100 rfl ?_
                refine mdP_sort (v1 := (va_up (va_up (va_up (va_up v 8 1) 9 y9_3) 10 y9_3) 11 (v 11))) C hP hD hS mF_X11_165 (by decide) rfl (Or.inr (gR_up (V := mdV) (F := mdF) (gR_up (V := mdV) (F := mdF) (gR_up (V := mdV) (F := mdF) (gR_up (V := mdV) (F := mdF) ⟨hok.1, hok.2⟩ 8 (show 0 ≤ 1 ∧ 1 ≤ 4 from by decide)) 9 (hP.2.1 9)) 10 (hP.2.1 10)) 11 (hP.2.1 11))) dX11_next_101 (fun H locs hP hS => ?_)
                refine lv_aload_n hx hb dX11_next_104 rfl (lv_at hl 1 rfl) ?_
                refine lv_lconst (v := iL 0) hx hb dX11_next_105 (by decide) ?_
                refine mdP_word (g1 := (va_up g 0 (fun _ => 0))) C hP hD hS mF_X11_172 rfl dX11_next_106 (fun H locs hP hS => ?_)
                have L_61 : ∀ (n : Nat) (y10_61 : Int) (d0_61 : Int → Int) (H : Heap) (locs : List Loc) (ls : Array Slot), (v 3) - y10_61 < (n : Int) → (y9_3 ≤ y10_61 ∧ y10_61 ≤ (v 3)) → (∀ j, y9_3 ≤ j → j < y10_61 → j < (v 3) ∧ pL (B j)) → (d0_61 0 = hs B y9_3 (y10_61 - y9_3).toNat) → gWd D (mdT k ad) (va_up (va_up (va_up (va_up v 8 1) 9 y9_3) 10 y10_61) 11 (v 11)) f (va_up g 0 d0_61) H → va_S A s.heap H locs → lv_has ls 2 [(0, .ref (ad 0)), (1, .int (iI z_40))] → W p l e (gRm 1 21) s m args below meth c H locs 0 0 Q (F0 m 109 ls []) := by
                  intro n
                  induction n with
                  | zero =>
                    intro y10_61 d0_61 H locs ls hn_61 i61_0 i61_1 i61_2 hP hS hl
                    have ry10_61 : 0 ≤ y10_61 ∧ y10_61 ≤ 700 := hP.2.1 10
                    exfalso; omega
                  | succ n ih_109 =>
                    intro y10_61 d0_61 H locs ls hn_61 i61_0 i61_1 i61_2 hP hS hl
                    have ry10_61 : 0 ≤ y10_61 ∧ y10_61 ≤ 700 := hP.2.1 10
                    have hL := i61_1
                    have hW := i61_2
                    refine lv_aload_n hx hb dX11_next_109 rfl (lv_at hl 0 rfl) ?_
                    refine lv_aload_n hx hb dX11_next_110 rfl (lv_at hl 0 rfl) ?_
                    refine mdG_behind C hP mF_X11_155 dX11_next_111 ?_
                    show W p l e (gRm 1 21) s m args below meth c _ _ 0 0 Q (F0 m 114 ls [.int (iI y10_61), .ref (ad 0)])
                    have r_62 : 0 ≤ y10_61 ∧ y10_61 ≤ 700 := hP.2.1 10
                    refine g_cv (As := [.int (iI y10_61)]) (rest := []) (n := 1) C hml (n_look l D k A ad hD (va_up (va_up (va_up (va_up v 8 1) 9 y9_3) 10 y10_61) 11 (v 11)) f (va_up g 0 d0_61) y10_61 B (by omega) (show ∀ k, (f 0) k % 256 = B k from hB) (show 0 ≤ y10_61 from by omega)) mM_X11_161 mI_X11_look mE_X11_look mN_X11 mC_X11_look (by decide +kernel) 0 (ci := 11) rfl rfl hP hS (fun _ h => h) ⟨Nat.le_of_ble_eq_true rfl, Nat.le_of_ble_eq_true rfl⟩ ⟨Nat.zero_le _, Nat.zero_le _⟩ hl.1 rfl rfl (Nat.le_of_ble_eq_true rfl) dX11_next_114 (fun r_63 v_63 f_63 g_63 H locs hq_63 hP _ hS => ?_)
                    obtain ⟨z_63, rfl, rfl, rfl, rfl, p0_63, p1_63, p2_63⟩ := hq_63
                    show W p l e (gRm 1 21) s m args below meth c _ _ 0 0 Q (F0 m 117 ls [.int (iI z_63)])
                    replace p0_63 : 0 ≤ z_63 ∧ z_63 ≤ 255 := p0_63
                    replace p1_63 : y10_61 < (v 3) → z_63 = B y10_61 := p1_63
                    replace p2_63 : (v 3) ≤ y10_61 → z_63 = 0 := p2_63
                    refine g_cs (As := [.int (iI z_63)]) (rest := []) (n := 1) C hml (n_isLetter l D k A ad hD (va_up (va_up (va_up (va_up v 8 1) 9 y9_3) 10 y10_61) 11 (v 11)) f (va_up g 0 d0_61) z_63 (by omega)) mM_X11_168 mS_X11_isLetter mN_X11 mC_X11_isLetter (by decide +kernel) hP hS (fun _ h => h) ⟨Nat.le_of_ble_eq_true rfl, Nat.le_of_ble_eq_true rfl⟩ ⟨Nat.zero_le _, Nat.zero_le _⟩ hl.1 rfl rfl (Nat.le_of_ble_eq_true rfl) dX11_next_117 (fun r_64 v_64 f_64 g_64 H locs hq_64 hP _ hS => ?_)
                    obtain ⟨z_64, rfl, rfl, rfl, rfl, p0_64⟩ := hq_64
                    show W p l e (gRm 1 21) s m args below meth c _ _ 0 0 Q (F0 m 120 ls [.int (iI z_64)])
                    replace p0_64 : z_64 = (if 97 ≤ z_63 ∧ z_63 ≤ 122 then 1 else 0) := p0_64
                    have w_64 := gif (P := 97 ≤ z_63 ∧ z_63 ≤ 122) p0_64
                    have hz_64 : inR z_64 := (by first | omega | (rw [p0_64]; split <;> omega))
                    refine gi_zeq (tgt := 350) hx hb dX11_next_120 (by decide) (by omega) (fun c_65 => ?_) (fun c_65 => ?_)
                    · have v_64 := w_64.elim (fun q => absurd (q.1.symm.trans c_65) (by decide)) (fun q => q.2)
                      clear w_64 p0_64
                      exact g_vret hQ C hr hlocks hP hS dX11_next_350 ⟨1, y9_3, y10_61, (v 11), d0_61, rfl, rfl, rfl, rfl, (by rw [hA]; first | exact ⟨rfl, by omega, by omega, (tE_N (by omega)).symm, tok_end (by omega)⟩ | (have q := tok_word (B := B) (n := (v 3)) (p := y9_3) (y := y10_61) (nu := (v 11)) (w := d0_61 0) (by omega) (by omega) (runL_eq (by omega) hL (by omega)) hW; exact ⟨rfl, by omega, by omega, q.2, q.1⟩) | (have q := tok_num (B := B) (n := (v 3)) (p := y9_3) (y := y10_61) (nu := (v 11)) (w := d0_61 0) (by omega) (by omega) (runD_eq (by omega) hL (by omega)) hW; first | exact ⟨rfl, by omega, by omega, q.2.2, q.1 (by omega)⟩ | exact ⟨rfl, by omega, by omega, q.2.2, q.2.1 (by omega)⟩) | (have q := tok_sign (B := B) (n := (v 3)) (p := y9_3) (nu := (v 11)) (w := d0_61 0) (by omega) (by omega) (by omega); exact ⟨rfl, by omega, by omega, q.2, q.1⟩) | (have q := tok_bad (B := B) (n := (v 3)) (p := y9_3) (nu := (v 11)) (w := d0_61 0) (by omega) (by omega) (by omega) (by omega); exact ⟨rfl, by omega, by omega, q.2, q.1⟩))⟩
                    · have v_64 := w_64.elim (fun q => q.2) (fun q => absurd q.1 c_65)
                      clear w_64 p0_64
                      refine lv_aload_n hx hb dX11_next_123 rfl (lv_at hl 0 rfl) ?_
                      refine lv_aload_n hx hb dX11_next_124 rfl (lv_at hl 0 rfl) ?_
                      refine mdG_behind C hP mF_X11_155 dX11_next_125 ?_
                      show W p l e (gRm 1 21) s m args below meth c _ _ 0 0 Q (F0 m 128 ls [.int (iI y10_61), .ref (ad 0)])
                      refine lv_aload_n hx hb dX11_next_128 rfl (lv_at hl 0 rfl) ?_
                      refine mdG_at C hP mF_X11_158 dX11_next_129 ?_
                      show W p l e (gRm 1 21) s m args below meth c _ _ 0 0 Q (F0 m 132 ls [.int (iI y9_3), .int (iI y10_61), .ref (ad 0)])
                      refine gi_sub (z := (y10_61 - y9_3)) hx hb dX11_next_132 rfl ?_
                      refine lv_bipush (v := iI 12) hx hb dX11_next_133 (by decide) ?_
                      refine gi_cge (tgt := 163) hx hb dX11_next_135 (by decide) (by omega) (by decide) (fun c_66 => ?_) (fun c_66 => ?_)
                      · refine lv_ldc2 (v := iL (-1)) hx hb C.2.2.2.1 (C.2.2.1 _ (show Cond.constantLong RX11 180 (iL (-1)) ∈ gWs from mD_X11_180)) dX11_next_163 ?_
                        refine mdP_word (g1 := (va_up g 0 (fun _ => (-1)))) C hP hD hS mF_X11_172 rfl dX11_next_166 (fun H locs hP hS => ?_)
                        refine lv_aload_n hx hb dX11_next_169 rfl (lv_at hl 0 rfl) ?_
                        refine lv_dup hx hb dX11_next_170 rfl ?_
                        refine mdG_behind C hP mF_X11_155 dX11_next_171 ?_
                        show W p l e (gRm 1 21) s m args below meth c _ _ 0 0 Q (F0 m 174 ls [.int (iI y10_61), .ref (ad 0)])
                        refine lv_iconst (v := iI 1) hx hb dX11_next_174 rfl ?_
                        refine gi_add (z := (y10_61 + 1)) hx hb dX11_next_175 rfl ?_
                        refine mdP_behind (v1 := (va_up (va_up (va_up (va_up v 8 1) 9 y9_3) 10 (y10_61 + 1)) 11 (v 11))) C hP hD hS mF_X11_155 (by omega) rfl (Or.inr (gR_up (V := mdV) (F := mdF) (gR_up (V := mdV) (F := mdF) (gR_up (V := mdV) (F := mdF) (gR_up (V := mdV) (F := mdF) ⟨hok.1, hok.2⟩ 8 (hP.2.1 8)) 9 (hP.2.1 9)) 10 (show 0 ≤ (y10_61 + 1) ∧ (y10_61 + 1) ≤ 700 from by omega)) 11 (hP.2.1 11))) dX11_next_176 (fun H locs hP hS => ?_)
                        refine lv_goto (tgt := 109) hx hb dX11_next_179 (by decide) ?_
                        exact ih_109 (y10_61 + 1) (fun _ => (-1)) _ _ _ (by omega) (by omega) (run_snoc hL (by omega) (by omega)) (by rw [hs_up (by omega)]; first | (rw [if_pos (by omega)]; omega) | (rw [if_neg (by omega)])) hP hS (lv_sub hl [0, 1] rfl)
                      · refine lv_aload_n hx hb dX11_next_138 rfl (lv_at hl 0 rfl) ?_
                        refine mdG_word C hP mF_X11_172 dX11_next_139 ?_
                        show W p l e (gRm 1 21) s m args below meth c _ _ 0 0 Q (F0 m 142 ls [.long (iL (d0_61 0)), .ref (ad 0)])
                        refine lv_ldc2 (v := iL 32) hx hb C.2.2.2.1 (C.2.2.1 _ (show Cond.constantLong RX11 176 (iL 32) ∈ gWs from mD_X11_176)) dX11_next_142 ?_
                        refine gl_mul (z := ((d0_61 0) * 32)) hx hb dX11_next_145 rfl ?_
                        refine lv_aload_n hx hb dX11_next_146 rfl (lv_at hl 0 rfl) ?_
                        refine lv_aload_n hx hb dX11_next_147 rfl (lv_at hl 0 rfl) ?_
                        refine mdG_behind C hP mF_X11_155 dX11_next_148 ?_
                        show W p l e (gRm 1 21) s m args below meth c _ _ 0 0 Q (F0 m 151 ls [.int (iI y10_61), .ref (ad 0), .long (iL ((d0_61 0) * 32)), .ref (ad 0)])
                        refine g_cv (As := [.int (iI y10_61)]) (rest := [.long (iL ((d0_61 0) * 32)), .ref (ad 0)]) (n := 1) C hml (n_look l D k A ad hD (va_up (va_up (va_up (va_up v 8 1) 9 y9_3) 10 y10_61) 11 (v 11)) f (va_up g 0 d0_61) y10_61 B (by omega) (show ∀ k, (f 0) k % 256 = B k from hB) (show 0 ≤ y10_61 from by omega)) mM_X11_161 mI_X11_look mE_X11_look mN_X11 mC_X11_look (by decide +kernel) 0 (ci := 11) rfl rfl hP hS (fun _ h => h) ⟨Nat.le_of_ble_eq_true rfl, Nat.le_of_ble_eq_true rfl⟩ ⟨Nat.zero_le _, Nat.zero_le _⟩ hl.1 rfl rfl (Nat.le_of_ble_eq_true rfl) dX11_next_151 (fun r_67 v_67 f_67 g_67 H locs hq_67 hP _ hS => ?_)
                        obtain ⟨z_67, rfl, rfl, rfl, rfl, p0_67, p1_67, p2_67⟩ := hq_67
                        show W p l e (gRm 1 21) s m args below meth c _ _ 0 0 Q (F0 m 154 ls [.int (iI z_67), .long (iL ((d0_61 0) * 32)), .ref (ad 0)])
                        replace p0_67 : 0 ≤ z_67 ∧ z_67 ≤ 255 := p0_67
                        replace p1_67 : y10_61 < (v 3) → z_67 = B y10_61 := p1_67
                        replace p2_67 : (v 3) ≤ y10_61 → z_67 = 0 := p2_67
                        refine gi_i2l hx hb (by omega) dX11_next_154 ?_
                        refine gl_add (z := (((d0_61 0) * 32) + z_67)) hx hb dX11_next_155 rfl ?_
                        refine lv_ldc2 (v := iL 96) hx hb C.2.2.2.1 (C.2.2.1 _ (show Cond.constantLong RX11 178 (iL 96) ∈ gWs from mD_X11_178)) dX11_next_156 ?_
                        refine gl_sub (z := ((((d0_61 0) * 32) + z_67) - 96)) hx hb dX11_next_159 rfl ?_
                        refine lv_goto (tgt := 166) hx hb dX11_next_160 (by decide) ?_
                        refine mdP_word (g1 := (va_up g 0 (fun _ => ((((d0_61 0) * 32) + z_67) - 96)))) C hP hD hS mF_X11_172 rfl dX11_next_166 (fun H locs hP hS => ?_)
                        refine lv_aload_n hx hb dX11_next_169 rfl (lv_at hl 0 rfl) ?_
                        refine lv_dup hx hb dX11_next_170 rfl ?_
                        refine mdG_behind C hP mF_X11_155 dX11_next_171 ?_
                        show W p l e (gRm 1 21) s m args below meth c _ _ 0 0 Q (F0 m 174 ls [.int (iI y10_61), .ref (ad 0)])
                        refine lv_iconst (v := iI 1) hx hb dX11_next_174 rfl ?_
                        refine gi_add (z := (y10_61 + 1)) hx hb dX11_next_175 rfl ?_
                        refine mdP_behind (v1 := (va_up (va_up (va_up (va_up v 8 1) 9 y9_3) 10 (y10_61 + 1)) 11 (v 11))) C hP hD hS mF_X11_155 (by omega) rfl (Or.inr (gR_up (V := mdV) (F := mdF) (gR_up (V := mdV) (F := mdF) (gR_up (V := mdV) (F := mdF) (gR_up (V := mdV) (F := mdF) ⟨hok.1, hok.2⟩ 8 (hP.2.1 8)) 9 (hP.2.1 9)) 10 (show 0 ≤ (y10_61 + 1) ∧ (y10_61 + 1) ≤ 700 from by omega)) 11 (hP.2.1 11))) dX11_next_176 (fun H locs hP hS => ?_)
                        refine lv_goto (tgt := 109) hx hb dX11_next_179 (by decide) ?_
                        exact ih_109 (y10_61 + 1) (fun _ => ((((d0_61 0) * 32) + z_67) - 96)) _ _ _ (by omega) (by omega) (run_snoc hL (by omega) (by omega)) (by rw [hs_up (by omega)]; first | (rw [if_pos (by omega)]; omega) | (rw [if_neg (by omega)])) hP hS (lv_sub hl [0, 1] rfl)
                exact L_61 701 y9_3 (fun _ => 0) _ _ _ (by omega) (by omega) run_none (by rw [show (y9_3 - y9_3).toNat = 0 by omega]; rfl) hP hS (lv_sub hl [1, 0] rfl)
            · refine lv_aload_n hx hb dX11_next_77 rfl (lv_at hl 0 rfl) ?_
              refine lv_iconst (v := iI 0) hx hb dX11_next_78 rfl ?_
              refine mdP_sort (v1 := (va_up (va_up (va_up (va_up v 8 0) 9 y9_3) 10 y9_3) 11 (v 11))) C hP hD hS mF_X11_165 (by decide) rfl (Or.inr (gR_up (V := mdV) (F := mdF) (gR_up (V := mdV) (F := mdF) (gR_up (V := mdV) (F := mdF) (gR_up (V := mdV) (F := mdF) ⟨hok.1, hok.2⟩ 8 (show 0 ≤ 0 ∧ 0 ≤ 4 from by decide)) 9 (hP.2.1 9)) 10 (hP.2.1 10)) 11 (hP.2.1 11))) dX11_next_79 (fun H locs hP hS => ?_)
              exact g_vret hQ C hr hlocks hP hS dX11_next_82 ⟨0, y9_3, y9_3, (v 11), (g 0), rfl, rfl, rfl, rfl, (by rw [hA]; first | exact ⟨rfl, by omega, by omega, (tE_N (by omega)).symm, tok_end (by omega)⟩ | (have q := tok_word (B := B) (n := (v 3)) (p := y9_3) (y := y9_3) (nu := (v 11)) (w := (g 0) 0) (by omega) (by omega) (runL_eq (by omega) hL (by omega)) hW; exact ⟨rfl, by omega, by omega, q.2, q.1⟩) | (have q := tok_num (B := B) (n := (v 3)) (p := y9_3) (y := y9_3) (nu := (v 11)) (w := (g 0) 0) (by omega) (by omega) (runD_eq (by omega) hL (by omega)) hW; first | exact ⟨rfl, by omega, by omega, q.2.2, q.1 (by omega)⟩ | exact ⟨rfl, by omega, by omega, q.2.2, q.2.1 (by omega)⟩) | (have q := tok_sign (B := B) (n := (v 3)) (p := y9_3) (nu := (v 11)) (w := (g 0) 0) (by omega) (by omega) (by omega); exact ⟨rfl, by omega, by omega, q.2, q.1⟩) | (have q := tok_bad (B := B) (n := (v 3)) (p := y9_3) (nu := (v 11)) (w := (g 0) 0) (by omega) (by omega) (by omega) (by omega); exact ⟨rfl, by omega, by omega, q.2, q.1⟩))⟩
          · refine lv_aload_n hx hb dX11_next_45 rfl (lv_at hl 0 rfl) ?_
            refine lv_dup hx hb dX11_next_46 rfl ?_
            refine mdG_at C hP mF_X11_158 dX11_next_47 ?_
            show W p l e (gRm 1 21) s m args below meth c _ _ 0 0 Q (F0 m 50 ls [.int (iI y9_3), .ref (ad 0)])
            refine lv_iconst (v := iI 1) hx hb dX11_next_50 rfl ?_
            refine gi_add (z := (y9_3 + 1)) hx hb dX11_next_51 rfl ?_
            refine mdP_at (v1 := (va_up (va_up (va_up (va_up v 8 (v 8)) 9 (y9_3 + 1)) 10 (v 10)) 11 (v 11))) C hP hD hS mF_X11_158 (by omega) rfl (Or.inr (gR_up (V := mdV) (F := mdF) (gR_up (V := mdV) (F := mdF) (gR_up (V := mdV) (F := mdF) (gR_up (V := mdV) (F := mdF) ⟨hok.1, hok.2⟩ 8 (hP.2.1 8)) 9 (show 0 ≤ (y9_3 + 1) ∧ (y9_3 + 1) ≤ 700 from by omega)) 10 (hP.2.1 10)) 11 (hP.2.1 11))) dX11_next_52 (fun H locs hP hS => ?_)
            refine lv_goto (tgt := 8) hx hb dX11_next_55 (by decide) ?_
            exact ih_8 (y9_3 + 1) _ _ _ (by omega) (by omega) (run_snoc hI (by omega) (by omega)) hP hS (lv_sub hl [0] rfl)
  exact L_3 701 (v 10) _ _ _ (by omega) (by omega) run_none hP hS (lv_sub hl [0] rfl)

set_option maxHeartbeats 4000000 in
set_option maxRecDepth 100000 in
theorem n_spelled (l : Launch) (D : va_G) (k : Nat → ClassId) (A : Nat → Prop) (ad : Nat → Nat) (hD : mdD A k ad) (v : gV) (f g : gF) (a1 : Int) (a2 : Int) (a3 : Int) (a4 : Int) (a5 : Int) (a6 : Int) (a7 : Int) (h_a1 : inR a1) (h_a2 : inR a2) (h_a3 : inR a3) (h_a4 : inR a4) (h_a5 : inR a5) (h_a6 : inR a6) (h_a7 : inR a7) : GM l D k A (mdT k ad) yX11_spelled cX11_spelled 9 (some .long) 0 0 [.int (iI a1), .int (iI a2), .int (iI a3), .int (iI a4), .int (iI a5), .int (iI a6), .int (iI a7)] v f g (fun r v1 f1 g1 => ∃ (z : Int), r = some (.long (iL z)) ∧ v = v1 ∧ f = f1 ∧ g = g1 ∧ (z = (spW a1 a2 a3 a4 a5 a6 a7))) := by
  refine GM.of (by decide) (Nat.le_of_ble_eq_true rfl) ?_
  intro p e s m args below meth c Q ls hQ C hml hr hlocks hP hl
  have hx := C.1
  have hb := C.2.1
  have hok := hP.2
  have hS : va_S A s.heap s.heap [] := va_S.rf
  have hl : lv_has ls 9 [(0, .int (iI a1)), (1, .int (iI a2)), (2, .int (iI a3)), (3, .int (iI a4)), (4, .int (iI a5)), (5, .int (iI a6)), (6, .int (iI a7))] := hl
  refine lv_iload_n hx hb dX11_spelled_0 rfl (lv_at hl 0 rfl) ?_
  refine gi_i2l hx hb (by omega) dX11_spelled_1 ?_
  refine lv_ldc2 (v := iL 96) hx hb C.2.2.2.1 (C.2.2.1 _ (show Cond.constantLong RX11 178 (iL 96) ∈ gWs from mD_X11_178)) dX11_spelled_2 ?_
  refine gl_sub (z := (a1 - 96)) hx hb dX11_spelled_5 rfl ?_
  refine lv_lstore (lv' := [(7, .long (iL (a1 - 96))), (0, .int (iI a1)), (1, .int (iI a2)), (2, .int (iI a3)), (3, .int (iI a4)), (4, .int (iI a5)), (5, .int (iI a6)), (6, .int (iI a7))]) hx hb dX11_spelled_6 hl (by decide) rfl (fun ls hl => ?_)
  refine lv_iload_n hx hb dX11_spelled_8 rfl (lv_at hl 2 rfl) ?_
  refine gi_zle (tgt := 28) hx hb dX11_spelled_9 (by decide) (by omega) (fun c_1 => ?_) (fun c_1 => ?_)
  · refine lv_lload hx hb dX11_spelled_28 (lv_at hl 0 rfl) ?_
    refine lv_lstore (lv' := [(7, .long (iL (a1 - 96))), (0, .int (iI a1)), (1, .int (iI a2)), (2, .int (iI a3)), (3, .int (iI a4)), (4, .int (iI a5)), (5, .int (iI a6)), (6, .int (iI a7))]) hx hb dX11_spelled_30 hl (by decide) rfl (fun ls hl => ?_)
    refine lv_iload_n hx hb dX11_spelled_32 rfl (lv_at hl 3 rfl) ?_
    refine gi_zle (tgt := 52) hx hb dX11_spelled_33 (by decide) (by omega) (fun c_2 => ?_) (fun c_2 => ?_)
    · refine lv_lload hx hb dX11_spelled_52 (lv_at hl 0 rfl) ?_
      refine lv_lstore (lv' := [(7, .long (iL (a1 - 96))), (0, .int (iI a1)), (1, .int (iI a2)), (2, .int (iI a3)), (3, .int (iI a4)), (4, .int (iI a5)), (5, .int (iI a6)), (6, .int (iI a7))]) hx hb dX11_spelled_54 hl (by decide) rfl (fun ls hl => ?_)
      refine lv_iload_n hx hb dX11_spelled_56 rfl (lv_at hl 4 rfl) ?_
      refine gi_zle (tgt := 76) hx hb dX11_spelled_57 (by decide) (by omega) (fun c_3 => ?_) (fun c_3 => ?_)
      · refine lv_lload hx hb dX11_spelled_76 (lv_at hl 0 rfl) ?_
        refine lv_lstore (lv' := [(7, .long (iL (a1 - 96))), (0, .int (iI a1)), (1, .int (iI a2)), (2, .int (iI a3)), (3, .int (iI a4)), (4, .int (iI a5)), (5, .int (iI a6)), (6, .int (iI a7))]) hx hb dX11_spelled_78 hl (by decide) rfl (fun ls hl => ?_)
        refine lv_iload hx hb dX11_spelled_80 (lv_at hl 5 rfl) ?_
        refine gi_zle (tgt := 102) hx hb dX11_spelled_82 (by decide) (by omega) (fun c_4 => ?_) (fun c_4 => ?_)
        · refine lv_lload hx hb dX11_spelled_102 (lv_at hl 0 rfl) ?_
          refine lv_lstore (lv' := [(7, .long (iL (a1 - 96))), (0, .int (iI a1)), (1, .int (iI a2)), (2, .int (iI a3)), (3, .int (iI a4)), (4, .int (iI a5)), (5, .int (iI a6)), (6, .int (iI a7))]) hx hb dX11_spelled_104 hl (by decide) rfl (fun ls hl => ?_)
          refine lv_iload hx hb dX11_spelled_106 (lv_at hl 6 rfl) ?_
          refine gi_zle (tgt := 128) hx hb dX11_spelled_108 (by decide) (by omega) (fun c_5 => ?_) (fun c_5 => ?_)
          · refine lv_lload hx hb dX11_spelled_128 (lv_at hl 0 rfl) ?_
            refine lv_lstore (lv' := [(7, .long (iL (a1 - 96))), (0, .int (iI a1)), (1, .int (iI a2)), (2, .int (iI a3)), (3, .int (iI a4)), (4, .int (iI a5)), (5, .int (iI a6)), (6, .int (iI a7))]) hx hb dX11_spelled_130 hl (by decide) rfl (fun ls hl => ?_)
            refine lv_iload hx hb dX11_spelled_132 (lv_at hl 7 rfl) ?_
            refine gi_zle (tgt := 154) hx hb dX11_spelled_134 (by decide) (by omega) (fun c_6 => ?_) (fun c_6 => ?_)
            · refine lv_lload hx hb dX11_spelled_154 (lv_at hl 0 rfl) ?_
              exact g_lret hQ C hr hlocks hP hS dX11_spelled_156 ⟨(a1 - 96), rfl, rfl, rfl, rfl, (by unfold spW; (first | rw [stp_p (x := a2) (by omega)] | rw [stp_n (x := a2) (by omega)]); (first | rw [stp_p (x := a3) (by omega)] | rw [stp_n (x := a3) (by omega)]); (first | rw [stp_p (x := a4) (by omega)] | rw [stp_n (x := a4) (by omega)]); (first | rw [stp_p (x := a5) (by omega)] | rw [stp_n (x := a5) (by omega)]); (first | rw [stp_p (x := a6) (by omega)] | rw [stp_n (x := a6) (by omega)]); (first | rw [stp_p (x := a7) (by omega)] | rw [stp_n (x := a7) (by omega)]))⟩
            · refine lv_lload hx hb dX11_spelled_137 (lv_at hl 0 rfl) ?_
              refine lv_ldc2 (v := iL 32) hx hb C.2.2.2.1 (C.2.2.1 _ (show Cond.constantLong RX11 176 (iL 32) ∈ gWs from mD_X11_176)) dX11_spelled_139 ?_
              refine gl_mul (z := ((a1 - 96) * 32)) hx hb dX11_spelled_142 rfl ?_
              refine lv_iload hx hb dX11_spelled_143 (lv_at hl 7 rfl) ?_
              refine gi_i2l hx hb (by omega) dX11_spelled_145 ?_
              refine gl_add (z := (((a1 - 96) * 32) + a7)) hx hb dX11_spelled_146 rfl ?_
              refine lv_ldc2 (v := iL 96) hx hb C.2.2.2.1 (C.2.2.1 _ (show Cond.constantLong RX11 178 (iL 96) ∈ gWs from mD_X11_178)) dX11_spelled_147 ?_
              refine gl_sub (z := ((((a1 - 96) * 32) + a7) - 96)) hx hb dX11_spelled_150 rfl ?_
              refine lv_goto (tgt := 156) hx hb dX11_spelled_151 (by decide) ?_
              exact g_lret hQ C hr hlocks hP hS dX11_spelled_156 ⟨((((a1 - 96) * 32) + a7) - 96), rfl, rfl, rfl, rfl, (by unfold spW; (first | rw [stp_p (x := a2) (by omega)] | rw [stp_n (x := a2) (by omega)]); (first | rw [stp_p (x := a3) (by omega)] | rw [stp_n (x := a3) (by omega)]); (first | rw [stp_p (x := a4) (by omega)] | rw [stp_n (x := a4) (by omega)]); (first | rw [stp_p (x := a5) (by omega)] | rw [stp_n (x := a5) (by omega)]); (first | rw [stp_p (x := a6) (by omega)] | rw [stp_n (x := a6) (by omega)]); (first | rw [stp_p (x := a7) (by omega)] | rw [stp_n (x := a7) (by omega)]))⟩
          · refine lv_lload hx hb dX11_spelled_111 (lv_at hl 0 rfl) ?_
            refine lv_ldc2 (v := iL 32) hx hb C.2.2.2.1 (C.2.2.1 _ (show Cond.constantLong RX11 176 (iL 32) ∈ gWs from mD_X11_176)) dX11_spelled_113 ?_
            refine gl_mul (z := ((a1 - 96) * 32)) hx hb dX11_spelled_116 rfl ?_
            refine lv_iload hx hb dX11_spelled_117 (lv_at hl 6 rfl) ?_
            refine gi_i2l hx hb (by omega) dX11_spelled_119 ?_
            refine gl_add (z := (((a1 - 96) * 32) + a6)) hx hb dX11_spelled_120 rfl ?_
            refine lv_ldc2 (v := iL 96) hx hb C.2.2.2.1 (C.2.2.1 _ (show Cond.constantLong RX11 178 (iL 96) ∈ gWs from mD_X11_178)) dX11_spelled_121 ?_
            refine gl_sub (z := ((((a1 - 96) * 32) + a6) - 96)) hx hb dX11_spelled_124 rfl ?_
            refine lv_goto (tgt := 130) hx hb dX11_spelled_125 (by decide) ?_
            refine lv_lstore (lv' := [(7, .long (iL ((((a1 - 96) * 32) + a6) - 96))), (0, .int (iI a1)), (1, .int (iI a2)), (2, .int (iI a3)), (3, .int (iI a4)), (4, .int (iI a5)), (5, .int (iI a6)), (6, .int (iI a7))]) hx hb dX11_spelled_130 hl (by decide) rfl (fun ls hl => ?_)
            refine lv_iload hx hb dX11_spelled_132 (lv_at hl 7 rfl) ?_
            refine gi_zle (tgt := 154) hx hb dX11_spelled_134 (by decide) (by omega) (fun c_7 => ?_) (fun c_7 => ?_)
            · refine lv_lload hx hb dX11_spelled_154 (lv_at hl 0 rfl) ?_
              exact g_lret hQ C hr hlocks hP hS dX11_spelled_156 ⟨((((a1 - 96) * 32) + a6) - 96), rfl, rfl, rfl, rfl, (by unfold spW; (first | rw [stp_p (x := a2) (by omega)] | rw [stp_n (x := a2) (by omega)]); (first | rw [stp_p (x := a3) (by omega)] | rw [stp_n (x := a3) (by omega)]); (first | rw [stp_p (x := a4) (by omega)] | rw [stp_n (x := a4) (by omega)]); (first | rw [stp_p (x := a5) (by omega)] | rw [stp_n (x := a5) (by omega)]); (first | rw [stp_p (x := a6) (by omega)] | rw [stp_n (x := a6) (by omega)]); (first | rw [stp_p (x := a7) (by omega)] | rw [stp_n (x := a7) (by omega)]))⟩
            · refine lv_lload hx hb dX11_spelled_137 (lv_at hl 0 rfl) ?_
              refine lv_ldc2 (v := iL 32) hx hb C.2.2.2.1 (C.2.2.1 _ (show Cond.constantLong RX11 176 (iL 32) ∈ gWs from mD_X11_176)) dX11_spelled_139 ?_
              refine gl_mul (z := (((((a1 - 96) * 32) + a6) - 96) * 32)) hx hb dX11_spelled_142 rfl ?_
              refine lv_iload hx hb dX11_spelled_143 (lv_at hl 7 rfl) ?_
              refine gi_i2l hx hb (by omega) dX11_spelled_145 ?_
              refine gl_add (z := ((((((a1 - 96) * 32) + a6) - 96) * 32) + a7)) hx hb dX11_spelled_146 rfl ?_
              refine lv_ldc2 (v := iL 96) hx hb C.2.2.2.1 (C.2.2.1 _ (show Cond.constantLong RX11 178 (iL 96) ∈ gWs from mD_X11_178)) dX11_spelled_147 ?_
              refine gl_sub (z := (((((((a1 - 96) * 32) + a6) - 96) * 32) + a7) - 96)) hx hb dX11_spelled_150 rfl ?_
              refine lv_goto (tgt := 156) hx hb dX11_spelled_151 (by decide) ?_
              exact g_lret hQ C hr hlocks hP hS dX11_spelled_156 ⟨(((((((a1 - 96) * 32) + a6) - 96) * 32) + a7) - 96), rfl, rfl, rfl, rfl, (by unfold spW; (first | rw [stp_p (x := a2) (by omega)] | rw [stp_n (x := a2) (by omega)]); (first | rw [stp_p (x := a3) (by omega)] | rw [stp_n (x := a3) (by omega)]); (first | rw [stp_p (x := a4) (by omega)] | rw [stp_n (x := a4) (by omega)]); (first | rw [stp_p (x := a5) (by omega)] | rw [stp_n (x := a5) (by omega)]); (first | rw [stp_p (x := a6) (by omega)] | rw [stp_n (x := a6) (by omega)]); (first | rw [stp_p (x := a7) (by omega)] | rw [stp_n (x := a7) (by omega)]))⟩
        · refine lv_lload hx hb dX11_spelled_85 (lv_at hl 0 rfl) ?_
          refine lv_ldc2 (v := iL 32) hx hb C.2.2.2.1 (C.2.2.1 _ (show Cond.constantLong RX11 176 (iL 32) ∈ gWs from mD_X11_176)) dX11_spelled_87 ?_
          refine gl_mul (z := ((a1 - 96) * 32)) hx hb dX11_spelled_90 rfl ?_
          refine lv_iload hx hb dX11_spelled_91 (lv_at hl 5 rfl) ?_
          refine gi_i2l hx hb (by omega) dX11_spelled_93 ?_
          refine gl_add (z := (((a1 - 96) * 32) + a5)) hx hb dX11_spelled_94 rfl ?_
          refine lv_ldc2 (v := iL 96) hx hb C.2.2.2.1 (C.2.2.1 _ (show Cond.constantLong RX11 178 (iL 96) ∈ gWs from mD_X11_178)) dX11_spelled_95 ?_
          refine gl_sub (z := ((((a1 - 96) * 32) + a5) - 96)) hx hb dX11_spelled_98 rfl ?_
          refine lv_goto (tgt := 104) hx hb dX11_spelled_99 (by decide) ?_
          refine lv_lstore (lv' := [(7, .long (iL ((((a1 - 96) * 32) + a5) - 96))), (0, .int (iI a1)), (1, .int (iI a2)), (2, .int (iI a3)), (3, .int (iI a4)), (4, .int (iI a5)), (5, .int (iI a6)), (6, .int (iI a7))]) hx hb dX11_spelled_104 hl (by decide) rfl (fun ls hl => ?_)
          refine lv_iload hx hb dX11_spelled_106 (lv_at hl 6 rfl) ?_
          refine gi_zle (tgt := 128) hx hb dX11_spelled_108 (by decide) (by omega) (fun c_8 => ?_) (fun c_8 => ?_)
          · refine lv_lload hx hb dX11_spelled_128 (lv_at hl 0 rfl) ?_
            refine lv_lstore (lv' := [(7, .long (iL ((((a1 - 96) * 32) + a5) - 96))), (0, .int (iI a1)), (1, .int (iI a2)), (2, .int (iI a3)), (3, .int (iI a4)), (4, .int (iI a5)), (5, .int (iI a6)), (6, .int (iI a7))]) hx hb dX11_spelled_130 hl (by decide) rfl (fun ls hl => ?_)
            refine lv_iload hx hb dX11_spelled_132 (lv_at hl 7 rfl) ?_
            refine gi_zle (tgt := 154) hx hb dX11_spelled_134 (by decide) (by omega) (fun c_9 => ?_) (fun c_9 => ?_)
            · refine lv_lload hx hb dX11_spelled_154 (lv_at hl 0 rfl) ?_
              exact g_lret hQ C hr hlocks hP hS dX11_spelled_156 ⟨((((a1 - 96) * 32) + a5) - 96), rfl, rfl, rfl, rfl, (by unfold spW; (first | rw [stp_p (x := a2) (by omega)] | rw [stp_n (x := a2) (by omega)]); (first | rw [stp_p (x := a3) (by omega)] | rw [stp_n (x := a3) (by omega)]); (first | rw [stp_p (x := a4) (by omega)] | rw [stp_n (x := a4) (by omega)]); (first | rw [stp_p (x := a5) (by omega)] | rw [stp_n (x := a5) (by omega)]); (first | rw [stp_p (x := a6) (by omega)] | rw [stp_n (x := a6) (by omega)]); (first | rw [stp_p (x := a7) (by omega)] | rw [stp_n (x := a7) (by omega)]))⟩
            · refine lv_lload hx hb dX11_spelled_137 (lv_at hl 0 rfl) ?_
              refine lv_ldc2 (v := iL 32) hx hb C.2.2.2.1 (C.2.2.1 _ (show Cond.constantLong RX11 176 (iL 32) ∈ gWs from mD_X11_176)) dX11_spelled_139 ?_
              refine gl_mul (z := (((((a1 - 96) * 32) + a5) - 96) * 32)) hx hb dX11_spelled_142 rfl ?_
              refine lv_iload hx hb dX11_spelled_143 (lv_at hl 7 rfl) ?_
              refine gi_i2l hx hb (by omega) dX11_spelled_145 ?_
              refine gl_add (z := ((((((a1 - 96) * 32) + a5) - 96) * 32) + a7)) hx hb dX11_spelled_146 rfl ?_
              refine lv_ldc2 (v := iL 96) hx hb C.2.2.2.1 (C.2.2.1 _ (show Cond.constantLong RX11 178 (iL 96) ∈ gWs from mD_X11_178)) dX11_spelled_147 ?_
              refine gl_sub (z := (((((((a1 - 96) * 32) + a5) - 96) * 32) + a7) - 96)) hx hb dX11_spelled_150 rfl ?_
              refine lv_goto (tgt := 156) hx hb dX11_spelled_151 (by decide) ?_
              exact g_lret hQ C hr hlocks hP hS dX11_spelled_156 ⟨(((((((a1 - 96) * 32) + a5) - 96) * 32) + a7) - 96), rfl, rfl, rfl, rfl, (by unfold spW; (first | rw [stp_p (x := a2) (by omega)] | rw [stp_n (x := a2) (by omega)]); (first | rw [stp_p (x := a3) (by omega)] | rw [stp_n (x := a3) (by omega)]); (first | rw [stp_p (x := a4) (by omega)] | rw [stp_n (x := a4) (by omega)]); (first | rw [stp_p (x := a5) (by omega)] | rw [stp_n (x := a5) (by omega)]); (first | rw [stp_p (x := a6) (by omega)] | rw [stp_n (x := a6) (by omega)]); (first | rw [stp_p (x := a7) (by omega)] | rw [stp_n (x := a7) (by omega)]))⟩
          · refine lv_lload hx hb dX11_spelled_111 (lv_at hl 0 rfl) ?_
            refine lv_ldc2 (v := iL 32) hx hb C.2.2.2.1 (C.2.2.1 _ (show Cond.constantLong RX11 176 (iL 32) ∈ gWs from mD_X11_176)) dX11_spelled_113 ?_
            refine gl_mul (z := (((((a1 - 96) * 32) + a5) - 96) * 32)) hx hb dX11_spelled_116 rfl ?_
            refine lv_iload hx hb dX11_spelled_117 (lv_at hl 6 rfl) ?_
            refine gi_i2l hx hb (by omega) dX11_spelled_119 ?_
            refine gl_add (z := ((((((a1 - 96) * 32) + a5) - 96) * 32) + a6)) hx hb dX11_spelled_120 rfl ?_
            refine lv_ldc2 (v := iL 96) hx hb C.2.2.2.1 (C.2.2.1 _ (show Cond.constantLong RX11 178 (iL 96) ∈ gWs from mD_X11_178)) dX11_spelled_121 ?_
            refine gl_sub (z := (((((((a1 - 96) * 32) + a5) - 96) * 32) + a6) - 96)) hx hb dX11_spelled_124 rfl ?_
            refine lv_goto (tgt := 130) hx hb dX11_spelled_125 (by decide) ?_
            refine lv_lstore (lv' := [(7, .long (iL (((((((a1 - 96) * 32) + a5) - 96) * 32) + a6) - 96))), (0, .int (iI a1)), (1, .int (iI a2)), (2, .int (iI a3)), (3, .int (iI a4)), (4, .int (iI a5)), (5, .int (iI a6)), (6, .int (iI a7))]) hx hb dX11_spelled_130 hl (by decide) rfl (fun ls hl => ?_)
            refine lv_iload hx hb dX11_spelled_132 (lv_at hl 7 rfl) ?_
            refine gi_zle (tgt := 154) hx hb dX11_spelled_134 (by decide) (by omega) (fun c_10 => ?_) (fun c_10 => ?_)
            · refine lv_lload hx hb dX11_spelled_154 (lv_at hl 0 rfl) ?_
              exact g_lret hQ C hr hlocks hP hS dX11_spelled_156 ⟨(((((((a1 - 96) * 32) + a5) - 96) * 32) + a6) - 96), rfl, rfl, rfl, rfl, (by unfold spW; (first | rw [stp_p (x := a2) (by omega)] | rw [stp_n (x := a2) (by omega)]); (first | rw [stp_p (x := a3) (by omega)] | rw [stp_n (x := a3) (by omega)]); (first | rw [stp_p (x := a4) (by omega)] | rw [stp_n (x := a4) (by omega)]); (first | rw [stp_p (x := a5) (by omega)] | rw [stp_n (x := a5) (by omega)]); (first | rw [stp_p (x := a6) (by omega)] | rw [stp_n (x := a6) (by omega)]); (first | rw [stp_p (x := a7) (by omega)] | rw [stp_n (x := a7) (by omega)]))⟩
            · refine lv_lload hx hb dX11_spelled_137 (lv_at hl 0 rfl) ?_
              refine lv_ldc2 (v := iL 32) hx hb C.2.2.2.1 (C.2.2.1 _ (show Cond.constantLong RX11 176 (iL 32) ∈ gWs from mD_X11_176)) dX11_spelled_139 ?_
              refine gl_mul (z := ((((((((a1 - 96) * 32) + a5) - 96) * 32) + a6) - 96) * 32)) hx hb dX11_spelled_142 rfl ?_
              refine lv_iload hx hb dX11_spelled_143 (lv_at hl 7 rfl) ?_
              refine gi_i2l hx hb (by omega) dX11_spelled_145 ?_
              refine gl_add (z := (((((((((a1 - 96) * 32) + a5) - 96) * 32) + a6) - 96) * 32) + a7)) hx hb dX11_spelled_146 rfl ?_
              refine lv_ldc2 (v := iL 96) hx hb C.2.2.2.1 (C.2.2.1 _ (show Cond.constantLong RX11 178 (iL 96) ∈ gWs from mD_X11_178)) dX11_spelled_147 ?_
              refine gl_sub (z := ((((((((((a1 - 96) * 32) + a5) - 96) * 32) + a6) - 96) * 32) + a7) - 96)) hx hb dX11_spelled_150 rfl ?_
              refine lv_goto (tgt := 156) hx hb dX11_spelled_151 (by decide) ?_
              exact g_lret hQ C hr hlocks hP hS dX11_spelled_156 ⟨((((((((((a1 - 96) * 32) + a5) - 96) * 32) + a6) - 96) * 32) + a7) - 96), rfl, rfl, rfl, rfl, (by unfold spW; (first | rw [stp_p (x := a2) (by omega)] | rw [stp_n (x := a2) (by omega)]); (first | rw [stp_p (x := a3) (by omega)] | rw [stp_n (x := a3) (by omega)]); (first | rw [stp_p (x := a4) (by omega)] | rw [stp_n (x := a4) (by omega)]); (first | rw [stp_p (x := a5) (by omega)] | rw [stp_n (x := a5) (by omega)]); (first | rw [stp_p (x := a6) (by omega)] | rw [stp_n (x := a6) (by omega)]); (first | rw [stp_p (x := a7) (by omega)] | rw [stp_n (x := a7) (by omega)]))⟩
      · refine lv_lload hx hb dX11_spelled_60 (lv_at hl 0 rfl) ?_
        refine lv_ldc2 (v := iL 32) hx hb C.2.2.2.1 (C.2.2.1 _ (show Cond.constantLong RX11 176 (iL 32) ∈ gWs from mD_X11_176)) dX11_spelled_62 ?_
        refine gl_mul (z := ((a1 - 96) * 32)) hx hb dX11_spelled_65 rfl ?_
        refine lv_iload_n hx hb dX11_spelled_66 rfl (lv_at hl 4 rfl) ?_
        refine gi_i2l hx hb (by omega) dX11_spelled_67 ?_
        refine gl_add (z := (((a1 - 96) * 32) + a4)) hx hb dX11_spelled_68 rfl ?_
        refine lv_ldc2 (v := iL 96) hx hb C.2.2.2.1 (C.2.2.1 _ (show Cond.constantLong RX11 178 (iL 96) ∈ gWs from mD_X11_178)) dX11_spelled_69 ?_
        refine gl_sub (z := ((((a1 - 96) * 32) + a4) - 96)) hx hb dX11_spelled_72 rfl ?_
        refine lv_goto (tgt := 78) hx hb dX11_spelled_73 (by decide) ?_
        refine lv_lstore (lv' := [(7, .long (iL ((((a1 - 96) * 32) + a4) - 96))), (0, .int (iI a1)), (1, .int (iI a2)), (2, .int (iI a3)), (3, .int (iI a4)), (4, .int (iI a5)), (5, .int (iI a6)), (6, .int (iI a7))]) hx hb dX11_spelled_78 hl (by decide) rfl (fun ls hl => ?_)
        refine lv_iload hx hb dX11_spelled_80 (lv_at hl 5 rfl) ?_
        refine gi_zle (tgt := 102) hx hb dX11_spelled_82 (by decide) (by omega) (fun c_11 => ?_) (fun c_11 => ?_)
        · refine lv_lload hx hb dX11_spelled_102 (lv_at hl 0 rfl) ?_
          refine lv_lstore (lv' := [(7, .long (iL ((((a1 - 96) * 32) + a4) - 96))), (0, .int (iI a1)), (1, .int (iI a2)), (2, .int (iI a3)), (3, .int (iI a4)), (4, .int (iI a5)), (5, .int (iI a6)), (6, .int (iI a7))]) hx hb dX11_spelled_104 hl (by decide) rfl (fun ls hl => ?_)
          refine lv_iload hx hb dX11_spelled_106 (lv_at hl 6 rfl) ?_
          refine gi_zle (tgt := 128) hx hb dX11_spelled_108 (by decide) (by omega) (fun c_12 => ?_) (fun c_12 => ?_)
          · refine lv_lload hx hb dX11_spelled_128 (lv_at hl 0 rfl) ?_
            refine lv_lstore (lv' := [(7, .long (iL ((((a1 - 96) * 32) + a4) - 96))), (0, .int (iI a1)), (1, .int (iI a2)), (2, .int (iI a3)), (3, .int (iI a4)), (4, .int (iI a5)), (5, .int (iI a6)), (6, .int (iI a7))]) hx hb dX11_spelled_130 hl (by decide) rfl (fun ls hl => ?_)
            refine lv_iload hx hb dX11_spelled_132 (lv_at hl 7 rfl) ?_
            refine gi_zle (tgt := 154) hx hb dX11_spelled_134 (by decide) (by omega) (fun c_13 => ?_) (fun c_13 => ?_)
            · refine lv_lload hx hb dX11_spelled_154 (lv_at hl 0 rfl) ?_
              exact g_lret hQ C hr hlocks hP hS dX11_spelled_156 ⟨((((a1 - 96) * 32) + a4) - 96), rfl, rfl, rfl, rfl, (by unfold spW; (first | rw [stp_p (x := a2) (by omega)] | rw [stp_n (x := a2) (by omega)]); (first | rw [stp_p (x := a3) (by omega)] | rw [stp_n (x := a3) (by omega)]); (first | rw [stp_p (x := a4) (by omega)] | rw [stp_n (x := a4) (by omega)]); (first | rw [stp_p (x := a5) (by omega)] | rw [stp_n (x := a5) (by omega)]); (first | rw [stp_p (x := a6) (by omega)] | rw [stp_n (x := a6) (by omega)]); (first | rw [stp_p (x := a7) (by omega)] | rw [stp_n (x := a7) (by omega)]))⟩
            · refine lv_lload hx hb dX11_spelled_137 (lv_at hl 0 rfl) ?_
              refine lv_ldc2 (v := iL 32) hx hb C.2.2.2.1 (C.2.2.1 _ (show Cond.constantLong RX11 176 (iL 32) ∈ gWs from mD_X11_176)) dX11_spelled_139 ?_
              refine gl_mul (z := (((((a1 - 96) * 32) + a4) - 96) * 32)) hx hb dX11_spelled_142 rfl ?_
              refine lv_iload hx hb dX11_spelled_143 (lv_at hl 7 rfl) ?_
              refine gi_i2l hx hb (by omega) dX11_spelled_145 ?_
              refine gl_add (z := ((((((a1 - 96) * 32) + a4) - 96) * 32) + a7)) hx hb dX11_spelled_146 rfl ?_
              refine lv_ldc2 (v := iL 96) hx hb C.2.2.2.1 (C.2.2.1 _ (show Cond.constantLong RX11 178 (iL 96) ∈ gWs from mD_X11_178)) dX11_spelled_147 ?_
              refine gl_sub (z := (((((((a1 - 96) * 32) + a4) - 96) * 32) + a7) - 96)) hx hb dX11_spelled_150 rfl ?_
              refine lv_goto (tgt := 156) hx hb dX11_spelled_151 (by decide) ?_
              exact g_lret hQ C hr hlocks hP hS dX11_spelled_156 ⟨(((((((a1 - 96) * 32) + a4) - 96) * 32) + a7) - 96), rfl, rfl, rfl, rfl, (by unfold spW; (first | rw [stp_p (x := a2) (by omega)] | rw [stp_n (x := a2) (by omega)]); (first | rw [stp_p (x := a3) (by omega)] | rw [stp_n (x := a3) (by omega)]); (first | rw [stp_p (x := a4) (by omega)] | rw [stp_n (x := a4) (by omega)]); (first | rw [stp_p (x := a5) (by omega)] | rw [stp_n (x := a5) (by omega)]); (first | rw [stp_p (x := a6) (by omega)] | rw [stp_n (x := a6) (by omega)]); (first | rw [stp_p (x := a7) (by omega)] | rw [stp_n (x := a7) (by omega)]))⟩
          · refine lv_lload hx hb dX11_spelled_111 (lv_at hl 0 rfl) ?_
            refine lv_ldc2 (v := iL 32) hx hb C.2.2.2.1 (C.2.2.1 _ (show Cond.constantLong RX11 176 (iL 32) ∈ gWs from mD_X11_176)) dX11_spelled_113 ?_
            refine gl_mul (z := (((((a1 - 96) * 32) + a4) - 96) * 32)) hx hb dX11_spelled_116 rfl ?_
            refine lv_iload hx hb dX11_spelled_117 (lv_at hl 6 rfl) ?_
            refine gi_i2l hx hb (by omega) dX11_spelled_119 ?_
            refine gl_add (z := ((((((a1 - 96) * 32) + a4) - 96) * 32) + a6)) hx hb dX11_spelled_120 rfl ?_
            refine lv_ldc2 (v := iL 96) hx hb C.2.2.2.1 (C.2.2.1 _ (show Cond.constantLong RX11 178 (iL 96) ∈ gWs from mD_X11_178)) dX11_spelled_121 ?_
            refine gl_sub (z := (((((((a1 - 96) * 32) + a4) - 96) * 32) + a6) - 96)) hx hb dX11_spelled_124 rfl ?_
            refine lv_goto (tgt := 130) hx hb dX11_spelled_125 (by decide) ?_
            refine lv_lstore (lv' := [(7, .long (iL (((((((a1 - 96) * 32) + a4) - 96) * 32) + a6) - 96))), (0, .int (iI a1)), (1, .int (iI a2)), (2, .int (iI a3)), (3, .int (iI a4)), (4, .int (iI a5)), (5, .int (iI a6)), (6, .int (iI a7))]) hx hb dX11_spelled_130 hl (by decide) rfl (fun ls hl => ?_)
            refine lv_iload hx hb dX11_spelled_132 (lv_at hl 7 rfl) ?_
            refine gi_zle (tgt := 154) hx hb dX11_spelled_134 (by decide) (by omega) (fun c_14 => ?_) (fun c_14 => ?_)
            · refine lv_lload hx hb dX11_spelled_154 (lv_at hl 0 rfl) ?_
              exact g_lret hQ C hr hlocks hP hS dX11_spelled_156 ⟨(((((((a1 - 96) * 32) + a4) - 96) * 32) + a6) - 96), rfl, rfl, rfl, rfl, (by unfold spW; (first | rw [stp_p (x := a2) (by omega)] | rw [stp_n (x := a2) (by omega)]); (first | rw [stp_p (x := a3) (by omega)] | rw [stp_n (x := a3) (by omega)]); (first | rw [stp_p (x := a4) (by omega)] | rw [stp_n (x := a4) (by omega)]); (first | rw [stp_p (x := a5) (by omega)] | rw [stp_n (x := a5) (by omega)]); (first | rw [stp_p (x := a6) (by omega)] | rw [stp_n (x := a6) (by omega)]); (first | rw [stp_p (x := a7) (by omega)] | rw [stp_n (x := a7) (by omega)]))⟩
            · refine lv_lload hx hb dX11_spelled_137 (lv_at hl 0 rfl) ?_
              refine lv_ldc2 (v := iL 32) hx hb C.2.2.2.1 (C.2.2.1 _ (show Cond.constantLong RX11 176 (iL 32) ∈ gWs from mD_X11_176)) dX11_spelled_139 ?_
              refine gl_mul (z := ((((((((a1 - 96) * 32) + a4) - 96) * 32) + a6) - 96) * 32)) hx hb dX11_spelled_142 rfl ?_
              refine lv_iload hx hb dX11_spelled_143 (lv_at hl 7 rfl) ?_
              refine gi_i2l hx hb (by omega) dX11_spelled_145 ?_
              refine gl_add (z := (((((((((a1 - 96) * 32) + a4) - 96) * 32) + a6) - 96) * 32) + a7)) hx hb dX11_spelled_146 rfl ?_
              refine lv_ldc2 (v := iL 96) hx hb C.2.2.2.1 (C.2.2.1 _ (show Cond.constantLong RX11 178 (iL 96) ∈ gWs from mD_X11_178)) dX11_spelled_147 ?_
              refine gl_sub (z := ((((((((((a1 - 96) * 32) + a4) - 96) * 32) + a6) - 96) * 32) + a7) - 96)) hx hb dX11_spelled_150 rfl ?_
              refine lv_goto (tgt := 156) hx hb dX11_spelled_151 (by decide) ?_
              exact g_lret hQ C hr hlocks hP hS dX11_spelled_156 ⟨((((((((((a1 - 96) * 32) + a4) - 96) * 32) + a6) - 96) * 32) + a7) - 96), rfl, rfl, rfl, rfl, (by unfold spW; (first | rw [stp_p (x := a2) (by omega)] | rw [stp_n (x := a2) (by omega)]); (first | rw [stp_p (x := a3) (by omega)] | rw [stp_n (x := a3) (by omega)]); (first | rw [stp_p (x := a4) (by omega)] | rw [stp_n (x := a4) (by omega)]); (first | rw [stp_p (x := a5) (by omega)] | rw [stp_n (x := a5) (by omega)]); (first | rw [stp_p (x := a6) (by omega)] | rw [stp_n (x := a6) (by omega)]); (first | rw [stp_p (x := a7) (by omega)] | rw [stp_n (x := a7) (by omega)]))⟩
        · refine lv_lload hx hb dX11_spelled_85 (lv_at hl 0 rfl) ?_
          refine lv_ldc2 (v := iL 32) hx hb C.2.2.2.1 (C.2.2.1 _ (show Cond.constantLong RX11 176 (iL 32) ∈ gWs from mD_X11_176)) dX11_spelled_87 ?_
          refine gl_mul (z := (((((a1 - 96) * 32) + a4) - 96) * 32)) hx hb dX11_spelled_90 rfl ?_
          refine lv_iload hx hb dX11_spelled_91 (lv_at hl 5 rfl) ?_
          refine gi_i2l hx hb (by omega) dX11_spelled_93 ?_
          refine gl_add (z := ((((((a1 - 96) * 32) + a4) - 96) * 32) + a5)) hx hb dX11_spelled_94 rfl ?_
          refine lv_ldc2 (v := iL 96) hx hb C.2.2.2.1 (C.2.2.1 _ (show Cond.constantLong RX11 178 (iL 96) ∈ gWs from mD_X11_178)) dX11_spelled_95 ?_
          refine gl_sub (z := (((((((a1 - 96) * 32) + a4) - 96) * 32) + a5) - 96)) hx hb dX11_spelled_98 rfl ?_
          refine lv_goto (tgt := 104) hx hb dX11_spelled_99 (by decide) ?_
          refine lv_lstore (lv' := [(7, .long (iL (((((((a1 - 96) * 32) + a4) - 96) * 32) + a5) - 96))), (0, .int (iI a1)), (1, .int (iI a2)), (2, .int (iI a3)), (3, .int (iI a4)), (4, .int (iI a5)), (5, .int (iI a6)), (6, .int (iI a7))]) hx hb dX11_spelled_104 hl (by decide) rfl (fun ls hl => ?_)
          refine lv_iload hx hb dX11_spelled_106 (lv_at hl 6 rfl) ?_
          refine gi_zle (tgt := 128) hx hb dX11_spelled_108 (by decide) (by omega) (fun c_15 => ?_) (fun c_15 => ?_)
          · refine lv_lload hx hb dX11_spelled_128 (lv_at hl 0 rfl) ?_
            refine lv_lstore (lv' := [(7, .long (iL (((((((a1 - 96) * 32) + a4) - 96) * 32) + a5) - 96))), (0, .int (iI a1)), (1, .int (iI a2)), (2, .int (iI a3)), (3, .int (iI a4)), (4, .int (iI a5)), (5, .int (iI a6)), (6, .int (iI a7))]) hx hb dX11_spelled_130 hl (by decide) rfl (fun ls hl => ?_)
            refine lv_iload hx hb dX11_spelled_132 (lv_at hl 7 rfl) ?_
            refine gi_zle (tgt := 154) hx hb dX11_spelled_134 (by decide) (by omega) (fun c_16 => ?_) (fun c_16 => ?_)
            · refine lv_lload hx hb dX11_spelled_154 (lv_at hl 0 rfl) ?_
              exact g_lret hQ C hr hlocks hP hS dX11_spelled_156 ⟨(((((((a1 - 96) * 32) + a4) - 96) * 32) + a5) - 96), rfl, rfl, rfl, rfl, (by unfold spW; (first | rw [stp_p (x := a2) (by omega)] | rw [stp_n (x := a2) (by omega)]); (first | rw [stp_p (x := a3) (by omega)] | rw [stp_n (x := a3) (by omega)]); (first | rw [stp_p (x := a4) (by omega)] | rw [stp_n (x := a4) (by omega)]); (first | rw [stp_p (x := a5) (by omega)] | rw [stp_n (x := a5) (by omega)]); (first | rw [stp_p (x := a6) (by omega)] | rw [stp_n (x := a6) (by omega)]); (first | rw [stp_p (x := a7) (by omega)] | rw [stp_n (x := a7) (by omega)]))⟩
            · refine lv_lload hx hb dX11_spelled_137 (lv_at hl 0 rfl) ?_
              refine lv_ldc2 (v := iL 32) hx hb C.2.2.2.1 (C.2.2.1 _ (show Cond.constantLong RX11 176 (iL 32) ∈ gWs from mD_X11_176)) dX11_spelled_139 ?_
              refine gl_mul (z := ((((((((a1 - 96) * 32) + a4) - 96) * 32) + a5) - 96) * 32)) hx hb dX11_spelled_142 rfl ?_
              refine lv_iload hx hb dX11_spelled_143 (lv_at hl 7 rfl) ?_
              refine gi_i2l hx hb (by omega) dX11_spelled_145 ?_
              refine gl_add (z := (((((((((a1 - 96) * 32) + a4) - 96) * 32) + a5) - 96) * 32) + a7)) hx hb dX11_spelled_146 rfl ?_
              refine lv_ldc2 (v := iL 96) hx hb C.2.2.2.1 (C.2.2.1 _ (show Cond.constantLong RX11 178 (iL 96) ∈ gWs from mD_X11_178)) dX11_spelled_147 ?_
              refine gl_sub (z := ((((((((((a1 - 96) * 32) + a4) - 96) * 32) + a5) - 96) * 32) + a7) - 96)) hx hb dX11_spelled_150 rfl ?_
              refine lv_goto (tgt := 156) hx hb dX11_spelled_151 (by decide) ?_
              exact g_lret hQ C hr hlocks hP hS dX11_spelled_156 ⟨((((((((((a1 - 96) * 32) + a4) - 96) * 32) + a5) - 96) * 32) + a7) - 96), rfl, rfl, rfl, rfl, (by unfold spW; (first | rw [stp_p (x := a2) (by omega)] | rw [stp_n (x := a2) (by omega)]); (first | rw [stp_p (x := a3) (by omega)] | rw [stp_n (x := a3) (by omega)]); (first | rw [stp_p (x := a4) (by omega)] | rw [stp_n (x := a4) (by omega)]); (first | rw [stp_p (x := a5) (by omega)] | rw [stp_n (x := a5) (by omega)]); (first | rw [stp_p (x := a6) (by omega)] | rw [stp_n (x := a6) (by omega)]); (first | rw [stp_p (x := a7) (by omega)] | rw [stp_n (x := a7) (by omega)]))⟩
          · refine lv_lload hx hb dX11_spelled_111 (lv_at hl 0 rfl) ?_
            refine lv_ldc2 (v := iL 32) hx hb C.2.2.2.1 (C.2.2.1 _ (show Cond.constantLong RX11 176 (iL 32) ∈ gWs from mD_X11_176)) dX11_spelled_113 ?_
            refine gl_mul (z := ((((((((a1 - 96) * 32) + a4) - 96) * 32) + a5) - 96) * 32)) hx hb dX11_spelled_116 rfl ?_
            refine lv_iload hx hb dX11_spelled_117 (lv_at hl 6 rfl) ?_
            refine gi_i2l hx hb (by omega) dX11_spelled_119 ?_
            refine gl_add (z := (((((((((a1 - 96) * 32) + a4) - 96) * 32) + a5) - 96) * 32) + a6)) hx hb dX11_spelled_120 rfl ?_
            refine lv_ldc2 (v := iL 96) hx hb C.2.2.2.1 (C.2.2.1 _ (show Cond.constantLong RX11 178 (iL 96) ∈ gWs from mD_X11_178)) dX11_spelled_121 ?_
            refine gl_sub (z := ((((((((((a1 - 96) * 32) + a4) - 96) * 32) + a5) - 96) * 32) + a6) - 96)) hx hb dX11_spelled_124 rfl ?_
            refine lv_goto (tgt := 130) hx hb dX11_spelled_125 (by decide) ?_
            refine lv_lstore (lv' := [(7, .long (iL ((((((((((a1 - 96) * 32) + a4) - 96) * 32) + a5) - 96) * 32) + a6) - 96))), (0, .int (iI a1)), (1, .int (iI a2)), (2, .int (iI a3)), (3, .int (iI a4)), (4, .int (iI a5)), (5, .int (iI a6)), (6, .int (iI a7))]) hx hb dX11_spelled_130 hl (by decide) rfl (fun ls hl => ?_)
            refine lv_iload hx hb dX11_spelled_132 (lv_at hl 7 rfl) ?_
            refine gi_zle (tgt := 154) hx hb dX11_spelled_134 (by decide) (by omega) (fun c_17 => ?_) (fun c_17 => ?_)
            · refine lv_lload hx hb dX11_spelled_154 (lv_at hl 0 rfl) ?_
              exact g_lret hQ C hr hlocks hP hS dX11_spelled_156 ⟨((((((((((a1 - 96) * 32) + a4) - 96) * 32) + a5) - 96) * 32) + a6) - 96), rfl, rfl, rfl, rfl, (by unfold spW; (first | rw [stp_p (x := a2) (by omega)] | rw [stp_n (x := a2) (by omega)]); (first | rw [stp_p (x := a3) (by omega)] | rw [stp_n (x := a3) (by omega)]); (first | rw [stp_p (x := a4) (by omega)] | rw [stp_n (x := a4) (by omega)]); (first | rw [stp_p (x := a5) (by omega)] | rw [stp_n (x := a5) (by omega)]); (first | rw [stp_p (x := a6) (by omega)] | rw [stp_n (x := a6) (by omega)]); (first | rw [stp_p (x := a7) (by omega)] | rw [stp_n (x := a7) (by omega)]))⟩
            · refine lv_lload hx hb dX11_spelled_137 (lv_at hl 0 rfl) ?_
              refine lv_ldc2 (v := iL 32) hx hb C.2.2.2.1 (C.2.2.1 _ (show Cond.constantLong RX11 176 (iL 32) ∈ gWs from mD_X11_176)) dX11_spelled_139 ?_
              refine gl_mul (z := (((((((((((a1 - 96) * 32) + a4) - 96) * 32) + a5) - 96) * 32) + a6) - 96) * 32)) hx hb dX11_spelled_142 rfl ?_
              refine lv_iload hx hb dX11_spelled_143 (lv_at hl 7 rfl) ?_
              refine gi_i2l hx hb (by omega) dX11_spelled_145 ?_
              refine gl_add (z := ((((((((((((a1 - 96) * 32) + a4) - 96) * 32) + a5) - 96) * 32) + a6) - 96) * 32) + a7)) hx hb dX11_spelled_146 rfl ?_
              refine lv_ldc2 (v := iL 96) hx hb C.2.2.2.1 (C.2.2.1 _ (show Cond.constantLong RX11 178 (iL 96) ∈ gWs from mD_X11_178)) dX11_spelled_147 ?_
              refine gl_sub (z := (((((((((((((a1 - 96) * 32) + a4) - 96) * 32) + a5) - 96) * 32) + a6) - 96) * 32) + a7) - 96)) hx hb dX11_spelled_150 rfl ?_
              refine lv_goto (tgt := 156) hx hb dX11_spelled_151 (by decide) ?_
              exact g_lret hQ C hr hlocks hP hS dX11_spelled_156 ⟨(((((((((((((a1 - 96) * 32) + a4) - 96) * 32) + a5) - 96) * 32) + a6) - 96) * 32) + a7) - 96), rfl, rfl, rfl, rfl, (by unfold spW; (first | rw [stp_p (x := a2) (by omega)] | rw [stp_n (x := a2) (by omega)]); (first | rw [stp_p (x := a3) (by omega)] | rw [stp_n (x := a3) (by omega)]); (first | rw [stp_p (x := a4) (by omega)] | rw [stp_n (x := a4) (by omega)]); (first | rw [stp_p (x := a5) (by omega)] | rw [stp_n (x := a5) (by omega)]); (first | rw [stp_p (x := a6) (by omega)] | rw [stp_n (x := a6) (by omega)]); (first | rw [stp_p (x := a7) (by omega)] | rw [stp_n (x := a7) (by omega)]))⟩
    · refine lv_lload hx hb dX11_spelled_36 (lv_at hl 0 rfl) ?_
      refine lv_ldc2 (v := iL 32) hx hb C.2.2.2.1 (C.2.2.1 _ (show Cond.constantLong RX11 176 (iL 32) ∈ gWs from mD_X11_176)) dX11_spelled_38 ?_
      refine gl_mul (z := ((a1 - 96) * 32)) hx hb dX11_spelled_41 rfl ?_
      refine lv_iload_n hx hb dX11_spelled_42 rfl (lv_at hl 3 rfl) ?_
      refine gi_i2l hx hb (by omega) dX11_spelled_43 ?_
      refine gl_add (z := (((a1 - 96) * 32) + a3)) hx hb dX11_spelled_44 rfl ?_
      refine lv_ldc2 (v := iL 96) hx hb C.2.2.2.1 (C.2.2.1 _ (show Cond.constantLong RX11 178 (iL 96) ∈ gWs from mD_X11_178)) dX11_spelled_45 ?_
      refine gl_sub (z := ((((a1 - 96) * 32) + a3) - 96)) hx hb dX11_spelled_48 rfl ?_
      refine lv_goto (tgt := 54) hx hb dX11_spelled_49 (by decide) ?_
      refine lv_lstore (lv' := [(7, .long (iL ((((a1 - 96) * 32) + a3) - 96))), (0, .int (iI a1)), (1, .int (iI a2)), (2, .int (iI a3)), (3, .int (iI a4)), (4, .int (iI a5)), (5, .int (iI a6)), (6, .int (iI a7))]) hx hb dX11_spelled_54 hl (by decide) rfl (fun ls hl => ?_)
      refine lv_iload_n hx hb dX11_spelled_56 rfl (lv_at hl 4 rfl) ?_
      refine gi_zle (tgt := 76) hx hb dX11_spelled_57 (by decide) (by omega) (fun c_18 => ?_) (fun c_18 => ?_)
      · refine lv_lload hx hb dX11_spelled_76 (lv_at hl 0 rfl) ?_
        refine lv_lstore (lv' := [(7, .long (iL ((((a1 - 96) * 32) + a3) - 96))), (0, .int (iI a1)), (1, .int (iI a2)), (2, .int (iI a3)), (3, .int (iI a4)), (4, .int (iI a5)), (5, .int (iI a6)), (6, .int (iI a7))]) hx hb dX11_spelled_78 hl (by decide) rfl (fun ls hl => ?_)
        refine lv_iload hx hb dX11_spelled_80 (lv_at hl 5 rfl) ?_
        refine gi_zle (tgt := 102) hx hb dX11_spelled_82 (by decide) (by omega) (fun c_19 => ?_) (fun c_19 => ?_)
        · refine lv_lload hx hb dX11_spelled_102 (lv_at hl 0 rfl) ?_
          refine lv_lstore (lv' := [(7, .long (iL ((((a1 - 96) * 32) + a3) - 96))), (0, .int (iI a1)), (1, .int (iI a2)), (2, .int (iI a3)), (3, .int (iI a4)), (4, .int (iI a5)), (5, .int (iI a6)), (6, .int (iI a7))]) hx hb dX11_spelled_104 hl (by decide) rfl (fun ls hl => ?_)
          refine lv_iload hx hb dX11_spelled_106 (lv_at hl 6 rfl) ?_
          refine gi_zle (tgt := 128) hx hb dX11_spelled_108 (by decide) (by omega) (fun c_20 => ?_) (fun c_20 => ?_)
          · refine lv_lload hx hb dX11_spelled_128 (lv_at hl 0 rfl) ?_
            refine lv_lstore (lv' := [(7, .long (iL ((((a1 - 96) * 32) + a3) - 96))), (0, .int (iI a1)), (1, .int (iI a2)), (2, .int (iI a3)), (3, .int (iI a4)), (4, .int (iI a5)), (5, .int (iI a6)), (6, .int (iI a7))]) hx hb dX11_spelled_130 hl (by decide) rfl (fun ls hl => ?_)
            refine lv_iload hx hb dX11_spelled_132 (lv_at hl 7 rfl) ?_
            refine gi_zle (tgt := 154) hx hb dX11_spelled_134 (by decide) (by omega) (fun c_21 => ?_) (fun c_21 => ?_)
            · refine lv_lload hx hb dX11_spelled_154 (lv_at hl 0 rfl) ?_
              exact g_lret hQ C hr hlocks hP hS dX11_spelled_156 ⟨((((a1 - 96) * 32) + a3) - 96), rfl, rfl, rfl, rfl, (by unfold spW; (first | rw [stp_p (x := a2) (by omega)] | rw [stp_n (x := a2) (by omega)]); (first | rw [stp_p (x := a3) (by omega)] | rw [stp_n (x := a3) (by omega)]); (first | rw [stp_p (x := a4) (by omega)] | rw [stp_n (x := a4) (by omega)]); (first | rw [stp_p (x := a5) (by omega)] | rw [stp_n (x := a5) (by omega)]); (first | rw [stp_p (x := a6) (by omega)] | rw [stp_n (x := a6) (by omega)]); (first | rw [stp_p (x := a7) (by omega)] | rw [stp_n (x := a7) (by omega)]))⟩
            · refine lv_lload hx hb dX11_spelled_137 (lv_at hl 0 rfl) ?_
              refine lv_ldc2 (v := iL 32) hx hb C.2.2.2.1 (C.2.2.1 _ (show Cond.constantLong RX11 176 (iL 32) ∈ gWs from mD_X11_176)) dX11_spelled_139 ?_
              refine gl_mul (z := (((((a1 - 96) * 32) + a3) - 96) * 32)) hx hb dX11_spelled_142 rfl ?_
              refine lv_iload hx hb dX11_spelled_143 (lv_at hl 7 rfl) ?_
              refine gi_i2l hx hb (by omega) dX11_spelled_145 ?_
              refine gl_add (z := ((((((a1 - 96) * 32) + a3) - 96) * 32) + a7)) hx hb dX11_spelled_146 rfl ?_
              refine lv_ldc2 (v := iL 96) hx hb C.2.2.2.1 (C.2.2.1 _ (show Cond.constantLong RX11 178 (iL 96) ∈ gWs from mD_X11_178)) dX11_spelled_147 ?_
              refine gl_sub (z := (((((((a1 - 96) * 32) + a3) - 96) * 32) + a7) - 96)) hx hb dX11_spelled_150 rfl ?_
              refine lv_goto (tgt := 156) hx hb dX11_spelled_151 (by decide) ?_
              exact g_lret hQ C hr hlocks hP hS dX11_spelled_156 ⟨(((((((a1 - 96) * 32) + a3) - 96) * 32) + a7) - 96), rfl, rfl, rfl, rfl, (by unfold spW; (first | rw [stp_p (x := a2) (by omega)] | rw [stp_n (x := a2) (by omega)]); (first | rw [stp_p (x := a3) (by omega)] | rw [stp_n (x := a3) (by omega)]); (first | rw [stp_p (x := a4) (by omega)] | rw [stp_n (x := a4) (by omega)]); (first | rw [stp_p (x := a5) (by omega)] | rw [stp_n (x := a5) (by omega)]); (first | rw [stp_p (x := a6) (by omega)] | rw [stp_n (x := a6) (by omega)]); (first | rw [stp_p (x := a7) (by omega)] | rw [stp_n (x := a7) (by omega)]))⟩
          · refine lv_lload hx hb dX11_spelled_111 (lv_at hl 0 rfl) ?_
            refine lv_ldc2 (v := iL 32) hx hb C.2.2.2.1 (C.2.2.1 _ (show Cond.constantLong RX11 176 (iL 32) ∈ gWs from mD_X11_176)) dX11_spelled_113 ?_
            refine gl_mul (z := (((((a1 - 96) * 32) + a3) - 96) * 32)) hx hb dX11_spelled_116 rfl ?_
            refine lv_iload hx hb dX11_spelled_117 (lv_at hl 6 rfl) ?_
            refine gi_i2l hx hb (by omega) dX11_spelled_119 ?_
            refine gl_add (z := ((((((a1 - 96) * 32) + a3) - 96) * 32) + a6)) hx hb dX11_spelled_120 rfl ?_
            refine lv_ldc2 (v := iL 96) hx hb C.2.2.2.1 (C.2.2.1 _ (show Cond.constantLong RX11 178 (iL 96) ∈ gWs from mD_X11_178)) dX11_spelled_121 ?_
            refine gl_sub (z := (((((((a1 - 96) * 32) + a3) - 96) * 32) + a6) - 96)) hx hb dX11_spelled_124 rfl ?_
            refine lv_goto (tgt := 130) hx hb dX11_spelled_125 (by decide) ?_
            refine lv_lstore (lv' := [(7, .long (iL (((((((a1 - 96) * 32) + a3) - 96) * 32) + a6) - 96))), (0, .int (iI a1)), (1, .int (iI a2)), (2, .int (iI a3)), (3, .int (iI a4)), (4, .int (iI a5)), (5, .int (iI a6)), (6, .int (iI a7))]) hx hb dX11_spelled_130 hl (by decide) rfl (fun ls hl => ?_)
            refine lv_iload hx hb dX11_spelled_132 (lv_at hl 7 rfl) ?_
            refine gi_zle (tgt := 154) hx hb dX11_spelled_134 (by decide) (by omega) (fun c_22 => ?_) (fun c_22 => ?_)
            · refine lv_lload hx hb dX11_spelled_154 (lv_at hl 0 rfl) ?_
              exact g_lret hQ C hr hlocks hP hS dX11_spelled_156 ⟨(((((((a1 - 96) * 32) + a3) - 96) * 32) + a6) - 96), rfl, rfl, rfl, rfl, (by unfold spW; (first | rw [stp_p (x := a2) (by omega)] | rw [stp_n (x := a2) (by omega)]); (first | rw [stp_p (x := a3) (by omega)] | rw [stp_n (x := a3) (by omega)]); (first | rw [stp_p (x := a4) (by omega)] | rw [stp_n (x := a4) (by omega)]); (first | rw [stp_p (x := a5) (by omega)] | rw [stp_n (x := a5) (by omega)]); (first | rw [stp_p (x := a6) (by omega)] | rw [stp_n (x := a6) (by omega)]); (first | rw [stp_p (x := a7) (by omega)] | rw [stp_n (x := a7) (by omega)]))⟩
            · refine lv_lload hx hb dX11_spelled_137 (lv_at hl 0 rfl) ?_
              refine lv_ldc2 (v := iL 32) hx hb C.2.2.2.1 (C.2.2.1 _ (show Cond.constantLong RX11 176 (iL 32) ∈ gWs from mD_X11_176)) dX11_spelled_139 ?_
              refine gl_mul (z := ((((((((a1 - 96) * 32) + a3) - 96) * 32) + a6) - 96) * 32)) hx hb dX11_spelled_142 rfl ?_
              refine lv_iload hx hb dX11_spelled_143 (lv_at hl 7 rfl) ?_
              refine gi_i2l hx hb (by omega) dX11_spelled_145 ?_
              refine gl_add (z := (((((((((a1 - 96) * 32) + a3) - 96) * 32) + a6) - 96) * 32) + a7)) hx hb dX11_spelled_146 rfl ?_
              refine lv_ldc2 (v := iL 96) hx hb C.2.2.2.1 (C.2.2.1 _ (show Cond.constantLong RX11 178 (iL 96) ∈ gWs from mD_X11_178)) dX11_spelled_147 ?_
              refine gl_sub (z := ((((((((((a1 - 96) * 32) + a3) - 96) * 32) + a6) - 96) * 32) + a7) - 96)) hx hb dX11_spelled_150 rfl ?_
              refine lv_goto (tgt := 156) hx hb dX11_spelled_151 (by decide) ?_
              exact g_lret hQ C hr hlocks hP hS dX11_spelled_156 ⟨((((((((((a1 - 96) * 32) + a3) - 96) * 32) + a6) - 96) * 32) + a7) - 96), rfl, rfl, rfl, rfl, (by unfold spW; (first | rw [stp_p (x := a2) (by omega)] | rw [stp_n (x := a2) (by omega)]); (first | rw [stp_p (x := a3) (by omega)] | rw [stp_n (x := a3) (by omega)]); (first | rw [stp_p (x := a4) (by omega)] | rw [stp_n (x := a4) (by omega)]); (first | rw [stp_p (x := a5) (by omega)] | rw [stp_n (x := a5) (by omega)]); (first | rw [stp_p (x := a6) (by omega)] | rw [stp_n (x := a6) (by omega)]); (first | rw [stp_p (x := a7) (by omega)] | rw [stp_n (x := a7) (by omega)]))⟩
        · refine lv_lload hx hb dX11_spelled_85 (lv_at hl 0 rfl) ?_
          refine lv_ldc2 (v := iL 32) hx hb C.2.2.2.1 (C.2.2.1 _ (show Cond.constantLong RX11 176 (iL 32) ∈ gWs from mD_X11_176)) dX11_spelled_87 ?_
          refine gl_mul (z := (((((a1 - 96) * 32) + a3) - 96) * 32)) hx hb dX11_spelled_90 rfl ?_
          refine lv_iload hx hb dX11_spelled_91 (lv_at hl 5 rfl) ?_
          refine gi_i2l hx hb (by omega) dX11_spelled_93 ?_
          refine gl_add (z := ((((((a1 - 96) * 32) + a3) - 96) * 32) + a5)) hx hb dX11_spelled_94 rfl ?_
          refine lv_ldc2 (v := iL 96) hx hb C.2.2.2.1 (C.2.2.1 _ (show Cond.constantLong RX11 178 (iL 96) ∈ gWs from mD_X11_178)) dX11_spelled_95 ?_
          refine gl_sub (z := (((((((a1 - 96) * 32) + a3) - 96) * 32) + a5) - 96)) hx hb dX11_spelled_98 rfl ?_
          refine lv_goto (tgt := 104) hx hb dX11_spelled_99 (by decide) ?_
          refine lv_lstore (lv' := [(7, .long (iL (((((((a1 - 96) * 32) + a3) - 96) * 32) + a5) - 96))), (0, .int (iI a1)), (1, .int (iI a2)), (2, .int (iI a3)), (3, .int (iI a4)), (4, .int (iI a5)), (5, .int (iI a6)), (6, .int (iI a7))]) hx hb dX11_spelled_104 hl (by decide) rfl (fun ls hl => ?_)
          refine lv_iload hx hb dX11_spelled_106 (lv_at hl 6 rfl) ?_
          refine gi_zle (tgt := 128) hx hb dX11_spelled_108 (by decide) (by omega) (fun c_23 => ?_) (fun c_23 => ?_)
          · refine lv_lload hx hb dX11_spelled_128 (lv_at hl 0 rfl) ?_
            refine lv_lstore (lv' := [(7, .long (iL (((((((a1 - 96) * 32) + a3) - 96) * 32) + a5) - 96))), (0, .int (iI a1)), (1, .int (iI a2)), (2, .int (iI a3)), (3, .int (iI a4)), (4, .int (iI a5)), (5, .int (iI a6)), (6, .int (iI a7))]) hx hb dX11_spelled_130 hl (by decide) rfl (fun ls hl => ?_)
            refine lv_iload hx hb dX11_spelled_132 (lv_at hl 7 rfl) ?_
            refine gi_zle (tgt := 154) hx hb dX11_spelled_134 (by decide) (by omega) (fun c_24 => ?_) (fun c_24 => ?_)
            · refine lv_lload hx hb dX11_spelled_154 (lv_at hl 0 rfl) ?_
              exact g_lret hQ C hr hlocks hP hS dX11_spelled_156 ⟨(((((((a1 - 96) * 32) + a3) - 96) * 32) + a5) - 96), rfl, rfl, rfl, rfl, (by unfold spW; (first | rw [stp_p (x := a2) (by omega)] | rw [stp_n (x := a2) (by omega)]); (first | rw [stp_p (x := a3) (by omega)] | rw [stp_n (x := a3) (by omega)]); (first | rw [stp_p (x := a4) (by omega)] | rw [stp_n (x := a4) (by omega)]); (first | rw [stp_p (x := a5) (by omega)] | rw [stp_n (x := a5) (by omega)]); (first | rw [stp_p (x := a6) (by omega)] | rw [stp_n (x := a6) (by omega)]); (first | rw [stp_p (x := a7) (by omega)] | rw [stp_n (x := a7) (by omega)]))⟩
            · refine lv_lload hx hb dX11_spelled_137 (lv_at hl 0 rfl) ?_
              refine lv_ldc2 (v := iL 32) hx hb C.2.2.2.1 (C.2.2.1 _ (show Cond.constantLong RX11 176 (iL 32) ∈ gWs from mD_X11_176)) dX11_spelled_139 ?_
              refine gl_mul (z := ((((((((a1 - 96) * 32) + a3) - 96) * 32) + a5) - 96) * 32)) hx hb dX11_spelled_142 rfl ?_
              refine lv_iload hx hb dX11_spelled_143 (lv_at hl 7 rfl) ?_
              refine gi_i2l hx hb (by omega) dX11_spelled_145 ?_
              refine gl_add (z := (((((((((a1 - 96) * 32) + a3) - 96) * 32) + a5) - 96) * 32) + a7)) hx hb dX11_spelled_146 rfl ?_
              refine lv_ldc2 (v := iL 96) hx hb C.2.2.2.1 (C.2.2.1 _ (show Cond.constantLong RX11 178 (iL 96) ∈ gWs from mD_X11_178)) dX11_spelled_147 ?_
              refine gl_sub (z := ((((((((((a1 - 96) * 32) + a3) - 96) * 32) + a5) - 96) * 32) + a7) - 96)) hx hb dX11_spelled_150 rfl ?_
              refine lv_goto (tgt := 156) hx hb dX11_spelled_151 (by decide) ?_
              exact g_lret hQ C hr hlocks hP hS dX11_spelled_156 ⟨((((((((((a1 - 96) * 32) + a3) - 96) * 32) + a5) - 96) * 32) + a7) - 96), rfl, rfl, rfl, rfl, (by unfold spW; (first | rw [stp_p (x := a2) (by omega)] | rw [stp_n (x := a2) (by omega)]); (first | rw [stp_p (x := a3) (by omega)] | rw [stp_n (x := a3) (by omega)]); (first | rw [stp_p (x := a4) (by omega)] | rw [stp_n (x := a4) (by omega)]); (first | rw [stp_p (x := a5) (by omega)] | rw [stp_n (x := a5) (by omega)]); (first | rw [stp_p (x := a6) (by omega)] | rw [stp_n (x := a6) (by omega)]); (first | rw [stp_p (x := a7) (by omega)] | rw [stp_n (x := a7) (by omega)]))⟩
          · refine lv_lload hx hb dX11_spelled_111 (lv_at hl 0 rfl) ?_
            refine lv_ldc2 (v := iL 32) hx hb C.2.2.2.1 (C.2.2.1 _ (show Cond.constantLong RX11 176 (iL 32) ∈ gWs from mD_X11_176)) dX11_spelled_113 ?_
            refine gl_mul (z := ((((((((a1 - 96) * 32) + a3) - 96) * 32) + a5) - 96) * 32)) hx hb dX11_spelled_116 rfl ?_
            refine lv_iload hx hb dX11_spelled_117 (lv_at hl 6 rfl) ?_
            refine gi_i2l hx hb (by omega) dX11_spelled_119 ?_
            refine gl_add (z := (((((((((a1 - 96) * 32) + a3) - 96) * 32) + a5) - 96) * 32) + a6)) hx hb dX11_spelled_120 rfl ?_
            refine lv_ldc2 (v := iL 96) hx hb C.2.2.2.1 (C.2.2.1 _ (show Cond.constantLong RX11 178 (iL 96) ∈ gWs from mD_X11_178)) dX11_spelled_121 ?_
            refine gl_sub (z := ((((((((((a1 - 96) * 32) + a3) - 96) * 32) + a5) - 96) * 32) + a6) - 96)) hx hb dX11_spelled_124 rfl ?_
            refine lv_goto (tgt := 130) hx hb dX11_spelled_125 (by decide) ?_
            refine lv_lstore (lv' := [(7, .long (iL ((((((((((a1 - 96) * 32) + a3) - 96) * 32) + a5) - 96) * 32) + a6) - 96))), (0, .int (iI a1)), (1, .int (iI a2)), (2, .int (iI a3)), (3, .int (iI a4)), (4, .int (iI a5)), (5, .int (iI a6)), (6, .int (iI a7))]) hx hb dX11_spelled_130 hl (by decide) rfl (fun ls hl => ?_)
            refine lv_iload hx hb dX11_spelled_132 (lv_at hl 7 rfl) ?_
            refine gi_zle (tgt := 154) hx hb dX11_spelled_134 (by decide) (by omega) (fun c_25 => ?_) (fun c_25 => ?_)
            · refine lv_lload hx hb dX11_spelled_154 (lv_at hl 0 rfl) ?_
              exact g_lret hQ C hr hlocks hP hS dX11_spelled_156 ⟨((((((((((a1 - 96) * 32) + a3) - 96) * 32) + a5) - 96) * 32) + a6) - 96), rfl, rfl, rfl, rfl, (by unfold spW; (first | rw [stp_p (x := a2) (by omega)] | rw [stp_n (x := a2) (by omega)]); (first | rw [stp_p (x := a3) (by omega)] | rw [stp_n (x := a3) (by omega)]); (first | rw [stp_p (x := a4) (by omega)] | rw [stp_n (x := a4) (by omega)]); (first | rw [stp_p (x := a5) (by omega)] | rw [stp_n (x := a5) (by omega)]); (first | rw [stp_p (x := a6) (by omega)] | rw [stp_n (x := a6) (by omega)]); (first | rw [stp_p (x := a7) (by omega)] | rw [stp_n (x := a7) (by omega)]))⟩
            · refine lv_lload hx hb dX11_spelled_137 (lv_at hl 0 rfl) ?_
              refine lv_ldc2 (v := iL 32) hx hb C.2.2.2.1 (C.2.2.1 _ (show Cond.constantLong RX11 176 (iL 32) ∈ gWs from mD_X11_176)) dX11_spelled_139 ?_
              refine gl_mul (z := (((((((((((a1 - 96) * 32) + a3) - 96) * 32) + a5) - 96) * 32) + a6) - 96) * 32)) hx hb dX11_spelled_142 rfl ?_
              refine lv_iload hx hb dX11_spelled_143 (lv_at hl 7 rfl) ?_
              refine gi_i2l hx hb (by omega) dX11_spelled_145 ?_
              refine gl_add (z := ((((((((((((a1 - 96) * 32) + a3) - 96) * 32) + a5) - 96) * 32) + a6) - 96) * 32) + a7)) hx hb dX11_spelled_146 rfl ?_
              refine lv_ldc2 (v := iL 96) hx hb C.2.2.2.1 (C.2.2.1 _ (show Cond.constantLong RX11 178 (iL 96) ∈ gWs from mD_X11_178)) dX11_spelled_147 ?_
              refine gl_sub (z := (((((((((((((a1 - 96) * 32) + a3) - 96) * 32) + a5) - 96) * 32) + a6) - 96) * 32) + a7) - 96)) hx hb dX11_spelled_150 rfl ?_
              refine lv_goto (tgt := 156) hx hb dX11_spelled_151 (by decide) ?_
              exact g_lret hQ C hr hlocks hP hS dX11_spelled_156 ⟨(((((((((((((a1 - 96) * 32) + a3) - 96) * 32) + a5) - 96) * 32) + a6) - 96) * 32) + a7) - 96), rfl, rfl, rfl, rfl, (by unfold spW; (first | rw [stp_p (x := a2) (by omega)] | rw [stp_n (x := a2) (by omega)]); (first | rw [stp_p (x := a3) (by omega)] | rw [stp_n (x := a3) (by omega)]); (first | rw [stp_p (x := a4) (by omega)] | rw [stp_n (x := a4) (by omega)]); (first | rw [stp_p (x := a5) (by omega)] | rw [stp_n (x := a5) (by omega)]); (first | rw [stp_p (x := a6) (by omega)] | rw [stp_n (x := a6) (by omega)]); (first | rw [stp_p (x := a7) (by omega)] | rw [stp_n (x := a7) (by omega)]))⟩
      · refine lv_lload hx hb dX11_spelled_60 (lv_at hl 0 rfl) ?_
        refine lv_ldc2 (v := iL 32) hx hb C.2.2.2.1 (C.2.2.1 _ (show Cond.constantLong RX11 176 (iL 32) ∈ gWs from mD_X11_176)) dX11_spelled_62 ?_
        refine gl_mul (z := (((((a1 - 96) * 32) + a3) - 96) * 32)) hx hb dX11_spelled_65 rfl ?_
        refine lv_iload_n hx hb dX11_spelled_66 rfl (lv_at hl 4 rfl) ?_
        refine gi_i2l hx hb (by omega) dX11_spelled_67 ?_
        refine gl_add (z := ((((((a1 - 96) * 32) + a3) - 96) * 32) + a4)) hx hb dX11_spelled_68 rfl ?_
        refine lv_ldc2 (v := iL 96) hx hb C.2.2.2.1 (C.2.2.1 _ (show Cond.constantLong RX11 178 (iL 96) ∈ gWs from mD_X11_178)) dX11_spelled_69 ?_
        refine gl_sub (z := (((((((a1 - 96) * 32) + a3) - 96) * 32) + a4) - 96)) hx hb dX11_spelled_72 rfl ?_
        refine lv_goto (tgt := 78) hx hb dX11_spelled_73 (by decide) ?_
        refine lv_lstore (lv' := [(7, .long (iL (((((((a1 - 96) * 32) + a3) - 96) * 32) + a4) - 96))), (0, .int (iI a1)), (1, .int (iI a2)), (2, .int (iI a3)), (3, .int (iI a4)), (4, .int (iI a5)), (5, .int (iI a6)), (6, .int (iI a7))]) hx hb dX11_spelled_78 hl (by decide) rfl (fun ls hl => ?_)
        refine lv_iload hx hb dX11_spelled_80 (lv_at hl 5 rfl) ?_
        refine gi_zle (tgt := 102) hx hb dX11_spelled_82 (by decide) (by omega) (fun c_26 => ?_) (fun c_26 => ?_)
        · refine lv_lload hx hb dX11_spelled_102 (lv_at hl 0 rfl) ?_
          refine lv_lstore (lv' := [(7, .long (iL (((((((a1 - 96) * 32) + a3) - 96) * 32) + a4) - 96))), (0, .int (iI a1)), (1, .int (iI a2)), (2, .int (iI a3)), (3, .int (iI a4)), (4, .int (iI a5)), (5, .int (iI a6)), (6, .int (iI a7))]) hx hb dX11_spelled_104 hl (by decide) rfl (fun ls hl => ?_)
          refine lv_iload hx hb dX11_spelled_106 (lv_at hl 6 rfl) ?_
          refine gi_zle (tgt := 128) hx hb dX11_spelled_108 (by decide) (by omega) (fun c_27 => ?_) (fun c_27 => ?_)
          · refine lv_lload hx hb dX11_spelled_128 (lv_at hl 0 rfl) ?_
            refine lv_lstore (lv' := [(7, .long (iL (((((((a1 - 96) * 32) + a3) - 96) * 32) + a4) - 96))), (0, .int (iI a1)), (1, .int (iI a2)), (2, .int (iI a3)), (3, .int (iI a4)), (4, .int (iI a5)), (5, .int (iI a6)), (6, .int (iI a7))]) hx hb dX11_spelled_130 hl (by decide) rfl (fun ls hl => ?_)
            refine lv_iload hx hb dX11_spelled_132 (lv_at hl 7 rfl) ?_
            refine gi_zle (tgt := 154) hx hb dX11_spelled_134 (by decide) (by omega) (fun c_28 => ?_) (fun c_28 => ?_)
            · refine lv_lload hx hb dX11_spelled_154 (lv_at hl 0 rfl) ?_
              exact g_lret hQ C hr hlocks hP hS dX11_spelled_156 ⟨(((((((a1 - 96) * 32) + a3) - 96) * 32) + a4) - 96), rfl, rfl, rfl, rfl, (by unfold spW; (first | rw [stp_p (x := a2) (by omega)] | rw [stp_n (x := a2) (by omega)]); (first | rw [stp_p (x := a3) (by omega)] | rw [stp_n (x := a3) (by omega)]); (first | rw [stp_p (x := a4) (by omega)] | rw [stp_n (x := a4) (by omega)]); (first | rw [stp_p (x := a5) (by omega)] | rw [stp_n (x := a5) (by omega)]); (first | rw [stp_p (x := a6) (by omega)] | rw [stp_n (x := a6) (by omega)]); (first | rw [stp_p (x := a7) (by omega)] | rw [stp_n (x := a7) (by omega)]))⟩
            · refine lv_lload hx hb dX11_spelled_137 (lv_at hl 0 rfl) ?_
              refine lv_ldc2 (v := iL 32) hx hb C.2.2.2.1 (C.2.2.1 _ (show Cond.constantLong RX11 176 (iL 32) ∈ gWs from mD_X11_176)) dX11_spelled_139 ?_
              refine gl_mul (z := ((((((((a1 - 96) * 32) + a3) - 96) * 32) + a4) - 96) * 32)) hx hb dX11_spelled_142 rfl ?_
              refine lv_iload hx hb dX11_spelled_143 (lv_at hl 7 rfl) ?_
              refine gi_i2l hx hb (by omega) dX11_spelled_145 ?_
              refine gl_add (z := (((((((((a1 - 96) * 32) + a3) - 96) * 32) + a4) - 96) * 32) + a7)) hx hb dX11_spelled_146 rfl ?_
              refine lv_ldc2 (v := iL 96) hx hb C.2.2.2.1 (C.2.2.1 _ (show Cond.constantLong RX11 178 (iL 96) ∈ gWs from mD_X11_178)) dX11_spelled_147 ?_
              refine gl_sub (z := ((((((((((a1 - 96) * 32) + a3) - 96) * 32) + a4) - 96) * 32) + a7) - 96)) hx hb dX11_spelled_150 rfl ?_
              refine lv_goto (tgt := 156) hx hb dX11_spelled_151 (by decide) ?_
              exact g_lret hQ C hr hlocks hP hS dX11_spelled_156 ⟨((((((((((a1 - 96) * 32) + a3) - 96) * 32) + a4) - 96) * 32) + a7) - 96), rfl, rfl, rfl, rfl, (by unfold spW; (first | rw [stp_p (x := a2) (by omega)] | rw [stp_n (x := a2) (by omega)]); (first | rw [stp_p (x := a3) (by omega)] | rw [stp_n (x := a3) (by omega)]); (first | rw [stp_p (x := a4) (by omega)] | rw [stp_n (x := a4) (by omega)]); (first | rw [stp_p (x := a5) (by omega)] | rw [stp_n (x := a5) (by omega)]); (first | rw [stp_p (x := a6) (by omega)] | rw [stp_n (x := a6) (by omega)]); (first | rw [stp_p (x := a7) (by omega)] | rw [stp_n (x := a7) (by omega)]))⟩
          · refine lv_lload hx hb dX11_spelled_111 (lv_at hl 0 rfl) ?_
            refine lv_ldc2 (v := iL 32) hx hb C.2.2.2.1 (C.2.2.1 _ (show Cond.constantLong RX11 176 (iL 32) ∈ gWs from mD_X11_176)) dX11_spelled_113 ?_
            refine gl_mul (z := ((((((((a1 - 96) * 32) + a3) - 96) * 32) + a4) - 96) * 32)) hx hb dX11_spelled_116 rfl ?_
            refine lv_iload hx hb dX11_spelled_117 (lv_at hl 6 rfl) ?_
            refine gi_i2l hx hb (by omega) dX11_spelled_119 ?_
            refine gl_add (z := (((((((((a1 - 96) * 32) + a3) - 96) * 32) + a4) - 96) * 32) + a6)) hx hb dX11_spelled_120 rfl ?_
            refine lv_ldc2 (v := iL 96) hx hb C.2.2.2.1 (C.2.2.1 _ (show Cond.constantLong RX11 178 (iL 96) ∈ gWs from mD_X11_178)) dX11_spelled_121 ?_
            refine gl_sub (z := ((((((((((a1 - 96) * 32) + a3) - 96) * 32) + a4) - 96) * 32) + a6) - 96)) hx hb dX11_spelled_124 rfl ?_
            refine lv_goto (tgt := 130) hx hb dX11_spelled_125 (by decide) ?_
            refine lv_lstore (lv' := [(7, .long (iL ((((((((((a1 - 96) * 32) + a3) - 96) * 32) + a4) - 96) * 32) + a6) - 96))), (0, .int (iI a1)), (1, .int (iI a2)), (2, .int (iI a3)), (3, .int (iI a4)), (4, .int (iI a5)), (5, .int (iI a6)), (6, .int (iI a7))]) hx hb dX11_spelled_130 hl (by decide) rfl (fun ls hl => ?_)
            refine lv_iload hx hb dX11_spelled_132 (lv_at hl 7 rfl) ?_
            refine gi_zle (tgt := 154) hx hb dX11_spelled_134 (by decide) (by omega) (fun c_29 => ?_) (fun c_29 => ?_)
            · refine lv_lload hx hb dX11_spelled_154 (lv_at hl 0 rfl) ?_
              exact g_lret hQ C hr hlocks hP hS dX11_spelled_156 ⟨((((((((((a1 - 96) * 32) + a3) - 96) * 32) + a4) - 96) * 32) + a6) - 96), rfl, rfl, rfl, rfl, (by unfold spW; (first | rw [stp_p (x := a2) (by omega)] | rw [stp_n (x := a2) (by omega)]); (first | rw [stp_p (x := a3) (by omega)] | rw [stp_n (x := a3) (by omega)]); (first | rw [stp_p (x := a4) (by omega)] | rw [stp_n (x := a4) (by omega)]); (first | rw [stp_p (x := a5) (by omega)] | rw [stp_n (x := a5) (by omega)]); (first | rw [stp_p (x := a6) (by omega)] | rw [stp_n (x := a6) (by omega)]); (first | rw [stp_p (x := a7) (by omega)] | rw [stp_n (x := a7) (by omega)]))⟩
            · refine lv_lload hx hb dX11_spelled_137 (lv_at hl 0 rfl) ?_
              refine lv_ldc2 (v := iL 32) hx hb C.2.2.2.1 (C.2.2.1 _ (show Cond.constantLong RX11 176 (iL 32) ∈ gWs from mD_X11_176)) dX11_spelled_139 ?_
              refine gl_mul (z := (((((((((((a1 - 96) * 32) + a3) - 96) * 32) + a4) - 96) * 32) + a6) - 96) * 32)) hx hb dX11_spelled_142 rfl ?_
              refine lv_iload hx hb dX11_spelled_143 (lv_at hl 7 rfl) ?_
              refine gi_i2l hx hb (by omega) dX11_spelled_145 ?_
              refine gl_add (z := ((((((((((((a1 - 96) * 32) + a3) - 96) * 32) + a4) - 96) * 32) + a6) - 96) * 32) + a7)) hx hb dX11_spelled_146 rfl ?_
              refine lv_ldc2 (v := iL 96) hx hb C.2.2.2.1 (C.2.2.1 _ (show Cond.constantLong RX11 178 (iL 96) ∈ gWs from mD_X11_178)) dX11_spelled_147 ?_
              refine gl_sub (z := (((((((((((((a1 - 96) * 32) + a3) - 96) * 32) + a4) - 96) * 32) + a6) - 96) * 32) + a7) - 96)) hx hb dX11_spelled_150 rfl ?_
              refine lv_goto (tgt := 156) hx hb dX11_spelled_151 (by decide) ?_
              exact g_lret hQ C hr hlocks hP hS dX11_spelled_156 ⟨(((((((((((((a1 - 96) * 32) + a3) - 96) * 32) + a4) - 96) * 32) + a6) - 96) * 32) + a7) - 96), rfl, rfl, rfl, rfl, (by unfold spW; (first | rw [stp_p (x := a2) (by omega)] | rw [stp_n (x := a2) (by omega)]); (first | rw [stp_p (x := a3) (by omega)] | rw [stp_n (x := a3) (by omega)]); (first | rw [stp_p (x := a4) (by omega)] | rw [stp_n (x := a4) (by omega)]); (first | rw [stp_p (x := a5) (by omega)] | rw [stp_n (x := a5) (by omega)]); (first | rw [stp_p (x := a6) (by omega)] | rw [stp_n (x := a6) (by omega)]); (first | rw [stp_p (x := a7) (by omega)] | rw [stp_n (x := a7) (by omega)]))⟩
        · refine lv_lload hx hb dX11_spelled_85 (lv_at hl 0 rfl) ?_
          refine lv_ldc2 (v := iL 32) hx hb C.2.2.2.1 (C.2.2.1 _ (show Cond.constantLong RX11 176 (iL 32) ∈ gWs from mD_X11_176)) dX11_spelled_87 ?_
          refine gl_mul (z := ((((((((a1 - 96) * 32) + a3) - 96) * 32) + a4) - 96) * 32)) hx hb dX11_spelled_90 rfl ?_
          refine lv_iload hx hb dX11_spelled_91 (lv_at hl 5 rfl) ?_
          refine gi_i2l hx hb (by omega) dX11_spelled_93 ?_
          refine gl_add (z := (((((((((a1 - 96) * 32) + a3) - 96) * 32) + a4) - 96) * 32) + a5)) hx hb dX11_spelled_94 rfl ?_
          refine lv_ldc2 (v := iL 96) hx hb C.2.2.2.1 (C.2.2.1 _ (show Cond.constantLong RX11 178 (iL 96) ∈ gWs from mD_X11_178)) dX11_spelled_95 ?_
          refine gl_sub (z := ((((((((((a1 - 96) * 32) + a3) - 96) * 32) + a4) - 96) * 32) + a5) - 96)) hx hb dX11_spelled_98 rfl ?_
          refine lv_goto (tgt := 104) hx hb dX11_spelled_99 (by decide) ?_
          refine lv_lstore (lv' := [(7, .long (iL ((((((((((a1 - 96) * 32) + a3) - 96) * 32) + a4) - 96) * 32) + a5) - 96))), (0, .int (iI a1)), (1, .int (iI a2)), (2, .int (iI a3)), (3, .int (iI a4)), (4, .int (iI a5)), (5, .int (iI a6)), (6, .int (iI a7))]) hx hb dX11_spelled_104 hl (by decide) rfl (fun ls hl => ?_)
          refine lv_iload hx hb dX11_spelled_106 (lv_at hl 6 rfl) ?_
          refine gi_zle (tgt := 128) hx hb dX11_spelled_108 (by decide) (by omega) (fun c_30 => ?_) (fun c_30 => ?_)
          · refine lv_lload hx hb dX11_spelled_128 (lv_at hl 0 rfl) ?_
            refine lv_lstore (lv' := [(7, .long (iL ((((((((((a1 - 96) * 32) + a3) - 96) * 32) + a4) - 96) * 32) + a5) - 96))), (0, .int (iI a1)), (1, .int (iI a2)), (2, .int (iI a3)), (3, .int (iI a4)), (4, .int (iI a5)), (5, .int (iI a6)), (6, .int (iI a7))]) hx hb dX11_spelled_130 hl (by decide) rfl (fun ls hl => ?_)
            refine lv_iload hx hb dX11_spelled_132 (lv_at hl 7 rfl) ?_
            refine gi_zle (tgt := 154) hx hb dX11_spelled_134 (by decide) (by omega) (fun c_31 => ?_) (fun c_31 => ?_)
            · refine lv_lload hx hb dX11_spelled_154 (lv_at hl 0 rfl) ?_
              exact g_lret hQ C hr hlocks hP hS dX11_spelled_156 ⟨((((((((((a1 - 96) * 32) + a3) - 96) * 32) + a4) - 96) * 32) + a5) - 96), rfl, rfl, rfl, rfl, (by unfold spW; (first | rw [stp_p (x := a2) (by omega)] | rw [stp_n (x := a2) (by omega)]); (first | rw [stp_p (x := a3) (by omega)] | rw [stp_n (x := a3) (by omega)]); (first | rw [stp_p (x := a4) (by omega)] | rw [stp_n (x := a4) (by omega)]); (first | rw [stp_p (x := a5) (by omega)] | rw [stp_n (x := a5) (by omega)]); (first | rw [stp_p (x := a6) (by omega)] | rw [stp_n (x := a6) (by omega)]); (first | rw [stp_p (x := a7) (by omega)] | rw [stp_n (x := a7) (by omega)]))⟩
            · refine lv_lload hx hb dX11_spelled_137 (lv_at hl 0 rfl) ?_
              refine lv_ldc2 (v := iL 32) hx hb C.2.2.2.1 (C.2.2.1 _ (show Cond.constantLong RX11 176 (iL 32) ∈ gWs from mD_X11_176)) dX11_spelled_139 ?_
              refine gl_mul (z := (((((((((((a1 - 96) * 32) + a3) - 96) * 32) + a4) - 96) * 32) + a5) - 96) * 32)) hx hb dX11_spelled_142 rfl ?_
              refine lv_iload hx hb dX11_spelled_143 (lv_at hl 7 rfl) ?_
              refine gi_i2l hx hb (by omega) dX11_spelled_145 ?_
              refine gl_add (z := ((((((((((((a1 - 96) * 32) + a3) - 96) * 32) + a4) - 96) * 32) + a5) - 96) * 32) + a7)) hx hb dX11_spelled_146 rfl ?_
              refine lv_ldc2 (v := iL 96) hx hb C.2.2.2.1 (C.2.2.1 _ (show Cond.constantLong RX11 178 (iL 96) ∈ gWs from mD_X11_178)) dX11_spelled_147 ?_
              refine gl_sub (z := (((((((((((((a1 - 96) * 32) + a3) - 96) * 32) + a4) - 96) * 32) + a5) - 96) * 32) + a7) - 96)) hx hb dX11_spelled_150 rfl ?_
              refine lv_goto (tgt := 156) hx hb dX11_spelled_151 (by decide) ?_
              exact g_lret hQ C hr hlocks hP hS dX11_spelled_156 ⟨(((((((((((((a1 - 96) * 32) + a3) - 96) * 32) + a4) - 96) * 32) + a5) - 96) * 32) + a7) - 96), rfl, rfl, rfl, rfl, (by unfold spW; (first | rw [stp_p (x := a2) (by omega)] | rw [stp_n (x := a2) (by omega)]); (first | rw [stp_p (x := a3) (by omega)] | rw [stp_n (x := a3) (by omega)]); (first | rw [stp_p (x := a4) (by omega)] | rw [stp_n (x := a4) (by omega)]); (first | rw [stp_p (x := a5) (by omega)] | rw [stp_n (x := a5) (by omega)]); (first | rw [stp_p (x := a6) (by omega)] | rw [stp_n (x := a6) (by omega)]); (first | rw [stp_p (x := a7) (by omega)] | rw [stp_n (x := a7) (by omega)]))⟩
          · refine lv_lload hx hb dX11_spelled_111 (lv_at hl 0 rfl) ?_
            refine lv_ldc2 (v := iL 32) hx hb C.2.2.2.1 (C.2.2.1 _ (show Cond.constantLong RX11 176 (iL 32) ∈ gWs from mD_X11_176)) dX11_spelled_113 ?_
            refine gl_mul (z := (((((((((((a1 - 96) * 32) + a3) - 96) * 32) + a4) - 96) * 32) + a5) - 96) * 32)) hx hb dX11_spelled_116 rfl ?_
            refine lv_iload hx hb dX11_spelled_117 (lv_at hl 6 rfl) ?_
            refine gi_i2l hx hb (by omega) dX11_spelled_119 ?_
            refine gl_add (z := ((((((((((((a1 - 96) * 32) + a3) - 96) * 32) + a4) - 96) * 32) + a5) - 96) * 32) + a6)) hx hb dX11_spelled_120 rfl ?_
            refine lv_ldc2 (v := iL 96) hx hb C.2.2.2.1 (C.2.2.1 _ (show Cond.constantLong RX11 178 (iL 96) ∈ gWs from mD_X11_178)) dX11_spelled_121 ?_
            refine gl_sub (z := (((((((((((((a1 - 96) * 32) + a3) - 96) * 32) + a4) - 96) * 32) + a5) - 96) * 32) + a6) - 96)) hx hb dX11_spelled_124 rfl ?_
            refine lv_goto (tgt := 130) hx hb dX11_spelled_125 (by decide) ?_
            refine lv_lstore (lv' := [(7, .long (iL (((((((((((((a1 - 96) * 32) + a3) - 96) * 32) + a4) - 96) * 32) + a5) - 96) * 32) + a6) - 96))), (0, .int (iI a1)), (1, .int (iI a2)), (2, .int (iI a3)), (3, .int (iI a4)), (4, .int (iI a5)), (5, .int (iI a6)), (6, .int (iI a7))]) hx hb dX11_spelled_130 hl (by decide) rfl (fun ls hl => ?_)
            refine lv_iload hx hb dX11_spelled_132 (lv_at hl 7 rfl) ?_
            refine gi_zle (tgt := 154) hx hb dX11_spelled_134 (by decide) (by omega) (fun c_32 => ?_) (fun c_32 => ?_)
            · refine lv_lload hx hb dX11_spelled_154 (lv_at hl 0 rfl) ?_
              exact g_lret hQ C hr hlocks hP hS dX11_spelled_156 ⟨(((((((((((((a1 - 96) * 32) + a3) - 96) * 32) + a4) - 96) * 32) + a5) - 96) * 32) + a6) - 96), rfl, rfl, rfl, rfl, (by unfold spW; (first | rw [stp_p (x := a2) (by omega)] | rw [stp_n (x := a2) (by omega)]); (first | rw [stp_p (x := a3) (by omega)] | rw [stp_n (x := a3) (by omega)]); (first | rw [stp_p (x := a4) (by omega)] | rw [stp_n (x := a4) (by omega)]); (first | rw [stp_p (x := a5) (by omega)] | rw [stp_n (x := a5) (by omega)]); (first | rw [stp_p (x := a6) (by omega)] | rw [stp_n (x := a6) (by omega)]); (first | rw [stp_p (x := a7) (by omega)] | rw [stp_n (x := a7) (by omega)]))⟩
            · refine lv_lload hx hb dX11_spelled_137 (lv_at hl 0 rfl) ?_
              refine lv_ldc2 (v := iL 32) hx hb C.2.2.2.1 (C.2.2.1 _ (show Cond.constantLong RX11 176 (iL 32) ∈ gWs from mD_X11_176)) dX11_spelled_139 ?_
              refine gl_mul (z := ((((((((((((((a1 - 96) * 32) + a3) - 96) * 32) + a4) - 96) * 32) + a5) - 96) * 32) + a6) - 96) * 32)) hx hb dX11_spelled_142 rfl ?_
              refine lv_iload hx hb dX11_spelled_143 (lv_at hl 7 rfl) ?_
              refine gi_i2l hx hb (by omega) dX11_spelled_145 ?_
              refine gl_add (z := (((((((((((((((a1 - 96) * 32) + a3) - 96) * 32) + a4) - 96) * 32) + a5) - 96) * 32) + a6) - 96) * 32) + a7)) hx hb dX11_spelled_146 rfl ?_
              refine lv_ldc2 (v := iL 96) hx hb C.2.2.2.1 (C.2.2.1 _ (show Cond.constantLong RX11 178 (iL 96) ∈ gWs from mD_X11_178)) dX11_spelled_147 ?_
              refine gl_sub (z := ((((((((((((((((a1 - 96) * 32) + a3) - 96) * 32) + a4) - 96) * 32) + a5) - 96) * 32) + a6) - 96) * 32) + a7) - 96)) hx hb dX11_spelled_150 rfl ?_
              refine lv_goto (tgt := 156) hx hb dX11_spelled_151 (by decide) ?_
              exact g_lret hQ C hr hlocks hP hS dX11_spelled_156 ⟨((((((((((((((((a1 - 96) * 32) + a3) - 96) * 32) + a4) - 96) * 32) + a5) - 96) * 32) + a6) - 96) * 32) + a7) - 96), rfl, rfl, rfl, rfl, (by unfold spW; (first | rw [stp_p (x := a2) (by omega)] | rw [stp_n (x := a2) (by omega)]); (first | rw [stp_p (x := a3) (by omega)] | rw [stp_n (x := a3) (by omega)]); (first | rw [stp_p (x := a4) (by omega)] | rw [stp_n (x := a4) (by omega)]); (first | rw [stp_p (x := a5) (by omega)] | rw [stp_n (x := a5) (by omega)]); (first | rw [stp_p (x := a6) (by omega)] | rw [stp_n (x := a6) (by omega)]); (first | rw [stp_p (x := a7) (by omega)] | rw [stp_n (x := a7) (by omega)]))⟩
  · refine lv_lload hx hb dX11_spelled_12 (lv_at hl 0 rfl) ?_
    refine lv_ldc2 (v := iL 32) hx hb C.2.2.2.1 (C.2.2.1 _ (show Cond.constantLong RX11 176 (iL 32) ∈ gWs from mD_X11_176)) dX11_spelled_14 ?_
    refine gl_mul (z := ((a1 - 96) * 32)) hx hb dX11_spelled_17 rfl ?_
    refine lv_iload_n hx hb dX11_spelled_18 rfl (lv_at hl 2 rfl) ?_
    refine gi_i2l hx hb (by omega) dX11_spelled_19 ?_
    refine gl_add (z := (((a1 - 96) * 32) + a2)) hx hb dX11_spelled_20 rfl ?_
    refine lv_ldc2 (v := iL 96) hx hb C.2.2.2.1 (C.2.2.1 _ (show Cond.constantLong RX11 178 (iL 96) ∈ gWs from mD_X11_178)) dX11_spelled_21 ?_
    refine gl_sub (z := ((((a1 - 96) * 32) + a2) - 96)) hx hb dX11_spelled_24 rfl ?_
    refine lv_goto (tgt := 30) hx hb dX11_spelled_25 (by decide) ?_
    refine lv_lstore (lv' := [(7, .long (iL ((((a1 - 96) * 32) + a2) - 96))), (0, .int (iI a1)), (1, .int (iI a2)), (2, .int (iI a3)), (3, .int (iI a4)), (4, .int (iI a5)), (5, .int (iI a6)), (6, .int (iI a7))]) hx hb dX11_spelled_30 hl (by decide) rfl (fun ls hl => ?_)
    refine lv_iload_n hx hb dX11_spelled_32 rfl (lv_at hl 3 rfl) ?_
    refine gi_zle (tgt := 52) hx hb dX11_spelled_33 (by decide) (by omega) (fun c_33 => ?_) (fun c_33 => ?_)
    · refine lv_lload hx hb dX11_spelled_52 (lv_at hl 0 rfl) ?_
      refine lv_lstore (lv' := [(7, .long (iL ((((a1 - 96) * 32) + a2) - 96))), (0, .int (iI a1)), (1, .int (iI a2)), (2, .int (iI a3)), (3, .int (iI a4)), (4, .int (iI a5)), (5, .int (iI a6)), (6, .int (iI a7))]) hx hb dX11_spelled_54 hl (by decide) rfl (fun ls hl => ?_)
      refine lv_iload_n hx hb dX11_spelled_56 rfl (lv_at hl 4 rfl) ?_
      refine gi_zle (tgt := 76) hx hb dX11_spelled_57 (by decide) (by omega) (fun c_34 => ?_) (fun c_34 => ?_)
      · refine lv_lload hx hb dX11_spelled_76 (lv_at hl 0 rfl) ?_
        refine lv_lstore (lv' := [(7, .long (iL ((((a1 - 96) * 32) + a2) - 96))), (0, .int (iI a1)), (1, .int (iI a2)), (2, .int (iI a3)), (3, .int (iI a4)), (4, .int (iI a5)), (5, .int (iI a6)), (6, .int (iI a7))]) hx hb dX11_spelled_78 hl (by decide) rfl (fun ls hl => ?_)
        refine lv_iload hx hb dX11_spelled_80 (lv_at hl 5 rfl) ?_
        refine gi_zle (tgt := 102) hx hb dX11_spelled_82 (by decide) (by omega) (fun c_35 => ?_) (fun c_35 => ?_)
        · refine lv_lload hx hb dX11_spelled_102 (lv_at hl 0 rfl) ?_
          refine lv_lstore (lv' := [(7, .long (iL ((((a1 - 96) * 32) + a2) - 96))), (0, .int (iI a1)), (1, .int (iI a2)), (2, .int (iI a3)), (3, .int (iI a4)), (4, .int (iI a5)), (5, .int (iI a6)), (6, .int (iI a7))]) hx hb dX11_spelled_104 hl (by decide) rfl (fun ls hl => ?_)
          refine lv_iload hx hb dX11_spelled_106 (lv_at hl 6 rfl) ?_
          refine gi_zle (tgt := 128) hx hb dX11_spelled_108 (by decide) (by omega) (fun c_36 => ?_) (fun c_36 => ?_)
          · refine lv_lload hx hb dX11_spelled_128 (lv_at hl 0 rfl) ?_
            refine lv_lstore (lv' := [(7, .long (iL ((((a1 - 96) * 32) + a2) - 96))), (0, .int (iI a1)), (1, .int (iI a2)), (2, .int (iI a3)), (3, .int (iI a4)), (4, .int (iI a5)), (5, .int (iI a6)), (6, .int (iI a7))]) hx hb dX11_spelled_130 hl (by decide) rfl (fun ls hl => ?_)
            refine lv_iload hx hb dX11_spelled_132 (lv_at hl 7 rfl) ?_
            refine gi_zle (tgt := 154) hx hb dX11_spelled_134 (by decide) (by omega) (fun c_37 => ?_) (fun c_37 => ?_)
            · refine lv_lload hx hb dX11_spelled_154 (lv_at hl 0 rfl) ?_
              exact g_lret hQ C hr hlocks hP hS dX11_spelled_156 ⟨((((a1 - 96) * 32) + a2) - 96), rfl, rfl, rfl, rfl, (by unfold spW; (first | rw [stp_p (x := a2) (by omega)] | rw [stp_n (x := a2) (by omega)]); (first | rw [stp_p (x := a3) (by omega)] | rw [stp_n (x := a3) (by omega)]); (first | rw [stp_p (x := a4) (by omega)] | rw [stp_n (x := a4) (by omega)]); (first | rw [stp_p (x := a5) (by omega)] | rw [stp_n (x := a5) (by omega)]); (first | rw [stp_p (x := a6) (by omega)] | rw [stp_n (x := a6) (by omega)]); (first | rw [stp_p (x := a7) (by omega)] | rw [stp_n (x := a7) (by omega)]))⟩
            · refine lv_lload hx hb dX11_spelled_137 (lv_at hl 0 rfl) ?_
              refine lv_ldc2 (v := iL 32) hx hb C.2.2.2.1 (C.2.2.1 _ (show Cond.constantLong RX11 176 (iL 32) ∈ gWs from mD_X11_176)) dX11_spelled_139 ?_
              refine gl_mul (z := (((((a1 - 96) * 32) + a2) - 96) * 32)) hx hb dX11_spelled_142 rfl ?_
              refine lv_iload hx hb dX11_spelled_143 (lv_at hl 7 rfl) ?_
              refine gi_i2l hx hb (by omega) dX11_spelled_145 ?_
              refine gl_add (z := ((((((a1 - 96) * 32) + a2) - 96) * 32) + a7)) hx hb dX11_spelled_146 rfl ?_
              refine lv_ldc2 (v := iL 96) hx hb C.2.2.2.1 (C.2.2.1 _ (show Cond.constantLong RX11 178 (iL 96) ∈ gWs from mD_X11_178)) dX11_spelled_147 ?_
              refine gl_sub (z := (((((((a1 - 96) * 32) + a2) - 96) * 32) + a7) - 96)) hx hb dX11_spelled_150 rfl ?_
              refine lv_goto (tgt := 156) hx hb dX11_spelled_151 (by decide) ?_
              exact g_lret hQ C hr hlocks hP hS dX11_spelled_156 ⟨(((((((a1 - 96) * 32) + a2) - 96) * 32) + a7) - 96), rfl, rfl, rfl, rfl, (by unfold spW; (first | rw [stp_p (x := a2) (by omega)] | rw [stp_n (x := a2) (by omega)]); (first | rw [stp_p (x := a3) (by omega)] | rw [stp_n (x := a3) (by omega)]); (first | rw [stp_p (x := a4) (by omega)] | rw [stp_n (x := a4) (by omega)]); (first | rw [stp_p (x := a5) (by omega)] | rw [stp_n (x := a5) (by omega)]); (first | rw [stp_p (x := a6) (by omega)] | rw [stp_n (x := a6) (by omega)]); (first | rw [stp_p (x := a7) (by omega)] | rw [stp_n (x := a7) (by omega)]))⟩
          · refine lv_lload hx hb dX11_spelled_111 (lv_at hl 0 rfl) ?_
            refine lv_ldc2 (v := iL 32) hx hb C.2.2.2.1 (C.2.2.1 _ (show Cond.constantLong RX11 176 (iL 32) ∈ gWs from mD_X11_176)) dX11_spelled_113 ?_
            refine gl_mul (z := (((((a1 - 96) * 32) + a2) - 96) * 32)) hx hb dX11_spelled_116 rfl ?_
            refine lv_iload hx hb dX11_spelled_117 (lv_at hl 6 rfl) ?_
            refine gi_i2l hx hb (by omega) dX11_spelled_119 ?_
            refine gl_add (z := ((((((a1 - 96) * 32) + a2) - 96) * 32) + a6)) hx hb dX11_spelled_120 rfl ?_
            refine lv_ldc2 (v := iL 96) hx hb C.2.2.2.1 (C.2.2.1 _ (show Cond.constantLong RX11 178 (iL 96) ∈ gWs from mD_X11_178)) dX11_spelled_121 ?_
            refine gl_sub (z := (((((((a1 - 96) * 32) + a2) - 96) * 32) + a6) - 96)) hx hb dX11_spelled_124 rfl ?_
            refine lv_goto (tgt := 130) hx hb dX11_spelled_125 (by decide) ?_
            refine lv_lstore (lv' := [(7, .long (iL (((((((a1 - 96) * 32) + a2) - 96) * 32) + a6) - 96))), (0, .int (iI a1)), (1, .int (iI a2)), (2, .int (iI a3)), (3, .int (iI a4)), (4, .int (iI a5)), (5, .int (iI a6)), (6, .int (iI a7))]) hx hb dX11_spelled_130 hl (by decide) rfl (fun ls hl => ?_)
            refine lv_iload hx hb dX11_spelled_132 (lv_at hl 7 rfl) ?_
            refine gi_zle (tgt := 154) hx hb dX11_spelled_134 (by decide) (by omega) (fun c_38 => ?_) (fun c_38 => ?_)
            · refine lv_lload hx hb dX11_spelled_154 (lv_at hl 0 rfl) ?_
              exact g_lret hQ C hr hlocks hP hS dX11_spelled_156 ⟨(((((((a1 - 96) * 32) + a2) - 96) * 32) + a6) - 96), rfl, rfl, rfl, rfl, (by unfold spW; (first | rw [stp_p (x := a2) (by omega)] | rw [stp_n (x := a2) (by omega)]); (first | rw [stp_p (x := a3) (by omega)] | rw [stp_n (x := a3) (by omega)]); (first | rw [stp_p (x := a4) (by omega)] | rw [stp_n (x := a4) (by omega)]); (first | rw [stp_p (x := a5) (by omega)] | rw [stp_n (x := a5) (by omega)]); (first | rw [stp_p (x := a6) (by omega)] | rw [stp_n (x := a6) (by omega)]); (first | rw [stp_p (x := a7) (by omega)] | rw [stp_n (x := a7) (by omega)]))⟩
            · refine lv_lload hx hb dX11_spelled_137 (lv_at hl 0 rfl) ?_
              refine lv_ldc2 (v := iL 32) hx hb C.2.2.2.1 (C.2.2.1 _ (show Cond.constantLong RX11 176 (iL 32) ∈ gWs from mD_X11_176)) dX11_spelled_139 ?_
              refine gl_mul (z := ((((((((a1 - 96) * 32) + a2) - 96) * 32) + a6) - 96) * 32)) hx hb dX11_spelled_142 rfl ?_
              refine lv_iload hx hb dX11_spelled_143 (lv_at hl 7 rfl) ?_
              refine gi_i2l hx hb (by omega) dX11_spelled_145 ?_
              refine gl_add (z := (((((((((a1 - 96) * 32) + a2) - 96) * 32) + a6) - 96) * 32) + a7)) hx hb dX11_spelled_146 rfl ?_
              refine lv_ldc2 (v := iL 96) hx hb C.2.2.2.1 (C.2.2.1 _ (show Cond.constantLong RX11 178 (iL 96) ∈ gWs from mD_X11_178)) dX11_spelled_147 ?_
              refine gl_sub (z := ((((((((((a1 - 96) * 32) + a2) - 96) * 32) + a6) - 96) * 32) + a7) - 96)) hx hb dX11_spelled_150 rfl ?_
              refine lv_goto (tgt := 156) hx hb dX11_spelled_151 (by decide) ?_
              exact g_lret hQ C hr hlocks hP hS dX11_spelled_156 ⟨((((((((((a1 - 96) * 32) + a2) - 96) * 32) + a6) - 96) * 32) + a7) - 96), rfl, rfl, rfl, rfl, (by unfold spW; (first | rw [stp_p (x := a2) (by omega)] | rw [stp_n (x := a2) (by omega)]); (first | rw [stp_p (x := a3) (by omega)] | rw [stp_n (x := a3) (by omega)]); (first | rw [stp_p (x := a4) (by omega)] | rw [stp_n (x := a4) (by omega)]); (first | rw [stp_p (x := a5) (by omega)] | rw [stp_n (x := a5) (by omega)]); (first | rw [stp_p (x := a6) (by omega)] | rw [stp_n (x := a6) (by omega)]); (first | rw [stp_p (x := a7) (by omega)] | rw [stp_n (x := a7) (by omega)]))⟩
        · refine lv_lload hx hb dX11_spelled_85 (lv_at hl 0 rfl) ?_
          refine lv_ldc2 (v := iL 32) hx hb C.2.2.2.1 (C.2.2.1 _ (show Cond.constantLong RX11 176 (iL 32) ∈ gWs from mD_X11_176)) dX11_spelled_87 ?_
          refine gl_mul (z := (((((a1 - 96) * 32) + a2) - 96) * 32)) hx hb dX11_spelled_90 rfl ?_
          refine lv_iload hx hb dX11_spelled_91 (lv_at hl 5 rfl) ?_
          refine gi_i2l hx hb (by omega) dX11_spelled_93 ?_
          refine gl_add (z := ((((((a1 - 96) * 32) + a2) - 96) * 32) + a5)) hx hb dX11_spelled_94 rfl ?_
          refine lv_ldc2 (v := iL 96) hx hb C.2.2.2.1 (C.2.2.1 _ (show Cond.constantLong RX11 178 (iL 96) ∈ gWs from mD_X11_178)) dX11_spelled_95 ?_
          refine gl_sub (z := (((((((a1 - 96) * 32) + a2) - 96) * 32) + a5) - 96)) hx hb dX11_spelled_98 rfl ?_
          refine lv_goto (tgt := 104) hx hb dX11_spelled_99 (by decide) ?_
          refine lv_lstore (lv' := [(7, .long (iL (((((((a1 - 96) * 32) + a2) - 96) * 32) + a5) - 96))), (0, .int (iI a1)), (1, .int (iI a2)), (2, .int (iI a3)), (3, .int (iI a4)), (4, .int (iI a5)), (5, .int (iI a6)), (6, .int (iI a7))]) hx hb dX11_spelled_104 hl (by decide) rfl (fun ls hl => ?_)
          refine lv_iload hx hb dX11_spelled_106 (lv_at hl 6 rfl) ?_
          refine gi_zle (tgt := 128) hx hb dX11_spelled_108 (by decide) (by omega) (fun c_39 => ?_) (fun c_39 => ?_)
          · refine lv_lload hx hb dX11_spelled_128 (lv_at hl 0 rfl) ?_
            refine lv_lstore (lv' := [(7, .long (iL (((((((a1 - 96) * 32) + a2) - 96) * 32) + a5) - 96))), (0, .int (iI a1)), (1, .int (iI a2)), (2, .int (iI a3)), (3, .int (iI a4)), (4, .int (iI a5)), (5, .int (iI a6)), (6, .int (iI a7))]) hx hb dX11_spelled_130 hl (by decide) rfl (fun ls hl => ?_)
            refine lv_iload hx hb dX11_spelled_132 (lv_at hl 7 rfl) ?_
            refine gi_zle (tgt := 154) hx hb dX11_spelled_134 (by decide) (by omega) (fun c_40 => ?_) (fun c_40 => ?_)
            · refine lv_lload hx hb dX11_spelled_154 (lv_at hl 0 rfl) ?_
              exact g_lret hQ C hr hlocks hP hS dX11_spelled_156 ⟨(((((((a1 - 96) * 32) + a2) - 96) * 32) + a5) - 96), rfl, rfl, rfl, rfl, (by unfold spW; (first | rw [stp_p (x := a2) (by omega)] | rw [stp_n (x := a2) (by omega)]); (first | rw [stp_p (x := a3) (by omega)] | rw [stp_n (x := a3) (by omega)]); (first | rw [stp_p (x := a4) (by omega)] | rw [stp_n (x := a4) (by omega)]); (first | rw [stp_p (x := a5) (by omega)] | rw [stp_n (x := a5) (by omega)]); (first | rw [stp_p (x := a6) (by omega)] | rw [stp_n (x := a6) (by omega)]); (first | rw [stp_p (x := a7) (by omega)] | rw [stp_n (x := a7) (by omega)]))⟩
            · refine lv_lload hx hb dX11_spelled_137 (lv_at hl 0 rfl) ?_
              refine lv_ldc2 (v := iL 32) hx hb C.2.2.2.1 (C.2.2.1 _ (show Cond.constantLong RX11 176 (iL 32) ∈ gWs from mD_X11_176)) dX11_spelled_139 ?_
              refine gl_mul (z := ((((((((a1 - 96) * 32) + a2) - 96) * 32) + a5) - 96) * 32)) hx hb dX11_spelled_142 rfl ?_
              refine lv_iload hx hb dX11_spelled_143 (lv_at hl 7 rfl) ?_
              refine gi_i2l hx hb (by omega) dX11_spelled_145 ?_
              refine gl_add (z := (((((((((a1 - 96) * 32) + a2) - 96) * 32) + a5) - 96) * 32) + a7)) hx hb dX11_spelled_146 rfl ?_
              refine lv_ldc2 (v := iL 96) hx hb C.2.2.2.1 (C.2.2.1 _ (show Cond.constantLong RX11 178 (iL 96) ∈ gWs from mD_X11_178)) dX11_spelled_147 ?_
              refine gl_sub (z := ((((((((((a1 - 96) * 32) + a2) - 96) * 32) + a5) - 96) * 32) + a7) - 96)) hx hb dX11_spelled_150 rfl ?_
              refine lv_goto (tgt := 156) hx hb dX11_spelled_151 (by decide) ?_
              exact g_lret hQ C hr hlocks hP hS dX11_spelled_156 ⟨((((((((((a1 - 96) * 32) + a2) - 96) * 32) + a5) - 96) * 32) + a7) - 96), rfl, rfl, rfl, rfl, (by unfold spW; (first | rw [stp_p (x := a2) (by omega)] | rw [stp_n (x := a2) (by omega)]); (first | rw [stp_p (x := a3) (by omega)] | rw [stp_n (x := a3) (by omega)]); (first | rw [stp_p (x := a4) (by omega)] | rw [stp_n (x := a4) (by omega)]); (first | rw [stp_p (x := a5) (by omega)] | rw [stp_n (x := a5) (by omega)]); (first | rw [stp_p (x := a6) (by omega)] | rw [stp_n (x := a6) (by omega)]); (first | rw [stp_p (x := a7) (by omega)] | rw [stp_n (x := a7) (by omega)]))⟩
          · refine lv_lload hx hb dX11_spelled_111 (lv_at hl 0 rfl) ?_
            refine lv_ldc2 (v := iL 32) hx hb C.2.2.2.1 (C.2.2.1 _ (show Cond.constantLong RX11 176 (iL 32) ∈ gWs from mD_X11_176)) dX11_spelled_113 ?_
            refine gl_mul (z := ((((((((a1 - 96) * 32) + a2) - 96) * 32) + a5) - 96) * 32)) hx hb dX11_spelled_116 rfl ?_
            refine lv_iload hx hb dX11_spelled_117 (lv_at hl 6 rfl) ?_
            refine gi_i2l hx hb (by omega) dX11_spelled_119 ?_
            refine gl_add (z := (((((((((a1 - 96) * 32) + a2) - 96) * 32) + a5) - 96) * 32) + a6)) hx hb dX11_spelled_120 rfl ?_
            refine lv_ldc2 (v := iL 96) hx hb C.2.2.2.1 (C.2.2.1 _ (show Cond.constantLong RX11 178 (iL 96) ∈ gWs from mD_X11_178)) dX11_spelled_121 ?_
            refine gl_sub (z := ((((((((((a1 - 96) * 32) + a2) - 96) * 32) + a5) - 96) * 32) + a6) - 96)) hx hb dX11_spelled_124 rfl ?_
            refine lv_goto (tgt := 130) hx hb dX11_spelled_125 (by decide) ?_
            refine lv_lstore (lv' := [(7, .long (iL ((((((((((a1 - 96) * 32) + a2) - 96) * 32) + a5) - 96) * 32) + a6) - 96))), (0, .int (iI a1)), (1, .int (iI a2)), (2, .int (iI a3)), (3, .int (iI a4)), (4, .int (iI a5)), (5, .int (iI a6)), (6, .int (iI a7))]) hx hb dX11_spelled_130 hl (by decide) rfl (fun ls hl => ?_)
            refine lv_iload hx hb dX11_spelled_132 (lv_at hl 7 rfl) ?_
            refine gi_zle (tgt := 154) hx hb dX11_spelled_134 (by decide) (by omega) (fun c_41 => ?_) (fun c_41 => ?_)
            · refine lv_lload hx hb dX11_spelled_154 (lv_at hl 0 rfl) ?_
              exact g_lret hQ C hr hlocks hP hS dX11_spelled_156 ⟨((((((((((a1 - 96) * 32) + a2) - 96) * 32) + a5) - 96) * 32) + a6) - 96), rfl, rfl, rfl, rfl, (by unfold spW; (first | rw [stp_p (x := a2) (by omega)] | rw [stp_n (x := a2) (by omega)]); (first | rw [stp_p (x := a3) (by omega)] | rw [stp_n (x := a3) (by omega)]); (first | rw [stp_p (x := a4) (by omega)] | rw [stp_n (x := a4) (by omega)]); (first | rw [stp_p (x := a5) (by omega)] | rw [stp_n (x := a5) (by omega)]); (first | rw [stp_p (x := a6) (by omega)] | rw [stp_n (x := a6) (by omega)]); (first | rw [stp_p (x := a7) (by omega)] | rw [stp_n (x := a7) (by omega)]))⟩
            · refine lv_lload hx hb dX11_spelled_137 (lv_at hl 0 rfl) ?_
              refine lv_ldc2 (v := iL 32) hx hb C.2.2.2.1 (C.2.2.1 _ (show Cond.constantLong RX11 176 (iL 32) ∈ gWs from mD_X11_176)) dX11_spelled_139 ?_
              refine gl_mul (z := (((((((((((a1 - 96) * 32) + a2) - 96) * 32) + a5) - 96) * 32) + a6) - 96) * 32)) hx hb dX11_spelled_142 rfl ?_
              refine lv_iload hx hb dX11_spelled_143 (lv_at hl 7 rfl) ?_
              refine gi_i2l hx hb (by omega) dX11_spelled_145 ?_
              refine gl_add (z := ((((((((((((a1 - 96) * 32) + a2) - 96) * 32) + a5) - 96) * 32) + a6) - 96) * 32) + a7)) hx hb dX11_spelled_146 rfl ?_
              refine lv_ldc2 (v := iL 96) hx hb C.2.2.2.1 (C.2.2.1 _ (show Cond.constantLong RX11 178 (iL 96) ∈ gWs from mD_X11_178)) dX11_spelled_147 ?_
              refine gl_sub (z := (((((((((((((a1 - 96) * 32) + a2) - 96) * 32) + a5) - 96) * 32) + a6) - 96) * 32) + a7) - 96)) hx hb dX11_spelled_150 rfl ?_
              refine lv_goto (tgt := 156) hx hb dX11_spelled_151 (by decide) ?_
              exact g_lret hQ C hr hlocks hP hS dX11_spelled_156 ⟨(((((((((((((a1 - 96) * 32) + a2) - 96) * 32) + a5) - 96) * 32) + a6) - 96) * 32) + a7) - 96), rfl, rfl, rfl, rfl, (by unfold spW; (first | rw [stp_p (x := a2) (by omega)] | rw [stp_n (x := a2) (by omega)]); (first | rw [stp_p (x := a3) (by omega)] | rw [stp_n (x := a3) (by omega)]); (first | rw [stp_p (x := a4) (by omega)] | rw [stp_n (x := a4) (by omega)]); (first | rw [stp_p (x := a5) (by omega)] | rw [stp_n (x := a5) (by omega)]); (first | rw [stp_p (x := a6) (by omega)] | rw [stp_n (x := a6) (by omega)]); (first | rw [stp_p (x := a7) (by omega)] | rw [stp_n (x := a7) (by omega)]))⟩
      · refine lv_lload hx hb dX11_spelled_60 (lv_at hl 0 rfl) ?_
        refine lv_ldc2 (v := iL 32) hx hb C.2.2.2.1 (C.2.2.1 _ (show Cond.constantLong RX11 176 (iL 32) ∈ gWs from mD_X11_176)) dX11_spelled_62 ?_
        refine gl_mul (z := (((((a1 - 96) * 32) + a2) - 96) * 32)) hx hb dX11_spelled_65 rfl ?_
        refine lv_iload_n hx hb dX11_spelled_66 rfl (lv_at hl 4 rfl) ?_
        refine gi_i2l hx hb (by omega) dX11_spelled_67 ?_
        refine gl_add (z := ((((((a1 - 96) * 32) + a2) - 96) * 32) + a4)) hx hb dX11_spelled_68 rfl ?_
        refine lv_ldc2 (v := iL 96) hx hb C.2.2.2.1 (C.2.2.1 _ (show Cond.constantLong RX11 178 (iL 96) ∈ gWs from mD_X11_178)) dX11_spelled_69 ?_
        refine gl_sub (z := (((((((a1 - 96) * 32) + a2) - 96) * 32) + a4) - 96)) hx hb dX11_spelled_72 rfl ?_
        refine lv_goto (tgt := 78) hx hb dX11_spelled_73 (by decide) ?_
        refine lv_lstore (lv' := [(7, .long (iL (((((((a1 - 96) * 32) + a2) - 96) * 32) + a4) - 96))), (0, .int (iI a1)), (1, .int (iI a2)), (2, .int (iI a3)), (3, .int (iI a4)), (4, .int (iI a5)), (5, .int (iI a6)), (6, .int (iI a7))]) hx hb dX11_spelled_78 hl (by decide) rfl (fun ls hl => ?_)
        refine lv_iload hx hb dX11_spelled_80 (lv_at hl 5 rfl) ?_
        refine gi_zle (tgt := 102) hx hb dX11_spelled_82 (by decide) (by omega) (fun c_42 => ?_) (fun c_42 => ?_)
        · refine lv_lload hx hb dX11_spelled_102 (lv_at hl 0 rfl) ?_
          refine lv_lstore (lv' := [(7, .long (iL (((((((a1 - 96) * 32) + a2) - 96) * 32) + a4) - 96))), (0, .int (iI a1)), (1, .int (iI a2)), (2, .int (iI a3)), (3, .int (iI a4)), (4, .int (iI a5)), (5, .int (iI a6)), (6, .int (iI a7))]) hx hb dX11_spelled_104 hl (by decide) rfl (fun ls hl => ?_)
          refine lv_iload hx hb dX11_spelled_106 (lv_at hl 6 rfl) ?_
          refine gi_zle (tgt := 128) hx hb dX11_spelled_108 (by decide) (by omega) (fun c_43 => ?_) (fun c_43 => ?_)
          · refine lv_lload hx hb dX11_spelled_128 (lv_at hl 0 rfl) ?_
            refine lv_lstore (lv' := [(7, .long (iL (((((((a1 - 96) * 32) + a2) - 96) * 32) + a4) - 96))), (0, .int (iI a1)), (1, .int (iI a2)), (2, .int (iI a3)), (3, .int (iI a4)), (4, .int (iI a5)), (5, .int (iI a6)), (6, .int (iI a7))]) hx hb dX11_spelled_130 hl (by decide) rfl (fun ls hl => ?_)
            refine lv_iload hx hb dX11_spelled_132 (lv_at hl 7 rfl) ?_
            refine gi_zle (tgt := 154) hx hb dX11_spelled_134 (by decide) (by omega) (fun c_44 => ?_) (fun c_44 => ?_)
            · refine lv_lload hx hb dX11_spelled_154 (lv_at hl 0 rfl) ?_
              exact g_lret hQ C hr hlocks hP hS dX11_spelled_156 ⟨(((((((a1 - 96) * 32) + a2) - 96) * 32) + a4) - 96), rfl, rfl, rfl, rfl, (by unfold spW; (first | rw [stp_p (x := a2) (by omega)] | rw [stp_n (x := a2) (by omega)]); (first | rw [stp_p (x := a3) (by omega)] | rw [stp_n (x := a3) (by omega)]); (first | rw [stp_p (x := a4) (by omega)] | rw [stp_n (x := a4) (by omega)]); (first | rw [stp_p (x := a5) (by omega)] | rw [stp_n (x := a5) (by omega)]); (first | rw [stp_p (x := a6) (by omega)] | rw [stp_n (x := a6) (by omega)]); (first | rw [stp_p (x := a7) (by omega)] | rw [stp_n (x := a7) (by omega)]))⟩
            · refine lv_lload hx hb dX11_spelled_137 (lv_at hl 0 rfl) ?_
              refine lv_ldc2 (v := iL 32) hx hb C.2.2.2.1 (C.2.2.1 _ (show Cond.constantLong RX11 176 (iL 32) ∈ gWs from mD_X11_176)) dX11_spelled_139 ?_
              refine gl_mul (z := ((((((((a1 - 96) * 32) + a2) - 96) * 32) + a4) - 96) * 32)) hx hb dX11_spelled_142 rfl ?_
              refine lv_iload hx hb dX11_spelled_143 (lv_at hl 7 rfl) ?_
              refine gi_i2l hx hb (by omega) dX11_spelled_145 ?_
              refine gl_add (z := (((((((((a1 - 96) * 32) + a2) - 96) * 32) + a4) - 96) * 32) + a7)) hx hb dX11_spelled_146 rfl ?_
              refine lv_ldc2 (v := iL 96) hx hb C.2.2.2.1 (C.2.2.1 _ (show Cond.constantLong RX11 178 (iL 96) ∈ gWs from mD_X11_178)) dX11_spelled_147 ?_
              refine gl_sub (z := ((((((((((a1 - 96) * 32) + a2) - 96) * 32) + a4) - 96) * 32) + a7) - 96)) hx hb dX11_spelled_150 rfl ?_
              refine lv_goto (tgt := 156) hx hb dX11_spelled_151 (by decide) ?_
              exact g_lret hQ C hr hlocks hP hS dX11_spelled_156 ⟨((((((((((a1 - 96) * 32) + a2) - 96) * 32) + a4) - 96) * 32) + a7) - 96), rfl, rfl, rfl, rfl, (by unfold spW; (first | rw [stp_p (x := a2) (by omega)] | rw [stp_n (x := a2) (by omega)]); (first | rw [stp_p (x := a3) (by omega)] | rw [stp_n (x := a3) (by omega)]); (first | rw [stp_p (x := a4) (by omega)] | rw [stp_n (x := a4) (by omega)]); (first | rw [stp_p (x := a5) (by omega)] | rw [stp_n (x := a5) (by omega)]); (first | rw [stp_p (x := a6) (by omega)] | rw [stp_n (x := a6) (by omega)]); (first | rw [stp_p (x := a7) (by omega)] | rw [stp_n (x := a7) (by omega)]))⟩
          · refine lv_lload hx hb dX11_spelled_111 (lv_at hl 0 rfl) ?_
            refine lv_ldc2 (v := iL 32) hx hb C.2.2.2.1 (C.2.2.1 _ (show Cond.constantLong RX11 176 (iL 32) ∈ gWs from mD_X11_176)) dX11_spelled_113 ?_
            refine gl_mul (z := ((((((((a1 - 96) * 32) + a2) - 96) * 32) + a4) - 96) * 32)) hx hb dX11_spelled_116 rfl ?_
            refine lv_iload hx hb dX11_spelled_117 (lv_at hl 6 rfl) ?_
            refine gi_i2l hx hb (by omega) dX11_spelled_119 ?_
            refine gl_add (z := (((((((((a1 - 96) * 32) + a2) - 96) * 32) + a4) - 96) * 32) + a6)) hx hb dX11_spelled_120 rfl ?_
            refine lv_ldc2 (v := iL 96) hx hb C.2.2.2.1 (C.2.2.1 _ (show Cond.constantLong RX11 178 (iL 96) ∈ gWs from mD_X11_178)) dX11_spelled_121 ?_
            refine gl_sub (z := ((((((((((a1 - 96) * 32) + a2) - 96) * 32) + a4) - 96) * 32) + a6) - 96)) hx hb dX11_spelled_124 rfl ?_
            refine lv_goto (tgt := 130) hx hb dX11_spelled_125 (by decide) ?_
            refine lv_lstore (lv' := [(7, .long (iL ((((((((((a1 - 96) * 32) + a2) - 96) * 32) + a4) - 96) * 32) + a6) - 96))), (0, .int (iI a1)), (1, .int (iI a2)), (2, .int (iI a3)), (3, .int (iI a4)), (4, .int (iI a5)), (5, .int (iI a6)), (6, .int (iI a7))]) hx hb dX11_spelled_130 hl (by decide) rfl (fun ls hl => ?_)
            refine lv_iload hx hb dX11_spelled_132 (lv_at hl 7 rfl) ?_
            refine gi_zle (tgt := 154) hx hb dX11_spelled_134 (by decide) (by omega) (fun c_45 => ?_) (fun c_45 => ?_)
            · refine lv_lload hx hb dX11_spelled_154 (lv_at hl 0 rfl) ?_
              exact g_lret hQ C hr hlocks hP hS dX11_spelled_156 ⟨((((((((((a1 - 96) * 32) + a2) - 96) * 32) + a4) - 96) * 32) + a6) - 96), rfl, rfl, rfl, rfl, (by unfold spW; (first | rw [stp_p (x := a2) (by omega)] | rw [stp_n (x := a2) (by omega)]); (first | rw [stp_p (x := a3) (by omega)] | rw [stp_n (x := a3) (by omega)]); (first | rw [stp_p (x := a4) (by omega)] | rw [stp_n (x := a4) (by omega)]); (first | rw [stp_p (x := a5) (by omega)] | rw [stp_n (x := a5) (by omega)]); (first | rw [stp_p (x := a6) (by omega)] | rw [stp_n (x := a6) (by omega)]); (first | rw [stp_p (x := a7) (by omega)] | rw [stp_n (x := a7) (by omega)]))⟩
            · refine lv_lload hx hb dX11_spelled_137 (lv_at hl 0 rfl) ?_
              refine lv_ldc2 (v := iL 32) hx hb C.2.2.2.1 (C.2.2.1 _ (show Cond.constantLong RX11 176 (iL 32) ∈ gWs from mD_X11_176)) dX11_spelled_139 ?_
              refine gl_mul (z := (((((((((((a1 - 96) * 32) + a2) - 96) * 32) + a4) - 96) * 32) + a6) - 96) * 32)) hx hb dX11_spelled_142 rfl ?_
              refine lv_iload hx hb dX11_spelled_143 (lv_at hl 7 rfl) ?_
              refine gi_i2l hx hb (by omega) dX11_spelled_145 ?_
              refine gl_add (z := ((((((((((((a1 - 96) * 32) + a2) - 96) * 32) + a4) - 96) * 32) + a6) - 96) * 32) + a7)) hx hb dX11_spelled_146 rfl ?_
              refine lv_ldc2 (v := iL 96) hx hb C.2.2.2.1 (C.2.2.1 _ (show Cond.constantLong RX11 178 (iL 96) ∈ gWs from mD_X11_178)) dX11_spelled_147 ?_
              refine gl_sub (z := (((((((((((((a1 - 96) * 32) + a2) - 96) * 32) + a4) - 96) * 32) + a6) - 96) * 32) + a7) - 96)) hx hb dX11_spelled_150 rfl ?_
              refine lv_goto (tgt := 156) hx hb dX11_spelled_151 (by decide) ?_
              exact g_lret hQ C hr hlocks hP hS dX11_spelled_156 ⟨(((((((((((((a1 - 96) * 32) + a2) - 96) * 32) + a4) - 96) * 32) + a6) - 96) * 32) + a7) - 96), rfl, rfl, rfl, rfl, (by unfold spW; (first | rw [stp_p (x := a2) (by omega)] | rw [stp_n (x := a2) (by omega)]); (first | rw [stp_p (x := a3) (by omega)] | rw [stp_n (x := a3) (by omega)]); (first | rw [stp_p (x := a4) (by omega)] | rw [stp_n (x := a4) (by omega)]); (first | rw [stp_p (x := a5) (by omega)] | rw [stp_n (x := a5) (by omega)]); (first | rw [stp_p (x := a6) (by omega)] | rw [stp_n (x := a6) (by omega)]); (first | rw [stp_p (x := a7) (by omega)] | rw [stp_n (x := a7) (by omega)]))⟩
        · refine lv_lload hx hb dX11_spelled_85 (lv_at hl 0 rfl) ?_
          refine lv_ldc2 (v := iL 32) hx hb C.2.2.2.1 (C.2.2.1 _ (show Cond.constantLong RX11 176 (iL 32) ∈ gWs from mD_X11_176)) dX11_spelled_87 ?_
          refine gl_mul (z := ((((((((a1 - 96) * 32) + a2) - 96) * 32) + a4) - 96) * 32)) hx hb dX11_spelled_90 rfl ?_
          refine lv_iload hx hb dX11_spelled_91 (lv_at hl 5 rfl) ?_
          refine gi_i2l hx hb (by omega) dX11_spelled_93 ?_
          refine gl_add (z := (((((((((a1 - 96) * 32) + a2) - 96) * 32) + a4) - 96) * 32) + a5)) hx hb dX11_spelled_94 rfl ?_
          refine lv_ldc2 (v := iL 96) hx hb C.2.2.2.1 (C.2.2.1 _ (show Cond.constantLong RX11 178 (iL 96) ∈ gWs from mD_X11_178)) dX11_spelled_95 ?_
          refine gl_sub (z := ((((((((((a1 - 96) * 32) + a2) - 96) * 32) + a4) - 96) * 32) + a5) - 96)) hx hb dX11_spelled_98 rfl ?_
          refine lv_goto (tgt := 104) hx hb dX11_spelled_99 (by decide) ?_
          refine lv_lstore (lv' := [(7, .long (iL ((((((((((a1 - 96) * 32) + a2) - 96) * 32) + a4) - 96) * 32) + a5) - 96))), (0, .int (iI a1)), (1, .int (iI a2)), (2, .int (iI a3)), (3, .int (iI a4)), (4, .int (iI a5)), (5, .int (iI a6)), (6, .int (iI a7))]) hx hb dX11_spelled_104 hl (by decide) rfl (fun ls hl => ?_)
          refine lv_iload hx hb dX11_spelled_106 (lv_at hl 6 rfl) ?_
          refine gi_zle (tgt := 128) hx hb dX11_spelled_108 (by decide) (by omega) (fun c_46 => ?_) (fun c_46 => ?_)
          · refine lv_lload hx hb dX11_spelled_128 (lv_at hl 0 rfl) ?_
            refine lv_lstore (lv' := [(7, .long (iL ((((((((((a1 - 96) * 32) + a2) - 96) * 32) + a4) - 96) * 32) + a5) - 96))), (0, .int (iI a1)), (1, .int (iI a2)), (2, .int (iI a3)), (3, .int (iI a4)), (4, .int (iI a5)), (5, .int (iI a6)), (6, .int (iI a7))]) hx hb dX11_spelled_130 hl (by decide) rfl (fun ls hl => ?_)
            refine lv_iload hx hb dX11_spelled_132 (lv_at hl 7 rfl) ?_
            refine gi_zle (tgt := 154) hx hb dX11_spelled_134 (by decide) (by omega) (fun c_47 => ?_) (fun c_47 => ?_)
            · refine lv_lload hx hb dX11_spelled_154 (lv_at hl 0 rfl) ?_
              exact g_lret hQ C hr hlocks hP hS dX11_spelled_156 ⟨((((((((((a1 - 96) * 32) + a2) - 96) * 32) + a4) - 96) * 32) + a5) - 96), rfl, rfl, rfl, rfl, (by unfold spW; (first | rw [stp_p (x := a2) (by omega)] | rw [stp_n (x := a2) (by omega)]); (first | rw [stp_p (x := a3) (by omega)] | rw [stp_n (x := a3) (by omega)]); (first | rw [stp_p (x := a4) (by omega)] | rw [stp_n (x := a4) (by omega)]); (first | rw [stp_p (x := a5) (by omega)] | rw [stp_n (x := a5) (by omega)]); (first | rw [stp_p (x := a6) (by omega)] | rw [stp_n (x := a6) (by omega)]); (first | rw [stp_p (x := a7) (by omega)] | rw [stp_n (x := a7) (by omega)]))⟩
            · refine lv_lload hx hb dX11_spelled_137 (lv_at hl 0 rfl) ?_
              refine lv_ldc2 (v := iL 32) hx hb C.2.2.2.1 (C.2.2.1 _ (show Cond.constantLong RX11 176 (iL 32) ∈ gWs from mD_X11_176)) dX11_spelled_139 ?_
              refine gl_mul (z := (((((((((((a1 - 96) * 32) + a2) - 96) * 32) + a4) - 96) * 32) + a5) - 96) * 32)) hx hb dX11_spelled_142 rfl ?_
              refine lv_iload hx hb dX11_spelled_143 (lv_at hl 7 rfl) ?_
              refine gi_i2l hx hb (by omega) dX11_spelled_145 ?_
              refine gl_add (z := ((((((((((((a1 - 96) * 32) + a2) - 96) * 32) + a4) - 96) * 32) + a5) - 96) * 32) + a7)) hx hb dX11_spelled_146 rfl ?_
              refine lv_ldc2 (v := iL 96) hx hb C.2.2.2.1 (C.2.2.1 _ (show Cond.constantLong RX11 178 (iL 96) ∈ gWs from mD_X11_178)) dX11_spelled_147 ?_
              refine gl_sub (z := (((((((((((((a1 - 96) * 32) + a2) - 96) * 32) + a4) - 96) * 32) + a5) - 96) * 32) + a7) - 96)) hx hb dX11_spelled_150 rfl ?_
              refine lv_goto (tgt := 156) hx hb dX11_spelled_151 (by decide) ?_
              exact g_lret hQ C hr hlocks hP hS dX11_spelled_156 ⟨(((((((((((((a1 - 96) * 32) + a2) - 96) * 32) + a4) - 96) * 32) + a5) - 96) * 32) + a7) - 96), rfl, rfl, rfl, rfl, (by unfold spW; (first | rw [stp_p (x := a2) (by omega)] | rw [stp_n (x := a2) (by omega)]); (first | rw [stp_p (x := a3) (by omega)] | rw [stp_n (x := a3) (by omega)]); (first | rw [stp_p (x := a4) (by omega)] | rw [stp_n (x := a4) (by omega)]); (first | rw [stp_p (x := a5) (by omega)] | rw [stp_n (x := a5) (by omega)]); (first | rw [stp_p (x := a6) (by omega)] | rw [stp_n (x := a6) (by omega)]); (first | rw [stp_p (x := a7) (by omega)] | rw [stp_n (x := a7) (by omega)]))⟩
          · refine lv_lload hx hb dX11_spelled_111 (lv_at hl 0 rfl) ?_
            refine lv_ldc2 (v := iL 32) hx hb C.2.2.2.1 (C.2.2.1 _ (show Cond.constantLong RX11 176 (iL 32) ∈ gWs from mD_X11_176)) dX11_spelled_113 ?_
            refine gl_mul (z := (((((((((((a1 - 96) * 32) + a2) - 96) * 32) + a4) - 96) * 32) + a5) - 96) * 32)) hx hb dX11_spelled_116 rfl ?_
            refine lv_iload hx hb dX11_spelled_117 (lv_at hl 6 rfl) ?_
            refine gi_i2l hx hb (by omega) dX11_spelled_119 ?_
            refine gl_add (z := ((((((((((((a1 - 96) * 32) + a2) - 96) * 32) + a4) - 96) * 32) + a5) - 96) * 32) + a6)) hx hb dX11_spelled_120 rfl ?_
            refine lv_ldc2 (v := iL 96) hx hb C.2.2.2.1 (C.2.2.1 _ (show Cond.constantLong RX11 178 (iL 96) ∈ gWs from mD_X11_178)) dX11_spelled_121 ?_
            refine gl_sub (z := (((((((((((((a1 - 96) * 32) + a2) - 96) * 32) + a4) - 96) * 32) + a5) - 96) * 32) + a6) - 96)) hx hb dX11_spelled_124 rfl ?_
            refine lv_goto (tgt := 130) hx hb dX11_spelled_125 (by decide) ?_
            refine lv_lstore (lv' := [(7, .long (iL (((((((((((((a1 - 96) * 32) + a2) - 96) * 32) + a4) - 96) * 32) + a5) - 96) * 32) + a6) - 96))), (0, .int (iI a1)), (1, .int (iI a2)), (2, .int (iI a3)), (3, .int (iI a4)), (4, .int (iI a5)), (5, .int (iI a6)), (6, .int (iI a7))]) hx hb dX11_spelled_130 hl (by decide) rfl (fun ls hl => ?_)
            refine lv_iload hx hb dX11_spelled_132 (lv_at hl 7 rfl) ?_
            refine gi_zle (tgt := 154) hx hb dX11_spelled_134 (by decide) (by omega) (fun c_48 => ?_) (fun c_48 => ?_)
            · refine lv_lload hx hb dX11_spelled_154 (lv_at hl 0 rfl) ?_
              exact g_lret hQ C hr hlocks hP hS dX11_spelled_156 ⟨(((((((((((((a1 - 96) * 32) + a2) - 96) * 32) + a4) - 96) * 32) + a5) - 96) * 32) + a6) - 96), rfl, rfl, rfl, rfl, (by unfold spW; (first | rw [stp_p (x := a2) (by omega)] | rw [stp_n (x := a2) (by omega)]); (first | rw [stp_p (x := a3) (by omega)] | rw [stp_n (x := a3) (by omega)]); (first | rw [stp_p (x := a4) (by omega)] | rw [stp_n (x := a4) (by omega)]); (first | rw [stp_p (x := a5) (by omega)] | rw [stp_n (x := a5) (by omega)]); (first | rw [stp_p (x := a6) (by omega)] | rw [stp_n (x := a6) (by omega)]); (first | rw [stp_p (x := a7) (by omega)] | rw [stp_n (x := a7) (by omega)]))⟩
            · refine lv_lload hx hb dX11_spelled_137 (lv_at hl 0 rfl) ?_
              refine lv_ldc2 (v := iL 32) hx hb C.2.2.2.1 (C.2.2.1 _ (show Cond.constantLong RX11 176 (iL 32) ∈ gWs from mD_X11_176)) dX11_spelled_139 ?_
              refine gl_mul (z := ((((((((((((((a1 - 96) * 32) + a2) - 96) * 32) + a4) - 96) * 32) + a5) - 96) * 32) + a6) - 96) * 32)) hx hb dX11_spelled_142 rfl ?_
              refine lv_iload hx hb dX11_spelled_143 (lv_at hl 7 rfl) ?_
              refine gi_i2l hx hb (by omega) dX11_spelled_145 ?_
              refine gl_add (z := (((((((((((((((a1 - 96) * 32) + a2) - 96) * 32) + a4) - 96) * 32) + a5) - 96) * 32) + a6) - 96) * 32) + a7)) hx hb dX11_spelled_146 rfl ?_
              refine lv_ldc2 (v := iL 96) hx hb C.2.2.2.1 (C.2.2.1 _ (show Cond.constantLong RX11 178 (iL 96) ∈ gWs from mD_X11_178)) dX11_spelled_147 ?_
              refine gl_sub (z := ((((((((((((((((a1 - 96) * 32) + a2) - 96) * 32) + a4) - 96) * 32) + a5) - 96) * 32) + a6) - 96) * 32) + a7) - 96)) hx hb dX11_spelled_150 rfl ?_
              refine lv_goto (tgt := 156) hx hb dX11_spelled_151 (by decide) ?_
              exact g_lret hQ C hr hlocks hP hS dX11_spelled_156 ⟨((((((((((((((((a1 - 96) * 32) + a2) - 96) * 32) + a4) - 96) * 32) + a5) - 96) * 32) + a6) - 96) * 32) + a7) - 96), rfl, rfl, rfl, rfl, (by unfold spW; (first | rw [stp_p (x := a2) (by omega)] | rw [stp_n (x := a2) (by omega)]); (first | rw [stp_p (x := a3) (by omega)] | rw [stp_n (x := a3) (by omega)]); (first | rw [stp_p (x := a4) (by omega)] | rw [stp_n (x := a4) (by omega)]); (first | rw [stp_p (x := a5) (by omega)] | rw [stp_n (x := a5) (by omega)]); (first | rw [stp_p (x := a6) (by omega)] | rw [stp_n (x := a6) (by omega)]); (first | rw [stp_p (x := a7) (by omega)] | rw [stp_n (x := a7) (by omega)]))⟩
    · refine lv_lload hx hb dX11_spelled_36 (lv_at hl 0 rfl) ?_
      refine lv_ldc2 (v := iL 32) hx hb C.2.2.2.1 (C.2.2.1 _ (show Cond.constantLong RX11 176 (iL 32) ∈ gWs from mD_X11_176)) dX11_spelled_38 ?_
      refine gl_mul (z := (((((a1 - 96) * 32) + a2) - 96) * 32)) hx hb dX11_spelled_41 rfl ?_
      refine lv_iload_n hx hb dX11_spelled_42 rfl (lv_at hl 3 rfl) ?_
      refine gi_i2l hx hb (by omega) dX11_spelled_43 ?_
      refine gl_add (z := ((((((a1 - 96) * 32) + a2) - 96) * 32) + a3)) hx hb dX11_spelled_44 rfl ?_
      refine lv_ldc2 (v := iL 96) hx hb C.2.2.2.1 (C.2.2.1 _ (show Cond.constantLong RX11 178 (iL 96) ∈ gWs from mD_X11_178)) dX11_spelled_45 ?_
      refine gl_sub (z := (((((((a1 - 96) * 32) + a2) - 96) * 32) + a3) - 96)) hx hb dX11_spelled_48 rfl ?_
      refine lv_goto (tgt := 54) hx hb dX11_spelled_49 (by decide) ?_
      refine lv_lstore (lv' := [(7, .long (iL (((((((a1 - 96) * 32) + a2) - 96) * 32) + a3) - 96))), (0, .int (iI a1)), (1, .int (iI a2)), (2, .int (iI a3)), (3, .int (iI a4)), (4, .int (iI a5)), (5, .int (iI a6)), (6, .int (iI a7))]) hx hb dX11_spelled_54 hl (by decide) rfl (fun ls hl => ?_)
      refine lv_iload_n hx hb dX11_spelled_56 rfl (lv_at hl 4 rfl) ?_
      refine gi_zle (tgt := 76) hx hb dX11_spelled_57 (by decide) (by omega) (fun c_49 => ?_) (fun c_49 => ?_)
      · refine lv_lload hx hb dX11_spelled_76 (lv_at hl 0 rfl) ?_
        refine lv_lstore (lv' := [(7, .long (iL (((((((a1 - 96) * 32) + a2) - 96) * 32) + a3) - 96))), (0, .int (iI a1)), (1, .int (iI a2)), (2, .int (iI a3)), (3, .int (iI a4)), (4, .int (iI a5)), (5, .int (iI a6)), (6, .int (iI a7))]) hx hb dX11_spelled_78 hl (by decide) rfl (fun ls hl => ?_)
        refine lv_iload hx hb dX11_spelled_80 (lv_at hl 5 rfl) ?_
        refine gi_zle (tgt := 102) hx hb dX11_spelled_82 (by decide) (by omega) (fun c_50 => ?_) (fun c_50 => ?_)
        · refine lv_lload hx hb dX11_spelled_102 (lv_at hl 0 rfl) ?_
          refine lv_lstore (lv' := [(7, .long (iL (((((((a1 - 96) * 32) + a2) - 96) * 32) + a3) - 96))), (0, .int (iI a1)), (1, .int (iI a2)), (2, .int (iI a3)), (3, .int (iI a4)), (4, .int (iI a5)), (5, .int (iI a6)), (6, .int (iI a7))]) hx hb dX11_spelled_104 hl (by decide) rfl (fun ls hl => ?_)
          refine lv_iload hx hb dX11_spelled_106 (lv_at hl 6 rfl) ?_
          refine gi_zle (tgt := 128) hx hb dX11_spelled_108 (by decide) (by omega) (fun c_51 => ?_) (fun c_51 => ?_)
          · refine lv_lload hx hb dX11_spelled_128 (lv_at hl 0 rfl) ?_
            refine lv_lstore (lv' := [(7, .long (iL (((((((a1 - 96) * 32) + a2) - 96) * 32) + a3) - 96))), (0, .int (iI a1)), (1, .int (iI a2)), (2, .int (iI a3)), (3, .int (iI a4)), (4, .int (iI a5)), (5, .int (iI a6)), (6, .int (iI a7))]) hx hb dX11_spelled_130 hl (by decide) rfl (fun ls hl => ?_)
            refine lv_iload hx hb dX11_spelled_132 (lv_at hl 7 rfl) ?_
            refine gi_zle (tgt := 154) hx hb dX11_spelled_134 (by decide) (by omega) (fun c_52 => ?_) (fun c_52 => ?_)
            · refine lv_lload hx hb dX11_spelled_154 (lv_at hl 0 rfl) ?_
              exact g_lret hQ C hr hlocks hP hS dX11_spelled_156 ⟨(((((((a1 - 96) * 32) + a2) - 96) * 32) + a3) - 96), rfl, rfl, rfl, rfl, (by unfold spW; (first | rw [stp_p (x := a2) (by omega)] | rw [stp_n (x := a2) (by omega)]); (first | rw [stp_p (x := a3) (by omega)] | rw [stp_n (x := a3) (by omega)]); (first | rw [stp_p (x := a4) (by omega)] | rw [stp_n (x := a4) (by omega)]); (first | rw [stp_p (x := a5) (by omega)] | rw [stp_n (x := a5) (by omega)]); (first | rw [stp_p (x := a6) (by omega)] | rw [stp_n (x := a6) (by omega)]); (first | rw [stp_p (x := a7) (by omega)] | rw [stp_n (x := a7) (by omega)]))⟩
            · refine lv_lload hx hb dX11_spelled_137 (lv_at hl 0 rfl) ?_
              refine lv_ldc2 (v := iL 32) hx hb C.2.2.2.1 (C.2.2.1 _ (show Cond.constantLong RX11 176 (iL 32) ∈ gWs from mD_X11_176)) dX11_spelled_139 ?_
              refine gl_mul (z := ((((((((a1 - 96) * 32) + a2) - 96) * 32) + a3) - 96) * 32)) hx hb dX11_spelled_142 rfl ?_
              refine lv_iload hx hb dX11_spelled_143 (lv_at hl 7 rfl) ?_
              refine gi_i2l hx hb (by omega) dX11_spelled_145 ?_
              refine gl_add (z := (((((((((a1 - 96) * 32) + a2) - 96) * 32) + a3) - 96) * 32) + a7)) hx hb dX11_spelled_146 rfl ?_
              refine lv_ldc2 (v := iL 96) hx hb C.2.2.2.1 (C.2.2.1 _ (show Cond.constantLong RX11 178 (iL 96) ∈ gWs from mD_X11_178)) dX11_spelled_147 ?_
              refine gl_sub (z := ((((((((((a1 - 96) * 32) + a2) - 96) * 32) + a3) - 96) * 32) + a7) - 96)) hx hb dX11_spelled_150 rfl ?_
              refine lv_goto (tgt := 156) hx hb dX11_spelled_151 (by decide) ?_
              exact g_lret hQ C hr hlocks hP hS dX11_spelled_156 ⟨((((((((((a1 - 96) * 32) + a2) - 96) * 32) + a3) - 96) * 32) + a7) - 96), rfl, rfl, rfl, rfl, (by unfold spW; (first | rw [stp_p (x := a2) (by omega)] | rw [stp_n (x := a2) (by omega)]); (first | rw [stp_p (x := a3) (by omega)] | rw [stp_n (x := a3) (by omega)]); (first | rw [stp_p (x := a4) (by omega)] | rw [stp_n (x := a4) (by omega)]); (first | rw [stp_p (x := a5) (by omega)] | rw [stp_n (x := a5) (by omega)]); (first | rw [stp_p (x := a6) (by omega)] | rw [stp_n (x := a6) (by omega)]); (first | rw [stp_p (x := a7) (by omega)] | rw [stp_n (x := a7) (by omega)]))⟩
          · refine lv_lload hx hb dX11_spelled_111 (lv_at hl 0 rfl) ?_
            refine lv_ldc2 (v := iL 32) hx hb C.2.2.2.1 (C.2.2.1 _ (show Cond.constantLong RX11 176 (iL 32) ∈ gWs from mD_X11_176)) dX11_spelled_113 ?_
            refine gl_mul (z := ((((((((a1 - 96) * 32) + a2) - 96) * 32) + a3) - 96) * 32)) hx hb dX11_spelled_116 rfl ?_
            refine lv_iload hx hb dX11_spelled_117 (lv_at hl 6 rfl) ?_
            refine gi_i2l hx hb (by omega) dX11_spelled_119 ?_
            refine gl_add (z := (((((((((a1 - 96) * 32) + a2) - 96) * 32) + a3) - 96) * 32) + a6)) hx hb dX11_spelled_120 rfl ?_
            refine lv_ldc2 (v := iL 96) hx hb C.2.2.2.1 (C.2.2.1 _ (show Cond.constantLong RX11 178 (iL 96) ∈ gWs from mD_X11_178)) dX11_spelled_121 ?_
            refine gl_sub (z := ((((((((((a1 - 96) * 32) + a2) - 96) * 32) + a3) - 96) * 32) + a6) - 96)) hx hb dX11_spelled_124 rfl ?_
            refine lv_goto (tgt := 130) hx hb dX11_spelled_125 (by decide) ?_
            refine lv_lstore (lv' := [(7, .long (iL ((((((((((a1 - 96) * 32) + a2) - 96) * 32) + a3) - 96) * 32) + a6) - 96))), (0, .int (iI a1)), (1, .int (iI a2)), (2, .int (iI a3)), (3, .int (iI a4)), (4, .int (iI a5)), (5, .int (iI a6)), (6, .int (iI a7))]) hx hb dX11_spelled_130 hl (by decide) rfl (fun ls hl => ?_)
            refine lv_iload hx hb dX11_spelled_132 (lv_at hl 7 rfl) ?_
            refine gi_zle (tgt := 154) hx hb dX11_spelled_134 (by decide) (by omega) (fun c_53 => ?_) (fun c_53 => ?_)
            · refine lv_lload hx hb dX11_spelled_154 (lv_at hl 0 rfl) ?_
              exact g_lret hQ C hr hlocks hP hS dX11_spelled_156 ⟨((((((((((a1 - 96) * 32) + a2) - 96) * 32) + a3) - 96) * 32) + a6) - 96), rfl, rfl, rfl, rfl, (by unfold spW; (first | rw [stp_p (x := a2) (by omega)] | rw [stp_n (x := a2) (by omega)]); (first | rw [stp_p (x := a3) (by omega)] | rw [stp_n (x := a3) (by omega)]); (first | rw [stp_p (x := a4) (by omega)] | rw [stp_n (x := a4) (by omega)]); (first | rw [stp_p (x := a5) (by omega)] | rw [stp_n (x := a5) (by omega)]); (first | rw [stp_p (x := a6) (by omega)] | rw [stp_n (x := a6) (by omega)]); (first | rw [stp_p (x := a7) (by omega)] | rw [stp_n (x := a7) (by omega)]))⟩
            · refine lv_lload hx hb dX11_spelled_137 (lv_at hl 0 rfl) ?_
              refine lv_ldc2 (v := iL 32) hx hb C.2.2.2.1 (C.2.2.1 _ (show Cond.constantLong RX11 176 (iL 32) ∈ gWs from mD_X11_176)) dX11_spelled_139 ?_
              refine gl_mul (z := (((((((((((a1 - 96) * 32) + a2) - 96) * 32) + a3) - 96) * 32) + a6) - 96) * 32)) hx hb dX11_spelled_142 rfl ?_
              refine lv_iload hx hb dX11_spelled_143 (lv_at hl 7 rfl) ?_
              refine gi_i2l hx hb (by omega) dX11_spelled_145 ?_
              refine gl_add (z := ((((((((((((a1 - 96) * 32) + a2) - 96) * 32) + a3) - 96) * 32) + a6) - 96) * 32) + a7)) hx hb dX11_spelled_146 rfl ?_
              refine lv_ldc2 (v := iL 96) hx hb C.2.2.2.1 (C.2.2.1 _ (show Cond.constantLong RX11 178 (iL 96) ∈ gWs from mD_X11_178)) dX11_spelled_147 ?_
              refine gl_sub (z := (((((((((((((a1 - 96) * 32) + a2) - 96) * 32) + a3) - 96) * 32) + a6) - 96) * 32) + a7) - 96)) hx hb dX11_spelled_150 rfl ?_
              refine lv_goto (tgt := 156) hx hb dX11_spelled_151 (by decide) ?_
              exact g_lret hQ C hr hlocks hP hS dX11_spelled_156 ⟨(((((((((((((a1 - 96) * 32) + a2) - 96) * 32) + a3) - 96) * 32) + a6) - 96) * 32) + a7) - 96), rfl, rfl, rfl, rfl, (by unfold spW; (first | rw [stp_p (x := a2) (by omega)] | rw [stp_n (x := a2) (by omega)]); (first | rw [stp_p (x := a3) (by omega)] | rw [stp_n (x := a3) (by omega)]); (first | rw [stp_p (x := a4) (by omega)] | rw [stp_n (x := a4) (by omega)]); (first | rw [stp_p (x := a5) (by omega)] | rw [stp_n (x := a5) (by omega)]); (first | rw [stp_p (x := a6) (by omega)] | rw [stp_n (x := a6) (by omega)]); (first | rw [stp_p (x := a7) (by omega)] | rw [stp_n (x := a7) (by omega)]))⟩
        · refine lv_lload hx hb dX11_spelled_85 (lv_at hl 0 rfl) ?_
          refine lv_ldc2 (v := iL 32) hx hb C.2.2.2.1 (C.2.2.1 _ (show Cond.constantLong RX11 176 (iL 32) ∈ gWs from mD_X11_176)) dX11_spelled_87 ?_
          refine gl_mul (z := ((((((((a1 - 96) * 32) + a2) - 96) * 32) + a3) - 96) * 32)) hx hb dX11_spelled_90 rfl ?_
          refine lv_iload hx hb dX11_spelled_91 (lv_at hl 5 rfl) ?_
          refine gi_i2l hx hb (by omega) dX11_spelled_93 ?_
          refine gl_add (z := (((((((((a1 - 96) * 32) + a2) - 96) * 32) + a3) - 96) * 32) + a5)) hx hb dX11_spelled_94 rfl ?_
          refine lv_ldc2 (v := iL 96) hx hb C.2.2.2.1 (C.2.2.1 _ (show Cond.constantLong RX11 178 (iL 96) ∈ gWs from mD_X11_178)) dX11_spelled_95 ?_
          refine gl_sub (z := ((((((((((a1 - 96) * 32) + a2) - 96) * 32) + a3) - 96) * 32) + a5) - 96)) hx hb dX11_spelled_98 rfl ?_
          refine lv_goto (tgt := 104) hx hb dX11_spelled_99 (by decide) ?_
          refine lv_lstore (lv' := [(7, .long (iL ((((((((((a1 - 96) * 32) + a2) - 96) * 32) + a3) - 96) * 32) + a5) - 96))), (0, .int (iI a1)), (1, .int (iI a2)), (2, .int (iI a3)), (3, .int (iI a4)), (4, .int (iI a5)), (5, .int (iI a6)), (6, .int (iI a7))]) hx hb dX11_spelled_104 hl (by decide) rfl (fun ls hl => ?_)
          refine lv_iload hx hb dX11_spelled_106 (lv_at hl 6 rfl) ?_
          refine gi_zle (tgt := 128) hx hb dX11_spelled_108 (by decide) (by omega) (fun c_54 => ?_) (fun c_54 => ?_)
          · refine lv_lload hx hb dX11_spelled_128 (lv_at hl 0 rfl) ?_
            refine lv_lstore (lv' := [(7, .long (iL ((((((((((a1 - 96) * 32) + a2) - 96) * 32) + a3) - 96) * 32) + a5) - 96))), (0, .int (iI a1)), (1, .int (iI a2)), (2, .int (iI a3)), (3, .int (iI a4)), (4, .int (iI a5)), (5, .int (iI a6)), (6, .int (iI a7))]) hx hb dX11_spelled_130 hl (by decide) rfl (fun ls hl => ?_)
            refine lv_iload hx hb dX11_spelled_132 (lv_at hl 7 rfl) ?_
            refine gi_zle (tgt := 154) hx hb dX11_spelled_134 (by decide) (by omega) (fun c_55 => ?_) (fun c_55 => ?_)
            · refine lv_lload hx hb dX11_spelled_154 (lv_at hl 0 rfl) ?_
              exact g_lret hQ C hr hlocks hP hS dX11_spelled_156 ⟨((((((((((a1 - 96) * 32) + a2) - 96) * 32) + a3) - 96) * 32) + a5) - 96), rfl, rfl, rfl, rfl, (by unfold spW; (first | rw [stp_p (x := a2) (by omega)] | rw [stp_n (x := a2) (by omega)]); (first | rw [stp_p (x := a3) (by omega)] | rw [stp_n (x := a3) (by omega)]); (first | rw [stp_p (x := a4) (by omega)] | rw [stp_n (x := a4) (by omega)]); (first | rw [stp_p (x := a5) (by omega)] | rw [stp_n (x := a5) (by omega)]); (first | rw [stp_p (x := a6) (by omega)] | rw [stp_n (x := a6) (by omega)]); (first | rw [stp_p (x := a7) (by omega)] | rw [stp_n (x := a7) (by omega)]))⟩
            · refine lv_lload hx hb dX11_spelled_137 (lv_at hl 0 rfl) ?_
              refine lv_ldc2 (v := iL 32) hx hb C.2.2.2.1 (C.2.2.1 _ (show Cond.constantLong RX11 176 (iL 32) ∈ gWs from mD_X11_176)) dX11_spelled_139 ?_
              refine gl_mul (z := (((((((((((a1 - 96) * 32) + a2) - 96) * 32) + a3) - 96) * 32) + a5) - 96) * 32)) hx hb dX11_spelled_142 rfl ?_
              refine lv_iload hx hb dX11_spelled_143 (lv_at hl 7 rfl) ?_
              refine gi_i2l hx hb (by omega) dX11_spelled_145 ?_
              refine gl_add (z := ((((((((((((a1 - 96) * 32) + a2) - 96) * 32) + a3) - 96) * 32) + a5) - 96) * 32) + a7)) hx hb dX11_spelled_146 rfl ?_
              refine lv_ldc2 (v := iL 96) hx hb C.2.2.2.1 (C.2.2.1 _ (show Cond.constantLong RX11 178 (iL 96) ∈ gWs from mD_X11_178)) dX11_spelled_147 ?_
              refine gl_sub (z := (((((((((((((a1 - 96) * 32) + a2) - 96) * 32) + a3) - 96) * 32) + a5) - 96) * 32) + a7) - 96)) hx hb dX11_spelled_150 rfl ?_
              refine lv_goto (tgt := 156) hx hb dX11_spelled_151 (by decide) ?_
              exact g_lret hQ C hr hlocks hP hS dX11_spelled_156 ⟨(((((((((((((a1 - 96) * 32) + a2) - 96) * 32) + a3) - 96) * 32) + a5) - 96) * 32) + a7) - 96), rfl, rfl, rfl, rfl, (by unfold spW; (first | rw [stp_p (x := a2) (by omega)] | rw [stp_n (x := a2) (by omega)]); (first | rw [stp_p (x := a3) (by omega)] | rw [stp_n (x := a3) (by omega)]); (first | rw [stp_p (x := a4) (by omega)] | rw [stp_n (x := a4) (by omega)]); (first | rw [stp_p (x := a5) (by omega)] | rw [stp_n (x := a5) (by omega)]); (first | rw [stp_p (x := a6) (by omega)] | rw [stp_n (x := a6) (by omega)]); (first | rw [stp_p (x := a7) (by omega)] | rw [stp_n (x := a7) (by omega)]))⟩
          · refine lv_lload hx hb dX11_spelled_111 (lv_at hl 0 rfl) ?_
            refine lv_ldc2 (v := iL 32) hx hb C.2.2.2.1 (C.2.2.1 _ (show Cond.constantLong RX11 176 (iL 32) ∈ gWs from mD_X11_176)) dX11_spelled_113 ?_
            refine gl_mul (z := (((((((((((a1 - 96) * 32) + a2) - 96) * 32) + a3) - 96) * 32) + a5) - 96) * 32)) hx hb dX11_spelled_116 rfl ?_
            refine lv_iload hx hb dX11_spelled_117 (lv_at hl 6 rfl) ?_
            refine gi_i2l hx hb (by omega) dX11_spelled_119 ?_
            refine gl_add (z := ((((((((((((a1 - 96) * 32) + a2) - 96) * 32) + a3) - 96) * 32) + a5) - 96) * 32) + a6)) hx hb dX11_spelled_120 rfl ?_
            refine lv_ldc2 (v := iL 96) hx hb C.2.2.2.1 (C.2.2.1 _ (show Cond.constantLong RX11 178 (iL 96) ∈ gWs from mD_X11_178)) dX11_spelled_121 ?_
            refine gl_sub (z := (((((((((((((a1 - 96) * 32) + a2) - 96) * 32) + a3) - 96) * 32) + a5) - 96) * 32) + a6) - 96)) hx hb dX11_spelled_124 rfl ?_
            refine lv_goto (tgt := 130) hx hb dX11_spelled_125 (by decide) ?_
            refine lv_lstore (lv' := [(7, .long (iL (((((((((((((a1 - 96) * 32) + a2) - 96) * 32) + a3) - 96) * 32) + a5) - 96) * 32) + a6) - 96))), (0, .int (iI a1)), (1, .int (iI a2)), (2, .int (iI a3)), (3, .int (iI a4)), (4, .int (iI a5)), (5, .int (iI a6)), (6, .int (iI a7))]) hx hb dX11_spelled_130 hl (by decide) rfl (fun ls hl => ?_)
            refine lv_iload hx hb dX11_spelled_132 (lv_at hl 7 rfl) ?_
            refine gi_zle (tgt := 154) hx hb dX11_spelled_134 (by decide) (by omega) (fun c_56 => ?_) (fun c_56 => ?_)
            · refine lv_lload hx hb dX11_spelled_154 (lv_at hl 0 rfl) ?_
              exact g_lret hQ C hr hlocks hP hS dX11_spelled_156 ⟨(((((((((((((a1 - 96) * 32) + a2) - 96) * 32) + a3) - 96) * 32) + a5) - 96) * 32) + a6) - 96), rfl, rfl, rfl, rfl, (by unfold spW; (first | rw [stp_p (x := a2) (by omega)] | rw [stp_n (x := a2) (by omega)]); (first | rw [stp_p (x := a3) (by omega)] | rw [stp_n (x := a3) (by omega)]); (first | rw [stp_p (x := a4) (by omega)] | rw [stp_n (x := a4) (by omega)]); (first | rw [stp_p (x := a5) (by omega)] | rw [stp_n (x := a5) (by omega)]); (first | rw [stp_p (x := a6) (by omega)] | rw [stp_n (x := a6) (by omega)]); (first | rw [stp_p (x := a7) (by omega)] | rw [stp_n (x := a7) (by omega)]))⟩
            · refine lv_lload hx hb dX11_spelled_137 (lv_at hl 0 rfl) ?_
              refine lv_ldc2 (v := iL 32) hx hb C.2.2.2.1 (C.2.2.1 _ (show Cond.constantLong RX11 176 (iL 32) ∈ gWs from mD_X11_176)) dX11_spelled_139 ?_
              refine gl_mul (z := ((((((((((((((a1 - 96) * 32) + a2) - 96) * 32) + a3) - 96) * 32) + a5) - 96) * 32) + a6) - 96) * 32)) hx hb dX11_spelled_142 rfl ?_
              refine lv_iload hx hb dX11_spelled_143 (lv_at hl 7 rfl) ?_
              refine gi_i2l hx hb (by omega) dX11_spelled_145 ?_
              refine gl_add (z := (((((((((((((((a1 - 96) * 32) + a2) - 96) * 32) + a3) - 96) * 32) + a5) - 96) * 32) + a6) - 96) * 32) + a7)) hx hb dX11_spelled_146 rfl ?_
              refine lv_ldc2 (v := iL 96) hx hb C.2.2.2.1 (C.2.2.1 _ (show Cond.constantLong RX11 178 (iL 96) ∈ gWs from mD_X11_178)) dX11_spelled_147 ?_
              refine gl_sub (z := ((((((((((((((((a1 - 96) * 32) + a2) - 96) * 32) + a3) - 96) * 32) + a5) - 96) * 32) + a6) - 96) * 32) + a7) - 96)) hx hb dX11_spelled_150 rfl ?_
              refine lv_goto (tgt := 156) hx hb dX11_spelled_151 (by decide) ?_
              exact g_lret hQ C hr hlocks hP hS dX11_spelled_156 ⟨((((((((((((((((a1 - 96) * 32) + a2) - 96) * 32) + a3) - 96) * 32) + a5) - 96) * 32) + a6) - 96) * 32) + a7) - 96), rfl, rfl, rfl, rfl, (by unfold spW; (first | rw [stp_p (x := a2) (by omega)] | rw [stp_n (x := a2) (by omega)]); (first | rw [stp_p (x := a3) (by omega)] | rw [stp_n (x := a3) (by omega)]); (first | rw [stp_p (x := a4) (by omega)] | rw [stp_n (x := a4) (by omega)]); (first | rw [stp_p (x := a5) (by omega)] | rw [stp_n (x := a5) (by omega)]); (first | rw [stp_p (x := a6) (by omega)] | rw [stp_n (x := a6) (by omega)]); (first | rw [stp_p (x := a7) (by omega)] | rw [stp_n (x := a7) (by omega)]))⟩
      · refine lv_lload hx hb dX11_spelled_60 (lv_at hl 0 rfl) ?_
        refine lv_ldc2 (v := iL 32) hx hb C.2.2.2.1 (C.2.2.1 _ (show Cond.constantLong RX11 176 (iL 32) ∈ gWs from mD_X11_176)) dX11_spelled_62 ?_
        refine gl_mul (z := ((((((((a1 - 96) * 32) + a2) - 96) * 32) + a3) - 96) * 32)) hx hb dX11_spelled_65 rfl ?_
        refine lv_iload_n hx hb dX11_spelled_66 rfl (lv_at hl 4 rfl) ?_
        refine gi_i2l hx hb (by omega) dX11_spelled_67 ?_
        refine gl_add (z := (((((((((a1 - 96) * 32) + a2) - 96) * 32) + a3) - 96) * 32) + a4)) hx hb dX11_spelled_68 rfl ?_
        refine lv_ldc2 (v := iL 96) hx hb C.2.2.2.1 (C.2.2.1 _ (show Cond.constantLong RX11 178 (iL 96) ∈ gWs from mD_X11_178)) dX11_spelled_69 ?_
        refine gl_sub (z := ((((((((((a1 - 96) * 32) + a2) - 96) * 32) + a3) - 96) * 32) + a4) - 96)) hx hb dX11_spelled_72 rfl ?_
        refine lv_goto (tgt := 78) hx hb dX11_spelled_73 (by decide) ?_
        refine lv_lstore (lv' := [(7, .long (iL ((((((((((a1 - 96) * 32) + a2) - 96) * 32) + a3) - 96) * 32) + a4) - 96))), (0, .int (iI a1)), (1, .int (iI a2)), (2, .int (iI a3)), (3, .int (iI a4)), (4, .int (iI a5)), (5, .int (iI a6)), (6, .int (iI a7))]) hx hb dX11_spelled_78 hl (by decide) rfl (fun ls hl => ?_)
        refine lv_iload hx hb dX11_spelled_80 (lv_at hl 5 rfl) ?_
        refine gi_zle (tgt := 102) hx hb dX11_spelled_82 (by decide) (by omega) (fun c_57 => ?_) (fun c_57 => ?_)
        · refine lv_lload hx hb dX11_spelled_102 (lv_at hl 0 rfl) ?_
          refine lv_lstore (lv' := [(7, .long (iL ((((((((((a1 - 96) * 32) + a2) - 96) * 32) + a3) - 96) * 32) + a4) - 96))), (0, .int (iI a1)), (1, .int (iI a2)), (2, .int (iI a3)), (3, .int (iI a4)), (4, .int (iI a5)), (5, .int (iI a6)), (6, .int (iI a7))]) hx hb dX11_spelled_104 hl (by decide) rfl (fun ls hl => ?_)
          refine lv_iload hx hb dX11_spelled_106 (lv_at hl 6 rfl) ?_
          refine gi_zle (tgt := 128) hx hb dX11_spelled_108 (by decide) (by omega) (fun c_58 => ?_) (fun c_58 => ?_)
          · refine lv_lload hx hb dX11_spelled_128 (lv_at hl 0 rfl) ?_
            refine lv_lstore (lv' := [(7, .long (iL ((((((((((a1 - 96) * 32) + a2) - 96) * 32) + a3) - 96) * 32) + a4) - 96))), (0, .int (iI a1)), (1, .int (iI a2)), (2, .int (iI a3)), (3, .int (iI a4)), (4, .int (iI a5)), (5, .int (iI a6)), (6, .int (iI a7))]) hx hb dX11_spelled_130 hl (by decide) rfl (fun ls hl => ?_)
            refine lv_iload hx hb dX11_spelled_132 (lv_at hl 7 rfl) ?_
            refine gi_zle (tgt := 154) hx hb dX11_spelled_134 (by decide) (by omega) (fun c_59 => ?_) (fun c_59 => ?_)
            · refine lv_lload hx hb dX11_spelled_154 (lv_at hl 0 rfl) ?_
              exact g_lret hQ C hr hlocks hP hS dX11_spelled_156 ⟨((((((((((a1 - 96) * 32) + a2) - 96) * 32) + a3) - 96) * 32) + a4) - 96), rfl, rfl, rfl, rfl, (by unfold spW; (first | rw [stp_p (x := a2) (by omega)] | rw [stp_n (x := a2) (by omega)]); (first | rw [stp_p (x := a3) (by omega)] | rw [stp_n (x := a3) (by omega)]); (first | rw [stp_p (x := a4) (by omega)] | rw [stp_n (x := a4) (by omega)]); (first | rw [stp_p (x := a5) (by omega)] | rw [stp_n (x := a5) (by omega)]); (first | rw [stp_p (x := a6) (by omega)] | rw [stp_n (x := a6) (by omega)]); (first | rw [stp_p (x := a7) (by omega)] | rw [stp_n (x := a7) (by omega)]))⟩
            · refine lv_lload hx hb dX11_spelled_137 (lv_at hl 0 rfl) ?_
              refine lv_ldc2 (v := iL 32) hx hb C.2.2.2.1 (C.2.2.1 _ (show Cond.constantLong RX11 176 (iL 32) ∈ gWs from mD_X11_176)) dX11_spelled_139 ?_
              refine gl_mul (z := (((((((((((a1 - 96) * 32) + a2) - 96) * 32) + a3) - 96) * 32) + a4) - 96) * 32)) hx hb dX11_spelled_142 rfl ?_
              refine lv_iload hx hb dX11_spelled_143 (lv_at hl 7 rfl) ?_
              refine gi_i2l hx hb (by omega) dX11_spelled_145 ?_
              refine gl_add (z := ((((((((((((a1 - 96) * 32) + a2) - 96) * 32) + a3) - 96) * 32) + a4) - 96) * 32) + a7)) hx hb dX11_spelled_146 rfl ?_
              refine lv_ldc2 (v := iL 96) hx hb C.2.2.2.1 (C.2.2.1 _ (show Cond.constantLong RX11 178 (iL 96) ∈ gWs from mD_X11_178)) dX11_spelled_147 ?_
              refine gl_sub (z := (((((((((((((a1 - 96) * 32) + a2) - 96) * 32) + a3) - 96) * 32) + a4) - 96) * 32) + a7) - 96)) hx hb dX11_spelled_150 rfl ?_
              refine lv_goto (tgt := 156) hx hb dX11_spelled_151 (by decide) ?_
              exact g_lret hQ C hr hlocks hP hS dX11_spelled_156 ⟨(((((((((((((a1 - 96) * 32) + a2) - 96) * 32) + a3) - 96) * 32) + a4) - 96) * 32) + a7) - 96), rfl, rfl, rfl, rfl, (by unfold spW; (first | rw [stp_p (x := a2) (by omega)] | rw [stp_n (x := a2) (by omega)]); (first | rw [stp_p (x := a3) (by omega)] | rw [stp_n (x := a3) (by omega)]); (first | rw [stp_p (x := a4) (by omega)] | rw [stp_n (x := a4) (by omega)]); (first | rw [stp_p (x := a5) (by omega)] | rw [stp_n (x := a5) (by omega)]); (first | rw [stp_p (x := a6) (by omega)] | rw [stp_n (x := a6) (by omega)]); (first | rw [stp_p (x := a7) (by omega)] | rw [stp_n (x := a7) (by omega)]))⟩
          · refine lv_lload hx hb dX11_spelled_111 (lv_at hl 0 rfl) ?_
            refine lv_ldc2 (v := iL 32) hx hb C.2.2.2.1 (C.2.2.1 _ (show Cond.constantLong RX11 176 (iL 32) ∈ gWs from mD_X11_176)) dX11_spelled_113 ?_
            refine gl_mul (z := (((((((((((a1 - 96) * 32) + a2) - 96) * 32) + a3) - 96) * 32) + a4) - 96) * 32)) hx hb dX11_spelled_116 rfl ?_
            refine lv_iload hx hb dX11_spelled_117 (lv_at hl 6 rfl) ?_
            refine gi_i2l hx hb (by omega) dX11_spelled_119 ?_
            refine gl_add (z := ((((((((((((a1 - 96) * 32) + a2) - 96) * 32) + a3) - 96) * 32) + a4) - 96) * 32) + a6)) hx hb dX11_spelled_120 rfl ?_
            refine lv_ldc2 (v := iL 96) hx hb C.2.2.2.1 (C.2.2.1 _ (show Cond.constantLong RX11 178 (iL 96) ∈ gWs from mD_X11_178)) dX11_spelled_121 ?_
            refine gl_sub (z := (((((((((((((a1 - 96) * 32) + a2) - 96) * 32) + a3) - 96) * 32) + a4) - 96) * 32) + a6) - 96)) hx hb dX11_spelled_124 rfl ?_
            refine lv_goto (tgt := 130) hx hb dX11_spelled_125 (by decide) ?_
            refine lv_lstore (lv' := [(7, .long (iL (((((((((((((a1 - 96) * 32) + a2) - 96) * 32) + a3) - 96) * 32) + a4) - 96) * 32) + a6) - 96))), (0, .int (iI a1)), (1, .int (iI a2)), (2, .int (iI a3)), (3, .int (iI a4)), (4, .int (iI a5)), (5, .int (iI a6)), (6, .int (iI a7))]) hx hb dX11_spelled_130 hl (by decide) rfl (fun ls hl => ?_)
            refine lv_iload hx hb dX11_spelled_132 (lv_at hl 7 rfl) ?_
            refine gi_zle (tgt := 154) hx hb dX11_spelled_134 (by decide) (by omega) (fun c_60 => ?_) (fun c_60 => ?_)
            · refine lv_lload hx hb dX11_spelled_154 (lv_at hl 0 rfl) ?_
              exact g_lret hQ C hr hlocks hP hS dX11_spelled_156 ⟨(((((((((((((a1 - 96) * 32) + a2) - 96) * 32) + a3) - 96) * 32) + a4) - 96) * 32) + a6) - 96), rfl, rfl, rfl, rfl, (by unfold spW; (first | rw [stp_p (x := a2) (by omega)] | rw [stp_n (x := a2) (by omega)]); (first | rw [stp_p (x := a3) (by omega)] | rw [stp_n (x := a3) (by omega)]); (first | rw [stp_p (x := a4) (by omega)] | rw [stp_n (x := a4) (by omega)]); (first | rw [stp_p (x := a5) (by omega)] | rw [stp_n (x := a5) (by omega)]); (first | rw [stp_p (x := a6) (by omega)] | rw [stp_n (x := a6) (by omega)]); (first | rw [stp_p (x := a7) (by omega)] | rw [stp_n (x := a7) (by omega)]))⟩
            · refine lv_lload hx hb dX11_spelled_137 (lv_at hl 0 rfl) ?_
              refine lv_ldc2 (v := iL 32) hx hb C.2.2.2.1 (C.2.2.1 _ (show Cond.constantLong RX11 176 (iL 32) ∈ gWs from mD_X11_176)) dX11_spelled_139 ?_
              refine gl_mul (z := ((((((((((((((a1 - 96) * 32) + a2) - 96) * 32) + a3) - 96) * 32) + a4) - 96) * 32) + a6) - 96) * 32)) hx hb dX11_spelled_142 rfl ?_
              refine lv_iload hx hb dX11_spelled_143 (lv_at hl 7 rfl) ?_
              refine gi_i2l hx hb (by omega) dX11_spelled_145 ?_
              refine gl_add (z := (((((((((((((((a1 - 96) * 32) + a2) - 96) * 32) + a3) - 96) * 32) + a4) - 96) * 32) + a6) - 96) * 32) + a7)) hx hb dX11_spelled_146 rfl ?_
              refine lv_ldc2 (v := iL 96) hx hb C.2.2.2.1 (C.2.2.1 _ (show Cond.constantLong RX11 178 (iL 96) ∈ gWs from mD_X11_178)) dX11_spelled_147 ?_
              refine gl_sub (z := ((((((((((((((((a1 - 96) * 32) + a2) - 96) * 32) + a3) - 96) * 32) + a4) - 96) * 32) + a6) - 96) * 32) + a7) - 96)) hx hb dX11_spelled_150 rfl ?_
              refine lv_goto (tgt := 156) hx hb dX11_spelled_151 (by decide) ?_
              exact g_lret hQ C hr hlocks hP hS dX11_spelled_156 ⟨((((((((((((((((a1 - 96) * 32) + a2) - 96) * 32) + a3) - 96) * 32) + a4) - 96) * 32) + a6) - 96) * 32) + a7) - 96), rfl, rfl, rfl, rfl, (by unfold spW; (first | rw [stp_p (x := a2) (by omega)] | rw [stp_n (x := a2) (by omega)]); (first | rw [stp_p (x := a3) (by omega)] | rw [stp_n (x := a3) (by omega)]); (first | rw [stp_p (x := a4) (by omega)] | rw [stp_n (x := a4) (by omega)]); (first | rw [stp_p (x := a5) (by omega)] | rw [stp_n (x := a5) (by omega)]); (first | rw [stp_p (x := a6) (by omega)] | rw [stp_n (x := a6) (by omega)]); (first | rw [stp_p (x := a7) (by omega)] | rw [stp_n (x := a7) (by omega)]))⟩
        · refine lv_lload hx hb dX11_spelled_85 (lv_at hl 0 rfl) ?_
          refine lv_ldc2 (v := iL 32) hx hb C.2.2.2.1 (C.2.2.1 _ (show Cond.constantLong RX11 176 (iL 32) ∈ gWs from mD_X11_176)) dX11_spelled_87 ?_
          refine gl_mul (z := (((((((((((a1 - 96) * 32) + a2) - 96) * 32) + a3) - 96) * 32) + a4) - 96) * 32)) hx hb dX11_spelled_90 rfl ?_
          refine lv_iload hx hb dX11_spelled_91 (lv_at hl 5 rfl) ?_
          refine gi_i2l hx hb (by omega) dX11_spelled_93 ?_
          refine gl_add (z := ((((((((((((a1 - 96) * 32) + a2) - 96) * 32) + a3) - 96) * 32) + a4) - 96) * 32) + a5)) hx hb dX11_spelled_94 rfl ?_
          refine lv_ldc2 (v := iL 96) hx hb C.2.2.2.1 (C.2.2.1 _ (show Cond.constantLong RX11 178 (iL 96) ∈ gWs from mD_X11_178)) dX11_spelled_95 ?_
          refine gl_sub (z := (((((((((((((a1 - 96) * 32) + a2) - 96) * 32) + a3) - 96) * 32) + a4) - 96) * 32) + a5) - 96)) hx hb dX11_spelled_98 rfl ?_
          refine lv_goto (tgt := 104) hx hb dX11_spelled_99 (by decide) ?_
          refine lv_lstore (lv' := [(7, .long (iL (((((((((((((a1 - 96) * 32) + a2) - 96) * 32) + a3) - 96) * 32) + a4) - 96) * 32) + a5) - 96))), (0, .int (iI a1)), (1, .int (iI a2)), (2, .int (iI a3)), (3, .int (iI a4)), (4, .int (iI a5)), (5, .int (iI a6)), (6, .int (iI a7))]) hx hb dX11_spelled_104 hl (by decide) rfl (fun ls hl => ?_)
          refine lv_iload hx hb dX11_spelled_106 (lv_at hl 6 rfl) ?_
          refine gi_zle (tgt := 128) hx hb dX11_spelled_108 (by decide) (by omega) (fun c_61 => ?_) (fun c_61 => ?_)
          · refine lv_lload hx hb dX11_spelled_128 (lv_at hl 0 rfl) ?_
            refine lv_lstore (lv' := [(7, .long (iL (((((((((((((a1 - 96) * 32) + a2) - 96) * 32) + a3) - 96) * 32) + a4) - 96) * 32) + a5) - 96))), (0, .int (iI a1)), (1, .int (iI a2)), (2, .int (iI a3)), (3, .int (iI a4)), (4, .int (iI a5)), (5, .int (iI a6)), (6, .int (iI a7))]) hx hb dX11_spelled_130 hl (by decide) rfl (fun ls hl => ?_)
            refine lv_iload hx hb dX11_spelled_132 (lv_at hl 7 rfl) ?_
            refine gi_zle (tgt := 154) hx hb dX11_spelled_134 (by decide) (by omega) (fun c_62 => ?_) (fun c_62 => ?_)
            · refine lv_lload hx hb dX11_spelled_154 (lv_at hl 0 rfl) ?_
              exact g_lret hQ C hr hlocks hP hS dX11_spelled_156 ⟨(((((((((((((a1 - 96) * 32) + a2) - 96) * 32) + a3) - 96) * 32) + a4) - 96) * 32) + a5) - 96), rfl, rfl, rfl, rfl, (by unfold spW; (first | rw [stp_p (x := a2) (by omega)] | rw [stp_n (x := a2) (by omega)]); (first | rw [stp_p (x := a3) (by omega)] | rw [stp_n (x := a3) (by omega)]); (first | rw [stp_p (x := a4) (by omega)] | rw [stp_n (x := a4) (by omega)]); (first | rw [stp_p (x := a5) (by omega)] | rw [stp_n (x := a5) (by omega)]); (first | rw [stp_p (x := a6) (by omega)] | rw [stp_n (x := a6) (by omega)]); (first | rw [stp_p (x := a7) (by omega)] | rw [stp_n (x := a7) (by omega)]))⟩
            · refine lv_lload hx hb dX11_spelled_137 (lv_at hl 0 rfl) ?_
              refine lv_ldc2 (v := iL 32) hx hb C.2.2.2.1 (C.2.2.1 _ (show Cond.constantLong RX11 176 (iL 32) ∈ gWs from mD_X11_176)) dX11_spelled_139 ?_
              refine gl_mul (z := ((((((((((((((a1 - 96) * 32) + a2) - 96) * 32) + a3) - 96) * 32) + a4) - 96) * 32) + a5) - 96) * 32)) hx hb dX11_spelled_142 rfl ?_
              refine lv_iload hx hb dX11_spelled_143 (lv_at hl 7 rfl) ?_
              refine gi_i2l hx hb (by omega) dX11_spelled_145 ?_
              refine gl_add (z := (((((((((((((((a1 - 96) * 32) + a2) - 96) * 32) + a3) - 96) * 32) + a4) - 96) * 32) + a5) - 96) * 32) + a7)) hx hb dX11_spelled_146 rfl ?_
              refine lv_ldc2 (v := iL 96) hx hb C.2.2.2.1 (C.2.2.1 _ (show Cond.constantLong RX11 178 (iL 96) ∈ gWs from mD_X11_178)) dX11_spelled_147 ?_
              refine gl_sub (z := ((((((((((((((((a1 - 96) * 32) + a2) - 96) * 32) + a3) - 96) * 32) + a4) - 96) * 32) + a5) - 96) * 32) + a7) - 96)) hx hb dX11_spelled_150 rfl ?_
              refine lv_goto (tgt := 156) hx hb dX11_spelled_151 (by decide) ?_
              exact g_lret hQ C hr hlocks hP hS dX11_spelled_156 ⟨((((((((((((((((a1 - 96) * 32) + a2) - 96) * 32) + a3) - 96) * 32) + a4) - 96) * 32) + a5) - 96) * 32) + a7) - 96), rfl, rfl, rfl, rfl, (by unfold spW; (first | rw [stp_p (x := a2) (by omega)] | rw [stp_n (x := a2) (by omega)]); (first | rw [stp_p (x := a3) (by omega)] | rw [stp_n (x := a3) (by omega)]); (first | rw [stp_p (x := a4) (by omega)] | rw [stp_n (x := a4) (by omega)]); (first | rw [stp_p (x := a5) (by omega)] | rw [stp_n (x := a5) (by omega)]); (first | rw [stp_p (x := a6) (by omega)] | rw [stp_n (x := a6) (by omega)]); (first | rw [stp_p (x := a7) (by omega)] | rw [stp_n (x := a7) (by omega)]))⟩
          · refine lv_lload hx hb dX11_spelled_111 (lv_at hl 0 rfl) ?_
            refine lv_ldc2 (v := iL 32) hx hb C.2.2.2.1 (C.2.2.1 _ (show Cond.constantLong RX11 176 (iL 32) ∈ gWs from mD_X11_176)) dX11_spelled_113 ?_
            refine gl_mul (z := ((((((((((((((a1 - 96) * 32) + a2) - 96) * 32) + a3) - 96) * 32) + a4) - 96) * 32) + a5) - 96) * 32)) hx hb dX11_spelled_116 rfl ?_
            refine lv_iload hx hb dX11_spelled_117 (lv_at hl 6 rfl) ?_
            refine gi_i2l hx hb (by omega) dX11_spelled_119 ?_
            refine gl_add (z := (((((((((((((((a1 - 96) * 32) + a2) - 96) * 32) + a3) - 96) * 32) + a4) - 96) * 32) + a5) - 96) * 32) + a6)) hx hb dX11_spelled_120 rfl ?_
            refine lv_ldc2 (v := iL 96) hx hb C.2.2.2.1 (C.2.2.1 _ (show Cond.constantLong RX11 178 (iL 96) ∈ gWs from mD_X11_178)) dX11_spelled_121 ?_
            refine gl_sub (z := ((((((((((((((((a1 - 96) * 32) + a2) - 96) * 32) + a3) - 96) * 32) + a4) - 96) * 32) + a5) - 96) * 32) + a6) - 96)) hx hb dX11_spelled_124 rfl ?_
            refine lv_goto (tgt := 130) hx hb dX11_spelled_125 (by decide) ?_
            refine lv_lstore (lv' := [(7, .long (iL ((((((((((((((((a1 - 96) * 32) + a2) - 96) * 32) + a3) - 96) * 32) + a4) - 96) * 32) + a5) - 96) * 32) + a6) - 96))), (0, .int (iI a1)), (1, .int (iI a2)), (2, .int (iI a3)), (3, .int (iI a4)), (4, .int (iI a5)), (5, .int (iI a6)), (6, .int (iI a7))]) hx hb dX11_spelled_130 hl (by decide) rfl (fun ls hl => ?_)
            refine lv_iload hx hb dX11_spelled_132 (lv_at hl 7 rfl) ?_
            refine gi_zle (tgt := 154) hx hb dX11_spelled_134 (by decide) (by omega) (fun c_63 => ?_) (fun c_63 => ?_)
            · refine lv_lload hx hb dX11_spelled_154 (lv_at hl 0 rfl) ?_
              exact g_lret hQ C hr hlocks hP hS dX11_spelled_156 ⟨((((((((((((((((a1 - 96) * 32) + a2) - 96) * 32) + a3) - 96) * 32) + a4) - 96) * 32) + a5) - 96) * 32) + a6) - 96), rfl, rfl, rfl, rfl, (by unfold spW; (first | rw [stp_p (x := a2) (by omega)] | rw [stp_n (x := a2) (by omega)]); (first | rw [stp_p (x := a3) (by omega)] | rw [stp_n (x := a3) (by omega)]); (first | rw [stp_p (x := a4) (by omega)] | rw [stp_n (x := a4) (by omega)]); (first | rw [stp_p (x := a5) (by omega)] | rw [stp_n (x := a5) (by omega)]); (first | rw [stp_p (x := a6) (by omega)] | rw [stp_n (x := a6) (by omega)]); (first | rw [stp_p (x := a7) (by omega)] | rw [stp_n (x := a7) (by omega)]))⟩
            · refine lv_lload hx hb dX11_spelled_137 (lv_at hl 0 rfl) ?_
              refine lv_ldc2 (v := iL 32) hx hb C.2.2.2.1 (C.2.2.1 _ (show Cond.constantLong RX11 176 (iL 32) ∈ gWs from mD_X11_176)) dX11_spelled_139 ?_
              refine gl_mul (z := (((((((((((((((((a1 - 96) * 32) + a2) - 96) * 32) + a3) - 96) * 32) + a4) - 96) * 32) + a5) - 96) * 32) + a6) - 96) * 32)) hx hb dX11_spelled_142 rfl ?_
              refine lv_iload hx hb dX11_spelled_143 (lv_at hl 7 rfl) ?_
              refine gi_i2l hx hb (by omega) dX11_spelled_145 ?_
              refine gl_add (z := ((((((((((((((((((a1 - 96) * 32) + a2) - 96) * 32) + a3) - 96) * 32) + a4) - 96) * 32) + a5) - 96) * 32) + a6) - 96) * 32) + a7)) hx hb dX11_spelled_146 rfl ?_
              refine lv_ldc2 (v := iL 96) hx hb C.2.2.2.1 (C.2.2.1 _ (show Cond.constantLong RX11 178 (iL 96) ∈ gWs from mD_X11_178)) dX11_spelled_147 ?_
              refine gl_sub (z := (((((((((((((((((((a1 - 96) * 32) + a2) - 96) * 32) + a3) - 96) * 32) + a4) - 96) * 32) + a5) - 96) * 32) + a6) - 96) * 32) + a7) - 96)) hx hb dX11_spelled_150 rfl ?_
              refine lv_goto (tgt := 156) hx hb dX11_spelled_151 (by decide) ?_
              exact g_lret hQ C hr hlocks hP hS dX11_spelled_156 ⟨(((((((((((((((((((a1 - 96) * 32) + a2) - 96) * 32) + a3) - 96) * 32) + a4) - 96) * 32) + a5) - 96) * 32) + a6) - 96) * 32) + a7) - 96), rfl, rfl, rfl, rfl, (by unfold spW; (first | rw [stp_p (x := a2) (by omega)] | rw [stp_n (x := a2) (by omega)]); (first | rw [stp_p (x := a3) (by omega)] | rw [stp_n (x := a3) (by omega)]); (first | rw [stp_p (x := a4) (by omega)] | rw [stp_n (x := a4) (by omega)]); (first | rw [stp_p (x := a5) (by omega)] | rw [stp_n (x := a5) (by omega)]); (first | rw [stp_p (x := a6) (by omega)] | rw [stp_n (x := a6) (by omega)]); (first | rw [stp_p (x := a7) (by omega)] | rw [stp_n (x := a7) (by omega)]))⟩

set_option maxHeartbeats 4000000 in
set_option maxRecDepth 100000 in
theorem n_isSign (l : Launch) (D : va_G) (k : Nat → ClassId) (A : Nat → Prop) (ad : Nat → Nat) (hD : mdD A k ad) (v : gV) (f g : gF) (a1 : Int) (h_a1 : inR a1) : GM l D k A (mdT k ad) yX11_isSign cX11_isSign 2 (some .boolean) 0 0 [.ref (ad 0), .int (iI a1)] v f g (fun r v1 f1 g1 => ∃ (z : Int), r = some (.int (iI z)) ∧ v = v1 ∧ f = f1 ∧ g = g1 ∧ (z = (if (v 8) = 3 ∧ (v 11) = a1 then 1 else 0))) := by
  refine GM.of (by decide) (Nat.le_of_ble_eq_true rfl) ?_
  intro p e s m args below meth c Q ls hQ C hml hr hlocks hP hl
  have hx := C.1
  have hb := C.2.1
  have hok := hP.2
  have hS : va_S A s.heap s.heap [] := va_S.rf
  have hl : lv_has ls 2 [(0, .ref (ad 0)), (1, .int (iI a1))] := hl
  refine lv_aload_n hx hb dX11_isSign_0 rfl (lv_at hl 0 rfl) ?_
  refine mdG_sort C hP mF_X11_165 dX11_isSign_1 ?_
  have r_1 : 0 ≤ (v 8) ∧ (v 8) ≤ 4 := hok.1 8
  refine lv_iconst (v := iI 3) hx hb dX11_isSign_4 rfl ?_
  refine gi_cne (tgt := 20) hx hb dX11_isSign_5 (by decide) (by omega) (by decide) (fun c_2 => ?_) (fun c_2 => ?_)
  · refine lv_iconst (v := iI 0) hx hb dX11_isSign_20 rfl ?_
    exact g_zret hQ C hr hlocks (by decide) hP hS dX11_isSign_21 ⟨0, rfl, rfl, rfl, rfl, (by first | omega | (split <;> omega))⟩
  · refine lv_aload_n hx hb dX11_isSign_8 rfl (lv_at hl 0 rfl) ?_
    refine mdG_number C hP mF_X11_185 dX11_isSign_9 ?_
    have r_3 : 0 ≤ (v 11) ∧ (v 11) ≤ 999999 := hok.1 11
    refine lv_iload_n hx hb dX11_isSign_12 rfl (lv_at hl 1 rfl) ?_
    refine gi_cne (tgt := 20) hx hb dX11_isSign_13 (by decide) (by omega) (by omega) (fun c_4 => ?_) (fun c_4 => ?_)
    · refine lv_iconst (v := iI 0) hx hb dX11_isSign_20 rfl ?_
      exact g_zret hQ C hr hlocks (by decide) hP hS dX11_isSign_21 ⟨0, rfl, rfl, rfl, rfl, (by first | omega | (split <;> omega))⟩
    · refine lv_iconst (v := iI 1) hx hb dX11_isSign_16 rfl ?_
      refine lv_goto (tgt := 21) hx hb dX11_isSign_17 (by decide) ?_
      exact g_zret hQ C hr hlocks (by decide) hP hS dX11_isSign_21 ⟨1, rfl, rfl, rfl, rfl, (by first | omega | (split <;> omega))⟩

set_option maxHeartbeats 4000000 in
set_option maxRecDepth 100000 in
theorem n_fail (l : Launch) (D : va_G) (k : Nat → ClassId) (A : Nat → Prop) (ad : Nat → Nat) (hD : mdD A k ad) (v : gV) (f g : gF) (a1 : Int) (a2 : Int) (h_a1 : inR a1) (h_a2 : inR a2) (h1 : 1 ≤ a1 ∧ a1 ≤ 5) (h2 : 0 ≤ a2 ∧ a2 ≤ 700) : GM l D k A (mdT k ad) yX11_fail cX11_fail 3 none 0 0 [.ref (ad 0), .int (iI a1), .int (iI a2)] v f g (fun r v1 f1 g1 => ∃ (w6 : Int) (w7 : Int), r = none ∧ (va_up (va_up v 6 w6) 7 w7) = v1 ∧ f = f1 ∧ g = g1 ∧ ((v 6) = 0 → w6 = a1 ∧ w7 = a2) ∧ (0 < (v 6) → w6 = (v 6) ∧ w7 = (v 7))) := by
  refine GM.of (by decide) (Nat.le_of_ble_eq_true rfl) ?_
  intro p e s m args below meth c Q ls hQ C hml hr hlocks hP hl
  have hx := C.1
  have hb := C.2.1
  have hok := hP.2
  have hS : va_S A s.heap s.heap [] := va_S.rf
  have hl : lv_has ls 3 [(0, .ref (ad 0)), (1, .int (iI a1)), (2, .int (iI a2))] := hl
  have hP : gWd D (mdT k ad) (va_up (va_up v 6 (v 6)) 7 (v 7)) f g s.heap := by rw [va_id, va_id]; exact hP
  have r_1 : 0 ≤ (v 6) ∧ (v 6) ≤ 5 := hok.1 6
  refine lv_aload_n hx hb dX11_fail_0 rfl (lv_at hl 0 rfl) ?_
  refine mdG_bad C hP mF_X11_188 dX11_fail_1 ?_
  show W p l e (gRm 0 0) s m args below meth c _ _ 0 0 Q (F0 m 4 ls [.int (iI (v 6))])
  refine gi_zle (tgt := 8) hx hb dX11_fail_4 (by decide) (by omega) (fun c_2 => ?_) (fun c_2 => ?_)
  · refine lv_aload_n hx hb dX11_fail_8 rfl (lv_at hl 0 rfl) ?_
    refine lv_iload_n hx hb dX11_fail_9 rfl (lv_at hl 1 rfl) ?_
    refine mdP_bad (v1 := (va_up (va_up v 6 a1) 7 (v 7))) C hP hD hS mF_X11_188 (by omega) rfl (Or.inr (gR_up (V := mdV) (F := mdF) (gR_up (V := mdV) (F := mdF) ⟨hok.1, hok.2⟩ 6 (show 0 ≤ a1 ∧ a1 ≤ 5 from by omega)) 7 (hP.2.1 7))) dX11_fail_10 (fun H locs hP hS => ?_)
    refine lv_aload_n hx hb dX11_fail_13 rfl (lv_at hl 0 rfl) ?_
    refine lv_iload_n hx hb dX11_fail_14 rfl (lv_at hl 2 rfl) ?_
    refine mdP_badAt (v1 := (va_up (va_up v 6 a1) 7 a2)) C hP hD hS mF_X11_191 (by omega) rfl (Or.inr (gR_up (V := mdV) (F := mdF) (gR_up (V := mdV) (F := mdF) ⟨hok.1, hok.2⟩ 6 (hP.2.1 6)) 7 (show 0 ≤ a2 ∧ a2 ≤ 700 from by omega))) dX11_fail_15 (fun H locs hP hS => ?_)
    exact g_vret hQ C hr hlocks hP hS dX11_fail_18 ⟨a1, a2, rfl, rfl, rfl, rfl, (by first | omega | (split <;> omega)), (by first | omega | (split <;> omega))⟩
  · exact g_vret hQ C hr hlocks hP hS dX11_fail_7 ⟨(v 6), (v 7), rfl, rfl, rfl, rfl, (by first | omega | (split <;> omega)), (by first | omega | (split <;> omega))⟩

set_option maxHeartbeats 4000000 in
set_option maxRecDepth 100000 in
theorem n_wrong (l : Launch) (D : va_G) (k : Nat → ClassId) (A : Nat → Prop) (ad : Nat → Nat) (hD : mdD A k ad) (v : gV) (f g : gF) : GM l D k A (mdT k ad) yX11_wrong cX11_wrong 1 none 1 22 [.ref (ad 0)] v f g (fun r v1 f1 g1 => ∃ (w6 : Int) (w7 : Int), r = none ∧ (va_up (va_up v 6 w6) 7 w7) = v1 ∧ f = f1 ∧ g = g1 ∧ ((v 6) = 0 → w6 = (if (v 8) = 4 then 1 else 2) ∧ w7 = (v 9)) ∧ (0 < (v 6) → w6 = (v 6) ∧ w7 = (v 7))) := by
  refine GM.of (by decide) (Nat.le_of_ble_eq_true rfl) ?_
  intro p e s m args below meth c Q ls hQ C hml hr hlocks hP hl
  have hx := C.1
  have hb := C.2.1
  have hok := hP.2
  have hS : va_S A s.heap s.heap [] := va_S.rf
  have hl : lv_has ls 1 [(0, .ref (ad 0))] := hl
  have hP : gWd D (mdT k ad) (va_up (va_up v 6 (v 6)) 7 (v 7)) f g s.heap := by rw [va_id, va_id]; exact hP
  have r_1 : 0 ≤ (v 6) ∧ (v 6) ≤ 5 := hok.1 6
  have r_2 : 0 ≤ (v 9) ∧ (v 9) ≤ 700 := hok.1 9
  have r_3 : 0 ≤ (v 8) ∧ (v 8) ≤ 4 := hok.1 8
  refine lv_aload_n hx hb dX11_wrong_0 rfl (lv_at hl 0 rfl) ?_
  refine lv_aload_n hx hb dX11_wrong_1 rfl (lv_at hl 0 rfl) ?_
  refine mdG_sort C hP mF_X11_165 dX11_wrong_2 ?_
  show W p l e (gRm 1 22) s m args below meth c _ _ 0 0 Q (F0 m 5 ls [.int (iI (v 8)), .ref (ad 0)])
  refine lv_iconst (v := iI 4) hx hb dX11_wrong_5 rfl ?_
  refine gi_cne (tgt := 13) hx hb dX11_wrong_6 (by decide) (by omega) (by decide) (fun c_4 => ?_) (fun c_4 => ?_)
  · refine lv_iconst (v := iI 2) hx hb dX11_wrong_13 rfl ?_
    refine lv_aload_n hx hb dX11_wrong_14 rfl (lv_at hl 0 rfl) ?_
    refine mdG_at C hP mF_X11_158 dX11_wrong_15 ?_
    show W p l e (gRm 1 22) s m args below meth c _ _ 0 0 Q (F0 m 18 ls [.int (iI (v 9)), .int (iI 2), .ref (ad 0)])
    refine g_cv (As := [.int (iI 2), .int (iI (v 9))]) (rest := []) (n := 2) C hml (n_fail l D k A ad hD (va_up (va_up v 6 (v 6)) 7 (v 7)) f g 2 (v 9) (by decide) (by omega) (show 1 ≤ (2 : Int) ∧ (2 : Int) ≤ 5 from by omega) (show 0 ≤ (v 9) ∧ (v 9) ≤ 700 from by omega)) mM_X11_194 mI_X11_fail mE_X11_fail mN_X11 mC_X11_fail (by decide +kernel) 0 (ci := 11) rfl rfl hP hS (fun _ h => h) ⟨Nat.le_of_ble_eq_true rfl, Nat.le_of_ble_eq_true rfl⟩ ⟨Nat.zero_le _, Nat.zero_le _⟩ hl.1 rfl rfl (Nat.le_of_ble_eq_true rfl) dX11_wrong_18 (fun r_5 v_5 f_5 g_5 H locs hq_5 hP _ hS => ?_)
    obtain ⟨w6_5, w7_5, rfl, rfl, rfl, rfl, p0_5, p1_5⟩ := hq_5
    show W p l e (gRm 1 22) s m args below meth c _ _ 0 0 Q (F0 m 21 ls [])
    have hP : gWd D (mdT k ad) (va_up (va_up v 6 w6_5) 7 w7_5) f g H := ⟨hP.1, (gR_up (V := mdV) (F := mdF) (gR_up (V := mdV) (F := mdF) ⟨hok.1, hok.2⟩ 6 (hP.2.1 6)) 7 (hP.2.1 7))⟩
    replace p0_5 : (v 6) = 0 → w6_5 = (2 : Int) ∧ w7_5 = (v 9) := p0_5
    replace p1_5 : 0 < (v 6) → w6_5 = (v 6) ∧ w7_5 = (v 7) := p1_5
    have rw6_5 : 0 ≤ w6_5 ∧ w6_5 ≤ 5 := hP.2.1 6
    have rw7_5 : 0 ≤ w7_5 ∧ w7_5 ≤ 700 := hP.2.1 7
    exact g_vret hQ C hr hlocks hP hS dX11_wrong_21 ⟨w6_5, w7_5, rfl, rfl, rfl, rfl, (by first | (intro h; exfalso; omega) | (intro h; rw [if_pos (by omega)]; omega) | (intro h; rw [if_neg (by omega)]; omega)), (by first | omega | (split <;> omega))⟩
  · refine lv_iconst (v := iI 1) hx hb dX11_wrong_9 rfl ?_
    refine lv_goto (tgt := 14) hx hb dX11_wrong_10 (by decide) ?_
    refine lv_aload_n hx hb dX11_wrong_14 rfl (lv_at hl 0 rfl) ?_
    refine mdG_at C hP mF_X11_158 dX11_wrong_15 ?_
    show W p l e (gRm 1 22) s m args below meth c _ _ 0 0 Q (F0 m 18 ls [.int (iI (v 9)), .int (iI 1), .ref (ad 0)])
    refine g_cv (As := [.int (iI 1), .int (iI (v 9))]) (rest := []) (n := 2) C hml (n_fail l D k A ad hD (va_up (va_up v 6 (v 6)) 7 (v 7)) f g 1 (v 9) (by decide) (by omega) (show 1 ≤ (1 : Int) ∧ (1 : Int) ≤ 5 from by omega) (show 0 ≤ (v 9) ∧ (v 9) ≤ 700 from by omega)) mM_X11_194 mI_X11_fail mE_X11_fail mN_X11 mC_X11_fail (by decide +kernel) 0 (ci := 11) rfl rfl hP hS (fun _ h => h) ⟨Nat.le_of_ble_eq_true rfl, Nat.le_of_ble_eq_true rfl⟩ ⟨Nat.zero_le _, Nat.zero_le _⟩ hl.1 rfl rfl (Nat.le_of_ble_eq_true rfl) dX11_wrong_18 (fun r_6 v_6 f_6 g_6 H locs hq_6 hP _ hS => ?_)
    obtain ⟨w6_6, w7_6, rfl, rfl, rfl, rfl, p0_6, p1_6⟩ := hq_6
    show W p l e (gRm 1 22) s m args below meth c _ _ 0 0 Q (F0 m 21 ls [])
    have hP : gWd D (mdT k ad) (va_up (va_up v 6 w6_6) 7 w7_6) f g H := ⟨hP.1, (gR_up (V := mdV) (F := mdF) (gR_up (V := mdV) (F := mdF) ⟨hok.1, hok.2⟩ 6 (hP.2.1 6)) 7 (hP.2.1 7))⟩
    replace p0_6 : (v 6) = 0 → w6_6 = (1 : Int) ∧ w7_6 = (v 9) := p0_6
    replace p1_6 : 0 < (v 6) → w6_6 = (v 6) ∧ w7_6 = (v 7) := p1_6
    have rw6_6 : 0 ≤ w6_6 ∧ w6_6 ≤ 5 := hP.2.1 6
    have rw7_6 : 0 ≤ w7_6 ∧ w7_6 ≤ 700 := hP.2.1 7
    exact g_vret hQ C hr hlocks hP hS dX11_wrong_21 ⟨w6_6, w7_6, rfl, rfl, rfl, rfl, (by first | (intro h; exfalso; omega) | (intro h; rw [if_pos (by omega)]; omega) | (intro h; rw [if_neg (by omega)]; omega)), (by first | omega | (split <;> omega))⟩
end
