theorem dX3_read_0 : decode cX3_read 0 = .ok (.aload_n 0, 1) := by decide +kernel
theorem dX3_read_1 : decode cX3_read 1 = .ok (.iconst 0, 1) := by decide +kernel
theorem dX3_read_2 : decode cX3_read 2 = .ok (.putfield 32, 3) := by decide +kernel
theorem dX3_read_5 : decode cX3_read 5 = .ok (.aload_n 0, 1) := by decide +kernel
theorem dX3_read_6 : decode cX3_read 6 = .ok (.iconst (-1), 1) := by decide +kernel
theorem dX3_read_7 : decode cX3_read 7 = .ok (.putfield 36, 3) := by decide +kernel
theorem dX3_read_10 : decode cX3_read 10 = .ok (.aload_n 0, 1) := by decide +kernel
theorem dX3_read_11 : decode cX3_read 11 = .ok (.iconst 0, 1) := by decide +kernel
theorem dX3_read_12 : decode cX3_read 12 = .ok (.putfield 39, 3) := by decide +kernel
theorem dX3_read_15 : decode cX3_read 15 = .ok (.aload_n 0, 1) := by decide +kernel
theorem dX3_read_16 : decode cX3_read 16 = .ok (.iconst 0, 1) := by decide +kernel
theorem dX3_read_17 : decode cX3_read 17 = .ok (.putfield 43, 3) := by decide +kernel
theorem dX3_read_20 : decode cX3_read 20 = .ok (.aload_n 0, 1) := by decide +kernel
theorem dX3_read_21 : decode cX3_read 21 = .ok (.iconst 0, 1) := by decide +kernel
theorem dX3_read_22 : decode cX3_read 22 = .ok (.putfield 46, 3) := by decide +kernel
theorem dX3_read_25 : decode cX3_read 25 = .ok (.aload_n 0, 1) := by decide +kernel
theorem dX3_read_26 : decode cX3_read 26 = .ok (.getfield 21, 3) := by decide +kernel
theorem dX3_read_29 : decode cX3_read 29 = .ok (.invokevirtual 49, 3) := by decide +kernel
theorem dX3_read_32 : decode cX3_read 32 = .ok (.aload_n 0, 1) := by decide +kernel
theorem dX3_read_33 : decode cX3_read 33 = .ok (.getfield 12, 3) := by decide +kernel
theorem dX3_read_36 : decode cX3_read 36 = .ok (.aload_n 1, 1) := by decide +kernel
theorem dX3_read_37 : decode cX3_read 37 = .ok (.iload_n 2, 1) := by decide +kernel
theorem dX3_read_38 : decode cX3_read 38 = .ok (.invokevirtual 52, 3) := by decide +kernel
theorem dX3_read_41 : decode cX3_read 41 = .ok (.iconst 0, 1) := by decide +kernel
theorem dX3_read_42 : decode cX3_read 42 = .ok (.istore_n 3, 1) := by decide +kernel
theorem dX3_read_43 : decode cX3_read 43 = .ok (.iload_n 3, 1) := by decide +kernel
theorem dX3_read_44 : decode cX3_read 44 = .ok (.sipush 700, 3) := by decide +kernel
theorem dX3_read_47 : decode cX3_read 47 = .ok (.if_icmp .gt 33, 3) := by decide +kernel
theorem dX3_read_50 : decode cX3_read 50 = .ok (.aload_n 0, 1) := by decide +kernel
theorem dX3_read_51 : decode cX3_read 51 = .ok (.getfield 32, 3) := by decide +kernel
theorem dX3_read_54 : decode cX3_read 54 = .ok (.ifCond .ne 26, 3) := by decide +kernel
theorem dX3_read_57 : decode cX3_read 57 = .ok (.aload_n 0, 1) := by decide +kernel
theorem dX3_read_58 : decode cX3_read 58 = .ok (.getfield 12, 3) := by decide +kernel
theorem dX3_read_61 : decode cX3_read 61 = .ok (.invokevirtual 56, 3) := by decide +kernel
theorem dX3_read_64 : decode cX3_read 64 = .ok (.sipush 256, 3) := by decide +kernel
theorem dX3_read_67 : decode cX3_read 67 = .ok (.if_icmp .eq 13, 3) := by decide +kernel
theorem dX3_read_70 : decode cX3_read 70 = .ok (.aload_n 0, 1) := by decide +kernel
theorem dX3_read_71 : decode cX3_read 71 = .ok (.invokevirtual 60, 3) := by decide +kernel
theorem dX3_read_74 : decode cX3_read 74 = .ok (.iinc 3 1, 3) := by decide +kernel
theorem dX3_read_77 : decode cX3_read 77 = .ok (.goto (-34), 3) := by decide +kernel
theorem dX3_read_80 : decode cX3_read 80 = .ok (.return_, 1) := by decide +kernel
theorem dX3_readLaw_0 : decode cX3_readLaw 0 = .ok (.aload_n 0, 1) := by decide +kernel
theorem dX3_readLaw_1 : decode cX3_readLaw 1 = .ok (.getfield 12, 3) := by decide +kernel
theorem dX3_readLaw_4 : decode cX3_readLaw 4 = .ok (.invokevirtual 56, 3) := by decide +kernel
theorem dX3_readLaw_7 : decode cX3_readLaw 7 = .ok (.tableswitch 121 260 263 #[29, 36, 79, 100], 29) := by decide +kernel
theorem dX3_readLaw_36 : decode cX3_readLaw 36 = .ok (.aload_n 0, 1) := by decide +kernel
theorem dX3_readLaw_37 : decode cX3_readLaw 37 = .ok (.invokevirtual 63, 3) := by decide +kernel
theorem dX3_readLaw_40 : decode cX3_readLaw 40 = .ok (.goto 92, 3) := by decide +kernel
theorem dX3_readLaw_43 : decode cX3_readLaw 43 = .ok (.aload_n 0, 1) := by decide +kernel
theorem dX3_readLaw_44 : decode cX3_readLaw 44 = .ok (.aload_n 0, 1) := by decide +kernel
theorem dX3_readLaw_45 : decode cX3_readLaw 45 = .ok (.getfield 39, 3) := by decide +kernel
theorem dX3_readLaw_48 : decode cX3_readLaw 48 = .ok (.iconst 5, 1) := by decide +kernel
theorem dX3_readLaw_49 : decode cX3_readLaw 49 = .ok (.invokevirtual 66, 3) := by decide +kernel
theorem dX3_readLaw_52 : decode cX3_readLaw 52 = .ok (.aload_n 0, 1) := by decide +kernel
theorem dX3_readLaw_53 : decode cX3_readLaw 53 = .ok (.iconst 1, 1) := by decide +kernel
theorem dX3_readLaw_54 : decode cX3_readLaw 54 = .ok (.putfield 39, 3) := by decide +kernel
theorem dX3_readLaw_57 : decode cX3_readLaw 57 = .ok (.aload_n 0, 1) := by decide +kernel
theorem dX3_readLaw_58 : decode cX3_readLaw 58 = .ok (.invokevirtual 70, 3) := by decide +kernel
theorem dX3_readLaw_61 : decode cX3_readLaw 61 = .ok (.ifCond .eq 71, 3) := by decide +kernel
theorem dX3_readLaw_64 : decode cX3_readLaw 64 = .ok (.aload_n 0, 1) := by decide +kernel
theorem dX3_readLaw_65 : decode cX3_readLaw 65 = .ok (.aload_n 0, 1) := by decide +kernel
theorem dX3_readLaw_66 : decode cX3_readLaw 66 = .ok (.getfield 28, 3) := by decide +kernel
theorem dX3_readLaw_69 : decode cX3_readLaw 69 = .ok (.aload_n 0, 1) := by decide +kernel
theorem dX3_readLaw_70 : decode cX3_readLaw 70 = .ok (.getfield 12, 3) := by decide +kernel
theorem dX3_readLaw_73 : decode cX3_readLaw 73 = .ok (.aload_n 0, 1) := by decide +kernel
theorem dX3_readLaw_74 : decode cX3_readLaw 74 = .ok (.getfield 21, 3) := by decide +kernel
theorem dX3_readLaw_77 : decode cX3_readLaw 77 = .ok (.invokevirtual 74, 3) := by decide +kernel
theorem dX3_readLaw_80 : decode cX3_readLaw 80 = .ok (.invokevirtual 78, 3) := by decide +kernel
theorem dX3_readLaw_83 : decode cX3_readLaw 83 = .ok (.goto 49, 3) := by decide +kernel
theorem dX3_readLaw_86 : decode cX3_readLaw 86 = .ok (.aload_n 0, 1) := by decide +kernel
theorem dX3_readLaw_87 : decode cX3_readLaw 87 = .ok (.aload_n 0, 1) := by decide +kernel
theorem dX3_readLaw_88 : decode cX3_readLaw 88 = .ok (.getfield 43, 3) := by decide +kernel
theorem dX3_readLaw_91 : decode cX3_readLaw 91 = .ok (.iconst 5, 1) := by decide +kernel
theorem dX3_readLaw_92 : decode cX3_readLaw 92 = .ok (.invokevirtual 66, 3) := by decide +kernel
theorem dX3_readLaw_95 : decode cX3_readLaw 95 = .ok (.aload_n 0, 1) := by decide +kernel
theorem dX3_readLaw_96 : decode cX3_readLaw 96 = .ok (.iconst 1, 1) := by decide +kernel
theorem dX3_readLaw_97 : decode cX3_readLaw 97 = .ok (.putfield 43, 3) := by decide +kernel
theorem dX3_readLaw_100 : decode cX3_readLaw 100 = .ok (.aload_n 0, 1) := by decide +kernel
theorem dX3_readLaw_101 : decode cX3_readLaw 101 = .ok (.invokevirtual 82, 3) := by decide +kernel
theorem dX3_readLaw_104 : decode cX3_readLaw 104 = .ok (.goto 28, 3) := by decide +kernel
theorem dX3_readLaw_107 : decode cX3_readLaw 107 = .ok (.aload_n 0, 1) := by decide +kernel
theorem dX3_readLaw_108 : decode cX3_readLaw 108 = .ok (.aload_n 0, 1) := by decide +kernel
theorem dX3_readLaw_109 : decode cX3_readLaw 109 = .ok (.getfield 46, 3) := by decide +kernel
theorem dX3_readLaw_112 : decode cX3_readLaw 112 = .ok (.iconst 5, 1) := by decide +kernel
theorem dX3_readLaw_113 : decode cX3_readLaw 113 = .ok (.invokevirtual 66, 3) := by decide +kernel
theorem dX3_readLaw_116 : decode cX3_readLaw 116 = .ok (.aload_n 0, 1) := by decide +kernel
theorem dX3_readLaw_117 : decode cX3_readLaw 117 = .ok (.iconst 1, 1) := by decide +kernel
theorem dX3_readLaw_118 : decode cX3_readLaw 118 = .ok (.putfield 46, 3) := by decide +kernel
theorem dX3_readLaw_121 : decode cX3_readLaw 121 = .ok (.aload_n 0, 1) := by decide +kernel
theorem dX3_readLaw_122 : decode cX3_readLaw 122 = .ok (.invokevirtual 85, 3) := by decide +kernel
theorem dX3_readLaw_125 : decode cX3_readLaw 125 = .ok (.goto 7, 3) := by decide +kernel
theorem dX3_readLaw_128 : decode cX3_readLaw 128 = .ok (.aload_n 0, 1) := by decide +kernel
theorem dX3_readLaw_129 : decode cX3_readLaw 129 = .ok (.invokevirtual 88, 3) := by decide +kernel
theorem dX3_readLaw_132 : decode cX3_readLaw 132 = .ok (.aload_n 0, 1) := by decide +kernel
theorem dX3_readLaw_133 : decode cX3_readLaw 133 = .ok (.bipush 59, 2) := by decide +kernel
theorem dX3_readLaw_135 : decode cX3_readLaw 135 = .ok (.invokevirtual 91, 3) := by decide +kernel
theorem dX3_readLaw_138 : decode cX3_readLaw 138 = .ok (.return_, 1) := by decide +kernel
theorem dX3_readRound_0 : decode cX3_readRound 0 = .ok (.aload_n 0, 1) := by decide +kernel
theorem dX3_readRound_1 : decode cX3_readRound 1 = .ok (.getfield 21, 3) := by decide +kernel
theorem dX3_readRound_4 : decode cX3_readRound 4 = .ok (.getfield 100, 3) := by decide +kernel
theorem dX3_readRound_7 : decode cX3_readRound 7 = .ok (.istore_n 1, 1) := by decide +kernel
theorem dX3_readRound_8 : decode cX3_readRound 8 = .ok (.aload_n 0, 1) := by decide +kernel
theorem dX3_readRound_9 : decode cX3_readRound 9 = .ok (.iload_n 1, 1) := by decide +kernel
theorem dX3_readRound_10 : decode cX3_readRound 10 = .ok (.iconst 4, 1) := by decide +kernel
theorem dX3_readRound_11 : decode cX3_readRound 11 = .ok (.if_icmp .lt 7, 3) := by decide +kernel
theorem dX3_readRound_14 : decode cX3_readRound 14 = .ok (.iconst 1, 1) := by decide +kernel
theorem dX3_readRound_15 : decode cX3_readRound 15 = .ok (.goto 4, 3) := by decide +kernel
theorem dX3_readRound_18 : decode cX3_readRound 18 = .ok (.iconst 0, 1) := by decide +kernel
theorem dX3_readRound_19 : decode cX3_readRound 19 = .ok (.iconst 3, 1) := by decide +kernel
theorem dX3_readRound_20 : decode cX3_readRound 20 = .ok (.invokevirtual 66, 3) := by decide +kernel
theorem dX3_readRound_23 : decode cX3_readRound 23 = .ok (.aload_n 0, 1) := by decide +kernel
theorem dX3_readRound_24 : decode cX3_readRound 24 = .ok (.invokevirtual 70, 3) := by decide +kernel
theorem dX3_readRound_27 : decode cX3_readRound 27 = .ok (.ifCond .ne 4, 3) := by decide +kernel
theorem dX3_readRound_30 : decode cX3_readRound 30 = .ok (.return_, 1) := by decide +kernel
theorem dX3_readRound_31 : decode cX3_readRound 31 = .ok (.iconst 0, 1) := by decide +kernel
theorem dX3_readRound_32 : decode cX3_readRound 32 = .ok (.istore_n 2, 1) := by decide +kernel
theorem dX3_readRound_33 : decode cX3_readRound 33 = .ok (.iload_n 2, 1) := by decide +kernel
theorem dX3_readRound_34 : decode cX3_readRound 34 = .ok (.iconst 4, 1) := by decide +kernel
theorem dX3_readRound_35 : decode cX3_readRound 35 = .ok (.if_icmp .ge 96, 3) := by decide +kernel
theorem dX3_readRound_38 : decode cX3_readRound 38 = .ok (.aload_n 0, 1) := by decide +kernel
theorem dX3_readRound_39 : decode cX3_readRound 39 = .ok (.getfield 32, 3) := by decide +kernel
theorem dX3_readRound_42 : decode cX3_readRound 42 = .ok (.ifCond .ne 89, 3) := by decide +kernel
theorem dX3_readRound_45 : decode cX3_readRound 45 = .ok (.aload_n 0, 1) := by decide +kernel
theorem dX3_readRound_46 : decode cX3_readRound 46 = .ok (.getfield 12, 3) := by decide +kernel
theorem dX3_readRound_49 : decode cX3_readRound 49 = .ok (.invokevirtual 56, 3) := by decide +kernel
theorem dX3_readRound_52 : decode cX3_readRound 52 = .ok (.sipush 258, 3) := by decide +kernel
theorem dX3_readRound_55 : decode cX3_readRound 55 = .ok (.if_icmp .ne 63, 3) := by decide +kernel
theorem dX3_readRound_58 : decode cX3_readRound 58 = .ok (.aload_n 0, 1) := by decide +kernel
theorem dX3_readRound_59 : decode cX3_readRound 59 = .ok (.aload_n 0, 1) := by decide +kernel
theorem dX3_readRound_60 : decode cX3_readRound 60 = .ok (.getfield 12, 3) := by decide +kernel
theorem dX3_readRound_63 : decode cX3_readRound 63 = .ok (.invokevirtual 103, 3) := by decide +kernel
theorem dX3_readRound_66 : decode cX3_readRound 66 = .ok (.getstatic 106, 3) := by decide +kernel
theorem dX3_readRound_69 : decode cX3_readRound 69 = .ok (.iload_n 2, 1) := by decide +kernel
theorem dX3_readRound_70 : decode cX3_readRound 70 = .ok (.iaload, 1) := by decide +kernel
theorem dX3_readRound_71 : decode cX3_readRound 71 = .ok (.if_icmp .lt 18, 3) := by decide +kernel
theorem dX3_readRound_74 : decode cX3_readRound 74 = .ok (.aload_n 0, 1) := by decide +kernel
theorem dX3_readRound_75 : decode cX3_readRound 75 = .ok (.getfield 12, 3) := by decide +kernel
theorem dX3_readRound_78 : decode cX3_readRound 78 = .ok (.invokevirtual 103, 3) := by decide +kernel
theorem dX3_readRound_81 : decode cX3_readRound 81 = .ok (.getstatic 110, 3) := by decide +kernel
theorem dX3_readRound_84 : decode cX3_readRound 84 = .ok (.iload_n 2, 1) := by decide +kernel
theorem dX3_readRound_85 : decode cX3_readRound 85 = .ok (.iaload, 1) := by decide +kernel
theorem dX3_readRound_86 : decode cX3_readRound 86 = .ok (.if_icmp .le 7, 3) := by decide +kernel
theorem dX3_readRound_89 : decode cX3_readRound 89 = .ok (.iconst 1, 1) := by decide +kernel
theorem dX3_readRound_90 : decode cX3_readRound 90 = .ok (.goto 4, 3) := by decide +kernel
theorem dX3_readRound_93 : decode cX3_readRound 93 = .ok (.iconst 0, 1) := by decide +kernel
theorem dX3_readRound_94 : decode cX3_readRound 94 = .ok (.iconst 4, 1) := by decide +kernel
theorem dX3_readRound_95 : decode cX3_readRound 95 = .ok (.invokevirtual 66, 3) := by decide +kernel
theorem dX3_readRound_98 : decode cX3_readRound 98 = .ok (.aload_n 0, 1) := by decide +kernel
theorem dX3_readRound_99 : decode cX3_readRound 99 = .ok (.getfield 21, 3) := by decide +kernel
theorem dX3_readRound_102 : decode cX3_readRound 102 = .ok (.getfield 113, 3) := by decide +kernel
theorem dX3_readRound_105 : decode cX3_readRound 105 = .ok (.iload_n 1, 1) := by decide +kernel
theorem dX3_readRound_106 : decode cX3_readRound 106 = .ok (.iconst 4, 1) := by decide +kernel
theorem dX3_readRound_107 : decode cX3_readRound 107 = .ok (.imul, 1) := by decide +kernel
theorem dX3_readRound_108 : decode cX3_readRound 108 = .ok (.iload_n 2, 1) := by decide +kernel
theorem dX3_readRound_109 : decode cX3_readRound 109 = .ok (.iadd, 1) := by decide +kernel
theorem dX3_readRound_110 : decode cX3_readRound 110 = .ok (.aload_n 0, 1) := by decide +kernel
theorem dX3_readRound_111 : decode cX3_readRound 111 = .ok (.getfield 12, 3) := by decide +kernel
theorem dX3_readRound_114 : decode cX3_readRound 114 = .ok (.invokevirtual 103, 3) := by decide +kernel
theorem dX3_readRound_117 : decode cX3_readRound 117 = .ok (.iastore, 1) := by decide +kernel
theorem dX3_readRound_118 : decode cX3_readRound 118 = .ok (.aload_n 0, 1) := by decide +kernel
theorem dX3_readRound_119 : decode cX3_readRound 119 = .ok (.sipush 258, 3) := by decide +kernel
theorem dX3_readRound_122 : decode cX3_readRound 122 = .ok (.invokevirtual 91, 3) := by decide +kernel
theorem dX3_readRound_125 : decode cX3_readRound 125 = .ok (.iinc 2 1, 3) := by decide +kernel
theorem dX3_readRound_128 : decode cX3_readRound 128 = .ok (.goto (-95), 3) := by decide +kernel
theorem dX3_readRound_131 : decode cX3_readRound 131 = .ok (.aload_n 0, 1) := by decide +kernel
theorem dX3_readRound_132 : decode cX3_readRound 132 = .ok (.getfield 21, 3) := by decide +kernel
theorem dX3_readRound_135 : decode cX3_readRound 135 = .ok (.iload_n 1, 1) := by decide +kernel
theorem dX3_readRound_136 : decode cX3_readRound 136 = .ok (.iconst 1, 1) := by decide +kernel
theorem dX3_readRound_137 : decode cX3_readRound 137 = .ok (.iadd, 1) := by decide +kernel
theorem dX3_readRound_138 : decode cX3_readRound 138 = .ok (.putfield 100, 3) := by decide +kernel
theorem dX3_readRound_141 : decode cX3_readRound 141 = .ok (.return_, 1) := by decide +kernel
theorem dX6_split_0 : decode cX6_split 0 = .ok (.aload_n 0, 1) := by decide +kernel
theorem dX6_split_1 : decode cX6_split 1 = .ok (.iconst 0, 1) := by decide +kernel
theorem dX6_split_2 : decode cX6_split 2 = .ok (.putfield 21, 3) := by decide +kernel
theorem dX6_split_5 : decode cX6_split 5 = .ok (.aload_n 0, 1) := by decide +kernel
theorem dX6_split_6 : decode cX6_split 6 = .ok (.iconst 0, 1) := by decide +kernel
theorem dX6_split_7 : decode cX6_split 7 = .ok (.putfield 25, 3) := by decide +kernel
theorem dX6_split_10 : decode cX6_split 10 = .ok (.iconst 0, 1) := by decide +kernel
theorem dX6_split_11 : decode cX6_split 11 = .ok (.istore_n 3, 1) := by decide +kernel
theorem dX6_split_12 : decode cX6_split 12 = .ok (.iconst 0, 1) := by decide +kernel
theorem dX6_split_13 : decode cX6_split 13 = .ok (.istore 4, 2) := by decide +kernel
theorem dX6_split_15 : decode cX6_split 15 = .ok (.iload 4, 2) := by decide +kernel
theorem dX6_split_17 : decode cX6_split 17 = .ok (.iload_n 2, 1) := by decide +kernel
theorem dX6_split_18 : decode cX6_split 18 = .ok (.if_icmp .ge 127, 3) := by decide +kernel
theorem dX6_split_21 : decode cX6_split 21 = .ok (.iload_n 3, 1) := by decide +kernel
theorem dX6_split_22 : decode cX6_split 22 = .ok (.iload_n 2, 1) := by decide +kernel
theorem dX6_split_23 : decode cX6_split 23 = .ok (.if_icmp .ge 122, 3) := by decide +kernel
theorem dX6_split_26 : decode cX6_split 26 = .ok (.aload_n 1, 1) := by decide +kernel
theorem dX6_split_27 : decode cX6_split 27 = .ok (.iload_n 3, 1) := by decide +kernel
theorem dX6_split_28 : decode cX6_split 28 = .ok (.iaload, 1) := by decide +kernel
theorem dX6_split_29 : decode cX6_split 29 = .ok (.istore 5, 2) := by decide +kernel
theorem dX6_split_31 : decode cX6_split 31 = .ok (.iload 5, 2) := by decide +kernel
theorem dX6_split_33 : decode cX6_split 33 = .ok (.bipush 32, 2) := by decide +kernel
theorem dX6_split_35 : decode cX6_split 35 = .ok (.if_icmp .eq 10, 3) := by decide +kernel
theorem dX6_split_38 : decode cX6_split 38 = .ok (.iload 5, 2) := by decide +kernel
theorem dX6_split_40 : decode cX6_split 40 = .ok (.bipush 10, 2) := by decide +kernel
theorem dX6_split_42 : decode cX6_split 42 = .ok (.if_icmp .ne 9, 3) := by decide +kernel
theorem dX6_split_45 : decode cX6_split 45 = .ok (.iinc 3 1, 3) := by decide +kernel
theorem dX6_split_48 : decode cX6_split 48 = .ok (.goto 66, 3) := by decide +kernel
theorem dX6_split_51 : decode cX6_split 51 = .ok (.iload 5, 2) := by decide +kernel
theorem dX6_split_53 : decode cX6_split 53 = .ok (.invokestatic 28, 3) := by decide +kernel
theorem dX6_split_56 : decode cX6_split 56 = .ok (.ifCond .eq 14, 3) := by decide +kernel
theorem dX6_split_59 : decode cX6_split 59 = .ok (.aload_n 0, 1) := by decide +kernel
theorem dX6_split_60 : decode cX6_split 60 = .ok (.aload_n 1, 1) := by decide +kernel
theorem dX6_split_61 : decode cX6_split 61 = .ok (.iload_n 3, 1) := by decide +kernel
theorem dX6_split_62 : decode cX6_split 62 = .ok (.iload_n 2, 1) := by decide +kernel
theorem dX6_split_63 : decode cX6_split 63 = .ok (.invokevirtual 32, 3) := by decide +kernel
theorem dX6_split_66 : decode cX6_split 66 = .ok (.istore_n 3, 1) := by decide +kernel
theorem dX6_split_67 : decode cX6_split 67 = .ok (.goto 47, 3) := by decide +kernel
theorem dX6_split_70 : decode cX6_split 70 = .ok (.iload 5, 2) := by decide +kernel
theorem dX6_split_72 : decode cX6_split 72 = .ok (.invokestatic 36, 3) := by decide +kernel
theorem dX6_split_75 : decode cX6_split 75 = .ok (.ifCond .eq 14, 3) := by decide +kernel
theorem dX6_split_78 : decode cX6_split 78 = .ok (.aload_n 0, 1) := by decide +kernel
theorem dX6_split_79 : decode cX6_split 79 = .ok (.aload_n 1, 1) := by decide +kernel
theorem dX6_split_80 : decode cX6_split 80 = .ok (.iload_n 3, 1) := by decide +kernel
theorem dX6_split_81 : decode cX6_split 81 = .ok (.iload_n 2, 1) := by decide +kernel
theorem dX6_split_82 : decode cX6_split 82 = .ok (.invokevirtual 39, 3) := by decide +kernel
theorem dX6_split_85 : decode cX6_split 85 = .ok (.istore_n 3, 1) := by decide +kernel
theorem dX6_split_86 : decode cX6_split 86 = .ok (.goto 28, 3) := by decide +kernel
theorem dX6_split_89 : decode cX6_split 89 = .ok (.aload_n 0, 1) := by decide +kernel
theorem dX6_split_90 : decode cX6_split 90 = .ok (.iload 5, 2) := by decide +kernel
theorem dX6_split_92 : decode cX6_split 92 = .ok (.invokestatic 42, 3) := by decide +kernel
theorem dX6_split_95 : decode cX6_split 95 = .ok (.ifCond .eq 8, 3) := by decide +kernel
theorem dX6_split_98 : decode cX6_split 98 = .ok (.iload 5, 2) := by decide +kernel
theorem dX6_split_100 : decode cX6_split 100 = .ok (.goto 6, 3) := by decide +kernel
theorem dX6_split_103 : decode cX6_split 103 = .ok (.sipush 257, 3) := by decide +kernel
theorem dX6_split_106 : decode cX6_split 106 = .ok (.iload_n 3, 1) := by decide +kernel
theorem dX6_split_107 : decode cX6_split 107 = .ok (.iconst 0, 1) := by decide +kernel
theorem dX6_split_108 : decode cX6_split 108 = .ok (.invokevirtual 45, 3) := by decide +kernel
theorem dX6_split_111 : decode cX6_split 111 = .ok (.iinc 3 1, 3) := by decide +kernel
theorem dX6_split_114 : decode cX6_split 114 = .ok (.aload_n 0, 1) := by decide +kernel
theorem dX6_split_115 : decode cX6_split 115 = .ok (.getfield 25, 3) := by decide +kernel
theorem dX6_split_118 : decode cX6_split 118 = .ok (.ifCond .le 21, 3) := by decide +kernel
theorem dX6_split_121 : decode cX6_split 121 = .ok (.aload_n 0, 1) := by decide +kernel
theorem dX6_split_122 : decode cX6_split 122 = .ok (.getfield 9, 3) := by decide +kernel
theorem dX6_split_125 : decode cX6_split 125 = .ok (.aload_n 0, 1) := by decide +kernel
theorem dX6_split_126 : decode cX6_split 126 = .ok (.getfield 25, 3) := by decide +kernel
theorem dX6_split_129 : decode cX6_split 129 = .ok (.iconst 1, 1) := by decide +kernel
theorem dX6_split_130 : decode cX6_split 130 = .ok (.isub, 1) := by decide +kernel
theorem dX6_split_131 : decode cX6_split 131 = .ok (.iaload, 1) := by decide +kernel
theorem dX6_split_132 : decode cX6_split 132 = .ok (.sipush 257, 3) := by decide +kernel
theorem dX6_split_135 : decode cX6_split 135 = .ok (.if_icmp .ne 4, 3) := by decide +kernel
theorem dX6_split_138 : decode cX6_split 138 = .ok (.return_, 1) := by decide +kernel
theorem dX6_split_139 : decode cX6_split 139 = .ok (.iinc 4 1, 3) := by decide +kernel
theorem dX6_split_142 : decode cX6_split 142 = .ok (.goto (-127), 3) := by decide +kernel
theorem dX6_split_145 : decode cX6_split 145 = .ok (.aload_n 0, 1) := by decide +kernel
theorem dX6_split_146 : decode cX6_split 146 = .ok (.sipush 256, 3) := by decide +kernel
theorem dX6_split_149 : decode cX6_split 149 = .ok (.iload_n 2, 1) := by decide +kernel
theorem dX6_split_150 : decode cX6_split 150 = .ok (.iconst 0, 1) := by decide +kernel
theorem dX6_split_151 : decode cX6_split 151 = .ok (.invokevirtual 45, 3) := by decide +kernel
theorem dX6_split_154 : decode cX6_split 154 = .ok (.return_, 1) := by decide +kernel
theorem dX6_putWord_0 : decode cX6_putWord 0 = .ok (.iload_n 2, 1) := by decide +kernel
theorem dX6_putWord_1 : decode cX6_putWord 1 = .ok (.istore 4, 2) := by decide +kernel
theorem dX6_putWord_3 : decode cX6_putWord 3 = .ok (.iload 4, 2) := by decide +kernel
theorem dX6_putWord_5 : decode cX6_putWord 5 = .ok (.iload_n 3, 1) := by decide +kernel
theorem dX6_putWord_6 : decode cX6_putWord 6 = .ok (.if_icmp .ge 19, 3) := by decide +kernel
theorem dX6_putWord_9 : decode cX6_putWord 9 = .ok (.aload_n 1, 1) := by decide +kernel
theorem dX6_putWord_10 : decode cX6_putWord 10 = .ok (.iload 4, 2) := by decide +kernel
theorem dX6_putWord_12 : decode cX6_putWord 12 = .ok (.iaload, 1) := by decide +kernel
theorem dX6_putWord_13 : decode cX6_putWord 13 = .ok (.invokestatic 28, 3) := by decide +kernel
theorem dX6_putWord_16 : decode cX6_putWord 16 = .ok (.ifCond .eq 9, 3) := by decide +kernel
theorem dX6_putWord_19 : decode cX6_putWord 19 = .ok (.iinc 4 1, 3) := by decide +kernel
theorem dX6_putWord_22 : decode cX6_putWord 22 = .ok (.goto (-19), 3) := by decide +kernel
theorem dX6_putWord_25 : decode cX6_putWord 25 = .ok (.aload_n 0, 1) := by decide +kernel
theorem dX6_putWord_26 : decode cX6_putWord 26 = .ok (.aload_n 1, 1) := by decide +kernel
theorem dX6_putWord_27 : decode cX6_putWord 27 = .ok (.iload_n 2, 1) := by decide +kernel
theorem dX6_putWord_28 : decode cX6_putWord 28 = .ok (.iload 4, 2) := by decide +kernel
theorem dX6_putWord_30 : decode cX6_putWord 30 = .ok (.invokestatic 49, 3) := by decide +kernel
theorem dX6_putWord_33 : decode cX6_putWord 33 = .ok (.iload_n 2, 1) := by decide +kernel
theorem dX6_putWord_34 : decode cX6_putWord 34 = .ok (.iconst 0, 1) := by decide +kernel
theorem dX6_putWord_35 : decode cX6_putWord 35 = .ok (.invokevirtual 45, 3) := by decide +kernel
theorem dX6_putWord_38 : decode cX6_putWord 38 = .ok (.iload 4, 2) := by decide +kernel
theorem dX6_putWord_40 : decode cX6_putWord 40 = .ok (.ireturn, 1) := by decide +kernel
theorem dX6_wordKind_0 : decode cX6_wordKind 0 = .ok (.sipush 260, 3) := by decide +kernel
theorem dX6_wordKind_3 : decode cX6_wordKind 3 = .ok (.istore_n 3, 1) := by decide +kernel
theorem dX6_wordKind_4 : decode cX6_wordKind 4 = .ok (.iload_n 1, 1) := by decide +kernel
theorem dX6_wordKind_5 : decode cX6_wordKind 5 = .ok (.istore 4, 2) := by decide +kernel
theorem dX6_wordKind_7 : decode cX6_wordKind 7 = .ok (.iconst 1, 1) := by decide +kernel
theorem dX6_wordKind_8 : decode cX6_wordKind 8 = .ok (.istore 5, 2) := by decide +kernel
theorem dX6_wordKind_10 : decode cX6_wordKind 10 = .ok (.iconst 0, 1) := by decide +kernel
theorem dX6_wordKind_11 : decode cX6_wordKind 11 = .ok (.istore 6, 2) := by decide +kernel
theorem dX6_wordKind_13 : decode cX6_wordKind 13 = .ok (.iload 6, 2) := by decide +kernel
theorem dX6_wordKind_15 : decode cX6_wordKind 15 = .ok (.ldc 52, 2) := by decide +kernel
theorem dX6_wordKind_17 : decode cX6_wordKind 17 = .ok (.invokevirtual 54, 3) := by decide +kernel
theorem dX6_wordKind_20 : decode cX6_wordKind 20 = .ok (.if_icmp .ge 80, 3) := by decide +kernel
theorem dX6_wordKind_23 : decode cX6_wordKind 23 = .ok (.ldc 52, 2) := by decide +kernel
theorem dX6_wordKind_25 : decode cX6_wordKind 25 = .ok (.iload 6, 2) := by decide +kernel
theorem dX6_wordKind_27 : decode cX6_wordKind 27 = .ok (.invokevirtual 60, 3) := by decide +kernel
theorem dX6_wordKind_30 : decode cX6_wordKind 30 = .ok (.istore 7, 2) := by decide +kernel
theorem dX6_wordKind_32 : decode cX6_wordKind 32 = .ok (.iload 7, 2) := by decide +kernel
theorem dX6_wordKind_34 : decode cX6_wordKind 34 = .ok (.bipush 32, 2) := by decide +kernel
theorem dX6_wordKind_36 : decode cX6_wordKind 36 = .ok (.if_icmp .eq 36, 3) := by decide +kernel
theorem dX6_wordKind_39 : decode cX6_wordKind 39 = .ok (.iload 5, 2) := by decide +kernel
theorem dX6_wordKind_41 : decode cX6_wordKind 41 = .ok (.ifCond .eq 22, 3) := by decide +kernel
theorem dX6_wordKind_44 : decode cX6_wordKind 44 = .ok (.iload 4, 2) := by decide +kernel
theorem dX6_wordKind_46 : decode cX6_wordKind 46 = .ok (.iload_n 2, 1) := by decide +kernel
theorem dX6_wordKind_47 : decode cX6_wordKind 47 = .ok (.if_icmp .ge 16, 3) := by decide +kernel
theorem dX6_wordKind_50 : decode cX6_wordKind 50 = .ok (.aload_n 0, 1) := by decide +kernel
theorem dX6_wordKind_51 : decode cX6_wordKind 51 = .ok (.iload 4, 2) := by decide +kernel
theorem dX6_wordKind_53 : decode cX6_wordKind 53 = .ok (.iaload, 1) := by decide +kernel
theorem dX6_wordKind_54 : decode cX6_wordKind 54 = .ok (.iload 7, 2) := by decide +kernel
theorem dX6_wordKind_56 : decode cX6_wordKind 56 = .ok (.if_icmp .ne 7, 3) := by decide +kernel
theorem dX6_wordKind_59 : decode cX6_wordKind 59 = .ok (.iconst 1, 1) := by decide +kernel
theorem dX6_wordKind_60 : decode cX6_wordKind 60 = .ok (.goto 4, 3) := by decide +kernel
theorem dX6_wordKind_63 : decode cX6_wordKind 63 = .ok (.iconst 0, 1) := by decide +kernel
theorem dX6_wordKind_64 : decode cX6_wordKind 64 = .ok (.istore 5, 2) := by decide +kernel
theorem dX6_wordKind_66 : decode cX6_wordKind 66 = .ok (.iinc 4 1, 3) := by decide +kernel
theorem dX6_wordKind_69 : decode cX6_wordKind 69 = .ok (.goto 25, 3) := by decide +kernel
theorem dX6_wordKind_72 : decode cX6_wordKind 72 = .ok (.iload 5, 2) := by decide +kernel
theorem dX6_wordKind_74 : decode cX6_wordKind 74 = .ok (.ifCond .eq 11, 3) := by decide +kernel
theorem dX6_wordKind_77 : decode cX6_wordKind 77 = .ok (.iload 4, 2) := by decide +kernel
theorem dX6_wordKind_79 : decode cX6_wordKind 79 = .ok (.iload_n 2, 1) := by decide +kernel
theorem dX6_wordKind_80 : decode cX6_wordKind 80 = .ok (.if_icmp .ne 5, 3) := by decide +kernel
theorem dX6_wordKind_83 : decode cX6_wordKind 83 = .ok (.iload_n 3, 1) := by decide +kernel
theorem dX6_wordKind_84 : decode cX6_wordKind 84 = .ok (.ireturn, 1) := by decide +kernel
theorem dX6_wordKind_85 : decode cX6_wordKind 85 = .ok (.iinc 3 1, 3) := by decide +kernel
theorem dX6_wordKind_88 : decode cX6_wordKind 88 = .ok (.iload_n 1, 1) := by decide +kernel
theorem dX6_wordKind_89 : decode cX6_wordKind 89 = .ok (.istore 4, 2) := by decide +kernel
theorem dX6_wordKind_91 : decode cX6_wordKind 91 = .ok (.iconst 1, 1) := by decide +kernel
theorem dX6_wordKind_92 : decode cX6_wordKind 92 = .ok (.istore 5, 2) := by decide +kernel
theorem dX6_wordKind_94 : decode cX6_wordKind 94 = .ok (.iinc 6 1, 3) := by decide +kernel
theorem dX6_wordKind_97 : decode cX6_wordKind 97 = .ok (.goto (-84), 3) := by decide +kernel
theorem dX6_wordKind_100 : decode cX6_wordKind 100 = .ok (.sipush 259, 3) := by decide +kernel
theorem dX6_wordKind_103 : decode cX6_wordKind 103 = .ok (.ireturn, 1) := by decide +kernel
