theorem dX10_climber_0 : decode cX10_climber 0 = .ok (.aload_n 0, 1) := by decide +kernel
theorem dX10_climber_1 : decode cX10_climber 1 = .ok (.getfield 16, 3) := by decide +kernel
theorem dX10_climber_4 : decode cX10_climber 4 = .ok (.getfield 117, 3) := by decide +kernel
theorem dX10_climber_7 : decode cX10_climber 7 = .ok (.ifCond .ne 9, 3) := by decide +kernel
theorem dX10_climber_10 : decode cX10_climber 10 = .ok (.aload_n 0, 1) := by decide +kernel
theorem dX10_climber_11 : decode cX10_climber 11 = .ok (.iconst 1, 1) := by decide +kernel
theorem dX10_climber_12 : decode cX10_climber 12 = .ok (.invokevirtual 88, 3) := by decide +kernel
theorem dX10_climber_15 : decode cX10_climber 15 = .ok (.ireturn, 1) := by decide +kernel
theorem dX10_climber_16 : decode cX10_climber 16 = .ok (.aload_n 0, 1) := by decide +kernel
theorem dX10_climber_17 : decode cX10_climber 17 = .ok (.getfield 37, 3) := by decide +kernel
theorem dX10_climber_20 : decode cX10_climber 20 = .ok (.getfield 123, 3) := by decide +kernel
theorem dX10_climber_23 : decode cX10_climber 23 = .ok (.bipush 16, 2) := by decide +kernel
theorem dX10_climber_25 : decode cX10_climber 25 = .ok (.if_icmp .lt 9, 3) := by decide +kernel
theorem dX10_climber_28 : decode cX10_climber 28 = .ok (.aload_n 0, 1) := by decide +kernel
theorem dX10_climber_29 : decode cX10_climber 29 = .ok (.iconst 3, 1) := by decide +kernel
theorem dX10_climber_30 : decode cX10_climber 30 = .ok (.invokevirtual 88, 3) := by decide +kernel
theorem dX10_climber_33 : decode cX10_climber 33 = .ok (.ireturn, 1) := by decide +kernel
theorem dX10_climber_34 : decode cX10_climber 34 = .ok (.aload_n 0, 1) := by decide +kernel
theorem dX10_climber_35 : decode cX10_climber 35 = .ok (.getfield 44, 3) := by decide +kernel
theorem dX10_climber_38 : decode cX10_climber 38 = .ok (.getfield 126, 3) := by decide +kernel
theorem dX10_climber_41 : decode cX10_climber 41 = .ok (.ifCond .gt 13, 3) := by decide +kernel
theorem dX10_climber_44 : decode cX10_climber 44 = .ok (.aload_n 0, 1) := by decide +kernel
theorem dX10_climber_45 : decode cX10_climber 45 = .ok (.getfield 37, 3) := by decide +kernel
theorem dX10_climber_48 : decode cX10_climber 48 = .ok (.getfield 129, 3) := by decide +kernel
theorem dX10_climber_51 : decode cX10_climber 51 = .ok (.ifCond .le 10, 3) := by decide +kernel
theorem dX10_climber_54 : decode cX10_climber 54 = .ok (.aload_n 0, 1) := by decide +kernel
theorem dX10_climber_55 : decode cX10_climber 55 = .ok (.bipush 10, 2) := by decide +kernel
theorem dX10_climber_57 : decode cX10_climber 57 = .ok (.invokevirtual 88, 3) := by decide +kernel
theorem dX10_climber_60 : decode cX10_climber 60 = .ok (.ireturn, 1) := by decide +kernel
theorem dX10_climber_61 : decode cX10_climber 61 = .ok (.aload_n 0, 1) := by decide +kernel
theorem dX10_climber_62 : decode cX10_climber 62 = .ok (.aload_n 0, 1) := by decide +kernel
theorem dX10_climber_63 : decode cX10_climber 63 = .ok (.getfield 37, 3) := by decide +kernel
theorem dX10_climber_66 : decode cX10_climber 66 = .ok (.invokevirtual 132, 3) := by decide +kernel
theorem dX10_climber_69 : decode cX10_climber 69 = .ok (.invokevirtual 120, 3) := by decide +kernel
theorem dX10_climber_72 : decode cX10_climber 72 = .ok (.ireturn, 1) := by decide +kernel
theorem dX10_route_0 : decode cX10_route 0 = .ok (.aload_n 0, 1) := by decide +kernel
theorem dX10_route_1 : decode cX10_route 1 = .ok (.getfield 16, 3) := by decide +kernel
theorem dX10_route_4 : decode cX10_route 4 = .ok (.iload_n 1, 1) := by decide +kernel
theorem dX10_route_5 : decode cX10_route 5 = .ok (.iload_n 2, 1) := by decide +kernel
theorem dX10_route_6 : decode cX10_route 6 = .ok (.invokevirtual 136, 3) := by decide +kernel
theorem dX10_route_9 : decode cX10_route 9 = .ok (.ifCond .ne 9, 3) := by decide +kernel
theorem dX10_route_12 : decode cX10_route 12 = .ok (.aload_n 0, 1) := by decide +kernel
theorem dX10_route_13 : decode cX10_route 13 = .ok (.iconst 1, 1) := by decide +kernel
theorem dX10_route_14 : decode cX10_route 14 = .ok (.invokevirtual 140, 3) := by decide +kernel
theorem dX10_route_17 : decode cX10_route 17 = .ok (.ireturn, 1) := by decide +kernel
theorem dX10_route_18 : decode cX10_route 18 = .ok (.iload_n 3, 1) := by decide +kernel
theorem dX10_route_19 : decode cX10_route 19 = .ok (.iconst 2, 1) := by decide +kernel
theorem dX10_route_20 : decode cX10_route 20 = .ok (.if_icmp .lt 22, 3) := by decide +kernel
theorem dX10_route_23 : decode cX10_route 23 = .ok (.iload_n 3, 1) := by decide +kernel
theorem dX10_route_24 : decode cX10_route 24 = .ok (.bipush 60, 2) := by decide +kernel
theorem dX10_route_26 : decode cX10_route 26 = .ok (.if_icmp .gt 16, 3) := by decide +kernel
theorem dX10_route_29 : decode cX10_route 29 = .ok (.iload_n 3, 1) := by decide +kernel
theorem dX10_route_30 : decode cX10_route 30 = .ok (.iload 4, 2) := by decide +kernel
theorem dX10_route_32 : decode cX10_route 32 = .ok (.iload 5, 2) := by decide +kernel
theorem dX10_route_34 : decode cX10_route 34 = .ok (.iload 6, 2) := by decide +kernel
theorem dX10_route_36 : decode cX10_route 36 = .ok (.invokestatic 144, 3) := by decide +kernel
theorem dX10_route_39 : decode cX10_route 39 = .ok (.ifCond .ne 9, 3) := by decide +kernel
theorem dX10_route_42 : decode cX10_route 42 = .ok (.aload_n 0, 1) := by decide +kernel
theorem dX10_route_43 : decode cX10_route 43 = .ok (.iconst 2, 1) := by decide +kernel
theorem dX10_route_44 : decode cX10_route 44 = .ok (.invokevirtual 140, 3) := by decide +kernel
theorem dX10_route_47 : decode cX10_route 47 = .ok (.ireturn, 1) := by decide +kernel
theorem dX10_route_48 : decode cX10_route 48 = .ok (.aload_n 0, 1) := by decide +kernel
theorem dX10_route_49 : decode cX10_route 49 = .ok (.getfield 30, 3) := by decide +kernel
theorem dX10_route_52 : decode cX10_route 52 = .ok (.iload_n 1, 1) := by decide +kernel
theorem dX10_route_53 : decode cX10_route 53 = .ok (.iload_n 2, 1) := by decide +kernel
theorem dX10_route_54 : decode cX10_route 54 = .ok (.invokevirtual 148, 3) := by decide +kernel
theorem dX10_route_57 : decode cX10_route 57 = .ok (.ifCond .le 10, 3) := by decide +kernel
theorem dX10_route_60 : decode cX10_route 60 = .ok (.aload_n 0, 1) := by decide +kernel
theorem dX10_route_61 : decode cX10_route 61 = .ok (.bipush 10, 2) := by decide +kernel
theorem dX10_route_63 : decode cX10_route 63 = .ok (.invokevirtual 140, 3) := by decide +kernel
theorem dX10_route_66 : decode cX10_route 66 = .ok (.ireturn, 1) := by decide +kernel
theorem dX10_route_67 : decode cX10_route 67 = .ok (.aload_n 0, 1) := by decide +kernel
theorem dX10_route_68 : decode cX10_route 68 = .ok (.getfield 30, 3) := by decide +kernel
theorem dX10_route_71 : decode cX10_route 71 = .ok (.iload_n 1, 1) := by decide +kernel
theorem dX10_route_72 : decode cX10_route 72 = .ok (.iload_n 2, 1) := by decide +kernel
theorem dX10_route_73 : decode cX10_route 73 = .ok (.iload_n 3, 1) := by decide +kernel
theorem dX10_route_74 : decode cX10_route 74 = .ok (.invokevirtual 152, 3) := by decide +kernel
theorem dX10_route_77 : decode cX10_route 77 = .ok (.aload_n 0, 1) := by decide +kernel
theorem dX10_route_78 : decode cX10_route 78 = .ok (.getfield 30, 3) := by decide +kernel
theorem dX10_route_81 : decode cX10_route 81 = .ok (.iload_n 1, 1) := by decide +kernel
theorem dX10_route_82 : decode cX10_route 82 = .ok (.iload_n 2, 1) := by decide +kernel
theorem dX10_route_83 : decode cX10_route 83 = .ok (.iconst 0, 1) := by decide +kernel
theorem dX10_route_84 : decode cX10_route 84 = .ok (.iload 4, 2) := by decide +kernel
theorem dX10_route_86 : decode cX10_route 86 = .ok (.invokevirtual 156, 3) := by decide +kernel
theorem dX10_route_89 : decode cX10_route 89 = .ok (.aload_n 0, 1) := by decide +kernel
theorem dX10_route_90 : decode cX10_route 90 = .ok (.getfield 30, 3) := by decide +kernel
theorem dX10_route_93 : decode cX10_route 93 = .ok (.iload_n 1, 1) := by decide +kernel
theorem dX10_route_94 : decode cX10_route 94 = .ok (.iload_n 2, 1) := by decide +kernel
theorem dX10_route_95 : decode cX10_route 95 = .ok (.iconst 1, 1) := by decide +kernel
theorem dX10_route_96 : decode cX10_route 96 = .ok (.iload 5, 2) := by decide +kernel
theorem dX10_route_98 : decode cX10_route 98 = .ok (.invokevirtual 156, 3) := by decide +kernel
theorem dX10_route_101 : decode cX10_route 101 = .ok (.aload_n 0, 1) := by decide +kernel
theorem dX10_route_102 : decode cX10_route 102 = .ok (.getfield 30, 3) := by decide +kernel
theorem dX10_route_105 : decode cX10_route 105 = .ok (.iload_n 1, 1) := by decide +kernel
theorem dX10_route_106 : decode cX10_route 106 = .ok (.iload_n 2, 1) := by decide +kernel
theorem dX10_route_107 : decode cX10_route 107 = .ok (.iconst 2, 1) := by decide +kernel
theorem dX10_route_108 : decode cX10_route 108 = .ok (.iload 6, 2) := by decide +kernel
theorem dX10_route_110 : decode cX10_route 110 = .ok (.invokevirtual 156, 3) := by decide +kernel
theorem dX10_route_113 : decode cX10_route 113 = .ok (.aload_n 0, 1) := by decide +kernel
theorem dX10_route_114 : decode cX10_route 114 = .ok (.invokevirtual 160, 3) := by decide +kernel
theorem dX10_route_117 : decode cX10_route 117 = .ok (.ireturn, 1) := by decide +kernel
theorem dX10_told_0 : decode cX10_told 0 = .ok (.iload_n 2, 1) := by decide +kernel
theorem dX10_told_1 : decode cX10_told 1 = .ok (.iconst (-1), 1) := by decide +kernel
theorem dX10_told_2 : decode cX10_told 2 = .ok (.if_icmp .ne 7, 3) := by decide +kernel
theorem dX10_told_5 : decode cX10_told 5 = .ok (.iconst 1, 1) := by decide +kernel
theorem dX10_told_6 : decode cX10_told 6 = .ok (.goto 4, 3) := by decide +kernel
theorem dX10_told_9 : decode cX10_told 9 = .ok (.iconst 0, 1) := by decide +kernel
theorem dX10_told_10 : decode cX10_told 10 = .ok (.istore 4, 2) := by decide +kernel
theorem dX10_told_12 : decode cX10_told 12 = .ok (.iload 4, 2) := by decide +kernel
theorem dX10_told_14 : decode cX10_told 14 = .ok (.ifCond .eq 17, 3) := by decide +kernel
theorem dX10_told_17 : decode cX10_told 17 = .ok (.aload_n 0, 1) := by decide +kernel
theorem dX10_told_18 : decode cX10_told 18 = .ok (.getfield 16, 3) := by decide +kernel
theorem dX10_told_21 : decode cX10_told 21 = .ok (.iload_n 1, 1) := by decide +kernel
theorem dX10_told_22 : decode cX10_told 22 = .ok (.invokevirtual 164, 3) := by decide +kernel
theorem dX10_told_25 : decode cX10_told 25 = .ok (.ifCond .ne 24, 3) := by decide +kernel
theorem dX10_told_28 : decode cX10_told 28 = .ok (.goto 15, 3) := by decide +kernel
theorem dX10_told_31 : decode cX10_told 31 = .ok (.aload_n 0, 1) := by decide +kernel
theorem dX10_told_32 : decode cX10_told 32 = .ok (.getfield 16, 3) := by decide +kernel
theorem dX10_told_35 : decode cX10_told 35 = .ok (.iload_n 1, 1) := by decide +kernel
theorem dX10_told_36 : decode cX10_told 36 = .ok (.iload_n 2, 1) := by decide +kernel
theorem dX10_told_37 : decode cX10_told 37 = .ok (.invokevirtual 136, 3) := by decide +kernel
theorem dX10_told_40 : decode cX10_told 40 = .ok (.ifCond .ne 9, 3) := by decide +kernel
theorem dX10_told_43 : decode cX10_told 43 = .ok (.aload_n 0, 1) := by decide +kernel
theorem dX10_told_44 : decode cX10_told 44 = .ok (.iconst 1, 1) := by decide +kernel
theorem dX10_told_45 : decode cX10_told 45 = .ok (.invokevirtual 88, 3) := by decide +kernel
theorem dX10_told_48 : decode cX10_told 48 = .ok (.ireturn, 1) := by decide +kernel
theorem dX10_told_49 : decode cX10_told 49 = .ok (.iload_n 3, 1) := by decide +kernel
theorem dX10_told_50 : decode cX10_told 50 = .ok (.ifCond .lt 8, 3) := by decide +kernel
theorem dX10_told_53 : decode cX10_told 53 = .ok (.iload_n 3, 1) := by decide +kernel
theorem dX10_told_54 : decode cX10_told 54 = .ok (.iconst 4, 1) := by decide +kernel
theorem dX10_told_55 : decode cX10_told 55 = .ok (.if_icmp .le 9, 3) := by decide +kernel
theorem dX10_told_58 : decode cX10_told 58 = .ok (.aload_n 0, 1) := by decide +kernel
theorem dX10_told_59 : decode cX10_told 59 = .ok (.iconst 2, 1) := by decide +kernel
theorem dX10_told_60 : decode cX10_told 60 = .ok (.invokevirtual 88, 3) := by decide +kernel
theorem dX10_told_63 : decode cX10_told 63 = .ok (.ireturn, 1) := by decide +kernel
theorem dX10_told_64 : decode cX10_told 64 = .ok (.iload 4, 2) := by decide +kernel
theorem dX10_told_66 : decode cX10_told 66 = .ok (.ifCond .eq 33, 3) := by decide +kernel
theorem dX10_told_69 : decode cX10_told 69 = .ok (.aload_n 0, 1) := by decide +kernel
theorem dX10_told_70 : decode cX10_told 70 = .ok (.iload_n 3, 1) := by decide +kernel
theorem dX10_told_71 : decode cX10_told 71 = .ok (.iconst 4, 1) := by decide +kernel
theorem dX10_told_72 : decode cX10_told 72 = .ok (.if_icmp .ne 14, 3) := by decide +kernel
theorem dX10_told_75 : decode cX10_told 75 = .ok (.aload_n 0, 1) := by decide +kernel
theorem dX10_told_76 : decode cX10_told 76 = .ok (.getfield 37, 3) := by decide +kernel
theorem dX10_told_79 : decode cX10_told 79 = .ok (.iload_n 1, 1) := by decide +kernel
theorem dX10_told_80 : decode cX10_told 80 = .ok (.invokevirtual 167, 3) := by decide +kernel
theorem dX10_told_83 : decode cX10_told 83 = .ok (.goto 12, 3) := by decide +kernel
theorem dX10_told_86 : decode cX10_told 86 = .ok (.aload_n 0, 1) := by decide +kernel
theorem dX10_told_87 : decode cX10_told 87 = .ok (.getfield 16, 3) := by decide +kernel
theorem dX10_told_90 : decode cX10_told 90 = .ok (.iload_n 1, 1) := by decide +kernel
theorem dX10_told_91 : decode cX10_told 91 = .ok (.iload_n 3, 1) := by decide +kernel
theorem dX10_told_92 : decode cX10_told 92 = .ok (.invokevirtual 170, 3) := by decide +kernel
theorem dX10_told_95 : decode cX10_told 95 = .ok (.invokevirtual 120, 3) := by decide +kernel
theorem dX10_told_98 : decode cX10_told 98 = .ok (.ireturn, 1) := by decide +kernel
theorem dX10_told_99 : decode cX10_told 99 = .ok (.iload_n 3, 1) := by decide +kernel
theorem dX10_told_100 : decode cX10_told 100 = .ok (.ifCond .ne 17, 3) := by decide +kernel
theorem dX10_told_103 : decode cX10_told 103 = .ok (.aload_n 0, 1) := by decide +kernel
theorem dX10_told_104 : decode cX10_told 104 = .ok (.aload_n 0, 1) := by decide +kernel
theorem dX10_told_105 : decode cX10_told 105 = .ok (.getfield 30, 3) := by decide +kernel
theorem dX10_told_108 : decode cX10_told 108 = .ok (.iload_n 1, 1) := by decide +kernel
theorem dX10_told_109 : decode cX10_told 109 = .ok (.iload_n 2, 1) := by decide +kernel
theorem dX10_told_110 : decode cX10_told 110 = .ok (.invokevirtual 173, 3) := by decide +kernel
theorem dX10_told_113 : decode cX10_told 113 = .ok (.invokevirtual 120, 3) := by decide +kernel
theorem dX10_told_116 : decode cX10_told 116 = .ok (.ireturn, 1) := by decide +kernel
theorem dX10_told_117 : decode cX10_told 117 = .ok (.aload_n 0, 1) := by decide +kernel
theorem dX10_told_118 : decode cX10_told 118 = .ok (.iload_n 3, 1) := by decide +kernel
theorem dX10_told_119 : decode cX10_told 119 = .ok (.iconst 4, 1) := by decide +kernel
theorem dX10_told_120 : decode cX10_told 120 = .ok (.if_icmp .ne 15, 3) := by decide +kernel
theorem dX10_told_123 : decode cX10_told 123 = .ok (.aload_n 0, 1) := by decide +kernel
theorem dX10_told_124 : decode cX10_told 124 = .ok (.getfield 30, 3) := by decide +kernel
theorem dX10_told_127 : decode cX10_told 127 = .ok (.iload_n 1, 1) := by decide +kernel
theorem dX10_told_128 : decode cX10_told 128 = .ok (.iload_n 2, 1) := by decide +kernel
theorem dX10_told_129 : decode cX10_told 129 = .ok (.invokevirtual 148, 3) := by decide +kernel
theorem dX10_told_132 : decode cX10_told 132 = .ok (.goto 15, 3) := by decide +kernel
theorem dX10_told_135 : decode cX10_told 135 = .ok (.aload_n 0, 1) := by decide +kernel
theorem dX10_told_136 : decode cX10_told 136 = .ok (.getfield 30, 3) := by decide +kernel
theorem dX10_told_139 : decode cX10_told 139 = .ok (.iload_n 1, 1) := by decide +kernel
theorem dX10_told_140 : decode cX10_told 140 = .ok (.iload_n 2, 1) := by decide +kernel
theorem dX10_told_141 : decode cX10_told 141 = .ok (.iload_n 3, 1) := by decide +kernel
theorem dX10_told_142 : decode cX10_told 142 = .ok (.iconst 1, 1) := by decide +kernel
theorem dX10_told_143 : decode cX10_told 143 = .ok (.isub, 1) := by decide +kernel
theorem dX10_told_144 : decode cX10_told 144 = .ok (.invokevirtual 176, 3) := by decide +kernel
theorem dX10_told_147 : decode cX10_told 147 = .ok (.invokevirtual 120, 3) := by decide +kernel
theorem dX10_told_150 : decode cX10_told 150 = .ok (.ireturn, 1) := by decide +kernel
theorem dX10_begin_0 : decode cX10_begin 0 = .ok (.iconst 1, 1) := by decide +kernel
theorem dX10_begin_1 : decode cX10_begin 1 = .ok (.istore 4, 2) := by decide +kernel
theorem dX10_begin_3 : decode cX10_begin 3 = .ok (.aload_n 0, 1) := by decide +kernel
theorem dX10_begin_4 : decode cX10_begin 4 = .ok (.getfield 37, 3) := by decide +kernel
theorem dX10_begin_7 : decode cX10_begin 7 = .ok (.iload_n 1, 1) := by decide +kernel
theorem dX10_begin_8 : decode cX10_begin 8 = .ok (.invokevirtual 180, 3) := by decide +kernel
theorem dX10_begin_11 : decode cX10_begin 11 = .ok (.ifCond .eq 28, 3) := by decide +kernel
theorem dX10_begin_14 : decode cX10_begin 14 = .ok (.aload_n 0, 1) := by decide +kernel
theorem dX10_begin_15 : decode cX10_begin 15 = .ok (.getfield 16, 3) := by decide +kernel
theorem dX10_begin_18 : decode cX10_begin 18 = .ok (.aload_n 0, 1) := by decide +kernel
theorem dX10_begin_19 : decode cX10_begin 19 = .ok (.getfield 37, 3) := by decide +kernel
theorem dX10_begin_22 : decode cX10_begin 22 = .ok (.getfield 129, 3) := by decide +kernel
theorem dX10_begin_25 : decode cX10_begin 25 = .ok (.iload_n 2, 1) := by decide +kernel
theorem dX10_begin_26 : decode cX10_begin 26 = .ok (.invokevirtual 136, 3) := by decide +kernel
theorem dX10_begin_29 : decode cX10_begin 29 = .ok (.ifCond .eq 10, 3) := by decide +kernel
theorem dX10_begin_32 : decode cX10_begin 32 = .ok (.aload_n 0, 1) := by decide +kernel
theorem dX10_begin_33 : decode cX10_begin 33 = .ok (.iload_n 3, 1) := by decide +kernel
theorem dX10_begin_34 : decode cX10_begin 34 = .ok (.invokevirtual 183, 3) := by decide +kernel
theorem dX10_begin_37 : decode cX10_begin 37 = .ok (.istore 4, 2) := by decide +kernel
theorem dX10_begin_39 : decode cX10_begin 39 = .ok (.iload 4, 2) := by decide +kernel
theorem dX10_begin_41 : decode cX10_begin 41 = .ok (.ifCond .ne 11, 3) := by decide +kernel
theorem dX10_begin_44 : decode cX10_begin 44 = .ok (.aload_n 0, 1) := by decide +kernel
theorem dX10_begin_45 : decode cX10_begin 45 = .ok (.iload_n 1, 1) := by decide +kernel
theorem dX10_begin_46 : decode cX10_begin 46 = .ok (.iload_n 2, 1) := by decide +kernel
theorem dX10_begin_47 : decode cX10_begin 47 = .ok (.invokevirtual 186, 3) := by decide +kernel
theorem dX10_begin_50 : decode cX10_begin 50 = .ok (.istore 4, 2) := by decide +kernel
theorem dX10_begin_52 : decode cX10_begin 52 = .ok (.iload 4, 2) := by decide +kernel
theorem dX10_begin_54 : decode cX10_begin 54 = .ok (.ifCond .eq 10, 3) := by decide +kernel
theorem dX10_begin_57 : decode cX10_begin 57 = .ok (.aload_n 0, 1) := by decide +kernel
theorem dX10_begin_58 : decode cX10_begin 58 = .ok (.iload 4, 2) := by decide +kernel
theorem dX10_begin_60 : decode cX10_begin 60 = .ok (.invokevirtual 88, 3) := by decide +kernel
theorem dX10_begin_63 : decode cX10_begin 63 = .ok (.ireturn, 1) := by decide +kernel
theorem dX10_begin_64 : decode cX10_begin 64 = .ok (.aload_n 0, 1) := by decide +kernel
theorem dX10_begin_65 : decode cX10_begin 65 = .ok (.getfield 30, 3) := by decide +kernel
theorem dX10_begin_68 : decode cX10_begin 68 = .ok (.aload_n 0, 1) := by decide +kernel
theorem dX10_begin_69 : decode cX10_begin 69 = .ok (.getfield 37, 3) := by decide +kernel
theorem dX10_begin_72 : decode cX10_begin 72 = .ok (.getfield 129, 3) := by decide +kernel
theorem dX10_begin_75 : decode cX10_begin 75 = .ok (.iload_n 2, 1) := by decide +kernel
theorem dX10_begin_76 : decode cX10_begin 76 = .ok (.invokevirtual 189, 3) := by decide +kernel
theorem dX10_begin_79 : decode cX10_begin 79 = .ok (.aload_n 0, 1) := by decide +kernel
theorem dX10_begin_80 : decode cX10_begin 80 = .ok (.aload_n 0, 1) := by decide +kernel
theorem dX10_begin_81 : decode cX10_begin 81 = .ok (.getfield 44, 3) := by decide +kernel
theorem dX10_begin_84 : decode cX10_begin 84 = .ok (.iload_n 1, 1) := by decide +kernel
theorem dX10_begin_85 : decode cX10_begin 85 = .ok (.aload_n 0, 1) := by decide +kernel
theorem dX10_begin_86 : decode cX10_begin 86 = .ok (.getfield 37, 3) := by decide +kernel
theorem dX10_begin_89 : decode cX10_begin 89 = .ok (.getfield 129, 3) := by decide +kernel
theorem dX10_begin_92 : decode cX10_begin 92 = .ok (.iload_n 2, 1) := by decide +kernel
theorem dX10_begin_93 : decode cX10_begin 93 = .ok (.aload_n 0, 1) := by decide +kernel
theorem dX10_begin_94 : decode cX10_begin 94 = .ok (.getfield 114, 3) := by decide +kernel
theorem dX10_begin_97 : decode cX10_begin 97 = .ok (.invokevirtual 193, 3) := by decide +kernel
theorem dX10_begin_100 : decode cX10_begin 100 = .ok (.invokevirtual 120, 3) := by decide +kernel
theorem dX10_begin_103 : decode cX10_begin 103 = .ok (.ireturn, 1) := by decide +kernel
theorem dX10_reach_0 : decode cX10_reach 0 = .ok (.iconst 1, 1) := by decide +kernel
theorem dX10_reach_1 : decode cX10_reach 1 = .ok (.istore 4, 2) := by decide +kernel
theorem dX10_reach_3 : decode cX10_reach 3 = .ok (.aload_n 0, 1) := by decide +kernel
theorem dX10_reach_4 : decode cX10_reach 4 = .ok (.getfield 37, 3) := by decide +kernel
theorem dX10_reach_7 : decode cX10_reach 7 = .ok (.iload_n 1, 1) := by decide +kernel
theorem dX10_reach_8 : decode cX10_reach 8 = .ok (.invokevirtual 180, 3) := by decide +kernel
theorem dX10_reach_11 : decode cX10_reach 11 = .ok (.ifCond .eq 25, 3) := by decide +kernel
theorem dX10_reach_14 : decode cX10_reach 14 = .ok (.iload_n 2, 1) := by decide +kernel
theorem dX10_reach_15 : decode cX10_reach 15 = .ok (.iconst 1, 1) := by decide +kernel
theorem dX10_reach_16 : decode cX10_reach 16 = .ok (.if_icmp .lt 9, 3) := by decide +kernel
theorem dX10_reach_19 : decode cX10_reach 19 = .ok (.iload_n 2, 1) := by decide +kernel
theorem dX10_reach_20 : decode cX10_reach 20 = .ok (.bipush 60, 2) := by decide +kernel
theorem dX10_reach_22 : decode cX10_reach 22 = .ok (.if_icmp .le 7, 3) := by decide +kernel
theorem dX10_reach_25 : decode cX10_reach 25 = .ok (.iconst 2, 1) := by decide +kernel
theorem dX10_reach_26 : decode cX10_reach 26 = .ok (.goto 8, 3) := by decide +kernel
theorem dX10_reach_29 : decode cX10_reach 29 = .ok (.aload_n 0, 1) := by decide +kernel
theorem dX10_reach_30 : decode cX10_reach 30 = .ok (.iload_n 3, 1) := by decide +kernel
theorem dX10_reach_31 : decode cX10_reach 31 = .ok (.invokevirtual 183, 3) := by decide +kernel
theorem dX10_reach_34 : decode cX10_reach 34 = .ok (.istore 4, 2) := by decide +kernel
theorem dX10_reach_36 : decode cX10_reach 36 = .ok (.iload 4, 2) := by decide +kernel
theorem dX10_reach_38 : decode cX10_reach 38 = .ok (.ifCond .eq 10, 3) := by decide +kernel
theorem dX10_reach_41 : decode cX10_reach 41 = .ok (.aload_n 0, 1) := by decide +kernel
theorem dX10_reach_42 : decode cX10_reach 42 = .ok (.iload 4, 2) := by decide +kernel
theorem dX10_reach_44 : decode cX10_reach 44 = .ok (.invokevirtual 88, 3) := by decide +kernel
theorem dX10_reach_47 : decode cX10_reach 47 = .ok (.ireturn, 1) := by decide +kernel
theorem dX10_reach_48 : decode cX10_reach 48 = .ok (.aload_n 0, 1) := by decide +kernel
theorem dX10_reach_49 : decode cX10_reach 49 = .ok (.getfield 44, 3) := by decide +kernel
theorem dX10_reach_52 : decode cX10_reach 52 = .ok (.iload_n 1, 1) := by decide +kernel
theorem dX10_reach_53 : decode cX10_reach 53 = .ok (.invokevirtual 197, 3) := by decide +kernel
theorem dX10_reach_56 : decode cX10_reach 56 = .ok (.istore 5, 2) := by decide +kernel
theorem dX10_reach_58 : decode cX10_reach 58 = .ok (.iload 5, 2) := by decide +kernel
theorem dX10_reach_60 : decode cX10_reach 60 = .ok (.iconst (-1), 1) := by decide +kernel
theorem dX10_reach_61 : decode cX10_reach 61 = .ok (.if_icmp .ne 9, 3) := by decide +kernel
theorem dX10_reach_64 : decode cX10_reach 64 = .ok (.aload_n 0, 1) := by decide +kernel
theorem dX10_reach_65 : decode cX10_reach 65 = .ok (.iconst 5, 1) := by decide +kernel
theorem dX10_reach_66 : decode cX10_reach 66 = .ok (.invokevirtual 88, 3) := by decide +kernel
theorem dX10_reach_69 : decode cX10_reach 69 = .ok (.ireturn, 1) := by decide +kernel
theorem dX10_reach_70 : decode cX10_reach 70 = .ok (.aload_n 0, 1) := by decide +kernel
theorem dX10_reach_71 : decode cX10_reach 71 = .ok (.getfield 30, 3) := by decide +kernel
theorem dX10_reach_74 : decode cX10_reach 74 = .ok (.aload_n 0, 1) := by decide +kernel
theorem dX10_reach_75 : decode cX10_reach 75 = .ok (.getfield 44, 3) := by decide +kernel
theorem dX10_reach_78 : decode cX10_reach 78 = .ok (.getfield 200, 3) := by decide +kernel
theorem dX10_reach_81 : decode cX10_reach 81 = .ok (.iload 5, 2) := by decide +kernel
theorem dX10_reach_83 : decode cX10_reach 83 = .ok (.iaload, 1) := by decide +kernel
theorem dX10_reach_84 : decode cX10_reach 84 = .ok (.aload_n 0, 1) := by decide +kernel
theorem dX10_reach_85 : decode cX10_reach 85 = .ok (.getfield 44, 3) := by decide +kernel
theorem dX10_reach_88 : decode cX10_reach 88 = .ok (.getfield 203, 3) := by decide +kernel
theorem dX10_reach_91 : decode cX10_reach 91 = .ok (.iload 5, 2) := by decide +kernel
theorem dX10_reach_93 : decode cX10_reach 93 = .ok (.iaload, 1) := by decide +kernel
theorem dX10_reach_94 : decode cX10_reach 94 = .ok (.invokevirtual 173, 3) := by decide +kernel
theorem dX10_reach_97 : decode cX10_reach 97 = .ok (.istore 6, 2) := by decide +kernel
theorem dX10_reach_99 : decode cX10_reach 99 = .ok (.iload_n 2, 1) := by decide +kernel
theorem dX10_reach_100 : decode cX10_reach 100 = .ok (.aload_n 0, 1) := by decide +kernel
theorem dX10_reach_101 : decode cX10_reach 101 = .ok (.getfield 44, 3) := by decide +kernel
theorem dX10_reach_104 : decode cX10_reach 104 = .ok (.getfield 206, 3) := by decide +kernel
theorem dX10_reach_107 : decode cX10_reach 107 = .ok (.iload 5, 2) := by decide +kernel
theorem dX10_reach_109 : decode cX10_reach 109 = .ok (.iaload, 1) := by decide +kernel
theorem dX10_reach_110 : decode cX10_reach 110 = .ok (.if_icmp .le 9, 3) := by decide +kernel
theorem dX10_reach_113 : decode cX10_reach 113 = .ok (.iload_n 2, 1) := by decide +kernel
theorem dX10_reach_114 : decode cX10_reach 114 = .ok (.iload 6, 2) := by decide +kernel
theorem dX10_reach_116 : decode cX10_reach 116 = .ok (.if_icmp .le 10, 3) := by decide +kernel
theorem dX10_reach_119 : decode cX10_reach 119 = .ok (.aload_n 0, 1) := by decide +kernel
theorem dX10_reach_120 : decode cX10_reach 120 = .ok (.bipush 10, 2) := by decide +kernel
theorem dX10_reach_122 : decode cX10_reach 122 = .ok (.invokevirtual 88, 3) := by decide +kernel
theorem dX10_reach_125 : decode cX10_reach 125 = .ok (.ireturn, 1) := by decide +kernel
theorem dX10_reach_126 : decode cX10_reach 126 = .ok (.aload_n 0, 1) := by decide +kernel
theorem dX10_reach_127 : decode cX10_reach 127 = .ok (.getfield 44, 3) := by decide +kernel
theorem dX10_reach_130 : decode cX10_reach 130 = .ok (.getfield 206, 3) := by decide +kernel
theorem dX10_reach_133 : decode cX10_reach 133 = .ok (.iload 5, 2) := by decide +kernel
theorem dX10_reach_135 : decode cX10_reach 135 = .ok (.iload_n 2, 1) := by decide +kernel
theorem dX10_reach_136 : decode cX10_reach 136 = .ok (.iastore, 1) := by decide +kernel
theorem dX10_reach_137 : decode cX10_reach 137 = .ok (.iload_n 2, 1) := by decide +kernel
theorem dX10_reach_138 : decode cX10_reach 138 = .ok (.iload 6, 2) := by decide +kernel
theorem dX10_reach_140 : decode cX10_reach 140 = .ok (.if_icmp .ge 9, 3) := by decide +kernel
theorem dX10_reach_143 : decode cX10_reach 143 = .ok (.aload_n 0, 1) := by decide +kernel
theorem dX10_reach_144 : decode cX10_reach 144 = .ok (.iconst 0, 1) := by decide +kernel
theorem dX10_reach_145 : decode cX10_reach 145 = .ok (.invokevirtual 120, 3) := by decide +kernel
theorem dX10_reach_148 : decode cX10_reach 148 = .ok (.ireturn, 1) := by decide +kernel
theorem dX10_reach_149 : decode cX10_reach 149 = .ok (.aload_n 0, 1) := by decide +kernel
theorem dX10_reach_150 : decode cX10_reach 150 = .ok (.getfield 44, 3) := by decide +kernel
theorem dX10_reach_153 : decode cX10_reach 153 = .ok (.iload 5, 2) := by decide +kernel
theorem dX10_reach_155 : decode cX10_reach 155 = .ok (.aload_n 0, 1) := by decide +kernel
theorem dX10_reach_156 : decode cX10_reach 156 = .ok (.getfield 114, 3) := by decide +kernel
theorem dX10_reach_159 : decode cX10_reach 159 = .ok (.iconst 1, 1) := by decide +kernel
theorem dX10_reach_160 : decode cX10_reach 160 = .ok (.invokevirtual 209, 3) := by decide +kernel
theorem dX10_reach_163 : decode cX10_reach 163 = .ok (.aload_n 0, 1) := by decide +kernel
theorem dX10_reach_164 : decode cX10_reach 164 = .ok (.iconst 1, 1) := by decide +kernel
theorem dX10_reach_165 : decode cX10_reach 165 = .ok (.invokevirtual 120, 3) := by decide +kernel
theorem dX10_reach_168 : decode cX10_reach 168 = .ok (.ireturn, 1) := by decide +kernel
theorem dX10_fall_0 : decode cX10_fall 0 = .ok (.aload_n 0, 1) := by decide +kernel
theorem dX10_fall_1 : decode cX10_fall 1 = .ok (.getfield 37, 3) := by decide +kernel
theorem dX10_fall_4 : decode cX10_fall 4 = .ok (.iload_n 1, 1) := by decide +kernel
theorem dX10_fall_5 : decode cX10_fall 5 = .ok (.invokevirtual 180, 3) := by decide +kernel
theorem dX10_fall_8 : decode cX10_fall 8 = .ok (.ifCond .eq 11, 3) := by decide +kernel
theorem dX10_fall_11 : decode cX10_fall 11 = .ok (.aload_n 0, 1) := by decide +kernel
theorem dX10_fall_12 : decode cX10_fall 12 = .ok (.iload_n 2, 1) := by decide +kernel
theorem dX10_fall_13 : decode cX10_fall 13 = .ok (.invokevirtual 183, 3) := by decide +kernel
theorem dX10_fall_16 : decode cX10_fall 16 = .ok (.goto 4, 3) := by decide +kernel
theorem dX10_fall_19 : decode cX10_fall 19 = .ok (.iconst 1, 1) := by decide +kernel
theorem dX10_fall_20 : decode cX10_fall 20 = .ok (.istore 4, 2) := by decide +kernel
theorem dX10_fall_22 : decode cX10_fall 22 = .ok (.iload 4, 2) := by decide +kernel
theorem dX10_fall_24 : decode cX10_fall 24 = .ok (.ifCond .eq 10, 3) := by decide +kernel
theorem dX10_fall_27 : decode cX10_fall 27 = .ok (.aload_n 0, 1) := by decide +kernel
theorem dX10_fall_28 : decode cX10_fall 28 = .ok (.iload 4, 2) := by decide +kernel
theorem dX10_fall_30 : decode cX10_fall 30 = .ok (.invokevirtual 140, 3) := by decide +kernel
theorem dX10_fall_33 : decode cX10_fall 33 = .ok (.ireturn, 1) := by decide +kernel
theorem dX10_fall_34 : decode cX10_fall 34 = .ok (.aload_n 0, 1) := by decide +kernel
theorem dX10_fall_35 : decode cX10_fall 35 = .ok (.getfield 44, 3) := by decide +kernel
theorem dX10_fall_38 : decode cX10_fall 38 = .ok (.iload_n 1, 1) := by decide +kernel
theorem dX10_fall_39 : decode cX10_fall 39 = .ok (.invokevirtual 197, 3) := by decide +kernel
theorem dX10_fall_42 : decode cX10_fall 42 = .ok (.istore 5, 2) := by decide +kernel
theorem dX10_fall_44 : decode cX10_fall 44 = .ok (.iload 5, 2) := by decide +kernel
theorem dX10_fall_46 : decode cX10_fall 46 = .ok (.iconst (-1), 1) := by decide +kernel
theorem dX10_fall_47 : decode cX10_fall 47 = .ok (.if_icmp .ne 9, 3) := by decide +kernel
theorem dX10_fall_50 : decode cX10_fall 50 = .ok (.aload_n 0, 1) := by decide +kernel
theorem dX10_fall_51 : decode cX10_fall 51 = .ok (.iconst 5, 1) := by decide +kernel
theorem dX10_fall_52 : decode cX10_fall 52 = .ok (.invokevirtual 140, 3) := by decide +kernel
theorem dX10_fall_55 : decode cX10_fall 55 = .ok (.ireturn, 1) := by decide +kernel
theorem dX10_fall_56 : decode cX10_fall 56 = .ok (.aload_n 0, 1) := by decide +kernel
theorem dX10_fall_57 : decode cX10_fall 57 = .ok (.getfield 44, 3) := by decide +kernel
theorem dX10_fall_60 : decode cX10_fall 60 = .ok (.iload 5, 2) := by decide +kernel
theorem dX10_fall_62 : decode cX10_fall 62 = .ok (.aload_n 0, 1) := by decide +kernel
theorem dX10_fall_63 : decode cX10_fall 63 = .ok (.getfield 114, 3) := by decide +kernel
theorem dX10_fall_66 : decode cX10_fall 66 = .ok (.iload_n 3, 1) := by decide +kernel
theorem dX10_fall_67 : decode cX10_fall 67 = .ok (.ifCond .eq 7, 3) := by decide +kernel
theorem dX10_fall_70 : decode cX10_fall 70 = .ok (.iconst 4, 1) := by decide +kernel
theorem dX10_fall_71 : decode cX10_fall 71 = .ok (.goto 4, 3) := by decide +kernel
theorem dX10_fall_74 : decode cX10_fall 74 = .ok (.iconst 2, 1) := by decide +kernel
theorem dX10_fall_75 : decode cX10_fall 75 = .ok (.invokevirtual 209, 3) := by decide +kernel
theorem dX10_fall_78 : decode cX10_fall 78 = .ok (.aload_n 0, 1) := by decide +kernel
theorem dX10_fall_79 : decode cX10_fall 79 = .ok (.invokevirtual 160, 3) := by decide +kernel
theorem dX10_fall_82 : decode cX10_fall 82 = .ok (.ireturn, 1) := by decide +kernel
theorem dX10_out_0 : decode cX10_out 0 = .ok (.aload_n 0, 1) := by decide +kernel
theorem dX10_out_1 : decode cX10_out 1 = .ok (.getfield 37, 3) := by decide +kernel
theorem dX10_out_4 : decode cX10_out 4 = .ok (.iload_n 1, 1) := by decide +kernel
theorem dX10_out_5 : decode cX10_out 5 = .ok (.invokevirtual 180, 3) := by decide +kernel
theorem dX10_out_8 : decode cX10_out 8 = .ok (.ifCond .eq 11, 3) := by decide +kernel
theorem dX10_out_11 : decode cX10_out 11 = .ok (.aload_n 0, 1) := by decide +kernel
theorem dX10_out_12 : decode cX10_out 12 = .ok (.iload_n 2, 1) := by decide +kernel
theorem dX10_out_13 : decode cX10_out 13 = .ok (.invokevirtual 183, 3) := by decide +kernel
theorem dX10_out_16 : decode cX10_out 16 = .ok (.goto 4, 3) := by decide +kernel
theorem dX10_out_19 : decode cX10_out 19 = .ok (.iconst 1, 1) := by decide +kernel
theorem dX10_out_20 : decode cX10_out 20 = .ok (.istore 4, 2) := by decide +kernel
theorem dX10_out_22 : decode cX10_out 22 = .ok (.iload 4, 2) := by decide +kernel
theorem dX10_out_24 : decode cX10_out 24 = .ok (.ifCond .eq 10, 3) := by decide +kernel
theorem dX10_out_27 : decode cX10_out 27 = .ok (.aload_n 0, 1) := by decide +kernel
theorem dX10_out_28 : decode cX10_out 28 = .ok (.iload 4, 2) := by decide +kernel
theorem dX10_out_30 : decode cX10_out 30 = .ok (.invokevirtual 140, 3) := by decide +kernel
theorem dX10_out_33 : decode cX10_out 33 = .ok (.ireturn, 1) := by decide +kernel
theorem dX10_out_34 : decode cX10_out 34 = .ok (.aload_n 0, 1) := by decide +kernel
theorem dX10_out_35 : decode cX10_out 35 = .ok (.getfield 58, 3) := by decide +kernel
theorem dX10_out_38 : decode cX10_out 38 = .ok (.iload_n 1, 1) := by decide +kernel
theorem dX10_out_39 : decode cX10_out 39 = .ok (.invokevirtual 212, 3) := by decide +kernel
theorem dX10_out_42 : decode cX10_out 42 = .ok (.iload_n 3, 1) := by decide +kernel
theorem dX10_out_43 : decode cX10_out 43 = .ok (.if_icmp .ne 10, 3) := by decide +kernel
theorem dX10_out_46 : decode cX10_out 46 = .ok (.aload_n 0, 1) := by decide +kernel
theorem dX10_out_47 : decode cX10_out 47 = .ok (.bipush 10, 2) := by decide +kernel
theorem dX10_out_49 : decode cX10_out 49 = .ok (.invokevirtual 140, 3) := by decide +kernel
theorem dX10_out_52 : decode cX10_out 52 = .ok (.ireturn, 1) := by decide +kernel
theorem dX10_out_53 : decode cX10_out 53 = .ok (.iload_n 3, 1) := by decide +kernel
theorem dX10_out_54 : decode cX10_out 54 = .ok (.ifCond .ne 20, 3) := by decide +kernel
theorem dX10_out_57 : decode cX10_out 57 = .ok (.aload_n 0, 1) := by decide +kernel
theorem dX10_out_58 : decode cX10_out 58 = .ok (.getfield 58, 3) := by decide +kernel
theorem dX10_out_61 : decode cX10_out 61 = .ok (.iload_n 1, 1) := by decide +kernel
theorem dX10_out_62 : decode cX10_out 62 = .ok (.aload_n 0, 1) := by decide +kernel
theorem dX10_out_63 : decode cX10_out 63 = .ok (.getfield 114, 3) := by decide +kernel
theorem dX10_out_66 : decode cX10_out 66 = .ok (.invokevirtual 215, 3) := by decide +kernel
theorem dX10_out_69 : decode cX10_out 69 = .ok (.aload_n 0, 1) := by decide +kernel
theorem dX10_out_70 : decode cX10_out 70 = .ok (.invokevirtual 160, 3) := by decide +kernel
theorem dX10_out_73 : decode cX10_out 73 = .ok (.ireturn, 1) := by decide +kernel
theorem dX10_out_74 : decode cX10_out 74 = .ok (.aload_n 0, 1) := by decide +kernel
theorem dX10_out_75 : decode cX10_out 75 = .ok (.getfield 58, 3) := by decide +kernel
theorem dX10_out_78 : decode cX10_out 78 = .ok (.getfield 218, 3) := by decide +kernel
theorem dX10_out_81 : decode cX10_out 81 = .ok (.iload_n 1, 1) := by decide +kernel
theorem dX10_out_82 : decode cX10_out 82 = .ok (.iaload, 1) := by decide +kernel
theorem dX10_out_83 : decode cX10_out 83 = .ok (.bipush 20, 2) := by decide +kernel
theorem dX10_out_85 : decode cX10_out 85 = .ok (.if_icmp .lt 9, 3) := by decide +kernel
theorem dX10_out_88 : decode cX10_out 88 = .ok (.aload_n 0, 1) := by decide +kernel
theorem dX10_out_89 : decode cX10_out 89 = .ok (.iconst 3, 1) := by decide +kernel
theorem dX10_out_90 : decode cX10_out 90 = .ok (.invokevirtual 140, 3) := by decide +kernel
theorem dX10_out_93 : decode cX10_out 93 = .ok (.ireturn, 1) := by decide +kernel
theorem dX10_out_94 : decode cX10_out 94 = .ok (.aload_n 0, 1) := by decide +kernel
theorem dX10_out_95 : decode cX10_out 95 = .ok (.getfield 58, 3) := by decide +kernel
theorem dX10_out_98 : decode cX10_out 98 = .ok (.iload_n 1, 1) := by decide +kernel
theorem dX10_out_99 : decode cX10_out 99 = .ok (.aload_n 0, 1) := by decide +kernel
theorem dX10_out_100 : decode cX10_out 100 = .ok (.getfield 114, 3) := by decide +kernel
theorem dX10_out_103 : decode cX10_out 103 = .ok (.invokevirtual 221, 3) := by decide +kernel
theorem dX10_out_106 : decode cX10_out 106 = .ok (.aload_n 0, 1) := by decide +kernel
theorem dX10_out_107 : decode cX10_out 107 = .ok (.invokevirtual 160, 3) := by decide +kernel
theorem dX10_out_110 : decode cX10_out 110 = .ok (.ireturn, 1) := by decide +kernel
theorem dX10_clock_0 : decode cX10_clock 0 = .ok (.aload_n 0, 1) := by decide +kernel
theorem dX10_clock_1 : decode cX10_clock 1 = .ok (.iload_n 1, 1) := by decide +kernel
theorem dX10_clock_2 : decode cX10_clock 2 = .ok (.invokevirtual 183, 3) := by decide +kernel
theorem dX10_clock_5 : decode cX10_clock 5 = .ok (.istore_n 2, 1) := by decide +kernel
theorem dX10_clock_6 : decode cX10_clock 6 = .ok (.iload_n 2, 1) := by decide +kernel
theorem dX10_clock_7 : decode cX10_clock 7 = .ok (.ifCond .ne 10, 3) := by decide +kernel
theorem dX10_clock_10 : decode cX10_clock 10 = .ok (.aload_n 0, 1) := by decide +kernel
theorem dX10_clock_11 : decode cX10_clock 11 = .ok (.invokevirtual 160, 3) := by decide +kernel
theorem dX10_clock_14 : decode cX10_clock 14 = .ok (.goto 8, 3) := by decide +kernel
theorem dX10_clock_17 : decode cX10_clock 17 = .ok (.aload_n 0, 1) := by decide +kernel
theorem dX10_clock_18 : decode cX10_clock 18 = .ok (.iload_n 2, 1) := by decide +kernel
theorem dX10_clock_19 : decode cX10_clock 19 = .ok (.invokevirtual 140, 3) := by decide +kernel
theorem dX10_clock_22 : decode cX10_clock 22 = .ok (.ireturn, 1) := by decide +kernel
theorem dX10_now_0 : decode cX10_now 0 = .ok (.aload_n 0, 1) := by decide +kernel
theorem dX10_now_1 : decode cX10_now 1 = .ok (.aload_n 0, 1) := by decide +kernel
theorem dX10_now_2 : decode cX10_now 2 = .ok (.getfield 114, 3) := by decide +kernel
theorem dX10_now_5 : decode cX10_now 5 = .ok (.invokevirtual 120, 3) := by decide +kernel
theorem dX10_now_8 : decode cX10_now 8 = .ok (.ireturn, 1) := by decide +kernel
theorem dX10_passTo_0 : decode cX10_passTo 0 = .ok (.iload_n 1, 1) := by decide +kernel
theorem dX10_passTo_1 : decode cX10_passTo 1 = .ok (.ifCond .lt 10, 3) := by decide +kernel
theorem dX10_passTo_4 : decode cX10_passTo 4 = .ok (.iload_n 1, 1) := by decide +kernel
theorem dX10_passTo_5 : decode cX10_passTo 5 = .ok (.ldc_w 313, 3) := by decide +kernel
theorem dX10_passTo_8 : decode cX10_passTo 8 = .ok (.if_icmp .le 5, 3) := by decide +kernel
theorem dX10_passTo_11 : decode cX10_passTo 11 = .ok (.iconst 2, 1) := by decide +kernel
theorem dX10_passTo_12 : decode cX10_passTo 12 = .ok (.ireturn, 1) := by decide +kernel
theorem dX10_passTo_13 : decode cX10_passTo 13 = .ok (.iload_n 1, 1) := by decide +kernel
theorem dX10_passTo_14 : decode cX10_passTo 14 = .ok (.aload_n 0, 1) := by decide +kernel
theorem dX10_passTo_15 : decode cX10_passTo 15 = .ok (.getfield 114, 3) := by decide +kernel
theorem dX10_passTo_18 : decode cX10_passTo 18 = .ok (.if_icmp .ge 6, 3) := by decide +kernel
theorem dX10_passTo_21 : decode cX10_passTo 21 = .ok (.bipush 9, 2) := by decide +kernel
theorem dX10_passTo_23 : decode cX10_passTo 23 = .ok (.ireturn, 1) := by decide +kernel
theorem dX10_passTo_24 : decode cX10_passTo 24 = .ok (.aload_n 0, 1) := by decide +kernel
theorem dX10_passTo_25 : decode cX10_passTo 25 = .ok (.iload_n 1, 1) := by decide +kernel
theorem dX10_passTo_26 : decode cX10_passTo 26 = .ok (.putfield 114, 3) := by decide +kernel
theorem dX10_passTo_29 : decode cX10_passTo 29 = .ok (.aload_n 0, 1) := by decide +kernel
theorem dX10_passTo_30 : decode cX10_passTo 30 = .ok (.getfield 44, 3) := by decide +kernel
theorem dX10_passTo_33 : decode cX10_passTo 33 = .ok (.iload_n 1, 1) := by decide +kernel
theorem dX10_passTo_34 : decode cX10_passTo 34 = .ok (.aload_n 0, 1) := by decide +kernel
theorem dX10_passTo_35 : decode cX10_passTo 35 = .ok (.getfield 16, 3) := by decide +kernel
theorem dX10_passTo_38 : decode cX10_passTo 38 = .ok (.aload_n 0, 1) := by decide +kernel
theorem dX10_passTo_39 : decode cX10_passTo 39 = .ok (.getfield 37, 3) := by decide +kernel
theorem dX10_passTo_42 : decode cX10_passTo 42 = .ok (.getfield 129, 3) := by decide +kernel
theorem dX10_passTo_45 : decode cX10_passTo 45 = .ok (.iconst 2, 1) := by decide +kernel
theorem dX10_passTo_46 : decode cX10_passTo 46 = .ok (.invokevirtual 170, 3) := by decide +kernel
theorem dX10_passTo_49 : decode cX10_passTo 49 = .ok (.invokevirtual 314, 3) := by decide +kernel
theorem dX10_passTo_52 : decode cX10_passTo 52 = .ok (.iconst 0, 1) := by decide +kernel
theorem dX10_passTo_53 : decode cX10_passTo 53 = .ok (.ireturn, 1) := by decide +kernel
theorem dX10_whyNotBegin_0 : decode cX10_whyNotBegin 0 = .ok (.aload_n 0, 1) := by decide +kernel
theorem dX10_whyNotBegin_1 : decode cX10_whyNotBegin 1 = .ok (.getfield 37, 3) := by decide +kernel
theorem dX10_whyNotBegin_4 : decode cX10_whyNotBegin 4 = .ok (.getfield 129, 3) := by decide +kernel
theorem dX10_whyNotBegin_7 : decode cX10_whyNotBegin 7 = .ok (.istore_n 3, 1) := by decide +kernel
theorem dX10_whyNotBegin_8 : decode cX10_whyNotBegin 8 = .ok (.aload_n 0, 1) := by decide +kernel
theorem dX10_whyNotBegin_9 : decode cX10_whyNotBegin 9 = .ok (.getfield 37, 3) := by decide +kernel
theorem dX10_whyNotBegin_12 : decode cX10_whyNotBegin 12 = .ok (.iload_n 3, 1) := by decide +kernel
theorem dX10_whyNotBegin_13 : decode cX10_whyNotBegin 13 = .ok (.iload_n 1, 1) := by decide +kernel
theorem dX10_whyNotBegin_14 : decode cX10_whyNotBegin 14 = .ok (.invokevirtual 268, 3) := by decide +kernel
theorem dX10_whyNotBegin_17 : decode cX10_whyNotBegin 17 = .ok (.ifCond .ne 5, 3) := by decide +kernel
theorem dX10_whyNotBegin_20 : decode cX10_whyNotBegin 20 = .ok (.iconst 4, 1) := by decide +kernel
theorem dX10_whyNotBegin_21 : decode cX10_whyNotBegin 21 = .ok (.ireturn, 1) := by decide +kernel
theorem dX10_whyNotBegin_22 : decode cX10_whyNotBegin 22 = .ok (.aload_n 0, 1) := by decide +kernel
theorem dX10_whyNotBegin_23 : decode cX10_whyNotBegin 23 = .ok (.getfield 44, 3) := by decide +kernel
theorem dX10_whyNotBegin_26 : decode cX10_whyNotBegin 26 = .ok (.iload_n 1, 1) := by decide +kernel
theorem dX10_whyNotBegin_27 : decode cX10_whyNotBegin 27 = .ok (.invokevirtual 197, 3) := by decide +kernel
theorem dX10_whyNotBegin_30 : decode cX10_whyNotBegin 30 = .ok (.iconst (-1), 1) := by decide +kernel
theorem dX10_whyNotBegin_31 : decode cX10_whyNotBegin 31 = .ok (.if_icmp .eq 5, 3) := by decide +kernel
theorem dX10_whyNotBegin_34 : decode cX10_whyNotBegin 34 = .ok (.iconst 5, 1) := by decide +kernel
theorem dX10_whyNotBegin_35 : decode cX10_whyNotBegin 35 = .ok (.ireturn, 1) := by decide +kernel
theorem dX10_whyNotBegin_36 : decode cX10_whyNotBegin 36 = .ok (.aload_n 0, 1) := by decide +kernel
theorem dX10_whyNotBegin_37 : decode cX10_whyNotBegin 37 = .ok (.getfield 44, 3) := by decide +kernel
theorem dX10_whyNotBegin_40 : decode cX10_whyNotBegin 40 = .ok (.iload_n 1, 1) := by decide +kernel
theorem dX10_whyNotBegin_41 : decode cX10_whyNotBegin 41 = .ok (.iload_n 3, 1) := by decide +kernel
theorem dX10_whyNotBegin_42 : decode cX10_whyNotBegin 42 = .ok (.iload_n 2, 1) := by decide +kernel
theorem dX10_whyNotBegin_43 : decode cX10_whyNotBegin 43 = .ok (.aload_n 0, 1) := by decide +kernel
theorem dX10_whyNotBegin_44 : decode cX10_whyNotBegin 44 = .ok (.getfield 16, 3) := by decide +kernel
theorem dX10_whyNotBegin_47 : decode cX10_whyNotBegin 47 = .ok (.iload_n 3, 1) := by decide +kernel
theorem dX10_whyNotBegin_48 : decode cX10_whyNotBegin 48 = .ok (.iconst 1, 1) := by decide +kernel
theorem dX10_whyNotBegin_49 : decode cX10_whyNotBegin 49 = .ok (.invokevirtual 170, 3) := by decide +kernel
theorem dX10_whyNotBegin_52 : decode cX10_whyNotBegin 52 = .ok (.invokevirtual 317, 3) := by decide +kernel
theorem dX10_whyNotBegin_55 : decode cX10_whyNotBegin 55 = .ok (.ifCond .eq 6, 3) := by decide +kernel
theorem dX10_whyNotBegin_58 : decode cX10_whyNotBegin 58 = .ok (.bipush 6, 2) := by decide +kernel
theorem dX10_whyNotBegin_60 : decode cX10_whyNotBegin 60 = .ok (.ireturn, 1) := by decide +kernel
theorem dX10_whyNotBegin_61 : decode cX10_whyNotBegin 61 = .ok (.aload_n 0, 1) := by decide +kernel
theorem dX10_whyNotBegin_62 : decode cX10_whyNotBegin 62 = .ok (.getfield 44, 3) := by decide +kernel
theorem dX10_whyNotBegin_65 : decode cX10_whyNotBegin 65 = .ok (.getfield 126, 3) := by decide +kernel
theorem dX10_whyNotBegin_68 : decode cX10_whyNotBegin 68 = .ok (.sipush 300, 3) := by decide +kernel
theorem dX10_whyNotBegin_71 : decode cX10_whyNotBegin 71 = .ok (.if_icmp .lt 5, 3) := by decide +kernel
theorem dX10_whyNotBegin_74 : decode cX10_whyNotBegin 74 = .ok (.iconst 3, 1) := by decide +kernel
theorem dX10_whyNotBegin_75 : decode cX10_whyNotBegin 75 = .ok (.ireturn, 1) := by decide +kernel
theorem dX10_whyNotBegin_76 : decode cX10_whyNotBegin 76 = .ok (.aload_n 0, 1) := by decide +kernel
theorem dX10_whyNotBegin_77 : decode cX10_whyNotBegin 77 = .ok (.iload_n 1, 1) := by decide +kernel
theorem dX10_whyNotBegin_78 : decode cX10_whyNotBegin 78 = .ok (.iload_n 2, 1) := by decide +kernel
theorem dX10_whyNotBegin_79 : decode cX10_whyNotBegin 79 = .ok (.invokevirtual 237, 3) := by decide +kernel
theorem dX10_whyNotBegin_82 : decode cX10_whyNotBegin 82 = .ok (.ifCond .eq 6, 3) := by decide +kernel
theorem dX10_whyNotBegin_85 : decode cX10_whyNotBegin 85 = .ok (.bipush 7, 2) := by decide +kernel
theorem dX10_whyNotBegin_87 : decode cX10_whyNotBegin 87 = .ok (.ireturn, 1) := by decide +kernel
theorem dX10_whyNotBegin_88 : decode cX10_whyNotBegin 88 = .ok (.aload_n 0, 1) := by decide +kernel
theorem dX10_whyNotBegin_89 : decode cX10_whyNotBegin 89 = .ok (.getfield 114, 3) := by decide +kernel
theorem dX10_whyNotBegin_92 : decode cX10_whyNotBegin 92 = .ok (.aload_n 0, 1) := by decide +kernel
theorem dX10_whyNotBegin_93 : decode cX10_whyNotBegin 93 = .ok (.iload_n 1, 1) := by decide +kernel
theorem dX10_whyNotBegin_94 : decode cX10_whyNotBegin 94 = .ok (.invokevirtual 240, 3) := by decide +kernel
theorem dX10_whyNotBegin_97 : decode cX10_whyNotBegin 97 = .ok (.if_icmp .ge 8, 3) := by decide +kernel
theorem dX10_whyNotBegin_100 : decode cX10_whyNotBegin 100 = .ok (.bipush 8, 2) := by decide +kernel
theorem dX10_whyNotBegin_102 : decode cX10_whyNotBegin 102 = .ok (.goto 4, 3) := by decide +kernel
theorem dX10_whyNotBegin_105 : decode cX10_whyNotBegin 105 = .ok (.iconst 0, 1) := by decide +kernel
theorem dX10_whyNotBegin_106 : decode cX10_whyNotBegin 106 = .ok (.ireturn, 1) := by decide +kernel
theorem dX10_hasSeen_0 : decode cX10_hasSeen 0 = .ok (.aload_n 0, 1) := by decide +kernel
theorem dX10_hasSeen_1 : decode cX10_hasSeen 1 = .ok (.getfield 58, 3) := by decide +kernel
theorem dX10_hasSeen_4 : decode cX10_hasSeen 4 = .ok (.aload_n 0, 1) := by decide +kernel
theorem dX10_hasSeen_5 : decode cX10_hasSeen 5 = .ok (.getfield 44, 3) := by decide +kernel
theorem dX10_hasSeen_8 : decode cX10_hasSeen 8 = .ok (.iload_n 1, 1) := by decide +kernel
theorem dX10_hasSeen_9 : decode cX10_hasSeen 9 = .ok (.aload_n 0, 1) := by decide +kernel
theorem dX10_hasSeen_10 : decode cX10_hasSeen 10 = .ok (.getfield 37, 3) := by decide +kernel
theorem dX10_hasSeen_13 : decode cX10_hasSeen 13 = .ok (.getfield 129, 3) := by decide +kernel
theorem dX10_hasSeen_16 : decode cX10_hasSeen 16 = .ok (.iload_n 2, 1) := by decide +kernel
theorem dX10_hasSeen_17 : decode cX10_hasSeen 17 = .ok (.aload_n 0, 1) := by decide +kernel
theorem dX10_hasSeen_18 : decode cX10_hasSeen 18 = .ok (.getfield 114, 3) := by decide +kernel
theorem dX10_hasSeen_21 : decode cX10_hasSeen 21 = .ok (.invokevirtual 320, 3) := by decide +kernel
theorem dX10_hasSeen_24 : decode cX10_hasSeen 24 = .ok (.ireturn, 1) := by decide +kernel
theorem dX10_restOver_0 : decode cX10_restOver 0 = .ok (.aload_n 0, 1) := by decide +kernel
theorem dX10_restOver_1 : decode cX10_restOver 1 = .ok (.getfield 44, 3) := by decide +kernel
theorem dX10_restOver_4 : decode cX10_restOver 4 = .ok (.iload_n 1, 1) := by decide +kernel
theorem dX10_restOver_5 : decode cX10_restOver 5 = .ok (.aload_n 0, 1) := by decide +kernel
theorem dX10_restOver_6 : decode cX10_restOver 6 = .ok (.getfield 37, 3) := by decide +kernel
theorem dX10_restOver_9 : decode cX10_restOver 9 = .ok (.getfield 129, 3) := by decide +kernel
theorem dX10_restOver_12 : decode cX10_restOver 12 = .ok (.invokevirtual 323, 3) := by decide +kernel
theorem dX10_restOver_15 : decode cX10_restOver 15 = .ok (.istore_n 2, 1) := by decide +kernel
theorem dX10_restOver_16 : decode cX10_restOver 16 = .ok (.iload_n 2, 1) := by decide +kernel
theorem dX10_restOver_17 : decode cX10_restOver 17 = .ok (.iconst (-1), 1) := by decide +kernel
theorem dX10_restOver_18 : decode cX10_restOver 18 = .ok (.if_icmp .ne 7, 3) := by decide +kernel
theorem dX10_restOver_21 : decode cX10_restOver 21 = .ok (.iconst 0, 1) := by decide +kernel
theorem dX10_restOver_22 : decode cX10_restOver 22 = .ok (.goto 20, 3) := by decide +kernel
theorem dX10_restOver_25 : decode cX10_restOver 25 = .ok (.iload_n 2, 1) := by decide +kernel
theorem dX10_restOver_26 : decode cX10_restOver 26 = .ok (.aload_n 0, 1) := by decide +kernel
theorem dX10_restOver_27 : decode cX10_restOver 27 = .ok (.getfield 16, 3) := by decide +kernel
theorem dX10_restOver_30 : decode cX10_restOver 30 = .ok (.aload_n 0, 1) := by decide +kernel
theorem dX10_restOver_31 : decode cX10_restOver 31 = .ok (.getfield 37, 3) := by decide +kernel
theorem dX10_restOver_34 : decode cX10_restOver 34 = .ok (.getfield 129, 3) := by decide +kernel
theorem dX10_restOver_37 : decode cX10_restOver 37 = .ok (.iconst 3, 1) := by decide +kernel
theorem dX10_restOver_38 : decode cX10_restOver 38 = .ok (.invokevirtual 170, 3) := by decide +kernel
theorem dX10_restOver_41 : decode cX10_restOver 41 = .ok (.iadd, 1) := by decide +kernel
theorem dX10_restOver_42 : decode cX10_restOver 42 = .ok (.ireturn, 1) := by decide +kernel
