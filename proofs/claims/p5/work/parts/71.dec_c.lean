theorem dX10_status_0 : decode cX10_status 0 = .ok (.aload_n 0, 1) := by decide +kernel
theorem dX10_status_1 : decode cX10_status 1 = .ok (.getfield 71, 3) := by decide +kernel
theorem dX10_status_4 : decode cX10_status 4 = .ok (.ireturn, 1) := by decide +kernel
theorem dX10_feed_0 : decode cX10_feed 0 = .ok (.aload_n 0, 1) := by decide +kernel
theorem dX10_feed_1 : decode cX10_feed 1 = .ok (.getfield 81, 3) := by decide +kernel
theorem dX10_feed_4 : decode cX10_feed 4 = .ok (.bipush 20, 2) := by decide +kernel
theorem dX10_feed_6 : decode cX10_feed 6 = .ok (.iadd, 1) := by decide +kernel
theorem dX10_feed_7 : decode cX10_feed 7 = .ok (.sipush 700, 3) := by decide +kernel
theorem dX10_feed_10 : decode cX10_feed 10 = .ok (.if_icmp .le 5, 3) := by decide +kernel
theorem dX10_feed_13 : decode cX10_feed 13 = .ok (.iconst (-1), 1) := by decide +kernel
theorem dX10_feed_14 : decode cX10_feed 14 = .ok (.ireturn, 1) := by decide +kernel
theorem dX10_feed_15 : decode cX10_feed 15 = .ok (.aload_n 0, 1) := by decide +kernel
theorem dX10_feed_16 : decode cX10_feed 16 = .ok (.iload_n 1, 1) := by decide +kernel
theorem dX10_feed_17 : decode cX10_feed 17 = .ok (.invokevirtual 84, 3) := by decide +kernel
theorem dX10_feed_20 : decode cX10_feed 20 = .ok (.aload_n 0, 1) := by decide +kernel
theorem dX10_feed_21 : decode cX10_feed 21 = .ok (.iload_n 2, 1) := by decide +kernel
theorem dX10_feed_22 : decode cX10_feed 22 = .ok (.invokevirtual 84, 3) := by decide +kernel
theorem dX10_feed_25 : decode cX10_feed 25 = .ok (.aload_n 0, 1) := by decide +kernel
theorem dX10_feed_26 : decode cX10_feed 26 = .ok (.iload_n 3, 1) := by decide +kernel
theorem dX10_feed_27 : decode cX10_feed 27 = .ok (.invokevirtual 84, 3) := by decide +kernel
theorem dX10_feed_30 : decode cX10_feed 30 = .ok (.aload_n 0, 1) := by decide +kernel
theorem dX10_feed_31 : decode cX10_feed 31 = .ok (.iload 4, 2) := by decide +kernel
theorem dX10_feed_33 : decode cX10_feed 33 = .ok (.invokevirtual 84, 3) := by decide +kernel
theorem dX10_feed_36 : decode cX10_feed 36 = .ok (.aload_n 0, 1) := by decide +kernel
theorem dX10_feed_37 : decode cX10_feed 37 = .ok (.iload 5, 2) := by decide +kernel
theorem dX10_feed_39 : decode cX10_feed 39 = .ok (.invokevirtual 84, 3) := by decide +kernel
theorem dX10_feed_42 : decode cX10_feed 42 = .ok (.aload_n 0, 1) := by decide +kernel
theorem dX10_feed_43 : decode cX10_feed 43 = .ok (.getfield 81, 3) := by decide +kernel
theorem dX10_feed_46 : decode cX10_feed 46 = .ok (.ireturn, 1) := by decide +kernel
theorem dX10_fault_0 : decode cX10_fault 0 = .ok (.iload_n 1, 1) := by decide +kernel
theorem dX10_fault_1 : decode cX10_fault 1 = .ok (.ifCond .ne 8, 3) := by decide +kernel
theorem dX10_fault_4 : decode cX10_fault 4 = .ok (.aload_n 0, 1) := by decide +kernel
theorem dX10_fault_5 : decode cX10_fault 5 = .ok (.getfield 75, 3) := by decide +kernel
theorem dX10_fault_8 : decode cX10_fault 8 = .ok (.ireturn, 1) := by decide +kernel
theorem dX10_fault_9 : decode cX10_fault 9 = .ok (.iload_n 1, 1) := by decide +kernel
theorem dX10_fault_10 : decode cX10_fault 10 = .ok (.iconst 1, 1) := by decide +kernel
theorem dX10_fault_11 : decode cX10_fault 11 = .ok (.if_icmp .ne 10, 3) := by decide +kernel
theorem dX10_fault_14 : decode cX10_fault 14 = .ok (.aload_n 0, 1) := by decide +kernel
theorem dX10_fault_15 : decode cX10_fault 15 = .ok (.getfield 78, 3) := by decide +kernel
theorem dX10_fault_18 : decode cX10_fault 18 = .ok (.goto 4, 3) := by decide +kernel
theorem dX10_fault_21 : decode cX10_fault 21 = .ok (.iconst (-1), 1) := by decide +kernel
theorem dX10_fault_22 : decode cX10_fault 22 = .ok (.ireturn, 1) := by decide +kernel
theorem dX10_climber_0 : decode cX10_climber 0 = .ok (.aload_n 0, 1) := by decide +kernel
theorem dX10_climber_1 : decode cX10_climber 1 = .ok (.getfield 16, 3) := by decide +kernel
theorem dX10_climber_4 : decode cX10_climber 4 = .ok (.getfield 117, 3) := by decide +kernel
theorem dX10_climber_7 : decode cX10_climber 7 = .ok (.ifCond .ne 9, 3) := by decide +kernel
theorem dX10_climber_10 : decode cX10_climber 10 = .ok (.aload_n 0, 1) := by decide +kernel
theorem dX10_climber_11 : decode cX10_climber 11 = .ok (.iconst 1, 1) := by decide +kernel
theorem dX10_climber_12 : decode cX10_climber 12 = .ok (.invokevirtual 88, 3) := by decide +kernel
theorem dX10_climber_15 : decode cX10_climber 15 = .ok (.ireturn, 1) := by decide +kernel
theorem dX10_climber_16 : decode cX10_climber 16 = .ok (.aload_n 0, 1) := by decide +kernel
theorem dX10_climber_17 : decode cX10_climber 17 = .ok (.getfield 37, 3) := by decide +kernel
theorem dX10_climber_20 : decode cX10_climber 20 = .ok (.getfield 123, 3) := by decide +kernel
theorem dX10_climber_23 : decode cX10_climber 23 = .ok (.bipush 16, 2) := by decide +kernel
theorem dX10_climber_25 : decode cX10_climber 25 = .ok (.if_icmp .lt 9, 3) := by decide +kernel
theorem dX10_climber_28 : decode cX10_climber 28 = .ok (.aload_n 0, 1) := by decide +kernel
theorem dX10_climber_29 : decode cX10_climber 29 = .ok (.iconst 3, 1) := by decide +kernel
theorem dX10_climber_30 : decode cX10_climber 30 = .ok (.invokevirtual 88, 3) := by decide +kernel
theorem dX10_climber_33 : decode cX10_climber 33 = .ok (.ireturn, 1) := by decide +kernel
theorem dX10_climber_34 : decode cX10_climber 34 = .ok (.aload_n 0, 1) := by decide +kernel
theorem dX10_climber_35 : decode cX10_climber 35 = .ok (.getfield 44, 3) := by decide +kernel
theorem dX10_climber_38 : decode cX10_climber 38 = .ok (.getfield 126, 3) := by decide +kernel
theorem dX10_climber_41 : decode cX10_climber 41 = .ok (.ifCond .gt 13, 3) := by decide +kernel
theorem dX10_climber_44 : decode cX10_climber 44 = .ok (.aload_n 0, 1) := by decide +kernel
theorem dX10_climber_45 : decode cX10_climber 45 = .ok (.getfield 37, 3) := by decide +kernel
theorem dX10_climber_48 : decode cX10_climber 48 = .ok (.getfield 129, 3) := by decide +kernel
theorem dX10_climber_51 : decode cX10_climber 51 = .ok (.ifCond .le 10, 3) := by decide +kernel
theorem dX10_climber_54 : decode cX10_climber 54 = .ok (.aload_n 0, 1) := by decide +kernel
theorem dX10_climber_55 : decode cX10_climber 55 = .ok (.bipush 10, 2) := by decide +kernel
theorem dX10_climber_57 : decode cX10_climber 57 = .ok (.invokevirtual 88, 3) := by decide +kernel
theorem dX10_climber_60 : decode cX10_climber 60 = .ok (.ireturn, 1) := by decide +kernel
theorem dX10_climber_61 : decode cX10_climber 61 = .ok (.aload_n 0, 1) := by decide +kernel
theorem dX10_climber_62 : decode cX10_climber 62 = .ok (.aload_n 0, 1) := by decide +kernel
theorem dX10_climber_63 : decode cX10_climber 63 = .ok (.getfield 37, 3) := by decide +kernel
theorem dX10_climber_66 : decode cX10_climber 66 = .ok (.invokevirtual 132, 3) := by decide +kernel
theorem dX10_climber_69 : decode cX10_climber 69 = .ok (.invokevirtual 120, 3) := by decide +kernel
theorem dX10_climber_72 : decode cX10_climber 72 = .ok (.ireturn, 1) := by decide +kernel
theorem dX10_route_0 : decode cX10_route 0 = .ok (.aload_n 0, 1) := by decide +kernel
theorem dX10_route_1 : decode cX10_route 1 = .ok (.getfield 16, 3) := by decide +kernel
theorem dX10_route_4 : decode cX10_route 4 = .ok (.iload_n 1, 1) := by decide +kernel
theorem dX10_route_5 : decode cX10_route 5 = .ok (.iload_n 2, 1) := by decide +kernel
theorem dX10_route_6 : decode cX10_route 6 = .ok (.invokevirtual 136, 3) := by decide +kernel
theorem dX10_route_9 : decode cX10_route 9 = .ok (.ifCond .ne 9, 3) := by decide +kernel
theorem dX10_route_12 : decode cX10_route 12 = .ok (.aload_n 0, 1) := by decide +kernel
theorem dX10_route_13 : decode cX10_route 13 = .ok (.iconst 1, 1) := by decide +kernel
theorem dX10_route_14 : decode cX10_route 14 = .ok (.invokevirtual 140, 3) := by decide +kernel
theorem dX10_route_17 : decode cX10_route 17 = .ok (.ireturn, 1) := by decide +kernel
theorem dX10_route_18 : decode cX10_route 18 = .ok (.iload_n 3, 1) := by decide +kernel
theorem dX10_route_19 : decode cX10_route 19 = .ok (.iconst 2, 1) := by decide +kernel
theorem dX10_route_20 : decode cX10_route 20 = .ok (.if_icmp .lt 22, 3) := by decide +kernel
theorem dX10_route_23 : decode cX10_route 23 = .ok (.iload_n 3, 1) := by decide +kernel
theorem dX10_route_24 : decode cX10_route 24 = .ok (.bipush 60, 2) := by decide +kernel
theorem dX10_route_26 : decode cX10_route 26 = .ok (.if_icmp .gt 16, 3) := by decide +kernel
theorem dX10_route_29 : decode cX10_route 29 = .ok (.iload_n 3, 1) := by decide +kernel
theorem dX10_route_30 : decode cX10_route 30 = .ok (.iload 4, 2) := by decide +kernel
theorem dX10_route_32 : decode cX10_route 32 = .ok (.iload 5, 2) := by decide +kernel
theorem dX10_route_34 : decode cX10_route 34 = .ok (.iload 6, 2) := by decide +kernel
theorem dX10_route_36 : decode cX10_route 36 = .ok (.invokestatic 144, 3) := by decide +kernel
theorem dX10_route_39 : decode cX10_route 39 = .ok (.ifCond .ne 9, 3) := by decide +kernel
theorem dX10_route_42 : decode cX10_route 42 = .ok (.aload_n 0, 1) := by decide +kernel
theorem dX10_route_43 : decode cX10_route 43 = .ok (.iconst 2, 1) := by decide +kernel
theorem dX10_route_44 : decode cX10_route 44 = .ok (.invokevirtual 140, 3) := by decide +kernel
theorem dX10_route_47 : decode cX10_route 47 = .ok (.ireturn, 1) := by decide +kernel
theorem dX10_route_48 : decode cX10_route 48 = .ok (.aload_n 0, 1) := by decide +kernel
theorem dX10_route_49 : decode cX10_route 49 = .ok (.getfield 30, 3) := by decide +kernel
theorem dX10_route_52 : decode cX10_route 52 = .ok (.iload_n 1, 1) := by decide +kernel
theorem dX10_route_53 : decode cX10_route 53 = .ok (.iload_n 2, 1) := by decide +kernel
theorem dX10_route_54 : decode cX10_route 54 = .ok (.invokevirtual 148, 3) := by decide +kernel
theorem dX10_route_57 : decode cX10_route 57 = .ok (.ifCond .le 10, 3) := by decide +kernel
theorem dX10_route_60 : decode cX10_route 60 = .ok (.aload_n 0, 1) := by decide +kernel
theorem dX10_route_61 : decode cX10_route 61 = .ok (.bipush 10, 2) := by decide +kernel
theorem dX10_route_63 : decode cX10_route 63 = .ok (.invokevirtual 140, 3) := by decide +kernel
theorem dX10_route_66 : decode cX10_route 66 = .ok (.ireturn, 1) := by decide +kernel
theorem dX10_route_67 : decode cX10_route 67 = .ok (.aload_n 0, 1) := by decide +kernel
theorem dX10_route_68 : decode cX10_route 68 = .ok (.getfield 30, 3) := by decide +kernel
theorem dX10_route_71 : decode cX10_route 71 = .ok (.iload_n 1, 1) := by decide +kernel
theorem dX10_route_72 : decode cX10_route 72 = .ok (.iload_n 2, 1) := by decide +kernel
theorem dX10_route_73 : decode cX10_route 73 = .ok (.iload_n 3, 1) := by decide +kernel
theorem dX10_route_74 : decode cX10_route 74 = .ok (.invokevirtual 152, 3) := by decide +kernel
theorem dX10_route_77 : decode cX10_route 77 = .ok (.aload_n 0, 1) := by decide +kernel
theorem dX10_route_78 : decode cX10_route 78 = .ok (.getfield 30, 3) := by decide +kernel
theorem dX10_route_81 : decode cX10_route 81 = .ok (.iload_n 1, 1) := by decide +kernel
theorem dX10_route_82 : decode cX10_route 82 = .ok (.iload_n 2, 1) := by decide +kernel
theorem dX10_route_83 : decode cX10_route 83 = .ok (.iconst 0, 1) := by decide +kernel
theorem dX10_route_84 : decode cX10_route 84 = .ok (.iload 4, 2) := by decide +kernel
theorem dX10_route_86 : decode cX10_route 86 = .ok (.invokevirtual 156, 3) := by decide +kernel
theorem dX10_route_89 : decode cX10_route 89 = .ok (.aload_n 0, 1) := by decide +kernel
theorem dX10_route_90 : decode cX10_route 90 = .ok (.getfield 30, 3) := by decide +kernel
theorem dX10_route_93 : decode cX10_route 93 = .ok (.iload_n 1, 1) := by decide +kernel
theorem dX10_route_94 : decode cX10_route 94 = .ok (.iload_n 2, 1) := by decide +kernel
theorem dX10_route_95 : decode cX10_route 95 = .ok (.iconst 1, 1) := by decide +kernel
theorem dX10_route_96 : decode cX10_route 96 = .ok (.iload 5, 2) := by decide +kernel
theorem dX10_route_98 : decode cX10_route 98 = .ok (.invokevirtual 156, 3) := by decide +kernel
theorem dX10_route_101 : decode cX10_route 101 = .ok (.aload_n 0, 1) := by decide +kernel
theorem dX10_route_102 : decode cX10_route 102 = .ok (.getfield 30, 3) := by decide +kernel
theorem dX10_route_105 : decode cX10_route 105 = .ok (.iload_n 1, 1) := by decide +kernel
theorem dX10_route_106 : decode cX10_route 106 = .ok (.iload_n 2, 1) := by decide +kernel
theorem dX10_route_107 : decode cX10_route 107 = .ok (.iconst 2, 1) := by decide +kernel
theorem dX10_route_108 : decode cX10_route 108 = .ok (.iload 6, 2) := by decide +kernel
theorem dX10_route_110 : decode cX10_route 110 = .ok (.invokevirtual 156, 3) := by decide +kernel
theorem dX10_route_113 : decode cX10_route 113 = .ok (.aload_n 0, 1) := by decide +kernel
theorem dX10_route_114 : decode cX10_route 114 = .ok (.invokevirtual 160, 3) := by decide +kernel
theorem dX10_route_117 : decode cX10_route 117 = .ok (.ireturn, 1) := by decide +kernel
theorem dX10_told_0 : decode cX10_told 0 = .ok (.iload_n 2, 1) := by decide +kernel
theorem dX10_told_1 : decode cX10_told 1 = .ok (.iconst (-1), 1) := by decide +kernel
theorem dX10_told_2 : decode cX10_told 2 = .ok (.if_icmp .ne 7, 3) := by decide +kernel
theorem dX10_told_5 : decode cX10_told 5 = .ok (.iconst 1, 1) := by decide +kernel
theorem dX10_told_6 : decode cX10_told 6 = .ok (.goto 4, 3) := by decide +kernel
theorem dX10_told_9 : decode cX10_told 9 = .ok (.iconst 0, 1) := by decide +kernel
theorem dX10_told_10 : decode cX10_told 10 = .ok (.istore 4, 2) := by decide +kernel
theorem dX10_told_12 : decode cX10_told 12 = .ok (.iload 4, 2) := by decide +kernel
theorem dX10_told_14 : decode cX10_told 14 = .ok (.ifCond .eq 17, 3) := by decide +kernel
theorem dX10_told_17 : decode cX10_told 17 = .ok (.aload_n 0, 1) := by decide +kernel
theorem dX10_told_18 : decode cX10_told 18 = .ok (.getfield 16, 3) := by decide +kernel
theorem dX10_told_21 : decode cX10_told 21 = .ok (.iload_n 1, 1) := by decide +kernel
theorem dX10_told_22 : decode cX10_told 22 = .ok (.invokevirtual 164, 3) := by decide +kernel
theorem dX10_told_25 : decode cX10_told 25 = .ok (.ifCond .ne 24, 3) := by decide +kernel
theorem dX10_told_28 : decode cX10_told 28 = .ok (.goto 15, 3) := by decide +kernel
theorem dX10_told_31 : decode cX10_told 31 = .ok (.aload_n 0, 1) := by decide +kernel
theorem dX10_told_32 : decode cX10_told 32 = .ok (.getfield 16, 3) := by decide +kernel
theorem dX10_told_35 : decode cX10_told 35 = .ok (.iload_n 1, 1) := by decide +kernel
theorem dX10_told_36 : decode cX10_told 36 = .ok (.iload_n 2, 1) := by decide +kernel
theorem dX10_told_37 : decode cX10_told 37 = .ok (.invokevirtual 136, 3) := by decide +kernel
theorem dX10_told_40 : decode cX10_told 40 = .ok (.ifCond .ne 9, 3) := by decide +kernel
theorem dX10_told_43 : decode cX10_told 43 = .ok (.aload_n 0, 1) := by decide +kernel
theorem dX10_told_44 : decode cX10_told 44 = .ok (.iconst 1, 1) := by decide +kernel
theorem dX10_told_45 : decode cX10_told 45 = .ok (.invokevirtual 88, 3) := by decide +kernel
theorem dX10_told_48 : decode cX10_told 48 = .ok (.ireturn, 1) := by decide +kernel
theorem dX10_told_49 : decode cX10_told 49 = .ok (.iload_n 3, 1) := by decide +kernel
theorem dX10_told_50 : decode cX10_told 50 = .ok (.ifCond .lt 8, 3) := by decide +kernel
theorem dX10_told_53 : decode cX10_told 53 = .ok (.iload_n 3, 1) := by decide +kernel
theorem dX10_told_54 : decode cX10_told 54 = .ok (.iconst 4, 1) := by decide +kernel
theorem dX10_told_55 : decode cX10_told 55 = .ok (.if_icmp .le 9, 3) := by decide +kernel
theorem dX10_told_58 : decode cX10_told 58 = .ok (.aload_n 0, 1) := by decide +kernel
theorem dX10_told_59 : decode cX10_told 59 = .ok (.iconst 2, 1) := by decide +kernel
theorem dX10_told_60 : decode cX10_told 60 = .ok (.invokevirtual 88, 3) := by decide +kernel
theorem dX10_told_63 : decode cX10_told 63 = .ok (.ireturn, 1) := by decide +kernel
theorem dX10_told_64 : decode cX10_told 64 = .ok (.iload 4, 2) := by decide +kernel
theorem dX10_told_66 : decode cX10_told 66 = .ok (.ifCond .eq 33, 3) := by decide +kernel
theorem dX10_told_69 : decode cX10_told 69 = .ok (.aload_n 0, 1) := by decide +kernel
theorem dX10_told_70 : decode cX10_told 70 = .ok (.iload_n 3, 1) := by decide +kernel
theorem dX10_told_71 : decode cX10_told 71 = .ok (.iconst 4, 1) := by decide +kernel
theorem dX10_told_72 : decode cX10_told 72 = .ok (.if_icmp .ne 14, 3) := by decide +kernel
theorem dX10_told_75 : decode cX10_told 75 = .ok (.aload_n 0, 1) := by decide +kernel
theorem dX10_told_76 : decode cX10_told 76 = .ok (.getfield 37, 3) := by decide +kernel
theorem dX10_told_79 : decode cX10_told 79 = .ok (.iload_n 1, 1) := by decide +kernel
theorem dX10_told_80 : decode cX10_told 80 = .ok (.invokevirtual 167, 3) := by decide +kernel
theorem dX10_told_83 : decode cX10_told 83 = .ok (.goto 12, 3) := by decide +kernel
theorem dX10_told_86 : decode cX10_told 86 = .ok (.aload_n 0, 1) := by decide +kernel
theorem dX10_told_87 : decode cX10_told 87 = .ok (.getfield 16, 3) := by decide +kernel
theorem dX10_told_90 : decode cX10_told 90 = .ok (.iload_n 1, 1) := by decide +kernel
theorem dX10_told_91 : decode cX10_told 91 = .ok (.iload_n 3, 1) := by decide +kernel
theorem dX10_told_92 : decode cX10_told 92 = .ok (.invokevirtual 170, 3) := by decide +kernel
theorem dX10_told_95 : decode cX10_told 95 = .ok (.invokevirtual 120, 3) := by decide +kernel
theorem dX10_told_98 : decode cX10_told 98 = .ok (.ireturn, 1) := by decide +kernel
theorem dX10_told_99 : decode cX10_told 99 = .ok (.iload_n 3, 1) := by decide +kernel
theorem dX10_told_100 : decode cX10_told 100 = .ok (.ifCond .ne 17, 3) := by decide +kernel
theorem dX10_told_103 : decode cX10_told 103 = .ok (.aload_n 0, 1) := by decide +kernel
theorem dX10_told_104 : decode cX10_told 104 = .ok (.aload_n 0, 1) := by decide +kernel
theorem dX10_told_105 : decode cX10_told 105 = .ok (.getfield 30, 3) := by decide +kernel
theorem dX10_told_108 : decode cX10_told 108 = .ok (.iload_n 1, 1) := by decide +kernel
theorem dX10_told_109 : decode cX10_told 109 = .ok (.iload_n 2, 1) := by decide +kernel
theorem dX10_told_110 : decode cX10_told 110 = .ok (.invokevirtual 173, 3) := by decide +kernel
theorem dX10_told_113 : decode cX10_told 113 = .ok (.invokevirtual 120, 3) := by decide +kernel
theorem dX10_told_116 : decode cX10_told 116 = .ok (.ireturn, 1) := by decide +kernel
theorem dX10_told_117 : decode cX10_told 117 = .ok (.aload_n 0, 1) := by decide +kernel
theorem dX10_told_118 : decode cX10_told 118 = .ok (.iload_n 3, 1) := by decide +kernel
theorem dX10_told_119 : decode cX10_told 119 = .ok (.iconst 4, 1) := by decide +kernel
theorem dX10_told_120 : decode cX10_told 120 = .ok (.if_icmp .ne 15, 3) := by decide +kernel
theorem dX10_told_123 : decode cX10_told 123 = .ok (.aload_n 0, 1) := by decide +kernel
theorem dX10_told_124 : decode cX10_told 124 = .ok (.getfield 30, 3) := by decide +kernel
theorem dX10_told_127 : decode cX10_told 127 = .ok (.iload_n 1, 1) := by decide +kernel
theorem dX10_told_128 : decode cX10_told 128 = .ok (.iload_n 2, 1) := by decide +kernel
theorem dX10_told_129 : decode cX10_told 129 = .ok (.invokevirtual 148, 3) := by decide +kernel
theorem dX10_told_132 : decode cX10_told 132 = .ok (.goto 15, 3) := by decide +kernel
theorem dX10_told_135 : decode cX10_told 135 = .ok (.aload_n 0, 1) := by decide +kernel
theorem dX10_told_136 : decode cX10_told 136 = .ok (.getfield 30, 3) := by decide +kernel
theorem dX10_told_139 : decode cX10_told 139 = .ok (.iload_n 1, 1) := by decide +kernel
theorem dX10_told_140 : decode cX10_told 140 = .ok (.iload_n 2, 1) := by decide +kernel
theorem dX10_told_141 : decode cX10_told 141 = .ok (.iload_n 3, 1) := by decide +kernel
theorem dX10_told_142 : decode cX10_told 142 = .ok (.iconst 1, 1) := by decide +kernel
theorem dX10_told_143 : decode cX10_told 143 = .ok (.isub, 1) := by decide +kernel
theorem dX10_told_144 : decode cX10_told 144 = .ok (.invokevirtual 176, 3) := by decide +kernel
theorem dX10_told_147 : decode cX10_told 147 = .ok (.invokevirtual 120, 3) := by decide +kernel
theorem dX10_told_150 : decode cX10_told 150 = .ok (.ireturn, 1) := by decide +kernel
theorem dX10_begin_0 : decode cX10_begin 0 = .ok (.iconst 1, 1) := by decide +kernel
theorem dX10_begin_1 : decode cX10_begin 1 = .ok (.istore 4, 2) := by decide +kernel
theorem dX10_begin_3 : decode cX10_begin 3 = .ok (.aload_n 0, 1) := by decide +kernel
theorem dX10_begin_4 : decode cX10_begin 4 = .ok (.getfield 37, 3) := by decide +kernel
theorem dX10_begin_7 : decode cX10_begin 7 = .ok (.iload_n 1, 1) := by decide +kernel
theorem dX10_begin_8 : decode cX10_begin 8 = .ok (.invokevirtual 180, 3) := by decide +kernel
theorem dX10_begin_11 : decode cX10_begin 11 = .ok (.ifCond .eq 28, 3) := by decide +kernel
theorem dX10_begin_14 : decode cX10_begin 14 = .ok (.aload_n 0, 1) := by decide +kernel
theorem dX10_begin_15 : decode cX10_begin 15 = .ok (.getfield 16, 3) := by decide +kernel
theorem dX10_begin_18 : decode cX10_begin 18 = .ok (.aload_n 0, 1) := by decide +kernel
theorem dX10_begin_19 : decode cX10_begin 19 = .ok (.getfield 37, 3) := by decide +kernel
theorem dX10_begin_22 : decode cX10_begin 22 = .ok (.getfield 129, 3) := by decide +kernel
theorem dX10_begin_25 : decode cX10_begin 25 = .ok (.iload_n 2, 1) := by decide +kernel
theorem dX10_begin_26 : decode cX10_begin 26 = .ok (.invokevirtual 136, 3) := by decide +kernel
theorem dX10_begin_29 : decode cX10_begin 29 = .ok (.ifCond .eq 10, 3) := by decide +kernel
theorem dX10_begin_32 : decode cX10_begin 32 = .ok (.aload_n 0, 1) := by decide +kernel
theorem dX10_begin_33 : decode cX10_begin 33 = .ok (.iload_n 3, 1) := by decide +kernel
theorem dX10_begin_34 : decode cX10_begin 34 = .ok (.invokevirtual 183, 3) := by decide +kernel
theorem dX10_begin_37 : decode cX10_begin 37 = .ok (.istore 4, 2) := by decide +kernel
theorem dX10_begin_39 : decode cX10_begin 39 = .ok (.iload 4, 2) := by decide +kernel
theorem dX10_begin_41 : decode cX10_begin 41 = .ok (.ifCond .ne 11, 3) := by decide +kernel
theorem dX10_begin_44 : decode cX10_begin 44 = .ok (.aload_n 0, 1) := by decide +kernel
theorem dX10_begin_45 : decode cX10_begin 45 = .ok (.iload_n 1, 1) := by decide +kernel
theorem dX10_begin_46 : decode cX10_begin 46 = .ok (.iload_n 2, 1) := by decide +kernel
theorem dX10_begin_47 : decode cX10_begin 47 = .ok (.invokevirtual 186, 3) := by decide +kernel
theorem dX10_begin_50 : decode cX10_begin 50 = .ok (.istore 4, 2) := by decide +kernel
theorem dX10_begin_52 : decode cX10_begin 52 = .ok (.iload 4, 2) := by decide +kernel
theorem dX10_begin_54 : decode cX10_begin 54 = .ok (.ifCond .eq 10, 3) := by decide +kernel
theorem dX10_begin_57 : decode cX10_begin 57 = .ok (.aload_n 0, 1) := by decide +kernel
theorem dX10_begin_58 : decode cX10_begin 58 = .ok (.iload 4, 2) := by decide +kernel
theorem dX10_begin_60 : decode cX10_begin 60 = .ok (.invokevirtual 88, 3) := by decide +kernel
theorem dX10_begin_63 : decode cX10_begin 63 = .ok (.ireturn, 1) := by decide +kernel
theorem dX10_begin_64 : decode cX10_begin 64 = .ok (.aload_n 0, 1) := by decide +kernel
theorem dX10_begin_65 : decode cX10_begin 65 = .ok (.getfield 30, 3) := by decide +kernel
theorem dX10_begin_68 : decode cX10_begin 68 = .ok (.aload_n 0, 1) := by decide +kernel
theorem dX10_begin_69 : decode cX10_begin 69 = .ok (.getfield 37, 3) := by decide +kernel
theorem dX10_begin_72 : decode cX10_begin 72 = .ok (.getfield 129, 3) := by decide +kernel
theorem dX10_begin_75 : decode cX10_begin 75 = .ok (.iload_n 2, 1) := by decide +kernel
theorem dX10_begin_76 : decode cX10_begin 76 = .ok (.invokevirtual 189, 3) := by decide +kernel
theorem dX10_begin_79 : decode cX10_begin 79 = .ok (.aload_n 0, 1) := by decide +kernel
theorem dX10_begin_80 : decode cX10_begin 80 = .ok (.aload_n 0, 1) := by decide +kernel
theorem dX10_begin_81 : decode cX10_begin 81 = .ok (.getfield 44, 3) := by decide +kernel
theorem dX10_begin_84 : decode cX10_begin 84 = .ok (.iload_n 1, 1) := by decide +kernel
theorem dX10_begin_85 : decode cX10_begin 85 = .ok (.aload_n 0, 1) := by decide +kernel
theorem dX10_begin_86 : decode cX10_begin 86 = .ok (.getfield 37, 3) := by decide +kernel
theorem dX10_begin_89 : decode cX10_begin 89 = .ok (.getfield 129, 3) := by decide +kernel
theorem dX10_begin_92 : decode cX10_begin 92 = .ok (.iload_n 2, 1) := by decide +kernel
theorem dX10_begin_93 : decode cX10_begin 93 = .ok (.aload_n 0, 1) := by decide +kernel
theorem dX10_begin_94 : decode cX10_begin 94 = .ok (.getfield 114, 3) := by decide +kernel
theorem dX10_begin_97 : decode cX10_begin 97 = .ok (.invokevirtual 193, 3) := by decide +kernel
theorem dX10_begin_100 : decode cX10_begin 100 = .ok (.invokevirtual 120, 3) := by decide +kernel
theorem dX10_begin_103 : decode cX10_begin 103 = .ok (.ireturn, 1) := by decide +kernel
theorem dX10_reach_0 : decode cX10_reach 0 = .ok (.iconst 1, 1) := by decide +kernel
theorem dX10_reach_1 : decode cX10_reach 1 = .ok (.istore 4, 2) := by decide +kernel
theorem dX10_reach_3 : decode cX10_reach 3 = .ok (.aload_n 0, 1) := by decide +kernel
theorem dX10_reach_4 : decode cX10_reach 4 = .ok (.getfield 37, 3) := by decide +kernel
theorem dX10_reach_7 : decode cX10_reach 7 = .ok (.iload_n 1, 1) := by decide +kernel
theorem dX10_reach_8 : decode cX10_reach 8 = .ok (.invokevirtual 180, 3) := by decide +kernel
theorem dX10_reach_11 : decode cX10_reach 11 = .ok (.ifCond .eq 25, 3) := by decide +kernel
theorem dX10_reach_14 : decode cX10_reach 14 = .ok (.iload_n 2, 1) := by decide +kernel
theorem dX10_reach_15 : decode cX10_reach 15 = .ok (.iconst 1, 1) := by decide +kernel
theorem dX10_reach_16 : decode cX10_reach 16 = .ok (.if_icmp .lt 9, 3) := by decide +kernel
theorem dX10_reach_19 : decode cX10_reach 19 = .ok (.iload_n 2, 1) := by decide +kernel
theorem dX10_reach_20 : decode cX10_reach 20 = .ok (.bipush 60, 2) := by decide +kernel
theorem dX10_reach_22 : decode cX10_reach 22 = .ok (.if_icmp .le 7, 3) := by decide +kernel
theorem dX10_reach_25 : decode cX10_reach 25 = .ok (.iconst 2, 1) := by decide +kernel
theorem dX10_reach_26 : decode cX10_reach 26 = .ok (.goto 8, 3) := by decide +kernel
theorem dX10_reach_29 : decode cX10_reach 29 = .ok (.aload_n 0, 1) := by decide +kernel
theorem dX10_reach_30 : decode cX10_reach 30 = .ok (.iload_n 3, 1) := by decide +kernel
theorem dX10_reach_31 : decode cX10_reach 31 = .ok (.invokevirtual 183, 3) := by decide +kernel
theorem dX10_reach_34 : decode cX10_reach 34 = .ok (.istore 4, 2) := by decide +kernel
theorem dX10_reach_36 : decode cX10_reach 36 = .ok (.iload 4, 2) := by decide +kernel
theorem dX10_reach_38 : decode cX10_reach 38 = .ok (.ifCond .eq 10, 3) := by decide +kernel
theorem dX10_reach_41 : decode cX10_reach 41 = .ok (.aload_n 0, 1) := by decide +kernel
theorem dX10_reach_42 : decode cX10_reach 42 = .ok (.iload 4, 2) := by decide +kernel
theorem dX10_reach_44 : decode cX10_reach 44 = .ok (.invokevirtual 88, 3) := by decide +kernel
theorem dX10_reach_47 : decode cX10_reach 47 = .ok (.ireturn, 1) := by decide +kernel
theorem dX10_reach_48 : decode cX10_reach 48 = .ok (.aload_n 0, 1) := by decide +kernel
theorem dX10_reach_49 : decode cX10_reach 49 = .ok (.getfield 44, 3) := by decide +kernel
theorem dX10_reach_52 : decode cX10_reach 52 = .ok (.iload_n 1, 1) := by decide +kernel
theorem dX10_reach_53 : decode cX10_reach 53 = .ok (.invokevirtual 197, 3) := by decide +kernel
theorem dX10_reach_56 : decode cX10_reach 56 = .ok (.istore 5, 2) := by decide +kernel
theorem dX10_reach_58 : decode cX10_reach 58 = .ok (.iload 5, 2) := by decide +kernel
theorem dX10_reach_60 : decode cX10_reach 60 = .ok (.iconst (-1), 1) := by decide +kernel
theorem dX10_reach_61 : decode cX10_reach 61 = .ok (.if_icmp .ne 9, 3) := by decide +kernel
theorem dX10_reach_64 : decode cX10_reach 64 = .ok (.aload_n 0, 1) := by decide +kernel
theorem dX10_reach_65 : decode cX10_reach 65 = .ok (.iconst 5, 1) := by decide +kernel
theorem dX10_reach_66 : decode cX10_reach 66 = .ok (.invokevirtual 88, 3) := by decide +kernel
theorem dX10_reach_69 : decode cX10_reach 69 = .ok (.ireturn, 1) := by decide +kernel
theorem dX10_reach_70 : decode cX10_reach 70 = .ok (.aload_n 0, 1) := by decide +kernel
theorem dX10_reach_71 : decode cX10_reach 71 = .ok (.getfield 30, 3) := by decide +kernel
theorem dX10_reach_74 : decode cX10_reach 74 = .ok (.aload_n 0, 1) := by decide +kernel
theorem dX10_reach_75 : decode cX10_reach 75 = .ok (.getfield 44, 3) := by decide +kernel
theorem dX10_reach_78 : decode cX10_reach 78 = .ok (.getfield 200, 3) := by decide +kernel
theorem dX10_reach_81 : decode cX10_reach 81 = .ok (.iload 5, 2) := by decide +kernel
theorem dX10_reach_83 : decode cX10_reach 83 = .ok (.iaload, 1) := by decide +kernel
theorem dX10_reach_84 : decode cX10_reach 84 = .ok (.aload_n 0, 1) := by decide +kernel
theorem dX10_reach_85 : decode cX10_reach 85 = .ok (.getfield 44, 3) := by decide +kernel
theorem dX10_reach_88 : decode cX10_reach 88 = .ok (.getfield 203, 3) := by decide +kernel
theorem dX10_reach_91 : decode cX10_reach 91 = .ok (.iload 5, 2) := by decide +kernel
theorem dX10_reach_93 : decode cX10_reach 93 = .ok (.iaload, 1) := by decide +kernel
theorem dX10_reach_94 : decode cX10_reach 94 = .ok (.invokevirtual 173, 3) := by decide +kernel
theorem dX10_reach_97 : decode cX10_reach 97 = .ok (.istore 6, 2) := by decide +kernel
theorem dX10_reach_99 : decode cX10_reach 99 = .ok (.iload_n 2, 1) := by decide +kernel
theorem dX10_reach_100 : decode cX10_reach 100 = .ok (.aload_n 0, 1) := by decide +kernel
theorem dX10_reach_101 : decode cX10_reach 101 = .ok (.getfield 44, 3) := by decide +kernel
theorem dX10_reach_104 : decode cX10_reach 104 = .ok (.getfield 206, 3) := by decide +kernel
theorem dX10_reach_107 : decode cX10_reach 107 = .ok (.iload 5, 2) := by decide +kernel
theorem dX10_reach_109 : decode cX10_reach 109 = .ok (.iaload, 1) := by decide +kernel
theorem dX10_reach_110 : decode cX10_reach 110 = .ok (.if_icmp .le 9, 3) := by decide +kernel
theorem dX10_reach_113 : decode cX10_reach 113 = .ok (.iload_n 2, 1) := by decide +kernel
theorem dX10_reach_114 : decode cX10_reach 114 = .ok (.iload 6, 2) := by decide +kernel
theorem dX10_reach_116 : decode cX10_reach 116 = .ok (.if_icmp .le 10, 3) := by decide +kernel
theorem dX10_reach_119 : decode cX10_reach 119 = .ok (.aload_n 0, 1) := by decide +kernel
theorem dX10_reach_120 : decode cX10_reach 120 = .ok (.bipush 10, 2) := by decide +kernel
theorem dX10_reach_122 : decode cX10_reach 122 = .ok (.invokevirtual 88, 3) := by decide +kernel
theorem dX10_reach_125 : decode cX10_reach 125 = .ok (.ireturn, 1) := by decide +kernel
theorem dX10_reach_126 : decode cX10_reach 126 = .ok (.aload_n 0, 1) := by decide +kernel
theorem dX10_reach_127 : decode cX10_reach 127 = .ok (.getfield 44, 3) := by decide +kernel
theorem dX10_reach_130 : decode cX10_reach 130 = .ok (.getfield 206, 3) := by decide +kernel
theorem dX10_reach_133 : decode cX10_reach 133 = .ok (.iload 5, 2) := by decide +kernel
theorem dX10_reach_135 : decode cX10_reach 135 = .ok (.iload_n 2, 1) := by decide +kernel
theorem dX10_reach_136 : decode cX10_reach 136 = .ok (.iastore, 1) := by decide +kernel
theorem dX10_reach_137 : decode cX10_reach 137 = .ok (.iload_n 2, 1) := by decide +kernel
theorem dX10_reach_138 : decode cX10_reach 138 = .ok (.iload 6, 2) := by decide +kernel
theorem dX10_reach_140 : decode cX10_reach 140 = .ok (.if_icmp .ge 9, 3) := by decide +kernel
theorem dX10_reach_143 : decode cX10_reach 143 = .ok (.aload_n 0, 1) := by decide +kernel
theorem dX10_reach_144 : decode cX10_reach 144 = .ok (.iconst 0, 1) := by decide +kernel
theorem dX10_reach_145 : decode cX10_reach 145 = .ok (.invokevirtual 120, 3) := by decide +kernel
theorem dX10_reach_148 : decode cX10_reach 148 = .ok (.ireturn, 1) := by decide +kernel
theorem dX10_reach_149 : decode cX10_reach 149 = .ok (.aload_n 0, 1) := by decide +kernel
theorem dX10_reach_150 : decode cX10_reach 150 = .ok (.getfield 44, 3) := by decide +kernel
theorem dX10_reach_153 : decode cX10_reach 153 = .ok (.iload 5, 2) := by decide +kernel
theorem dX10_reach_155 : decode cX10_reach 155 = .ok (.aload_n 0, 1) := by decide +kernel
theorem dX10_reach_156 : decode cX10_reach 156 = .ok (.getfield 114, 3) := by decide +kernel
theorem dX10_reach_159 : decode cX10_reach 159 = .ok (.iconst 1, 1) := by decide +kernel
theorem dX10_reach_160 : decode cX10_reach 160 = .ok (.invokevirtual 209, 3) := by decide +kernel
theorem dX10_reach_163 : decode cX10_reach 163 = .ok (.aload_n 0, 1) := by decide +kernel
theorem dX10_reach_164 : decode cX10_reach 164 = .ok (.iconst 1, 1) := by decide +kernel
theorem dX10_reach_165 : decode cX10_reach 165 = .ok (.invokevirtual 120, 3) := by decide +kernel
theorem dX10_reach_168 : decode cX10_reach 168 = .ok (.ireturn, 1) := by decide +kernel
theorem dX10_fall_0 : decode cX10_fall 0 = .ok (.aload_n 0, 1) := by decide +kernel
theorem dX10_fall_1 : decode cX10_fall 1 = .ok (.getfield 37, 3) := by decide +kernel
theorem dX10_fall_4 : decode cX10_fall 4 = .ok (.iload_n 1, 1) := by decide +kernel
theorem dX10_fall_5 : decode cX10_fall 5 = .ok (.invokevirtual 180, 3) := by decide +kernel
theorem dX10_fall_8 : decode cX10_fall 8 = .ok (.ifCond .eq 11, 3) := by decide +kernel
theorem dX10_fall_11 : decode cX10_fall 11 = .ok (.aload_n 0, 1) := by decide +kernel
theorem dX10_fall_12 : decode cX10_fall 12 = .ok (.iload_n 2, 1) := by decide +kernel
theorem dX10_fall_13 : decode cX10_fall 13 = .ok (.invokevirtual 183, 3) := by decide +kernel
theorem dX10_fall_16 : decode cX10_fall 16 = .ok (.goto 4, 3) := by decide +kernel
theorem dX10_fall_19 : decode cX10_fall 19 = .ok (.iconst 1, 1) := by decide +kernel
theorem dX10_fall_20 : decode cX10_fall 20 = .ok (.istore 4, 2) := by decide +kernel
theorem dX10_fall_22 : decode cX10_fall 22 = .ok (.iload 4, 2) := by decide +kernel
theorem dX10_fall_24 : decode cX10_fall 24 = .ok (.ifCond .eq 10, 3) := by decide +kernel
theorem dX10_fall_27 : decode cX10_fall 27 = .ok (.aload_n 0, 1) := by decide +kernel
theorem dX10_fall_28 : decode cX10_fall 28 = .ok (.iload 4, 2) := by decide +kernel
theorem dX10_fall_30 : decode cX10_fall 30 = .ok (.invokevirtual 140, 3) := by decide +kernel
theorem dX10_fall_33 : decode cX10_fall 33 = .ok (.ireturn, 1) := by decide +kernel
theorem dX10_fall_34 : decode cX10_fall 34 = .ok (.aload_n 0, 1) := by decide +kernel
theorem dX10_fall_35 : decode cX10_fall 35 = .ok (.getfield 44, 3) := by decide +kernel
theorem dX10_fall_38 : decode cX10_fall 38 = .ok (.iload_n 1, 1) := by decide +kernel
theorem dX10_fall_39 : decode cX10_fall 39 = .ok (.invokevirtual 197, 3) := by decide +kernel
theorem dX10_fall_42 : decode cX10_fall 42 = .ok (.istore 5, 2) := by decide +kernel
theorem dX10_fall_44 : decode cX10_fall 44 = .ok (.iload 5, 2) := by decide +kernel
theorem dX10_fall_46 : decode cX10_fall 46 = .ok (.iconst (-1), 1) := by decide +kernel
theorem dX10_fall_47 : decode cX10_fall 47 = .ok (.if_icmp .ne 9, 3) := by decide +kernel
theorem dX10_fall_50 : decode cX10_fall 50 = .ok (.aload_n 0, 1) := by decide +kernel
theorem dX10_fall_51 : decode cX10_fall 51 = .ok (.iconst 5, 1) := by decide +kernel
theorem dX10_fall_52 : decode cX10_fall 52 = .ok (.invokevirtual 140, 3) := by decide +kernel
theorem dX10_fall_55 : decode cX10_fall 55 = .ok (.ireturn, 1) := by decide +kernel
theorem dX10_fall_56 : decode cX10_fall 56 = .ok (.aload_n 0, 1) := by decide +kernel
theorem dX10_fall_57 : decode cX10_fall 57 = .ok (.getfield 44, 3) := by decide +kernel
theorem dX10_fall_60 : decode cX10_fall 60 = .ok (.iload 5, 2) := by decide +kernel
theorem dX10_fall_62 : decode cX10_fall 62 = .ok (.aload_n 0, 1) := by decide +kernel
theorem dX10_fall_63 : decode cX10_fall 63 = .ok (.getfield 114, 3) := by decide +kernel
theorem dX10_fall_66 : decode cX10_fall 66 = .ok (.iload_n 3, 1) := by decide +kernel
theorem dX10_fall_67 : decode cX10_fall 67 = .ok (.ifCond .eq 7, 3) := by decide +kernel
theorem dX10_fall_70 : decode cX10_fall 70 = .ok (.iconst 4, 1) := by decide +kernel
theorem dX10_fall_71 : decode cX10_fall 71 = .ok (.goto 4, 3) := by decide +kernel
theorem dX10_fall_74 : decode cX10_fall 74 = .ok (.iconst 2, 1) := by decide +kernel
theorem dX10_fall_75 : decode cX10_fall 75 = .ok (.invokevirtual 209, 3) := by decide +kernel
theorem dX10_fall_78 : decode cX10_fall 78 = .ok (.aload_n 0, 1) := by decide +kernel
theorem dX10_fall_79 : decode cX10_fall 79 = .ok (.invokevirtual 160, 3) := by decide +kernel
theorem dX10_fall_82 : decode cX10_fall 82 = .ok (.ireturn, 1) := by decide +kernel
theorem dX10_out_0 : decode cX10_out 0 = .ok (.aload_n 0, 1) := by decide +kernel
theorem dX10_out_1 : decode cX10_out 1 = .ok (.getfield 37, 3) := by decide +kernel
theorem dX10_out_4 : decode cX10_out 4 = .ok (.iload_n 1, 1) := by decide +kernel
theorem dX10_out_5 : decode cX10_out 5 = .ok (.invokevirtual 180, 3) := by decide +kernel
theorem dX10_out_8 : decode cX10_out 8 = .ok (.ifCond .eq 11, 3) := by decide +kernel
theorem dX10_out_11 : decode cX10_out 11 = .ok (.aload_n 0, 1) := by decide +kernel
theorem dX10_out_12 : decode cX10_out 12 = .ok (.iload_n 2, 1) := by decide +kernel
theorem dX10_out_13 : decode cX10_out 13 = .ok (.invokevirtual 183, 3) := by decide +kernel
theorem dX10_out_16 : decode cX10_out 16 = .ok (.goto 4, 3) := by decide +kernel
theorem dX10_out_19 : decode cX10_out 19 = .ok (.iconst 1, 1) := by decide +kernel
theorem dX10_out_20 : decode cX10_out 20 = .ok (.istore 4, 2) := by decide +kernel
theorem dX10_out_22 : decode cX10_out 22 = .ok (.iload 4, 2) := by decide +kernel
theorem dX10_out_24 : decode cX10_out 24 = .ok (.ifCond .eq 10, 3) := by decide +kernel
theorem dX10_out_27 : decode cX10_out 27 = .ok (.aload_n 0, 1) := by decide +kernel
theorem dX10_out_28 : decode cX10_out 28 = .ok (.iload 4, 2) := by decide +kernel
theorem dX10_out_30 : decode cX10_out 30 = .ok (.invokevirtual 140, 3) := by decide +kernel
theorem dX10_out_33 : decode cX10_out 33 = .ok (.ireturn, 1) := by decide +kernel
theorem dX10_out_34 : decode cX10_out 34 = .ok (.aload_n 0, 1) := by decide +kernel
theorem dX10_out_35 : decode cX10_out 35 = .ok (.getfield 58, 3) := by decide +kernel
theorem dX10_out_38 : decode cX10_out 38 = .ok (.iload_n 1, 1) := by decide +kernel
theorem dX10_out_39 : decode cX10_out 39 = .ok (.invokevirtual 212, 3) := by decide +kernel
theorem dX10_out_42 : decode cX10_out 42 = .ok (.iload_n 3, 1) := by decide +kernel
theorem dX10_out_43 : decode cX10_out 43 = .ok (.if_icmp .ne 10, 3) := by decide +kernel
theorem dX10_out_46 : decode cX10_out 46 = .ok (.aload_n 0, 1) := by decide +kernel
theorem dX10_out_47 : decode cX10_out 47 = .ok (.bipush 10, 2) := by decide +kernel
theorem dX10_out_49 : decode cX10_out 49 = .ok (.invokevirtual 140, 3) := by decide +kernel
theorem dX10_out_52 : decode cX10_out 52 = .ok (.ireturn, 1) := by decide +kernel
theorem dX10_out_53 : decode cX10_out 53 = .ok (.iload_n 3, 1) := by decide +kernel
theorem dX10_out_54 : decode cX10_out 54 = .ok (.ifCond .ne 20, 3) := by decide +kernel
theorem dX10_out_57 : decode cX10_out 57 = .ok (.aload_n 0, 1) := by decide +kernel
theorem dX10_out_58 : decode cX10_out 58 = .ok (.getfield 58, 3) := by decide +kernel
theorem dX10_out_61 : decode cX10_out 61 = .ok (.iload_n 1, 1) := by decide +kernel
theorem dX10_out_62 : decode cX10_out 62 = .ok (.aload_n 0, 1) := by decide +kernel
theorem dX10_out_63 : decode cX10_out 63 = .ok (.getfield 114, 3) := by decide +kernel
theorem dX10_out_66 : decode cX10_out 66 = .ok (.invokevirtual 215, 3) := by decide +kernel
theorem dX10_out_69 : decode cX10_out 69 = .ok (.aload_n 0, 1) := by decide +kernel
theorem dX10_out_70 : decode cX10_out 70 = .ok (.invokevirtual 160, 3) := by decide +kernel
theorem dX10_out_73 : decode cX10_out 73 = .ok (.ireturn, 1) := by decide +kernel
theorem dX10_out_74 : decode cX10_out 74 = .ok (.aload_n 0, 1) := by decide +kernel
theorem dX10_out_75 : decode cX10_out 75 = .ok (.getfield 58, 3) := by decide +kernel
theorem dX10_out_78 : decode cX10_out 78 = .ok (.getfield 218, 3) := by decide +kernel
theorem dX10_out_81 : decode cX10_out 81 = .ok (.iload_n 1, 1) := by decide +kernel
theorem dX10_out_82 : decode cX10_out 82 = .ok (.iaload, 1) := by decide +kernel
theorem dX10_out_83 : decode cX10_out 83 = .ok (.bipush 20, 2) := by decide +kernel
theorem dX10_out_85 : decode cX10_out 85 = .ok (.if_icmp .lt 9, 3) := by decide +kernel
theorem dX10_out_88 : decode cX10_out 88 = .ok (.aload_n 0, 1) := by decide +kernel
theorem dX10_out_89 : decode cX10_out 89 = .ok (.iconst 3, 1) := by decide +kernel
theorem dX10_out_90 : decode cX10_out 90 = .ok (.invokevirtual 140, 3) := by decide +kernel
theorem dX10_out_93 : decode cX10_out 93 = .ok (.ireturn, 1) := by decide +kernel
theorem dX10_out_94 : decode cX10_out 94 = .ok (.aload_n 0, 1) := by decide +kernel
theorem dX10_out_95 : decode cX10_out 95 = .ok (.getfield 58, 3) := by decide +kernel
theorem dX10_out_98 : decode cX10_out 98 = .ok (.iload_n 1, 1) := by decide +kernel
theorem dX10_out_99 : decode cX10_out 99 = .ok (.aload_n 0, 1) := by decide +kernel
theorem dX10_out_100 : decode cX10_out 100 = .ok (.getfield 114, 3) := by decide +kernel
theorem dX10_out_103 : decode cX10_out 103 = .ok (.invokevirtual 221, 3) := by decide +kernel
theorem dX10_out_106 : decode cX10_out 106 = .ok (.aload_n 0, 1) := by decide +kernel
theorem dX10_out_107 : decode cX10_out 107 = .ok (.invokevirtual 160, 3) := by decide +kernel
theorem dX10_out_110 : decode cX10_out 110 = .ok (.ireturn, 1) := by decide +kernel
theorem dX10_clock_0 : decode cX10_clock 0 = .ok (.aload_n 0, 1) := by decide +kernel
theorem dX10_clock_1 : decode cX10_clock 1 = .ok (.iload_n 1, 1) := by decide +kernel
theorem dX10_clock_2 : decode cX10_clock 2 = .ok (.invokevirtual 183, 3) := by decide +kernel
theorem dX10_clock_5 : decode cX10_clock 5 = .ok (.istore_n 2, 1) := by decide +kernel
theorem dX10_clock_6 : decode cX10_clock 6 = .ok (.iload_n 2, 1) := by decide +kernel
theorem dX10_clock_7 : decode cX10_clock 7 = .ok (.ifCond .ne 10, 3) := by decide +kernel
theorem dX10_clock_10 : decode cX10_clock 10 = .ok (.aload_n 0, 1) := by decide +kernel
theorem dX10_clock_11 : decode cX10_clock 11 = .ok (.invokevirtual 160, 3) := by decide +kernel
theorem dX10_clock_14 : decode cX10_clock 14 = .ok (.goto 8, 3) := by decide +kernel
theorem dX10_clock_17 : decode cX10_clock 17 = .ok (.aload_n 0, 1) := by decide +kernel
theorem dX10_clock_18 : decode cX10_clock 18 = .ok (.iload_n 2, 1) := by decide +kernel
theorem dX10_clock_19 : decode cX10_clock 19 = .ok (.invokevirtual 140, 3) := by decide +kernel
theorem dX10_clock_22 : decode cX10_clock 22 = .ok (.ireturn, 1) := by decide +kernel
theorem dX10_now_0 : decode cX10_now 0 = .ok (.aload_n 0, 1) := by decide +kernel
theorem dX10_now_1 : decode cX10_now 1 = .ok (.aload_n 0, 1) := by decide +kernel
theorem dX10_now_2 : decode cX10_now 2 = .ok (.getfield 114, 3) := by decide +kernel
theorem dX10_now_5 : decode cX10_now 5 = .ok (.invokevirtual 120, 3) := by decide +kernel
theorem dX10_now_8 : decode cX10_now 8 = .ok (.ireturn, 1) := by decide +kernel
theorem dX10_tried_0 : decode cX10_tried 0 = .ok (.aload_n 0, 1) := by decide +kernel
theorem dX10_tried_1 : decode cX10_tried 1 = .ok (.getfield 44, 3) := by decide +kernel
theorem dX10_tried_4 : decode cX10_tried 4 = .ok (.iload_n 1, 1) := by decide +kernel
theorem dX10_tried_5 : decode cX10_tried 5 = .ok (.invokevirtual 224, 3) := by decide +kernel
theorem dX10_tried_8 : decode cX10_tried 8 = .ok (.ifCond .ne 9, 3) := by decide +kernel
theorem dX10_tried_11 : decode cX10_tried 11 = .ok (.aload_n 0, 1) := by decide +kernel
theorem dX10_tried_12 : decode cX10_tried 12 = .ok (.iconst 1, 1) := by decide +kernel
theorem dX10_tried_13 : decode cX10_tried 13 = .ok (.invokevirtual 88, 3) := by decide +kernel
theorem dX10_tried_16 : decode cX10_tried 16 = .ok (.ireturn, 1) := by decide +kernel
theorem dX10_tried_17 : decode cX10_tried 17 = .ok (.iload_n 2, 1) := by decide +kernel
theorem dX10_tried_18 : decode cX10_tried 18 = .ok (.tableswitch 140 0 6 #[42, 56, 70, 84, 98, 112, 126], 42) := by decide +kernel
theorem dX10_tried_60 : decode cX10_tried 60 = .ok (.aload_n 0, 1) := by decide +kernel
theorem dX10_tried_61 : decode cX10_tried 61 = .ok (.aload_n 0, 1) := by decide +kernel
theorem dX10_tried_62 : decode cX10_tried 62 = .ok (.getfield 44, 3) := by decide +kernel
theorem dX10_tried_65 : decode cX10_tried 65 = .ok (.getfield 225, 3) := by decide +kernel
theorem dX10_tried_68 : decode cX10_tried 68 = .ok (.iload_n 1, 1) := by decide +kernel
theorem dX10_tried_69 : decode cX10_tried 69 = .ok (.iaload, 1) := by decide +kernel
theorem dX10_tried_70 : decode cX10_tried 70 = .ok (.invokevirtual 120, 3) := by decide +kernel
theorem dX10_tried_73 : decode cX10_tried 73 = .ok (.ireturn, 1) := by decide +kernel
theorem dX10_tried_74 : decode cX10_tried 74 = .ok (.aload_n 0, 1) := by decide +kernel
theorem dX10_tried_75 : decode cX10_tried 75 = .ok (.aload_n 0, 1) := by decide +kernel
theorem dX10_tried_76 : decode cX10_tried 76 = .ok (.getfield 44, 3) := by decide +kernel
theorem dX10_tried_79 : decode cX10_tried 79 = .ok (.getfield 200, 3) := by decide +kernel
theorem dX10_tried_82 : decode cX10_tried 82 = .ok (.iload_n 1, 1) := by decide +kernel
theorem dX10_tried_83 : decode cX10_tried 83 = .ok (.iaload, 1) := by decide +kernel
theorem dX10_tried_84 : decode cX10_tried 84 = .ok (.invokevirtual 120, 3) := by decide +kernel
theorem dX10_tried_87 : decode cX10_tried 87 = .ok (.ireturn, 1) := by decide +kernel
theorem dX10_tried_88 : decode cX10_tried 88 = .ok (.aload_n 0, 1) := by decide +kernel
theorem dX10_tried_89 : decode cX10_tried 89 = .ok (.aload_n 0, 1) := by decide +kernel
theorem dX10_tried_90 : decode cX10_tried 90 = .ok (.getfield 44, 3) := by decide +kernel
theorem dX10_tried_93 : decode cX10_tried 93 = .ok (.getfield 203, 3) := by decide +kernel
theorem dX10_tried_96 : decode cX10_tried 96 = .ok (.iload_n 1, 1) := by decide +kernel
theorem dX10_tried_97 : decode cX10_tried 97 = .ok (.iaload, 1) := by decide +kernel
theorem dX10_tried_98 : decode cX10_tried 98 = .ok (.invokevirtual 120, 3) := by decide +kernel
theorem dX10_tried_101 : decode cX10_tried 101 = .ok (.ireturn, 1) := by decide +kernel
theorem dX10_tried_102 : decode cX10_tried 102 = .ok (.aload_n 0, 1) := by decide +kernel
theorem dX10_tried_103 : decode cX10_tried 103 = .ok (.aload_n 0, 1) := by decide +kernel
theorem dX10_tried_104 : decode cX10_tried 104 = .ok (.getfield 44, 3) := by decide +kernel
theorem dX10_tried_107 : decode cX10_tried 107 = .ok (.getfield 228, 3) := by decide +kernel
theorem dX10_tried_110 : decode cX10_tried 110 = .ok (.iload_n 1, 1) := by decide +kernel
theorem dX10_tried_111 : decode cX10_tried 111 = .ok (.iaload, 1) := by decide +kernel
theorem dX10_tried_112 : decode cX10_tried 112 = .ok (.invokevirtual 120, 3) := by decide +kernel
theorem dX10_tried_115 : decode cX10_tried 115 = .ok (.ireturn, 1) := by decide +kernel
theorem dX10_tried_116 : decode cX10_tried 116 = .ok (.aload_n 0, 1) := by decide +kernel
theorem dX10_tried_117 : decode cX10_tried 117 = .ok (.aload_n 0, 1) := by decide +kernel
theorem dX10_tried_118 : decode cX10_tried 118 = .ok (.getfield 44, 3) := by decide +kernel
theorem dX10_tried_121 : decode cX10_tried 121 = .ok (.getfield 231, 3) := by decide +kernel
theorem dX10_tried_124 : decode cX10_tried 124 = .ok (.iload_n 1, 1) := by decide +kernel
theorem dX10_tried_125 : decode cX10_tried 125 = .ok (.iaload, 1) := by decide +kernel
theorem dX10_tried_126 : decode cX10_tried 126 = .ok (.invokevirtual 120, 3) := by decide +kernel
theorem dX10_tried_129 : decode cX10_tried 129 = .ok (.ireturn, 1) := by decide +kernel
theorem dX10_tried_130 : decode cX10_tried 130 = .ok (.aload_n 0, 1) := by decide +kernel
theorem dX10_tried_131 : decode cX10_tried 131 = .ok (.aload_n 0, 1) := by decide +kernel
theorem dX10_tried_132 : decode cX10_tried 132 = .ok (.getfield 44, 3) := by decide +kernel
theorem dX10_tried_135 : decode cX10_tried 135 = .ok (.getfield 206, 3) := by decide +kernel
theorem dX10_tried_138 : decode cX10_tried 138 = .ok (.iload_n 1, 1) := by decide +kernel
theorem dX10_tried_139 : decode cX10_tried 139 = .ok (.iaload, 1) := by decide +kernel
theorem dX10_tried_140 : decode cX10_tried 140 = .ok (.invokevirtual 120, 3) := by decide +kernel
theorem dX10_tried_143 : decode cX10_tried 143 = .ok (.ireturn, 1) := by decide +kernel
theorem dX10_tried_144 : decode cX10_tried 144 = .ok (.aload_n 0, 1) := by decide +kernel
theorem dX10_tried_145 : decode cX10_tried 145 = .ok (.aload_n 0, 1) := by decide +kernel
theorem dX10_tried_146 : decode cX10_tried 146 = .ok (.getfield 44, 3) := by decide +kernel
theorem dX10_tried_149 : decode cX10_tried 149 = .ok (.getfield 234, 3) := by decide +kernel
theorem dX10_tried_152 : decode cX10_tried 152 = .ok (.iload_n 1, 1) := by decide +kernel
theorem dX10_tried_153 : decode cX10_tried 153 = .ok (.iaload, 1) := by decide +kernel
theorem dX10_tried_154 : decode cX10_tried 154 = .ok (.invokevirtual 120, 3) := by decide +kernel
theorem dX10_tried_157 : decode cX10_tried 157 = .ok (.ireturn, 1) := by decide +kernel
theorem dX10_tried_158 : decode cX10_tried 158 = .ok (.aload_n 0, 1) := by decide +kernel
theorem dX10_tried_159 : decode cX10_tried 159 = .ok (.iconst 2, 1) := by decide +kernel
theorem dX10_tried_160 : decode cX10_tried 160 = .ok (.invokevirtual 88, 3) := by decide +kernel
theorem dX10_tried_163 : decode cX10_tried 163 = .ok (.ireturn, 1) := by decide +kernel
theorem dX10_seen_0 : decode cX10_seen 0 = .ok (.aload_n 0, 1) := by decide +kernel
theorem dX10_seen_1 : decode cX10_seen 1 = .ok (.getfield 37, 3) := by decide +kernel
theorem dX10_seen_4 : decode cX10_seen 4 = .ok (.iload_n 1, 1) := by decide +kernel
theorem dX10_seen_5 : decode cX10_seen 5 = .ok (.invokevirtual 180, 3) := by decide +kernel
theorem dX10_seen_8 : decode cX10_seen 8 = .ok (.ifCond .eq 21, 3) := by decide +kernel
theorem dX10_seen_11 : decode cX10_seen 11 = .ok (.aload_n 0, 1) := by decide +kernel
theorem dX10_seen_12 : decode cX10_seen 12 = .ok (.getfield 16, 3) := by decide +kernel
theorem dX10_seen_15 : decode cX10_seen 15 = .ok (.aload_n 0, 1) := by decide +kernel
theorem dX10_seen_16 : decode cX10_seen 16 = .ok (.getfield 37, 3) := by decide +kernel
theorem dX10_seen_19 : decode cX10_seen 19 = .ok (.getfield 129, 3) := by decide +kernel
theorem dX10_seen_22 : decode cX10_seen 22 = .ok (.iload_n 2, 1) := by decide +kernel
theorem dX10_seen_23 : decode cX10_seen 23 = .ok (.invokevirtual 136, 3) := by decide +kernel
theorem dX10_seen_26 : decode cX10_seen 26 = .ok (.ifCond .ne 9, 3) := by decide +kernel
theorem dX10_seen_29 : decode cX10_seen 29 = .ok (.aload_n 0, 1) := by decide +kernel
theorem dX10_seen_30 : decode cX10_seen 30 = .ok (.iconst 1, 1) := by decide +kernel
theorem dX10_seen_31 : decode cX10_seen 31 = .ok (.invokevirtual 88, 3) := by decide +kernel
theorem dX10_seen_34 : decode cX10_seen 34 = .ok (.ireturn, 1) := by decide +kernel
theorem dX10_seen_35 : decode cX10_seen 35 = .ok (.aload_n 0, 1) := by decide +kernel
theorem dX10_seen_36 : decode cX10_seen 36 = .ok (.aload_n 0, 1) := by decide +kernel
theorem dX10_seen_37 : decode cX10_seen 37 = .ok (.iload_n 1, 1) := by decide +kernel
theorem dX10_seen_38 : decode cX10_seen 38 = .ok (.iload_n 2, 1) := by decide +kernel
theorem dX10_seen_39 : decode cX10_seen 39 = .ok (.invokevirtual 237, 3) := by decide +kernel
theorem dX10_seen_42 : decode cX10_seen 42 = .ok (.ifCond .eq 7, 3) := by decide +kernel
theorem dX10_seen_45 : decode cX10_seen 45 = .ok (.iconst 1, 1) := by decide +kernel
theorem dX10_seen_46 : decode cX10_seen 46 = .ok (.goto 4, 3) := by decide +kernel
theorem dX10_seen_49 : decode cX10_seen 49 = .ok (.iconst 0, 1) := by decide +kernel
theorem dX10_seen_50 : decode cX10_seen 50 = .ok (.invokevirtual 120, 3) := by decide +kernel
theorem dX10_seen_53 : decode cX10_seen 53 = .ok (.ireturn, 1) := by decide +kernel
theorem dX10_ready_0 : decode cX10_ready 0 = .ok (.aload_n 0, 1) := by decide +kernel
theorem dX10_ready_1 : decode cX10_ready 1 = .ok (.getfield 37, 3) := by decide +kernel
theorem dX10_ready_4 : decode cX10_ready 4 = .ok (.iload_n 1, 1) := by decide +kernel
theorem dX10_ready_5 : decode cX10_ready 5 = .ok (.invokevirtual 180, 3) := by decide +kernel
theorem dX10_ready_8 : decode cX10_ready 8 = .ok (.ifCond .ne 9, 3) := by decide +kernel
theorem dX10_ready_11 : decode cX10_ready 11 = .ok (.aload_n 0, 1) := by decide +kernel
theorem dX10_ready_12 : decode cX10_ready 12 = .ok (.iconst 1, 1) := by decide +kernel
theorem dX10_ready_13 : decode cX10_ready 13 = .ok (.invokevirtual 88, 3) := by decide +kernel
theorem dX10_ready_16 : decode cX10_ready 16 = .ok (.ireturn, 1) := by decide +kernel
theorem dX10_ready_17 : decode cX10_ready 17 = .ok (.aload_n 0, 1) := by decide +kernel
theorem dX10_ready_18 : decode cX10_ready 18 = .ok (.getfield 44, 3) := by decide +kernel
theorem dX10_ready_21 : decode cX10_ready 21 = .ok (.iload_n 1, 1) := by decide +kernel
theorem dX10_ready_22 : decode cX10_ready 22 = .ok (.invokevirtual 197, 3) := by decide +kernel
theorem dX10_ready_25 : decode cX10_ready 25 = .ok (.iconst (-1), 1) := by decide +kernel
theorem dX10_ready_26 : decode cX10_ready 26 = .ok (.if_icmp .eq 9, 3) := by decide +kernel
theorem dX10_ready_29 : decode cX10_ready 29 = .ok (.aload_n 0, 1) := by decide +kernel
theorem dX10_ready_30 : decode cX10_ready 30 = .ok (.iconst 5, 1) := by decide +kernel
theorem dX10_ready_31 : decode cX10_ready 31 = .ok (.invokevirtual 88, 3) := by decide +kernel
theorem dX10_ready_34 : decode cX10_ready 34 = .ok (.ireturn, 1) := by decide +kernel
theorem dX10_ready_35 : decode cX10_ready 35 = .ok (.aload_n 0, 1) := by decide +kernel
theorem dX10_ready_36 : decode cX10_ready 36 = .ok (.aload_n 0, 1) := by decide +kernel
theorem dX10_ready_37 : decode cX10_ready 37 = .ok (.getfield 114, 3) := by decide +kernel
theorem dX10_ready_40 : decode cX10_ready 40 = .ok (.aload_n 0, 1) := by decide +kernel
theorem dX10_ready_41 : decode cX10_ready 41 = .ok (.iload_n 1, 1) := by decide +kernel
theorem dX10_ready_42 : decode cX10_ready 42 = .ok (.invokevirtual 240, 3) := by decide +kernel
theorem dX10_ready_45 : decode cX10_ready 45 = .ok (.invokestatic 243, 3) := by decide +kernel
theorem dX10_ready_48 : decode cX10_ready 48 = .ok (.invokevirtual 120, 3) := by decide +kernel
theorem dX10_ready_51 : decode cX10_ready 51 = .ok (.ireturn, 1) := by decide +kernel
theorem dX10_appeal_0 : decode cX10_appeal 0 = .ok (.aload_n 0, 1) := by decide +kernel
theorem dX10_appeal_1 : decode cX10_appeal 1 = .ok (.getfield 44, 3) := by decide +kernel
theorem dX10_appeal_4 : decode cX10_appeal 4 = .ok (.iload_n 1, 1) := by decide +kernel
theorem dX10_appeal_5 : decode cX10_appeal 5 = .ok (.invokevirtual 224, 3) := by decide +kernel
theorem dX10_appeal_8 : decode cX10_appeal 8 = .ok (.ifCond .ne 9, 3) := by decide +kernel
theorem dX10_appeal_11 : decode cX10_appeal 11 = .ok (.aload_n 0, 1) := by decide +kernel
theorem dX10_appeal_12 : decode cX10_appeal 12 = .ok (.iconst 1, 1) := by decide +kernel
theorem dX10_appeal_13 : decode cX10_appeal 13 = .ok (.invokevirtual 140, 3) := by decide +kernel
theorem dX10_appeal_16 : decode cX10_appeal 16 = .ok (.ireturn, 1) := by decide +kernel
theorem dX10_appeal_17 : decode cX10_appeal 17 = .ok (.aload_n 0, 1) := by decide +kernel
theorem dX10_appeal_18 : decode cX10_appeal 18 = .ok (.getfield 30, 3) := by decide +kernel
theorem dX10_appeal_21 : decode cX10_appeal 21 = .ok (.aload_n 0, 1) := by decide +kernel
theorem dX10_appeal_22 : decode cX10_appeal 22 = .ok (.getfield 44, 3) := by decide +kernel
theorem dX10_appeal_25 : decode cX10_appeal 25 = .ok (.getfield 200, 3) := by decide +kernel
theorem dX10_appeal_28 : decode cX10_appeal 28 = .ok (.iload_n 1, 1) := by decide +kernel
theorem dX10_appeal_29 : decode cX10_appeal 29 = .ok (.iaload, 1) := by decide +kernel
theorem dX10_appeal_30 : decode cX10_appeal 30 = .ok (.aload_n 0, 1) := by decide +kernel
theorem dX10_appeal_31 : decode cX10_appeal 31 = .ok (.getfield 44, 3) := by decide +kernel
theorem dX10_appeal_34 : decode cX10_appeal 34 = .ok (.getfield 203, 3) := by decide +kernel
theorem dX10_appeal_37 : decode cX10_appeal 37 = .ok (.iload_n 1, 1) := by decide +kernel
theorem dX10_appeal_38 : decode cX10_appeal 38 = .ok (.iaload, 1) := by decide +kernel
theorem dX10_appeal_39 : decode cX10_appeal 39 = .ok (.invokevirtual 173, 3) := by decide +kernel
theorem dX10_appeal_42 : decode cX10_appeal 42 = .ok (.istore 4, 2) := by decide +kernel
theorem dX10_appeal_44 : decode cX10_appeal 44 = .ok (.iload_n 2, 1) := by decide +kernel
theorem dX10_appeal_45 : decode cX10_appeal 45 = .ok (.ifCond .lt 16, 3) := by decide +kernel
theorem dX10_appeal_48 : decode cX10_appeal 48 = .ok (.iload_n 2, 1) := by decide +kernel
theorem dX10_appeal_49 : decode cX10_appeal 49 = .ok (.iload 4, 2) := by decide +kernel
theorem dX10_appeal_51 : decode cX10_appeal 51 = .ok (.if_icmp .gt 10, 3) := by decide +kernel
theorem dX10_appeal_54 : decode cX10_appeal 54 = .ok (.iload_n 3, 1) := by decide +kernel
theorem dX10_appeal_55 : decode cX10_appeal 55 = .ok (.invokestatic 248, 3) := by decide +kernel
theorem dX10_appeal_58 : decode cX10_appeal 58 = .ok (.ifCond .ne 9, 3) := by decide +kernel
theorem dX10_appeal_61 : decode cX10_appeal 61 = .ok (.aload_n 0, 1) := by decide +kernel
theorem dX10_appeal_62 : decode cX10_appeal 62 = .ok (.iconst 2, 1) := by decide +kernel
theorem dX10_appeal_63 : decode cX10_appeal 63 = .ok (.invokevirtual 140, 3) := by decide +kernel
theorem dX10_appeal_66 : decode cX10_appeal 66 = .ok (.ireturn, 1) := by decide +kernel
theorem dX10_appeal_67 : decode cX10_appeal 67 = .ok (.aload_n 0, 1) := by decide +kernel
theorem dX10_appeal_68 : decode cX10_appeal 68 = .ok (.getfield 44, 3) := by decide +kernel
theorem dX10_appeal_71 : decode cX10_appeal 71 = .ok (.getfield 234, 3) := by decide +kernel
theorem dX10_appeal_74 : decode cX10_appeal 74 = .ok (.iload_n 1, 1) := by decide +kernel
theorem dX10_appeal_75 : decode cX10_appeal 75 = .ok (.iaload, 1) := by decide +kernel
theorem dX10_appeal_76 : decode cX10_appeal 76 = .ok (.ifCond .eq 16, 3) := by decide +kernel
theorem dX10_appeal_79 : decode cX10_appeal 79 = .ok (.aload_n 0, 1) := by decide +kernel
theorem dX10_appeal_80 : decode cX10_appeal 80 = .ok (.getfield 44, 3) := by decide +kernel
theorem dX10_appeal_83 : decode cX10_appeal 83 = .ok (.getfield 234, 3) := by decide +kernel
theorem dX10_appeal_86 : decode cX10_appeal 86 = .ok (.iload_n 1, 1) := by decide +kernel
theorem dX10_appeal_87 : decode cX10_appeal 87 = .ok (.iaload, 1) := by decide +kernel
theorem dX10_appeal_88 : decode cX10_appeal 88 = .ok (.iconst 4, 1) := by decide +kernel
theorem dX10_appeal_89 : decode cX10_appeal 89 = .ok (.if_icmp .ne 10, 3) := by decide +kernel
theorem dX10_appeal_92 : decode cX10_appeal 92 = .ok (.aload_n 0, 1) := by decide +kernel
theorem dX10_appeal_93 : decode cX10_appeal 93 = .ok (.bipush 10, 2) := by decide +kernel
theorem dX10_appeal_95 : decode cX10_appeal 95 = .ok (.invokevirtual 140, 3) := by decide +kernel
theorem dX10_appeal_98 : decode cX10_appeal 98 = .ok (.ireturn, 1) := by decide +kernel
theorem dX10_appeal_99 : decode cX10_appeal 99 = .ok (.aload_n 0, 1) := by decide +kernel
theorem dX10_appeal_100 : decode cX10_appeal 100 = .ok (.getfield 51, 3) := by decide +kernel
theorem dX10_appeal_103 : decode cX10_appeal 103 = .ok (.getfield 251, 3) := by decide +kernel
theorem dX10_appeal_106 : decode cX10_appeal 106 = .ok (.bipush 40, 2) := by decide +kernel
theorem dX10_appeal_108 : decode cX10_appeal 108 = .ok (.if_icmp .lt 9, 3) := by decide +kernel
theorem dX10_appeal_111 : decode cX10_appeal 111 = .ok (.aload_n 0, 1) := by decide +kernel
theorem dX10_appeal_112 : decode cX10_appeal 112 = .ok (.iconst 3, 1) := by decide +kernel
theorem dX10_appeal_113 : decode cX10_appeal 113 = .ok (.invokevirtual 140, 3) := by decide +kernel
theorem dX10_appeal_116 : decode cX10_appeal 116 = .ok (.ireturn, 1) := by decide +kernel
theorem dX10_appeal_117 : decode cX10_appeal 117 = .ok (.aload_n 0, 1) := by decide +kernel
theorem dX10_appeal_118 : decode cX10_appeal 118 = .ok (.getfield 51, 3) := by decide +kernel
theorem dX10_appeal_121 : decode cX10_appeal 121 = .ok (.iload_n 1, 1) := by decide +kernel
theorem dX10_appeal_122 : decode cX10_appeal 122 = .ok (.iload_n 2, 1) := by decide +kernel
theorem dX10_appeal_123 : decode cX10_appeal 123 = .ok (.iload_n 3, 1) := by decide +kernel
theorem dX10_appeal_124 : decode cX10_appeal 124 = .ok (.invokevirtual 252, 3) := by decide +kernel
theorem dX10_appeal_127 : decode cX10_appeal 127 = .ok (.aload_n 0, 1) := by decide +kernel
theorem dX10_appeal_128 : decode cX10_appeal 128 = .ok (.invokevirtual 160, 3) := by decide +kernel
theorem dX10_appeal_131 : decode cX10_appeal 131 = .ok (.ireturn, 1) := by decide +kernel
theorem dX10_of_0 : decode cX10_of 0 = .ok (.aload_n 0, 1) := by decide +kernel
theorem dX10_of_1 : decode cX10_of 1 = .ok (.getfield 16, 3) := by decide +kernel
theorem dX10_of_4 : decode cX10_of 4 = .ok (.iload_n 1, 1) := by decide +kernel
theorem dX10_of_5 : decode cX10_of 5 = .ok (.iload_n 2, 1) := by decide +kernel
theorem dX10_of_6 : decode cX10_of 6 = .ok (.invokevirtual 136, 3) := by decide +kernel
theorem dX10_of_9 : decode cX10_of 9 = .ok (.ifCond .eq 14, 3) := by decide +kernel
theorem dX10_of_12 : decode cX10_of 12 = .ok (.aload_n 0, 1) := by decide +kernel
theorem dX10_of_13 : decode cX10_of 13 = .ok (.getfield 37, 3) := by decide +kernel
theorem dX10_of_16 : decode cX10_of 16 = .ok (.iload_n 3, 1) := by decide +kernel
theorem dX10_of_17 : decode cX10_of 17 = .ok (.invokevirtual 180, 3) := by decide +kernel
theorem dX10_of_20 : decode cX10_of 20 = .ok (.ifCond .ne 9, 3) := by decide +kernel
theorem dX10_of_23 : decode cX10_of 23 = .ok (.aload_n 0, 1) := by decide +kernel
theorem dX10_of_24 : decode cX10_of 24 = .ok (.iconst 1, 1) := by decide +kernel
theorem dX10_of_25 : decode cX10_of 25 = .ok (.invokevirtual 88, 3) := by decide +kernel
theorem dX10_of_28 : decode cX10_of 28 = .ok (.ireturn, 1) := by decide +kernel
theorem dX10_of_29 : decode cX10_of 29 = .ok (.iload 4, 2) := by decide +kernel
theorem dX10_of_31 : decode cX10_of 31 = .ok (.invokestatic 248, 3) := by decide +kernel
theorem dX10_of_34 : decode cX10_of 34 = .ok (.ifCond .eq 15, 3) := by decide +kernel
theorem dX10_of_37 : decode cX10_of 37 = .ok (.iload 5, 2) := by decide +kernel
theorem dX10_of_39 : decode cX10_of 39 = .ok (.ifCond .lt 10, 3) := by decide +kernel
theorem dX10_of_42 : decode cX10_of 42 = .ok (.iload 5, 2) := by decide +kernel
theorem dX10_of_44 : decode cX10_of 44 = .ok (.bipush 6, 2) := by decide +kernel
theorem dX10_of_46 : decode cX10_of 46 = .ok (.if_icmp .le 9, 3) := by decide +kernel
theorem dX10_of_49 : decode cX10_of 49 = .ok (.aload_n 0, 1) := by decide +kernel
theorem dX10_of_50 : decode cX10_of 50 = .ok (.iconst 2, 1) := by decide +kernel
theorem dX10_of_51 : decode cX10_of 51 = .ok (.invokevirtual 88, 3) := by decide +kernel
theorem dX10_of_54 : decode cX10_of 54 = .ok (.ireturn, 1) := by decide +kernel
theorem dX10_of_55 : decode cX10_of 55 = .ok (.aload_n 0, 1) := by decide +kernel
theorem dX10_of_56 : decode cX10_of 56 = .ok (.getfield 67, 3) := by decide +kernel
theorem dX10_of_59 : decode cX10_of 59 = .ok (.iload 4, 2) := by decide +kernel
theorem dX10_of_61 : decode cX10_of 61 = .ok (.invokevirtual 255, 3) := by decide +kernel
theorem dX10_of_64 : decode cX10_of 64 = .ok (.aload_n 0, 1) := by decide +kernel
theorem dX10_of_65 : decode cX10_of 65 = .ok (.getfield 67, 3) := by decide +kernel
theorem dX10_of_68 : decode cX10_of 68 = .ok (.iload_n 1, 1) := by decide +kernel
theorem dX10_of_69 : decode cX10_of 69 = .ok (.iload_n 3, 1) := by decide +kernel
theorem dX10_of_70 : decode cX10_of 70 = .ok (.iload_n 2, 1) := by decide +kernel
theorem dX10_of_71 : decode cX10_of 71 = .ok (.invokevirtual 258, 3) := by decide +kernel
theorem dX10_of_74 : decode cX10_of 74 = .ok (.aload_n 0, 1) := by decide +kernel
theorem dX10_of_75 : decode cX10_of 75 = .ok (.iload 5, 2) := by decide +kernel
theorem dX10_of_77 : decode cX10_of 77 = .ok (.bipush 6, 2) := by decide +kernel
theorem dX10_of_79 : decode cX10_of 79 = .ok (.if_icmp .ne 20, 3) := by decide +kernel
theorem dX10_of_82 : decode cX10_of 82 = .ok (.aload_n 0, 1) := by decide +kernel
theorem dX10_of_83 : decode cX10_of 83 = .ok (.getfield 16, 3) := by decide +kernel
theorem dX10_of_86 : decode cX10_of 86 = .ok (.aload_n 0, 1) := by decide +kernel
theorem dX10_of_87 : decode cX10_of 87 = .ok (.getfield 67, 3) := by decide +kernel
theorem dX10_of_90 : decode cX10_of 90 = .ok (.getfield 261, 3) := by decide +kernel
theorem dX10_of_93 : decode cX10_of 93 = .ok (.invokevirtual 264, 3) := by decide +kernel
theorem dX10_of_96 : decode cX10_of 96 = .ok (.goto 13, 3) := by decide +kernel
theorem dX10_of_99 : decode cX10_of 99 = .ok (.aload_n 0, 1) := by decide +kernel
theorem dX10_of_100 : decode cX10_of 100 = .ok (.getfield 67, 3) := by decide +kernel
theorem dX10_of_103 : decode cX10_of 103 = .ok (.getfield 261, 3) := by decide +kernel
theorem dX10_of_106 : decode cX10_of 106 = .ok (.iload 5, 2) := by decide +kernel
theorem dX10_of_108 : decode cX10_of 108 = .ok (.iaload, 1) := by decide +kernel
theorem dX10_of_109 : decode cX10_of 109 = .ok (.invokevirtual 120, 3) := by decide +kernel
theorem dX10_of_112 : decode cX10_of 112 = .ok (.ireturn, 1) := by decide +kernel
theorem dX10_key_0 : decode cX10_key 0 = .ok (.aload_n 0, 1) := by decide +kernel
theorem dX10_key_1 : decode cX10_key 1 = .ok (.getfield 16, 3) := by decide +kernel
theorem dX10_key_4 : decode cX10_key 4 = .ok (.iload_n 1, 1) := by decide +kernel
theorem dX10_key_5 : decode cX10_key 5 = .ok (.invokevirtual 164, 3) := by decide +kernel
theorem dX10_key_8 : decode cX10_key 8 = .ok (.ifCond .eq 32, 3) := by decide +kernel
theorem dX10_key_11 : decode cX10_key 11 = .ok (.aload_n 0, 1) := by decide +kernel
theorem dX10_key_12 : decode cX10_key 12 = .ok (.getfield 37, 3) := by decide +kernel
theorem dX10_key_15 : decode cX10_key 15 = .ok (.iload_n 1, 1) := by decide +kernel
theorem dX10_key_16 : decode cX10_key 16 = .ok (.iload_n 2, 1) := by decide +kernel
theorem dX10_key_17 : decode cX10_key 17 = .ok (.invokevirtual 268, 3) := by decide +kernel
theorem dX10_key_20 : decode cX10_key 20 = .ok (.ifCond .eq 20, 3) := by decide +kernel
theorem dX10_key_23 : decode cX10_key 23 = .ok (.iload 4, 2) := by decide +kernel
theorem dX10_key_25 : decode cX10_key 25 = .ok (.ifCond .lt 15, 3) := by decide +kernel
theorem dX10_key_28 : decode cX10_key 28 = .ok (.iload 4, 2) := by decide +kernel
theorem dX10_key_30 : decode cX10_key 30 = .ok (.aload_n 0, 1) := by decide +kernel
theorem dX10_key_31 : decode cX10_key 31 = .ok (.getfield 16, 3) := by decide +kernel
theorem dX10_key_34 : decode cX10_key 34 = .ok (.getfield 271, 3) := by decide +kernel
theorem dX10_key_37 : decode cX10_key 37 = .ok (.if_icmp .lt 10, 3) := by decide +kernel
theorem dX10_key_40 : decode cX10_key 40 = .ok (.aload_n 0, 1) := by decide +kernel
theorem dX10_key_41 : decode cX10_key 41 = .ok (.iconst 1, 1) := by decide +kernel
theorem dX10_key_42 : decode cX10_key 42 = .ok (.invokevirtual 88, 3) := by decide +kernel
theorem dX10_key_45 : decode cX10_key 45 = .ok (.i2l, 1) := by decide +kernel
theorem dX10_key_46 : decode cX10_key 46 = .ok (.lreturn, 1) := by decide +kernel
theorem dX10_key_47 : decode cX10_key 47 = .ok (.iload_n 3, 1) := by decide +kernel
theorem dX10_key_48 : decode cX10_key 48 = .ok (.invokestatic 248, 3) := by decide +kernel
theorem dX10_key_51 : decode cX10_key 51 = .ok (.ifCond .ne 10, 3) := by decide +kernel
theorem dX10_key_54 : decode cX10_key 54 = .ok (.aload_n 0, 1) := by decide +kernel
theorem dX10_key_55 : decode cX10_key 55 = .ok (.iconst 2, 1) := by decide +kernel
theorem dX10_key_56 : decode cX10_key 56 = .ok (.invokevirtual 88, 3) := by decide +kernel
theorem dX10_key_59 : decode cX10_key 59 = .ok (.i2l, 1) := by decide +kernel
theorem dX10_key_60 : decode cX10_key 60 = .ok (.lreturn, 1) := by decide +kernel
theorem dX10_key_61 : decode cX10_key 61 = .ok (.aload_n 0, 1) := by decide +kernel
theorem dX10_key_62 : decode cX10_key 62 = .ok (.getfield 67, 3) := by decide +kernel
theorem dX10_key_65 : decode cX10_key 65 = .ok (.iload_n 3, 1) := by decide +kernel
theorem dX10_key_66 : decode cX10_key 66 = .ok (.invokevirtual 255, 3) := by decide +kernel
theorem dX10_key_69 : decode cX10_key 69 = .ok (.aload_n 0, 1) := by decide +kernel
theorem dX10_key_70 : decode cX10_key 70 = .ok (.getfield 67, 3) := by decide +kernel
theorem dX10_key_73 : decode cX10_key 73 = .ok (.iload_n 1, 1) := by decide +kernel
theorem dX10_key_74 : decode cX10_key 74 = .ok (.iload_n 2, 1) := by decide +kernel
theorem dX10_key_75 : decode cX10_key 75 = .ok (.invokevirtual 274, 3) := by decide +kernel
theorem dX10_key_78 : decode cX10_key 78 = .ok (.aload_n 0, 1) := by decide +kernel
theorem dX10_key_79 : decode cX10_key 79 = .ok (.iconst 0, 1) := by decide +kernel
theorem dX10_key_80 : decode cX10_key 80 = .ok (.putfield 71, 3) := by decide +kernel
theorem dX10_key_83 : decode cX10_key 83 = .ok (.aload_n 0, 1) := by decide +kernel
theorem dX10_key_84 : decode cX10_key 84 = .ok (.getfield 67, 3) := by decide +kernel
theorem dX10_key_87 : decode cX10_key 87 = .ok (.iload_n 1, 1) := by decide +kernel
theorem dX10_key_88 : decode cX10_key 88 = .ok (.iload_n 2, 1) := by decide +kernel
theorem dX10_key_89 : decode cX10_key 89 = .ok (.iload 4, 2) := by decide +kernel
theorem dX10_key_91 : decode cX10_key 91 = .ok (.invokevirtual 277, 3) := by decide +kernel
theorem dX10_key_94 : decode cX10_key 94 = .ok (.lreturn, 1) := by decide +kernel
theorem dX10_rank_0 : decode cX10_rank 0 = .ok (.aload_n 0, 1) := by decide +kernel
theorem dX10_rank_1 : decode cX10_rank 1 = .ok (.getfield 16, 3) := by decide +kernel
theorem dX10_rank_4 : decode cX10_rank 4 = .ok (.iload_n 1, 1) := by decide +kernel
theorem dX10_rank_5 : decode cX10_rank 5 = .ok (.invokevirtual 164, 3) := by decide +kernel
theorem dX10_rank_8 : decode cX10_rank 8 = .ok (.ifCond .eq 15, 3) := by decide +kernel
theorem dX10_rank_11 : decode cX10_rank 11 = .ok (.aload_n 0, 1) := by decide +kernel
theorem dX10_rank_12 : decode cX10_rank 12 = .ok (.getfield 37, 3) := by decide +kernel
theorem dX10_rank_15 : decode cX10_rank 15 = .ok (.iload_n 1, 1) := by decide +kernel
theorem dX10_rank_16 : decode cX10_rank 16 = .ok (.iload_n 2, 1) := by decide +kernel
theorem dX10_rank_17 : decode cX10_rank 17 = .ok (.invokevirtual 268, 3) := by decide +kernel
theorem dX10_rank_20 : decode cX10_rank 20 = .ok (.ifCond .ne 9, 3) := by decide +kernel
theorem dX10_rank_23 : decode cX10_rank 23 = .ok (.aload_n 0, 1) := by decide +kernel
theorem dX10_rank_24 : decode cX10_rank 24 = .ok (.iconst 1, 1) := by decide +kernel
theorem dX10_rank_25 : decode cX10_rank 25 = .ok (.invokevirtual 88, 3) := by decide +kernel
theorem dX10_rank_28 : decode cX10_rank 28 = .ok (.ireturn, 1) := by decide +kernel
theorem dX10_rank_29 : decode cX10_rank 29 = .ok (.iload_n 3, 1) := by decide +kernel
theorem dX10_rank_30 : decode cX10_rank 30 = .ok (.invokestatic 248, 3) := by decide +kernel
theorem dX10_rank_33 : decode cX10_rank 33 = .ok (.ifCond .ne 9, 3) := by decide +kernel
theorem dX10_rank_36 : decode cX10_rank 36 = .ok (.aload_n 0, 1) := by decide +kernel
theorem dX10_rank_37 : decode cX10_rank 37 = .ok (.iconst 2, 1) := by decide +kernel
theorem dX10_rank_38 : decode cX10_rank 38 = .ok (.invokevirtual 88, 3) := by decide +kernel
theorem dX10_rank_41 : decode cX10_rank 41 = .ok (.ireturn, 1) := by decide +kernel
theorem dX10_rank_42 : decode cX10_rank 42 = .ok (.aload_n 0, 1) := by decide +kernel
theorem dX10_rank_43 : decode cX10_rank 43 = .ok (.getfield 67, 3) := by decide +kernel
theorem dX10_rank_46 : decode cX10_rank 46 = .ok (.iload_n 1, 1) := by decide +kernel
theorem dX10_rank_47 : decode cX10_rank 47 = .ok (.iload_n 3, 1) := by decide +kernel
theorem dX10_rank_48 : decode cX10_rank 48 = .ok (.invokevirtual 281, 3) := by decide +kernel
theorem dX10_rank_51 : decode cX10_rank 51 = .ok (.aload_n 0, 1) := by decide +kernel
theorem dX10_rank_52 : decode cX10_rank 52 = .ok (.aload_n 0, 1) := by decide +kernel
theorem dX10_rank_53 : decode cX10_rank 53 = .ok (.getfield 67, 3) := by decide +kernel
theorem dX10_rank_56 : decode cX10_rank 56 = .ok (.getfield 284, 3) := by decide +kernel
theorem dX10_rank_59 : decode cX10_rank 59 = .ok (.iload_n 2, 1) := by decide +kernel
theorem dX10_rank_60 : decode cX10_rank 60 = .ok (.iaload, 1) := by decide +kernel
theorem dX10_rank_61 : decode cX10_rank 61 = .ok (.invokevirtual 120, 3) := by decide +kernel
theorem dX10_rank_64 : decode cX10_rank 64 = .ok (.ireturn, 1) := by decide +kernel
theorem dX10_advance_0 : decode cX10_advance 0 = .ok (.iload_n 1, 1) := by decide +kernel
theorem dX10_advance_1 : decode cX10_advance 1 = .ok (.iconst 1, 1) := by decide +kernel
theorem dX10_advance_2 : decode cX10_advance 2 = .ok (.if_icmp .lt 16, 3) := by decide +kernel
theorem dX10_advance_5 : decode cX10_advance 5 = .ok (.iload_n 1, 1) := by decide +kernel
theorem dX10_advance_6 : decode cX10_advance 6 = .ok (.bipush 16, 2) := by decide +kernel
theorem dX10_advance_8 : decode cX10_advance 8 = .ok (.if_icmp .gt 10, 3) := by decide +kernel
theorem dX10_advance_11 : decode cX10_advance 11 = .ok (.iload_n 2, 1) := by decide +kernel
theorem dX10_advance_12 : decode cX10_advance 12 = .ok (.invokestatic 248, 3) := by decide +kernel
theorem dX10_advance_15 : decode cX10_advance 15 = .ok (.ifCond .ne 9, 3) := by decide +kernel
theorem dX10_advance_18 : decode cX10_advance 18 = .ok (.aload_n 0, 1) := by decide +kernel
theorem dX10_advance_19 : decode cX10_advance 19 = .ok (.iconst 2, 1) := by decide +kernel
theorem dX10_advance_20 : decode cX10_advance 20 = .ok (.invokevirtual 88, 3) := by decide +kernel
theorem dX10_advance_23 : decode cX10_advance 23 = .ok (.ireturn, 1) := by decide +kernel
theorem dX10_advance_24 : decode cX10_advance 24 = .ok (.aload_n 0, 1) := by decide +kernel
theorem dX10_advance_25 : decode cX10_advance 25 = .ok (.getfield 44, 3) := by decide +kernel
theorem dX10_advance_28 : decode cX10_advance 28 = .ok (.invokevirtual 287, 3) := by decide +kernel
theorem dX10_advance_31 : decode cX10_advance 31 = .ok (.ifCond .eq 9, 3) := by decide +kernel
theorem dX10_advance_34 : decode cX10_advance 34 = .ok (.aload_n 0, 1) := by decide +kernel
theorem dX10_advance_35 : decode cX10_advance 35 = .ok (.iconst 5, 1) := by decide +kernel
theorem dX10_advance_36 : decode cX10_advance 36 = .ok (.invokevirtual 88, 3) := by decide +kernel
theorem dX10_advance_39 : decode cX10_advance 39 = .ok (.ireturn, 1) := by decide +kernel
theorem dX10_advance_40 : decode cX10_advance 40 = .ok (.aload_n 0, 1) := by decide +kernel
theorem dX10_advance_41 : decode cX10_advance 41 = .ok (.getfield 37, 3) := by decide +kernel
theorem dX10_advance_44 : decode cX10_advance 44 = .ok (.getfield 123, 3) := by decide +kernel
theorem dX10_advance_47 : decode cX10_advance 47 = .ok (.ifCond .eq 22, 3) := by decide +kernel
theorem dX10_advance_50 : decode cX10_advance 50 = .ok (.aload_n 0, 1) := by decide +kernel
theorem dX10_advance_51 : decode cX10_advance 51 = .ok (.getfield 37, 3) := by decide +kernel
theorem dX10_advance_54 : decode cX10_advance 54 = .ok (.getfield 129, 3) := by decide +kernel
theorem dX10_advance_57 : decode cX10_advance 57 = .ok (.iconst 1, 1) := by decide +kernel
theorem dX10_advance_58 : decode cX10_advance 58 = .ok (.iadd, 1) := by decide +kernel
theorem dX10_advance_59 : decode cX10_advance 59 = .ok (.aload_n 0, 1) := by decide +kernel
theorem dX10_advance_60 : decode cX10_advance 60 = .ok (.getfield 16, 3) := by decide +kernel
theorem dX10_advance_63 : decode cX10_advance 63 = .ok (.getfield 117, 3) := by decide +kernel
theorem dX10_advance_66 : decode cX10_advance 66 = .ok (.if_icmp .lt 10, 3) := by decide +kernel
theorem dX10_advance_69 : decode cX10_advance 69 = .ok (.aload_n 0, 1) := by decide +kernel
theorem dX10_advance_70 : decode cX10_advance 70 = .ok (.bipush 10, 2) := by decide +kernel
theorem dX10_advance_72 : decode cX10_advance 72 = .ok (.invokevirtual 88, 3) := by decide +kernel
theorem dX10_advance_75 : decode cX10_advance 75 = .ok (.ireturn, 1) := by decide +kernel
theorem dX10_advance_76 : decode cX10_advance 76 = .ok (.aload_n 0, 1) := by decide +kernel
theorem dX10_advance_77 : decode cX10_advance 77 = .ok (.getfield 67, 3) := by decide +kernel
theorem dX10_advance_80 : decode cX10_advance 80 = .ok (.aload_n 0, 1) := by decide +kernel
theorem dX10_advance_81 : decode cX10_advance 81 = .ok (.getfield 37, 3) := by decide +kernel
theorem dX10_advance_84 : decode cX10_advance 84 = .ok (.getfield 129, 3) := by decide +kernel
theorem dX10_advance_87 : decode cX10_advance 87 = .ok (.iload_n 2, 1) := by decide +kernel
theorem dX10_advance_88 : decode cX10_advance 88 = .ok (.invokevirtual 281, 3) := by decide +kernel
theorem dX10_advance_91 : decode cX10_advance 91 = .ok (.aload_n 0, 1) := by decide +kernel
theorem dX10_advance_92 : decode cX10_advance 92 = .ok (.getfield 37, 3) := by decide +kernel
theorem dX10_advance_95 : decode cX10_advance 95 = .ok (.aload_n 0, 1) := by decide +kernel
theorem dX10_advance_96 : decode cX10_advance 96 = .ok (.getfield 67, 3) := by decide +kernel
theorem dX10_advance_99 : decode cX10_advance 99 = .ok (.getfield 284, 3) := by decide +kernel
theorem dX10_advance_102 : decode cX10_advance 102 = .ok (.iload_n 1, 1) := by decide +kernel
theorem dX10_advance_103 : decode cX10_advance 103 = .ok (.iload_n 2, 1) := by decide +kernel
theorem dX10_advance_104 : decode cX10_advance 104 = .ok (.invokevirtual 290, 3) := by decide +kernel
theorem dX10_advance_107 : decode cX10_advance 107 = .ok (.istore_n 3, 1) := by decide +kernel
theorem dX10_advance_108 : decode cX10_advance 108 = .ok (.aload_n 0, 1) := by decide +kernel
theorem dX10_advance_109 : decode cX10_advance 109 = .ok (.getfield 58, 3) := by decide +kernel
theorem dX10_advance_112 : decode cX10_advance 112 = .ok (.invokevirtual 113, 3) := by decide +kernel
theorem dX10_advance_115 : decode cX10_advance 115 = .ok (.aload_n 0, 1) := by decide +kernel
theorem dX10_advance_116 : decode cX10_advance 116 = .ok (.iload_n 3, 1) := by decide +kernel
theorem dX10_advance_117 : decode cX10_advance 117 = .ok (.invokevirtual 120, 3) := by decide +kernel
theorem dX10_advance_120 : decode cX10_advance 120 = .ok (.ireturn, 1) := by decide +kernel
theorem dX10_order_0 : decode cX10_order 0 = .ok (.aload_n 0, 1) := by decide +kernel
theorem dX10_order_1 : decode cX10_order 1 = .ok (.getfield 16, 3) := by decide +kernel
theorem dX10_order_4 : decode cX10_order 4 = .ok (.iload_n 1, 1) := by decide +kernel
theorem dX10_order_5 : decode cX10_order 5 = .ok (.invokevirtual 164, 3) := by decide +kernel
theorem dX10_order_8 : decode cX10_order 8 = .ok (.ifCond .eq 19, 3) := by decide +kernel
theorem dX10_order_11 : decode cX10_order 11 = .ok (.iload_n 2, 1) := by decide +kernel
theorem dX10_order_12 : decode cX10_order 12 = .ok (.ifCond .lt 15, 3) := by decide +kernel
theorem dX10_order_15 : decode cX10_order 15 = .ok (.iload_n 2, 1) := by decide +kernel
theorem dX10_order_16 : decode cX10_order 16 = .ok (.aload_n 0, 1) := by decide +kernel
theorem dX10_order_17 : decode cX10_order 17 = .ok (.getfield 37, 3) := by decide +kernel
theorem dX10_order_20 : decode cX10_order 20 = .ok (.iload_n 1, 1) := by decide +kernel
theorem dX10_order_21 : decode cX10_order 21 = .ok (.invokevirtual 167, 3) := by decide +kernel
theorem dX10_order_24 : decode cX10_order 24 = .ok (.if_icmp .lt 9, 3) := by decide +kernel
theorem dX10_order_27 : decode cX10_order 27 = .ok (.aload_n 0, 1) := by decide +kernel
theorem dX10_order_28 : decode cX10_order 28 = .ok (.iconst 1, 1) := by decide +kernel
theorem dX10_order_29 : decode cX10_order 29 = .ok (.invokevirtual 88, 3) := by decide +kernel
theorem dX10_order_32 : decode cX10_order 32 = .ok (.ireturn, 1) := by decide +kernel
theorem dX10_order_33 : decode cX10_order 33 = .ok (.iload_n 1, 1) := by decide +kernel
theorem dX10_order_34 : decode cX10_order 34 = .ok (.ifCond .ne 9, 3) := by decide +kernel
theorem dX10_order_37 : decode cX10_order 37 = .ok (.aload_n 0, 1) := by decide +kernel
theorem dX10_order_38 : decode cX10_order 38 = .ok (.iload_n 2, 1) := by decide +kernel
theorem dX10_order_39 : decode cX10_order 39 = .ok (.invokevirtual 120, 3) := by decide +kernel
theorem dX10_order_42 : decode cX10_order 42 = .ok (.ireturn, 1) := by decide +kernel
theorem dX10_order_43 : decode cX10_order 43 = .ok (.aload_n 0, 1) := by decide +kernel
theorem dX10_order_44 : decode cX10_order 44 = .ok (.getfield 67, 3) := by decide +kernel
theorem dX10_order_47 : decode cX10_order 47 = .ok (.iload_n 1, 1) := by decide +kernel
theorem dX10_order_48 : decode cX10_order 48 = .ok (.iconst 1, 1) := by decide +kernel
theorem dX10_order_49 : decode cX10_order 49 = .ok (.isub, 1) := by decide +kernel
theorem dX10_order_50 : decode cX10_order 50 = .ok (.aload_n 0, 1) := by decide +kernel
theorem dX10_order_51 : decode cX10_order 51 = .ok (.getfield 37, 3) := by decide +kernel
theorem dX10_order_54 : decode cX10_order 54 = .ok (.iload_n 1, 1) := by decide +kernel
theorem dX10_order_55 : decode cX10_order 55 = .ok (.invokevirtual 294, 3) := by decide +kernel
theorem dX10_order_58 : decode cX10_order 58 = .ok (.invokevirtual 281, 3) := by decide +kernel
theorem dX10_order_61 : decode cX10_order 61 = .ok (.aload_n 0, 1) := by decide +kernel
theorem dX10_order_62 : decode cX10_order 62 = .ok (.aload_n 0, 1) := by decide +kernel
theorem dX10_order_63 : decode cX10_order 63 = .ok (.getfield 67, 3) := by decide +kernel
theorem dX10_order_66 : decode cX10_order 66 = .ok (.iload_n 1, 1) := by decide +kernel
theorem dX10_order_67 : decode cX10_order 67 = .ok (.iload_n 2, 1) := by decide +kernel
theorem dX10_order_68 : decode cX10_order 68 = .ok (.invokevirtual 297, 3) := by decide +kernel
theorem dX10_order_71 : decode cX10_order 71 = .ok (.invokevirtual 120, 3) := by decide +kernel
theorem dX10_order_74 : decode cX10_order 74 = .ok (.ireturn, 1) := by decide +kernel
theorem dX10_parts_0 : decode cX10_parts 0 = .ok (.aload_n 0, 1) := by decide +kernel
theorem dX10_parts_1 : decode cX10_parts 1 = .ok (.getfield 16, 3) := by decide +kernel
theorem dX10_parts_4 : decode cX10_parts 4 = .ok (.iload_n 1, 1) := by decide +kernel
theorem dX10_parts_5 : decode cX10_parts 5 = .ok (.invokevirtual 164, 3) := by decide +kernel
theorem dX10_parts_8 : decode cX10_parts 8 = .ok (.ifCond .ne 9, 3) := by decide +kernel
theorem dX10_parts_11 : decode cX10_parts 11 = .ok (.aload_n 0, 1) := by decide +kernel
theorem dX10_parts_12 : decode cX10_parts 12 = .ok (.iconst 1, 1) := by decide +kernel
theorem dX10_parts_13 : decode cX10_parts 13 = .ok (.invokevirtual 88, 3) := by decide +kernel
theorem dX10_parts_16 : decode cX10_parts 16 = .ok (.ireturn, 1) := by decide +kernel
theorem dX10_parts_17 : decode cX10_parts 17 = .ok (.iload_n 2, 1) := by decide +kernel
theorem dX10_parts_18 : decode cX10_parts 18 = .ok (.ifCond .lt 25, 3) := by decide +kernel
theorem dX10_parts_21 : decode cX10_parts 21 = .ok (.iload_n 2, 1) := by decide +kernel
theorem dX10_parts_22 : decode cX10_parts 22 = .ok (.iconst 1, 1) := by decide +kernel
theorem dX10_parts_23 : decode cX10_parts 23 = .ok (.aload_n 0, 1) := by decide +kernel
theorem dX10_parts_24 : decode cX10_parts 24 = .ok (.getfield 16, 3) := by decide +kernel
theorem dX10_parts_27 : decode cX10_parts 27 = .ok (.iload_n 1, 1) := by decide +kernel
theorem dX10_parts_28 : decode cX10_parts 28 = .ok (.iconst 0, 1) := by decide +kernel
theorem dX10_parts_29 : decode cX10_parts 29 = .ok (.invokevirtual 170, 3) := by decide +kernel
theorem dX10_parts_32 : decode cX10_parts 32 = .ok (.ishl, 1) := by decide +kernel
theorem dX10_parts_33 : decode cX10_parts 33 = .ok (.if_icmp .ge 10, 3) := by decide +kernel
theorem dX10_parts_36 : decode cX10_parts 36 = .ok (.iload_n 3, 1) := by decide +kernel
theorem dX10_parts_37 : decode cX10_parts 37 = .ok (.invokestatic 248, 3) := by decide +kernel
theorem dX10_parts_40 : decode cX10_parts 40 = .ok (.ifCond .ne 9, 3) := by decide +kernel
theorem dX10_parts_43 : decode cX10_parts 43 = .ok (.aload_n 0, 1) := by decide +kernel
theorem dX10_parts_44 : decode cX10_parts 44 = .ok (.iconst 2, 1) := by decide +kernel
theorem dX10_parts_45 : decode cX10_parts 45 = .ok (.invokevirtual 88, 3) := by decide +kernel
theorem dX10_parts_48 : decode cX10_parts 48 = .ok (.ireturn, 1) := by decide +kernel
theorem dX10_parts_49 : decode cX10_parts 49 = .ok (.aload_n 0, 1) := by decide +kernel
theorem dX10_parts_50 : decode cX10_parts 50 = .ok (.getfield 67, 3) := by decide +kernel
theorem dX10_parts_53 : decode cX10_parts 53 = .ok (.iload_n 1, 1) := by decide +kernel
theorem dX10_parts_54 : decode cX10_parts 54 = .ok (.iload_n 3, 1) := by decide +kernel
theorem dX10_parts_55 : decode cX10_parts 55 = .ok (.invokevirtual 300, 3) := by decide +kernel
theorem dX10_parts_58 : decode cX10_parts 58 = .ok (.aload_n 0, 1) := by decide +kernel
theorem dX10_parts_59 : decode cX10_parts 59 = .ok (.aload_n 0, 1) := by decide +kernel
theorem dX10_parts_60 : decode cX10_parts 60 = .ok (.getfield 67, 3) := by decide +kernel
theorem dX10_parts_63 : decode cX10_parts 63 = .ok (.iload_n 1, 1) := by decide +kernel
theorem dX10_parts_64 : decode cX10_parts 64 = .ok (.iload_n 2, 1) := by decide +kernel
theorem dX10_parts_65 : decode cX10_parts 65 = .ok (.invokevirtual 303, 3) := by decide +kernel
theorem dX10_parts_68 : decode cX10_parts 68 = .ok (.invokevirtual 120, 3) := by decide +kernel
theorem dX10_parts_71 : decode cX10_parts 71 = .ok (.ireturn, 1) := by decide +kernel
theorem dX10_choose_0 : decode cX10_choose 0 = .ok (.aload_n 0, 1) := by decide +kernel
theorem dX10_choose_1 : decode cX10_choose 1 = .ok (.getfield 16, 3) := by decide +kernel
theorem dX10_choose_4 : decode cX10_choose 4 = .ok (.iload_n 1, 1) := by decide +kernel
theorem dX10_choose_5 : decode cX10_choose 5 = .ok (.invokevirtual 164, 3) := by decide +kernel
theorem dX10_choose_8 : decode cX10_choose 8 = .ok (.ifCond .ne 9, 3) := by decide +kernel
theorem dX10_choose_11 : decode cX10_choose 11 = .ok (.aload_n 0, 1) := by decide +kernel
theorem dX10_choose_12 : decode cX10_choose 12 = .ok (.iconst 1, 1) := by decide +kernel
theorem dX10_choose_13 : decode cX10_choose 13 = .ok (.invokevirtual 88, 3) := by decide +kernel
theorem dX10_choose_16 : decode cX10_choose 16 = .ok (.ireturn, 1) := by decide +kernel
theorem dX10_choose_17 : decode cX10_choose 17 = .ok (.aload_n 0, 1) := by decide +kernel
theorem dX10_choose_18 : decode cX10_choose 18 = .ok (.getfield 16, 3) := by decide +kernel
theorem dX10_choose_21 : decode cX10_choose 21 = .ok (.iload_n 1, 1) := by decide +kernel
theorem dX10_choose_22 : decode cX10_choose 22 = .ok (.iconst 0, 1) := by decide +kernel
theorem dX10_choose_23 : decode cX10_choose 23 = .ok (.invokevirtual 170, 3) := by decide +kernel
theorem dX10_choose_26 : decode cX10_choose 26 = .ok (.istore 4, 2) := by decide +kernel
theorem dX10_choose_28 : decode cX10_choose 28 = .ok (.iload_n 2, 1) := by decide +kernel
theorem dX10_choose_29 : decode cX10_choose 29 = .ok (.iconst 1, 1) := by decide +kernel
theorem dX10_choose_30 : decode cX10_choose 30 = .ok (.if_icmp .lt 16, 3) := by decide +kernel
theorem dX10_choose_33 : decode cX10_choose 33 = .ok (.iload_n 2, 1) := by decide +kernel
theorem dX10_choose_34 : decode cX10_choose 34 = .ok (.iload 4, 2) := by decide +kernel
theorem dX10_choose_36 : decode cX10_choose 36 = .ok (.if_icmp .gt 10, 3) := by decide +kernel
theorem dX10_choose_39 : decode cX10_choose 39 = .ok (.iload_n 3, 1) := by decide +kernel
theorem dX10_choose_40 : decode cX10_choose 40 = .ok (.invokestatic 248, 3) := by decide +kernel
theorem dX10_choose_43 : decode cX10_choose 43 = .ok (.ifCond .ne 9, 3) := by decide +kernel
theorem dX10_choose_46 : decode cX10_choose 46 = .ok (.aload_n 0, 1) := by decide +kernel
theorem dX10_choose_47 : decode cX10_choose 47 = .ok (.iconst 2, 1) := by decide +kernel
theorem dX10_choose_48 : decode cX10_choose 48 = .ok (.invokevirtual 88, 3) := by decide +kernel
theorem dX10_choose_51 : decode cX10_choose 51 = .ok (.ireturn, 1) := by decide +kernel
theorem dX10_choose_52 : decode cX10_choose 52 = .ok (.aload_n 0, 1) := by decide +kernel
theorem dX10_choose_53 : decode cX10_choose 53 = .ok (.getfield 67, 3) := by decide +kernel
theorem dX10_choose_56 : decode cX10_choose 56 = .ok (.iload_n 1, 1) := by decide +kernel
theorem dX10_choose_57 : decode cX10_choose 57 = .ok (.iload_n 3, 1) := by decide +kernel
theorem dX10_choose_58 : decode cX10_choose 58 = .ok (.invokevirtual 300, 3) := by decide +kernel
theorem dX10_choose_61 : decode cX10_choose 61 = .ok (.aload_n 0, 1) := by decide +kernel
theorem dX10_choose_62 : decode cX10_choose 62 = .ok (.aload_n 0, 1) := by decide +kernel
theorem dX10_choose_63 : decode cX10_choose 63 = .ok (.getfield 67, 3) := by decide +kernel
theorem dX10_choose_66 : decode cX10_choose 66 = .ok (.iload_n 1, 1) := by decide +kernel
theorem dX10_choose_67 : decode cX10_choose 67 = .ok (.iload 4, 2) := by decide +kernel
theorem dX10_choose_69 : decode cX10_choose 69 = .ok (.iload_n 2, 1) := by decide +kernel
theorem dX10_choose_70 : decode cX10_choose 70 = .ok (.invokevirtual 306, 3) := by decide +kernel
theorem dX10_choose_73 : decode cX10_choose 73 = .ok (.invokevirtual 120, 3) := by decide +kernel
theorem dX10_choose_76 : decode cX10_choose 76 = .ok (.ireturn, 1) := by decide +kernel
theorem dX10_putOnTape_0 : decode cX10_putOnTape 0 = .ok (.bipush 24, 2) := by decide +kernel
theorem dX10_putOnTape_2 : decode cX10_putOnTape 2 = .ok (.istore_n 2, 1) := by decide +kernel
theorem dX10_putOnTape_3 : decode cX10_putOnTape 3 = .ok (.iload_n 2, 1) := by decide +kernel
theorem dX10_putOnTape_4 : decode cX10_putOnTape 4 = .ok (.ifCond .lt 45, 3) := by decide +kernel
theorem dX10_putOnTape_7 : decode cX10_putOnTape 7 = .ok (.aload_n 0, 1) := by decide +kernel
theorem dX10_putOnTape_8 : decode cX10_putOnTape 8 = .ok (.getfield 81, 3) := by decide +kernel
theorem dX10_putOnTape_11 : decode cX10_putOnTape 11 = .ok (.sipush 700, 3) := by decide +kernel
theorem dX10_putOnTape_14 : decode cX10_putOnTape 14 = .ok (.if_icmp .ge 29, 3) := by decide +kernel
theorem dX10_putOnTape_17 : decode cX10_putOnTape 17 = .ok (.aload_n 0, 1) := by decide +kernel
theorem dX10_putOnTape_18 : decode cX10_putOnTape 18 = .ok (.getfield 9, 3) := by decide +kernel
theorem dX10_putOnTape_21 : decode cX10_putOnTape 21 = .ok (.aload_n 0, 1) := by decide +kernel
theorem dX10_putOnTape_22 : decode cX10_putOnTape 22 = .ok (.getfield 81, 3) := by decide +kernel
theorem dX10_putOnTape_25 : decode cX10_putOnTape 25 = .ok (.iload_n 1, 1) := by decide +kernel
theorem dX10_putOnTape_26 : decode cX10_putOnTape 26 = .ok (.iload_n 2, 1) := by decide +kernel
theorem dX10_putOnTape_27 : decode cX10_putOnTape 27 = .ok (.iushr, 1) := by decide +kernel
theorem dX10_putOnTape_28 : decode cX10_putOnTape 28 = .ok (.sipush 255, 3) := by decide +kernel
theorem dX10_putOnTape_31 : decode cX10_putOnTape 31 = .ok (.iand, 1) := by decide +kernel
theorem dX10_putOnTape_32 : decode cX10_putOnTape 32 = .ok (.iastore, 1) := by decide +kernel
theorem dX10_putOnTape_33 : decode cX10_putOnTape 33 = .ok (.aload_n 0, 1) := by decide +kernel
theorem dX10_putOnTape_34 : decode cX10_putOnTape 34 = .ok (.dup, 1) := by decide +kernel
theorem dX10_putOnTape_35 : decode cX10_putOnTape 35 = .ok (.getfield 81, 3) := by decide +kernel
theorem dX10_putOnTape_38 : decode cX10_putOnTape 38 = .ok (.iconst 1, 1) := by decide +kernel
theorem dX10_putOnTape_39 : decode cX10_putOnTape 39 = .ok (.iadd, 1) := by decide +kernel
theorem dX10_putOnTape_40 : decode cX10_putOnTape 40 = .ok (.putfield 81, 3) := by decide +kernel
theorem dX10_putOnTape_43 : decode cX10_putOnTape 43 = .ok (.iinc 2 (-8), 3) := by decide +kernel
theorem dX10_putOnTape_46 : decode cX10_putOnTape 46 = .ok (.goto (-43), 3) := by decide +kernel
theorem dX10_putOnTape_49 : decode cX10_putOnTape 49 = .ok (.return_, 1) := by decide +kernel
theorem dX10_passTo_0 : decode cX10_passTo 0 = .ok (.iload_n 1, 1) := by decide +kernel
theorem dX10_passTo_1 : decode cX10_passTo 1 = .ok (.ifCond .lt 10, 3) := by decide +kernel
theorem dX10_passTo_4 : decode cX10_passTo 4 = .ok (.iload_n 1, 1) := by decide +kernel
theorem dX10_passTo_5 : decode cX10_passTo 5 = .ok (.ldc_w 313, 3) := by decide +kernel
theorem dX10_passTo_8 : decode cX10_passTo 8 = .ok (.if_icmp .le 5, 3) := by decide +kernel
theorem dX10_passTo_11 : decode cX10_passTo 11 = .ok (.iconst 2, 1) := by decide +kernel
theorem dX10_passTo_12 : decode cX10_passTo 12 = .ok (.ireturn, 1) := by decide +kernel
theorem dX10_passTo_13 : decode cX10_passTo 13 = .ok (.iload_n 1, 1) := by decide +kernel
theorem dX10_passTo_14 : decode cX10_passTo 14 = .ok (.aload_n 0, 1) := by decide +kernel
theorem dX10_passTo_15 : decode cX10_passTo 15 = .ok (.getfield 114, 3) := by decide +kernel
theorem dX10_passTo_18 : decode cX10_passTo 18 = .ok (.if_icmp .ge 6, 3) := by decide +kernel
theorem dX10_passTo_21 : decode cX10_passTo 21 = .ok (.bipush 9, 2) := by decide +kernel
theorem dX10_passTo_23 : decode cX10_passTo 23 = .ok (.ireturn, 1) := by decide +kernel
theorem dX10_passTo_24 : decode cX10_passTo 24 = .ok (.aload_n 0, 1) := by decide +kernel
theorem dX10_passTo_25 : decode cX10_passTo 25 = .ok (.iload_n 1, 1) := by decide +kernel
theorem dX10_passTo_26 : decode cX10_passTo 26 = .ok (.putfield 114, 3) := by decide +kernel
theorem dX10_passTo_29 : decode cX10_passTo 29 = .ok (.aload_n 0, 1) := by decide +kernel
theorem dX10_passTo_30 : decode cX10_passTo 30 = .ok (.getfield 44, 3) := by decide +kernel
theorem dX10_passTo_33 : decode cX10_passTo 33 = .ok (.iload_n 1, 1) := by decide +kernel
theorem dX10_passTo_34 : decode cX10_passTo 34 = .ok (.aload_n 0, 1) := by decide +kernel
theorem dX10_passTo_35 : decode cX10_passTo 35 = .ok (.getfield 16, 3) := by decide +kernel
theorem dX10_passTo_38 : decode cX10_passTo 38 = .ok (.aload_n 0, 1) := by decide +kernel
theorem dX10_passTo_39 : decode cX10_passTo 39 = .ok (.getfield 37, 3) := by decide +kernel
theorem dX10_passTo_42 : decode cX10_passTo 42 = .ok (.getfield 129, 3) := by decide +kernel
theorem dX10_passTo_45 : decode cX10_passTo 45 = .ok (.iconst 2, 1) := by decide +kernel
theorem dX10_passTo_46 : decode cX10_passTo 46 = .ok (.invokevirtual 170, 3) := by decide +kernel
theorem dX10_passTo_49 : decode cX10_passTo 49 = .ok (.invokevirtual 314, 3) := by decide +kernel
theorem dX10_passTo_52 : decode cX10_passTo 52 = .ok (.iconst 0, 1) := by decide +kernel
theorem dX10_passTo_53 : decode cX10_passTo 53 = .ok (.ireturn, 1) := by decide +kernel
theorem dX10_whyNotBegin_0 : decode cX10_whyNotBegin 0 = .ok (.aload_n 0, 1) := by decide +kernel
theorem dX10_whyNotBegin_1 : decode cX10_whyNotBegin 1 = .ok (.getfield 37, 3) := by decide +kernel
theorem dX10_whyNotBegin_4 : decode cX10_whyNotBegin 4 = .ok (.getfield 129, 3) := by decide +kernel
theorem dX10_whyNotBegin_7 : decode cX10_whyNotBegin 7 = .ok (.istore_n 3, 1) := by decide +kernel
theorem dX10_whyNotBegin_8 : decode cX10_whyNotBegin 8 = .ok (.aload_n 0, 1) := by decide +kernel
theorem dX10_whyNotBegin_9 : decode cX10_whyNotBegin 9 = .ok (.getfield 37, 3) := by decide +kernel
theorem dX10_whyNotBegin_12 : decode cX10_whyNotBegin 12 = .ok (.iload_n 3, 1) := by decide +kernel
theorem dX10_whyNotBegin_13 : decode cX10_whyNotBegin 13 = .ok (.iload_n 1, 1) := by decide +kernel
theorem dX10_whyNotBegin_14 : decode cX10_whyNotBegin 14 = .ok (.invokevirtual 268, 3) := by decide +kernel
theorem dX10_whyNotBegin_17 : decode cX10_whyNotBegin 17 = .ok (.ifCond .ne 5, 3) := by decide +kernel
theorem dX10_whyNotBegin_20 : decode cX10_whyNotBegin 20 = .ok (.iconst 4, 1) := by decide +kernel
theorem dX10_whyNotBegin_21 : decode cX10_whyNotBegin 21 = .ok (.ireturn, 1) := by decide +kernel
theorem dX10_whyNotBegin_22 : decode cX10_whyNotBegin 22 = .ok (.aload_n 0, 1) := by decide +kernel
theorem dX10_whyNotBegin_23 : decode cX10_whyNotBegin 23 = .ok (.getfield 44, 3) := by decide +kernel
theorem dX10_whyNotBegin_26 : decode cX10_whyNotBegin 26 = .ok (.iload_n 1, 1) := by decide +kernel
theorem dX10_whyNotBegin_27 : decode cX10_whyNotBegin 27 = .ok (.invokevirtual 197, 3) := by decide +kernel
theorem dX10_whyNotBegin_30 : decode cX10_whyNotBegin 30 = .ok (.iconst (-1), 1) := by decide +kernel
theorem dX10_whyNotBegin_31 : decode cX10_whyNotBegin 31 = .ok (.if_icmp .eq 5, 3) := by decide +kernel
theorem dX10_whyNotBegin_34 : decode cX10_whyNotBegin 34 = .ok (.iconst 5, 1) := by decide +kernel
theorem dX10_whyNotBegin_35 : decode cX10_whyNotBegin 35 = .ok (.ireturn, 1) := by decide +kernel
theorem dX10_whyNotBegin_36 : decode cX10_whyNotBegin 36 = .ok (.aload_n 0, 1) := by decide +kernel
theorem dX10_whyNotBegin_37 : decode cX10_whyNotBegin 37 = .ok (.getfield 44, 3) := by decide +kernel
theorem dX10_whyNotBegin_40 : decode cX10_whyNotBegin 40 = .ok (.iload_n 1, 1) := by decide +kernel
theorem dX10_whyNotBegin_41 : decode cX10_whyNotBegin 41 = .ok (.iload_n 3, 1) := by decide +kernel
theorem dX10_whyNotBegin_42 : decode cX10_whyNotBegin 42 = .ok (.iload_n 2, 1) := by decide +kernel
theorem dX10_whyNotBegin_43 : decode cX10_whyNotBegin 43 = .ok (.aload_n 0, 1) := by decide +kernel
theorem dX10_whyNotBegin_44 : decode cX10_whyNotBegin 44 = .ok (.getfield 16, 3) := by decide +kernel
theorem dX10_whyNotBegin_47 : decode cX10_whyNotBegin 47 = .ok (.iload_n 3, 1) := by decide +kernel
theorem dX10_whyNotBegin_48 : decode cX10_whyNotBegin 48 = .ok (.iconst 1, 1) := by decide +kernel
theorem dX10_whyNotBegin_49 : decode cX10_whyNotBegin 49 = .ok (.invokevirtual 170, 3) := by decide +kernel
theorem dX10_whyNotBegin_52 : decode cX10_whyNotBegin 52 = .ok (.invokevirtual 317, 3) := by decide +kernel
theorem dX10_whyNotBegin_55 : decode cX10_whyNotBegin 55 = .ok (.ifCond .eq 6, 3) := by decide +kernel
theorem dX10_whyNotBegin_58 : decode cX10_whyNotBegin 58 = .ok (.bipush 6, 2) := by decide +kernel
theorem dX10_whyNotBegin_60 : decode cX10_whyNotBegin 60 = .ok (.ireturn, 1) := by decide +kernel
theorem dX10_whyNotBegin_61 : decode cX10_whyNotBegin 61 = .ok (.aload_n 0, 1) := by decide +kernel
theorem dX10_whyNotBegin_62 : decode cX10_whyNotBegin 62 = .ok (.getfield 44, 3) := by decide +kernel
theorem dX10_whyNotBegin_65 : decode cX10_whyNotBegin 65 = .ok (.getfield 126, 3) := by decide +kernel
theorem dX10_whyNotBegin_68 : decode cX10_whyNotBegin 68 = .ok (.sipush 300, 3) := by decide +kernel
theorem dX10_whyNotBegin_71 : decode cX10_whyNotBegin 71 = .ok (.if_icmp .lt 5, 3) := by decide +kernel
theorem dX10_whyNotBegin_74 : decode cX10_whyNotBegin 74 = .ok (.iconst 3, 1) := by decide +kernel
theorem dX10_whyNotBegin_75 : decode cX10_whyNotBegin 75 = .ok (.ireturn, 1) := by decide +kernel
theorem dX10_whyNotBegin_76 : decode cX10_whyNotBegin 76 = .ok (.aload_n 0, 1) := by decide +kernel
theorem dX10_whyNotBegin_77 : decode cX10_whyNotBegin 77 = .ok (.iload_n 1, 1) := by decide +kernel
theorem dX10_whyNotBegin_78 : decode cX10_whyNotBegin 78 = .ok (.iload_n 2, 1) := by decide +kernel
theorem dX10_whyNotBegin_79 : decode cX10_whyNotBegin 79 = .ok (.invokevirtual 237, 3) := by decide +kernel
theorem dX10_whyNotBegin_82 : decode cX10_whyNotBegin 82 = .ok (.ifCond .eq 6, 3) := by decide +kernel
theorem dX10_whyNotBegin_85 : decode cX10_whyNotBegin 85 = .ok (.bipush 7, 2) := by decide +kernel
theorem dX10_whyNotBegin_87 : decode cX10_whyNotBegin 87 = .ok (.ireturn, 1) := by decide +kernel
theorem dX10_whyNotBegin_88 : decode cX10_whyNotBegin 88 = .ok (.aload_n 0, 1) := by decide +kernel
theorem dX10_whyNotBegin_89 : decode cX10_whyNotBegin 89 = .ok (.getfield 114, 3) := by decide +kernel
theorem dX10_whyNotBegin_92 : decode cX10_whyNotBegin 92 = .ok (.aload_n 0, 1) := by decide +kernel
theorem dX10_whyNotBegin_93 : decode cX10_whyNotBegin 93 = .ok (.iload_n 1, 1) := by decide +kernel
theorem dX10_whyNotBegin_94 : decode cX10_whyNotBegin 94 = .ok (.invokevirtual 240, 3) := by decide +kernel
theorem dX10_whyNotBegin_97 : decode cX10_whyNotBegin 97 = .ok (.if_icmp .ge 8, 3) := by decide +kernel
theorem dX10_whyNotBegin_100 : decode cX10_whyNotBegin 100 = .ok (.bipush 8, 2) := by decide +kernel
theorem dX10_whyNotBegin_102 : decode cX10_whyNotBegin 102 = .ok (.goto 4, 3) := by decide +kernel
theorem dX10_whyNotBegin_105 : decode cX10_whyNotBegin 105 = .ok (.iconst 0, 1) := by decide +kernel
theorem dX10_whyNotBegin_106 : decode cX10_whyNotBegin 106 = .ok (.ireturn, 1) := by decide +kernel
theorem dX10_hasSeen_0 : decode cX10_hasSeen 0 = .ok (.aload_n 0, 1) := by decide +kernel
theorem dX10_hasSeen_1 : decode cX10_hasSeen 1 = .ok (.getfield 58, 3) := by decide +kernel
theorem dX10_hasSeen_4 : decode cX10_hasSeen 4 = .ok (.aload_n 0, 1) := by decide +kernel
theorem dX10_hasSeen_5 : decode cX10_hasSeen 5 = .ok (.getfield 44, 3) := by decide +kernel
theorem dX10_hasSeen_8 : decode cX10_hasSeen 8 = .ok (.iload_n 1, 1) := by decide +kernel
theorem dX10_hasSeen_9 : decode cX10_hasSeen 9 = .ok (.aload_n 0, 1) := by decide +kernel
theorem dX10_hasSeen_10 : decode cX10_hasSeen 10 = .ok (.getfield 37, 3) := by decide +kernel
theorem dX10_hasSeen_13 : decode cX10_hasSeen 13 = .ok (.getfield 129, 3) := by decide +kernel
theorem dX10_hasSeen_16 : decode cX10_hasSeen 16 = .ok (.iload_n 2, 1) := by decide +kernel
theorem dX10_hasSeen_17 : decode cX10_hasSeen 17 = .ok (.aload_n 0, 1) := by decide +kernel
theorem dX10_hasSeen_18 : decode cX10_hasSeen 18 = .ok (.getfield 114, 3) := by decide +kernel
theorem dX10_hasSeen_21 : decode cX10_hasSeen 21 = .ok (.invokevirtual 320, 3) := by decide +kernel
theorem dX10_hasSeen_24 : decode cX10_hasSeen 24 = .ok (.ireturn, 1) := by decide +kernel
theorem dX10_restOver_0 : decode cX10_restOver 0 = .ok (.aload_n 0, 1) := by decide +kernel
theorem dX10_restOver_1 : decode cX10_restOver 1 = .ok (.getfield 44, 3) := by decide +kernel
theorem dX10_restOver_4 : decode cX10_restOver 4 = .ok (.iload_n 1, 1) := by decide +kernel
theorem dX10_restOver_5 : decode cX10_restOver 5 = .ok (.aload_n 0, 1) := by decide +kernel
theorem dX10_restOver_6 : decode cX10_restOver 6 = .ok (.getfield 37, 3) := by decide +kernel
theorem dX10_restOver_9 : decode cX10_restOver 9 = .ok (.getfield 129, 3) := by decide +kernel
theorem dX10_restOver_12 : decode cX10_restOver 12 = .ok (.invokevirtual 323, 3) := by decide +kernel
theorem dX10_restOver_15 : decode cX10_restOver 15 = .ok (.istore_n 2, 1) := by decide +kernel
theorem dX10_restOver_16 : decode cX10_restOver 16 = .ok (.iload_n 2, 1) := by decide +kernel
theorem dX10_restOver_17 : decode cX10_restOver 17 = .ok (.iconst (-1), 1) := by decide +kernel
theorem dX10_restOver_18 : decode cX10_restOver 18 = .ok (.if_icmp .ne 7, 3) := by decide +kernel
theorem dX10_restOver_21 : decode cX10_restOver 21 = .ok (.iconst 0, 1) := by decide +kernel
theorem dX10_restOver_22 : decode cX10_restOver 22 = .ok (.goto 20, 3) := by decide +kernel
theorem dX10_restOver_25 : decode cX10_restOver 25 = .ok (.iload_n 2, 1) := by decide +kernel
theorem dX10_restOver_26 : decode cX10_restOver 26 = .ok (.aload_n 0, 1) := by decide +kernel
theorem dX10_restOver_27 : decode cX10_restOver 27 = .ok (.getfield 16, 3) := by decide +kernel
theorem dX10_restOver_30 : decode cX10_restOver 30 = .ok (.aload_n 0, 1) := by decide +kernel
theorem dX10_restOver_31 : decode cX10_restOver 31 = .ok (.getfield 37, 3) := by decide +kernel
theorem dX10_restOver_34 : decode cX10_restOver 34 = .ok (.getfield 129, 3) := by decide +kernel
theorem dX10_restOver_37 : decode cX10_restOver 37 = .ok (.iconst 3, 1) := by decide +kernel
theorem dX10_restOver_38 : decode cX10_restOver 38 = .ok (.invokevirtual 170, 3) := by decide +kernel
theorem dX10_restOver_41 : decode cX10_restOver 41 = .ok (.iadd, 1) := by decide +kernel
theorem dX10_restOver_42 : decode cX10_restOver 42 = .ok (.ireturn, 1) := by decide +kernel
